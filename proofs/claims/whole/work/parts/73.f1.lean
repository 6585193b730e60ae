theorem dX10_refuseNoSuch_0 : decode cX10_refuseNoSuch 0 = .ok (.aload_n 0, 1) := by decide +kernel
theorem dX10_refuseNoSuch_1 : decode cX10_refuseNoSuch 1 = .ok (.dup, 1) := by decide +kernel
theorem dX10_refuseNoSuch_2 : decode cX10_refuseNoSuch 2 = .ok (.getfield 92, 3) := by decide +kernel
theorem dX10_refuseNoSuch_5 : decode cX10_refuseNoSuch 5 = .ok (.iconst 1, 1) := by decide +kernel
theorem dX10_refuseNoSuch_6 : decode cX10_refuseNoSuch 6 = .ok (.iadd, 1) := by decide +kernel
theorem dX10_refuseNoSuch_7 : decode cX10_refuseNoSuch 7 = .ok (.putfield 92, 3) := by decide +kernel
theorem dX10_refuseNoSuch_10 : decode cX10_refuseNoSuch 10 = .ok (.new 421, 3) := by decide +kernel
theorem dX10_refuseNoSuch_13 : decode cX10_refuseNoSuch 13 = .ok (.dup, 1) := by decide +kernel
theorem dX10_refuseNoSuch_14 : decode cX10_refuseNoSuch 14 = .ok (.ldc_w 423, 3) := by decide +kernel
theorem dX10_refuseNoSuch_17 : decode cX10_refuseNoSuch 17 = .ok (.invokespecial 425, 3) := by decide +kernel
theorem dX10_refuseNoSuch_20 : decode cX10_refuseNoSuch 20 = .ok (.athrow, 1) := by decide +kernel
set_option maxHeartbeats 4000000 in
set_option maxRecDepth 100000 in
theorem tX10_refuseNoSuch {l : Launch} {g : yG} {n : Nat} {σ : yM} (hlt : l.stackTraces = false) (hn : 172 ≤ n)  : yMX l g yX10_refuseNoSuch cX10_refuseNoSuch 1 none (rmA 6 1 6) [yR g 0] (SC g) n σ (SC g) (fun _ _ _ => False) (fun E n' σ' => E = eN ∧ n ≤ n' ∧ σ' = yset σ 0 14 (σ 0 14 + 1)) := by
  refine y_startX (by decide) (Nat.le_of_ble_eq_true rfl) (fun X0 hX => ?_)
  have hF := hX.1
  show yV X0 g 1 (yQX X0 g (SC g) (fun _ _ _ => False) (fun E n' σ' => E = eN ∧ n ≤ n' ∧ σ' = yset σ 0 14 (σ 0 14 + 1)) (rmA 6 1 6)) (SC g) n σ 0 0 0 [(0, yR g 0)] []
  refine y_aload_n (pc := 0) hF dX10_refuseNoSuch_0 0 rfl ?_
  refine y_dup (pc := 1) hF dX10_refuseNoSuch_1 rfl ?_
  refine y_get (pc := 2) (ci := 10) hF dX10_refuseNoSuch_2 (by omega) rfl rfl rfl iX10 14 (by decide) w_501 rfl ?_
  refine y_iconst (pc := 5) hF dX10_refuseNoSuch_5 ?_
  refine y_iadd (pc := 6) hF dX10_refuseNoSuch_6 ?_
  refine y_putf (pc := 7) (ci := 10) (σ' := yset σ 0 14 ((σ 0 14) + 1)) (sch' := (SC g)) hF dX10_refuseNoSuch_7 (by omega) rfl rfl rfl iX10 14 (by decide) w_501 tyX10 tyX10_ok nmX10 rfl rfl rfl rfl (Nat.le_of_ble_eq_true rfl) rfl (y_ps rfl) (fun k' h => ⟨yset_n h, rfl⟩) ?_
  exact y_throwN (pc := 10) (sch' := SC g) hX hlt dX10_refuseNoSuch_10 dX10_refuseNoSuch_13 dX10_refuseNoSuch_14 dX10_refuseNoSuch_17 dX10_refuseNoSuch_20 w_764 w_104 ⟨Nat.le_of_ble_eq_true rfl, Nat.le_of_ble_eq_true rfl, Nat.le_of_ble_eq_true rfl, Nat.le_of_ble_eq_true rfl⟩ (sc_none hn) (fun n' zn => ⟨rfl, zn, rfl⟩)

theorem dX10_demand_0 : decode cX10_demand 0 = .ok (.iload_n 1, 1) := by decide +kernel
theorem dX10_demand_1 : decode cX10_demand 1 = .ok (.ifCond .ne 24, 3) := by decide +kernel
theorem dX10_demand_4 : decode cX10_demand 4 = .ok (.aload_n 0, 1) := by decide +kernel
theorem dX10_demand_5 : decode cX10_demand 5 = .ok (.dup, 1) := by decide +kernel
theorem dX10_demand_6 : decode cX10_demand 6 = .ok (.getfield 96, 3) := by decide +kernel
theorem dX10_demand_9 : decode cX10_demand 9 = .ok (.iconst 1, 1) := by decide +kernel
theorem dX10_demand_10 : decode cX10_demand 10 = .ok (.iadd, 1) := by decide +kernel
theorem dX10_demand_11 : decode cX10_demand 11 = .ok (.putfield 96, 3) := by decide +kernel
theorem dX10_demand_14 : decode cX10_demand 14 = .ok (.new 428, 3) := by decide +kernel
theorem dX10_demand_17 : decode cX10_demand 17 = .ok (.dup, 1) := by decide +kernel
theorem dX10_demand_18 : decode cX10_demand 18 = .ok (.ldc_w 430, 3) := by decide +kernel
theorem dX10_demand_21 : decode cX10_demand 21 = .ok (.invokespecial 432, 3) := by decide +kernel
theorem dX10_demand_24 : decode cX10_demand 24 = .ok (.athrow, 1) := by decide +kernel
theorem dX10_demand_25 : decode cX10_demand 25 = .ok (.return_, 1) := by decide +kernel
set_option maxHeartbeats 4000000 in
set_option maxRecDepth 100000 in
theorem tX10_demand {l : Launch} {g : yG} {n : Nat} {σ : yM} (hlt : l.stackTraces = false) (hn : 172 ≤ n) (b : Bool) : yMX l g yX10_demand cX10_demand 2 none (rmA 6 1 6) [yR g 0, yI (bi b)] (SC g) n σ (SC g) (yPv (fun n' σ' => n' = n ∧ σ' = σ ∧ b = true)) (fun E n' σ' => E = eA ∧ n ≤ n' ∧ b = false ∧ σ' = yset σ 0 15 (σ 0 15 + 1)) := by
  refine y_startX (by decide) (Nat.le_of_ble_eq_true rfl) (fun X0 hX => ?_)
  have hF := hX.1
  show yV X0 g 2 (yQX X0 g (SC g) (yPv (fun n' σ' => n' = n ∧ σ' = σ ∧ b = true)) (fun E n' σ' => E = eA ∧ n ≤ n' ∧ b = false ∧ σ' = yset σ 0 15 (σ 0 15 + 1)) (rmA 6 1 6)) (SC g) n σ 0 0 0 [(0, yR g 0), (1, yI (bi b))] []
  refine y_iload_n (pc := 0) hF dX10_demand_0 1 rfl ?_
  refine y_if_ne (pc := 1) hF dX10_demand_1 25 rfl bi_r (fun zc1 => ?_) (fun zc1 => ?_)
  · replace zc1 := bi_n0.mp zc1
    exact y_retX (y_vret (pc := 25) hF dX10_demand_25 (Nat.le_of_ble_eq_true rfl) (Nat.le_of_ble_eq_true rfl) ⟨rfl, rfl, rfl, zc1⟩)
  · replace zc1 := bi_0.mp zc1
    refine y_aload_n (pc := 4) hF dX10_demand_4 0 rfl ?_
    refine y_dup (pc := 5) hF dX10_demand_5 rfl ?_
    refine y_get (pc := 6) (ci := 10) hF dX10_demand_6 (by omega) rfl rfl rfl iX10 15 (by decide) w_502 rfl ?_
    refine y_iconst (pc := 9) hF dX10_demand_9 ?_
    refine y_iadd (pc := 10) hF dX10_demand_10 ?_
    refine y_putf (pc := 11) (ci := 10) (σ' := yset σ 0 15 ((σ 0 15) + 1)) (sch' := (SC g)) hF dX10_demand_11 (by omega) rfl rfl rfl iX10 15 (by decide) w_502 tyX10 tyX10_ok nmX10 rfl rfl rfl rfl (Nat.le_of_ble_eq_true rfl) rfl (y_ps rfl) (fun k' h => ⟨yset_n h, rfl⟩) ?_
    exact y_throwA (pc := 14) (sch' := SC g) hX hlt dX10_demand_14 dX10_demand_17 dX10_demand_18 dX10_demand_21 dX10_demand_24 w_615 w_102 ⟨Nat.le_of_ble_eq_true rfl, Nat.le_of_ble_eq_true rfl, Nat.le_of_ble_eq_true rfl, Nat.le_of_ble_eq_true rfl⟩ (sc_none hn) (fun n' zn => ⟨rfl, zn, zc1, rfl⟩)

theorem dX10_demandDot_0 : decode cX10_demandDot 0 = .ok (.aload_n 0, 1) := by decide +kernel
theorem dX10_demandDot_1 : decode cX10_demandDot 1 = .ok (.getfield 26, 3) := by decide +kernel
theorem dX10_demandDot_4 : decode cX10_demandDot 4 = .ok (.iload_n 1, 1) := by decide +kernel
theorem dX10_demandDot_5 : decode cX10_demandDot 5 = .ok (.iload_n 2, 1) := by decide +kernel
theorem dX10_demandDot_6 : decode cX10_demandDot 6 = .ok (.invokevirtual 381, 3) := by decide +kernel
theorem dX10_demandDot_9 : decode cX10_demandDot 9 = .ok (.ifCond .ne 7, 3) := by decide +kernel
theorem dX10_demandDot_12 : decode cX10_demandDot 12 = .ok (.aload_n 0, 1) := by decide +kernel
theorem dX10_demandDot_13 : decode cX10_demandDot 13 = .ok (.invokevirtual 365, 3) := by decide +kernel
theorem dX10_demandDot_16 : decode cX10_demandDot 16 = .ok (.return_, 1) := by decide +kernel
set_option maxHeartbeats 4000000 in
set_option maxRecDepth 100000 in
theorem tX10_demandDot {l : Launch} {g : yG} {n : Nat} {σ : yM} (hlt : l.stackTraces = false) (hn : 172 ≤ n) (w h : Int) (T S F P O : Int → Int → Int) (hA : rC σ 5 w h T S F P O) (x y : Int) (hx : -2147483648 ≤ x ∧ x < 2147483648) (hy : -2147483648 ≤ y ∧ y < 2147483648) : yMX l g yX10_demandDot cX10_demandDot 3 none (rmA 7 1 6) [yR g 0, yI x, yI y] (SC g) n σ (SC g) (yPv (fun n' σ' => n' = n ∧ σ' = σ ∧ sIn w h x y = true)) (fun E n' σ' => E = eN ∧ n ≤ n' ∧ sIn w h x y = false ∧ σ' = yset σ 0 14 (σ 0 14 + 1)) := by
  obtain ⟨hw1, hw2, hw3, hw4⟩ := id hA.1.1
  refine y_startX (by decide) (Nat.le_of_ble_eq_true rfl) (fun X0 hX => ?_)
  have hF := hX.1
  show yV X0 g 3 (yQX X0 g (SC g) (yPv (fun n' σ' => n' = n ∧ σ' = σ ∧ sIn w h x y = true)) (fun E n' σ' => E = eN ∧ n ≤ n' ∧ sIn w h x y = false ∧ σ' = yset σ 0 14 (σ 0 14 + 1)) (rmA 7 1 6)) (SC g) n σ 0 0 0 [(0, yR g 0), (1, yI x), (2, yI y)] []
  refine y_aload_n (pc := 0) hF dX10_demandDot_0 0 rfl ?_
  refine y_get (pc := 1) (ci := 10) hF dX10_demandDot_1 (by omega) rfl rfl rfl iX10 2 (by decide) w_489 rfl ?_
  refine y_iload_n (pc := 4) hF dX10_demandDot_4 1 rfl ?_
  refine y_iload_n (pc := 5) hF dX10_demandDot_5 2 rfl ?_
  have zz6 := y_rV (pc := 6) hF (tX4_has (n := n) (σ := σ) 5 w h T S F P O hn pic_5 hA x y hx hy) dX10_demandDot_6 (by have := pic_5.1; omega) (pic_5.2 g).1 rfl rfl w_756 qX4_has rfl ⟨Nat.le_of_ble_eq_true rfl, Nat.le_of_ble_eq_true rfl⟩ ⟨Nat.le_of_ble_eq_true rfl, Nat.le_of_ble_eq_true rfl⟩ (Nat.le_of_ble_eq_true rfl) rfl (rest := []) (cells := 0) (slots := 0) (lv := [(0, yR g 0), (1, yI x), (2, yI y)])
  refine y_cp (zz6) ?_
  refine y_if_ne (pc := 9) hF dX10_demandDot_9 16 rfl bi_r (fun zc9 => ?_) (fun zc9 => ?_)
  · replace zc9 := bi_n0.mp zc9
    exact y_retX (y_vret (pc := 16) hF dX10_demandDot_16 (Nat.le_of_ble_eq_true rfl) (Nat.le_of_ble_eq_true rfl) ⟨rfl, rfl, rfl, zc9⟩)
  · replace zc9 := bi_0.mp zc9
    refine y_aload_n (pc := 12) hF dX10_demandDot_12 0 rfl ?_
    exact y_contX hX (y_rVX (pc := 13) hX (tX10_refuseNoSuch hlt hn) dX10_demandDot_13 (by omega) rfl rfl rfl w_760 qX10_refuseNoSuch rfl ⟨Nat.le_of_ble_eq_true rfl, Nat.le_of_ble_eq_true rfl⟩ ⟨Nat.le_of_ble_eq_true rfl, Nat.le_of_ble_eq_true rfl⟩ (Nat.le_of_ble_eq_true rfl) rfl) rfl rfl ⟨Nat.le_of_ble_eq_true rfl, Nat.le_of_ble_eq_true rfl⟩ (fun E n' σ' zx => ⟨zx.1, zx.2.1, zc9, zx.2.2⟩) (fun r n' σ' zp => absurd zp id)

theorem dX10_demandPart_0 : decode cX10_demandPart 0 = .ok (.aload_n 0, 1) := by decide +kernel
theorem dX10_demandPart_1 : decode cX10_demandPart 1 = .ok (.getfield 70, 3) := by decide +kernel
theorem dX10_demandPart_4 : decode cX10_demandPart 4 = .ok (.aload_n 0, 1) := by decide +kernel
theorem dX10_demandPart_5 : decode cX10_demandPart 5 = .ok (.getfield 26, 3) := by decide +kernel
theorem dX10_demandPart_8 : decode cX10_demandPart 8 = .ok (.invokevirtual 198, 3) := by decide +kernel
theorem dX10_demandPart_11 : decode cX10_demandPart 11 = .ok (.istore_n 2, 1) := by decide +kernel
theorem dX10_demandPart_12 : decode cX10_demandPart 12 = .ok (.iload_n 1, 1) := by decide +kernel
theorem dX10_demandPart_13 : decode cX10_demandPart 13 = .ok (.ifCond .lt 8, 3) := by decide +kernel
theorem dX10_demandPart_16 : decode cX10_demandPart 16 = .ok (.iload_n 1, 1) := by decide +kernel
theorem dX10_demandPart_17 : decode cX10_demandPart 17 = .ok (.iload_n 2, 1) := by decide +kernel
theorem dX10_demandPart_18 : decode cX10_demandPart 18 = .ok (.if_icmp .lt 7, 3) := by decide +kernel
theorem dX10_demandPart_21 : decode cX10_demandPart 21 = .ok (.aload_n 0, 1) := by decide +kernel
theorem dX10_demandPart_22 : decode cX10_demandPart 22 = .ok (.invokevirtual 365, 3) := by decide +kernel
theorem dX10_demandPart_25 : decode cX10_demandPart 25 = .ok (.return_, 1) := by decide +kernel
set_option maxHeartbeats 4000000 in
set_option maxRecDepth 100000 in
theorem tX10_demandPart {l : Launch} {g : yG} {n : Nat} {σ : yM} (hlt : l.stackTraces = false) (hn : 172 ≤ n) (w h : Int) (T S F P O : Int → Int → Int) (hA : rC σ 5 w h T S F P O) (p : Int) (hp : -2147483648 ≤ p ∧ p < 2147483648) : yMX l g yX10_demandPart cX10_demandPart 3 none (rmA 7 1 6) [yR g 0, yI p] (SC g) n σ (SC g) (yPv (fun n' σ' => n' = n ∧ fc 128 130 σ σ' ∧ rPc σ' w h (sPt w h T).1 ∧ (0 ≤ p ∧ p < (sPt w h T).2))) (fun E n' σ' => E = eN ∧ n ≤ n' ∧ ¬ (0 ≤ p ∧ p < (sPt w h T).2) ∧ ∃ τ : yM, fc 128 130 σ τ ∧ σ' = yset τ 0 14 (σ 0 14 + 1)) := by
  obtain ⟨hw1, hw2, hw3, hw4⟩ := id hA.1.1
  have zsp := sPt_bd (w := w) (h := h) (T := T) ⟨hw1, hw2⟩ ⟨hw3, hw4⟩
  have z128 : 128 < n := by omega
  have z129 : 129 < n := by omega
  have z130 : 130 < n := by omega
  refine y_startX (by decide) (Nat.le_of_ble_eq_true rfl) (fun X0 hX => ?_)
  have hF := hX.1
  show yV X0 g 3 (yQX X0 g (SC g) (yPv (fun n' σ' => n' = n ∧ fc 128 130 σ σ' ∧ rPc σ' w h (sPt w h T).1 ∧ (0 ≤ p ∧ p < (sPt w h T).2))) (fun E n' σ' => E = eN ∧ n ≤ n' ∧ ¬ (0 ≤ p ∧ p < (sPt w h T).2) ∧ ∃ τ : yM, fc 128 130 σ τ ∧ σ' = yset τ 0 14 (σ 0 14 + 1)) (rmA 7 1 6)) (SC g) n σ 0 0 0 [(0, yR g 0), (1, yI p)] []
  refine y_aload_n (pc := 0) hF dX10_demandPart_0 0 rfl ?_
  refine y_get (pc := 1) (ci := 10) hF dX10_demandPart_1 (by omega) rfl rfl rfl iX10 9 (by decide) w_496 rfl ?_
  refine y_aload_n (pc := 4) hF dX10_demandPart_4 0 rfl ?_
  refine y_get (pc := 5) (ci := 10) hF dX10_demandPart_5 (by omega) rfl rfl rfl iX10 2 (by decide) w_489 rfl ?_
  refine y_ci (y_rV (pc := 8) hF (tX3_number 5 w h T S F P O hn pic_5 hA (by omega)) dX10_demandPart_8 z128 rfl rfl rfl w_997 qX3_number rfl ⟨Nat.le_of_ble_eq_true rfl, Nat.le_of_ble_eq_true rfl⟩ ⟨Nat.le_of_ble_eq_true rfl, Nat.le_of_ble_eq_true rfl⟩ (Nat.le_of_ble_eq_true rfl) rfl) rfl rfl (fun r8 n' σ8 zp8 => ?_)
  obtain ⟨zn8, zv8, zp8⟩ := zp8
  have zn8 := zn8.symm
  subst zn8
  subst zv8
  refine y_istore_n (pc := 11) (lv' := [(0, yR g 0), (1, yI p), (2, yI ((sPt w h T).2))]) hF dX10_demandPart_11 (by decide) rfl rfl ?_
  refine y_iload_n (pc := 12) hF dX10_demandPart_12 1 rfl ?_
  refine y_if_lt (pc := 13) hF dX10_demandPart_13 21 rfl (by omega) (fun zc13 => ?_) (fun zc13 => ?_)
  · skip
    refine y_aload_n (pc := 21) hF dX10_demandPart_21 0 rfl ?_
    exact y_contX hX (y_rVX (pc := 22) hX (tX10_refuseNoSuch hlt hn) dX10_demandPart_22 (by omega) rfl rfl rfl w_760 qX10_refuseNoSuch rfl ⟨Nat.le_of_ble_eq_true rfl, Nat.le_of_ble_eq_true rfl⟩ ⟨Nat.le_of_ble_eq_true rfl, Nat.le_of_ble_eq_true rfl⟩ (Nat.le_of_ble_eq_true rfl) rfl) rfl rfl ⟨Nat.le_of_ble_eq_true rfl, Nat.le_of_ble_eq_true rfl⟩ (fun E n' σ' zx => ⟨zx.1, zx.2.1, by omega, σ8, zp8.1, by rw [zx.2.2, zp8.1 0 (by omega)]⟩) (fun r n' σ' zp => absurd zp id)
  · skip
    refine y_iload_n (pc := 16) hF dX10_demandPart_16 1 rfl ?_
    refine y_iload_n (pc := 17) hF dX10_demandPart_17 2 rfl ?_
    refine y_icmp_lt (pc := 18) hF dX10_demandPart_18 25 rfl (by omega) (by omega) (fun zc18 => ?_) (fun zc18 => ?_)
    · skip
      exact y_retX (y_vret (pc := 25) hF dX10_demandPart_25 (Nat.le_of_ble_eq_true rfl) (Nat.le_of_ble_eq_true rfl) ⟨rfl, rfl, zp8.1, zp8.2, by omega⟩)
    · skip
      refine y_aload_n (pc := 21) hF dX10_demandPart_21 0 rfl ?_
      exact y_contX hX (y_rVX (pc := 22) hX (tX10_refuseNoSuch hlt hn) dX10_demandPart_22 (by omega) rfl rfl rfl w_760 qX10_refuseNoSuch rfl ⟨Nat.le_of_ble_eq_true rfl, Nat.le_of_ble_eq_true rfl⟩ ⟨Nat.le_of_ble_eq_true rfl, Nat.le_of_ble_eq_true rfl⟩ (Nat.le_of_ble_eq_true rfl) rfl) rfl rfl ⟨Nat.le_of_ble_eq_true rfl, Nat.le_of_ble_eq_true rfl⟩ (fun E n' σ' zx => ⟨zx.1, zx.2.1, by omega, σ8, zp8.1, by rw [zx.2.2, zp8.1 0 (by omega)]⟩) (fun r n' σ' zp => absurd zp id)
