theorem dX10_startTrial_0 : decode cX10_startTrial 0 = .ok (.aload_n 0, 1) := by decide +kernel
theorem dX10_startTrial_1 : decode cX10_startTrial 1 = .ok (.getfield 83, 3) := by decide +kernel
theorem dX10_startTrial_4 : decode cX10_startTrial 4 = .ok (.aload_n 0, 1) := by decide +kernel
theorem dX10_startTrial_5 : decode cX10_startTrial 5 = .ok (.getfield 19, 3) := by decide +kernel
theorem dX10_startTrial_8 : decode cX10_startTrial 8 = .ok (.invokevirtual 394, 3) := by decide +kernel
theorem dX10_startTrial_11 : decode cX10_startTrial 11 = .ok (.aload_n 0, 1) := by decide +kernel
theorem dX10_startTrial_12 : decode cX10_startTrial 12 = .ok (.getfield 86, 3) := by decide +kernel
theorem dX10_startTrial_15 : decode cX10_startTrial 15 = .ok (.aload_n 0, 1) := by decide +kernel
theorem dX10_startTrial_16 : decode cX10_startTrial 16 = .ok (.getfield 26, 3) := by decide +kernel
theorem dX10_startTrial_19 : decode cX10_startTrial 19 = .ok (.invokevirtual 177, 3) := by decide +kernel
theorem dX10_startTrial_22 : decode cX10_startTrial 22 = .ok (.aload_n 0, 1) := by decide +kernel
theorem dX10_startTrial_23 : decode cX10_startTrial 23 = .ok (.getfield 89, 3) := by decide +kernel
theorem dX10_startTrial_26 : decode cX10_startTrial 26 = .ok (.invokevirtual 134, 3) := by decide +kernel
theorem dX10_startTrial_29 : decode cX10_startTrial 29 = .ok (.return_, 1) := by decide +kernel
set_option maxHeartbeats 4000000 in
set_option maxRecDepth 100000 in
theorem tX10_startTrial {l : Launch} {g : yG} {n : Nat} {σ : yM} (hn : 172 ≤ n) (w h : Int) (T S F P O : Int → Int → Int) (nf df nl : Int) (lg : Int → Int → Int) (s re fo ra tu we sh : Int) (H : List aX) (ht : Bool) (K : Int → Int → Int) (tl : Int) (tb : Int → Int) (fa r1 r2 N : Int) (hV : cV σ (w, h, (T, S, F, P, O, nf, df, nl, lg), (s, re, fo, ra, tu, we, sh), H, ht, K, tl, tb, fa, r1, r2)) (hW : aW N (w, h, (T, S, F, P, O, nf, df, nl, lg), (s, re, fo, ra, tu, we, sh), H, ht, K, tl, tb, fa, r1, r2))  : yMet l g yX10_startTrial cX10_startTrial 1 none (rmL 3) [yR g 0] (SC g) n σ (SC g) (yPv (fun n' σ' => n' = n ∧ fc 146 154 σ σ' ∧ rS σ' 146 s re fo ra tu we sh ∧ rC σ' 147 w h T S F P O ∧ rJ σ' 153 0 0 0 (fun _ _ => 0))) := by
  obtain ⟨⟨hA, hJ⟩, hS, hH, ⟨hb1, hb2⟩, ⟨ht1, ht2⟩, hfa, hr1, hr2, hT⟩ := id hV
  obtain ⟨hw1, hw2, hw3, hw4⟩ := id hA.1.1
  obtain ⟨hs1, hs2, hs3, hs4, hs5, hs6, hs7⟩ := id hS.2
  have z128 : 128 < n := by omega
  have z129 : 129 < n := by omega
  have z130 : 130 < n := by omega
  refine y_start (by decide) (Nat.le_of_ble_eq_true rfl) (fun X0 hF => ?_)
  show yV X0 g 1 (yQ X0 g (SC g) (yPv (fun n' σ' => n' = n ∧ fc 146 154 σ σ' ∧ rS σ' 146 s re fo ra tu we sh ∧ rC σ' 147 w h T S F P O ∧ rJ σ' 153 0 0 0 (fun _ _ => 0))) (rmL 3)) (SC g) n σ 0 0 0 [(0, yR g 0)] []
  refine y_aload_n (pc := 0) hF dX10_startTrial_0 0 rfl ?_
  refine y_get (pc := 1) (ci := 10) hF dX10_startTrial_1 (by omega) rfl rfl rfl iX10 11 (by decide) w_498 rfl ?_
  refine y_aload_n (pc := 4) hF dX10_startTrial_4 0 rfl ?_
  refine y_get (pc := 5) (ci := 10) hF dX10_startTrial_5 (by omega) rfl rfl rfl iX10 1 (by decide) w_488 rfl ?_
  refine y_cv (y_rV (pc := 8) hF (tX7_copyFrom 146 4 hn set_146 set_4 (by omega)) dX10_startTrial_8 (by omega) rfl rfl rfl w_1145 qX7_copyFrom rfl ⟨Nat.le_of_ble_eq_true rfl, Nat.le_of_ble_eq_true rfl⟩ ⟨Nat.zero_le _, Nat.zero_le _⟩ (Nat.le_of_ble_eq_true rfl) rfl) rfl rfl (fun n' σ8 zp8 => ?_)
  obtain ⟨zn8, zp8⟩ := zp8
  have zn8 := zn8.symm
  subst zn8
  have zA_σ8 := hA.fc (by omega) zp8.1
  have zS8 := zp8.2 _ _ _ _ _ _ _ hS
  refine y_aload_n (pc := 11) hF dX10_startTrial_11 0 rfl ?_
  refine y_get (pc := 12) (ci := 10) hF dX10_startTrial_12 (by omega) rfl rfl rfl iX10 12 (by decide) w_499 rfl ?_
  refine y_aload_n (pc := 15) hF dX10_startTrial_15 0 rfl ?_
  refine y_get (pc := 16) (ci := 10) hF dX10_startTrial_16 (by omega) rfl rfl rfl iX10 2 (by decide) w_489 rfl ?_
  refine y_cv (y_rV (pc := 19) hF (tX4_copyFrom 147 5 w h T S F P O hn pic_147 pic_5 zA_σ8 (by omega)) dX10_startTrial_19 (by have := pic_147.1; omega) (pic_147.2 g).1 rfl rfl w_556 qX4_copyFrom rfl ⟨Nat.le_of_ble_eq_true rfl, Nat.le_of_ble_eq_true rfl⟩ ⟨Nat.zero_le _, Nat.zero_le _⟩ (Nat.le_of_ble_eq_true rfl) rfl) rfl rfl (fun n' σ19 zp19 => ?_)
  obtain ⟨zn19, zp19⟩ := zp19
  have zn19 := zn19.symm
  subst zn19
  have zS19 := zS8.fc (by omega) zp19.1
  refine y_aload_n (pc := 22) hF dX10_startTrial_22 0 rfl ?_
  refine y_get (pc := 23) (ci := 10) hF dX10_startTrial_23 (by omega) rfl rfl rfl iX10 13 (by decide) w_500 rfl ?_
  refine y_cv (y_rV (pc := 26) hF (tX2_clear 153 hn jou_153) dX10_startTrial_26 (by omega) rfl rfl rfl w_713 qX2_clear rfl ⟨Nat.le_of_ble_eq_true rfl, Nat.le_of_ble_eq_true rfl⟩ ⟨Nat.zero_le _, Nat.zero_le _⟩ (Nat.le_of_ble_eq_true rfl) rfl) rfl rfl (fun n' σ' zp26 => ?_)
  obtain ⟨zn26, rfl⟩ := zp26
  have zn26 := zn26.symm
  subst zn26
  obtain ⟨τ1, hτ1⟩ : ∃ s, s = yset (yset σ19 153 0 0) 153 1 0 := ⟨_, rfl⟩
  rw [← hτ1]
  have zt1 : ∀ c : Nat, c ≠ 153 → τ1 c = σ19 c := fun c hc => by rw [hτ1, yset_n hc, yset_n hc]
  exact y_vret (pc := 29) hF dX10_startTrial_29 (Nat.zero_le _) (Nat.zero_le _) ⟨rfl, rfl, fun c a => by rw [zt1 c (by omega), zp19.1 c (by omega)]; exact zp8.1 c (by omega), zS19.fr (zt1 146 (by omega)), zp19.2.fr (fun c a b => zt1 c (by omega)), rJ.zero (by rw [hτ1, yset_o (by omega), yset_e]) (by rw [hτ1, yset_e])⟩

theorem dX10_leastSureFilledIn_0 : decode cX10_leastSureFilledIn 0 = .ok (.iconst (-1), 1) := by decide +kernel
theorem dX10_leastSureFilledIn_1 : decode cX10_leastSureFilledIn 1 = .ok (.istore_n 1, 1) := by decide +kernel
theorem dX10_leastSureFilledIn_2 : decode cX10_leastSureFilledIn 2 = .ok (.iconst 0, 1) := by decide +kernel
theorem dX10_leastSureFilledIn_3 : decode cX10_leastSureFilledIn 3 = .ok (.istore_n 2, 1) := by decide +kernel
theorem dX10_leastSureFilledIn_4 : decode cX10_leastSureFilledIn 4 = .ok (.iload_n 2, 1) := by decide +kernel
theorem dX10_leastSureFilledIn_5 : decode cX10_leastSureFilledIn 5 = .ok (.aload_n 0, 1) := by decide +kernel
theorem dX10_leastSureFilledIn_6 : decode cX10_leastSureFilledIn 6 = .ok (.invokevirtual 181, 3) := by decide +kernel
theorem dX10_leastSureFilledIn_9 : decode cX10_leastSureFilledIn 9 = .ok (.if_icmp .ge 40, 3) := by decide +kernel
theorem dX10_leastSureFilledIn_12 : decode cX10_leastSureFilledIn 12 = .ok (.aload_n 0, 1) := by decide +kernel
theorem dX10_leastSureFilledIn_13 : decode cX10_leastSureFilledIn 13 = .ok (.getfield 236, 3) := by decide +kernel
theorem dX10_leastSureFilledIn_16 : decode cX10_leastSureFilledIn 16 = .ok (.iload_n 2, 1) := by decide +kernel
theorem dX10_leastSureFilledIn_17 : decode cX10_leastSureFilledIn 17 = .ok (.iaload, 1) := by decide +kernel
theorem dX10_leastSureFilledIn_18 : decode cX10_leastSureFilledIn 18 = .ok (.ifCond .le 25, 3) := by decide +kernel
theorem dX10_leastSureFilledIn_21 : decode cX10_leastSureFilledIn 21 = .ok (.iload_n 1, 1) := by decide +kernel
theorem dX10_leastSureFilledIn_22 : decode cX10_leastSureFilledIn 22 = .ok (.iconst (-1), 1) := by decide +kernel
theorem dX10_leastSureFilledIn_23 : decode cX10_leastSureFilledIn 23 = .ok (.if_icmp .eq 13, 3) := by decide +kernel
theorem dX10_leastSureFilledIn_26 : decode cX10_leastSureFilledIn 26 = .ok (.aload_n 0, 1) := by decide +kernel
theorem dX10_leastSureFilledIn_27 : decode cX10_leastSureFilledIn 27 = .ok (.getfield 233, 3) := by decide +kernel
theorem dX10_leastSureFilledIn_30 : decode cX10_leastSureFilledIn 30 = .ok (.iload_n 2, 1) := by decide +kernel
theorem dX10_leastSureFilledIn_31 : decode cX10_leastSureFilledIn 31 = .ok (.iaload, 1) := by decide +kernel
theorem dX10_leastSureFilledIn_32 : decode cX10_leastSureFilledIn 32 = .ok (.iload_n 1, 1) := by decide +kernel
theorem dX10_leastSureFilledIn_33 : decode cX10_leastSureFilledIn 33 = .ok (.if_icmp .ge 10, 3) := by decide +kernel
theorem dX10_leastSureFilledIn_36 : decode cX10_leastSureFilledIn 36 = .ok (.aload_n 0, 1) := by decide +kernel
theorem dX10_leastSureFilledIn_37 : decode cX10_leastSureFilledIn 37 = .ok (.getfield 233, 3) := by decide +kernel
theorem dX10_leastSureFilledIn_40 : decode cX10_leastSureFilledIn 40 = .ok (.iload_n 2, 1) := by decide +kernel
theorem dX10_leastSureFilledIn_41 : decode cX10_leastSureFilledIn 41 = .ok (.iaload, 1) := by decide +kernel
theorem dX10_leastSureFilledIn_42 : decode cX10_leastSureFilledIn 42 = .ok (.istore_n 1, 1) := by decide +kernel
theorem dX10_leastSureFilledIn_43 : decode cX10_leastSureFilledIn 43 = .ok (.iinc 2 1, 3) := by decide +kernel
theorem dX10_leastSureFilledIn_46 : decode cX10_leastSureFilledIn 46 = .ok (.goto (-42), 3) := by decide +kernel
theorem dX10_leastSureFilledIn_49 : decode cX10_leastSureFilledIn 49 = .ok (.iload_n 1, 1) := by decide +kernel
theorem dX10_leastSureFilledIn_50 : decode cX10_leastSureFilledIn 50 = .ok (.ireturn, 1) := by decide +kernel
set_option maxHeartbeats 4000000 in
set_option maxRecDepth 100000 in
theorem tX10_leastSureFilledIn {l : Launch} {g : yG} {n : Nat} {σ : yM} (hn : 172 ≤ n) (k : Nat) (w h : Int) (T S F P O : Int → Int → Int) (hP : isPic k) (hA : rC σ k w h T S F P O) : yMet l g yX10_leastSureFilledIn cX10_leastSureFilledIn 3 (some .int) (rmL 2) [yR g k] (SC g) n σ (SC g) (yPp (sLs w h S F) n σ) := by
  obtain ⟨hw1, hw2, hw3, hw4⟩ := id hA.1.1
  have zwh := y_wh ⟨hw1, hw2⟩ ⟨hw3, hw4⟩
  refine y_start (by decide) (Nat.le_of_ble_eq_true rfl) (fun X0 hF => ?_)
  show yV X0 g 3 (yQ X0 g (SC g) (yPp (sLs w h S F) n σ) (rmL 2)) (SC g) n σ 0 0 0 [(0, yR g k)] []
  refine y_iconst (pc := 0) hF dX10_leastSureFilledIn_0 ?_
  refine y_istore_n (pc := 1) (lv' := [(0, yR g k), (1, yI (-1))]) hF dX10_leastSureFilledIn_1 (by decide) rfl rfl ?_
  refine y_iconst (pc := 2) hF dX10_leastSureFilledIn_2 ?_
  refine y_istore_n (pc := 3) (lv' := [(0, yR g k), (1, yI (-1)), (2, yI 0)]) hF dX10_leastSureFilledIn_3 (by decide) rfl rfl ?_
  have zL4 : ∀ (N : Nat) (i c : Int), N = (w * h - i).toNat → ((0 ≤ i ∧ i ≤ w * h) ∧ (-1 ≤ c ∧ c ≤ 1000) ∧ c = fr (fun q i => lsF S F q (i % w) (i / w)) 0 i.toNat (-1)) → yV X0 g 3 (yQ X0 g (SC g) (yPp (sLs w h S F) n σ) (rmL 2)) (SC g) n σ 0 0 4 [(0, yR g k), (1, yI c), (2, yI i)] [] := by
    intro N
    induction N using Nat.strongRecOn with
    | ind N zh4 =>
      intro i c  zN4 zI4
      refine y_iload_n (pc := 4) hF dX10_leastSureFilledIn_4 2 rfl ?_
      refine y_aload_n (pc := 5) hF dX10_leastSureFilledIn_5 0 rfl ?_
      have zz6 := y_rV (pc := 6) hF (tX4_dots (n := n) (σ := σ) k w h T S F P O hn hP hA) dX10_leastSureFilledIn_6 (by have := hP.1; omega) (hP.2 g).1 rfl rfl w_567 qX4_dots rfl ⟨Nat.le_of_ble_eq_true rfl, Nat.le_of_ble_eq_true rfl⟩ ⟨Nat.zero_le _, Nat.zero_le _⟩ (Nat.le_of_ble_eq_true rfl) rfl (rest := [yI i]) (cells := 0) (slots := 0) (lv := [(0, yR g k), (1, yI c), (2, yI i)])
      refine y_cp (zz6) ?_
      refine y_icmp_ge (pc := 9) hF dX10_leastSureFilledIn_9 49 rfl (by omega) (by omega) (fun zc9 => ?_) (fun zc9 => ?_)
      · skip
        refine y_iload_n (pc := 49) hF dX10_leastSureFilledIn_49 1 rfl ?_
        exact y_iret (pc := 50) hF dX10_leastSureFilledIn_50 (Nat.zero_le _) (Nat.zero_le _) ⟨_, rfl, by rw [zI4.2.2, show i = w * h by omega]; exact fr_linI _ (by omega) (by omega) _, rfl, rfl⟩
      · skip
        have zd := y_de (h := h) hw1 zI4.1.1 (by omega)
        have zat := hA.at zI4.1.1 (by omega)
        have za := hA.1.2 (i % w) (i / w) zd.2.1 zd.2.2.1 zd.2.2.2.1 zd.2.2.2.2
        have zi4 : 0 ≤ i ∧ i < (400 : Int) := by omega
        refine y_aload_n (pc := 12) hF dX10_leastSureFilledIn_12 0 rfl ?_
        refine y_getN (pc := 13) (ci := 4) hF dX10_leastSureFilledIn_13 (by have := hP.1; omega) (hP.2 g).1 rfl rfl iX4 4 (by decide) w_230 rfl ?_
        refine y_iload_n (pc := 16) hF dX10_leastSureFilledIn_16 2 rfl ?_
        refine y_iaload (pc := 17) hF dX10_leastSureFilledIn_17 (by have := hP.1; omega) (hP.2 g).2.2.2.1 zi4 (by decide) ?_
        rw [show σ (k + 3) i = F (i % w) (i / w) from zat.2.2.1]
        refine y_if_le (pc := 18) hF dX10_leastSureFilledIn_18 43 rfl (by omega) (fun zc18 => ?_) (fun zc18 => ?_)
        · skip
          refine y_iinc (pc := 43) (lv' := [(0, yR g k), (1, yI c), (2, yI (i + 1))]) hF dX10_leastSureFilledIn_43 2 rfl (by decide) rfl rfl ?_
          refine y_goto (pc := 46) hF dX10_leastSureFilledIn_46 4 rfl ?_
          exact zh4 _ (by omega) (i + 1) (c) rfl ⟨by omega, by omega, by rw [fr_up _ _ _ _ zI4.1.1, ← zI4.2.2, Int.zero_add]; unfold lsF; rw [if_neg (by omega)]⟩
        · skip
          refine y_iload_n (pc := 21) hF dX10_leastSureFilledIn_21 1 rfl ?_
          refine y_iconst (pc := 22) hF dX10_leastSureFilledIn_22 ?_
          refine y_icmp_eq (pc := 23) hF dX10_leastSureFilledIn_23 36 rfl (by omega) (by omega) (fun zc23 => ?_) (fun zc23 => ?_)
          · skip
            refine y_aload_n (pc := 36) hF dX10_leastSureFilledIn_36 0 rfl ?_
            refine y_getN (pc := 37) (ci := 4) hF dX10_leastSureFilledIn_37 (by have := hP.1; omega) (hP.2 g).1 rfl rfl iX4 3 (by decide) w_227 rfl ?_
            refine y_iload_n (pc := 40) hF dX10_leastSureFilledIn_40 2 rfl ?_
            refine y_iaload (pc := 41) hF dX10_leastSureFilledIn_41 (by have := hP.1; omega) (hP.2 g).2.2.1 zi4 (by decide) ?_
            rw [show σ (k + 2) i = S (i % w) (i / w) from zat.2.1]
            refine y_istore_n (pc := 42) (lv' := [(0, yR g k), (1, yI (S (i % w) (i / w))), (2, yI i)]) hF dX10_leastSureFilledIn_42 (by decide) rfl rfl ?_
            refine y_iinc (pc := 43) (lv' := [(0, yR g k), (1, yI (S (i % w) (i / w))), (2, yI (i + 1))]) hF dX10_leastSureFilledIn_43 2 rfl (by decide) rfl rfl ?_
            refine y_goto (pc := 46) hF dX10_leastSureFilledIn_46 4 rfl ?_
            exact zh4 _ (by omega) (i + 1) (S (i % w) (i / w)) rfl ⟨by omega, by omega, by rw [fr_up _ _ _ _ zI4.1.1, ← zI4.2.2, Int.zero_add]; unfold lsF; rw [if_pos (by omega)]⟩
          · skip
            refine y_aload_n (pc := 26) hF dX10_leastSureFilledIn_26 0 rfl ?_
            refine y_getN (pc := 27) (ci := 4) hF dX10_leastSureFilledIn_27 (by have := hP.1; omega) (hP.2 g).1 rfl rfl iX4 3 (by decide) w_227 rfl ?_
            refine y_iload_n (pc := 30) hF dX10_leastSureFilledIn_30 2 rfl ?_
            refine y_iaload (pc := 31) hF dX10_leastSureFilledIn_31 (by have := hP.1; omega) (hP.2 g).2.2.1 zi4 (by decide) ?_
            rw [show σ (k + 2) i = S (i % w) (i / w) from zat.2.1]
            refine y_iload_n (pc := 32) hF dX10_leastSureFilledIn_32 1 rfl ?_
            refine y_icmp_ge (pc := 33) hF dX10_leastSureFilledIn_33 43 rfl (by omega) (by omega) (fun zc33 => ?_) (fun zc33 => ?_)
            · skip
              refine y_iinc (pc := 43) (lv' := [(0, yR g k), (1, yI c), (2, yI (i + 1))]) hF dX10_leastSureFilledIn_43 2 rfl (by decide) rfl rfl ?_
              refine y_goto (pc := 46) hF dX10_leastSureFilledIn_46 4 rfl ?_
              exact zh4 _ (by omega) (i + 1) (c) rfl ⟨by omega, by omega, by rw [fr_up _ _ _ _ zI4.1.1, ← zI4.2.2, Int.zero_add]; unfold lsF; rw [if_neg (by omega)]⟩
            · skip
              refine y_aload_n (pc := 36) hF dX10_leastSureFilledIn_36 0 rfl ?_
              refine y_getN (pc := 37) (ci := 4) hF dX10_leastSureFilledIn_37 (by have := hP.1; omega) (hP.2 g).1 rfl rfl iX4 3 (by decide) w_227 rfl ?_
              refine y_iload_n (pc := 40) hF dX10_leastSureFilledIn_40 2 rfl ?_
              refine y_iaload (pc := 41) hF dX10_leastSureFilledIn_41 (by have := hP.1; omega) (hP.2 g).2.2.1 zi4 (by decide) ?_
              rw [show σ (k + 2) i = S (i % w) (i / w) from zat.2.1]
              refine y_istore_n (pc := 42) (lv' := [(0, yR g k), (1, yI (S (i % w) (i / w))), (2, yI i)]) hF dX10_leastSureFilledIn_42 (by decide) rfl rfl ?_
              refine y_iinc (pc := 43) (lv' := [(0, yR g k), (1, yI (S (i % w) (i / w))), (2, yI (i + 1))]) hF dX10_leastSureFilledIn_43 2 rfl (by decide) rfl rfl ?_
              refine y_goto (pc := 46) hF dX10_leastSureFilledIn_46 4 rfl ?_
              exact zh4 _ (by omega) (i + 1) (S (i % w) (i / w)) rfl ⟨by omega, by omega, by rw [fr_up _ _ _ _ zI4.1.1, ← zI4.2.2, Int.zero_add]; unfold lsF; rw [if_pos (by omega)]⟩
  exact zL4 _ (0) (-1) rfl ⟨by omega, by omega, rfl⟩

theorem dX10_ahead_0 : decode cX10_ahead 0 = .ok (.aload_n 0, 1) := by decide +kernel
theorem dX10_ahead_1 : decode cX10_ahead 1 = .ok (.iload_n 1, 1) := by decide +kernel
theorem dX10_ahead_2 : decode cX10_ahead 2 = .ok (.iconst 1, 1) := by decide +kernel
theorem dX10_ahead_3 : decode cX10_ahead 3 = .ok (.if_icmp .lt 22, 3) := by decide +kernel
theorem dX10_ahead_6 : decode cX10_ahead 6 = .ok (.iload_n 1, 1) := by decide +kernel
theorem dX10_ahead_7 : decode cX10_ahead 7 = .ok (.bipush 60, 2) := by decide +kernel
theorem dX10_ahead_9 : decode cX10_ahead 9 = .ok (.if_icmp .gt 16, 3) := by decide +kernel
theorem dX10_ahead_12 : decode cX10_ahead 12 = .ok (.iload_n 2, 1) := by decide +kernel
theorem dX10_ahead_13 : decode cX10_ahead 13 = .ok (.ifCond .lt 12, 3) := by decide +kernel
theorem dX10_ahead_16 : decode cX10_ahead 16 = .ok (.iload_n 2, 1) := by decide +kernel
theorem dX10_ahead_17 : decode cX10_ahead 17 = .ok (.iconst 4, 1) := by decide +kernel
theorem dX10_ahead_18 : decode cX10_ahead 18 = .ok (.if_icmp .gt 7, 3) := by decide +kernel
theorem dX10_ahead_21 : decode cX10_ahead 21 = .ok (.iconst 1, 1) := by decide +kernel
theorem dX10_ahead_22 : decode cX10_ahead 22 = .ok (.goto 4, 3) := by decide +kernel
theorem dX10_ahead_25 : decode cX10_ahead 25 = .ok (.iconst 0, 1) := by decide +kernel
theorem dX10_ahead_26 : decode cX10_ahead 26 = .ok (.invokevirtual 110, 3) := by decide +kernel
theorem dX10_ahead_29 : decode cX10_ahead 29 = .ok (.aload_n 0, 1) := by decide +kernel
theorem dX10_ahead_30 : decode cX10_ahead 30 = .ok (.invokevirtual 384, 3) := by decide +kernel
theorem dX10_ahead_33 : decode cX10_ahead 33 = .ok (.aload_n 0, 1) := by decide +kernel
theorem dX10_ahead_34 : decode cX10_ahead 34 = .ok (.getfield 79, 3) := by decide +kernel
theorem dX10_ahead_37 : decode cX10_ahead 37 = .ok (.aload_n 0, 1) := by decide +kernel
theorem dX10_ahead_38 : decode cX10_ahead 38 = .ok (.getfield 86, 3) := by decide +kernel
theorem dX10_ahead_41 : decode cX10_ahead 41 = .ok (.aload_n 0, 1) := by decide +kernel
theorem dX10_ahead_42 : decode cX10_ahead 42 = .ok (.getfield 83, 3) := by decide +kernel
theorem dX10_ahead_45 : decode cX10_ahead 45 = .ok (.iconst 0, 1) := by decide +kernel
theorem dX10_ahead_46 : decode cX10_ahead 46 = .ok (.aload_n 0, 1) := by decide +kernel
theorem dX10_ahead_47 : decode cX10_ahead 47 = .ok (.getfield 89, 3) := by decide +kernel
theorem dX10_ahead_50 : decode cX10_ahead 50 = .ok (.iload_n 1, 1) := by decide +kernel
theorem dX10_ahead_51 : decode cX10_ahead 51 = .ok (.invokevirtual 184, 3) := by decide +kernel
theorem dX10_ahead_54 : decode cX10_ahead 54 = .ok (.pop, 1) := by decide +kernel
theorem dX10_ahead_55 : decode cX10_ahead 55 = .ok (.iload_n 2, 1) := by decide +kernel
theorem dX10_ahead_56 : decode cX10_ahead 56 = .ok (.tableswitch 77 0 3 #[32, 40, 48, 57], 32) := by decide +kernel
theorem dX10_ahead_88 : decode cX10_ahead 88 = .ok (.aload_n 0, 1) := by decide +kernel
theorem dX10_ahead_89 : decode cX10_ahead 89 = .ok (.getfield 86, 3) := by decide +kernel
theorem dX10_ahead_92 : decode cX10_ahead 92 = .ok (.invokevirtual 138, 3) := by decide +kernel
theorem dX10_ahead_95 : decode cX10_ahead 95 = .ok (.ireturn, 1) := by decide +kernel
theorem dX10_ahead_96 : decode cX10_ahead 96 = .ok (.aload_n 0, 1) := by decide +kernel
theorem dX10_ahead_97 : decode cX10_ahead 97 = .ok (.getfield 89, 3) := by decide +kernel
theorem dX10_ahead_100 : decode cX10_ahead 100 = .ok (.getfield 202, 3) := by decide +kernel
theorem dX10_ahead_103 : decode cX10_ahead 103 = .ok (.ireturn, 1) := by decide +kernel
theorem dX10_ahead_104 : decode cX10_ahead 104 = .ok (.aload_n 0, 1) := by decide +kernel
theorem dX10_ahead_105 : decode cX10_ahead 105 = .ok (.getfield 89, 3) := by decide +kernel
theorem dX10_ahead_108 : decode cX10_ahead 108 = .ok (.getfield 220, 3) := by decide +kernel
theorem dX10_ahead_111 : decode cX10_ahead 111 = .ok (.l2i, 1) := by decide +kernel
theorem dX10_ahead_112 : decode cX10_ahead 112 = .ok (.ireturn, 1) := by decide +kernel
theorem dX10_ahead_113 : decode cX10_ahead 113 = .ok (.aload_n 0, 1) := by decide +kernel
theorem dX10_ahead_114 : decode cX10_ahead 114 = .ok (.getfield 47, 3) := by decide +kernel
theorem dX10_ahead_117 : decode cX10_ahead 117 = .ok (.ifCond .eq 14, 3) := by decide +kernel
theorem dX10_ahead_120 : decode cX10_ahead 120 = .ok (.aload_n 0, 1) := by decide +kernel
theorem dX10_ahead_121 : decode cX10_ahead 121 = .ok (.aload_n 0, 1) := by decide +kernel
theorem dX10_ahead_122 : decode cX10_ahead 122 = .ok (.getfield 86, 3) := by decide +kernel
theorem dX10_ahead_125 : decode cX10_ahead 125 = .ok (.invokevirtual 387, 3) := by decide +kernel
theorem dX10_ahead_128 : decode cX10_ahead 128 = .ok (.goto 4, 3) := by decide +kernel
theorem dX10_ahead_131 : decode cX10_ahead 131 = .ok (.iconst (-1), 1) := by decide +kernel
theorem dX10_ahead_132 : decode cX10_ahead 132 = .ok (.ireturn, 1) := by decide +kernel
theorem dX10_ahead_133 : decode cX10_ahead 133 = .ok (.aload_n 0, 1) := by decide +kernel
theorem dX10_ahead_134 : decode cX10_ahead 134 = .ok (.getfield 86, 3) := by decide +kernel
theorem dX10_ahead_137 : decode cX10_ahead 137 = .ok (.invokestatic 390, 3) := by decide +kernel
theorem dX10_ahead_140 : decode cX10_ahead 140 = .ok (.ireturn, 1) := by decide +kernel
set_option maxHeartbeats 4000000 in
set_option maxRecDepth 100000 in
theorem tX10_ahead {l : Launch} {g : yG} {n : Nat} {σ : yM} (hlt : l.stackTraces = false) (hn : 172 ≤ n) (w h : Int) (T S F P O : Int → Int → Int) (nf df nl : Int) (lg : Int → Int → Int) (s re fo ra tu we sh : Int) (H : List aX) (ht : Bool) (K : Int → Int → Int) (tl : Int) (tb : Int → Int) (fa r1 r2 N : Int) (hV : cV σ (w, h, (T, S, F, P, O, nf, df, nl, lg), (s, re, fo, ra, tu, we, sh), H, ht, K, tl, tb, fa, r1, r2)) (hW : aW N (w, h, (T, S, F, P, O, nf, df, nl, lg), (s, re, fo, ra, tu, we, sh), H, ht, K, tl, tb, fa, r1, r2)) (a b : Int) (ha : -2147483648 ≤ a ∧ a < 2147483648) (hb : -2147483648 ≤ b ∧ b < 2147483648) : yMX l g yX10_ahead cX10_ahead 3 (some .int) (rmA 8 4 24) [yR g 0, yI a, yI b] (SC g) n σ (SC g) (yPi (fun zv n' σ' => n ≤ n' ∧ ((1 ≤ a ∧ a ≤ 60) ∧ (0 ≤ b ∧ b ≤ 4)) ∧ zv = ahV w h ht K (gR w h s re fo ra tu we sh 0 a.toNat (x00 T S F P O)).2 b ∧ cV σ' (w, h, (T, S, F, P, O, nf, df, nl, lg), (s, re, fo, ra, tu, we, sh), H, ht, K, tl, tb, fa, r1, r2) ∧ cF σ σ')) (fun E n' σ' => E = eA ∧ n ≤ n' ∧ ¬ ((1 ≤ a ∧ a ≤ 60) ∧ (0 ≤ b ∧ b ≤ 4)) ∧ cV σ' (bA (w, h, (T, S, F, P, O, nf, df, nl, lg), (s, re, fo, ra, tu, we, sh), H, ht, K, tl, tb, fa, r1, r2)) ∧ cF σ σ') := by
  obtain ⟨⟨hA, hJ⟩, hS, hH, ⟨hb1, hb2⟩, ⟨ht1, ht2⟩, hfa, hr1, hr2, hT⟩ := id hV
  obtain ⟨hw1, hw2, hw3, hw4⟩ := id hA.1.1
  obtain ⟨hs1, hs2, hs3, hs4, hs5, hs6, hs7⟩ := id hS.2
  have z128 : 128 < n := by omega
  have z129 : 129 < n := by omega
  have z130 : 130 < n := by omega
  obtain ⟨X1, hX1⟩ : ∃ X, X = (gR w h s re fo ra tu we sh 0 a.toNat (x00 T S F P O)).2 := ⟨_, rfl⟩
  obtain ⟨T1, S1, F1, P1, O1, nf1, df1, nl1, lg1⟩ := X1
  refine y_startX (by decide) (Nat.le_of_ble_eq_true rfl) (fun X0 hX => ?_)
  have hF := hX.1
  show yV X0 g 3 (yQX X0 g (SC g) (yPi (fun zv n' σ' => n ≤ n' ∧ ((1 ≤ a ∧ a ≤ 60) ∧ (0 ≤ b ∧ b ≤ 4)) ∧ zv = ahV w h ht K (gR w h s re fo ra tu we sh 0 a.toNat (x00 T S F P O)).2 b ∧ cV σ' (w, h, (T, S, F, P, O, nf, df, nl, lg), (s, re, fo, ra, tu, we, sh), H, ht, K, tl, tb, fa, r1, r2) ∧ cF σ σ')) (fun E n' σ' => E = eA ∧ n ≤ n' ∧ ¬ ((1 ≤ a ∧ a ≤ 60) ∧ (0 ≤ b ∧ b ≤ 4)) ∧ cV σ' (bA (w, h, (T, S, F, P, O, nf, df, nl, lg), (s, re, fo, ra, tu, we, sh), H, ht, K, tl, tb, fa, r1, r2)) ∧ cF σ σ') (rmA 8 4 24)) (SC g) n σ 0 0 0 [(0, yR g 0), (1, yI a), (2, yI b)] []
  have zJ26 : ∀ (zb : Bool), (zb = decide ((1 ≤ a ∧ a ≤ 60) ∧ (0 ≤ b ∧ b ≤ 4))) → yV X0 g 3 (yQX X0 g (SC g) (yPi (fun zv n' σ' => n ≤ n' ∧ ((1 ≤ a ∧ a ≤ 60) ∧ (0 ≤ b ∧ b ≤ 4)) ∧ zv = ahV w h ht K (gR w h s re fo ra tu we sh 0 a.toNat (x00 T S F P O)).2 b ∧ cV σ' (w, h, (T, S, F, P, O, nf, df, nl, lg), (s, re, fo, ra, tu, we, sh), H, ht, K, tl, tb, fa, r1, r2) ∧ cF σ σ')) (fun E n' σ' => E = eA ∧ n ≤ n' ∧ ¬ ((1 ≤ a ∧ a ≤ 60) ∧ (0 ≤ b ∧ b ≤ 4)) ∧ cV σ' (bA (w, h, (T, S, F, P, O, nf, df, nl, lg), (s, re, fo, ra, tu, we, sh), H, ht, K, tl, tb, fa, r1, r2)) ∧ cF σ σ') (rmA 8 4 24)) (SC g) n σ 0 0 26 [(0, yR g 0), (1, yI a), (2, yI b)] [yI (bi zb), yR g 0] := by
    intro zb  zhb
    refine y_contX (cells' := 0 + 1) (slots' := 0 + 6) hX (y_rVX (pc := 26) hX (tX10_demand hlt hn zb) dX10_ahead_26 (by omega) rfl rfl rfl w_611 qX10_demand rfl ⟨Nat.le_of_ble_eq_true rfl, Nat.le_of_ble_eq_true rfl⟩ ⟨Nat.le_of_ble_eq_true rfl, Nat.le_of_ble_eq_true rfl⟩ (Nat.le_of_ble_eq_true rfl) rfl) rfl rfl ⟨Nat.le_of_ble_eq_true rfl, Nat.le_of_ble_eq_true rfl⟩ (fun E n' σ' zx => ⟨zx.1, zx.2.1, by have zq := zx.2.2.1; rw [zhb] at zq; simpa using zq, by rw [zx.2.2.2]; exact hV.bA, by rw [zx.2.2.2]; exact cF_N⟩) (fun r26 n' σ26 zp26 => ?_)
    obtain ⟨zr26, zp26⟩ := zp26
    subst zr26
    obtain ⟨zn26, zs26, zb26⟩ := zp26
    have zs26 := zs26.symm
    subst zs26
    have zn26 := zn26.symm
    subst zn26
    skip
    show yV X0 g 3 (yQX X0 g (SC g) (yPi (fun zv n' σ' => n ≤ n' ∧ ((1 ≤ a ∧ a ≤ 60) ∧ (0 ≤ b ∧ b ≤ 4)) ∧ zv = ahV w h ht K (gR w h s re fo ra tu we sh 0 a.toNat (x00 T S F P O)).2 b ∧ cV σ' (w, h, (T, S, F, P, O, nf, df, nl, lg), (s, re, fo, ra, tu, we, sh), H, ht, K, tl, tb, fa, r1, r2) ∧ cF σ σ')) (fun E n' σ' => E = eA ∧ n ≤ n' ∧ ¬ ((1 ≤ a ∧ a ≤ 60) ∧ (0 ≤ b ∧ b ≤ 4)) ∧ cV σ' (bA (w, h, (T, S, F, P, O, nf, df, nl, lg), (s, re, fo, ra, tu, we, sh), H, ht, K, tl, tb, fa, r1, r2)) ∧ cF σ σ') (rmA 8 4 24)) (SC g) n σ (0 + 1) (0 + 6) 29 [(0, yR g 0), (1, yI a), (2, yI b)] []
    have zok : (1 ≤ a ∧ a ≤ 60) ∧ (0 ≤ b ∧ b ≤ 4) := by have zq := zb26; rw [zhb] at zq; simpa using zq
    refine y_aload_n (pc := 29) hF dX10_ahead_29 0 rfl ?_
    refine y_cv (y_rV (pc := 30) hF (tX10_startTrial hn w h T S F P O nf df nl lg s re fo ra tu we sh H ht K tl tb fa r1 r2 N hV hW) dX10_ahead_30 (by omega) rfl rfl rfl w_1141 qX10_startTrial rfl ⟨Nat.le_of_ble_eq_true rfl, Nat.le_of_ble_eq_true rfl⟩ ⟨Nat.le_of_ble_eq_true rfl, Nat.le_of_ble_eq_true rfl⟩ (Nat.le_of_ble_eq_true rfl) rfl) rfl rfl (fun n' σ30 zp30 => ?_)
    obtain ⟨zn30, zp30⟩ := zp30
    have zn30 := zn30.symm
    subst zn30
    have zTs := hT.fr (zp30.1 127 (by omega))
    refine y_aload_n (pc := 33) hF dX10_ahead_33 0 rfl ?_
    refine y_get (pc := 34) (ci := 10) hF dX10_ahead_34 (by omega) rfl rfl rfl iX10 10 (by decide) w_497 rfl ?_
    refine y_aload_n (pc := 37) hF dX10_ahead_37 0 rfl ?_
    refine y_get (pc := 38) (ci := 10) hF dX10_ahead_38 (by omega) rfl rfl rfl iX10 12 (by decide) w_499 rfl ?_
    refine y_aload_n (pc := 41) hF dX10_ahead_41 0 rfl ?_
    refine y_get (pc := 42) (ci := 10) hF dX10_ahead_42 (by omega) rfl rfl rfl iX10 11 (by decide) w_498 rfl ?_
    refine y_iconst (pc := 45) hF dX10_ahead_45 ?_
    refine y_aload_n (pc := 46) hF dX10_ahead_46 0 rfl ?_
    refine y_get (pc := 47) (ci := 10) hF dX10_ahead_47 (by omega) rfl rfl rfl iX10 13 (by decide) w_500 rfl ?_
    refine y_iload_n (pc := 50) hF dX10_ahead_50 1 rfl ?_
    refine y_ci (y_rV (pc := 51) hF (tX0_run 147 146 w h T S F P O s re fo ra tu we sh hn pic_147 set_146 zp30.2.2.1 zp30.2.1 (by omega) (by omega) (by omega) 153 0 0 0 (fun _ _ => 0) jou_153 zp30.2.2.2 (by omega) (by omega) (by omega) zTs (by omega) 0 (by omega) a (by omega)) dX10_ahead_51 (by omega) rfl rfl rfl w_813 qX0_run rfl ⟨Nat.le_of_ble_eq_true rfl, Nat.le_of_ble_eq_true rfl⟩ ⟨Nat.le_of_ble_eq_true rfl, Nat.le_of_ble_eq_true rfl⟩ (Nat.le_of_ble_eq_true rfl) rfl) rfl rfl (fun r51 n' σ51 zp51 => ?_)
    obtain ⟨zn51, zv51, zp51⟩ := zp51
    have zn51 := zn51.symm
    subst zn51
    rw [zv51]
    have zf := fG.trial zp30.1 zp51.2.1
    have zV1 := hV.scr zf (by omega) zp51.1
    have zX1 : rXc σ51 147 153 w h (T1, S1, F1, P1, O1, nf1, df1, nl1, lg1) := by have zq := zp51.2.2; rw [show (gR w h s re fo ra tu we sh 0 a.toNat (T, S, F, P, O, 0, 0, 0, (fun _ _ => 0))).2 = _ from hX1.symm] at zq; exact zq
    have zA1 := zX1.1
    have zJ1 := zX1.2
    refine y_pop (pc := 54) hF dX10_ahead_54 rfl ?_
    refine y_iload_n (pc := 55) hF dX10_ahead_55 2 rfl ?_
    rcases Decidable.em (b = 0) with zw56_0 | zw56_0
    · refine y_tswI (pc := 56) hF dX10_ahead_56 (off := 32) 0 zw56_0 (by decide) rfl 88 rfl ?_
      refine y_aload_n (pc := 88) hF dX10_ahead_88 0 rfl ?_
      refine y_get (pc := 89) (ci := 10) hF dX10_ahead_89 (by omega) rfl rfl rfl iX10 12 (by decide) w_499 rfl ?_
      have zz92 := y_rV (pc := 92) hF (tX4_countMissing (n := n) (σ := σ51) 147 w h T1 S1 F1 P1 O1 hn pic_147 zA1) dX10_ahead_92 (by have := pic_147.1; omega) (pic_147.2 g).1 rfl rfl w_568 qX4_countMissing rfl ⟨Nat.le_of_ble_eq_true rfl, Nat.le_of_ble_eq_true rfl⟩ ⟨Nat.le_of_ble_eq_true rfl, Nat.le_of_ble_eq_true rfl⟩ (Nat.le_of_ble_eq_true rfl) rfl (rest := []) (cells := 0 + 1) (slots := 0 + 6) (lv := [(0, yR g 0), (1, yI a), (2, yI b)])
      refine y_cp (zz92) ?_
      exact y_retX (y_iret (pc := 95) hF dX10_ahead_95 (Nat.le_of_ble_eq_true rfl) (Nat.le_of_ble_eq_true rfl) ⟨_, rfl, Nat.le_refl _, zok, by rw [← hX1]; unfold ahV; simp [zw56_0, xNf, xDf, nMi], zV1, zf.cF (by omega)⟩)
    rcases Decidable.em (b = 1) with zw56_1 | zw56_1
    · refine y_tswI (pc := 56) hF dX10_ahead_56 (off := 40) 1 zw56_1 (by decide) rfl 96 rfl ?_
      refine y_aload_n (pc := 96) hF dX10_ahead_96 0 rfl ?_
      refine y_get (pc := 97) (ci := 10) hF dX10_ahead_97 (by omega) rfl rfl rfl iX10 13 (by decide) w_500 rfl ?_
      refine y_getN (pc := 100) (ci := 2) hF dX10_ahead_100 (by omega) rfl rfl rfl iX2 0 (by decide) w_259 rfl ?_
      rw [show σ51 153 0 = nf1 from zJ1.1]
      exact y_retX (y_iret (pc := 103) hF dX10_ahead_103 (Nat.le_of_ble_eq_true rfl) (Nat.le_of_ble_eq_true rfl) ⟨_, rfl, Nat.le_refl _, zok, by rw [← hX1]; unfold ahV; simp [zw56_1, xNf, xDf, nMi], zV1, zf.cF (by omega)⟩)
    rcases Decidable.em (b = 2) with zw56_2 | zw56_2
    · refine y_tswI (pc := 56) hF dX10_ahead_56 (off := 48) 2 zw56_2 (by decide) rfl 104 rfl ?_
      refine y_aload_n (pc := 104) hF dX10_ahead_104 0 rfl ?_
      refine y_get (pc := 105) (ci := 10) hF dX10_ahead_105 (by omega) rfl rfl rfl iX10 13 (by decide) w_500 rfl ?_
      refine y_getN (pc := 108) (ci := 2) hF dX10_ahead_108 (by omega) rfl rfl rfl iX2 1 (by decide) w_261 rfl ?_
      refine y_l2i (pc := 111) hF dX10_ahead_111 ?_
      exact y_retX (y_iret (pc := 112) hF dX10_ahead_112 (Nat.le_of_ble_eq_true rfl) (Nat.le_of_ble_eq_true rfl) ⟨_, rfl, Nat.le_refl _, zok, by rw [← hX1]; unfold ahV; simp [zw56_2, zJ1.2.1, xNf, xDf, nMi], zV1, zf.cF (by omega)⟩)
    rcases Decidable.em (b = 3) with zw56_3 | zw56_3
    · refine y_tswI (pc := 56) hF dX10_ahead_56 (off := 57) 3 zw56_3 (by decide) rfl 113 rfl ?_
      refine y_aload_n (pc := 113) hF dX10_ahead_113 0 rfl ?_
      refine y_get (pc := 114) (ci := 10) hF dX10_ahead_114 (by omega) rfl rfl rfl iX10 6 (by decide) w_493 rfl ?_
      rw [show σ51 0 6 = bi ht from (by rw [zf 0 (by omega)]; exact hb1)]
      refine y_if_eq (pc := 117) hF dX10_ahead_117 131 rfl bi_r (fun zc117 => ?_) (fun zc117 => ?_)
      · replace zc117 := bi_0.mp zc117
        have zhf : ht = false := by simpa [bi] using zc117
        refine y_iconst (pc := 131) hF dX10_ahead_131 ?_
        exact y_retX (y_iret (pc := 132) hF dX10_ahead_132 (Nat.le_of_ble_eq_true rfl) (Nat.le_of_ble_eq_true rfl) ⟨_, rfl, Nat.le_refl _, zok, by rw [← hX1]; unfold ahV; simp [zw56_3, zhf, xNf, xDf, nMi], zV1, zf.cF (by omega)⟩)
      · replace zc117 := bi_n0.mp zc117
        have zht : ht = true := by simpa [bi] using zc117
        refine y_aload_n (pc := 120) hF dX10_ahead_120 0 rfl ?_
        refine y_aload_n (pc := 121) hF dX10_ahead_121 0 rfl ?_
        refine y_get (pc := 122) (ci := 10) hF dX10_ahead_122 (by omega) rfl rfl rfl iX10 12 (by decide) w_499 rfl ?_
        have zz125 := y_rV (pc := 125) hF (tX10_flawOf (n := n) (σ := σ51) hn 147 w h T1 S1 F1 P1 O1 pic_147 zA1 K (fun x y a b c d => by rw [zf 115 (by omega)]; exact hb2 zht x y a b c d) (hW.2.2.1 zht)) dX10_ahead_125 (by omega) rfl rfl rfl w_590 qX10_flawOf rfl ⟨Nat.le_of_ble_eq_true rfl, Nat.le_of_ble_eq_true rfl⟩ ⟨Nat.le_of_ble_eq_true rfl, Nat.le_of_ble_eq_true rfl⟩ (Nat.le_of_ble_eq_true rfl) rfl (rest := []) (cells := 0 + 1) (slots := 0 + 6) (lv := [(0, yR g 0), (1, yI a), (2, yI b)])
        refine y_cp (zz125) ?_
        refine y_goto (pc := 128) hF dX10_ahead_128 132 rfl ?_
        exact y_retX (y_iret (pc := 132) hF dX10_ahead_132 (Nat.le_of_ble_eq_true rfl) (Nat.le_of_ble_eq_true rfl) ⟨_, rfl, Nat.le_refl _, zok, by rw [← hX1]; unfold ahV; simp [zw56_3, zht, xNf, xDf, nMi], zV1, zf.cF (by omega)⟩)
    refine y_tswO (pc := 56) hF dX10_ahead_56 (by omega) (by omega) 133 rfl ?_
    refine y_aload_n (pc := 133) hF dX10_ahead_133 0 rfl ?_
    refine y_get (pc := 134) (ci := 10) hF dX10_ahead_134 (by omega) rfl rfl rfl iX10 12 (by decide) w_499 rfl ?_
    have zz137 := y_rS (pc := 137) (As := [yR g 147]) (kk := 0) hF (tX10_leastSureFilledIn (n := n) (σ := σ51) hn 147 w h T1 S1 F1 P1 O1 pic_147 zA1) dX10_ahead_137 w_1149 qX10_leastSureFilledIn rfl ⟨Nat.le_of_ble_eq_true rfl, Nat.le_of_ble_eq_true rfl⟩ ⟨Nat.le_of_ble_eq_true rfl, Nat.le_of_ble_eq_true rfl⟩ (Nat.le_of_ble_eq_true rfl) rfl (rest := []) (cells := 0 + 1) (slots := 0 + 6) (lv := [(0, yR g 0), (1, yI a), (2, yI b)])
    refine y_cp (zz137) ?_
    exact y_retX (y_iret (pc := 140) hF dX10_ahead_140 (Nat.le_of_ble_eq_true rfl) (Nat.le_of_ble_eq_true rfl) ⟨_, rfl, Nat.le_refl _, zok, by rw [← hX1]; unfold ahV; simp [show b = 4 by omega, xNf, xDf, nMi], zV1, zf.cF (by omega)⟩)
  refine y_aload_n (pc := 0) hF dX10_ahead_0 0 rfl ?_
  refine y_iload_n (pc := 1) hF dX10_ahead_1 1 rfl ?_
  refine y_iconst (pc := 2) hF dX10_ahead_2 ?_
  refine y_icmp_lt (pc := 3) hF dX10_ahead_3 25 rfl (by omega) (by omega) (fun zc3 => ?_) (fun zc3 => ?_)
  · skip
    refine y_iconst (pc := 25) hF dX10_ahead_25 ?_
    exact zJ26 false (decide_eq_false (by omega)).symm
  · skip
    refine y_iload_n (pc := 6) hF dX10_ahead_6 1 rfl ?_
    refine y_bipush (pc := 7) hF dX10_ahead_7 (by decide) ?_
    refine y_icmp_gt (pc := 9) hF dX10_ahead_9 25 rfl (by omega) (by omega) (fun zc9 => ?_) (fun zc9 => ?_)
    · skip
      refine y_iconst (pc := 25) hF dX10_ahead_25 ?_
      exact zJ26 false (decide_eq_false (by omega)).symm
    · skip
      refine y_iload_n (pc := 12) hF dX10_ahead_12 2 rfl ?_
      refine y_if_lt (pc := 13) hF dX10_ahead_13 25 rfl (by omega) (fun zc13 => ?_) (fun zc13 => ?_)
      · skip
        refine y_iconst (pc := 25) hF dX10_ahead_25 ?_
        exact zJ26 false (decide_eq_false (by omega)).symm
      · skip
        refine y_iload_n (pc := 16) hF dX10_ahead_16 2 rfl ?_
        refine y_iconst (pc := 17) hF dX10_ahead_17 ?_
        refine y_icmp_gt (pc := 18) hF dX10_ahead_18 25 rfl (by omega) (by omega) (fun zc18 => ?_) (fun zc18 => ?_)
        · skip
          refine y_iconst (pc := 25) hF dX10_ahead_25 ?_
          exact zJ26 false (decide_eq_false (by omega)).symm
        · skip
          refine y_iconst (pc := 21) hF dX10_ahead_21 ?_
          refine y_goto (pc := 22) hF dX10_ahead_22 26 rfl ?_
          exact zJ26 true (decide_eq_true (by omega)).symm

theorem dX10_flawBy_0 : decode cX10_flawBy 0 = .ok (.aload_n 0, 1) := by decide +kernel
theorem dX10_flawBy_1 : decode cX10_flawBy 1 = .ok (.iload_n 1, 1) := by decide +kernel
theorem dX10_flawBy_2 : decode cX10_flawBy 2 = .ok (.ifCond .lt 12, 3) := by decide +kernel
theorem dX10_flawBy_5 : decode cX10_flawBy 5 = .ok (.iload_n 1, 1) := by decide +kernel
theorem dX10_flawBy_6 : decode cX10_flawBy 6 = .ok (.iconst 2, 1) := by decide +kernel
theorem dX10_flawBy_7 : decode cX10_flawBy 7 = .ok (.if_icmp .gt 7, 3) := by decide +kernel
theorem dX10_flawBy_10 : decode cX10_flawBy 10 = .ok (.iconst 1, 1) := by decide +kernel
theorem dX10_flawBy_11 : decode cX10_flawBy 11 = .ok (.goto 4, 3) := by decide +kernel
theorem dX10_flawBy_14 : decode cX10_flawBy 14 = .ok (.iconst 0, 1) := by decide +kernel
theorem dX10_flawBy_15 : decode cX10_flawBy 15 = .ok (.invokevirtual 110, 3) := by decide +kernel
theorem dX10_flawBy_18 : decode cX10_flawBy 18 = .ok (.aload_n 0, 1) := by decide +kernel
theorem dX10_flawBy_19 : decode cX10_flawBy 19 = .ok (.getfield 47, 3) := by decide +kernel
theorem dX10_flawBy_22 : decode cX10_flawBy 22 = .ok (.ifCond .ne 7, 3) := by decide +kernel
theorem dX10_flawBy_25 : decode cX10_flawBy 25 = .ok (.ldc_w 393, 3) := by decide +kernel
theorem dX10_flawBy_28 : decode cX10_flawBy 28 = .ok (.ireturn, 1) := by decide +kernel
theorem dX10_flawBy_29 : decode cX10_flawBy 29 = .ok (.aload_n 0, 1) := by decide +kernel
theorem dX10_flawBy_30 : decode cX10_flawBy 30 = .ok (.invokevirtual 384, 3) := by decide +kernel
theorem dX10_flawBy_33 : decode cX10_flawBy 33 = .ok (.aload_n 0, 1) := by decide +kernel
theorem dX10_flawBy_34 : decode cX10_flawBy 34 = .ok (.getfield 79, 3) := by decide +kernel
theorem dX10_flawBy_37 : decode cX10_flawBy 37 = .ok (.aload_n 0, 1) := by decide +kernel
theorem dX10_flawBy_38 : decode cX10_flawBy 38 = .ok (.getfield 86, 3) := by decide +kernel
theorem dX10_flawBy_41 : decode cX10_flawBy 41 = .ok (.aload_n 0, 1) := by decide +kernel
theorem dX10_flawBy_42 : decode cX10_flawBy 42 = .ok (.getfield 83, 3) := by decide +kernel
theorem dX10_flawBy_45 : decode cX10_flawBy 45 = .ok (.iload_n 1, 1) := by decide +kernel
theorem dX10_flawBy_46 : decode cX10_flawBy 46 = .ok (.aload_n 0, 1) := by decide +kernel
theorem dX10_flawBy_47 : decode cX10_flawBy 47 = .ok (.getfield 89, 3) := by decide +kernel
theorem dX10_flawBy_50 : decode cX10_flawBy 50 = .ok (.sipush 400, 3) := by decide +kernel
theorem dX10_flawBy_53 : decode cX10_flawBy 53 = .ok (.invokevirtual 184, 3) := by decide +kernel
theorem dX10_flawBy_56 : decode cX10_flawBy 56 = .ok (.pop, 1) := by decide +kernel
theorem dX10_flawBy_57 : decode cX10_flawBy 57 = .ok (.aload_n 0, 1) := by decide +kernel
theorem dX10_flawBy_58 : decode cX10_flawBy 58 = .ok (.aload_n 0, 1) := by decide +kernel
theorem dX10_flawBy_59 : decode cX10_flawBy 59 = .ok (.getfield 86, 3) := by decide +kernel
theorem dX10_flawBy_62 : decode cX10_flawBy 62 = .ok (.invokevirtual 387, 3) := by decide +kernel
theorem dX10_flawBy_65 : decode cX10_flawBy 65 = .ok (.aload_n 0, 1) := by decide +kernel
theorem dX10_flawBy_66 : decode cX10_flawBy 66 = .ok (.aload_n 0, 1) := by decide +kernel
theorem dX10_flawBy_67 : decode cX10_flawBy 67 = .ok (.getfield 26, 3) := by decide +kernel
theorem dX10_flawBy_70 : decode cX10_flawBy 70 = .ok (.invokevirtual 387, 3) := by decide +kernel
theorem dX10_flawBy_73 : decode cX10_flawBy 73 = .ok (.isub, 1) := by decide +kernel
theorem dX10_flawBy_74 : decode cX10_flawBy 74 = .ok (.ireturn, 1) := by decide +kernel
set_option maxHeartbeats 4000000 in
set_option maxRecDepth 100000 in
theorem tX10_flawBy {l : Launch} {g : yG} {n : Nat} {σ : yM} (hlt : l.stackTraces = false) (hn : 172 ≤ n) (w h : Int) (T S F P O : Int → Int → Int) (nf df nl : Int) (lg : Int → Int → Int) (s re fo ra tu we sh : Int) (H : List aX) (ht : Bool) (K : Int → Int → Int) (tl : Int) (tb : Int → Int) (fa r1 r2 N : Int) (hV : cV σ (w, h, (T, S, F, P, O, nf, df, nl, lg), (s, re, fo, ra, tu, we, sh), H, ht, K, tl, tb, fa, r1, r2)) (hW : aW N (w, h, (T, S, F, P, O, nf, df, nl, lg), (s, re, fo, ra, tu, we, sh), H, ht, K, tl, tb, fa, r1, r2)) (a : Int) (ha : -2147483648 ≤ a ∧ a < 2147483648) : yMX l g yX10_flawBy cX10_flawBy 2 (some .int) (rmA 8 4 24) [yR g 0, yI a] (SC g) n σ (SC g) (yPi (fun zv n' σ' => n ≤ n' ∧ (0 ≤ a ∧ a ≤ 2) ∧ zv = fbV w h ht K T F (gR w h s re fo ra tu we sh a (400 : Int).toNat (x00 T S F P O)).2 ∧ cV σ' (w, h, (T, S, F, P, O, nf, df, nl, lg), (s, re, fo, ra, tu, we, sh), H, ht, K, tl, tb, fa, r1, r2) ∧ cF σ σ')) (fun E n' σ' => E = eA ∧ n ≤ n' ∧ ¬ (0 ≤ a ∧ a ≤ 2) ∧ cV σ' (bA (w, h, (T, S, F, P, O, nf, df, nl, lg), (s, re, fo, ra, tu, we, sh), H, ht, K, tl, tb, fa, r1, r2)) ∧ cF σ σ') := by
  obtain ⟨⟨hA, hJ⟩, hS, hH, ⟨hb1, hb2⟩, ⟨ht1, ht2⟩, hfa, hr1, hr2, hT⟩ := id hV
  obtain ⟨hw1, hw2, hw3, hw4⟩ := id hA.1.1
  obtain ⟨hs1, hs2, hs3, hs4, hs5, hs6, hs7⟩ := id hS.2
  have z128 : 128 < n := by omega
  have z129 : 129 < n := by omega
  have z130 : 130 < n := by omega
  obtain ⟨X1, hX1⟩ : ∃ X, X = (gR w h s re fo ra tu we sh a (400 : Int).toNat (x00 T S F P O)).2 := ⟨_, rfl⟩
  obtain ⟨T1, S1, F1, P1, O1, nf1, df1, nl1, lg1⟩ := X1
  refine y_startX (by decide) (Nat.le_of_ble_eq_true rfl) (fun X0 hX => ?_)
  have hF := hX.1
  show yV X0 g 2 (yQX X0 g (SC g) (yPi (fun zv n' σ' => n ≤ n' ∧ (0 ≤ a ∧ a ≤ 2) ∧ zv = fbV w h ht K T F (gR w h s re fo ra tu we sh a (400 : Int).toNat (x00 T S F P O)).2 ∧ cV σ' (w, h, (T, S, F, P, O, nf, df, nl, lg), (s, re, fo, ra, tu, we, sh), H, ht, K, tl, tb, fa, r1, r2) ∧ cF σ σ')) (fun E n' σ' => E = eA ∧ n ≤ n' ∧ ¬ (0 ≤ a ∧ a ≤ 2) ∧ cV σ' (bA (w, h, (T, S, F, P, O, nf, df, nl, lg), (s, re, fo, ra, tu, we, sh), H, ht, K, tl, tb, fa, r1, r2)) ∧ cF σ σ') (rmA 8 4 24)) (SC g) n σ 0 0 0 [(0, yR g 0), (1, yI a)] []
  have zJ15 : ∀ (zb : Bool), (zb = decide (0 ≤ a ∧ a ≤ 2)) → yV X0 g 2 (yQX X0 g (SC g) (yPi (fun zv n' σ' => n ≤ n' ∧ (0 ≤ a ∧ a ≤ 2) ∧ zv = fbV w h ht K T F (gR w h s re fo ra tu we sh a (400 : Int).toNat (x00 T S F P O)).2 ∧ cV σ' (w, h, (T, S, F, P, O, nf, df, nl, lg), (s, re, fo, ra, tu, we, sh), H, ht, K, tl, tb, fa, r1, r2) ∧ cF σ σ')) (fun E n' σ' => E = eA ∧ n ≤ n' ∧ ¬ (0 ≤ a ∧ a ≤ 2) ∧ cV σ' (bA (w, h, (T, S, F, P, O, nf, df, nl, lg), (s, re, fo, ra, tu, we, sh), H, ht, K, tl, tb, fa, r1, r2)) ∧ cF σ σ') (rmA 8 4 24)) (SC g) n σ 0 0 15 [(0, yR g 0), (1, yI a)] [yI (bi zb), yR g 0] := by
    intro zb  zhb
    refine y_contX (cells' := 0 + 1) (slots' := 0 + 6) hX (y_rVX (pc := 15) hX (tX10_demand hlt hn zb) dX10_flawBy_15 (by omega) rfl rfl rfl w_611 qX10_demand rfl ⟨Nat.le_of_ble_eq_true rfl, Nat.le_of_ble_eq_true rfl⟩ ⟨Nat.le_of_ble_eq_true rfl, Nat.le_of_ble_eq_true rfl⟩ (Nat.le_of_ble_eq_true rfl) rfl) rfl rfl ⟨Nat.le_of_ble_eq_true rfl, Nat.le_of_ble_eq_true rfl⟩ (fun E n' σ' zx => ⟨zx.1, zx.2.1, by have zq := zx.2.2.1; rw [zhb] at zq; simpa using zq, by rw [zx.2.2.2]; exact hV.bA, by rw [zx.2.2.2]; exact cF_N⟩) (fun r15 n' σ15 zp15 => ?_)
    obtain ⟨zr15, zp15⟩ := zp15
    subst zr15
    obtain ⟨zn15, zs15, zb15⟩ := zp15
    have zs15 := zs15.symm
    subst zs15
    have zn15 := zn15.symm
    subst zn15
    skip
    show yV X0 g 2 (yQX X0 g (SC g) (yPi (fun zv n' σ' => n ≤ n' ∧ (0 ≤ a ∧ a ≤ 2) ∧ zv = fbV w h ht K T F (gR w h s re fo ra tu we sh a (400 : Int).toNat (x00 T S F P O)).2 ∧ cV σ' (w, h, (T, S, F, P, O, nf, df, nl, lg), (s, re, fo, ra, tu, we, sh), H, ht, K, tl, tb, fa, r1, r2) ∧ cF σ σ')) (fun E n' σ' => E = eA ∧ n ≤ n' ∧ ¬ (0 ≤ a ∧ a ≤ 2) ∧ cV σ' (bA (w, h, (T, S, F, P, O, nf, df, nl, lg), (s, re, fo, ra, tu, we, sh), H, ht, K, tl, tb, fa, r1, r2)) ∧ cF σ σ') (rmA 8 4 24)) (SC g) n σ (0 + 1) (0 + 6) 18 [(0, yR g 0), (1, yI a)] []
    have zok : 0 ≤ a ∧ a ≤ 2 := by have zq := zb15; rw [zhb] at zq; simpa using zq
    refine y_aload_n (pc := 18) hF dX10_flawBy_18 0 rfl ?_
    refine y_get (pc := 19) (ci := 10) hF dX10_flawBy_19 (by omega) rfl rfl rfl iX10 6 (by decide) w_493 rfl ?_
    rw [show σ 0 6 = bi ht from hb1]
    refine y_if_ne (pc := 22) hF dX10_flawBy_22 29 rfl bi_r (fun zc22 => ?_) (fun zc22 => ?_)
    · replace zc22 := bi_n0.mp zc22
      have zht : ht = true := by simpa [bi] using zc22
      refine y_aload_n (pc := 29) hF dX10_flawBy_29 0 rfl ?_
      refine y_cv (y_rV (pc := 30) hF (tX10_startTrial hn w h T S F P O nf df nl lg s re fo ra tu we sh H ht K tl tb fa r1 r2 N hV hW) dX10_flawBy_30 (by omega) rfl rfl rfl w_1141 qX10_startTrial rfl ⟨Nat.le_of_ble_eq_true rfl, Nat.le_of_ble_eq_true rfl⟩ ⟨Nat.le_of_ble_eq_true rfl, Nat.le_of_ble_eq_true rfl⟩ (Nat.le_of_ble_eq_true rfl) rfl) rfl rfl (fun n' σ30 zp30 => ?_)
      obtain ⟨zn30, zp30⟩ := zp30
      have zn30 := zn30.symm
      subst zn30
      have zTs := hT.fr (zp30.1 127 (by omega))
      refine y_aload_n (pc := 33) hF dX10_flawBy_33 0 rfl ?_
      refine y_get (pc := 34) (ci := 10) hF dX10_flawBy_34 (by omega) rfl rfl rfl iX10 10 (by decide) w_497 rfl ?_
      refine y_aload_n (pc := 37) hF dX10_flawBy_37 0 rfl ?_
      refine y_get (pc := 38) (ci := 10) hF dX10_flawBy_38 (by omega) rfl rfl rfl iX10 12 (by decide) w_499 rfl ?_
      refine y_aload_n (pc := 41) hF dX10_flawBy_41 0 rfl ?_
      refine y_get (pc := 42) (ci := 10) hF dX10_flawBy_42 (by omega) rfl rfl rfl iX10 11 (by decide) w_498 rfl ?_
      refine y_iload_n (pc := 45) hF dX10_flawBy_45 1 rfl ?_
      refine y_aload_n (pc := 46) hF dX10_flawBy_46 0 rfl ?_
      refine y_get (pc := 47) (ci := 10) hF dX10_flawBy_47 (by omega) rfl rfl rfl iX10 13 (by decide) w_500 rfl ?_
      refine y_sipush (pc := 50) hF dX10_flawBy_50 (by decide) ?_
      refine y_ci (y_rV (pc := 53) hF (tX0_run 147 146 w h T S F P O s re fo ra tu we sh hn pic_147 set_146 zp30.2.2.1 zp30.2.1 (by omega) (by omega) (by omega) 153 0 0 0 (fun _ _ => 0) jou_153 zp30.2.2.2 (by omega) (by omega) (by omega) zTs (by omega) a (by omega) 400 (by omega)) dX10_flawBy_53 (by omega) rfl rfl rfl w_813 qX0_run rfl ⟨Nat.le_of_ble_eq_true rfl, Nat.le_of_ble_eq_true rfl⟩ ⟨Nat.le_of_ble_eq_true rfl, Nat.le_of_ble_eq_true rfl⟩ (Nat.le_of_ble_eq_true rfl) rfl) rfl rfl (fun r53 n' σ53 zp53 => ?_)
      obtain ⟨zn53, zv53, zp53⟩ := zp53
      have zn53 := zn53.symm
      subst zn53
      rw [zv53]
      have zf := fG.trial zp30.1 zp53.2.1
      have zV1 := hV.scr zf (by omega) zp53.1
      have zX1 : rXc σ53 147 153 w h (T1, S1, F1, P1, O1, nf1, df1, nl1, lg1) := by have zq := zp53.2.2; rw [show (gR w h s re fo ra tu we sh a (400 : Int).toNat (T, S, F, P, O, 0, 0, 0, (fun _ _ => 0))).2 = _ from hX1.symm] at zq; exact zq
      have zA1 := zX1.1
      have zJ1 := zX1.2
      refine y_pop (pc := 56) hF dX10_flawBy_56 rfl ?_
      refine y_aload_n (pc := 57) hF dX10_flawBy_57 0 rfl ?_
      refine y_aload_n (pc := 58) hF dX10_flawBy_58 0 rfl ?_
      refine y_get (pc := 59) (ci := 10) hF dX10_flawBy_59 (by omega) rfl rfl rfl iX10 12 (by decide) w_499 rfl ?_
      have zz62 := y_rV (pc := 62) hF (tX10_flawOf (n := n) (σ := σ53) hn 147 w h T1 S1 F1 P1 O1 pic_147 zA1 K (fun x y a b c d => by rw [zf 115 (by omega)]; exact hb2 zht x y a b c d) (hW.2.2.1 zht)) dX10_flawBy_62 (by omega) rfl rfl rfl w_590 qX10_flawOf rfl ⟨Nat.le_of_ble_eq_true rfl, Nat.le_of_ble_eq_true rfl⟩ ⟨Nat.le_of_ble_eq_true rfl, Nat.le_of_ble_eq_true rfl⟩ (Nat.le_of_ble_eq_true rfl) rfl (rest := []) (cells := 0 + 1) (slots := 0 + 6) (lv := [(0, yR g 0), (1, yI a)])
      refine y_cp (zz62) ?_
      refine y_aload_n (pc := 65) hF dX10_flawBy_65 0 rfl ?_
      refine y_aload_n (pc := 66) hF dX10_flawBy_66 0 rfl ?_
      refine y_get (pc := 67) (ci := 10) hF dX10_flawBy_67 (by omega) rfl rfl rfl iX10 2 (by decide) w_489 rfl ?_
      have zz70 := y_rV (pc := 70) hF (tX10_flawOf (n := n) (σ := σ53) hn 5 w h T S F P O pic_5 (hA.fc (by omega) zf) K (fun x y a b c d => by rw [zf 115 (by omega)]; exact hb2 zht x y a b c d) (hW.2.2.1 zht)) dX10_flawBy_70 (by omega) rfl rfl rfl w_590 qX10_flawOf rfl ⟨Nat.le_of_ble_eq_true rfl, Nat.le_of_ble_eq_true rfl⟩ ⟨Nat.le_of_ble_eq_true rfl, Nat.le_of_ble_eq_true rfl⟩ (Nat.le_of_ble_eq_true rfl) rfl (rest := [yI (sFw w h T1 F1 K)]) (cells := 0 + 1) (slots := 0 + 6) (lv := [(0, yR g 0), (1, yI a)])
      refine y_cp (zz70) ?_
      refine y_isub (pc := 73) hF dX10_flawBy_73 ?_
      exact y_retX (y_iret (pc := 74) hF dX10_flawBy_74 (Nat.le_of_ble_eq_true rfl) (Nat.le_of_ble_eq_true rfl) ⟨_, rfl, Nat.le_refl _, zok, by rw [← hX1]; unfold fbV; rw [if_pos zht], zV1, zf.cF (by omega)⟩)
    · replace zc22 := bi_0.mp zc22
      have zhf : ht = false := by simpa [bi] using zc22
      refine y_ldcw (pc := 25) (v := -1000000000) hF dX10_flawBy_25 wk_1159 ?_
      exact y_retX (y_iret (pc := 28) hF dX10_flawBy_28 (Nat.le_of_ble_eq_true rfl) (Nat.le_of_ble_eq_true rfl) ⟨_, rfl, Nat.le_refl _, zok, by unfold fbV; rw [zhf]; rfl, hV, cF.rf σ⟩)
  refine y_aload_n (pc := 0) hF dX10_flawBy_0 0 rfl ?_
  refine y_iload_n (pc := 1) hF dX10_flawBy_1 1 rfl ?_
  refine y_if_lt (pc := 2) hF dX10_flawBy_2 14 rfl (by omega) (fun zc2 => ?_) (fun zc2 => ?_)
  · skip
    refine y_iconst (pc := 14) hF dX10_flawBy_14 ?_
    exact zJ15 false (decide_eq_false (by omega)).symm
  · skip
    refine y_iload_n (pc := 5) hF dX10_flawBy_5 1 rfl ?_
    refine y_iconst (pc := 6) hF dX10_flawBy_6 ?_
    refine y_icmp_gt (pc := 7) hF dX10_flawBy_7 14 rfl (by omega) (by omega) (fun zc7 => ?_) (fun zc7 => ?_)
    · skip
      refine y_iconst (pc := 14) hF dX10_flawBy_14 ?_
      exact zJ15 false (decide_eq_false (by omega)).symm
    · skip
      refine y_iconst (pc := 10) hF dX10_flawBy_10 ?_
      refine y_goto (pc := 11) hF dX10_flawBy_11 15 rfl ?_
      exact zJ15 true (decide_eq_true (by omega)).symm
