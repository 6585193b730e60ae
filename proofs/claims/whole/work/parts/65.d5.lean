theorem dJ7_fill_53178_0 : decode cJ7_fill_53178 0 = .ok (.iconst 0, 1) := by decide +kernel
theorem dJ7_fill_53178_1 : decode cJ7_fill_53178 1 = .ok (.istore_n 2, 1) := by decide +kernel
theorem dJ7_fill_53178_2 : decode cJ7_fill_53178 2 = .ok (.aload_n 0, 1) := by decide +kernel
theorem dJ7_fill_53178_3 : decode cJ7_fill_53178 3 = .ok (.arraylength, 1) := by decide +kernel
theorem dJ7_fill_53178_4 : decode cJ7_fill_53178 4 = .ok (.istore_n 3, 1) := by decide +kernel
theorem dJ7_fill_53178_5 : decode cJ7_fill_53178 5 = .ok (.iload_n 2, 1) := by decide +kernel
theorem dJ7_fill_53178_6 : decode cJ7_fill_53178 6 = .ok (.iload_n 3, 1) := by decide +kernel
theorem dJ7_fill_53178_7 : decode cJ7_fill_53178 7 = .ok (.if_icmp .ge 13, 3) := by decide +kernel
theorem dJ7_fill_53178_10 : decode cJ7_fill_53178 10 = .ok (.aload_n 0, 1) := by decide +kernel
theorem dJ7_fill_53178_11 : decode cJ7_fill_53178 11 = .ok (.iload_n 2, 1) := by decide +kernel
theorem dJ7_fill_53178_12 : decode cJ7_fill_53178 12 = .ok (.iload_n 1, 1) := by decide +kernel
theorem dJ7_fill_53178_13 : decode cJ7_fill_53178 13 = .ok (.iastore, 1) := by decide +kernel
theorem dJ7_fill_53178_14 : decode cJ7_fill_53178 14 = .ok (.iinc 2 1, 3) := by decide +kernel
theorem dJ7_fill_53178_17 : decode cJ7_fill_53178 17 = .ok (.goto (-12), 3) := by decide +kernel
theorem dJ7_fill_53178_20 : decode cJ7_fill_53178 20 = .ok (.return_, 1) := by decide +kernel
set_option maxHeartbeats 4000000 in
set_option maxRecDepth 100000 in
theorem tJ7_fill_53178 {l : Launch} {g : yG} {n : Nat} {σ : yM} {sch : yS} (a len : Nat) (hka : a < n) (hsa : sch a = some (kI g len)) (hlen : len < 100000) (v : Int) : yMet l g yJ7_fill_53178 cJ7_fill_53178 4 none (rmL 1) [yR g a, yI v] sch n σ sch (yPv (fun n' σ' => n' = n ∧ σ' = yfl σ a (len : Int) v)) := by
  refine y_start (by decide) (Nat.le_of_ble_eq_true rfl) (fun X0 hF => ?_)
  show yV X0 g 4 (yQ X0 g sch (yPv (fun n' σ' => n' = n ∧ σ' = yfl σ a (len : Int) v)) (rmL 1)) sch n σ 0 0 0 [(0, yR g a), (1, yI v)] []
  refine y_iconst (pc := 0) hF dJ7_fill_53178_0 ?_
  refine y_istore_n (pc := 1) (lv' := [(0, yR g a), (1, yI v), (2, yI 0)]) hF dJ7_fill_53178_1 (by decide) rfl rfl ?_
  refine y_aload_n (pc := 2) hF dJ7_fill_53178_2 0 rfl ?_
  refine y_alen (pc := 3) hF dJ7_fill_53178_3 hka hsa ?_
  refine y_istore_n (pc := 4) (lv' := [(0, yR g a), (1, yI v), (2, yI 0), (3, yI (len : Int))]) hF dJ7_fill_53178_4 (by decide) rfl rfl ?_
  have zL5 : ∀ (N : Nat) (i : Int), N = ((len : Int) - i).toNat → (0 ≤ i ∧ i ≤ (len : Int)) → yV X0 g 4 (yQ X0 g sch (yPv (fun n' σ' => n' = n ∧ σ' = yfl σ a (len : Int) v)) (rmL 1)) sch n (yfl σ a i v) 0 0 5 [(0, yR g a), (1, yI v), (2, yI i), (3, yI (len : Int))] [] := by
    intro N
    induction N using Nat.strongRecOn with
    | ind N zh5 =>
      intro i  zN5 zI5
      refine y_iload_n (pc := 5) hF dJ7_fill_53178_5 2 rfl ?_
      refine y_iload_n (pc := 6) hF dJ7_fill_53178_6 3 rfl ?_
      refine y_icmp_ge (pc := 7) hF dJ7_fill_53178_7 20 rfl (by omega) (by omega) (fun zc7 => ?_) (fun zc7 => ?_)
      · skip
        exact y_vret (pc := 20) hF dJ7_fill_53178_20 (Nat.zero_le _) (Nat.zero_le _) ⟨rfl, rfl, by rw [show i = (len : Int) by omega]⟩
      · skip
        refine y_aload_n (pc := 10) hF dJ7_fill_53178_10 0 rfl ?_
        refine y_iload_n (pc := 11) hF dJ7_fill_53178_11 2 rfl ?_
        refine y_iload_n (pc := 12) hF dJ7_fill_53178_12 1 rfl ?_
        refine y_iastore (pc := 13) hF dJ7_fill_53178_13 hka hsa (by omega) (by omega) ?_
        refine y_iinc (pc := 14) (lv' := [(0, yR g a), (1, yI v), (2, yI (i + 1)), (3, yI (len : Int))]) hF dJ7_fill_53178_14 2 rfl (by decide) rfl rfl ?_
        refine y_goto (pc := 17) hF dJ7_fill_53178_17 5 rfl ?_
        rw [yfl_s _ _ _ _ zI5.1]
        exact zh5 _ (by omega) (i + 1) rfl (by omega)
  have zq := zL5 _ 0 rfl (by omega)
  rw [yfl_0] at zq
  exact zq

theorem dX1_clear_0 : decode cX1_clear 0 = .ok (.aload_n 0, 1) := by decide +kernel
theorem dX1_clear_1 : decode cX1_clear 1 = .ok (.iconst 0, 1) := by decide +kernel
theorem dX1_clear_2 : decode cX1_clear 2 = .ok (.putfield 19, 3) := by decide +kernel
theorem dX1_clear_5 : decode cX1_clear 5 = .ok (.return_, 1) := by decide +kernel
set_option maxHeartbeats 4000000 in
set_option maxRecDepth 100000 in
theorem tX1_clear {l : Launch} {g : yG} {n : Nat} {σ : yM} (hn : 172 ≤ n) : yMet l g yX1_clear cX1_clear 1 none (rmL 1) [yR g 13] (SC g) n σ (SC g) (yPv (fun n' σ' => n' = n ∧ σ' = yset σ 13 2 0)) := by
  have z13 : 13 < n := by omega
  have z14 : 14 < n := by omega
  refine y_start (by decide) (Nat.le_of_ble_eq_true rfl) (fun X0 hF => ?_)
  show yV X0 g 1 (yQ X0 g (SC g) (yPv (fun n' σ' => n' = n ∧ σ' = yset σ 13 2 0)) (rmL 1)) (SC g) n σ 0 0 0 [(0, yR g 13)] []
  refine y_aload_n (pc := 0) hF dX1_clear_0 0 rfl ?_
  refine y_iconst (pc := 1) hF dX1_clear_1 ?_
  refine y_putf (pc := 2) (ci := 1) (σ' := yset σ 13 2 0) (sch' := (SC g)) hF dX1_clear_2 z13 rfl rfl rfl iX1 2 (by decide) w_298 tyX1 tyX1_ok nmX1 rfl rfl rfl rfl (Nat.le_of_ble_eq_true rfl) rfl (y_ps rfl) (fun k' h => ⟨yset_n h, rfl⟩) ?_
  exact y_vret (pc := 5) hF dX1_clear_5 (Nat.zero_le _) (Nat.zero_le _) ⟨rfl, rfl, rfl⟩

theorem dX1_prepare_0 : decode cX1_prepare 0 = .ok (.aload_n 0, 1) := by decide +kernel
theorem dX1_prepare_1 : decode cX1_prepare 1 = .ok (.getfield 11, 3) := by decide +kernel
theorem dX1_prepare_4 : decode cX1_prepare 4 = .ok (.aload_n 0, 1) := by decide +kernel
theorem dX1_prepare_5 : decode cX1_prepare 5 = .ok (.getfield 15, 3) := by decide +kernel
theorem dX1_prepare_8 : decode cX1_prepare 8 = .ok (.aaload, 1) := by decide +kernel
theorem dX1_prepare_9 : decode cX1_prepare 9 = .ok (.astore_n 3, 1) := by decide +kernel
theorem dX1_prepare_10 : decode cX1_prepare 10 = .ok (.aload_n 3, 1) := by decide +kernel
theorem dX1_prepare_11 : decode cX1_prepare 11 = .ok (.getfield 23, 3) := by decide +kernel
theorem dX1_prepare_14 : decode cX1_prepare 14 = .ok (.aload_n 1, 1) := by decide +kernel
theorem dX1_prepare_15 : decode cX1_prepare 15 = .ok (.invokevirtual 27, 3) := by decide +kernel
theorem dX1_prepare_18 : decode cX1_prepare 18 = .ok (.aload_n 3, 1) := by decide +kernel
theorem dX1_prepare_19 : decode cX1_prepare 19 = .ok (.getfield 33, 3) := by decide +kernel
theorem dX1_prepare_22 : decode cX1_prepare 22 = .ok (.aload_n 2, 1) := by decide +kernel
theorem dX1_prepare_23 : decode cX1_prepare 23 = .ok (.invokevirtual 37, 3) := by decide +kernel
theorem dX1_prepare_26 : decode cX1_prepare 26 = .ok (.return_, 1) := by decide +kernel
set_option maxHeartbeats 4000000 in
set_option maxRecDepth 100000 in
theorem tX1_prepare {l : Launch} {g : yG} {n : Nat} {σ : yM} (k j : Nat) (w h : Int) (T S F P O : Int → Int → Int) (nf df nl : Int) (lg : Int → Int → Int) (hP : isPic k) (hj : isJou j) (hA : rC σ k w h T S F P O) (hJ : rJ σ j nf df nl lg) (hn : 172 ≤ n) (hd dp : Int) (hh1 : σ 13 1 = hd) (hh2 : σ 13 2 = dp) (hdr : 0 ≤ hd ∧ hd < 11) (dpr : 0 ≤ dp ∧ dp ≤ 10) (hk : k + 5 < 13 ∨ 114 ≤ k) (hj0 : j + 1 < 13 ∨ 114 ≤ j) : yMet l g yX1_prepare cX1_prepare 4 none (rmL 3) [yR g 13, yR g k, yR g j] (SC g) n σ (SC g) (yPv (fun n' σ' => n' = n ∧ fc (15 + 9 * (hd).toNat + 1) (15 + 9 * (hd).toNat + 8) σ σ' ∧ rXc σ' (15 + 9 * (hd).toNat + 1) (15 + 9 * (hd).toNat + 7) w h (T, S, F, P, O, nf, df, nl, lg))) := by
  have z13 : 13 < n := by omega
  have z14 : 14 < n := by omega
  have zhd : hd.toNat < 11 := by omega
  have zsn : 15 + 9 * (hd).toNat < n := by omega
  have zsp : 15 + 9 * (hd).toNat + 1 < n := by omega
  have zsj : 15 + 9 * (hd).toNat + 7 < n := by omega
  refine y_start (by decide) (Nat.le_of_ble_eq_true rfl) (fun X0 hF => ?_)
  show yV X0 g 4 (yQ X0 g (SC g) (yPv (fun n' σ' => n' = n ∧ fc (15 + 9 * (hd).toNat + 1) (15 + 9 * (hd).toNat + 8) σ σ' ∧ rXc σ' (15 + 9 * (hd).toNat + 1) (15 + 9 * (hd).toNat + 7) w h (T, S, F, P, O, nf, df, nl, lg))) (rmL 3)) (SC g) n σ 0 0 0 [(0, yR g 13), (1, yR g k), (2, yR g j)] []
  refine y_aload_n (pc := 0) hF dX1_prepare_0 0 rfl ?_
  refine y_get (pc := 1) (ci := 1) hF dX1_prepare_1 z13 rfl rfl rfl iX1 0 (by decide) w_296 rfl ?_
  refine y_aload_n (pc := 4) hF dX1_prepare_4 0 rfl ?_
  refine y_get (pc := 5) (ci := 1) hF dX1_prepare_5 z13 rfl rfl rfl iX1 1 (by decide) w_297 rfl ?_
  rw [show σ 13 1 = hd from hh1]
  refine y_aaR (pc := 8) hF dX1_prepare_8 hn rfl hdr ?_
  refine y_astore_n (pc := 9) (lv' := [(0, yR g 13), (1, yR g k), (2, yR g j), (3, yR g (15 + 9 * (hd).toNat))]) hF dX1_prepare_9 (by decide) rfl rfl ?_
  refine y_aload_n (pc := 10) hF dX1_prepare_10 3 rfl ?_
  refine y_getN (pc := 11) (ci := 8) hF dX1_prepare_11 zsn (snp_r zhd g) rfl rfl iX8 0 (by decide) w_288 rfl ?_
  refine y_aload_n (pc := 14) hF dX1_prepare_14 1 rfl ?_
  refine y_cv (y_rV (pc := 15) hF (tX4_copyFrom (15 + 9 * (hd).toNat + 1) k w h T S F P O hn (pic_r zhd) hP hA (by omega)) dX1_prepare_15 zsp ((pic_r zhd).2 g).1 rfl rfl w_580 qX4_copyFrom rfl ⟨Nat.le_of_ble_eq_true rfl, Nat.le_of_ble_eq_true rfl⟩ ⟨Nat.zero_le _, Nat.zero_le _⟩ (Nat.le_of_ble_eq_true rfl) rfl) rfl rfl (fun n' σ15 zp15 => ?_)
  obtain ⟨zn15, zp15⟩ := zp15
  have zn15 := zn15.symm
  subst zn15
  have zJ15 := hJ.fc (by omega) zp15.1
  refine y_aload_n (pc := 18) hF dX1_prepare_18 3 rfl ?_
  refine y_getN (pc := 19) (ci := 8) hF dX1_prepare_19 zsn (snp_r zhd g) rfl rfl iX8 1 (by decide) w_290 rfl ?_
  refine y_aload_n (pc := 22) hF dX1_prepare_22 2 rfl ?_
  refine y_cv (y_rV (pc := 23) hF (tX2_copyFrom (15 + 9 * (hd).toNat + 7) j hn (jou_r zhd) hj (by omega)) dX1_prepare_23 zsj ((jou_r zhd).2 g).1 rfl rfl w_581 qX2_copyFrom rfl ⟨Nat.le_of_ble_eq_true rfl, Nat.le_of_ble_eq_true rfl⟩ ⟨Nat.zero_le _, Nat.zero_le _⟩ (Nat.le_of_ble_eq_true rfl) rfl) rfl rfl (fun n' σ23 zp23 => ?_)
  obtain ⟨zn23, zp23⟩ := zp23
  have zn23 := zn23.symm
  subst zn23
  exact y_vret (pc := 26) hF dX1_prepare_26 (Nat.zero_le _) (Nat.zero_le _) ⟨rfl, rfl, (zp15.1.wk (by omega) (by omega)).tr (zp23.1.wk (by omega) (by omega)), zp15.2.fc (by omega) zp23.1, zp23.2 _ _ _ _ zJ15⟩

theorem dX1_commitIfAny_0 : decode cX1_commitIfAny 0 = .ok (.iload_n 1, 1) := by decide +kernel
theorem dX1_commitIfAny_1 : decode cX1_commitIfAny 1 = .ok (.ifCond .le 34, 3) := by decide +kernel
theorem dX1_commitIfAny_4 : decode cX1_commitIfAny 4 = .ok (.aload_n 0, 1) := by decide +kernel
theorem dX1_commitIfAny_5 : decode cX1_commitIfAny 5 = .ok (.aload_n 0, 1) := by decide +kernel
theorem dX1_commitIfAny_6 : decode cX1_commitIfAny 6 = .ok (.getfield 15, 3) := by decide +kernel
theorem dX1_commitIfAny_9 : decode cX1_commitIfAny 9 = .ok (.iconst 1, 1) := by decide +kernel
theorem dX1_commitIfAny_10 : decode cX1_commitIfAny 10 = .ok (.iadd, 1) := by decide +kernel
theorem dX1_commitIfAny_11 : decode cX1_commitIfAny 11 = .ok (.aload_n 0, 1) := by decide +kernel
theorem dX1_commitIfAny_12 : decode cX1_commitIfAny 12 = .ok (.getfield 11, 3) := by decide +kernel
theorem dX1_commitIfAny_15 : decode cX1_commitIfAny 15 = .ok (.arraylength, 1) := by decide +kernel
theorem dX1_commitIfAny_16 : decode cX1_commitIfAny 16 = .ok (.irem, 1) := by decide +kernel
theorem dX1_commitIfAny_17 : decode cX1_commitIfAny 17 = .ok (.putfield 15, 3) := by decide +kernel
theorem dX1_commitIfAny_20 : decode cX1_commitIfAny 20 = .ok (.aload_n 0, 1) := by decide +kernel
theorem dX1_commitIfAny_21 : decode cX1_commitIfAny 21 = .ok (.aload_n 0, 1) := by decide +kernel
theorem dX1_commitIfAny_22 : decode cX1_commitIfAny 22 = .ok (.getfield 19, 3) := by decide +kernel
theorem dX1_commitIfAny_25 : decode cX1_commitIfAny 25 = .ok (.iconst 1, 1) := by decide +kernel
theorem dX1_commitIfAny_26 : decode cX1_commitIfAny 26 = .ok (.iadd, 1) := by decide +kernel
theorem dX1_commitIfAny_27 : decode cX1_commitIfAny 27 = .ok (.bipush 10, 2) := by decide +kernel
theorem dX1_commitIfAny_29 : decode cX1_commitIfAny 29 = .ok (.invokestatic 42, 3) := by decide +kernel
theorem dX1_commitIfAny_32 : decode cX1_commitIfAny 32 = .ok (.putfield 19, 3) := by decide +kernel
theorem dX1_commitIfAny_35 : decode cX1_commitIfAny 35 = .ok (.iload_n 1, 1) := by decide +kernel
theorem dX1_commitIfAny_36 : decode cX1_commitIfAny 36 = .ok (.ireturn, 1) := by decide +kernel
set_option maxHeartbeats 4000000 in
set_option maxRecDepth 100000 in
theorem tX1_commitIfAny {l : Launch} {g : yG} {n : Nat} {σ : yM} (hn : 172 ≤ n) (hd dp : Int) (hh1 : σ 13 1 = hd) (hh2 : σ 13 2 = dp) (hdr : 0 ≤ hd ∧ hd < 11) (dpr : 0 ≤ dp ∧ dp ≤ 10) (c : Int) (hc : 0 ≤ c ∧ c ≤ 100000) : yMet l g yX1_commitIfAny cX1_commitIfAny 2 (some .int) (rmL 1) [yR g 13, yI c] (SC g) n σ (SC g) (yPi (fun v n' σ' => n' = n ∧ v = c ∧ σ' = if 0 < c then yset (yset σ 13 1 ((hd + 1) % 11)) 13 2 (min (dp + 1) 10) else σ)) := by
  have z13 : 13 < n := by omega
  have z14 : 14 < n := by omega
  refine y_start (by decide) (Nat.le_of_ble_eq_true rfl) (fun X0 hF => ?_)
  show yV X0 g 2 (yQ X0 g (SC g) (yPi (fun v n' σ' => n' = n ∧ v = c ∧ σ' = if 0 < c then yset (yset σ 13 1 ((hd + 1) % 11)) 13 2 (min (dp + 1) 10) else σ)) (rmL 1)) (SC g) n σ 0 0 0 [(0, yR g 13), (1, yI c)] []
  refine y_iload_n (pc := 0) hF dX1_commitIfAny_0 1 rfl ?_
  refine y_if_le (pc := 1) hF dX1_commitIfAny_1 35 rfl (by omega) (fun zc1 => ?_) (fun zc1 => ?_)
  · skip
    refine y_iload_n (pc := 35) hF dX1_commitIfAny_35 1 rfl ?_
    exact y_iret (pc := 36) hF dX1_commitIfAny_36 (Nat.zero_le _) (Nat.zero_le _) ⟨_, rfl, rfl, rfl, by rw [if_neg (by omega)]⟩
  · skip
    refine y_aload_n (pc := 4) hF dX1_commitIfAny_4 0 rfl ?_
    refine y_aload_n (pc := 5) hF dX1_commitIfAny_5 0 rfl ?_
    refine y_get (pc := 6) (ci := 1) hF dX1_commitIfAny_6 z13 rfl rfl rfl iX1 1 (by decide) w_297 rfl ?_
    rw [show σ 13 1 = hd from hh1]
    refine y_iconst (pc := 9) hF dX1_commitIfAny_9 ?_
    refine y_iadd (pc := 10) hF dX1_commitIfAny_10 ?_
    refine y_aload_n (pc := 11) hF dX1_commitIfAny_11 0 rfl ?_
    refine y_get (pc := 12) (ci := 1) hF dX1_commitIfAny_12 z13 rfl rfl rfl iX1 0 (by decide) w_296 rfl ?_
    refine y_alenR (pc := 15) hF dX1_commitIfAny_15 z14 rfl ?_
    refine y_irem (pc := 16) hF dX1_commitIfAny_16 (by omega) (by omega) (by omega) ?_
    rw [show (hd + 1) - Int.tdiv (hd + 1) 11 * 11 = (hd + 1) % 11 from (y_rem (by omega) (by omega))]
    refine y_putf (pc := 17) (ci := 1) (σ' := yset σ 13 1 ((hd + 1) % 11)) (sch' := (SC g)) hF dX1_commitIfAny_17 z13 rfl rfl rfl iX1 1 (by decide) w_297 tyX1 tyX1_ok nmX1 rfl rfl rfl rfl (Nat.le_of_ble_eq_true rfl) rfl (y_ps rfl) (fun k' h => ⟨yset_n h, rfl⟩) ?_
    refine y_aload_n (pc := 20) hF dX1_commitIfAny_20 0 rfl ?_
    refine y_aload_n (pc := 21) hF dX1_commitIfAny_21 0 rfl ?_
    refine y_get (pc := 22) (ci := 1) hF dX1_commitIfAny_22 z13 rfl rfl rfl iX1 2 (by decide) w_298 rfl ?_
    rw [show (yset σ 13 1 ((hd + 1) % 11)) 13 2 = dp from hh2]
    refine y_iconst (pc := 25) hF dX1_commitIfAny_25 ?_
    refine y_iadd (pc := 26) hF dX1_commitIfAny_26 ?_
    refine y_bipush (pc := 27) hF dX1_commitIfAny_27 (by decide) ?_
    refine y_mmin (pc := 29) hF dX1_commitIfAny_29 w_793 w_699 w_103 w_700 (Nat.le_of_ble_eq_true rfl) (Nat.le_of_ble_eq_true rfl) ⟨Nat.zero_le _, Nat.zero_le _⟩ (by omega) (by omega) ?_
    refine y_putf (pc := 32) (ci := 1) (σ' := yset (yset σ 13 1 ((hd + 1) % 11)) 13 2 (min (dp + 1) 10)) (sch' := (SC g)) hF dX1_commitIfAny_32 z13 rfl rfl rfl iX1 2 (by decide) w_298 tyX1 tyX1_ok nmX1 rfl rfl rfl rfl (Nat.le_of_ble_eq_true rfl) rfl (y_ps rfl) (fun k' h => ⟨yset_n h, rfl⟩) ?_
    refine y_iload_n (pc := 35) hF dX1_commitIfAny_35 1 rfl ?_
    exact y_iret (pc := 36) hF dX1_commitIfAny_36 (Nat.zero_le _) (Nat.zero_le _) ⟨_, rfl, rfl, rfl, by rw [if_pos (by omega)]⟩

theorem dX1_takeBack_0 : decode cX1_takeBack 0 = .ok (.aload_n 0, 1) := by decide +kernel
theorem dX1_takeBack_1 : decode cX1_takeBack 1 = .ok (.getfield 19, 3) := by decide +kernel
theorem dX1_takeBack_4 : decode cX1_takeBack 4 = .ok (.ifCond .ne 5, 3) := by decide +kernel
theorem dX1_takeBack_7 : decode cX1_takeBack 7 = .ok (.iconst 0, 1) := by decide +kernel
theorem dX1_takeBack_8 : decode cX1_takeBack 8 = .ok (.ireturn, 1) := by decide +kernel
theorem dX1_takeBack_9 : decode cX1_takeBack 9 = .ok (.aload_n 0, 1) := by decide +kernel
theorem dX1_takeBack_10 : decode cX1_takeBack 10 = .ok (.aload_n 0, 1) := by decide +kernel
theorem dX1_takeBack_11 : decode cX1_takeBack 11 = .ok (.getfield 15, 3) := by decide +kernel
theorem dX1_takeBack_14 : decode cX1_takeBack 14 = .ok (.aload_n 0, 1) := by decide +kernel
theorem dX1_takeBack_15 : decode cX1_takeBack 15 = .ok (.getfield 11, 3) := by decide +kernel
theorem dX1_takeBack_18 : decode cX1_takeBack 18 = .ok (.arraylength, 1) := by decide +kernel
theorem dX1_takeBack_19 : decode cX1_takeBack 19 = .ok (.iadd, 1) := by decide +kernel
theorem dX1_takeBack_20 : decode cX1_takeBack 20 = .ok (.iconst 1, 1) := by decide +kernel
theorem dX1_takeBack_21 : decode cX1_takeBack 21 = .ok (.isub, 1) := by decide +kernel
theorem dX1_takeBack_22 : decode cX1_takeBack 22 = .ok (.aload_n 0, 1) := by decide +kernel
theorem dX1_takeBack_23 : decode cX1_takeBack 23 = .ok (.getfield 11, 3) := by decide +kernel
theorem dX1_takeBack_26 : decode cX1_takeBack 26 = .ok (.arraylength, 1) := by decide +kernel
theorem dX1_takeBack_27 : decode cX1_takeBack 27 = .ok (.irem, 1) := by decide +kernel
theorem dX1_takeBack_28 : decode cX1_takeBack 28 = .ok (.putfield 15, 3) := by decide +kernel
theorem dX1_takeBack_31 : decode cX1_takeBack 31 = .ok (.aload_n 0, 1) := by decide +kernel
theorem dX1_takeBack_32 : decode cX1_takeBack 32 = .ok (.dup, 1) := by decide +kernel
theorem dX1_takeBack_33 : decode cX1_takeBack 33 = .ok (.getfield 19, 3) := by decide +kernel
theorem dX1_takeBack_36 : decode cX1_takeBack 36 = .ok (.iconst 1, 1) := by decide +kernel
theorem dX1_takeBack_37 : decode cX1_takeBack 37 = .ok (.isub, 1) := by decide +kernel
theorem dX1_takeBack_38 : decode cX1_takeBack 38 = .ok (.putfield 19, 3) := by decide +kernel
theorem dX1_takeBack_41 : decode cX1_takeBack 41 = .ok (.aload_n 0, 1) := by decide +kernel
theorem dX1_takeBack_42 : decode cX1_takeBack 42 = .ok (.getfield 11, 3) := by decide +kernel
theorem dX1_takeBack_45 : decode cX1_takeBack 45 = .ok (.aload_n 0, 1) := by decide +kernel
theorem dX1_takeBack_46 : decode cX1_takeBack 46 = .ok (.getfield 15, 3) := by decide +kernel
theorem dX1_takeBack_49 : decode cX1_takeBack 49 = .ok (.aaload, 1) := by decide +kernel
theorem dX1_takeBack_50 : decode cX1_takeBack 50 = .ok (.astore_n 3, 1) := by decide +kernel
theorem dX1_takeBack_51 : decode cX1_takeBack 51 = .ok (.aload_n 1, 1) := by decide +kernel
theorem dX1_takeBack_52 : decode cX1_takeBack 52 = .ok (.aload_n 3, 1) := by decide +kernel
theorem dX1_takeBack_53 : decode cX1_takeBack 53 = .ok (.getfield 23, 3) := by decide +kernel
theorem dX1_takeBack_56 : decode cX1_takeBack 56 = .ok (.invokevirtual 27, 3) := by decide +kernel
theorem dX1_takeBack_59 : decode cX1_takeBack 59 = .ok (.aload_n 2, 1) := by decide +kernel
theorem dX1_takeBack_60 : decode cX1_takeBack 60 = .ok (.aload_n 3, 1) := by decide +kernel
theorem dX1_takeBack_61 : decode cX1_takeBack 61 = .ok (.getfield 33, 3) := by decide +kernel
theorem dX1_takeBack_64 : decode cX1_takeBack 64 = .ok (.invokevirtual 37, 3) := by decide +kernel
theorem dX1_takeBack_67 : decode cX1_takeBack 67 = .ok (.iconst 1, 1) := by decide +kernel
theorem dX1_takeBack_68 : decode cX1_takeBack 68 = .ok (.ireturn, 1) := by decide +kernel
set_option maxHeartbeats 4000000 in
set_option maxRecDepth 100000 in
theorem tX1_takeBack {l : Launch} {g : yG} {n : Nat} {σ : yM} (k j : Nat) (w h : Int) (T S F P O : Int → Int → Int) (nf df nl : Int) (lg : Int → Int → Int) (hP : isPic k) (hj : isJou j) (hn : 172 ≤ n) (hd dp : Int) (hh1 : σ 13 1 = hd) (hh2 : σ 13 2 = dp) (hdr : 0 ≤ hd ∧ hd < 11) (dpr : 0 ≤ dp ∧ dp ≤ 10) (hk : k + 5 < 13 ∨ 114 ≤ k) (hj0 : j + 1 < 13 ∨ 114 ≤ j) (hjk : j + 1 < k ∨ k + 5 < j) (hX : 0 < dp → rXc σ (15 + 9 * ((hd + 10) % 11).toNat + 1) (15 + 9 * ((hd + 10) % 11).toNat + 7) w h (T, S, F, P, O, nf, df, nl, lg)) : yMet l g yX1_takeBack cX1_takeBack 4 (some .boolean) (rmL 3) [yR g 13, yR g k, yR g j] (SC g) n σ (SC g) (yPi (fun v n' σ' => n' = n ∧ ((dp = 0 ∧ v = 0 ∧ σ' = σ) ∨ (0 < dp ∧ v = 1 ∧ σ' 13 1 = (hd + 10) % 11 ∧ σ' 13 2 = dp - 1 ∧ (∀ c : Nat, c ≠ 13 → (c < k ∨ k + 5 < c) → (c < j ∨ j + 1 < c) → σ' c = σ c) ∧ rXc σ' k j w h (T, S, F, P, O, nf, df, nl, lg))))) := by
  have z13 : 13 < n := by omega
  have z14 : 14 < n := by omega
  have zhd : ((hd + 10) % 11).toNat < 11 := by omega
  have zsn : 15 + 9 * ((hd + 10) % 11).toNat < n := by omega
  have zkn : k < n := by have := hP.1; omega
  have zjn : j < n := by have := hj.1; omega
  refine y_start (by decide) (Nat.le_of_ble_eq_true rfl) (fun X0 hF => ?_)
  show yV X0 g 4 (yQ X0 g (SC g) (yPi (fun v n' σ' => n' = n ∧ ((dp = 0 ∧ v = 0 ∧ σ' = σ) ∨ (0 < dp ∧ v = 1 ∧ σ' 13 1 = (hd + 10) % 11 ∧ σ' 13 2 = dp - 1 ∧ (∀ c : Nat, c ≠ 13 → (c < k ∨ k + 5 < c) → (c < j ∨ j + 1 < c) → σ' c = σ c) ∧ rXc σ' k j w h (T, S, F, P, O, nf, df, nl, lg))))) (rmL 3)) (SC g) n σ 0 0 0 [(0, yR g 13), (1, yR g k), (2, yR g j)] []
  refine y_aload_n (pc := 0) hF dX1_takeBack_0 0 rfl ?_
  refine y_get (pc := 1) (ci := 1) hF dX1_takeBack_1 z13 rfl rfl rfl iX1 2 (by decide) w_298 rfl ?_
  rw [show σ 13 2 = dp from hh2]
  refine y_if_ne (pc := 4) hF dX1_takeBack_4 9 rfl (by omega) (fun zc4 => ?_) (fun zc4 => ?_)
  · skip
    refine y_aload_n (pc := 9) hF dX1_takeBack_9 0 rfl ?_
    refine y_aload_n (pc := 10) hF dX1_takeBack_10 0 rfl ?_
    refine y_get (pc := 11) (ci := 1) hF dX1_takeBack_11 z13 rfl rfl rfl iX1 1 (by decide) w_297 rfl ?_
    rw [show σ 13 1 = hd from hh1]
    refine y_aload_n (pc := 14) hF dX1_takeBack_14 0 rfl ?_
    refine y_get (pc := 15) (ci := 1) hF dX1_takeBack_15 z13 rfl rfl rfl iX1 0 (by decide) w_296 rfl ?_
    refine y_alenR (pc := 18) hF dX1_takeBack_18 z14 rfl ?_
    refine y_iadd (pc := 19) hF dX1_takeBack_19 ?_
    refine y_iconst (pc := 20) hF dX1_takeBack_20 ?_
    refine y_isub (pc := 21) hF dX1_takeBack_21 ?_
    refine y_aload_n (pc := 22) hF dX1_takeBack_22 0 rfl ?_
    refine y_get (pc := 23) (ci := 1) hF dX1_takeBack_23 z13 rfl rfl rfl iX1 0 (by decide) w_296 rfl ?_
    refine y_alenR (pc := 26) hF dX1_takeBack_26 z14 rfl ?_
    refine y_irem (pc := 27) hF dX1_takeBack_27 (by omega) (by omega) (by omega) ?_
    rw [show ((hd + 11) - 1) - Int.tdiv ((hd + 11) - 1) 11 * 11 = (hd + 10) % 11 from (by rw [y_rem (by omega) (by omega), show hd + 11 - 1 = hd + 10 by omega])]
    refine y_putf (pc := 28) (ci := 1) (σ' := yset σ 13 1 ((hd + 10) % 11)) (sch' := (SC g)) hF dX1_takeBack_28 z13 rfl rfl rfl iX1 1 (by decide) w_297 tyX1 tyX1_ok nmX1 rfl rfl rfl rfl (Nat.le_of_ble_eq_true rfl) rfl (y_ps rfl) (fun k' h => ⟨yset_n h, rfl⟩) ?_
    refine y_aload_n (pc := 31) hF dX1_takeBack_31 0 rfl ?_
    refine y_dup (pc := 32) hF dX1_takeBack_32 rfl ?_
    refine y_get (pc := 33) (ci := 1) hF dX1_takeBack_33 z13 rfl rfl rfl iX1 2 (by decide) w_298 rfl ?_
    rw [show (yset σ 13 1 ((hd + 10) % 11)) 13 2 = dp from (by rw [yset_o (by omega)]; exact hh2)]
    refine y_iconst (pc := 36) hF dX1_takeBack_36 ?_
    refine y_isub (pc := 37) hF dX1_takeBack_37 ?_
    refine y_putf (pc := 38) (ci := 1) (σ' := yset (yset σ 13 1 ((hd + 10) % 11)) 13 2 (dp - 1)) (sch' := (SC g)) hF dX1_takeBack_38 z13 rfl rfl rfl iX1 2 (by decide) w_298 tyX1 tyX1_ok nmX1 rfl rfl rfl rfl (Nat.le_of_ble_eq_true rfl) rfl (y_ps rfl) (fun k' h => ⟨yset_n h, rfl⟩) ?_
    obtain ⟨τ0, hτ0⟩ : ∃ s, s = yset (yset σ 13 1 ((hd + 10) % 11)) 13 2 (dp - 1) := ⟨_, rfl⟩
    rw [← hτ0]
    have zt0 : ∀ c : Nat, c ≠ 13 → τ0 c = σ c := fun c hc => by rw [hτ0, yset_n hc, yset_n hc]
    have zX := hX (by omega)
    have zA0 := zX.1.fr (σ' := τ0) (fun c a b => zt0 c (by omega))
    have zJ0 := zX.2.fr (σ' := τ0) (zt0 _ (by omega)) (zt0 _ (by omega))
    have z131 : τ0 13 1 = (hd + 10) % 11 := by rw [hτ0, yset_o (by omega), yset_e]
    have z132 : τ0 13 2 = dp - 1 := by rw [hτ0, yset_e]
    refine y_aload_n (pc := 41) hF dX1_takeBack_41 0 rfl ?_
    refine y_get (pc := 42) (ci := 1) hF dX1_takeBack_42 z13 rfl rfl rfl iX1 0 (by decide) w_296 rfl ?_
    refine y_aload_n (pc := 45) hF dX1_takeBack_45 0 rfl ?_
    refine y_get (pc := 46) (ci := 1) hF dX1_takeBack_46 z13 rfl rfl rfl iX1 1 (by decide) w_297 rfl ?_
    rw [show τ0 13 1 = (hd + 10) % 11 from z131]
    refine y_aaR (pc := 49) hF dX1_takeBack_49 hn rfl (by omega) ?_
    refine y_astore_n (pc := 50) (lv' := [(0, yR g 13), (1, yR g k), (2, yR g j), (3, yR g (15 + 9 * ((hd + 10) % 11).toNat))]) hF dX1_takeBack_50 (by decide) rfl rfl ?_
    refine y_aload_n (pc := 51) hF dX1_takeBack_51 1 rfl ?_
    refine y_aload_n (pc := 52) hF dX1_takeBack_52 3 rfl ?_
    refine y_getN (pc := 53) (ci := 8) hF dX1_takeBack_53 zsn (snp_r zhd g) rfl rfl iX8 0 (by decide) w_288 rfl ?_
    refine y_cv (y_rV (pc := 56) hF (tX4_copyFrom k (15 + 9 * ((hd + 10) % 11).toNat + 1) w h T S F P O hn hP (pic_r zhd) zA0 (by omega)) dX1_takeBack_56 zkn (hP.2 g).1 rfl rfl w_580 qX4_copyFrom rfl ⟨Nat.le_of_ble_eq_true rfl, Nat.le_of_ble_eq_true rfl⟩ ⟨Nat.zero_le _, Nat.zero_le _⟩ (Nat.le_of_ble_eq_true rfl) rfl) rfl rfl (fun n' σ56 zp56 => ?_)
    obtain ⟨zn56, zp56⟩ := zp56
    have zn56 := zn56.symm
    subst zn56
    have zJ56 := zJ0.fc (by omega) zp56.1
    refine y_aload_n (pc := 59) hF dX1_takeBack_59 2 rfl ?_
    refine y_aload_n (pc := 60) hF dX1_takeBack_60 3 rfl ?_
    refine y_getN (pc := 61) (ci := 8) hF dX1_takeBack_61 zsn (snp_r zhd g) rfl rfl iX8 1 (by decide) w_290 rfl ?_
    refine y_cv (y_rV (pc := 64) hF (tX2_copyFrom j (15 + 9 * ((hd + 10) % 11).toNat + 7) hn hj (jou_r zhd) (by omega)) dX1_takeBack_64 zjn (hj.2 g).1 rfl rfl w_581 qX2_copyFrom rfl ⟨Nat.le_of_ble_eq_true rfl, Nat.le_of_ble_eq_true rfl⟩ ⟨Nat.zero_le _, Nat.zero_le _⟩ (Nat.le_of_ble_eq_true rfl) rfl) rfl rfl (fun n' σ64 zp64 => ?_)
    obtain ⟨zn64, zp64⟩ := zp64
    have zn64 := zn64.symm
    subst zn64
    refine y_iconst (pc := 67) hF dX1_takeBack_67 ?_
    exact y_zret (pc := 68) hF dX1_takeBack_68 (by decide) (Nat.zero_le _) (Nat.zero_le _) ⟨_, rfl, rfl, Or.inr ⟨by omega, rfl, by rw [zp64.1 13 (by omega), zp56.1 13 (by omega)]; exact z131, by rw [zp64.1 13 (by omega), zp56.1 13 (by omega)]; exact z132, fun c a b d => by rw [zp64.1 c (by omega), zp56.1 c (by omega), zt0 c a], zp56.2.fc (by omega) zp64.1, zp64.2 _ _ _ _ zJ56⟩⟩
  · skip
    refine y_iconst (pc := 7) hF dX1_takeBack_7 ?_
    exact y_zret (pc := 8) hF dX1_takeBack_8 (by decide) (Nat.zero_le _) (Nat.zero_le _) ⟨_, rfl, rfl, Or.inl ⟨by omega, rfl, rfl⟩⟩

theorem dX3_join_0 : decode cX3_join 0 = .ok (.aload_n 0, 1) := by decide +kernel
theorem dX3_join_1 : decode cX3_join 1 = .ok (.getfield 9, 3) := by decide +kernel
theorem dX3_join_4 : decode cX3_join 4 = .ok (.iload_n 1, 1) := by decide +kernel
theorem dX3_join_5 : decode cX3_join 5 = .ok (.iaload, 1) := by decide +kernel
theorem dX3_join_6 : decode cX3_join 6 = .ok (.iconst (-1), 1) := by decide +kernel
theorem dX3_join_7 : decode cX3_join 7 = .ok (.if_icmp .ne 40, 3) := by decide +kernel
theorem dX3_join_10 : decode cX3_join 10 = .ok (.aload_n 0, 1) := by decide +kernel
theorem dX3_join_11 : decode cX3_join 11 = .ok (.getfield 18, 3) := by decide +kernel
theorem dX3_join_14 : decode cX3_join 14 = .ok (.sipush 400, 3) := by decide +kernel
theorem dX3_join_17 : decode cX3_join 17 = .ok (.if_icmp .ge 30, 3) := by decide +kernel
theorem dX3_join_20 : decode cX3_join 20 = .ok (.aload_n 0, 1) := by decide +kernel
theorem dX3_join_21 : decode cX3_join 21 = .ok (.getfield 9, 3) := by decide +kernel
theorem dX3_join_24 : decode cX3_join 24 = .ok (.iload_n 1, 1) := by decide +kernel
theorem dX3_join_25 : decode cX3_join 25 = .ok (.iload_n 2, 1) := by decide +kernel
theorem dX3_join_26 : decode cX3_join 26 = .ok (.iastore, 1) := by decide +kernel
theorem dX3_join_27 : decode cX3_join 27 = .ok (.aload_n 0, 1) := by decide +kernel
theorem dX3_join_28 : decode cX3_join 28 = .ok (.getfield 15, 3) := by decide +kernel
theorem dX3_join_31 : decode cX3_join 31 = .ok (.aload_n 0, 1) := by decide +kernel
theorem dX3_join_32 : decode cX3_join 32 = .ok (.getfield 18, 3) := by decide +kernel
theorem dX3_join_35 : decode cX3_join 35 = .ok (.iload_n 1, 1) := by decide +kernel
theorem dX3_join_36 : decode cX3_join 36 = .ok (.iastore, 1) := by decide +kernel
theorem dX3_join_37 : decode cX3_join 37 = .ok (.aload_n 0, 1) := by decide +kernel
theorem dX3_join_38 : decode cX3_join 38 = .ok (.dup, 1) := by decide +kernel
theorem dX3_join_39 : decode cX3_join 39 = .ok (.getfield 18, 3) := by decide +kernel
theorem dX3_join_42 : decode cX3_join 42 = .ok (.iconst 1, 1) := by decide +kernel
theorem dX3_join_43 : decode cX3_join 43 = .ok (.iadd, 1) := by decide +kernel
theorem dX3_join_44 : decode cX3_join 44 = .ok (.putfield 18, 3) := by decide +kernel
theorem dX3_join_47 : decode cX3_join 47 = .ok (.return_, 1) := by decide +kernel
set_option maxHeartbeats 4000000 in
set_option maxRecDepth 100000 in
theorem tX3_join {l : Launch} {g : yG} {n : Nat} {σ : yM} (w h : Int) (hn : 172 ≤ n) (hw : 1 ≤ w ∧ w ≤ 20) (hh : 1 ≤ h ∧ h ≤ 20) (q : aP) (hL : rPc σ w h q.1) (hQ : rQc σ w q.2) (hk : pOk w h q) (a b num : Int) (hi : sIn w h a b = true) (hnum : 0 ≤ num ∧ num ≤ 1000) : yMet l g yX3_join cX3_join 3 none (rmL 1) [yR g 128, yI (b * w + a), yI num] (SC g) n σ (SC g) (yPv (fun n' σ' => n' = n ∧ fc 128 130 σ σ' ∧ rPc σ' w h (jnF num q a b).1 ∧ rQc σ' w (jnF num q a b).2)) := by
  have z128 : 128 < n := by omega
  have z129 : 129 < n := by omega
  have z130 : 130 < n := by omega
  have zi := sIn_iff.mp hi
  have zx := y_ix (w := w) (h := h) (x := a) (y := b) hw hh (by omega) (by omega)
  have zl := hk.len hw hh
  have zb := hk.2.2 a b
  refine y_start (by decide) (Nat.le_of_ble_eq_true rfl) (fun X0 hF => ?_)
  show yV X0 g 3 (yQ X0 g (SC g) (yPv (fun n' σ' => n' = n ∧ fc 128 130 σ σ' ∧ rPc σ' w h (jnF num q a b).1 ∧ rQc σ' w (jnF num q a b).2)) (rmL 1)) (SC g) n σ 0 0 0 [(0, yR g 128), (1, yI (b * w + a)), (2, yI num)] []
  refine y_aload_n (pc := 0) hF dX3_join_0 0 rfl ?_
  refine y_get (pc := 1) (ci := 3) hF dX3_join_1 z128 rfl rfl rfl iX3 0 (by decide) w_448 rfl ?_
  refine y_iload_n (pc := 4) hF dX3_join_4 1 rfl ?_
  refine y_iaload (pc := 5) hF dX3_join_5 z129 rfl ⟨by omega, by show _ < (400 : Int); omega⟩ (by decide) ?_
  rw [show σ 129 (b * w + a) = q.1 a b from (hL a b zi.1 zi.2.1 zi.2.2.1 zi.2.2.2)]
  refine y_iconst (pc := 6) hF dX3_join_6 ?_
  refine y_icmp_ne (pc := 7) hF dX3_join_7 47 rfl (by omega) (by omega) (fun zc7 => ?_) (fun zc7 => ?_)
  · skip
    exact y_vret (pc := 47) hF dX3_join_47 (Nat.zero_le _) (Nat.zero_le _) ⟨rfl, rfl, fc.rf σ, by unfold jnF; rw [if_neg zc7]; exact ⟨hL, hQ⟩⟩
  · skip
    refine y_aload_n (pc := 10) hF dX3_join_10 0 rfl ?_
    refine y_get (pc := 11) (ci := 3) hF dX3_join_11 z128 rfl rfl rfl iX3 2 (by decide) w_451 rfl ?_
    rw [show σ 128 2 = (q.2.length : Int) from hQ.1]
    refine y_sipush (pc := 14) hF dX3_join_14 (by decide) ?_
    refine y_icmp_ge (pc := 17) hF dX3_join_17 47 rfl (by omega) (by omega) (fun zc17 => ?_) (fun zc17 => ?_)
    · skip
      exact y_vret (pc := 47) hF dX3_join_47 (Nat.zero_le _) (Nat.zero_le _) (by exfalso; have := hk.room hw hh hi zc7; omega)
    · skip
      refine y_aload_n (pc := 20) hF dX3_join_20 0 rfl ?_
      refine y_get (pc := 21) (ci := 3) hF dX3_join_21 z128 rfl rfl rfl iX3 0 (by decide) w_448 rfl ?_
      refine y_iload_n (pc := 24) hF dX3_join_24 1 rfl ?_
      refine y_iload_n (pc := 25) hF dX3_join_25 2 rfl ?_
      refine y_iastore (pc := 26) hF dX3_join_26 z129 rfl ⟨by omega, by show _ < (400 : Int); omega⟩ (by decide) ?_
      refine y_aload_n (pc := 27) hF dX3_join_27 0 rfl ?_
      refine y_get (pc := 28) (ci := 3) hF dX3_join_28 z128 rfl rfl rfl iX3 1 (by decide) w_450 rfl ?_
      refine y_aload_n (pc := 31) hF dX3_join_31 0 rfl ?_
      refine y_get (pc := 32) (ci := 3) hF dX3_join_32 z128 rfl rfl rfl iX3 2 (by decide) w_451 rfl ?_
      rw [show (yset σ 129 (b * w + a) num) 128 2 = (q.2.length : Int) from (by rw [yset_n (by omega)]; exact hQ.1)]
      refine y_iload_n (pc := 35) hF dX3_join_35 1 rfl ?_
      refine y_iastore (pc := 36) hF dX3_join_36 z130 rfl ⟨by omega, by show _ < (400 : Int); omega⟩ (by decide) ?_
      refine y_aload_n (pc := 37) hF dX3_join_37 0 rfl ?_
      refine y_dup (pc := 38) hF dX3_join_38 rfl ?_
      refine y_get (pc := 39) (ci := 3) hF dX3_join_39 z128 rfl rfl rfl iX3 2 (by decide) w_451 rfl ?_
      rw [show (yset (yset σ 129 (b * w + a) num) 130 (q.2.length : Int) (b * w + a)) 128 2 = (q.2.length : Int) from (by rw [yset_n (by omega), yset_n (by omega)]; exact hQ.1)]
      refine y_iconst (pc := 42) hF dX3_join_42 ?_
      refine y_iadd (pc := 43) hF dX3_join_43 ?_
      refine y_putf (pc := 44) (ci := 3) (σ' := yset (yset (yset σ 129 (b * w + a) num) 130 (q.2.length : Int) (b * w + a)) 128 2 ((q.2.length : Int) + 1)) (sch' := (SC g)) hF dX3_join_44 z128 rfl rfl rfl iX3 2 (by decide) w_451 tyX3 tyX3_ok nmX3 rfl rfl rfl rfl (Nat.le_of_ble_eq_true rfl) rfl (y_ps rfl) (fun k' h => ⟨yset_n h, rfl⟩) ?_
      exact y_vret (pc := 47) hF dX3_join_47 (Nat.zero_le _) (Nat.zero_le _) ⟨rfl, rfl, (((fc.rf σ).st (by omega)).st (by omega)).st (by omega), by unfold jnF; rw [if_pos zc7]; exact ⟨fun x y x1 x2 y1 y2 => by show _ = lup q.1 a b num x y; rw [yset_n (by omega), yset_n (by omega), yset_ap]; by_cases e : x = a ∧ y = b; (rw [e.1, e.2, if_pos ⟨rfl, rfl⟩, lup_s]); (rw [if_neg (fun e2 => e (y_inj ⟨x1, x2⟩ ⟨zi.1, zi.2.1⟩ e2.2)), lup_n e]; exact hL x y x1 x2 y1 y2), ⟨by rw [yset_e]; simp, fun m h0 hm => by rw [yset_n (by omega), yset_ap]; by_cases e : m = (q.2.length : Int); (rw [if_pos ⟨rfl, e⟩, e, gk_new]); (rw [if_neg (fun e2 => e e2.2), gk_old h0 (by simp at hm; omega), yset_n (by omega)]; exact hQ.2 m h0 (by simp at hm; omega))⟩⟩⟩

theorem dX3_spread_0 : decode cX3_spread 0 = .ok (.aload_n 0, 1) := by decide +kernel
theorem dX3_spread_1 : decode cX3_spread 1 = .ok (.iconst 0, 1) := by decide +kernel
theorem dX3_spread_2 : decode cX3_spread 2 = .ok (.putfield 18, 3) := by decide +kernel
theorem dX3_spread_5 : decode cX3_spread 5 = .ok (.aload_n 0, 1) := by decide +kernel
theorem dX3_spread_6 : decode cX3_spread 6 = .ok (.iload_n 2, 1) := by decide +kernel
theorem dX3_spread_7 : decode cX3_spread 7 = .ok (.iload_n 3, 1) := by decide +kernel
theorem dX3_spread_8 : decode cX3_spread 8 = .ok (.invokevirtual 41, 3) := by decide +kernel
theorem dX3_spread_11 : decode cX3_spread 11 = .ok (.iconst 0, 1) := by decide +kernel
theorem dX3_spread_12 : decode cX3_spread 12 = .ok (.istore 4, 2) := by decide +kernel
theorem dX3_spread_14 : decode cX3_spread 14 = .ok (.iload 4, 2) := by decide +kernel
theorem dX3_spread_16 : decode cX3_spread 16 = .ok (.aload_n 0, 1) := by decide +kernel
theorem dX3_spread_17 : decode cX3_spread 17 = .ok (.getfield 18, 3) := by decide +kernel
theorem dX3_spread_20 : decode cX3_spread 20 = .ok (.if_icmp .ge 107, 3) := by decide +kernel
theorem dX3_spread_23 : decode cX3_spread 23 = .ok (.iload 4, 2) := by decide +kernel
theorem dX3_spread_25 : decode cX3_spread 25 = .ok (.sipush 400, 3) := by decide +kernel
theorem dX3_spread_28 : decode cX3_spread 28 = .ok (.if_icmp .ge 99, 3) := by decide +kernel
theorem dX3_spread_31 : decode cX3_spread 31 = .ok (.aload_n 1, 1) := by decide +kernel
theorem dX3_spread_32 : decode cX3_spread 32 = .ok (.aload_n 0, 1) := by decide +kernel
theorem dX3_spread_33 : decode cX3_spread 33 = .ok (.getfield 15, 3) := by decide +kernel
theorem dX3_spread_36 : decode cX3_spread 36 = .ok (.iload 4, 2) := by decide +kernel
theorem dX3_spread_38 : decode cX3_spread 38 = .ok (.iaload, 1) := by decide +kernel
theorem dX3_spread_39 : decode cX3_spread 39 = .ok (.invokevirtual 45, 3) := by decide +kernel
theorem dX3_spread_42 : decode cX3_spread 42 = .ok (.istore 5, 2) := by decide +kernel
theorem dX3_spread_44 : decode cX3_spread 44 = .ok (.aload_n 1, 1) := by decide +kernel
theorem dX3_spread_45 : decode cX3_spread 45 = .ok (.aload_n 0, 1) := by decide +kernel
theorem dX3_spread_46 : decode cX3_spread 46 = .ok (.getfield 15, 3) := by decide +kernel
theorem dX3_spread_49 : decode cX3_spread 49 = .ok (.iload 4, 2) := by decide +kernel
theorem dX3_spread_51 : decode cX3_spread 51 = .ok (.iaload, 1) := by decide +kernel
theorem dX3_spread_52 : decode cX3_spread 52 = .ok (.invokevirtual 49, 3) := by decide +kernel
theorem dX3_spread_55 : decode cX3_spread 55 = .ok (.istore 6, 2) := by decide +kernel
theorem dX3_spread_57 : decode cX3_spread 57 = .ok (.iconst 0, 1) := by decide +kernel
theorem dX3_spread_58 : decode cX3_spread 58 = .ok (.istore 7, 2) := by decide +kernel
theorem dX3_spread_60 : decode cX3_spread 60 = .ok (.iload 7, 2) := by decide +kernel
theorem dX3_spread_62 : decode cX3_spread 62 = .ok (.getstatic 52, 3) := by decide +kernel
theorem dX3_spread_65 : decode cX3_spread 65 = .ok (.arraylength, 1) := by decide +kernel
theorem dX3_spread_66 : decode cX3_spread 66 = .ok (.if_icmp .ge 55, 3) := by decide +kernel
theorem dX3_spread_69 : decode cX3_spread 69 = .ok (.iload 5, 2) := by decide +kernel
theorem dX3_spread_71 : decode cX3_spread 71 = .ok (.getstatic 52, 3) := by decide +kernel
theorem dX3_spread_74 : decode cX3_spread 74 = .ok (.iload 7, 2) := by decide +kernel
theorem dX3_spread_76 : decode cX3_spread 76 = .ok (.iaload, 1) := by decide +kernel
theorem dX3_spread_77 : decode cX3_spread 77 = .ok (.iadd, 1) := by decide +kernel
theorem dX3_spread_78 : decode cX3_spread 78 = .ok (.istore 8, 2) := by decide +kernel
theorem dX3_spread_80 : decode cX3_spread 80 = .ok (.iload 6, 2) := by decide +kernel
theorem dX3_spread_82 : decode cX3_spread 82 = .ok (.getstatic 55, 3) := by decide +kernel
theorem dX3_spread_85 : decode cX3_spread 85 = .ok (.iload 7, 2) := by decide +kernel
theorem dX3_spread_87 : decode cX3_spread 87 = .ok (.iaload, 1) := by decide +kernel
theorem dX3_spread_88 : decode cX3_spread 88 = .ok (.iadd, 1) := by decide +kernel
theorem dX3_spread_89 : decode cX3_spread 89 = .ok (.istore 9, 2) := by decide +kernel
theorem dX3_spread_91 : decode cX3_spread 91 = .ok (.aload_n 1, 1) := by decide +kernel
theorem dX3_spread_92 : decode cX3_spread 92 = .ok (.iload 8, 2) := by decide +kernel
theorem dX3_spread_94 : decode cX3_spread 94 = .ok (.iload 9, 2) := by decide +kernel
theorem dX3_spread_96 : decode cX3_spread 96 = .ok (.invokevirtual 58, 3) := by decide +kernel
theorem dX3_spread_99 : decode cX3_spread 99 = .ok (.ifCond .eq 16, 3) := by decide +kernel
theorem dX3_spread_102 : decode cX3_spread 102 = .ok (.aload_n 0, 1) := by decide +kernel
theorem dX3_spread_103 : decode cX3_spread 103 = .ok (.aload_n 1, 1) := by decide +kernel
theorem dX3_spread_104 : decode cX3_spread 104 = .ok (.iload 8, 2) := by decide +kernel
theorem dX3_spread_106 : decode cX3_spread 106 = .ok (.iload 9, 2) := by decide +kernel
theorem dX3_spread_108 : decode cX3_spread 108 = .ok (.invokevirtual 62, 3) := by decide +kernel
theorem dX3_spread_111 : decode cX3_spread 111 = .ok (.iload_n 3, 1) := by decide +kernel
theorem dX3_spread_112 : decode cX3_spread 112 = .ok (.invokevirtual 41, 3) := by decide +kernel
theorem dX3_spread_115 : decode cX3_spread 115 = .ok (.iinc 7 1, 3) := by decide +kernel
theorem dX3_spread_118 : decode cX3_spread 118 = .ok (.goto (-58), 3) := by decide +kernel
theorem dX3_spread_121 : decode cX3_spread 121 = .ok (.iinc 4 1, 3) := by decide +kernel
theorem dX3_spread_124 : decode cX3_spread 124 = .ok (.goto (-110), 3) := by decide +kernel
theorem dX3_spread_127 : decode cX3_spread 127 = .ok (.return_, 1) := by decide +kernel
set_option maxHeartbeats 4000000 in
set_option maxRecDepth 100000 in
theorem tX3_spread {l : Launch} {g : yG} {n : Nat} {σ : yM} (k : Nat) (w h : Int) (T S F P O : Int → Int → Int) (hn : 172 ≤ n) (hP : isPic k) (hA : rC σ k w h T S F P O) (hk : k + 5 < 120 ∨ 130 < k) (L : Int → Int → Int) (hL : rPc σ w h L) (hLb : ∀ x y, -1 ≤ L x y ∧ L x y ≤ 1000) (a b num : Int) (hi : sIn w h a b = true) (hLa : L a b = -1) (hnum : 0 ≤ num ∧ num ≤ 1000) (f : Int) (hf : f = b * w + a) : yMet l g yX3_spread cX3_spread 10 none (rmL 3) [yR g 128, yR g k, yI f, yI num] (SC g) n σ (SC g) (yPv (fun n' σ' => n' = n ∧ fc 128 130 σ σ' ∧ rPc σ' w h (spr w h T num 401 0 (lup L a b num, [(a, b)])).1)) := by
  subst hf
  obtain ⟨hw1, hw2, hw3, hw4⟩ := id hA.1.1
  have z128 : 128 < n := by omega
  have z129 : 129 < n := by omega
  have z130 : 130 < n := by omega
  have zkn : k < n := by have := hP.1; omega
  refine y_start (by decide) (Nat.le_of_ble_eq_true rfl) (fun X0 hF => ?_)
  show yV X0 g 10 (yQ X0 g (SC g) (yPv (fun n' σ' => n' = n ∧ fc 128 130 σ σ' ∧ rPc σ' w h (spr w h T num 401 0 (lup L a b num, [(a, b)])).1)) (rmL 3)) (SC g) n σ 0 0 0 [(0, yR g 128), (1, yR g k), (2, yI (b * w + a)), (3, yI num)] []
  refine y_aload_n (pc := 0) hF dX3_spread_0 0 rfl ?_
  refine y_iconst (pc := 1) hF dX3_spread_1 ?_
  refine y_putf (pc := 2) (ci := 3) (σ' := yset σ 128 2 0) (sch' := (SC g)) hF dX3_spread_2 z128 rfl rfl rfl iX3 2 (by decide) w_451 tyX3 tyX3_ok nmX3 rfl rfl rfl rfl (Nat.le_of_ble_eq_true rfl) rfl (y_ps rfl) (fun k' h => ⟨yset_n h, rfl⟩) ?_
  obtain ⟨τ0, hτ0⟩ : ∃ s, s = yset σ 128 2 0 := ⟨_, rfl⟩
  rw [← hτ0]
  have zL0 : rPc τ0 w h L := fun x y x1 x2 y1 y2 => by rw [hτ0, yset_n (by omega)]; exact hL x y x1 x2 y1 y2
  have zQ0 : rQc τ0 w [] := ⟨by rw [hτ0, yset_e]; rfl, fun m h0 h1 => by simp at h1; omega⟩
  have zk0 : pOk w h (L, []) := ⟨fun e he => (by cases he), by have := sCt_bd (w := w) (h := h) ⟨hw1, hw2⟩ ⟨hw3, hw4⟩ (fun x y => decide (L x y ≠ -1)); show ((0 : Nat) : Int) ≤ sCt w h (fun x y => decide (L x y ≠ -1)); omega, hLb⟩
  have zst := pOk.start (w := w) (h := h) ⟨hw1, hw2⟩ ⟨hw3, hw4⟩ hLb hi hLa hnum
  have zjn : jnF num (L, []) a b = (lup L a b num, [(a, b)]) := if_pos hLa
  refine y_aload_n (pc := 5) hF dX3_spread_5 0 rfl ?_
  refine y_iload_n (pc := 6) hF dX3_spread_6 2 rfl ?_
  refine y_iload_n (pc := 7) hF dX3_spread_7 3 rfl ?_
  refine y_cv (y_rV (pc := 8) hF (tX3_join w h hn ⟨hw1, hw2⟩ ⟨hw3, hw4⟩ (L, []) zL0 zQ0 zk0 a b num hi hnum) dX3_spread_8 z128 rfl rfl rfl w_1007 qX3_join rfl ⟨Nat.le_of_ble_eq_true rfl, Nat.le_of_ble_eq_true rfl⟩ ⟨Nat.zero_le _, Nat.zero_le _⟩ (Nat.le_of_ble_eq_true rfl) rfl) rfl rfl (fun n' σ8 zp8 => ?_)
  obtain ⟨zn8, zp8⟩ := zp8
  have zn8 := zn8.symm
  subst zn8
  rw [zjn] at zp8
  refine y_iconst (pc := 11) hF dX3_spread_11 ?_
  refine y_istore (pc := 12) (lv' := [(0, yR g 128), (1, yR g k), (2, yI (b * w + a)), (3, yI num), (4, yI 0)]) hF dX3_spread_12 (by decide) rfl rfl ?_
  have zL14 : ∀ (N : Nat) (τ : yM) (m : Int) (q : aP), N = (400 - m).toNat → (fc 128 130 σ τ ∧ (0 ≤ m ∧ m ≤ 400) ∧ rPc τ w h q.1 ∧ rQc τ w q.2 ∧ pOk w h q ∧ spr w h T num 401 0 (lup L a b num, [(a, b)]) = spr w h T num (401 - m.toNat) m q) → yV X0 g 10 (yQ X0 g (SC g) (yPv (fun n' σ' => n' = n ∧ fc 128 130 σ σ' ∧ rPc σ' w h (spr w h T num 401 0 (lup L a b num, [(a, b)])).1)) (rmL 3)) (SC g) n τ 0 0 14 [(0, yR g 128), (1, yR g k), (2, yI (b * w + a)), (3, yI num), (4, yI m)] [] := by
    intro N
    induction N using Nat.strongRecOn with
    | ind N zh14 =>
      intro τ  m  q  zN14 zI14
      have zA_τ := hA.fc (by omega) zI14.1
      have zln := zI14.2.2.2.2.1.len ⟨hw1, hw2⟩ ⟨hw3, hw4⟩
      refine y_iload (pc := 14) hF dX3_spread_14 4 rfl ?_
      refine y_aload_n (pc := 16) hF dX3_spread_16 0 rfl ?_
      refine y_get (pc := 17) (ci := 3) hF dX3_spread_17 z128 rfl rfl rfl iX3 2 (by decide) w_451 rfl ?_
      rw [show τ 128 2 = (q.2.length : Int) from zI14.2.2.2.1.1]
      refine y_icmp_ge (pc := 20) hF dX3_spread_20 127 rfl (by omega) (by omega) (fun zc20 => ?_) (fun zc20 => ?_)
      · skip
        exact y_vret (pc := 127) hF dX3_spread_127 (Nat.zero_le _) (Nat.zero_le _) ⟨rfl, rfl, zI14.1, by rw [zI14.2.2.2.2.2, spr_end (by omega)]; exact zI14.2.2.1⟩
      · skip
        refine y_iload (pc := 23) hF dX3_spread_23 4 rfl ?_
        refine y_sipush (pc := 25) hF dX3_spread_25 (by decide) ?_
        refine y_icmp_ge (pc := 28) hF dX3_spread_28 127 rfl (by omega) (by omega) (fun zc28 => ?_) (fun zc28 => ?_)
        · skip
          exact y_vret (pc := 127) hF dX3_spread_127 (Nat.zero_le _) (Nat.zero_le _) ⟨rfl, rfl, zI14.1, by rw [zI14.2.2.2.2.2, spr_end (by omega)]; exact zI14.2.2.1⟩
        · skip
          have zmm := gk_mem (L := q.2) zI14.2.1.1 (by omega)
          have zin := zI14.2.2.2.2.1.1 _ zmm
          have zi := sIn_iff.mp zin
          have zx := y_ix (w := w) (h := h) (x := (gk q.2 m).1) (y := (gk q.2 m).2) ⟨hw1, hw2⟩ ⟨hw3, hw4⟩ (by omega) (by omega)
          have zdm := y_dm (w := w) (y := (gk q.2 m).2) (x := (gk q.2 m).1) (by omega)
          have zri : -2147483648 ≤ (gk q.2 m).2 * w + (gk q.2 m).1 ∧ (gk q.2 m).2 * w + (gk q.2 m).1 < 2147483648 := by omega
          have zqm := zI14.2.2.2.1.2 m zI14.2.1.1 (by omega)
          have zm4 : 0 ≤ m ∧ m < (400 : Int) := by omega
          refine y_aload_n (pc := 31) hF dX3_spread_31 1 rfl ?_
          refine y_aload_n (pc := 32) hF dX3_spread_32 0 rfl ?_
          refine y_get (pc := 33) (ci := 3) hF dX3_spread_33 z128 rfl rfl rfl iX3 1 (by decide) w_450 rfl ?_
          refine y_iload (pc := 36) hF dX3_spread_36 4 rfl ?_
          refine y_iaload (pc := 38) hF dX3_spread_38 z130 rfl zm4 (by decide) ?_
          rw [show τ 130 m = (gk q.2 m).2 * w + (gk q.2 m).1 from zqm]
          have zz39 := y_rV (pc := 39) hF (tX4_xOf k w h T S F P O hn hP zA_τ ((gk q.2 m).2 * w + (gk q.2 m).1) zri) dX3_spread_39 (by have := hP.1; omega) (hP.2 g).1 rfl rfl w_1011 qX4_xOf rfl ⟨Nat.le_of_ble_eq_true rfl, Nat.le_of_ble_eq_true rfl⟩ ⟨Nat.zero_le _, Nat.zero_le _⟩ (Nat.le_of_ble_eq_true rfl) rfl (rest := []) (cells := 0) (slots := 0) (lv := [(0, yR g 128), (1, yR g k), (2, yI (b * w + a)), (3, yI num), (4, yI m)])
          refine y_cp (zz39) ?_
          rw [show cx w ((gk q.2 m).2 * w + (gk q.2 m).1) = (gk q.2 m).1 from (by unfold cx; rw [if_neg (by omega), zdm.1])]
          refine y_istore (pc := 42) (lv' := [(0, yR g 128), (1, yR g k), (2, yI (b * w + a)), (3, yI num), (4, yI m), (5, yI ((gk q.2 m).1))]) hF dX3_spread_42 (by decide) rfl rfl ?_
          refine y_aload_n (pc := 44) hF dX3_spread_44 1 rfl ?_
          refine y_aload_n (pc := 45) hF dX3_spread_45 0 rfl ?_
          refine y_get (pc := 46) (ci := 3) hF dX3_spread_46 z128 rfl rfl rfl iX3 1 (by decide) w_450 rfl ?_
          refine y_iload (pc := 49) hF dX3_spread_49 4 rfl ?_
          refine y_iaload (pc := 51) hF dX3_spread_51 z130 rfl zm4 (by decide) ?_
          rw [show τ 130 m = (gk q.2 m).2 * w + (gk q.2 m).1 from zqm]
          have zz52 := y_rV (pc := 52) hF (tX4_yOf k w h T S F P O hn hP zA_τ ((gk q.2 m).2 * w + (gk q.2 m).1) zri) dX3_spread_52 (by have := hP.1; omega) (hP.2 g).1 rfl rfl w_1012 qX4_yOf rfl ⟨Nat.le_of_ble_eq_true rfl, Nat.le_of_ble_eq_true rfl⟩ ⟨Nat.zero_le _, Nat.zero_le _⟩ (Nat.le_of_ble_eq_true rfl) rfl (rest := []) (cells := 0) (slots := 0) (lv := [(0, yR g 128), (1, yR g k), (2, yI (b * w + a)), (3, yI num), (4, yI m), (5, yI ((gk q.2 m).1))])
          refine y_cp (zz52) ?_
          rw [show cy w ((gk q.2 m).2 * w + (gk q.2 m).1) = (gk q.2 m).2 from (by unfold cy; rw [if_neg (by omega), zdm.2])]
          refine y_istore (pc := 55) (lv' := [(0, yR g 128), (1, yR g k), (2, yI (b * w + a)), (3, yI num), (4, yI m), (5, yI ((gk q.2 m).1)), (6, yI ((gk q.2 m).2))]) hF dX3_spread_55 (by decide) rfl rfl ?_
          refine y_iconst (pc := 57) hF dX3_spread_57 ?_
          refine y_istore (pc := 58) (lv' := [(0, yR g 128), (1, yR g k), (2, yI (b * w + a)), (3, yI num), (4, yI m), (5, yI ((gk q.2 m).1)), (6, yI ((gk q.2 m).2)), (7, yI 0)]) hF dX3_spread_58 (by decide) rfl rfl ?_
          have zL60 : ∀ (N : Nat) (υ : yM) (t : Int) (r : aP), N = (4 - t).toNat → (fc 128 130 σ υ ∧ (0 ≤ t ∧ t ≤ 4) ∧ rPc υ w h r.1 ∧ rQc υ w r.2 ∧ pOk w h r ∧ r = fr (fun r s => nbF w h T num r ((gk q.2 m).1 + ys 0 s) ((gk q.2 m).2 + ys 1 s)) 0 t.toNat q) → yV X0 g 10 (yQ X0 g (SC g) (yPv (fun n' σ' => n' = n ∧ fc 128 130 σ σ' ∧ rPc σ' w h (spr w h T num 401 0 (lup L a b num, [(a, b)])).1)) (rmL 3)) (SC g) n υ 0 0 60 [(0, yR g 128), (1, yR g k), (2, yI (b * w + a)), (3, yI num), (4, yI m), (5, yI ((gk q.2 m).1)), (6, yI ((gk q.2 m).2)), (7, yI t)] [] := by
            intro N
            induction N using Nat.strongRecOn with
            | ind N zh60 =>
              intro υ  t  r  zN60 zI60
              have zA_υ := hA.fc (by omega) zI60.1
              refine y_iload (pc := 60) hF dX3_spread_60 7 rfl ?_
              refine y_getsN (pc := 62) hF dX3_spread_62 0 rfl w_1013 ?_
              refine y_slen (pc := 65) hF dX3_spread_65 0 rfl ?_
              show yV X0 g 10 (yQ X0 g (SC g) (yPv (fun n' σ' => n' = n ∧ fc 128 130 σ σ' ∧ rPc σ' w h (spr w h T num 401 0 (lup L a b num, [(a, b)])).1)) (rmL 3)) (SC g) n υ 0 0 66 [(0, yR g 128), (1, yR g k), (2, yI (b * w + a)), (3, yI num), (4, yI m), (5, yI ((gk q.2 m).1)), (6, yI ((gk q.2 m).2)), (7, yI t)] [yI 4, yI t]
              refine y_icmp_ge (pc := 66) hF dX3_spread_66 121 rfl (by omega) (by omega) (fun zc66 => ?_) (fun zc66 => ?_)
              · skip
                refine y_iinc (pc := 121) (lv' := [(0, yR g 128), (1, yR g k), (2, yI (b * w + a)), (3, yI num), (4, yI (m + 1)), (5, yI ((gk q.2 m).1)), (6, yI ((gk q.2 m).2)), (7, yI t)]) hF dX3_spread_121 4 rfl (by decide) rfl rfl ?_
                refine y_goto (pc := 124) hF dX3_spread_124 14 rfl ?_
                refine y_sub [0, 1, 2, 3, 4] rfl ?_
                exact zh14 _ (by omega) υ (m + 1) r rfl ⟨zI60.1, by omega, zI60.2.2.1, zI60.2.2.2.1, zI60.2.2.2.2.1, by rw [zI14.2.2.2.2.2, spr_step (n := 401 - (m + 1).toNat) (by omega) (by omega), zI60.2.2.2.2.2, show t.toNat = 4 by omega]; rfl⟩
              · skip
                have zy := ys01 (s := t) (by omega)
                have zt4 : 0 ≤ t ∧ t < (4 : Int) := by omega
                have zsx : -1 ≤ ys 0 t ∧ ys 0 t ≤ 1 := by rw [zy.1]; split; (omega); split <;> omega
                have zsy : -1 ≤ ys 1 t ∧ ys 1 t ≤ 1 := by rw [zy.2]; split; (omega); split <;> omega
                refine y_iload (pc := 69) hF dX3_spread_69 5 rfl ?_
                refine y_getsN (pc := 71) hF dX3_spread_71 0 rfl w_1013 ?_
                refine y_iload (pc := 74) hF dX3_spread_74 7 rfl ?_
                refine y_sald (pc := 76) hF dX3_spread_76 0 rfl zt4 (by decide) ?_
                refine y_iadd (pc := 77) hF dX3_spread_77 ?_
                refine y_istore (pc := 78) (lv' := [(0, yR g 128), (1, yR g k), (2, yI (b * w + a)), (3, yI num), (4, yI m), (5, yI ((gk q.2 m).1)), (6, yI ((gk q.2 m).2)), (7, yI t), (8, yI (((gk q.2 m).1) + (ys 0 t)))]) hF dX3_spread_78 (by decide) rfl rfl ?_
                refine y_iload (pc := 80) hF dX3_spread_80 6 rfl ?_
                refine y_getsN (pc := 82) hF dX3_spread_82 1 rfl w_1015 ?_
                refine y_iload (pc := 85) hF dX3_spread_85 7 rfl ?_
                refine y_sald (pc := 87) hF dX3_spread_87 1 rfl zt4 (by decide) ?_
                refine y_iadd (pc := 88) hF dX3_spread_88 ?_
                refine y_istore (pc := 89) (lv' := [(0, yR g 128), (1, yR g k), (2, yI (b * w + a)), (3, yI num), (4, yI m), (5, yI ((gk q.2 m).1)), (6, yI ((gk q.2 m).2)), (7, yI t), (8, yI (((gk q.2 m).1) + (ys 0 t))), (9, yI (((gk q.2 m).2) + (ys 1 t)))]) hF dX3_spread_89 (by decide) rfl rfl ?_
                refine y_aload_n (pc := 91) hF dX3_spread_91 1 rfl ?_
                refine y_iload (pc := 92) hF dX3_spread_92 8 rfl ?_
                refine y_iload (pc := 94) hF dX3_spread_94 9 rfl ?_
                have zz96 := y_rV (pc := 96) hF (tX4_isMissing k w h T S F P O hn hP zA_υ (((gk q.2 m).1) + (ys 0 t)) (((gk q.2 m).2) + (ys 1 t)) (by omega) (by omega)) dX3_spread_96 (by have := hP.1; omega) (hP.2 g).1 rfl rfl w_1017 qX4_isMissing rfl ⟨Nat.le_of_ble_eq_true rfl, Nat.le_of_ble_eq_true rfl⟩ ⟨Nat.zero_le _, Nat.zero_le _⟩ (Nat.le_of_ble_eq_true rfl) rfl (rest := []) (cells := 0) (slots := 0) (lv := [(0, yR g 128), (1, yR g k), (2, yI (b * w + a)), (3, yI num), (4, yI m), (5, yI ((gk q.2 m).1)), (6, yI ((gk q.2 m).2)), (7, yI t), (8, yI (((gk q.2 m).1) + (ys 0 t))), (9, yI (((gk q.2 m).2) + (ys 1 t)))])
                refine y_cp (zz96) ?_
                refine y_if_eq (pc := 99) hF dX3_spread_99 115 rfl bi_r (fun zc99 => ?_) (fun zc99 => ?_)
                · replace zc99 := bi_0.mp zc99
                  refine y_iinc (pc := 115) (lv' := [(0, yR g 128), (1, yR g k), (2, yI (b * w + a)), (3, yI num), (4, yI m), (5, yI ((gk q.2 m).1)), (6, yI ((gk q.2 m).2)), (7, yI (t + 1)), (8, yI (((gk q.2 m).1) + (ys 0 t))), (9, yI (((gk q.2 m).2) + (ys 1 t)))]) hF dX3_spread_115 7 rfl (by decide) rfl rfl ?_
                  refine y_goto (pc := 118) hF dX3_spread_118 60 rfl ?_
                  refine y_sub [0, 1, 2, 3, 4, 5, 6, 7] rfl ?_
                  exact zh60 _ (by omega) υ (t + 1) r rfl ⟨zI60.1, by omega, zI60.2.2.1, zI60.2.2.2.1, zI60.2.2.2.2.1, by rw [fr_up _ _ _ _ zI60.2.1.1, ← zI60.2.2.2.2.2, Int.zero_add]; unfold nbF; rw [if_neg (by simp [zc99])]⟩
                · replace zc99 := bi_n0.mp zc99
                  refine y_aload_n (pc := 102) hF dX3_spread_102 0 rfl ?_
                  refine y_aload_n (pc := 103) hF dX3_spread_103 1 rfl ?_
                  refine y_iload (pc := 104) hF dX3_spread_104 8 rfl ?_
                  refine y_iload (pc := 106) hF dX3_spread_106 9 rfl ?_
                  have zz108 := y_rV (pc := 108) hF (tX4_at k w h T S F P O hn hP zA_υ (((gk q.2 m).1) + (ys 0 t)) (((gk q.2 m).2) + (ys 1 t))) dX3_spread_108 (by have := hP.1; omega) (hP.2 g).1 rfl rfl w_1018 qX4_at rfl ⟨Nat.le_of_ble_eq_true rfl, Nat.le_of_ble_eq_true rfl⟩ ⟨Nat.zero_le _, Nat.zero_le _⟩ (Nat.le_of_ble_eq_true rfl) rfl (rest := [yR g 128]) (cells := 0) (slots := 0) (lv := [(0, yR g 128), (1, yR g k), (2, yI (b * w + a)), (3, yI num), (4, yI m), (5, yI ((gk q.2 m).1)), (6, yI ((gk q.2 m).2)), (7, yI t), (8, yI (((gk q.2 m).1) + (ys 0 t))), (9, yI (((gk q.2 m).2) + (ys 1 t)))])
                  refine y_cp (zz108) ?_
                  refine y_iload_n (pc := 111) hF dX3_spread_111 3 rfl ?_
                  refine y_cv (y_rV (pc := 112) hF (tX3_join w h hn ⟨hw1, hw2⟩ ⟨hw3, hw4⟩ r zI60.2.2.1 zI60.2.2.2.1 zI60.2.2.2.2.1 ((gk q.2 m).1 + ys 0 t) ((gk q.2 m).2 + ys 1 t) num (sMi_in zc99) hnum) dX3_spread_112 z128 rfl rfl rfl w_1007 qX3_join rfl ⟨Nat.le_of_ble_eq_true rfl, Nat.le_of_ble_eq_true rfl⟩ ⟨Nat.zero_le _, Nat.zero_le _⟩ (Nat.le_of_ble_eq_true rfl) rfl) rfl rfl (fun n' σ112 zp112 => ?_)
                  obtain ⟨zn112, zp112⟩ := zp112
                  have zn112 := zn112.symm
                  subst zn112
                  refine y_iinc (pc := 115) (lv' := [(0, yR g 128), (1, yR g k), (2, yI (b * w + a)), (3, yI num), (4, yI m), (5, yI ((gk q.2 m).1)), (6, yI ((gk q.2 m).2)), (7, yI (t + 1)), (8, yI (((gk q.2 m).1) + (ys 0 t))), (9, yI (((gk q.2 m).2) + (ys 1 t)))]) hF dX3_spread_115 7 rfl (by decide) rfl rfl ?_
                  refine y_goto (pc := 118) hF dX3_spread_118 60 rfl ?_
                  refine y_sub [0, 1, 2, 3, 4, 5, 6, 7] rfl ?_
                  exact zh60 _ (by omega) σ112 (t + 1) (jnF num r ((gk q.2 m).1 + ys 0 t) ((gk q.2 m).2 + ys 1 t)) rfl ⟨zI60.1.tr zp112.1, by omega, zp112.2.1, zp112.2.2, zI60.2.2.2.2.1.jn (sMi_in zc99) hnum, by rw [fr_up _ _ _ _ zI60.2.1.1, ← zI60.2.2.2.2.2, Int.zero_add]; unfold nbF; rw [if_pos zc99]⟩
          exact zL60 _ τ (0) q rfl ⟨zI14.1, by omega, zI14.2.2.1, zI14.2.2.2.1, zI14.2.2.2.2.1, rfl⟩
  exact zL14 _ σ8 (0) (lup L a b num, [(a, b)]) rfl ⟨((fc.rf σ).st (by omega) : fc 128 130 σ (yset σ 128 2 0)).tr (by rw [← hτ0]; exact zp8.1), by omega, zp8.2.1, zp8.2.2, zst, rfl⟩

theorem dX3_number_0 : decode cX3_number 0 = .ok (.aload_n 0, 1) := by decide +kernel
theorem dX3_number_1 : decode cX3_number 1 = .ok (.getfield 9, 3) := by decide +kernel
theorem dX3_number_4 : decode cX3_number 4 = .ok (.iconst (-1), 1) := by decide +kernel
theorem dX3_number_5 : decode cX3_number 5 = .ok (.invokestatic 22, 3) := by decide +kernel
theorem dX3_number_8 : decode cX3_number 8 = .ok (.iconst 0, 1) := by decide +kernel
theorem dX3_number_9 : decode cX3_number 9 = .ok (.istore_n 2, 1) := by decide +kernel
theorem dX3_number_10 : decode cX3_number 10 = .ok (.iconst 0, 1) := by decide +kernel
theorem dX3_number_11 : decode cX3_number 11 = .ok (.istore_n 3, 1) := by decide +kernel
theorem dX3_number_12 : decode cX3_number 12 = .ok (.iload_n 3, 1) := by decide +kernel
theorem dX3_number_13 : decode cX3_number 13 = .ok (.aload_n 1, 1) := by decide +kernel
theorem dX3_number_14 : decode cX3_number 14 = .ok (.invokevirtual 28, 3) := by decide +kernel
theorem dX3_number_17 : decode cX3_number 17 = .ok (.if_icmp .ge 39, 3) := by decide +kernel
theorem dX3_number_20 : decode cX3_number 20 = .ok (.aload_n 1, 1) := by decide +kernel
theorem dX3_number_21 : decode cX3_number 21 = .ok (.getfield 34, 3) := by decide +kernel
theorem dX3_number_24 : decode cX3_number 24 = .ok (.iload_n 3, 1) := by decide +kernel
theorem dX3_number_25 : decode cX3_number 25 = .ok (.iaload, 1) := by decide +kernel
theorem dX3_number_26 : decode cX3_number 26 = .ok (.iconst (-1), 1) := by decide +kernel
theorem dX3_number_27 : decode cX3_number 27 = .ok (.if_icmp .ne 23, 3) := by decide +kernel
theorem dX3_number_30 : decode cX3_number 30 = .ok (.aload_n 0, 1) := by decide +kernel
theorem dX3_number_31 : decode cX3_number 31 = .ok (.getfield 9, 3) := by decide +kernel
theorem dX3_number_34 : decode cX3_number 34 = .ok (.iload_n 3, 1) := by decide +kernel
theorem dX3_number_35 : decode cX3_number 35 = .ok (.iaload, 1) := by decide +kernel
theorem dX3_number_36 : decode cX3_number 36 = .ok (.iconst (-1), 1) := by decide +kernel
theorem dX3_number_37 : decode cX3_number 37 = .ok (.if_icmp .ne 13, 3) := by decide +kernel
theorem dX3_number_40 : decode cX3_number 40 = .ok (.aload_n 0, 1) := by decide +kernel
theorem dX3_number_41 : decode cX3_number 41 = .ok (.aload_n 1, 1) := by decide +kernel
theorem dX3_number_42 : decode cX3_number 42 = .ok (.iload_n 3, 1) := by decide +kernel
theorem dX3_number_43 : decode cX3_number 43 = .ok (.iload_n 2, 1) := by decide +kernel
theorem dX3_number_44 : decode cX3_number 44 = .ok (.invokevirtual 37, 3) := by decide +kernel
theorem dX3_number_47 : decode cX3_number 47 = .ok (.iinc 2 1, 3) := by decide +kernel
theorem dX3_number_50 : decode cX3_number 50 = .ok (.iinc 3 1, 3) := by decide +kernel
theorem dX3_number_53 : decode cX3_number 53 = .ok (.goto (-41), 3) := by decide +kernel
theorem dX3_number_56 : decode cX3_number 56 = .ok (.iload_n 2, 1) := by decide +kernel
theorem dX3_number_57 : decode cX3_number 57 = .ok (.ireturn, 1) := by decide +kernel
set_option maxHeartbeats 4000000 in
set_option maxRecDepth 100000 in
theorem tX3_number {l : Launch} {g : yG} {n : Nat} {σ : yM} (k : Nat) (w h : Int) (T S F P O : Int → Int → Int) (hn : 172 ≤ n) (hP : isPic k) (hA : rC σ k w h T S F P O) (hk : k + 5 < 120 ∨ 130 < k) : yMet l g yX3_number cX3_number 4 (some .int) (rmL 4) [yR g 128, yR g k] (SC g) n σ (SC g) (yPi (fun v n' σ' => n' = n ∧ v = (sPt w h T).2 ∧ fc 128 130 σ σ' ∧ rPc σ' w h (sPt w h T).1)) := by
  obtain ⟨hw1, hw2, hw3, hw4⟩ := id hA.1.1
  have zwh := y_wh ⟨hw1, hw2⟩ ⟨hw3, hw4⟩
  have z128 : 128 < n := by omega
  have z129 : 129 < n := by omega
  have z130 : 130 < n := by omega
  have zkn : k < n := by have := hP.1; omega
  have zkn1 : k + 1 < n := by have := hP.1; omega
  refine y_start (by decide) (Nat.le_of_ble_eq_true rfl) (fun X0 hF => ?_)
  show yV X0 g 4 (yQ X0 g (SC g) (yPi (fun v n' σ' => n' = n ∧ v = (sPt w h T).2 ∧ fc 128 130 σ σ' ∧ rPc σ' w h (sPt w h T).1)) (rmL 4)) (SC g) n σ 0 0 0 [(0, yR g 128), (1, yR g k)] []
  refine y_aload_n (pc := 0) hF dX3_number_0 0 rfl ?_
  refine y_get (pc := 1) (ci := 3) hF dX3_number_1 z128 rfl rfl rfl iX3 0 (by decide) w_448 rfl ?_
  refine y_iconst (pc := 4) hF dX3_number_4 ?_
  refine y_cv (y_rS (pc := 5) (As := [yR g 129, yI (-1)]) (kk := 0) hF (tJ7_fill_53178 129 400 z129 rfl (by decide) (-1)) dX3_number_5 w_1001 qJ7_fill_53178 rfl ⟨Nat.le_of_ble_eq_true rfl, Nat.le_of_ble_eq_true rfl⟩ ⟨Nat.zero_le _, Nat.zero_le _⟩ (Nat.le_of_ble_eq_true rfl) rfl) rfl rfl (fun n' σ' zp5 => ?_)
  obtain ⟨zn5, rfl⟩ := zp5
  have zn5 := zn5.symm
  subst zn5
  obtain ⟨τ0, hτ0⟩ : ∃ s, s = yfl σ 129 ((400 : Nat) : Int) (-1) := ⟨_, rfl⟩
  rw [← hτ0]
  refine y_iconst (pc := 8) hF dX3_number_8 ?_
  refine y_istore_n (pc := 9) (lv' := [(0, yR g 128), (1, yR g k), (2, yI 0)]) hF dX3_number_9 (by decide) rfl rfl ?_
  refine y_iconst (pc := 10) hF dX3_number_10 ?_
  refine y_istore_n (pc := 11) (lv' := [(0, yR g 128), (1, yR g k), (2, yI 0), (3, yI 0)]) hF dX3_number_11 (by decide) rfl rfl ?_
  have zL12 : ∀ (N : Nat) (τ : yM) (i : Int) (r : (Int → Int → Int) × Int), N = (w * h - i).toNat → (fc 128 130 σ τ ∧ (0 ≤ i ∧ i ≤ w * h) ∧ rPc τ w h r.1 ∧ (∀ x y, -1 ≤ r.1 x y ∧ r.1 x y ≤ 1000) ∧ (0 ≤ r.2 ∧ r.2 ≤ i) ∧ r = fr (fun r i => ptF w h T r (i % w) (i / w)) 0  i.toNat (fun _ _ => -1, 0)) → yV X0 g 4 (yQ X0 g (SC g) (yPi (fun v n' σ' => n' = n ∧ v = (sPt w h T).2 ∧ fc 128 130 σ σ' ∧ rPc σ' w h (sPt w h T).1)) (rmL 4)) (SC g) n τ 0 0 12 [(0, yR g 128), (1, yR g k), (2, yI r.2), (3, yI i)] [] := by
    intro N
    induction N using Nat.strongRecOn with
    | ind N zh12 =>
      intro τ  i  r  zN12 zI12
      have zA_τ := hA.fc (by omega) zI12.1
      refine y_iload_n (pc := 12) hF dX3_number_12 3 rfl ?_
      refine y_aload_n (pc := 13) hF dX3_number_13 1 rfl ?_
      have zz14 := y_rV (pc := 14) hF (tX4_dots k w h T S F P O hn hP zA_τ) dX3_number_14 (by have := hP.1; omega) (hP.2 g).1 rfl rfl w_1002 qX4_dots rfl ⟨Nat.le_of_ble_eq_true rfl, Nat.le_of_ble_eq_true rfl⟩ ⟨Nat.zero_le _, Nat.zero_le _⟩ (Nat.le_of_ble_eq_true rfl) rfl (rest := [yI i]) (cells := 0) (slots := 0) (lv := [(0, yR g 128), (1, yR g k), (2, yI r.2), (3, yI i)])
      refine y_cp (zz14) ?_
      refine y_icmp_ge (pc := 17) hF dX3_number_17 56 rfl (by omega) (by omega) (fun zc17 => ?_) (fun zc17 => ?_)
      · skip
        have zend : r = sPt w h T := by rw [zI12.2.2.2.2.2, show i = w * h by omega]; exact fr_linI _ (by omega) (by omega) _
        refine y_iload_n (pc := 56) hF dX3_number_56 2 rfl ?_
        exact y_iret (pc := 57) hF dX3_number_57 (Nat.zero_le _) (Nat.zero_le _) ⟨_, rfl, rfl, by rw [zend], zI12.1, by rw [← zend]; exact zI12.2.2.1⟩
      · skip
        have zd := y_de (h := h) hw1 zI12.2.1.1 (by omega)
        have zat := zA_τ.at zI12.2.1.1 (by omega)
        have zin : sIn w h (i % w) (i / w) = true := sIn_iff.mpr ⟨zd.2.1, zd.2.2.1, zd.2.2.2⟩
        have ztb := hA.1.T _ _ zin
        have zi4 : 0 ≤ i ∧ i < (400 : Int) := by omega
        have zlb := zI12.2.2.2.1 (i % w) (i / w)
        have zpl : τ 129 i = r.1 (i % w) (i / w) := by have := zI12.2.2.1 (i % w) (i / w) zd.2.1 zd.2.2.1 zd.2.2.2.1 zd.2.2.2.2; rw [zd.1] at this; exact this
        refine y_aload_n (pc := 20) hF dX3_number_20 1 rfl ?_
        refine y_getN (pc := 21) (ci := 4) hF dX3_number_21 (by have := hP.1; omega) (hP.2 g).1 rfl rfl iX4 2 (by decide) w_219 rfl ?_
        refine y_iload_n (pc := 24) hF dX3_number_24 3 rfl ?_
        refine y_iaload (pc := 25) hF dX3_number_25 (by have := hP.1; omega) (hP.2 g).2.1 zi4 (by decide) ?_
        rw [show τ (k + 1) i = T (i % w) (i / w) from zat.1]
        refine y_iconst (pc := 26) hF dX3_number_26 ?_
        refine y_icmp_ne (pc := 27) hF dX3_number_27 50 rfl (by omega) (by omega) (fun zc27 => ?_) (fun zc27 => ?_)
        · skip
          refine y_iinc (pc := 50) (lv' := [(0, yR g 128), (1, yR g k), (2, yI r.2), (3, yI (i + 1))]) hF dX3_number_50 3 rfl (by decide) rfl rfl ?_
          refine y_goto (pc := 53) hF dX3_number_53 12 rfl ?_
          exact zh12 _ (by omega) τ (i + 1) r rfl ⟨zI12.1, by omega, zI12.2.2.1, zI12.2.2.2.1, by omega, by rw [fr_up _ _ _ _ zI12.2.1.1, ← zI12.2.2.2.2.2, Int.zero_add]; unfold ptF; rw [if_neg (fun ze => zc27 (by have := ze.1; simp only [sMi, Bool.and_eq_true, decide_eq_true_eq] at this; exact this.2))]⟩
        · skip
          refine y_aload_n (pc := 30) hF dX3_number_30 0 rfl ?_
          refine y_get (pc := 31) (ci := 3) hF dX3_number_31 z128 rfl rfl rfl iX3 0 (by decide) w_448 rfl ?_
          refine y_iload_n (pc := 34) hF dX3_number_34 3 rfl ?_
          refine y_iaload (pc := 35) hF dX3_number_35 z129 rfl zi4 (by decide) ?_
          rw [show τ 129 i = r.1 (i % w) (i / w) from zpl]
          refine y_iconst (pc := 36) hF dX3_number_36 ?_
          refine y_icmp_ne (pc := 37) hF dX3_number_37 50 rfl (by omega) (by omega) (fun zc37 => ?_) (fun zc37 => ?_)
          · skip
            refine y_iinc (pc := 50) (lv' := [(0, yR g 128), (1, yR g k), (2, yI r.2), (3, yI (i + 1))]) hF dX3_number_50 3 rfl (by decide) rfl rfl ?_
            refine y_goto (pc := 53) hF dX3_number_53 12 rfl ?_
            exact zh12 _ (by omega) τ (i + 1) r rfl ⟨zI12.1, by omega, zI12.2.2.1, zI12.2.2.2.1, by omega, by rw [fr_up _ _ _ _ zI12.2.1.1, ← zI12.2.2.2.2.2, Int.zero_add]; unfold ptF; rw [if_neg (fun ze => zc37 ze.2)]⟩
          · skip
            refine y_aload_n (pc := 40) hF dX3_number_40 0 rfl ?_
            refine y_aload_n (pc := 41) hF dX3_number_41 1 rfl ?_
            refine y_iload_n (pc := 42) hF dX3_number_42 3 rfl ?_
            refine y_iload_n (pc := 43) hF dX3_number_43 2 rfl ?_
            refine y_cv (y_rV (pc := 44) hF (tX3_spread k w h T S F P O hn hP zA_τ hk r.1 zI12.2.2.1 zI12.2.2.2.1 (i % w) (i / w) r.2 zin zc37 (by omega) i zd.1.symm) dX3_number_44 z128 rfl rfl rfl w_1003 qX3_spread rfl ⟨Nat.le_of_ble_eq_true rfl, Nat.le_of_ble_eq_true rfl⟩ ⟨Nat.zero_le _, Nat.zero_le _⟩ (Nat.le_of_ble_eq_true rfl) rfl) rfl rfl (fun n' σ44 zp44 => ?_)
            obtain ⟨zn44, zp44⟩ := zp44
            have zn44 := zn44.symm
            subst zn44
            refine y_iinc (pc := 47) (lv' := [(0, yR g 128), (1, yR g k), (2, yI (r.2 + 1)), (3, yI i)]) hF dX3_number_47 2 rfl (by decide) rfl rfl ?_
            refine y_iinc (pc := 50) (lv' := [(0, yR g 128), (1, yR g k), (2, yI (r.2 + 1)), (3, yI (i + 1))]) hF dX3_number_50 3 rfl (by decide) rfl rfl ?_
            refine y_goto (pc := 53) hF dX3_number_53 12 rfl ?_
            exact zh12 _ (by omega) σ44 (i + 1) ((spr w h T r.2 401 0 (lup r.1 (i % w) (i / w) r.2, [(i % w, i / w)])).1, r.2 + 1) rfl ⟨zI12.1.tr zp44.1, by omega, zp44.2, (pOk.spr (by omega) 401 (pOk.start ⟨hw1, hw2⟩ ⟨hw3, hw4⟩ zI12.2.2.2.1 zin zc37 (by omega))).2.2, by simp only; omega, by rw [fr_up _ _ _ _ zI12.2.1.1, ← zI12.2.2.2.2.2, Int.zero_add]; unfold ptF; rw [if_pos ⟨by simp [sMi, zin, zc27], zc37⟩]⟩
  exact zL12 _ τ0 (0) (fun _ _ => -1, 0) rfl ⟨fun c hc => by rw [hτ0, yfl_n (by omega)], by omega, fun x y x1 x2 y1 y2 => by have := y_ix (w := w) (h := h) ⟨hw1, hw2⟩ ⟨hw3, hw4⟩ ⟨x1, x2⟩ ⟨y1, y2⟩; rw [hτ0, yfl_at (by omega)], fun _ _ => ⟨by simp, by simp⟩, by simp, rfl⟩

theorem dX3_isBeside_0 : decode cX3_isBeside 0 = .ok (.iconst 0, 1) := by decide +kernel
theorem dX3_isBeside_1 : decode cX3_isBeside 1 = .ok (.istore 5, 2) := by decide +kernel
theorem dX3_isBeside_3 : decode cX3_isBeside 3 = .ok (.iload 5, 2) := by decide +kernel
theorem dX3_isBeside_5 : decode cX3_isBeside 5 = .ok (.getstatic 52, 3) := by decide +kernel
theorem dX3_isBeside_8 : decode cX3_isBeside 8 = .ok (.arraylength, 1) := by decide +kernel
theorem dX3_isBeside_9 : decode cX3_isBeside 9 = .ok (.if_icmp .ge 60, 3) := by decide +kernel
theorem dX3_isBeside_12 : decode cX3_isBeside 12 = .ok (.iload_n 2, 1) := by decide +kernel
theorem dX3_isBeside_13 : decode cX3_isBeside 13 = .ok (.getstatic 52, 3) := by decide +kernel
theorem dX3_isBeside_16 : decode cX3_isBeside 16 = .ok (.iload 5, 2) := by decide +kernel
theorem dX3_isBeside_18 : decode cX3_isBeside 18 = .ok (.iaload, 1) := by decide +kernel
theorem dX3_isBeside_19 : decode cX3_isBeside 19 = .ok (.iadd, 1) := by decide +kernel
theorem dX3_isBeside_20 : decode cX3_isBeside 20 = .ok (.istore 6, 2) := by decide +kernel
theorem dX3_isBeside_22 : decode cX3_isBeside 22 = .ok (.iload_n 3, 1) := by decide +kernel
theorem dX3_isBeside_23 : decode cX3_isBeside 23 = .ok (.getstatic 55, 3) := by decide +kernel
theorem dX3_isBeside_26 : decode cX3_isBeside 26 = .ok (.iload 5, 2) := by decide +kernel
theorem dX3_isBeside_28 : decode cX3_isBeside 28 = .ok (.iaload, 1) := by decide +kernel
theorem dX3_isBeside_29 : decode cX3_isBeside 29 = .ok (.iadd, 1) := by decide +kernel
theorem dX3_isBeside_30 : decode cX3_isBeside 30 = .ok (.istore 7, 2) := by decide +kernel
theorem dX3_isBeside_32 : decode cX3_isBeside 32 = .ok (.aload_n 1, 1) := by decide +kernel
theorem dX3_isBeside_33 : decode cX3_isBeside 33 = .ok (.iload 6, 2) := by decide +kernel
theorem dX3_isBeside_35 : decode cX3_isBeside 35 = .ok (.iload 7, 2) := by decide +kernel
theorem dX3_isBeside_37 : decode cX3_isBeside 37 = .ok (.invokevirtual 66, 3) := by decide +kernel
theorem dX3_isBeside_40 : decode cX3_isBeside 40 = .ok (.ifCond .eq 23, 3) := by decide +kernel
theorem dX3_isBeside_43 : decode cX3_isBeside 43 = .ok (.aload_n 0, 1) := by decide +kernel
theorem dX3_isBeside_44 : decode cX3_isBeside 44 = .ok (.getfield 9, 3) := by decide +kernel
theorem dX3_isBeside_47 : decode cX3_isBeside 47 = .ok (.aload_n 1, 1) := by decide +kernel
theorem dX3_isBeside_48 : decode cX3_isBeside 48 = .ok (.iload 6, 2) := by decide +kernel
theorem dX3_isBeside_50 : decode cX3_isBeside 50 = .ok (.iload 7, 2) := by decide +kernel
theorem dX3_isBeside_52 : decode cX3_isBeside 52 = .ok (.invokevirtual 62, 3) := by decide +kernel
theorem dX3_isBeside_55 : decode cX3_isBeside 55 = .ok (.iaload, 1) := by decide +kernel
theorem dX3_isBeside_56 : decode cX3_isBeside 56 = .ok (.iload 4, 2) := by decide +kernel
theorem dX3_isBeside_58 : decode cX3_isBeside 58 = .ok (.if_icmp .ne 5, 3) := by decide +kernel
theorem dX3_isBeside_61 : decode cX3_isBeside 61 = .ok (.iconst 1, 1) := by decide +kernel
theorem dX3_isBeside_62 : decode cX3_isBeside 62 = .ok (.ireturn, 1) := by decide +kernel
theorem dX3_isBeside_63 : decode cX3_isBeside 63 = .ok (.iinc 5 1, 3) := by decide +kernel
theorem dX3_isBeside_66 : decode cX3_isBeside 66 = .ok (.goto (-63), 3) := by decide +kernel
theorem dX3_isBeside_69 : decode cX3_isBeside 69 = .ok (.iconst 0, 1) := by decide +kernel
theorem dX3_isBeside_70 : decode cX3_isBeside 70 = .ok (.ireturn, 1) := by decide +kernel
set_option maxHeartbeats 4000000 in
set_option maxRecDepth 100000 in
theorem tX3_isBeside {l : Launch} {g : yG} {n : Nat} {σ : yM} (k : Nat) (w h : Int) (T S F P O : Int → Int → Int) (hn : 172 ≤ n) (hP : isPic k) (hA : rC σ k w h T S F P O) (hk : k + 5 < 120 ∨ 130 < k) (L : Int → Int → Int) (hL : rPc σ w h L) (hLb : ∀ x y, -1 ≤ L x y ∧ L x y ≤ 1000) (x y p : Int) (hx : -1000 ≤ x ∧ x ≤ 1000) (hy : -1000 ≤ y ∧ y ≤ 1000) (hp : -2147483648 ≤ p ∧ p < 2147483648) : yMet l g yX3_isBeside cX3_isBeside 8 (some .boolean) (rmL 2) [yR g 128, yR g k, yI x, yI y, yI p] (SC g) n σ (SC g) (yPp (bi (sBs w h L x y p)) n σ) := by
  obtain ⟨hw1, hw2, hw3, hw4⟩ := id hA.1.1
  have z128 : 128 < n := by omega
  have z129 : 129 < n := by omega
  have z130 : 130 < n := by omega
  have zkn : k < n := by have := hP.1; omega
  refine y_start (by decide) (Nat.le_of_ble_eq_true rfl) (fun X0 hF => ?_)
  show yV X0 g 8 (yQ X0 g (SC g) (yPp (bi (sBs w h L x y p)) n σ) (rmL 2)) (SC g) n σ 0 0 0 [(0, yR g 128), (1, yR g k), (2, yI x), (3, yI y), (4, yI p)] []
  refine y_iconst (pc := 0) hF dX3_isBeside_0 ?_
  refine y_istore (pc := 1) (lv' := [(0, yR g 128), (1, yR g k), (2, yI x), (3, yI y), (4, yI p), (5, yI 0)]) hF dX3_isBeside_1 (by decide) rfl rfl ?_
  have zL3 : ∀ (N : Nat) (t : Int), N = (4 - t).toNat → ((0 ≤ t ∧ t ≤ 4) ∧ ∀ u : Int, 0 ≤ u → u < t → isO w h L (x + ys 0 u) (y + ys 1 u) p = false) → yV X0 g 8 (yQ X0 g (SC g) (yPp (bi (sBs w h L x y p)) n σ) (rmL 2)) (SC g) n σ 0 0 3 [(0, yR g 128), (1, yR g k), (2, yI x), (3, yI y), (4, yI p), (5, yI t)] [] := by
    intro N
    induction N using Nat.strongRecOn with
    | ind N zh3 =>
      intro t  zN3 zI3
      refine y_iload (pc := 3) hF dX3_isBeside_3 5 rfl ?_
      refine y_getsN (pc := 5) hF dX3_isBeside_5 0 rfl w_1013 ?_
      refine y_slen (pc := 8) hF dX3_isBeside_8 0 rfl ?_
      show yV X0 g 8 (yQ X0 g (SC g) (yPp (bi (sBs w h L x y p)) n σ) (rmL 2)) (SC g) n σ 0 0 9 [(0, yR g 128), (1, yR g k), (2, yI x), (3, yI y), (4, yI p), (5, yI t)] [yI 4, yI t]
      refine y_icmp_ge (pc := 9) hF dX3_isBeside_9 69 rfl (by omega) (by omega) (fun zc9 => ?_) (fun zc9 => ?_)
      · skip
        refine y_iconst (pc := 69) hF dX3_isBeside_69 ?_
        exact y_zret (pc := 70) hF dX3_isBeside_70 (by decide) (Nat.zero_le _) (Nat.zero_le _) ⟨_, rfl, by rw [sBs_no (fun u a b => zI3.2 u a (by omega))]; rfl, rfl, rfl⟩
      · skip
        have zy := ys01 (s := t) (by omega)
        have zt4 : 0 ≤ t ∧ t < (4 : Int) := by omega
        have zsx : -1 ≤ ys 0 t ∧ ys 0 t ≤ 1 := by rw [zy.1]; split; (omega); split <;> omega
        have zsy : -1 ≤ ys 1 t ∧ ys 1 t ≤ 1 := by rw [zy.2]; split; (omega); split <;> omega
        refine y_iload_n (pc := 12) hF dX3_isBeside_12 2 rfl ?_
        refine y_getsN (pc := 13) hF dX3_isBeside_13 0 rfl w_1013 ?_
        refine y_iload (pc := 16) hF dX3_isBeside_16 5 rfl ?_
        refine y_sald (pc := 18) hF dX3_isBeside_18 0 rfl zt4 (by decide) ?_
        refine y_iadd (pc := 19) hF dX3_isBeside_19 ?_
        refine y_istore (pc := 20) (lv' := [(0, yR g 128), (1, yR g k), (2, yI x), (3, yI y), (4, yI p), (5, yI t), (6, yI (x + (ys 0 t)))]) hF dX3_isBeside_20 (by decide) rfl rfl ?_
        refine y_iload_n (pc := 22) hF dX3_isBeside_22 3 rfl ?_
        refine y_getsN (pc := 23) hF dX3_isBeside_23 1 rfl w_1015 ?_
        refine y_iload (pc := 26) hF dX3_isBeside_26 5 rfl ?_
        refine y_sald (pc := 28) hF dX3_isBeside_28 1 rfl zt4 (by decide) ?_
        refine y_iadd (pc := 29) hF dX3_isBeside_29 ?_
        refine y_istore (pc := 30) (lv' := [(0, yR g 128), (1, yR g k), (2, yI x), (3, yI y), (4, yI p), (5, yI t), (6, yI (x + (ys 0 t))), (7, yI (y + (ys 1 t)))]) hF dX3_isBeside_30 (by decide) rfl rfl ?_
        refine y_aload_n (pc := 32) hF dX3_isBeside_32 1 rfl ?_
        refine y_iload (pc := 33) hF dX3_isBeside_33 6 rfl ?_
        refine y_iload (pc := 35) hF dX3_isBeside_35 7 rfl ?_
        have zz37 := y_rV (pc := 37) hF (tX4_has k w h T S F P O hn hP hA (x + (ys 0 t)) (y + (ys 1 t)) (by omega) (by omega)) dX3_isBeside_37 (by have := hP.1; omega) (hP.2 g).1 rfl rfl w_1108 qX4_has rfl ⟨Nat.le_of_ble_eq_true rfl, Nat.le_of_ble_eq_true rfl⟩ ⟨Nat.zero_le _, Nat.zero_le _⟩ (Nat.le_of_ble_eq_true rfl) rfl (rest := []) (cells := 0) (slots := 0) (lv := [(0, yR g 128), (1, yR g k), (2, yI x), (3, yI y), (4, yI p), (5, yI t), (6, yI (x + (ys 0 t))), (7, yI (y + (ys 1 t)))])
        refine y_cp (zz37) ?_
        refine y_if_eq (pc := 40) hF dX3_isBeside_40 63 rfl bi_r (fun zc40 => ?_) (fun zc40 => ?_)
        · replace zc40 := bi_0.mp zc40
          refine y_iinc (pc := 63) (lv' := [(0, yR g 128), (1, yR g k), (2, yI x), (3, yI y), (4, yI p), (5, yI (t + 1)), (6, yI (x + (ys 0 t))), (7, yI (y + (ys 1 t)))]) hF dX3_isBeside_63 5 rfl (by decide) rfl rfl ?_
          refine y_goto (pc := 66) hF dX3_isBeside_66 3 rfl ?_
          refine y_sub [0, 1, 2, 3, 4, 5] rfl ?_
          exact zh3 _ (by omega) (t + 1) rfl ⟨by omega, fun u a b => by { rcases Decidable.em (u = t) with e | e; (rw [e]; unfold isO; rw [zc40, Bool.false_and]); exact zI3.2 u a (by omega) }⟩
        · replace zc40 := bi_n0.mp zc40
          have zi := sIn_iff.mp zc40
          have zx := y_ix (w := w) (h := h) (x := x + ys 0 t) (y := y + ys 1 t) ⟨hw1, hw2⟩ ⟨hw3, hw4⟩ (by omega) (by omega)
          have zlb := hLb (x + ys 0 t) (y + ys 1 t)
          refine y_aload_n (pc := 43) hF dX3_isBeside_43 0 rfl ?_
          refine y_get (pc := 44) (ci := 3) hF dX3_isBeside_44 z128 rfl rfl rfl iX3 0 (by decide) w_448 rfl ?_
          refine y_aload_n (pc := 47) hF dX3_isBeside_47 1 rfl ?_
          refine y_iload (pc := 48) hF dX3_isBeside_48 6 rfl ?_
          refine y_iload (pc := 50) hF dX3_isBeside_50 7 rfl ?_
          have zz52 := y_rV (pc := 52) hF (tX4_at k w h T S F P O hn hP hA (x + (ys 0 t)) (y + (ys 1 t))) dX3_isBeside_52 (by have := hP.1; omega) (hP.2 g).1 rfl rfl w_1018 qX4_at rfl ⟨Nat.le_of_ble_eq_true rfl, Nat.le_of_ble_eq_true rfl⟩ ⟨Nat.zero_le _, Nat.zero_le _⟩ (Nat.le_of_ble_eq_true rfl) rfl (rest := [yR g 129]) (cells := 0) (slots := 0) (lv := [(0, yR g 128), (1, yR g k), (2, yI x), (3, yI y), (4, yI p), (5, yI t), (6, yI (x + (ys 0 t))), (7, yI (y + (ys 1 t)))])
          refine y_cp (zz52) ?_
          refine y_iaload (pc := 55) hF dX3_isBeside_55 z129 rfl ⟨by omega, by show _ < (400 : Int); omega⟩ (by decide) ?_
          rw [show σ 129 ((y + (ys 1 t)) * w + (x + (ys 0 t))) = L (x + ys 0 t) (y + ys 1 t) from (hL _ _ zi.1 zi.2.1 zi.2.2.1 zi.2.2.2)]
          refine y_iload (pc := 56) hF dX3_isBeside_56 4 rfl ?_
          refine y_icmp_ne (pc := 58) hF dX3_isBeside_58 63 rfl (by omega) (by omega) (fun zc58 => ?_) (fun zc58 => ?_)
          · skip
            refine y_iinc (pc := 63) (lv' := [(0, yR g 128), (1, yR g k), (2, yI x), (3, yI y), (4, yI p), (5, yI (t + 1)), (6, yI (x + (ys 0 t))), (7, yI (y + (ys 1 t)))]) hF dX3_isBeside_63 5 rfl (by decide) rfl rfl ?_
            refine y_goto (pc := 66) hF dX3_isBeside_66 3 rfl ?_
            refine y_sub [0, 1, 2, 3, 4, 5] rfl ?_
            exact zh3 _ (by omega) (t + 1) rfl ⟨by omega, fun u a b => by { rcases Decidable.em (u = t) with e | e; (rw [e]; unfold isO; rw [zc40]; simp [zc58]); exact zI3.2 u a (by omega) }⟩
          · skip
            refine y_iconst (pc := 61) hF dX3_isBeside_61 ?_
            exact y_zret (pc := 62) hF dX3_isBeside_62 (by decide) (Nat.zero_le _) (Nat.zero_le _) ⟨_, rfl, by rw [sBs_yes zt4 (by unfold isO; rw [zc40]; simp [zc58])]; rfl, rfl, rfl⟩
  exact zL3 _ (0) rfl ⟨by omega, fun u a b => by omega⟩
