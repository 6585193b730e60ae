theorem dX2_clear_0 : decode cX2_clear 0 = .ok (.aload_n 0, 1) := by decide +kernel
theorem dX2_clear_1 : decode cX2_clear 1 = .ok (.iconst 0, 1) := by decide +kernel
theorem dX2_clear_2 : decode cX2_clear 2 = .ok (.putfield 9, 3) := by decide +kernel
theorem dX2_clear_5 : decode cX2_clear 5 = .ok (.aload_n 0, 1) := by decide +kernel
theorem dX2_clear_6 : decode cX2_clear 6 = .ok (.lconst 0, 1) := by decide +kernel
theorem dX2_clear_7 : decode cX2_clear 7 = .ok (.putfield 15, 3) := by decide +kernel
theorem dX2_clear_10 : decode cX2_clear 10 = .ok (.return_, 1) := by decide +kernel
set_option maxHeartbeats 4000000 in
set_option maxRecDepth 100000 in
theorem tX2_clear {l : Launch} {g : yG} {n : Nat} {σ : yM} (j : Nat) (hn : 172 ≤ n) (hj : isJou j) : yMet l g yX2_clear cX2_clear 1 none (rmL 1) [yR g j] (SC g) n σ (SC g) (yPv (fun n' σ' => n' = n ∧ σ' = yset (yset σ j 0 0) j 1 0)) := by
  have zjn : j < n := by have := hj.1; omega
  have zjn1 : j + 1 < n := by have := hj.1; omega
  refine y_start (by decide) (Nat.le_of_ble_eq_true rfl) (fun X0 hF => ?_)
  show yV X0 g 1 (yQ X0 g (SC g) (yPv (fun n' σ' => n' = n ∧ σ' = yset (yset σ j 0 0) j 1 0)) (rmL 1)) (SC g) n σ 0 0 0 [(0, yR g j)] []
  refine y_aload_n (pc := 0) hF dX2_clear_0 0 rfl ?_
  refine y_iconst (pc := 1) hF dX2_clear_1 ?_
  refine y_putf (pc := 2) (ci := 2) (σ' := yset σ j 0 0) (sch' := (SC g)) hF dX2_clear_2 zjn (hj.2 g).1 rfl rfl iX2 0 (by decide) w_257 tyX2 tyX2_ok nmX2 rfl rfl rfl rfl (Nat.le_of_ble_eq_true rfl) (hj.2 g).1 ((congrArg (kJou g j) (yset_s _ _ _ _)).trans rfl) (fun k' h => ⟨yset_n h, rfl⟩) ?_
  refine y_aload_n (pc := 5) hF dX2_clear_5 0 rfl ?_
  refine y_lconst (pc := 6) (v := 0) hF dX2_clear_6 rfl ?_
  refine y_putf (pc := 7) (ci := 2) (σ' := yset (yset σ j 0 0) j 1 0) (sch' := (SC g)) hF dX2_clear_7 zjn (hj.2 g).1 rfl rfl iX2 1 (by decide) w_260 tyX2 tyX2_ok nmX2 rfl rfl rfl rfl (Nat.le_of_ble_eq_true rfl) (hj.2 g).1 ((congrArg (kJou g j) (yset_s _ _ _ _)).trans rfl) (fun k' h => ⟨yset_n h, rfl⟩) ?_
  exact y_vret (pc := 10) hF dX2_clear_10 (Nat.zero_le _) (Nat.zero_le _) ⟨rfl, rfl, rfl⟩

theorem dX2_kept_0 : decode cX2_kept 0 = .ok (.aload_n 0, 1) := by decide +kernel
theorem dX2_kept_1 : decode cX2_kept 1 = .ok (.getfield 9, 3) := by decide +kernel
theorem dX2_kept_4 : decode cX2_kept 4 = .ok (.bipush 30, 2) := by decide +kernel
theorem dX2_kept_6 : decode cX2_kept 6 = .ok (.invokestatic 23, 3) := by decide +kernel
theorem dX2_kept_9 : decode cX2_kept 9 = .ok (.ireturn, 1) := by decide +kernel
set_option maxHeartbeats 4000000 in
set_option maxRecDepth 100000 in
theorem tX2_kept {l : Launch} {g : yG} {n : Nat} {σ : yM} (j : Nat) (nf df nl : Int) (lg : Int → Int → Int) (hn : 172 ≤ n) (hj : isJou j) (hJ : rJ σ j nf df nl lg) : yMet l g yX2_kept cX2_kept 1 (some .int) (rmL 1) [yR g j] (SC g) n σ (SC g) (yPp (min nf 30) n σ) := by
  have zjn : j < n := by have := hj.1; omega
  have zjn1 : j + 1 < n := by have := hj.1; omega
  have zj3 := hJ.2.2.1
  have zj4 := hJ.2.2.2.1
  refine y_start (by decide) (Nat.le_of_ble_eq_true rfl) (fun X0 hF => ?_)
  show yV X0 g 1 (yQ X0 g (SC g) (yPp (min nf 30) n σ) (rmL 1)) (SC g) n σ 0 0 0 [(0, yR g j)] []
  refine y_aload_n (pc := 0) hF dX2_kept_0 0 rfl ?_
  refine y_get (pc := 1) (ci := 2) hF dX2_kept_1 zjn (hj.2 g).1 rfl rfl iX2 0 (by decide) w_257 rfl ?_
  rw [show σ j 0 = nf from hJ.1]
  refine y_bipush (pc := 4) hF dX2_kept_4 (by decide) ?_
  refine y_mmin (pc := 6) hF dX2_kept_6 w_1120 w_699 w_103 w_700 (Nat.le_of_ble_eq_true rfl) (Nat.le_of_ble_eq_true rfl) ⟨Nat.zero_le _, Nat.zero_le _⟩ (by omega) (by omega) ?_
  exact y_iret (pc := 9) hF dX2_kept_9 (Nat.zero_le _) (Nat.zero_le _) ⟨_, rfl, rfl, rfl, rfl⟩

theorem dX2_entry_0 : decode cX2_entry 0 = .ok (.iload_n 1, 1) := by decide +kernel
theorem dX2_entry_1 : decode cX2_entry 1 = .ok (.ifCond .lt 21, 3) := by decide +kernel
theorem dX2_entry_4 : decode cX2_entry 4 = .ok (.iload_n 1, 1) := by decide +kernel
theorem dX2_entry_5 : decode cX2_entry 5 = .ok (.aload_n 0, 1) := by decide +kernel
theorem dX2_entry_6 : decode cX2_entry 6 = .ok (.invokevirtual 58, 3) := by decide +kernel
theorem dX2_entry_9 : decode cX2_entry 9 = .ok (.if_icmp .ge 13, 3) := by decide +kernel
theorem dX2_entry_12 : decode cX2_entry 12 = .ok (.iload_n 2, 1) := by decide +kernel
theorem dX2_entry_13 : decode cX2_entry 13 = .ok (.ifCond .lt 9, 3) := by decide +kernel
theorem dX2_entry_16 : decode cX2_entry 16 = .ok (.iload_n 2, 1) := by decide +kernel
theorem dX2_entry_17 : decode cX2_entry 17 = .ok (.bipush 9, 2) := by decide +kernel
theorem dX2_entry_19 : decode cX2_entry 19 = .ok (.if_icmp .lt 5, 3) := by decide +kernel
theorem dX2_entry_22 : decode cX2_entry 22 = .ok (.iconst (-1), 1) := by decide +kernel
theorem dX2_entry_23 : decode cX2_entry 23 = .ok (.ireturn, 1) := by decide +kernel
theorem dX2_entry_24 : decode cX2_entry 24 = .ok (.aload_n 0, 1) := by decide +kernel
theorem dX2_entry_25 : decode cX2_entry 25 = .ok (.getfield 19, 3) := by decide +kernel
theorem dX2_entry_28 : decode cX2_entry 28 = .ok (.aload_n 0, 1) := by decide +kernel
theorem dX2_entry_29 : decode cX2_entry 29 = .ok (.getfield 9, 3) := by decide +kernel
theorem dX2_entry_32 : decode cX2_entry 32 = .ok (.iconst 1, 1) := by decide +kernel
theorem dX2_entry_33 : decode cX2_entry 33 = .ok (.isub, 1) := by decide +kernel
theorem dX2_entry_34 : decode cX2_entry 34 = .ok (.iload_n 1, 1) := by decide +kernel
theorem dX2_entry_35 : decode cX2_entry 35 = .ok (.isub, 1) := by decide +kernel
theorem dX2_entry_36 : decode cX2_entry 36 = .ok (.bipush 30, 2) := by decide +kernel
theorem dX2_entry_38 : decode cX2_entry 38 = .ok (.irem, 1) := by decide +kernel
theorem dX2_entry_39 : decode cX2_entry 39 = .ok (.bipush 9, 2) := by decide +kernel
theorem dX2_entry_41 : decode cX2_entry 41 = .ok (.imul, 1) := by decide +kernel
theorem dX2_entry_42 : decode cX2_entry 42 = .ok (.iload_n 2, 1) := by decide +kernel
theorem dX2_entry_43 : decode cX2_entry 43 = .ok (.iadd, 1) := by decide +kernel
theorem dX2_entry_44 : decode cX2_entry 44 = .ok (.iaload, 1) := by decide +kernel
theorem dX2_entry_45 : decode cX2_entry 45 = .ok (.ireturn, 1) := by decide +kernel
set_option maxHeartbeats 4000000 in
set_option maxRecDepth 100000 in
theorem tX2_entry {l : Launch} {g : yG} {n : Nat} {σ : yM} (j : Nat) (nf df nl : Int) (lg : Int → Int → Int) (hn : 172 ≤ n) (hj : isJou j) (hJ : rJ σ j nf df nl lg) (i c : Int) (hi : 0 ≤ i ∧ i < nl) (hc : 0 ≤ c ∧ c < 9) : yMet l g yX2_entry cX2_entry 3 (some .int) (rmL 2) [yR g j, yI i, yI c] (SC g) n σ (SC g) (yPp (lg i c) n σ) := by
  have zjn : j < n := by have := hj.1; omega
  have zjn1 : j + 1 < n := by have := hj.1; omega
  have zj3 := hJ.2.2.1
  have zj4 := hJ.2.2.2.1
  refine y_start (by decide) (Nat.le_of_ble_eq_true rfl) (fun X0 hF => ?_)
  show yV X0 g 3 (yQ X0 g (SC g) (yPp (lg i c) n σ) (rmL 2)) (SC g) n σ 0 0 0 [(0, yR g j), (1, yI i), (2, yI c)] []
  refine y_iload_n (pc := 0) hF dX2_entry_0 1 rfl ?_
  refine y_if_lt (pc := 1) hF dX2_entry_1 22 rfl (by omega) (fun zc1 => ?_) (fun zc1 => ?_)
  · skip
    refine y_iconst (pc := 22) hF dX2_entry_22 ?_
    exact y_iret (pc := 23) hF dX2_entry_23 (Nat.zero_le _) (Nat.zero_le _) (by exfalso; omega)
  · skip
    refine y_iload_n (pc := 4) hF dX2_entry_4 1 rfl ?_
    refine y_aload_n (pc := 5) hF dX2_entry_5 0 rfl ?_
    have zz6 := y_rV (pc := 6) hF (tX2_kept j nf df nl lg hn hj hJ) dX2_entry_6 zjn (hj.2 g).1 rfl rfl w_1125 qX2_kept rfl ⟨Nat.le_of_ble_eq_true rfl, Nat.le_of_ble_eq_true rfl⟩ ⟨Nat.zero_le _, Nat.zero_le _⟩ (Nat.le_of_ble_eq_true rfl) rfl (rest := [yI i]) (cells := 0) (slots := 0) (lv := [(0, yR g j), (1, yI i), (2, yI c)])
    refine y_cp (zz6) ?_
    refine y_icmp_ge (pc := 9) hF dX2_entry_9 22 rfl (by omega) (by omega) (fun zc9 => ?_) (fun zc9 => ?_)
    · skip
      refine y_iconst (pc := 22) hF dX2_entry_22 ?_
      exact y_iret (pc := 23) hF dX2_entry_23 (Nat.zero_le _) (Nat.zero_le _) (by exfalso; omega)
    · skip
      refine y_iload_n (pc := 12) hF dX2_entry_12 2 rfl ?_
      refine y_if_lt (pc := 13) hF dX2_entry_13 22 rfl (by omega) (fun zc13 => ?_) (fun zc13 => ?_)
      · skip
        refine y_iconst (pc := 22) hF dX2_entry_22 ?_
        exact y_iret (pc := 23) hF dX2_entry_23 (Nat.zero_le _) (Nat.zero_le _) (by exfalso; omega)
      · skip
        refine y_iload_n (pc := 16) hF dX2_entry_16 2 rfl ?_
        refine y_bipush (pc := 17) hF dX2_entry_17 (by decide) ?_
        refine y_icmp_lt (pc := 19) hF dX2_entry_19 24 rfl (by omega) (by omega) (fun zc19 => ?_) (fun zc19 => ?_)
        · skip
          refine y_aload_n (pc := 24) hF dX2_entry_24 0 rfl ?_
          refine y_get (pc := 25) (ci := 2) hF dX2_entry_25 zjn (hj.2 g).1 rfl rfl iX2 2 (by decide) w_262 rfl ?_
          refine y_aload_n (pc := 28) hF dX2_entry_28 0 rfl ?_
          refine y_get (pc := 29) (ci := 2) hF dX2_entry_29 zjn (hj.2 g).1 rfl rfl iX2 0 (by decide) w_257 rfl ?_
          rw [show σ j 0 = nf from hJ.1]
          refine y_iconst (pc := 32) hF dX2_entry_32 ?_
          refine y_isub (pc := 33) hF dX2_entry_33 ?_
          refine y_iload_n (pc := 34) hF dX2_entry_34 1 rfl ?_
          refine y_isub (pc := 35) hF dX2_entry_35 ?_
          refine y_bipush (pc := 36) hF dX2_entry_36 (by decide) ?_
          refine y_irem (pc := 38) hF dX2_entry_38 (by omega) (by omega) (by omega) ?_
          rw [show ((nf - 1) - i) - Int.tdiv ((nf - 1) - i) 30 * 30 = (nf - 1 - i) % 30 from (y_rem (by omega) (by omega))]
          refine y_bipush (pc := 39) hF dX2_entry_39 (by decide) ?_
          refine y_imul (pc := 41) hF dX2_entry_41 ?_
          refine y_iload_n (pc := 42) hF dX2_entry_42 2 rfl ?_
          refine y_iadd (pc := 43) hF dX2_entry_43 ?_
          refine y_iaload (pc := 44) hF dX2_entry_44 zjn1 (hj.2 g).2 (by omega) (by decide) ?_
          rw [show σ (j + 1) ((((nf - 1 - i) % 30) * 9) + c) = lg i c from (hJ.2.2.2.2 i c hi.1 hi.2 hc.1 hc.2)]
          exact y_iret (pc := 45) hF dX2_entry_45 (Nat.zero_le _) (Nat.zero_le _) ⟨_, rfl, rfl, rfl, rfl⟩
        · skip
          refine y_iconst (pc := 22) hF dX2_entry_22 ?_
          exact y_iret (pc := 23) hF dX2_entry_23 (Nat.zero_le _) (Nat.zero_le _) (by exfalso; omega)

theorem dX2_countWay_0 : decode cX2_countWay 0 = .ok (.iconst 0, 1) := by decide +kernel
theorem dX2_countWay_1 : decode cX2_countWay 1 = .ok (.istore_n 2, 1) := by decide +kernel
theorem dX2_countWay_2 : decode cX2_countWay 2 = .ok (.iconst 0, 1) := by decide +kernel
theorem dX2_countWay_3 : decode cX2_countWay 3 = .ok (.istore_n 3, 1) := by decide +kernel
theorem dX2_countWay_4 : decode cX2_countWay 4 = .ok (.iload_n 3, 1) := by decide +kernel
theorem dX2_countWay_5 : decode cX2_countWay 5 = .ok (.aload_n 0, 1) := by decide +kernel
theorem dX2_countWay_6 : decode cX2_countWay 6 = .ok (.invokevirtual 58, 3) := by decide +kernel
theorem dX2_countWay_9 : decode cX2_countWay 9 = .ok (.if_icmp .ge 28, 3) := by decide +kernel
theorem dX2_countWay_12 : decode cX2_countWay 12 = .ok (.iload_n 2, 1) := by decide +kernel
theorem dX2_countWay_13 : decode cX2_countWay 13 = .ok (.aload_n 0, 1) := by decide +kernel
theorem dX2_countWay_14 : decode cX2_countWay 14 = .ok (.iload_n 3, 1) := by decide +kernel
theorem dX2_countWay_15 : decode cX2_countWay 15 = .ok (.bipush 7, 2) := by decide +kernel
theorem dX2_countWay_17 : decode cX2_countWay 17 = .ok (.invokevirtual 62, 3) := by decide +kernel
theorem dX2_countWay_20 : decode cX2_countWay 20 = .ok (.iload_n 1, 1) := by decide +kernel
theorem dX2_countWay_21 : decode cX2_countWay 21 = .ok (.if_icmp .ne 7, 3) := by decide +kernel
theorem dX2_countWay_24 : decode cX2_countWay 24 = .ok (.iconst 1, 1) := by decide +kernel
theorem dX2_countWay_25 : decode cX2_countWay 25 = .ok (.goto 4, 3) := by decide +kernel
theorem dX2_countWay_28 : decode cX2_countWay 28 = .ok (.iconst 0, 1) := by decide +kernel
theorem dX2_countWay_29 : decode cX2_countWay 29 = .ok (.iadd, 1) := by decide +kernel
theorem dX2_countWay_30 : decode cX2_countWay 30 = .ok (.istore_n 2, 1) := by decide +kernel
theorem dX2_countWay_31 : decode cX2_countWay 31 = .ok (.iinc 3 1, 3) := by decide +kernel
theorem dX2_countWay_34 : decode cX2_countWay 34 = .ok (.goto (-30), 3) := by decide +kernel
theorem dX2_countWay_37 : decode cX2_countWay 37 = .ok (.iload_n 2, 1) := by decide +kernel
theorem dX2_countWay_38 : decode cX2_countWay 38 = .ok (.ireturn, 1) := by decide +kernel
set_option maxHeartbeats 4000000 in
set_option maxRecDepth 100000 in
theorem tX2_countWay {l : Launch} {g : yG} {n : Nat} {σ : yM} (j : Nat) (nf df nl : Int) (lg : Int → Int → Int) (hn : 172 ≤ n) (hj : isJou j) (hJ : rJ σ j nf df nl lg) (way : Int) (hwy : 0 ≤ way ∧ way < 8) (hlg : ∀ i : Int, 0 ≤ i → i < nl → 0 ≤ lg i 7 ∧ lg i 7 ≤ 7) : yMet l g yX2_countWay cX2_countWay 4 (some .int) (rmL 3) [yR g j, yI way] (SC g) n σ (SC g) (yPp (sWy nl lg way) n σ) := by
  have zjn : j < n := by have := hj.1; omega
  have zjn1 : j + 1 < n := by have := hj.1; omega
  have zj3 := hJ.2.2.1
  have zj4 := hJ.2.2.2.1
  refine y_start (by decide) (Nat.le_of_ble_eq_true rfl) (fun X0 hF => ?_)
  show yV X0 g 4 (yQ X0 g (SC g) (yPp (sWy nl lg way) n σ) (rmL 3)) (SC g) n σ 0 0 0 [(0, yR g j), (1, yI way)] []
  refine y_iconst (pc := 0) hF dX2_countWay_0 ?_
  refine y_istore_n (pc := 1) (lv' := [(0, yR g j), (1, yI way), (2, yI 0)]) hF dX2_countWay_1 (by decide) rfl rfl ?_
  refine y_iconst (pc := 2) hF dX2_countWay_2 ?_
  refine y_istore_n (pc := 3) (lv' := [(0, yR g j), (1, yI way), (2, yI 0), (3, yI 0)]) hF dX2_countWay_3 (by decide) rfl rfl ?_
  have zL4 : ∀ (N : Nat) (i c : Int), N = (nl - i).toNat → ((0 ≤ i ∧ i ≤ nl) ∧ c = fr (fun q i => q + bi (decide (lg i 7 = way))) 0 i.toNat 0) → yV X0 g 4 (yQ X0 g (SC g) (yPp (sWy nl lg way) n σ) (rmL 3)) (SC g) n σ 0 0 4 [(0, yR g j), (1, yI way), (2, yI c), (3, yI i)] [] := by
    intro N
    induction N using Nat.strongRecOn with
    | ind N zh4 =>
      intro i c  zN4 zI4
      refine y_iload_n (pc := 4) hF dX2_countWay_4 3 rfl ?_
      refine y_aload_n (pc := 5) hF dX2_countWay_5 0 rfl ?_
      have zz6 := y_rV (pc := 6) hF (tX2_kept j nf df nl lg hn hj hJ) dX2_countWay_6 zjn (hj.2 g).1 rfl rfl w_1125 qX2_kept rfl ⟨Nat.le_of_ble_eq_true rfl, Nat.le_of_ble_eq_true rfl⟩ ⟨Nat.zero_le _, Nat.zero_le _⟩ (Nat.le_of_ble_eq_true rfl) rfl (rest := [yI i]) (cells := 0) (slots := 0) (lv := [(0, yR g j), (1, yI way), (2, yI c), (3, yI i)])
      refine y_cp (zz6) ?_
      refine y_icmp_ge (pc := 9) hF dX2_countWay_9 37 rfl (by omega) (by omega) (fun zc9 => ?_) (fun zc9 => ?_)
      · skip
        refine y_iload_n (pc := 37) hF dX2_countWay_37 2 rfl ?_
        exact y_iret (pc := 38) hF dX2_countWay_38 (Nat.zero_le _) (Nat.zero_le _) ⟨_, rfl, by rw [zI4.2]; unfold sWy; rw [show i.toNat = nl.toNat by omega], rfl, rfl⟩
      · skip
        have zg := hlg i zI4.1.1 (by omega)
        refine y_iload_n (pc := 12) hF dX2_countWay_12 2 rfl ?_
        refine y_aload_n (pc := 13) hF dX2_countWay_13 0 rfl ?_
        refine y_iload_n (pc := 14) hF dX2_countWay_14 3 rfl ?_
        refine y_bipush (pc := 15) hF dX2_countWay_15 (by decide) ?_
        have zz17 := y_rV (pc := 17) hF (tX2_entry j nf df nl lg hn hj hJ i 7 ⟨zI4.1.1, by omega⟩ (by omega)) dX2_countWay_17 zjn (hj.2 g).1 rfl rfl w_1209 qX2_entry rfl ⟨Nat.le_of_ble_eq_true rfl, Nat.le_of_ble_eq_true rfl⟩ ⟨Nat.zero_le _, Nat.zero_le _⟩ (Nat.le_of_ble_eq_true rfl) rfl (rest := [yI c]) (cells := 0) (slots := 0) (lv := [(0, yR g j), (1, yI way), (2, yI c), (3, yI i)])
        refine y_cp (zz17) ?_
        refine y_iload_n (pc := 20) hF dX2_countWay_20 1 rfl ?_
        refine y_t_icmp_ne (pc := 21) hF dX2_countWay_21 dX2_countWay_24 dX2_countWay_25 dX2_countWay_28 (by omega) (by omega) ?_
        rw [show (if (lg i 7) ≠ way then 0 else 1) = bi (decide (lg i 7 = way)) from (by by_cases zq : lg i 7 = way <;> simp [zq, bi])]
        refine y_iadd (pc := 29) hF dX2_countWay_29 ?_
        refine y_istore_n (pc := 30) (lv' := [(0, yR g j), (1, yI way), (2, yI (c + (bi (decide (lg i 7 = way))))), (3, yI i)]) hF dX2_countWay_30 (by decide) rfl rfl ?_
        refine y_iinc (pc := 31) (lv' := [(0, yR g j), (1, yI way), (2, yI (c + (bi (decide (lg i 7 = way))))), (3, yI (i + 1))]) hF dX2_countWay_31 3 rfl (by decide) rfl rfl ?_
        refine y_goto (pc := 34) hF dX2_countWay_34 4 rfl ?_
        exact zh4 _ (by omega) (i + 1) (c + (bi (decide (lg i 7 = way)))) rfl ⟨by omega, by rw [fr_up _ _ _ _ zI4.1.1, ← zI4.2, Int.zero_add]⟩
  exact zL4 _ (0) (0) rfl ⟨by omega, rfl⟩

theorem dX2_copyFrom_0 : decode cX2_copyFrom 0 = .ok (.aload_n 0, 1) := by decide +kernel
theorem dX2_copyFrom_1 : decode cX2_copyFrom 1 = .ok (.aload_n 1, 1) := by decide +kernel
theorem dX2_copyFrom_2 : decode cX2_copyFrom 2 = .ok (.getfield 9, 3) := by decide +kernel
theorem dX2_copyFrom_5 : decode cX2_copyFrom 5 = .ok (.putfield 9, 3) := by decide +kernel
theorem dX2_copyFrom_8 : decode cX2_copyFrom 8 = .ok (.aload_n 0, 1) := by decide +kernel
theorem dX2_copyFrom_9 : decode cX2_copyFrom 9 = .ok (.aload_n 1, 1) := by decide +kernel
theorem dX2_copyFrom_10 : decode cX2_copyFrom 10 = .ok (.getfield 15, 3) := by decide +kernel
theorem dX2_copyFrom_13 : decode cX2_copyFrom 13 = .ok (.putfield 15, 3) := by decide +kernel
theorem dX2_copyFrom_16 : decode cX2_copyFrom 16 = .ok (.aload_n 1, 1) := by decide +kernel
theorem dX2_copyFrom_17 : decode cX2_copyFrom 17 = .ok (.getfield 19, 3) := by decide +kernel
theorem dX2_copyFrom_20 : decode cX2_copyFrom 20 = .ok (.iconst 0, 1) := by decide +kernel
theorem dX2_copyFrom_21 : decode cX2_copyFrom 21 = .ok (.aload_n 0, 1) := by decide +kernel
theorem dX2_copyFrom_22 : decode cX2_copyFrom 22 = .ok (.getfield 19, 3) := by decide +kernel
theorem dX2_copyFrom_25 : decode cX2_copyFrom 25 = .ok (.iconst 0, 1) := by decide +kernel
theorem dX2_copyFrom_26 : decode cX2_copyFrom 26 = .ok (.aload_n 0, 1) := by decide +kernel
theorem dX2_copyFrom_27 : decode cX2_copyFrom 27 = .ok (.getfield 19, 3) := by decide +kernel
theorem dX2_copyFrom_30 : decode cX2_copyFrom 30 = .ok (.arraylength, 1) := by decide +kernel
theorem dX2_copyFrom_31 : decode cX2_copyFrom 31 = .ok (.invokestatic 65, 3) := by decide +kernel
theorem dX2_copyFrom_34 : decode cX2_copyFrom 34 = .ok (.return_, 1) := by decide +kernel
set_option maxHeartbeats 4000000 in
set_option maxRecDepth 100000 in
theorem tX2_copyFrom {l : Launch} {g : yG} {n : Nat} {σ : yM} (j o_ : Nat) (hn : 172 ≤ n) (hj : isJou j) (ho : isJou o_) (hd : o_ + 1 < j ∨ j + 1 < o_) : yMet l g yX2_copyFrom cX2_copyFrom 2 none (rmL 1) [yR g j, yR g o_] (SC g) n σ (SC g) (yPv (fun n' σ' => n' = n ∧ fc j (j + 1) σ σ' ∧ ∀ (nf df nl : Int) (lg : Int → Int → Int), rJ σ o_ nf df nl lg → rJ σ' j nf df nl lg)) := by
  have zjn : j < n := by have := hj.1; omega
  have zjn1 : j + 1 < n := by have := hj.1; omega
  have zo_n : o_ < n := by have := ho.1; omega
  have zo_n1 : o_ + 1 < n := by have := ho.1; omega
  have zne : ¬ (o_ = j) := by omega
  refine y_start (by decide) (Nat.le_of_ble_eq_true rfl) (fun X0 hF => ?_)
  show yV X0 g 2 (yQ X0 g (SC g) (yPv (fun n' σ' => n' = n ∧ fc j (j + 1) σ σ' ∧ ∀ (nf df nl : Int) (lg : Int → Int → Int), rJ σ o_ nf df nl lg → rJ σ' j nf df nl lg)) (rmL 1)) (SC g) n σ 0 0 0 [(0, yR g j), (1, yR g o_)] []
  refine y_aload_n (pc := 0) hF dX2_copyFrom_0 0 rfl ?_
  refine y_aload_n (pc := 1) hF dX2_copyFrom_1 1 rfl ?_
  refine y_get (pc := 2) (ci := 2) hF dX2_copyFrom_2 zo_n (ho.2 g).1 rfl rfl iX2 0 (by decide) w_257 rfl ?_
  refine y_putf (pc := 5) (ci := 2) (σ' := yset σ j 0 (σ o_ 0)) (sch' := (SC g)) hF dX2_copyFrom_5 zjn (hj.2 g).1 rfl rfl iX2 0 (by decide) w_257 tyX2 tyX2_ok nmX2 rfl rfl rfl rfl (Nat.le_of_ble_eq_true rfl) (hj.2 g).1 ((congrArg (kJou g j) (yset_s _ _ _ _)).trans rfl) (fun k' h => ⟨yset_n h, rfl⟩) ?_
  refine y_aload_n (pc := 8) hF dX2_copyFrom_8 0 rfl ?_
  refine y_aload_n (pc := 9) hF dX2_copyFrom_9 1 rfl ?_
  refine y_get (pc := 10) (ci := 2) hF dX2_copyFrom_10 zo_n (ho.2 g).1 rfl rfl iX2 1 (by decide) w_260 rfl ?_
  refine y_putf (pc := 13) (ci := 2) (σ' := yset (yset σ j 0 (σ o_ 0)) j 1 ((yset σ j 0 (σ o_ 0)) o_ 1)) (sch' := (SC g)) hF dX2_copyFrom_13 zjn (hj.2 g).1 rfl rfl iX2 1 (by decide) w_260 tyX2 tyX2_ok nmX2 rfl rfl rfl rfl (Nat.le_of_ble_eq_true rfl) (hj.2 g).1 ((congrArg (kJou g j) (yset_s _ _ _ _)).trans rfl) (fun k' h => ⟨yset_n h, rfl⟩) ?_
  refine y_aload_n (pc := 16) hF dX2_copyFrom_16 1 rfl ?_
  refine y_get (pc := 17) (ci := 2) hF dX2_copyFrom_17 zo_n (ho.2 g).1 rfl rfl iX2 2 (by decide) w_262 rfl ?_
  refine y_iconst (pc := 20) hF dX2_copyFrom_20 ?_
  refine y_aload_n (pc := 21) hF dX2_copyFrom_21 0 rfl ?_
  refine y_get (pc := 22) (ci := 2) hF dX2_copyFrom_22 zjn (hj.2 g).1 rfl rfl iX2 2 (by decide) w_262 rfl ?_
  refine y_iconst (pc := 25) hF dX2_copyFrom_25 ?_
  refine y_aload_n (pc := 26) hF dX2_copyFrom_26 0 rfl ?_
  refine y_get (pc := 27) (ci := 2) hF dX2_copyFrom_27 zjn (hj.2 g).1 rfl rfl iX2 2 (by decide) w_262 rfl ?_
  refine y_alen (pc := 30) hF dX2_copyFrom_30 zjn1 (hj.2 g).2 ?_
  refine y_copy0 (pc := 31) hF dX2_copyFrom_31 w_585 w_566 w_565 w_105 zo_n1 (ho.2 g).2 zjn1 (hj.2 g).2 (by decide) (by decide) (Nat.le_of_ble_eq_true rfl) (Nat.le_of_ble_eq_true rfl) ?_
  exact y_vret (pc := 34) hF dX2_copyFrom_34 (Nat.zero_le _) (Nat.zero_le _) ⟨rfl, rfl, fun c hc => by rw [ycp_n (by omega), yset_n (by omega), yset_n (by omega)], fun nf df nl lg H => ⟨by rw [ycp_n (by omega)]; simp [yset_ap]; exact H.1, by rw [ycp_n (by omega)]; simp [yset_ap, zne]; exact H.2.1, H.2.2.1, H.2.2.2.1, fun a b h1 h2 h3 h4 => by have hz := H.2.2.1; have hz2 := H.2.2.2.1; rw [ycp_at (by omega), yset_n (by omega), yset_n (by omega)]; exact H.2.2.2.2 a b h1 h2 h3 h4⟩⟩

theorem dX2_record_0 : decode cX2_record 0 = .ok (.aload_n 0, 1) := by decide +kernel
theorem dX2_record_1 : decode cX2_record 1 = .ok (.getfield 9, 3) := by decide +kernel
theorem dX2_record_4 : decode cX2_record 4 = .ok (.bipush 30, 2) := by decide +kernel
theorem dX2_record_6 : decode cX2_record 6 = .ok (.irem, 1) := by decide +kernel
theorem dX2_record_7 : decode cX2_record 7 = .ok (.bipush 9, 2) := by decide +kernel
theorem dX2_record_9 : decode cX2_record 9 = .ok (.imul, 1) := by decide +kernel
theorem dX2_record_10 : decode cX2_record 10 = .ok (.istore 5, 2) := by decide +kernel
theorem dX2_record_12 : decode cX2_record 12 = .ok (.aload_n 0, 1) := by decide +kernel
theorem dX2_record_13 : decode cX2_record 13 = .ok (.getfield 19, 3) := by decide +kernel
theorem dX2_record_16 : decode cX2_record 16 = .ok (.iload 5, 2) := by decide +kernel
theorem dX2_record_18 : decode cX2_record 18 = .ok (.aload_n 2, 1) := by decide +kernel
theorem dX2_record_19 : decode cX2_record 19 = .ok (.getfield 29, 3) := by decide +kernel
theorem dX2_record_22 : decode cX2_record 22 = .ok (.iastore, 1) := by decide +kernel
theorem dX2_record_23 : decode cX2_record 23 = .ok (.aload_n 0, 1) := by decide +kernel
theorem dX2_record_24 : decode cX2_record 24 = .ok (.getfield 19, 3) := by decide +kernel
theorem dX2_record_27 : decode cX2_record 27 = .ok (.iload 5, 2) := by decide +kernel
theorem dX2_record_29 : decode cX2_record 29 = .ok (.iconst 1, 1) := by decide +kernel
theorem dX2_record_30 : decode cX2_record 30 = .ok (.iadd, 1) := by decide +kernel
theorem dX2_record_31 : decode cX2_record 31 = .ok (.aload_n 2, 1) := by decide +kernel
theorem dX2_record_32 : decode cX2_record 32 = .ok (.getfield 34, 3) := by decide +kernel
theorem dX2_record_35 : decode cX2_record 35 = .ok (.iastore, 1) := by decide +kernel
theorem dX2_record_36 : decode cX2_record 36 = .ok (.aload_n 0, 1) := by decide +kernel
theorem dX2_record_37 : decode cX2_record 37 = .ok (.getfield 19, 3) := by decide +kernel
theorem dX2_record_40 : decode cX2_record 40 = .ok (.iload 5, 2) := by decide +kernel
theorem dX2_record_42 : decode cX2_record 42 = .ok (.iconst 2, 1) := by decide +kernel
theorem dX2_record_43 : decode cX2_record 43 = .ok (.iadd, 1) := by decide +kernel
theorem dX2_record_44 : decode cX2_record 44 = .ok (.aload_n 1, 1) := by decide +kernel
theorem dX2_record_45 : decode cX2_record 45 = .ok (.aload_n 2, 1) := by decide +kernel
theorem dX2_record_46 : decode cX2_record 46 = .ok (.getfield 37, 3) := by decide +kernel
theorem dX2_record_49 : decode cX2_record 49 = .ok (.invokevirtual 40, 3) := by decide +kernel
theorem dX2_record_52 : decode cX2_record 52 = .ok (.iastore, 1) := by decide +kernel
theorem dX2_record_53 : decode cX2_record 53 = .ok (.aload_n 0, 1) := by decide +kernel
theorem dX2_record_54 : decode cX2_record 54 = .ok (.getfield 19, 3) := by decide +kernel
theorem dX2_record_57 : decode cX2_record 57 = .ok (.iload 5, 2) := by decide +kernel
theorem dX2_record_59 : decode cX2_record 59 = .ok (.iconst 3, 1) := by decide +kernel
theorem dX2_record_60 : decode cX2_record 60 = .ok (.iadd, 1) := by decide +kernel
theorem dX2_record_61 : decode cX2_record 61 = .ok (.aload_n 1, 1) := by decide +kernel
theorem dX2_record_62 : decode cX2_record 62 = .ok (.aload_n 2, 1) := by decide +kernel
theorem dX2_record_63 : decode cX2_record 63 = .ok (.getfield 37, 3) := by decide +kernel
theorem dX2_record_66 : decode cX2_record 66 = .ok (.invokevirtual 46, 3) := by decide +kernel
theorem dX2_record_69 : decode cX2_record 69 = .ok (.iastore, 1) := by decide +kernel
theorem dX2_record_70 : decode cX2_record 70 = .ok (.aload_n 0, 1) := by decide +kernel
theorem dX2_record_71 : decode cX2_record 71 = .ok (.getfield 19, 3) := by decide +kernel
theorem dX2_record_74 : decode cX2_record 74 = .ok (.iload 5, 2) := by decide +kernel
theorem dX2_record_76 : decode cX2_record 76 = .ok (.iconst 4, 1) := by decide +kernel
theorem dX2_record_77 : decode cX2_record 77 = .ok (.iadd, 1) := by decide +kernel
theorem dX2_record_78 : decode cX2_record 78 = .ok (.aload_n 2, 1) := by decide +kernel
theorem dX2_record_79 : decode cX2_record 79 = .ok (.getfield 49, 3) := by decide +kernel
theorem dX2_record_82 : decode cX2_record 82 = .ok (.iastore, 1) := by decide +kernel
theorem dX2_record_83 : decode cX2_record 83 = .ok (.aload_n 0, 1) := by decide +kernel
theorem dX2_record_84 : decode cX2_record 84 = .ok (.getfield 19, 3) := by decide +kernel
theorem dX2_record_87 : decode cX2_record 87 = .ok (.iload 5, 2) := by decide +kernel
theorem dX2_record_89 : decode cX2_record 89 = .ok (.iconst 5, 1) := by decide +kernel
theorem dX2_record_90 : decode cX2_record 90 = .ok (.iadd, 1) := by decide +kernel
theorem dX2_record_91 : decode cX2_record 91 = .ok (.iload_n 3, 1) := by decide +kernel
theorem dX2_record_92 : decode cX2_record 92 = .ok (.iastore, 1) := by decide +kernel
theorem dX2_record_93 : decode cX2_record 93 = .ok (.aload_n 0, 1) := by decide +kernel
theorem dX2_record_94 : decode cX2_record 94 = .ok (.getfield 19, 3) := by decide +kernel
theorem dX2_record_97 : decode cX2_record 97 = .ok (.iload 5, 2) := by decide +kernel
theorem dX2_record_99 : decode cX2_record 99 = .ok (.bipush 6, 2) := by decide +kernel
theorem dX2_record_101 : decode cX2_record 101 = .ok (.iadd, 1) := by decide +kernel
theorem dX2_record_102 : decode cX2_record 102 = .ok (.iload 4, 2) := by decide +kernel
theorem dX2_record_104 : decode cX2_record 104 = .ok (.iastore, 1) := by decide +kernel
theorem dX2_record_105 : decode cX2_record 105 = .ok (.aload_n 0, 1) := by decide +kernel
theorem dX2_record_106 : decode cX2_record 106 = .ok (.getfield 19, 3) := by decide +kernel
theorem dX2_record_109 : decode cX2_record 109 = .ok (.iload 5, 2) := by decide +kernel
theorem dX2_record_111 : decode cX2_record 111 = .ok (.bipush 7, 2) := by decide +kernel
theorem dX2_record_113 : decode cX2_record 113 = .ok (.iadd, 1) := by decide +kernel
theorem dX2_record_114 : decode cX2_record 114 = .ok (.aload_n 2, 1) := by decide +kernel
theorem dX2_record_115 : decode cX2_record 115 = .ok (.getfield 52, 3) := by decide +kernel
theorem dX2_record_118 : decode cX2_record 118 = .ok (.iastore, 1) := by decide +kernel
theorem dX2_record_119 : decode cX2_record 119 = .ok (.aload_n 0, 1) := by decide +kernel
theorem dX2_record_120 : decode cX2_record 120 = .ok (.getfield 19, 3) := by decide +kernel
theorem dX2_record_123 : decode cX2_record 123 = .ok (.iload 5, 2) := by decide +kernel
theorem dX2_record_125 : decode cX2_record 125 = .ok (.bipush 8, 2) := by decide +kernel
theorem dX2_record_127 : decode cX2_record 127 = .ok (.iadd, 1) := by decide +kernel
theorem dX2_record_128 : decode cX2_record 128 = .ok (.aload_n 2, 1) := by decide +kernel
theorem dX2_record_129 : decode cX2_record 129 = .ok (.getfield 55, 3) := by decide +kernel
theorem dX2_record_132 : decode cX2_record 132 = .ok (.iastore, 1) := by decide +kernel
theorem dX2_record_133 : decode cX2_record 133 = .ok (.aload_n 0, 1) := by decide +kernel
theorem dX2_record_134 : decode cX2_record 134 = .ok (.dup, 1) := by decide +kernel
theorem dX2_record_135 : decode cX2_record 135 = .ok (.getfield 9, 3) := by decide +kernel
theorem dX2_record_138 : decode cX2_record 138 = .ok (.iconst 1, 1) := by decide +kernel
theorem dX2_record_139 : decode cX2_record 139 = .ok (.iadd, 1) := by decide +kernel
theorem dX2_record_140 : decode cX2_record 140 = .ok (.putfield 9, 3) := by decide +kernel
theorem dX2_record_143 : decode cX2_record 143 = .ok (.aload_n 0, 1) := by decide +kernel
theorem dX2_record_144 : decode cX2_record 144 = .ok (.dup, 1) := by decide +kernel
theorem dX2_record_145 : decode cX2_record 145 = .ok (.getfield 15, 3) := by decide +kernel
theorem dX2_record_148 : decode cX2_record 148 = .ok (.aload_n 2, 1) := by decide +kernel
theorem dX2_record_149 : decode cX2_record 149 = .ok (.getfield 49, 3) := by decide +kernel
theorem dX2_record_152 : decode cX2_record 152 = .ok (.i2l, 1) := by decide +kernel
theorem dX2_record_153 : decode cX2_record 153 = .ok (.ladd, 1) := by decide +kernel
theorem dX2_record_154 : decode cX2_record 154 = .ok (.putfield 15, 3) := by decide +kernel
theorem dX2_record_157 : decode cX2_record 157 = .ok (.return_, 1) := by decide +kernel
set_option maxHeartbeats 4000000 in
set_option maxRecDepth 100000 in
theorem tX2_record {l : Launch} {g : yG} {n : Nat} {σ : yM} (k j : Nat) (w h : Int) (T S F P O : Int → Int → Int) (nf df nl : Int) (lg : Int → Int → Int) (hn : 172 ≤ n) (hP : isPic k) (hj : isJou j) (hA : rC σ k w h T S F P O) (hJ : rJ σ j nf df nl lg) (hjk : j + 1 < k ∨ k + 5 < j) (hj2 : j + 1 < 120 ∨ 130 < j) (x y bx by_ bw bs bd m st : Int) (h2 : σ 123 2 = x) (h3 : σ 123 3 = y) (h12 : σ 123 12 = by_ * w + bx) (h13 : σ 123 13 = bw) (h14 : σ 123 14 = bd) (h15 : σ 123 15 = bs) (hi : sIn w h bx by_ = true) (hbd : 0 ≤ bd ∧ bd ≤ 63724500) (hnf : nf < 900000000) : yMet l g yX2_record cX2_record 6 none (rmL 2) [yR g j, yR g k, yR g 123, yI m, yI st] (SC g) n σ (SC g) (yPv (fun n' σ' => n' = n ∧ fc j (j + 1) σ σ' ∧ rJ σ' j (nf + 1) (df + bd) (min (nl + 1) 30) (lgP (lgE x y bx by_ bd m st bw bs) lg))) := by
  obtain ⟨hw1, hw2, hw3, hw4⟩ := id hA.1.1
  have zjn : j < n := by have := hj.1; omega
  have zjn1 : j + 1 < n := by have := hj.1; omega
  have zj3 := hJ.2.2.1
  have zj4 := hJ.2.2.2.1
  have zkn : k < n := by have := hP.1; omega
  have z123 : 123 < n := by omega
  have zi := sIn_iff.mp hi
  have zx := y_ix (w := w) (h := h) (x := bx) (y := by_) ⟨hw1, hw2⟩ ⟨hw3, hw4⟩ (by omega) (by omega)
  have zdm := y_dm (w := w) (y := by_) (x := bx) (by omega)
  have zrb : -2147483648 ≤ by_ * w + bx ∧ by_ * w + bx < 2147483648 := by omega
  refine y_start (by decide) (Nat.le_of_ble_eq_true rfl) (fun X0 hF => ?_)
  show yV X0 g 6 (yQ X0 g (SC g) (yPv (fun n' σ' => n' = n ∧ fc j (j + 1) σ σ' ∧ rJ σ' j (nf + 1) (df + bd) (min (nl + 1) 30) (lgP (lgE x y bx by_ bd m st bw bs) lg))) (rmL 2)) (SC g) n σ 0 0 0 [(0, yR g j), (1, yR g k), (2, yR g 123), (3, yI m), (4, yI st)] []
  refine y_aload_n (pc := 0) hF dX2_record_0 0 rfl ?_
  refine y_get (pc := 1) (ci := 2) hF dX2_record_1 zjn (hj.2 g).1 rfl rfl iX2 0 (by decide) w_257 rfl ?_
  rw [show σ j 0 = nf from hJ.1]
  refine y_bipush (pc := 4) hF dX2_record_4 (by decide) ?_
  refine y_irem (pc := 6) hF dX2_record_6 (by omega) (by omega) (by omega) ?_
  rw [show nf - Int.tdiv nf 30 * 30 = nf % 30 from (y_rem (by omega) (by omega))]
  refine y_bipush (pc := 7) hF dX2_record_7 (by decide) ?_
  refine y_imul (pc := 9) hF dX2_record_9 ?_
  refine y_istore (pc := 10) (lv' := [(0, yR g j), (1, yR g k), (2, yR g 123), (3, yI m), (4, yI st), (5, yI ((nf % 30) * 9))]) hF dX2_record_10 (by decide) rfl rfl ?_
  refine y_aload_n (pc := 12) hF dX2_record_12 0 rfl ?_
  refine y_get (pc := 13) (ci := 2) hF dX2_record_13 zjn (hj.2 g).1 rfl rfl iX2 2 (by decide) w_262 rfl ?_
  refine y_iload (pc := 16) hF dX2_record_16 5 rfl ?_
  refine y_aload_n (pc := 18) hF dX2_record_18 2 rfl ?_
  refine y_getN (pc := 19) (ci := 6) hF dX2_record_19 z123 rfl rfl rfl iX6 2 (by decide) w_364 rfl ?_
  rw [show σ 123 2 = x from h2]
  refine y_iastore (pc := 22) hF dX2_record_22 zjn1 (hj.2 g).2 (by omega) (by decide) ?_
  obtain ⟨τ1, hτ1⟩ : ∃ s, s = yset σ (j + 1) ((nf % 30) * 9) x := ⟨_, rfl⟩
  rw [← hτ1]
  have zt1 : ∀ c : Nat, c ≠ j + 1 → τ1 c = σ c := fun c hc => by rw [hτ1, yset_n hc]
  refine y_aload_n (pc := 23) hF dX2_record_23 0 rfl ?_
  refine y_get (pc := 24) (ci := 2) hF dX2_record_24 zjn (hj.2 g).1 rfl rfl iX2 2 (by decide) w_262 rfl ?_
  refine y_iload (pc := 27) hF dX2_record_27 5 rfl ?_
  refine y_iconst (pc := 29) hF dX2_record_29 ?_
  refine y_iadd (pc := 30) hF dX2_record_30 ?_
  refine y_aload_n (pc := 31) hF dX2_record_31 2 rfl ?_
  refine y_getN (pc := 32) (ci := 6) hF dX2_record_32 z123 rfl rfl rfl iX6 3 (by decide) w_367 rfl ?_
  rw [show τ1 123 3 = y from ((congrFun (zt1 123 (by omega)) 3).trans h3)]
  refine y_iastore (pc := 35) hF dX2_record_35 zjn1 (hj.2 g).2 (by omega) (by decide) ?_
  obtain ⟨τ2, hτ2⟩ : ∃ s, s = yset τ1 (j + 1) (((nf % 30) * 9) + 1) y := ⟨_, rfl⟩
  rw [← hτ2]
  have zt2 : ∀ c : Nat, c ≠ j + 1 → τ2 c = σ c := fun c hc => by rw [hτ2, yset_n hc, zt1 c hc]
  have zA_τ2 := hA.fr (σ' := τ2) (fun c h1 h2 => zt2 c (by omega))
  refine y_aload_n (pc := 36) hF dX2_record_36 0 rfl ?_
  refine y_get (pc := 37) (ci := 2) hF dX2_record_37 zjn (hj.2 g).1 rfl rfl iX2 2 (by decide) w_262 rfl ?_
  refine y_iload (pc := 40) hF dX2_record_40 5 rfl ?_
  refine y_iconst (pc := 42) hF dX2_record_42 ?_
  refine y_iadd (pc := 43) hF dX2_record_43 ?_
  refine y_aload_n (pc := 44) hF dX2_record_44 1 rfl ?_
  refine y_aload_n (pc := 45) hF dX2_record_45 2 rfl ?_
  refine y_getN (pc := 46) (ci := 6) hF dX2_record_46 z123 rfl rfl rfl iX6 12 (by decide) w_379 rfl ?_
  rw [show τ2 123 12 = by_ * w + bx from ((congrFun (zt2 123 (by omega)) 12).trans h12)]
  have zz49 := y_rV (pc := 49) hF (tX4_xOf k w h T S F P O hn hP zA_τ2 (by_ * w + bx) zrb) dX2_record_49 (by have := hP.1; omega) (hP.2 g).1 rfl rfl w_970 qX4_xOf rfl ⟨Nat.le_of_ble_eq_true rfl, Nat.le_of_ble_eq_true rfl⟩ ⟨Nat.zero_le _, Nat.zero_le _⟩ (Nat.le_of_ble_eq_true rfl) rfl (rest := [yI (((nf % 30) * 9) + 2), yR g (j + 1)]) (cells := 0) (slots := 0) (lv := [(0, yR g j), (1, yR g k), (2, yR g 123), (3, yI m), (4, yI st), (5, yI ((nf % 30) * 9))])
  refine y_cp (zz49) ?_
  rw [show cx w (by_ * w + bx) = bx from (by unfold cx; rw [if_neg (by omega), zdm.1])]
  refine y_iastore (pc := 52) hF dX2_record_52 zjn1 (hj.2 g).2 (by omega) (by decide) ?_
  obtain ⟨τ3, hτ3⟩ : ∃ s, s = yset τ2 (j + 1) (((nf % 30) * 9) + 2) bx := ⟨_, rfl⟩
  rw [← hτ3]
  have zt3 : ∀ c : Nat, c ≠ j + 1 → τ3 c = σ c := fun c hc => by rw [hτ3, yset_n hc, zt2 c hc]
  have zA_τ3 := hA.fr (σ' := τ3) (fun c h1 h2 => zt3 c (by omega))
  refine y_aload_n (pc := 53) hF dX2_record_53 0 rfl ?_
  refine y_get (pc := 54) (ci := 2) hF dX2_record_54 zjn (hj.2 g).1 rfl rfl iX2 2 (by decide) w_262 rfl ?_
  refine y_iload (pc := 57) hF dX2_record_57 5 rfl ?_
  refine y_iconst (pc := 59) hF dX2_record_59 ?_
  refine y_iadd (pc := 60) hF dX2_record_60 ?_
  refine y_aload_n (pc := 61) hF dX2_record_61 1 rfl ?_
  refine y_aload_n (pc := 62) hF dX2_record_62 2 rfl ?_
  refine y_getN (pc := 63) (ci := 6) hF dX2_record_63 z123 rfl rfl rfl iX6 12 (by decide) w_379 rfl ?_
  rw [show τ3 123 12 = by_ * w + bx from ((congrFun (zt3 123 (by omega)) 12).trans h12)]
  have zz66 := y_rV (pc := 66) hF (tX4_yOf k w h T S F P O hn hP zA_τ3 (by_ * w + bx) zrb) dX2_record_66 (by have := hP.1; omega) (hP.2 g).1 rfl rfl w_971 qX4_yOf rfl ⟨Nat.le_of_ble_eq_true rfl, Nat.le_of_ble_eq_true rfl⟩ ⟨Nat.zero_le _, Nat.zero_le _⟩ (Nat.le_of_ble_eq_true rfl) rfl (rest := [yI (((nf % 30) * 9) + 3), yR g (j + 1)]) (cells := 0) (slots := 0) (lv := [(0, yR g j), (1, yR g k), (2, yR g 123), (3, yI m), (4, yI st), (5, yI ((nf % 30) * 9))])
  refine y_cp (zz66) ?_
  rw [show cy w (by_ * w + bx) = by_ from (by unfold cy; rw [if_neg (by omega), zdm.2])]
  refine y_iastore (pc := 69) hF dX2_record_69 zjn1 (hj.2 g).2 (by omega) (by decide) ?_
  obtain ⟨τ4, hτ4⟩ : ∃ s, s = yset τ3 (j + 1) (((nf % 30) * 9) + 3) by_ := ⟨_, rfl⟩
  rw [← hτ4]
  have zt4 : ∀ c : Nat, c ≠ j + 1 → τ4 c = σ c := fun c hc => by rw [hτ4, yset_n hc, zt3 c hc]
  refine y_aload_n (pc := 70) hF dX2_record_70 0 rfl ?_
  refine y_get (pc := 71) (ci := 2) hF dX2_record_71 zjn (hj.2 g).1 rfl rfl iX2 2 (by decide) w_262 rfl ?_
  refine y_iload (pc := 74) hF dX2_record_74 5 rfl ?_
  refine y_iconst (pc := 76) hF dX2_record_76 ?_
  refine y_iadd (pc := 77) hF dX2_record_77 ?_
  refine y_aload_n (pc := 78) hF dX2_record_78 2 rfl ?_
  refine y_getN (pc := 79) (ci := 6) hF dX2_record_79 z123 rfl rfl rfl iX6 14 (by decide) w_387 rfl ?_
  rw [show τ4 123 14 = bd from ((congrFun (zt4 123 (by omega)) 14).trans h14)]
  refine y_iastore (pc := 82) hF dX2_record_82 zjn1 (hj.2 g).2 (by omega) (by decide) ?_
  obtain ⟨τ5, hτ5⟩ : ∃ s, s = yset τ4 (j + 1) (((nf % 30) * 9) + 4) bd := ⟨_, rfl⟩
  rw [← hτ5]
  have zt5 : ∀ c : Nat, c ≠ j + 1 → τ5 c = σ c := fun c hc => by rw [hτ5, yset_n hc, zt4 c hc]
  refine y_aload_n (pc := 83) hF dX2_record_83 0 rfl ?_
  refine y_get (pc := 84) (ci := 2) hF dX2_record_84 zjn (hj.2 g).1 rfl rfl iX2 2 (by decide) w_262 rfl ?_
  refine y_iload (pc := 87) hF dX2_record_87 5 rfl ?_
  refine y_iconst (pc := 89) hF dX2_record_89 ?_
  refine y_iadd (pc := 90) hF dX2_record_90 ?_
  refine y_iload_n (pc := 91) hF dX2_record_91 3 rfl ?_
  refine y_iastore (pc := 92) hF dX2_record_92 zjn1 (hj.2 g).2 (by omega) (by decide) ?_
  obtain ⟨τ6, hτ6⟩ : ∃ s, s = yset τ5 (j + 1) (((nf % 30) * 9) + 5) m := ⟨_, rfl⟩
  rw [← hτ6]
  have zt6 : ∀ c : Nat, c ≠ j + 1 → τ6 c = σ c := fun c hc => by rw [hτ6, yset_n hc, zt5 c hc]
  refine y_aload_n (pc := 93) hF dX2_record_93 0 rfl ?_
  refine y_get (pc := 94) (ci := 2) hF dX2_record_94 zjn (hj.2 g).1 rfl rfl iX2 2 (by decide) w_262 rfl ?_
  refine y_iload (pc := 97) hF dX2_record_97 5 rfl ?_
  refine y_bipush (pc := 99) hF dX2_record_99 (by decide) ?_
  refine y_iadd (pc := 101) hF dX2_record_101 ?_
  refine y_iload (pc := 102) hF dX2_record_102 4 rfl ?_
  refine y_iastore (pc := 104) hF dX2_record_104 zjn1 (hj.2 g).2 (by omega) (by decide) ?_
  obtain ⟨τ7, hτ7⟩ : ∃ s, s = yset τ6 (j + 1) (((nf % 30) * 9) + 6) st := ⟨_, rfl⟩
  rw [← hτ7]
  have zt7 : ∀ c : Nat, c ≠ j + 1 → τ7 c = σ c := fun c hc => by rw [hτ7, yset_n hc, zt6 c hc]
  refine y_aload_n (pc := 105) hF dX2_record_105 0 rfl ?_
  refine y_get (pc := 106) (ci := 2) hF dX2_record_106 zjn (hj.2 g).1 rfl rfl iX2 2 (by decide) w_262 rfl ?_
  refine y_iload (pc := 109) hF dX2_record_109 5 rfl ?_
  refine y_bipush (pc := 111) hF dX2_record_111 (by decide) ?_
  refine y_iadd (pc := 113) hF dX2_record_113 ?_
  refine y_aload_n (pc := 114) hF dX2_record_114 2 rfl ?_
  refine y_getN (pc := 115) (ci := 6) hF dX2_record_115 z123 rfl rfl rfl iX6 13 (by decide) w_383 rfl ?_
  rw [show τ7 123 13 = bw from ((congrFun (zt7 123 (by omega)) 13).trans h13)]
  refine y_iastore (pc := 118) hF dX2_record_118 zjn1 (hj.2 g).2 (by omega) (by decide) ?_
  obtain ⟨τ8, hτ8⟩ : ∃ s, s = yset τ7 (j + 1) (((nf % 30) * 9) + 7) bw := ⟨_, rfl⟩
  rw [← hτ8]
  have zt8 : ∀ c : Nat, c ≠ j + 1 → τ8 c = σ c := fun c hc => by rw [hτ8, yset_n hc, zt7 c hc]
  refine y_aload_n (pc := 119) hF dX2_record_119 0 rfl ?_
  refine y_get (pc := 120) (ci := 2) hF dX2_record_120 zjn (hj.2 g).1 rfl rfl iX2 2 (by decide) w_262 rfl ?_
  refine y_iload (pc := 123) hF dX2_record_123 5 rfl ?_
  refine y_bipush (pc := 125) hF dX2_record_125 (by decide) ?_
  refine y_iadd (pc := 127) hF dX2_record_127 ?_
  refine y_aload_n (pc := 128) hF dX2_record_128 2 rfl ?_
  refine y_getN (pc := 129) (ci := 6) hF dX2_record_129 z123 rfl rfl rfl iX6 15 (by decide) w_390 rfl ?_
  rw [show τ8 123 15 = bs from ((congrFun (zt8 123 (by omega)) 15).trans h15)]
  refine y_iastore (pc := 132) hF dX2_record_132 zjn1 (hj.2 g).2 (by omega) (by decide) ?_
  obtain ⟨τ9, hτ9⟩ : ∃ s, s = yset τ8 (j + 1) (((nf % 30) * 9) + 8) bs := ⟨_, rfl⟩
  rw [← hτ9]
  have zt9 : ∀ c : Nat, c ≠ j + 1 → τ9 c = σ c := fun c hc => by rw [hτ9, yset_n hc, zt8 c hc]
  have zrow : ∀ c : Int, 0 ≤ c → c < 9 → τ9 (j + 1) (nf % 30 * 9 + c) = lgE x y bx by_ bd m st bw bs c := fun c h0 h1 => by rcases (show c = 0 ∨ c = 1 ∨ c = 2 ∨ c = 3 ∨ c = 4 ∨ c = 5 ∨ c = 6 ∨ c = 7 ∨ c = 8 by omega) with e | e | e | e | e | e | e | e | e <;> subst e <;> simp [hτ9, hτ8, hτ7, hτ6, hτ5, hτ4, hτ3, hτ2, hτ1, yset_ap, lgE, y_ad]
  have zold : ∀ q : Int, (q < nf % 30 * 9 ∨ nf % 30 * 9 + 9 ≤ q) → τ9 (j + 1) q = σ (j + 1) q := fun q hq => by rw [hτ9, yset_o (by omega), hτ8, yset_o (by omega), hτ7, yset_o (by omega), hτ6, yset_o (by omega), hτ5, yset_o (by omega), hτ4, yset_o (by omega), hτ3, yset_o (by omega), hτ2, yset_o (by omega), hτ1, yset_o (by omega)]
  refine y_aload_n (pc := 133) hF dX2_record_133 0 rfl ?_
  refine y_dup (pc := 134) hF dX2_record_134 rfl ?_
  refine y_get (pc := 135) (ci := 2) hF dX2_record_135 zjn (hj.2 g).1 rfl rfl iX2 0 (by decide) w_257 rfl ?_
  rw [show τ9 j 0 = nf from ((congrFun (zt9 j (by omega)) 0).trans hJ.1)]
  refine y_iconst (pc := 138) hF dX2_record_138 ?_
  refine y_iadd (pc := 139) hF dX2_record_139 ?_
  refine y_putf (pc := 140) (ci := 2) (σ' := yset τ9 j 0 (nf + 1)) (sch' := (SC g)) hF dX2_record_140 zjn (hj.2 g).1 rfl rfl iX2 0 (by decide) w_257 tyX2 tyX2_ok nmX2 rfl rfl rfl rfl (Nat.le_of_ble_eq_true rfl) (hj.2 g).1 ((congrArg (kJou g j) (yset_s _ _ _ _)).trans rfl) (fun k' h => ⟨yset_n h, rfl⟩) ?_
  obtain ⟨τ10, hτ10⟩ : ∃ s, s = yset τ9 j 0 (nf + 1) := ⟨_, rfl⟩
  rw [← hτ10]
  have zt10 : ∀ c : Nat, c ≠ j → τ10 c = τ9 c := fun c hc => by rw [hτ10, yset_n hc]
  refine y_aload_n (pc := 143) hF dX2_record_143 0 rfl ?_
  refine y_dup (pc := 144) hF dX2_record_144 rfl ?_
  refine y_get (pc := 145) (ci := 2) hF dX2_record_145 zjn (hj.2 g).1 rfl rfl iX2 1 (by decide) w_260 rfl ?_
  rw [show τ10 j 1 = df from (by rw [hτ10, yset_o (by omega), zt9 j (by omega)]; exact hJ.2.1)]
  refine y_aload_n (pc := 148) hF dX2_record_148 2 rfl ?_
  refine y_getN (pc := 149) (ci := 6) hF dX2_record_149 z123 rfl rfl rfl iX6 14 (by decide) w_387 rfl ?_
  rw [show τ10 123 14 = bd from ((congrFun ((zt10 123 (by omega)).trans (zt9 123 (by omega))) 14).trans h14)]
  refine y_i2l (pc := 152) hF dX2_record_152 (by omega) ?_
  refine y_ladd (pc := 153) hF dX2_record_153 ?_
  refine y_putf (pc := 154) (ci := 2) (σ' := yset τ10 j 1 (df + bd)) (sch' := (SC g)) hF dX2_record_154 zjn (hj.2 g).1 rfl rfl iX2 1 (by decide) w_260 tyX2 tyX2_ok nmX2 rfl rfl rfl rfl (Nat.le_of_ble_eq_true rfl) (hj.2 g).1 ((congrArg (kJou g j) (yset_s _ _ _ _)).trans rfl) (fun k' h => ⟨yset_n h, rfl⟩) ?_
  exact y_vret (pc := 157) hF dX2_record_157 (Nat.zero_le _) (Nat.zero_le _) ⟨rfl, rfl, fun c hc => by rw [yset_n (by omega), zt10 c (by omega), zt9 c (by omega)], ⟨by rw [yset_o (by omega), hτ10, yset_e], by rw [yset_e], by omega, by omega, fun a b h1 h2 h3 h4 => by rw [yset_n (by omega), zt10 _ (by omega)]; unfold lgP; split; (rename_i e; subst e; rw [show nf + 1 - 1 - 0 = nf by omega]; exact zrow b h3 h4); (rw [zold _ (by omega), show nf + 1 - 1 - a = nf - 1 - (a - 1) by omega]; exact hJ.2.2.2.2 (a - 1) b (by omega) (by omega) h3 h4)⟩⟩

theorem dX7_allows_0 : decode cX7_allows 0 = .ok (.iload_n 1, 1) := by decide +kernel
theorem dX7_allows_1 : decode cX7_allows 1 = .ok (.ifCond .lt 33, 3) := by decide +kernel
theorem dX7_allows_4 : decode cX7_allows 4 = .ok (.iload_n 1, 1) := by decide +kernel
theorem dX7_allows_5 : decode cX7_allows 5 = .ok (.getstatic 33, 3) := by decide +kernel
theorem dX7_allows_8 : decode cX7_allows 8 = .ok (.arraylength, 1) := by decide +kernel
theorem dX7_allows_9 : decode cX7_allows 9 = .ok (.if_icmp .ge 25, 3) := by decide +kernel
theorem dX7_allows_12 : decode cX7_allows 12 = .ok (.iload_n 2, 1) := by decide +kernel
theorem dX7_allows_13 : decode cX7_allows 13 = .ok (.getstatic 33, 3) := by decide +kernel
theorem dX7_allows_16 : decode cX7_allows 16 = .ok (.iload_n 1, 1) := by decide +kernel
theorem dX7_allows_17 : decode cX7_allows 17 = .ok (.iaload, 1) := by decide +kernel
theorem dX7_allows_18 : decode cX7_allows 18 = .ok (.if_icmp .lt 16, 3) := by decide +kernel
theorem dX7_allows_21 : decode cX7_allows 21 = .ok (.iload_n 2, 1) := by decide +kernel
theorem dX7_allows_22 : decode cX7_allows 22 = .ok (.getstatic 37, 3) := by decide +kernel
theorem dX7_allows_25 : decode cX7_allows 25 = .ok (.iload_n 1, 1) := by decide +kernel
theorem dX7_allows_26 : decode cX7_allows 26 = .ok (.iaload, 1) := by decide +kernel
theorem dX7_allows_27 : decode cX7_allows 27 = .ok (.if_icmp .gt 7, 3) := by decide +kernel
theorem dX7_allows_30 : decode cX7_allows 30 = .ok (.iconst 1, 1) := by decide +kernel
theorem dX7_allows_31 : decode cX7_allows 31 = .ok (.goto 4, 3) := by decide +kernel
theorem dX7_allows_34 : decode cX7_allows 34 = .ok (.iconst 0, 1) := by decide +kernel
theorem dX7_allows_35 : decode cX7_allows 35 = .ok (.ireturn, 1) := by decide +kernel
set_option maxHeartbeats 4000000 in
set_option maxRecDepth 100000 in
theorem tX7_allows {l : Launch} {g : yG} {n : Nat} {σ : yM} (cs : Nat) (a v : Int) (ha : -2147483648 ≤ a ∧ a < 2147483648) (hv : -2147483648 ≤ v ∧ v < 2147483648) : yMet l g yX7_allows cX7_allows 3 (some .boolean) (rmL 1) [yR g cs, yI a, yI v] (SC g) n σ (SC g) (yPp (bi (sAl a v)) n σ) := by
  refine y_start (by decide) (Nat.le_of_ble_eq_true rfl) (fun X0 hF => ?_)
  show yV X0 g 3 (yQ X0 g (SC g) (yPp (bi (sAl a v)) n σ) (rmL 1)) (SC g) n σ 0 0 0 [(0, yR g cs), (1, yI a), (2, yI v)] []
  refine y_iload_n (pc := 0) hF dX7_allows_0 1 rfl ?_
  refine y_if_lt (pc := 1) hF dX7_allows_1 34 rfl (by omega) (fun zc1 => ?_) (fun zc1 => ?_)
  · skip
    refine y_iconst (pc := 34) hF dX7_allows_34 ?_
    exact y_zret (pc := 35) hF dX7_allows_35 (by decide) (Nat.zero_le _) (Nat.zero_le _) ⟨_, rfl, by rw [show sAl a v = false by rw [Bool.eq_false_iff]; simp only [sAl, ne_eq, Bool.and_eq_true, decide_eq_true_eq]; omega]; rfl, rfl, rfl⟩
  · skip
    refine y_iload_n (pc := 4) hF dX7_allows_4 1 rfl ?_
    refine y_gets (pc := 5) (host := "") hF dX7_allows_5 2 rfl w_732 ?_
    refine y_slen (pc := 8) hF dX7_allows_8 2 rfl ?_
    show yV X0 g 3 (yQ X0 g (SC g) (yPp (bi (sAl a v)) n σ) (rmL 1)) (SC g) n σ 0 0 9 [(0, yR g cs), (1, yI a), (2, yI v)] [yI 7, yI a]
    refine y_icmp_ge (pc := 9) hF dX7_allows_9 34 rfl (by omega) (by omega) (fun zc9 => ?_) (fun zc9 => ?_)
    · skip
      refine y_iconst (pc := 34) hF dX7_allows_34 ?_
      exact y_zret (pc := 35) hF dX7_allows_35 (by decide) (Nat.zero_le _) (Nat.zero_le _) ⟨_, rfl, by rw [show sAl a v = false by rw [Bool.eq_false_iff]; simp only [sAl, ne_eq, Bool.and_eq_true, decide_eq_true_eq]; omega]; rfl, rfl, rfl⟩
    · skip
      have zy := ys23 (a := a) (by omega)
      refine y_iload_n (pc := 12) hF dX7_allows_12 2 rfl ?_
      refine y_gets (pc := 13) (host := "") hF dX7_allows_13 2 rfl w_732 ?_
      refine y_iload_n (pc := 16) hF dX7_allows_16 1 rfl ?_
      refine y_sald (pc := 17) hF dX7_allows_17 2 rfl ⟨by omega, by show _ < (7 : Int); omega⟩ (by decide) ?_
      refine y_icmp_lt (pc := 18) hF dX7_allows_18 34 rfl (by omega) (by omega) (fun zc18 => ?_) (fun zc18 => ?_)
      · skip
        refine y_iconst (pc := 34) hF dX7_allows_34 ?_
        exact y_zret (pc := 35) hF dX7_allows_35 (by decide) (Nat.zero_le _) (Nat.zero_le _) ⟨_, rfl, by rw [show sAl a v = false by rw [Bool.eq_false_iff]; simp only [sAl, ne_eq, Bool.and_eq_true, decide_eq_true_eq]; omega]; rfl, rfl, rfl⟩
      · skip
        refine y_iload_n (pc := 21) hF dX7_allows_21 2 rfl ?_
        refine y_gets (pc := 22) (host := "") hF dX7_allows_22 3 rfl w_734 ?_
        refine y_iload_n (pc := 25) hF dX7_allows_25 1 rfl ?_
        refine y_sald (pc := 26) hF dX7_allows_26 3 rfl ⟨by omega, by show _ < (7 : Int); omega⟩ (by decide) ?_
        refine y_icmp_gt (pc := 27) hF dX7_allows_27 34 rfl (by omega) (by omega) (fun zc27 => ?_) (fun zc27 => ?_)
        · skip
          refine y_iconst (pc := 34) hF dX7_allows_34 ?_
          exact y_zret (pc := 35) hF dX7_allows_35 (by decide) (Nat.zero_le _) (Nat.zero_le _) ⟨_, rfl, by rw [show sAl a v = false by rw [Bool.eq_false_iff]; simp only [sAl, ne_eq, Bool.and_eq_true, decide_eq_true_eq]; omega]; rfl, rfl, rfl⟩
        · skip
          refine y_iconst (pc := 30) hF dX7_allows_30 ?_
          refine y_goto (pc := 31) hF dX7_allows_31 35 rfl ?_
          exact y_zret (pc := 35) hF dX7_allows_35 (by decide) (Nat.zero_le _) (Nat.zero_le _) ⟨_, rfl, by rw [show sAl a v = true by simp only [sAl, Bool.and_eq_true, decide_eq_true_eq]; omega]; rfl, rfl, rfl⟩

theorem dX7_value_0 : decode cX7_value 0 = .ok (.iload_n 1, 1) := by decide +kernel
theorem dX7_value_1 : decode cX7_value 1 = .ok (.tableswitch 69 0 5 #[39, 44, 49, 54, 59, 64], 39) := by decide +kernel
theorem dX7_value_40 : decode cX7_value 40 = .ok (.aload_n 0, 1) := by decide +kernel
theorem dX7_value_41 : decode cX7_value 41 = .ok (.getfield 9, 3) := by decide +kernel
theorem dX7_value_44 : decode cX7_value 44 = .ok (.ireturn, 1) := by decide +kernel
theorem dX7_value_45 : decode cX7_value 45 = .ok (.aload_n 0, 1) := by decide +kernel
theorem dX7_value_46 : decode cX7_value 46 = .ok (.getfield 15, 3) := by decide +kernel
theorem dX7_value_49 : decode cX7_value 49 = .ok (.ireturn, 1) := by decide +kernel
theorem dX7_value_50 : decode cX7_value 50 = .ok (.aload_n 0, 1) := by decide +kernel
theorem dX7_value_51 : decode cX7_value 51 = .ok (.getfield 18, 3) := by decide +kernel
theorem dX7_value_54 : decode cX7_value 54 = .ok (.ireturn, 1) := by decide +kernel
theorem dX7_value_55 : decode cX7_value 55 = .ok (.aload_n 0, 1) := by decide +kernel
theorem dX7_value_56 : decode cX7_value 56 = .ok (.getfield 21, 3) := by decide +kernel
theorem dX7_value_59 : decode cX7_value 59 = .ok (.ireturn, 1) := by decide +kernel
theorem dX7_value_60 : decode cX7_value 60 = .ok (.aload_n 0, 1) := by decide +kernel
theorem dX7_value_61 : decode cX7_value 61 = .ok (.getfield 24, 3) := by decide +kernel
theorem dX7_value_64 : decode cX7_value 64 = .ok (.ireturn, 1) := by decide +kernel
theorem dX7_value_65 : decode cX7_value 65 = .ok (.aload_n 0, 1) := by decide +kernel
theorem dX7_value_66 : decode cX7_value 66 = .ok (.getfield 27, 3) := by decide +kernel
theorem dX7_value_69 : decode cX7_value 69 = .ok (.ireturn, 1) := by decide +kernel
theorem dX7_value_70 : decode cX7_value 70 = .ok (.aload_n 0, 1) := by decide +kernel
theorem dX7_value_71 : decode cX7_value 71 = .ok (.getfield 30, 3) := by decide +kernel
theorem dX7_value_74 : decode cX7_value 74 = .ok (.ireturn, 1) := by decide +kernel
set_option maxHeartbeats 4000000 in
set_option maxRecDepth 100000 in
theorem tX7_value {l : Launch} {g : yG} {n : Nat} {σ : yM} (cs : Nat) (s re fo ra tu we sh : Int) (hn : 172 ≤ n) (hcs : isSet cs) (hS : rS σ cs s re fo ra tu we sh) (a : Int) (ha : 0 ≤ a ∧ a < 7) : yMet l g yX7_value cX7_value 2 (some .int) (rmL 1) [yR g cs, yI a] (SC g) n σ (SC g) (yPp (sV s re fo ra tu we sh a) n σ) := by
  have zcsn : cs < n := by have := hcs.1; omega
  refine y_start (by decide) (Nat.le_of_ble_eq_true rfl) (fun X0 hF => ?_)
  show yV X0 g 2 (yQ X0 g (SC g) (yPp (sV s re fo ra tu we sh a) n σ) (rmL 1)) (SC g) n σ 0 0 0 [(0, yR g cs), (1, yI a)] []
  refine y_iload_n (pc := 0) hF dX7_value_0 1 rfl ?_
  rcases Decidable.em (a = 0) with zw1_0 | zw1_0
  · refine y_tswI (pc := 1) hF dX7_value_1 (off := 39) 0 zw1_0 (by decide) rfl 40 rfl ?_
    refine y_aload_n (pc := 40) hF dX7_value_40 0 rfl ?_
    refine y_get (pc := 41) (ci := 7) hF dX7_value_41 zcsn (hcs.2 g) rfl rfl iX7 0 (by decide) w_163 rfl ?_
    rw [show σ cs 0 = s from hS.1.1]
    exact y_iret (pc := 44) hF dX7_value_44 (Nat.zero_le _) (Nat.zero_le _) ⟨_, rfl, by unfold sV; simp [zw1_0], rfl, rfl⟩
  rcases Decidable.em (a = 1) with zw1_1 | zw1_1
  · refine y_tswI (pc := 1) hF dX7_value_1 (off := 44) 1 zw1_1 (by decide) rfl 45 rfl ?_
    refine y_aload_n (pc := 45) hF dX7_value_45 0 rfl ?_
    refine y_get (pc := 46) (ci := 7) hF dX7_value_46 zcsn (hcs.2 g) rfl rfl iX7 1 (by decide) w_168 rfl ?_
    rw [show σ cs 1 = re from hS.1.2.1]
    exact y_iret (pc := 49) hF dX7_value_49 (Nat.zero_le _) (Nat.zero_le _) ⟨_, rfl, by unfold sV; simp [zw1_1], rfl, rfl⟩
  rcases Decidable.em (a = 2) with zw1_2 | zw1_2
  · refine y_tswI (pc := 1) hF dX7_value_1 (off := 49) 2 zw1_2 (by decide) rfl 50 rfl ?_
    refine y_aload_n (pc := 50) hF dX7_value_50 0 rfl ?_
    refine y_get (pc := 51) (ci := 7) hF dX7_value_51 zcsn (hcs.2 g) rfl rfl iX7 2 (by decide) w_171 rfl ?_
    rw [show σ cs 2 = fo from hS.1.2.2.1]
    exact y_iret (pc := 54) hF dX7_value_54 (Nat.zero_le _) (Nat.zero_le _) ⟨_, rfl, by unfold sV; simp [zw1_2], rfl, rfl⟩
  rcases Decidable.em (a = 3) with zw1_3 | zw1_3
  · refine y_tswI (pc := 1) hF dX7_value_1 (off := 54) 3 zw1_3 (by decide) rfl 55 rfl ?_
    refine y_aload_n (pc := 55) hF dX7_value_55 0 rfl ?_
    refine y_get (pc := 56) (ci := 7) hF dX7_value_56 zcsn (hcs.2 g) rfl rfl iX7 3 (by decide) w_174 rfl ?_
    rw [show σ cs 3 = ra from hS.1.2.2.2.1]
    exact y_iret (pc := 59) hF dX7_value_59 (Nat.zero_le _) (Nat.zero_le _) ⟨_, rfl, by unfold sV; simp [zw1_3], rfl, rfl⟩
  rcases Decidable.em (a = 4) with zw1_4 | zw1_4
  · refine y_tswI (pc := 1) hF dX7_value_1 (off := 59) 4 zw1_4 (by decide) rfl 60 rfl ?_
    refine y_aload_n (pc := 60) hF dX7_value_60 0 rfl ?_
    refine y_get (pc := 61) (ci := 7) hF dX7_value_61 zcsn (hcs.2 g) rfl rfl iX7 4 (by decide) w_177 rfl ?_
    rw [show σ cs 4 = tu from hS.1.2.2.2.2.1]
    exact y_iret (pc := 64) hF dX7_value_64 (Nat.zero_le _) (Nat.zero_le _) ⟨_, rfl, by unfold sV; simp [zw1_4], rfl, rfl⟩
  rcases Decidable.em (a = 5) with zw1_5 | zw1_5
  · refine y_tswI (pc := 1) hF dX7_value_1 (off := 64) 5 zw1_5 (by decide) rfl 65 rfl ?_
    refine y_aload_n (pc := 65) hF dX7_value_65 0 rfl ?_
    refine y_get (pc := 66) (ci := 7) hF dX7_value_66 zcsn (hcs.2 g) rfl rfl iX7 5 (by decide) w_180 rfl ?_
    rw [show σ cs 5 = we from hS.1.2.2.2.2.2.1]
    exact y_iret (pc := 69) hF dX7_value_69 (Nat.zero_le _) (Nat.zero_le _) ⟨_, rfl, by unfold sV; simp [zw1_5], rfl, rfl⟩
  refine y_tswO (pc := 1) hF dX7_value_1 (by omega) (by omega) 70 rfl ?_
  refine y_aload_n (pc := 70) hF dX7_value_70 0 rfl ?_
  refine y_get (pc := 71) (ci := 7) hF dX7_value_71 zcsn (hcs.2 g) rfl rfl iX7 6 (by decide) w_183 rfl ?_
  rw [show σ cs 6 = sh from hS.1.2.2.2.2.2.2]
  exact y_iret (pc := 74) hF dX7_value_74 (Nat.zero_le _) (Nat.zero_le _) ⟨_, rfl, by unfold sV; simp [show a = 6 by omega], rfl, rfl⟩

theorem dX7_change_0 : decode cX7_change 0 = .ok (.iload_n 1, 1) := by decide +kernel
theorem dX7_change_1 : decode cX7_change 1 = .ok (.tableswitch 87 0 5 #[39, 47, 55, 63, 71, 79], 39) := by decide +kernel
theorem dX7_change_40 : decode cX7_change 40 = .ok (.aload_n 0, 1) := by decide +kernel
theorem dX7_change_41 : decode cX7_change 41 = .ok (.iload_n 2, 1) := by decide +kernel
theorem dX7_change_42 : decode cX7_change 42 = .ok (.putfield 9, 3) := by decide +kernel
theorem dX7_change_45 : decode cX7_change 45 = .ok (.goto 48, 3) := by decide +kernel
theorem dX7_change_48 : decode cX7_change 48 = .ok (.aload_n 0, 1) := by decide +kernel
theorem dX7_change_49 : decode cX7_change 49 = .ok (.iload_n 2, 1) := by decide +kernel
theorem dX7_change_50 : decode cX7_change 50 = .ok (.putfield 15, 3) := by decide +kernel
theorem dX7_change_53 : decode cX7_change 53 = .ok (.goto 40, 3) := by decide +kernel
theorem dX7_change_56 : decode cX7_change 56 = .ok (.aload_n 0, 1) := by decide +kernel
theorem dX7_change_57 : decode cX7_change 57 = .ok (.iload_n 2, 1) := by decide +kernel
theorem dX7_change_58 : decode cX7_change 58 = .ok (.putfield 18, 3) := by decide +kernel
theorem dX7_change_61 : decode cX7_change 61 = .ok (.goto 32, 3) := by decide +kernel
theorem dX7_change_64 : decode cX7_change 64 = .ok (.aload_n 0, 1) := by decide +kernel
theorem dX7_change_65 : decode cX7_change 65 = .ok (.iload_n 2, 1) := by decide +kernel
theorem dX7_change_66 : decode cX7_change 66 = .ok (.putfield 21, 3) := by decide +kernel
theorem dX7_change_69 : decode cX7_change 69 = .ok (.goto 24, 3) := by decide +kernel
theorem dX7_change_72 : decode cX7_change 72 = .ok (.aload_n 0, 1) := by decide +kernel
theorem dX7_change_73 : decode cX7_change 73 = .ok (.iload_n 2, 1) := by decide +kernel
theorem dX7_change_74 : decode cX7_change 74 = .ok (.putfield 24, 3) := by decide +kernel
theorem dX7_change_77 : decode cX7_change 77 = .ok (.goto 16, 3) := by decide +kernel
theorem dX7_change_80 : decode cX7_change 80 = .ok (.aload_n 0, 1) := by decide +kernel
theorem dX7_change_81 : decode cX7_change 81 = .ok (.iload_n 2, 1) := by decide +kernel
theorem dX7_change_82 : decode cX7_change 82 = .ok (.putfield 27, 3) := by decide +kernel
theorem dX7_change_85 : decode cX7_change 85 = .ok (.goto 8, 3) := by decide +kernel
theorem dX7_change_88 : decode cX7_change 88 = .ok (.aload_n 0, 1) := by decide +kernel
theorem dX7_change_89 : decode cX7_change 89 = .ok (.iload_n 2, 1) := by decide +kernel
theorem dX7_change_90 : decode cX7_change 90 = .ok (.putfield 30, 3) := by decide +kernel
theorem dX7_change_93 : decode cX7_change 93 = .ok (.return_, 1) := by decide +kernel
set_option maxHeartbeats 4000000 in
set_option maxRecDepth 100000 in
theorem tX7_change {l : Launch} {g : yG} {n : Nat} {σ : yM} (cs : Nat) (hn : 172 ≤ n) (hcs : isSet cs) (a v : Int) (ha : 0 ≤ a ∧ a < 7) : yMet l g yX7_change cX7_change 3 none (rmL 1) [yR g cs, yI a, yI v] (SC g) n σ (SC g) (yPv (fun n' σ' => n' = n ∧ σ' = yset σ cs a v)) := by
  have zcsn : cs < n := by have := hcs.1; omega
  refine y_start (by decide) (Nat.le_of_ble_eq_true rfl) (fun X0 hF => ?_)
  show yV X0 g 3 (yQ X0 g (SC g) (yPv (fun n' σ' => n' = n ∧ σ' = yset σ cs a v)) (rmL 1)) (SC g) n σ 0 0 0 [(0, yR g cs), (1, yI a), (2, yI v)] []
  refine y_iload_n (pc := 0) hF dX7_change_0 1 rfl ?_
  rcases Decidable.em (a = 0) with zw1_0 | zw1_0
  · refine y_tswI (pc := 1) hF dX7_change_1 (off := 39) 0 zw1_0 (by decide) rfl 40 rfl ?_
    refine y_aload_n (pc := 40) hF dX7_change_40 0 rfl ?_
    refine y_iload_n (pc := 41) hF dX7_change_41 2 rfl ?_
    refine y_putf (pc := 42) (ci := 7) (σ' := yset σ cs 0 v) (sch' := (SC g)) hF dX7_change_42 zcsn (hcs.2 g) rfl rfl iX7 0 (by decide) w_163 tyX7 tyX7_ok nmX7 rfl rfl rfl rfl (Nat.le_of_ble_eq_true rfl) (hcs.2 g) ((congrArg (kSet) (yset_s _ _ _ _)).trans rfl) (fun k' h => ⟨yset_n h, rfl⟩) ?_
    refine y_goto (pc := 45) hF dX7_change_45 93 rfl ?_
    exact y_vret (pc := 93) hF dX7_change_93 (Nat.zero_le _) (Nat.zero_le _) ⟨rfl, rfl, by rw [zw1_0]⟩
  rcases Decidable.em (a = 1) with zw1_1 | zw1_1
  · refine y_tswI (pc := 1) hF dX7_change_1 (off := 47) 1 zw1_1 (by decide) rfl 48 rfl ?_
    refine y_aload_n (pc := 48) hF dX7_change_48 0 rfl ?_
    refine y_iload_n (pc := 49) hF dX7_change_49 2 rfl ?_
    refine y_putf (pc := 50) (ci := 7) (σ' := yset σ cs 1 v) (sch' := (SC g)) hF dX7_change_50 zcsn (hcs.2 g) rfl rfl iX7 1 (by decide) w_168 tyX7 tyX7_ok nmX7 rfl rfl rfl rfl (Nat.le_of_ble_eq_true rfl) (hcs.2 g) ((congrArg (kSet) (yset_s _ _ _ _)).trans rfl) (fun k' h => ⟨yset_n h, rfl⟩) ?_
    refine y_goto (pc := 53) hF dX7_change_53 93 rfl ?_
    exact y_vret (pc := 93) hF dX7_change_93 (Nat.zero_le _) (Nat.zero_le _) ⟨rfl, rfl, by rw [zw1_1]⟩
  rcases Decidable.em (a = 2) with zw1_2 | zw1_2
  · refine y_tswI (pc := 1) hF dX7_change_1 (off := 55) 2 zw1_2 (by decide) rfl 56 rfl ?_
    refine y_aload_n (pc := 56) hF dX7_change_56 0 rfl ?_
    refine y_iload_n (pc := 57) hF dX7_change_57 2 rfl ?_
    refine y_putf (pc := 58) (ci := 7) (σ' := yset σ cs 2 v) (sch' := (SC g)) hF dX7_change_58 zcsn (hcs.2 g) rfl rfl iX7 2 (by decide) w_171 tyX7 tyX7_ok nmX7 rfl rfl rfl rfl (Nat.le_of_ble_eq_true rfl) (hcs.2 g) ((congrArg (kSet) (yset_s _ _ _ _)).trans rfl) (fun k' h => ⟨yset_n h, rfl⟩) ?_
    refine y_goto (pc := 61) hF dX7_change_61 93 rfl ?_
    exact y_vret (pc := 93) hF dX7_change_93 (Nat.zero_le _) (Nat.zero_le _) ⟨rfl, rfl, by rw [zw1_2]⟩
  rcases Decidable.em (a = 3) with zw1_3 | zw1_3
  · refine y_tswI (pc := 1) hF dX7_change_1 (off := 63) 3 zw1_3 (by decide) rfl 64 rfl ?_
    refine y_aload_n (pc := 64) hF dX7_change_64 0 rfl ?_
    refine y_iload_n (pc := 65) hF dX7_change_65 2 rfl ?_
    refine y_putf (pc := 66) (ci := 7) (σ' := yset σ cs 3 v) (sch' := (SC g)) hF dX7_change_66 zcsn (hcs.2 g) rfl rfl iX7 3 (by decide) w_174 tyX7 tyX7_ok nmX7 rfl rfl rfl rfl (Nat.le_of_ble_eq_true rfl) (hcs.2 g) ((congrArg (kSet) (yset_s _ _ _ _)).trans rfl) (fun k' h => ⟨yset_n h, rfl⟩) ?_
    refine y_goto (pc := 69) hF dX7_change_69 93 rfl ?_
    exact y_vret (pc := 93) hF dX7_change_93 (Nat.zero_le _) (Nat.zero_le _) ⟨rfl, rfl, by rw [zw1_3]⟩
  rcases Decidable.em (a = 4) with zw1_4 | zw1_4
  · refine y_tswI (pc := 1) hF dX7_change_1 (off := 71) 4 zw1_4 (by decide) rfl 72 rfl ?_
    refine y_aload_n (pc := 72) hF dX7_change_72 0 rfl ?_
    refine y_iload_n (pc := 73) hF dX7_change_73 2 rfl ?_
    refine y_putf (pc := 74) (ci := 7) (σ' := yset σ cs 4 v) (sch' := (SC g)) hF dX7_change_74 zcsn (hcs.2 g) rfl rfl iX7 4 (by decide) w_177 tyX7 tyX7_ok nmX7 rfl rfl rfl rfl (Nat.le_of_ble_eq_true rfl) (hcs.2 g) ((congrArg (kSet) (yset_s _ _ _ _)).trans rfl) (fun k' h => ⟨yset_n h, rfl⟩) ?_
    refine y_goto (pc := 77) hF dX7_change_77 93 rfl ?_
    exact y_vret (pc := 93) hF dX7_change_93 (Nat.zero_le _) (Nat.zero_le _) ⟨rfl, rfl, by rw [zw1_4]⟩
  rcases Decidable.em (a = 5) with zw1_5 | zw1_5
  · refine y_tswI (pc := 1) hF dX7_change_1 (off := 79) 5 zw1_5 (by decide) rfl 80 rfl ?_
    refine y_aload_n (pc := 80) hF dX7_change_80 0 rfl ?_
    refine y_iload_n (pc := 81) hF dX7_change_81 2 rfl ?_
    refine y_putf (pc := 82) (ci := 7) (σ' := yset σ cs 5 v) (sch' := (SC g)) hF dX7_change_82 zcsn (hcs.2 g) rfl rfl iX7 5 (by decide) w_180 tyX7 tyX7_ok nmX7 rfl rfl rfl rfl (Nat.le_of_ble_eq_true rfl) (hcs.2 g) ((congrArg (kSet) (yset_s _ _ _ _)).trans rfl) (fun k' h => ⟨yset_n h, rfl⟩) ?_
    refine y_goto (pc := 85) hF dX7_change_85 93 rfl ?_
    exact y_vret (pc := 93) hF dX7_change_93 (Nat.zero_le _) (Nat.zero_le _) ⟨rfl, rfl, by rw [zw1_5]⟩
  refine y_tswO (pc := 1) hF dX7_change_1 (by omega) (by omega) 88 rfl ?_
  refine y_aload_n (pc := 88) hF dX7_change_88 0 rfl ?_
  refine y_iload_n (pc := 89) hF dX7_change_89 2 rfl ?_
  refine y_putf (pc := 90) (ci := 7) (σ' := yset σ cs 6 v) (sch' := (SC g)) hF dX7_change_90 zcsn (hcs.2 g) rfl rfl iX7 6 (by decide) w_183 tyX7 tyX7_ok nmX7 rfl rfl rfl rfl (Nat.le_of_ble_eq_true rfl) (hcs.2 g) ((congrArg (kSet) (yset_s _ _ _ _)).trans rfl) (fun k' h => ⟨yset_n h, rfl⟩) ?_
  exact y_vret (pc := 93) hF dX7_change_93 (Nat.zero_le _) (Nat.zero_le _) ⟨rfl, rfl, by rw [show a = 6 by omega]⟩

theorem dX7_copyFrom_0 : decode cX7_copyFrom 0 = .ok (.aload_n 0, 1) := by decide +kernel
theorem dX7_copyFrom_1 : decode cX7_copyFrom 1 = .ok (.aload_n 1, 1) := by decide +kernel
theorem dX7_copyFrom_2 : decode cX7_copyFrom 2 = .ok (.getfield 9, 3) := by decide +kernel
theorem dX7_copyFrom_5 : decode cX7_copyFrom 5 = .ok (.putfield 9, 3) := by decide +kernel
theorem dX7_copyFrom_8 : decode cX7_copyFrom 8 = .ok (.aload_n 0, 1) := by decide +kernel
theorem dX7_copyFrom_9 : decode cX7_copyFrom 9 = .ok (.aload_n 1, 1) := by decide +kernel
theorem dX7_copyFrom_10 : decode cX7_copyFrom 10 = .ok (.getfield 15, 3) := by decide +kernel
theorem dX7_copyFrom_13 : decode cX7_copyFrom 13 = .ok (.putfield 15, 3) := by decide +kernel
theorem dX7_copyFrom_16 : decode cX7_copyFrom 16 = .ok (.aload_n 0, 1) := by decide +kernel
theorem dX7_copyFrom_17 : decode cX7_copyFrom 17 = .ok (.aload_n 1, 1) := by decide +kernel
theorem dX7_copyFrom_18 : decode cX7_copyFrom 18 = .ok (.getfield 18, 3) := by decide +kernel
theorem dX7_copyFrom_21 : decode cX7_copyFrom 21 = .ok (.putfield 18, 3) := by decide +kernel
theorem dX7_copyFrom_24 : decode cX7_copyFrom 24 = .ok (.aload_n 0, 1) := by decide +kernel
theorem dX7_copyFrom_25 : decode cX7_copyFrom 25 = .ok (.aload_n 1, 1) := by decide +kernel
theorem dX7_copyFrom_26 : decode cX7_copyFrom 26 = .ok (.getfield 21, 3) := by decide +kernel
theorem dX7_copyFrom_29 : decode cX7_copyFrom 29 = .ok (.putfield 21, 3) := by decide +kernel
theorem dX7_copyFrom_32 : decode cX7_copyFrom 32 = .ok (.aload_n 0, 1) := by decide +kernel
theorem dX7_copyFrom_33 : decode cX7_copyFrom 33 = .ok (.aload_n 1, 1) := by decide +kernel
theorem dX7_copyFrom_34 : decode cX7_copyFrom 34 = .ok (.getfield 24, 3) := by decide +kernel
theorem dX7_copyFrom_37 : decode cX7_copyFrom 37 = .ok (.putfield 24, 3) := by decide +kernel
theorem dX7_copyFrom_40 : decode cX7_copyFrom 40 = .ok (.aload_n 0, 1) := by decide +kernel
theorem dX7_copyFrom_41 : decode cX7_copyFrom 41 = .ok (.aload_n 1, 1) := by decide +kernel
theorem dX7_copyFrom_42 : decode cX7_copyFrom 42 = .ok (.getfield 27, 3) := by decide +kernel
theorem dX7_copyFrom_45 : decode cX7_copyFrom 45 = .ok (.putfield 27, 3) := by decide +kernel
theorem dX7_copyFrom_48 : decode cX7_copyFrom 48 = .ok (.aload_n 0, 1) := by decide +kernel
theorem dX7_copyFrom_49 : decode cX7_copyFrom 49 = .ok (.aload_n 1, 1) := by decide +kernel
theorem dX7_copyFrom_50 : decode cX7_copyFrom 50 = .ok (.getfield 30, 3) := by decide +kernel
theorem dX7_copyFrom_53 : decode cX7_copyFrom 53 = .ok (.putfield 30, 3) := by decide +kernel
theorem dX7_copyFrom_56 : decode cX7_copyFrom 56 = .ok (.return_, 1) := by decide +kernel
set_option maxHeartbeats 4000000 in
set_option maxRecDepth 100000 in
theorem tX7_copyFrom {l : Launch} {g : yG} {n : Nat} {σ : yM} (cs o_ : Nat) (hn : 172 ≤ n) (hcs : isSet cs) (ho : isSet o_) (hd : o_ ≠ cs) : yMet l g yX7_copyFrom cX7_copyFrom 2 none (rmL 1) [yR g cs, yR g o_] (SC g) n σ (SC g) (yPv (fun n' σ' => n' = n ∧ fc cs cs σ σ' ∧ ∀ (s re fo ra tu we sh : Int), rS σ o_ s re fo ra tu we sh → rS σ' cs s re fo ra tu we sh)) := by
  have zcsn : cs < n := by have := hcs.1; omega
  have zon : o_ < n := by have := ho.1; omega
  refine y_start (by decide) (Nat.le_of_ble_eq_true rfl) (fun X0 hF => ?_)
  show yV X0 g 2 (yQ X0 g (SC g) (yPv (fun n' σ' => n' = n ∧ fc cs cs σ σ' ∧ ∀ (s re fo ra tu we sh : Int), rS σ o_ s re fo ra tu we sh → rS σ' cs s re fo ra tu we sh)) (rmL 1)) (SC g) n σ 0 0 0 [(0, yR g cs), (1, yR g o_)] []
  refine y_aload_n (pc := 0) hF dX7_copyFrom_0 0 rfl ?_
  refine y_aload_n (pc := 1) hF dX7_copyFrom_1 1 rfl ?_
  refine y_get (pc := 2) (ci := 7) hF dX7_copyFrom_2 zon (ho.2 g) rfl rfl iX7 0 (by decide) w_163 rfl ?_
  refine y_putf (pc := 5) (ci := 7) (σ' := yset σ cs 0 (σ o_ 0)) (sch' := (SC g)) hF dX7_copyFrom_5 zcsn (hcs.2 g) rfl rfl iX7 0 (by decide) w_163 tyX7 tyX7_ok nmX7 rfl rfl rfl rfl (Nat.le_of_ble_eq_true rfl) (hcs.2 g) ((congrArg (kSet) (yset_s _ _ _ _)).trans rfl) (fun k' h => ⟨yset_n h, rfl⟩) ?_
  refine y_aload_n (pc := 8) hF dX7_copyFrom_8 0 rfl ?_
  refine y_aload_n (pc := 9) hF dX7_copyFrom_9 1 rfl ?_
  refine y_get (pc := 10) (ci := 7) hF dX7_copyFrom_10 zon (ho.2 g) rfl rfl iX7 1 (by decide) w_168 rfl ?_
  refine y_putf (pc := 13) (ci := 7) (σ' := yset (yset σ cs 0 (σ o_ 0)) cs 1 ((yset σ cs 0 (σ o_ 0)) o_ 1)) (sch' := (SC g)) hF dX7_copyFrom_13 zcsn (hcs.2 g) rfl rfl iX7 1 (by decide) w_168 tyX7 tyX7_ok nmX7 rfl rfl rfl rfl (Nat.le_of_ble_eq_true rfl) (hcs.2 g) ((congrArg (kSet) (yset_s _ _ _ _)).trans rfl) (fun k' h => ⟨yset_n h, rfl⟩) ?_
  refine y_aload_n (pc := 16) hF dX7_copyFrom_16 0 rfl ?_
  refine y_aload_n (pc := 17) hF dX7_copyFrom_17 1 rfl ?_
  refine y_get (pc := 18) (ci := 7) hF dX7_copyFrom_18 zon (ho.2 g) rfl rfl iX7 2 (by decide) w_171 rfl ?_
  refine y_putf (pc := 21) (ci := 7) (σ' := yset (yset (yset σ cs 0 (σ o_ 0)) cs 1 ((yset σ cs 0 (σ o_ 0)) o_ 1)) cs 2 ((yset (yset σ cs 0 (σ o_ 0)) cs 1 ((yset σ cs 0 (σ o_ 0)) o_ 1)) o_ 2)) (sch' := (SC g)) hF dX7_copyFrom_21 zcsn (hcs.2 g) rfl rfl iX7 2 (by decide) w_171 tyX7 tyX7_ok nmX7 rfl rfl rfl rfl (Nat.le_of_ble_eq_true rfl) (hcs.2 g) ((congrArg (kSet) (yset_s _ _ _ _)).trans rfl) (fun k' h => ⟨yset_n h, rfl⟩) ?_
  refine y_aload_n (pc := 24) hF dX7_copyFrom_24 0 rfl ?_
  refine y_aload_n (pc := 25) hF dX7_copyFrom_25 1 rfl ?_
  refine y_get (pc := 26) (ci := 7) hF dX7_copyFrom_26 zon (ho.2 g) rfl rfl iX7 3 (by decide) w_174 rfl ?_
  refine y_putf (pc := 29) (ci := 7) (σ' := yset (yset (yset (yset σ cs 0 (σ o_ 0)) cs 1 ((yset σ cs 0 (σ o_ 0)) o_ 1)) cs 2 ((yset (yset σ cs 0 (σ o_ 0)) cs 1 ((yset σ cs 0 (σ o_ 0)) o_ 1)) o_ 2)) cs 3 ((yset (yset (yset σ cs 0 (σ o_ 0)) cs 1 ((yset σ cs 0 (σ o_ 0)) o_ 1)) cs 2 ((yset (yset σ cs 0 (σ o_ 0)) cs 1 ((yset σ cs 0 (σ o_ 0)) o_ 1)) o_ 2)) o_ 3)) (sch' := (SC g)) hF dX7_copyFrom_29 zcsn (hcs.2 g) rfl rfl iX7 3 (by decide) w_174 tyX7 tyX7_ok nmX7 rfl rfl rfl rfl (Nat.le_of_ble_eq_true rfl) (hcs.2 g) ((congrArg (kSet) (yset_s _ _ _ _)).trans rfl) (fun k' h => ⟨yset_n h, rfl⟩) ?_
  refine y_aload_n (pc := 32) hF dX7_copyFrom_32 0 rfl ?_
  refine y_aload_n (pc := 33) hF dX7_copyFrom_33 1 rfl ?_
  refine y_get (pc := 34) (ci := 7) hF dX7_copyFrom_34 zon (ho.2 g) rfl rfl iX7 4 (by decide) w_177 rfl ?_
  refine y_putf (pc := 37) (ci := 7) (σ' := yset (yset (yset (yset (yset σ cs 0 (σ o_ 0)) cs 1 ((yset σ cs 0 (σ o_ 0)) o_ 1)) cs 2 ((yset (yset σ cs 0 (σ o_ 0)) cs 1 ((yset σ cs 0 (σ o_ 0)) o_ 1)) o_ 2)) cs 3 ((yset (yset (yset σ cs 0 (σ o_ 0)) cs 1 ((yset σ cs 0 (σ o_ 0)) o_ 1)) cs 2 ((yset (yset σ cs 0 (σ o_ 0)) cs 1 ((yset σ cs 0 (σ o_ 0)) o_ 1)) o_ 2)) o_ 3)) cs 4 ((yset (yset (yset (yset σ cs 0 (σ o_ 0)) cs 1 ((yset σ cs 0 (σ o_ 0)) o_ 1)) cs 2 ((yset (yset σ cs 0 (σ o_ 0)) cs 1 ((yset σ cs 0 (σ o_ 0)) o_ 1)) o_ 2)) cs 3 ((yset (yset (yset σ cs 0 (σ o_ 0)) cs 1 ((yset σ cs 0 (σ o_ 0)) o_ 1)) cs 2 ((yset (yset σ cs 0 (σ o_ 0)) cs 1 ((yset σ cs 0 (σ o_ 0)) o_ 1)) o_ 2)) o_ 3)) o_ 4)) (sch' := (SC g)) hF dX7_copyFrom_37 zcsn (hcs.2 g) rfl rfl iX7 4 (by decide) w_177 tyX7 tyX7_ok nmX7 rfl rfl rfl rfl (Nat.le_of_ble_eq_true rfl) (hcs.2 g) ((congrArg (kSet) (yset_s _ _ _ _)).trans rfl) (fun k' h => ⟨yset_n h, rfl⟩) ?_
  refine y_aload_n (pc := 40) hF dX7_copyFrom_40 0 rfl ?_
  refine y_aload_n (pc := 41) hF dX7_copyFrom_41 1 rfl ?_
  refine y_get (pc := 42) (ci := 7) hF dX7_copyFrom_42 zon (ho.2 g) rfl rfl iX7 5 (by decide) w_180 rfl ?_
  refine y_putf (pc := 45) (ci := 7) (σ' := yset (yset (yset (yset (yset (yset σ cs 0 (σ o_ 0)) cs 1 ((yset σ cs 0 (σ o_ 0)) o_ 1)) cs 2 ((yset (yset σ cs 0 (σ o_ 0)) cs 1 ((yset σ cs 0 (σ o_ 0)) o_ 1)) o_ 2)) cs 3 ((yset (yset (yset σ cs 0 (σ o_ 0)) cs 1 ((yset σ cs 0 (σ o_ 0)) o_ 1)) cs 2 ((yset (yset σ cs 0 (σ o_ 0)) cs 1 ((yset σ cs 0 (σ o_ 0)) o_ 1)) o_ 2)) o_ 3)) cs 4 ((yset (yset (yset (yset σ cs 0 (σ o_ 0)) cs 1 ((yset σ cs 0 (σ o_ 0)) o_ 1)) cs 2 ((yset (yset σ cs 0 (σ o_ 0)) cs 1 ((yset σ cs 0 (σ o_ 0)) o_ 1)) o_ 2)) cs 3 ((yset (yset (yset σ cs 0 (σ o_ 0)) cs 1 ((yset σ cs 0 (σ o_ 0)) o_ 1)) cs 2 ((yset (yset σ cs 0 (σ o_ 0)) cs 1 ((yset σ cs 0 (σ o_ 0)) o_ 1)) o_ 2)) o_ 3)) o_ 4)) cs 5 ((yset (yset (yset (yset (yset σ cs 0 (σ o_ 0)) cs 1 ((yset σ cs 0 (σ o_ 0)) o_ 1)) cs 2 ((yset (yset σ cs 0 (σ o_ 0)) cs 1 ((yset σ cs 0 (σ o_ 0)) o_ 1)) o_ 2)) cs 3 ((yset (yset (yset σ cs 0 (σ o_ 0)) cs 1 ((yset σ cs 0 (σ o_ 0)) o_ 1)) cs 2 ((yset (yset σ cs 0 (σ o_ 0)) cs 1 ((yset σ cs 0 (σ o_ 0)) o_ 1)) o_ 2)) o_ 3)) cs 4 ((yset (yset (yset (yset σ cs 0 (σ o_ 0)) cs 1 ((yset σ cs 0 (σ o_ 0)) o_ 1)) cs 2 ((yset (yset σ cs 0 (σ o_ 0)) cs 1 ((yset σ cs 0 (σ o_ 0)) o_ 1)) o_ 2)) cs 3 ((yset (yset (yset σ cs 0 (σ o_ 0)) cs 1 ((yset σ cs 0 (σ o_ 0)) o_ 1)) cs 2 ((yset (yset σ cs 0 (σ o_ 0)) cs 1 ((yset σ cs 0 (σ o_ 0)) o_ 1)) o_ 2)) o_ 3)) o_ 4)) o_ 5)) (sch' := (SC g)) hF dX7_copyFrom_45 zcsn (hcs.2 g) rfl rfl iX7 5 (by decide) w_180 tyX7 tyX7_ok nmX7 rfl rfl rfl rfl (Nat.le_of_ble_eq_true rfl) (hcs.2 g) ((congrArg (kSet) (yset_s _ _ _ _)).trans rfl) (fun k' h => ⟨yset_n h, rfl⟩) ?_
  refine y_aload_n (pc := 48) hF dX7_copyFrom_48 0 rfl ?_
  refine y_aload_n (pc := 49) hF dX7_copyFrom_49 1 rfl ?_
  refine y_get (pc := 50) (ci := 7) hF dX7_copyFrom_50 zon (ho.2 g) rfl rfl iX7 6 (by decide) w_183 rfl ?_
  refine y_putf (pc := 53) (ci := 7) (σ' := yset (yset (yset (yset (yset (yset (yset σ cs 0 (σ o_ 0)) cs 1 ((yset σ cs 0 (σ o_ 0)) o_ 1)) cs 2 ((yset (yset σ cs 0 (σ o_ 0)) cs 1 ((yset σ cs 0 (σ o_ 0)) o_ 1)) o_ 2)) cs 3 ((yset (yset (yset σ cs 0 (σ o_ 0)) cs 1 ((yset σ cs 0 (σ o_ 0)) o_ 1)) cs 2 ((yset (yset σ cs 0 (σ o_ 0)) cs 1 ((yset σ cs 0 (σ o_ 0)) o_ 1)) o_ 2)) o_ 3)) cs 4 ((yset (yset (yset (yset σ cs 0 (σ o_ 0)) cs 1 ((yset σ cs 0 (σ o_ 0)) o_ 1)) cs 2 ((yset (yset σ cs 0 (σ o_ 0)) cs 1 ((yset σ cs 0 (σ o_ 0)) o_ 1)) o_ 2)) cs 3 ((yset (yset (yset σ cs 0 (σ o_ 0)) cs 1 ((yset σ cs 0 (σ o_ 0)) o_ 1)) cs 2 ((yset (yset σ cs 0 (σ o_ 0)) cs 1 ((yset σ cs 0 (σ o_ 0)) o_ 1)) o_ 2)) o_ 3)) o_ 4)) cs 5 ((yset (yset (yset (yset (yset σ cs 0 (σ o_ 0)) cs 1 ((yset σ cs 0 (σ o_ 0)) o_ 1)) cs 2 ((yset (yset σ cs 0 (σ o_ 0)) cs 1 ((yset σ cs 0 (σ o_ 0)) o_ 1)) o_ 2)) cs 3 ((yset (yset (yset σ cs 0 (σ o_ 0)) cs 1 ((yset σ cs 0 (σ o_ 0)) o_ 1)) cs 2 ((yset (yset σ cs 0 (σ o_ 0)) cs 1 ((yset σ cs 0 (σ o_ 0)) o_ 1)) o_ 2)) o_ 3)) cs 4 ((yset (yset (yset (yset σ cs 0 (σ o_ 0)) cs 1 ((yset σ cs 0 (σ o_ 0)) o_ 1)) cs 2 ((yset (yset σ cs 0 (σ o_ 0)) cs 1 ((yset σ cs 0 (σ o_ 0)) o_ 1)) o_ 2)) cs 3 ((yset (yset (yset σ cs 0 (σ o_ 0)) cs 1 ((yset σ cs 0 (σ o_ 0)) o_ 1)) cs 2 ((yset (yset σ cs 0 (σ o_ 0)) cs 1 ((yset σ cs 0 (σ o_ 0)) o_ 1)) o_ 2)) o_ 3)) o_ 4)) o_ 5)) cs 6 ((yset (yset (yset (yset (yset (yset σ cs 0 (σ o_ 0)) cs 1 ((yset σ cs 0 (σ o_ 0)) o_ 1)) cs 2 ((yset (yset σ cs 0 (σ o_ 0)) cs 1 ((yset σ cs 0 (σ o_ 0)) o_ 1)) o_ 2)) cs 3 ((yset (yset (yset σ cs 0 (σ o_ 0)) cs 1 ((yset σ cs 0 (σ o_ 0)) o_ 1)) cs 2 ((yset (yset σ cs 0 (σ o_ 0)) cs 1 ((yset σ cs 0 (σ o_ 0)) o_ 1)) o_ 2)) o_ 3)) cs 4 ((yset (yset (yset (yset σ cs 0 (σ o_ 0)) cs 1 ((yset σ cs 0 (σ o_ 0)) o_ 1)) cs 2 ((yset (yset σ cs 0 (σ o_ 0)) cs 1 ((yset σ cs 0 (σ o_ 0)) o_ 1)) o_ 2)) cs 3 ((yset (yset (yset σ cs 0 (σ o_ 0)) cs 1 ((yset σ cs 0 (σ o_ 0)) o_ 1)) cs 2 ((yset (yset σ cs 0 (σ o_ 0)) cs 1 ((yset σ cs 0 (σ o_ 0)) o_ 1)) o_ 2)) o_ 3)) o_ 4)) cs 5 ((yset (yset (yset (yset (yset σ cs 0 (σ o_ 0)) cs 1 ((yset σ cs 0 (σ o_ 0)) o_ 1)) cs 2 ((yset (yset σ cs 0 (σ o_ 0)) cs 1 ((yset σ cs 0 (σ o_ 0)) o_ 1)) o_ 2)) cs 3 ((yset (yset (yset σ cs 0 (σ o_ 0)) cs 1 ((yset σ cs 0 (σ o_ 0)) o_ 1)) cs 2 ((yset (yset σ cs 0 (σ o_ 0)) cs 1 ((yset σ cs 0 (σ o_ 0)) o_ 1)) o_ 2)) o_ 3)) cs 4 ((yset (yset (yset (yset σ cs 0 (σ o_ 0)) cs 1 ((yset σ cs 0 (σ o_ 0)) o_ 1)) cs 2 ((yset (yset σ cs 0 (σ o_ 0)) cs 1 ((yset σ cs 0 (σ o_ 0)) o_ 1)) o_ 2)) cs 3 ((yset (yset (yset σ cs 0 (σ o_ 0)) cs 1 ((yset σ cs 0 (σ o_ 0)) o_ 1)) cs 2 ((yset (yset σ cs 0 (σ o_ 0)) cs 1 ((yset σ cs 0 (σ o_ 0)) o_ 1)) o_ 2)) o_ 3)) o_ 4)) o_ 5)) o_ 6)) (sch' := (SC g)) hF dX7_copyFrom_53 zcsn (hcs.2 g) rfl rfl iX7 6 (by decide) w_183 tyX7 tyX7_ok nmX7 rfl rfl rfl rfl (Nat.le_of_ble_eq_true rfl) (hcs.2 g) ((congrArg (kSet) (yset_s _ _ _ _)).trans rfl) (fun k' h => ⟨yset_n h, rfl⟩) ?_
  exact y_vret (pc := 56) hF dX7_copyFrom_56 (Nat.zero_le _) (Nat.zero_le _) ⟨rfl, rfl, fun c hc => by rw [yset_n (by omega), yset_n (by omega), yset_n (by omega), yset_n (by omega), yset_n (by omega), yset_n (by omega), yset_n (by omega)], fun s re fo ra tu we sh H => ⟨⟨by simp [yset_ap, hd]; exact H.1.1, by simp [yset_ap, hd]; exact H.1.2.1, by simp [yset_ap, hd]; exact H.1.2.2.1, by simp [yset_ap, hd]; exact H.1.2.2.2.1, by simp [yset_ap, hd]; exact H.1.2.2.2.2.1, by simp [yset_ap, hd]; exact H.1.2.2.2.2.2.1, by simp [yset_ap, hd]; exact H.1.2.2.2.2.2.2⟩, H.2⟩⟩

theorem dX4_copyFrom_0 : decode cX4_copyFrom 0 = .ok (.aload_n 0, 1) := by decide +kernel
theorem dX4_copyFrom_1 : decode cX4_copyFrom 1 = .ok (.aload_n 1, 1) := by decide +kernel
theorem dX4_copyFrom_2 : decode cX4_copyFrom 2 = .ok (.getfield 9, 3) := by decide +kernel
theorem dX4_copyFrom_5 : decode cX4_copyFrom 5 = .ok (.putfield 9, 3) := by decide +kernel
theorem dX4_copyFrom_8 : decode cX4_copyFrom 8 = .ok (.aload_n 0, 1) := by decide +kernel
theorem dX4_copyFrom_9 : decode cX4_copyFrom 9 = .ok (.aload_n 1, 1) := by decide +kernel
theorem dX4_copyFrom_10 : decode cX4_copyFrom 10 = .ok (.getfield 15, 3) := by decide +kernel
theorem dX4_copyFrom_13 : decode cX4_copyFrom 13 = .ok (.putfield 15, 3) := by decide +kernel
theorem dX4_copyFrom_16 : decode cX4_copyFrom 16 = .ok (.aload_n 1, 1) := by decide +kernel
theorem dX4_copyFrom_17 : decode cX4_copyFrom 17 = .ok (.invokevirtual 50, 3) := by decide +kernel
theorem dX4_copyFrom_20 : decode cX4_copyFrom 20 = .ok (.istore_n 2, 1) := by decide +kernel
theorem dX4_copyFrom_21 : decode cX4_copyFrom 21 = .ok (.aload_n 1, 1) := by decide +kernel
theorem dX4_copyFrom_22 : decode cX4_copyFrom 22 = .ok (.getfield 18, 3) := by decide +kernel
theorem dX4_copyFrom_25 : decode cX4_copyFrom 25 = .ok (.iconst 0, 1) := by decide +kernel
theorem dX4_copyFrom_26 : decode cX4_copyFrom 26 = .ok (.aload_n 0, 1) := by decide +kernel
theorem dX4_copyFrom_27 : decode cX4_copyFrom 27 = .ok (.getfield 18, 3) := by decide +kernel
theorem dX4_copyFrom_30 : decode cX4_copyFrom 30 = .ok (.iconst 0, 1) := by decide +kernel
theorem dX4_copyFrom_31 : decode cX4_copyFrom 31 = .ok (.iload_n 2, 1) := by decide +kernel
theorem dX4_copyFrom_32 : decode cX4_copyFrom 32 = .ok (.invokestatic 58, 3) := by decide +kernel
theorem dX4_copyFrom_35 : decode cX4_copyFrom 35 = .ok (.aload_n 1, 1) := by decide +kernel
theorem dX4_copyFrom_36 : decode cX4_copyFrom 36 = .ok (.getfield 22, 3) := by decide +kernel
theorem dX4_copyFrom_39 : decode cX4_copyFrom 39 = .ok (.iconst 0, 1) := by decide +kernel
theorem dX4_copyFrom_40 : decode cX4_copyFrom 40 = .ok (.aload_n 0, 1) := by decide +kernel
theorem dX4_copyFrom_41 : decode cX4_copyFrom 41 = .ok (.getfield 22, 3) := by decide +kernel
theorem dX4_copyFrom_44 : decode cX4_copyFrom 44 = .ok (.iconst 0, 1) := by decide +kernel
theorem dX4_copyFrom_45 : decode cX4_copyFrom 45 = .ok (.iload_n 2, 1) := by decide +kernel
theorem dX4_copyFrom_46 : decode cX4_copyFrom 46 = .ok (.invokestatic 58, 3) := by decide +kernel
theorem dX4_copyFrom_49 : decode cX4_copyFrom 49 = .ok (.aload_n 1, 1) := by decide +kernel
theorem dX4_copyFrom_50 : decode cX4_copyFrom 50 = .ok (.getfield 25, 3) := by decide +kernel
theorem dX4_copyFrom_53 : decode cX4_copyFrom 53 = .ok (.iconst 0, 1) := by decide +kernel
theorem dX4_copyFrom_54 : decode cX4_copyFrom 54 = .ok (.aload_n 0, 1) := by decide +kernel
theorem dX4_copyFrom_55 : decode cX4_copyFrom 55 = .ok (.getfield 25, 3) := by decide +kernel
theorem dX4_copyFrom_58 : decode cX4_copyFrom 58 = .ok (.iconst 0, 1) := by decide +kernel
theorem dX4_copyFrom_59 : decode cX4_copyFrom 59 = .ok (.iload_n 2, 1) := by decide +kernel
theorem dX4_copyFrom_60 : decode cX4_copyFrom 60 = .ok (.invokestatic 58, 3) := by decide +kernel
theorem dX4_copyFrom_63 : decode cX4_copyFrom 63 = .ok (.aload_n 1, 1) := by decide +kernel
theorem dX4_copyFrom_64 : decode cX4_copyFrom 64 = .ok (.getfield 28, 3) := by decide +kernel
theorem dX4_copyFrom_67 : decode cX4_copyFrom 67 = .ok (.iconst 0, 1) := by decide +kernel
theorem dX4_copyFrom_68 : decode cX4_copyFrom 68 = .ok (.aload_n 0, 1) := by decide +kernel
theorem dX4_copyFrom_69 : decode cX4_copyFrom 69 = .ok (.getfield 28, 3) := by decide +kernel
theorem dX4_copyFrom_72 : decode cX4_copyFrom 72 = .ok (.iconst 0, 1) := by decide +kernel
theorem dX4_copyFrom_73 : decode cX4_copyFrom 73 = .ok (.iload_n 2, 1) := by decide +kernel
theorem dX4_copyFrom_74 : decode cX4_copyFrom 74 = .ok (.invokestatic 58, 3) := by decide +kernel
theorem dX4_copyFrom_77 : decode cX4_copyFrom 77 = .ok (.aload_n 1, 1) := by decide +kernel
theorem dX4_copyFrom_78 : decode cX4_copyFrom 78 = .ok (.getfield 31, 3) := by decide +kernel
theorem dX4_copyFrom_81 : decode cX4_copyFrom 81 = .ok (.iconst 0, 1) := by decide +kernel
theorem dX4_copyFrom_82 : decode cX4_copyFrom 82 = .ok (.aload_n 0, 1) := by decide +kernel
theorem dX4_copyFrom_83 : decode cX4_copyFrom 83 = .ok (.getfield 31, 3) := by decide +kernel
theorem dX4_copyFrom_86 : decode cX4_copyFrom 86 = .ok (.iconst 0, 1) := by decide +kernel
theorem dX4_copyFrom_87 : decode cX4_copyFrom 87 = .ok (.iload_n 2, 1) := by decide +kernel
theorem dX4_copyFrom_88 : decode cX4_copyFrom 88 = .ok (.invokestatic 58, 3) := by decide +kernel
theorem dX4_copyFrom_91 : decode cX4_copyFrom 91 = .ok (.return_, 1) := by decide +kernel
set_option maxHeartbeats 4000000 in
set_option maxRecDepth 100000 in
theorem tX4_copyFrom {l : Launch} {g : yG} {n : Nat} {σ : yM} (k o_ : Nat) (w h : Int) (T S F P O : Int → Int → Int) (hn : 172 ≤ n) (hP : isPic k) (ho : isPic o_) (hA : rC σ o_ w h T S F P O) (hd : o_ + 5 < k ∨ k + 5 < o_) : yMet l g yX4_copyFrom cX4_copyFrom 3 none (rmL 2) [yR g k, yR g o_] (SC g) n σ (SC g) (yPv (fun n' σ' => n' = n ∧ fc k (k + 5) σ σ' ∧ rC σ' k w h T S F P O)) := by
  obtain ⟨hw1, hw2, hw3, hw4⟩ := id hA.1.1
  have zwh := y_wh ⟨hw1, hw2⟩ ⟨hw3, hw4⟩
  have zkn : k < n := by have := hP.1; omega
  have zkn1 : k + 1 < n := by have := hP.1; omega
  have zkn2 : k + 2 < n := by have := hP.1; omega
  have zkn3 : k + 3 < n := by have := hP.1; omega
  have zkn4 : k + 4 < n := by have := hP.1; omega
  have zkn5 : k + 5 < n := by have := hP.1; omega
  have zo_n : o_ < n := by have := ho.1; omega
  have zo_n1 : o_ + 1 < n := by have := ho.1; omega
  have zo_n2 : o_ + 2 < n := by have := ho.1; omega
  have zo_n3 : o_ + 3 < n := by have := ho.1; omega
  have zo_n4 : o_ + 4 < n := by have := ho.1; omega
  have zo_n5 : o_ + 5 < n := by have := ho.1; omega
  refine y_start (by decide) (Nat.le_of_ble_eq_true rfl) (fun X0 hF => ?_)
  show yV X0 g 3 (yQ X0 g (SC g) (yPv (fun n' σ' => n' = n ∧ fc k (k + 5) σ σ' ∧ rC σ' k w h T S F P O)) (rmL 2)) (SC g) n σ 0 0 0 [(0, yR g k), (1, yR g o_)] []
  refine y_aload_n (pc := 0) hF dX4_copyFrom_0 0 rfl ?_
  refine y_aload_n (pc := 1) hF dX4_copyFrom_1 1 rfl ?_
  refine y_get (pc := 2) (ci := 4) hF dX4_copyFrom_2 zo_n (ho.2 g).1 rfl rfl iX4 0 (by decide) w_210 rfl ?_
  rw [show σ o_ 0 = w from hA.2.1]
  refine y_putf (pc := 5) (ci := 4) (σ' := yset σ k 0 w) (sch' := (SC g)) hF dX4_copyFrom_5 zkn (hP.2 g).1 rfl rfl iX4 0 (by decide) w_210 tyX4 tyX4_ok nmX4 rfl rfl rfl rfl (Nat.le_of_ble_eq_true rfl) (hP.2 g).1 ((congrArg (kPic g k) (yset_s _ _ _ _)).trans rfl) (fun k' h => ⟨yset_n h, rfl⟩) ?_
  obtain ⟨τ0, hτ0⟩ : ∃ s, s = yset σ k 0 w := ⟨_, rfl⟩
  rw [← hτ0]
  have zA_τ0 := hA.fr (σ' := τ0) (fun c h1 h2 => by rw [hτ0, yset_n (by omega)])
  refine y_aload_n (pc := 8) hF dX4_copyFrom_8 0 rfl ?_
  refine y_aload_n (pc := 9) hF dX4_copyFrom_9 1 rfl ?_
  refine y_get (pc := 10) (ci := 4) hF dX4_copyFrom_10 zo_n (ho.2 g).1 rfl rfl iX4 1 (by decide) w_214 rfl ?_
  rw [show τ0 o_ 1 = h from zA_τ0.2.2.1]
  refine y_putf (pc := 13) (ci := 4) (σ' := yset τ0 k 1 h) (sch' := (SC g)) hF dX4_copyFrom_13 zkn (hP.2 g).1 rfl rfl iX4 1 (by decide) w_214 tyX4 tyX4_ok nmX4 rfl rfl rfl rfl (Nat.le_of_ble_eq_true rfl) (hP.2 g).1 ((congrArg (kPic g k) (yset_s _ _ _ _)).trans rfl) (fun k' h => ⟨yset_n h, rfl⟩) ?_
  obtain ⟨τ1, hτ1⟩ : ∃ s, s = yset τ0 k 1 h := ⟨_, rfl⟩
  rw [← hτ1]
  have zt1 : ∀ c : Nat, c ≠ k → τ1 c = σ c := fun c hc => by rw [hτ1, yset_n hc, hτ0, yset_n hc]
  have zA_τ1 := hA.fr (σ' := τ1) (fun c h1 h2 => zt1 c (by omega))
  refine y_aload_n (pc := 16) hF dX4_copyFrom_16 1 rfl ?_
  have zz17 := y_rV (pc := 17) hF (tX4_dots o_ w h T S F P O hn ho zA_τ1) dX4_copyFrom_17 zo_n (ho.2 g).1 rfl rfl w_560 qX4_dots rfl ⟨Nat.le_of_ble_eq_true rfl, Nat.le_of_ble_eq_true rfl⟩ ⟨Nat.zero_le _, Nat.zero_le _⟩ (Nat.le_of_ble_eq_true rfl) rfl (rest := []) (cells := 0) (slots := 0) (lv := [(0, yR g k), (1, yR g o_)])
  refine y_cp (zz17) ?_
  refine y_istore_n (pc := 20) (lv' := [(0, yR g k), (1, yR g o_), (2, yI (w * h))]) hF dX4_copyFrom_20 (by decide) rfl rfl ?_
  refine y_aload_n (pc := 21) hF dX4_copyFrom_21 1 rfl ?_
  refine y_get (pc := 22) (ci := 4) hF dX4_copyFrom_22 zo_n (ho.2 g).1 rfl rfl iX4 2 (by decide) w_218 rfl ?_
  refine y_iconst (pc := 25) hF dX4_copyFrom_25 ?_
  refine y_aload_n (pc := 26) hF dX4_copyFrom_26 0 rfl ?_
  refine y_get (pc := 27) (ci := 4) hF dX4_copyFrom_27 zkn (hP.2 g).1 rfl rfl iX4 2 (by decide) w_218 rfl ?_
  refine y_iconst (pc := 30) hF dX4_copyFrom_30 ?_
  refine y_iload_n (pc := 31) hF dX4_copyFrom_31 2 rfl ?_
  refine y_copy0 (pc := 32) hF dX4_copyFrom_32 w_564 w_566 w_565 w_105 zo_n1 (ho.2 g).2.1 zkn1 (hP.2 g).2.1 ⟨by omega, by show _ ≤ (400 : Int); omega, by show _ ≤ (400 : Int); omega⟩ (by decide) (Nat.le_of_ble_eq_true rfl) (Nat.le_of_ble_eq_true rfl) ?_
  obtain ⟨τ2, hτ2⟩ : ∃ s, s = ycp τ1 (o_ + 1) (k + 1) (w * h) := ⟨_, rfl⟩
  rw [← hτ2]
  have hf1 : ∀ c : Nat, c ≠ k + 1 → τ2 c = τ1 c := fun c hc => by rw [hτ2, ycp_n hc]
  refine y_aload_n (pc := 35) hF dX4_copyFrom_35 1 rfl ?_
  refine y_get (pc := 36) (ci := 4) hF dX4_copyFrom_36 zo_n (ho.2 g).1 rfl rfl iX4 3 (by decide) w_224 rfl ?_
  refine y_iconst (pc := 39) hF dX4_copyFrom_39 ?_
  refine y_aload_n (pc := 40) hF dX4_copyFrom_40 0 rfl ?_
  refine y_get (pc := 41) (ci := 4) hF dX4_copyFrom_41 zkn (hP.2 g).1 rfl rfl iX4 3 (by decide) w_224 rfl ?_
  refine y_iconst (pc := 44) hF dX4_copyFrom_44 ?_
  refine y_iload_n (pc := 45) hF dX4_copyFrom_45 2 rfl ?_
  refine y_copy0 (pc := 46) hF dX4_copyFrom_46 w_564 w_566 w_565 w_105 zo_n2 (ho.2 g).2.2.1 zkn2 (hP.2 g).2.2.1 ⟨by omega, by show _ ≤ (400 : Int); omega, by show _ ≤ (400 : Int); omega⟩ (by decide) (Nat.le_of_ble_eq_true rfl) (Nat.le_of_ble_eq_true rfl) ?_
  obtain ⟨τ3, hτ3⟩ : ∃ s, s = ycp τ2 (o_ + 2) (k + 2) (w * h) := ⟨_, rfl⟩
  rw [← hτ3]
  have hf2 : ∀ c : Nat, c ≠ k + 2 → τ3 c = τ2 c := fun c hc => by rw [hτ3, ycp_n hc]
  refine y_aload_n (pc := 49) hF dX4_copyFrom_49 1 rfl ?_
  refine y_get (pc := 50) (ci := 4) hF dX4_copyFrom_50 zo_n (ho.2 g).1 rfl rfl iX4 4 (by decide) w_228 rfl ?_
  refine y_iconst (pc := 53) hF dX4_copyFrom_53 ?_
  refine y_aload_n (pc := 54) hF dX4_copyFrom_54 0 rfl ?_
  refine y_get (pc := 55) (ci := 4) hF dX4_copyFrom_55 zkn (hP.2 g).1 rfl rfl iX4 4 (by decide) w_228 rfl ?_
  refine y_iconst (pc := 58) hF dX4_copyFrom_58 ?_
  refine y_iload_n (pc := 59) hF dX4_copyFrom_59 2 rfl ?_
  refine y_copy0 (pc := 60) hF dX4_copyFrom_60 w_564 w_566 w_565 w_105 zo_n3 (ho.2 g).2.2.2.1 zkn3 (hP.2 g).2.2.2.1 ⟨by omega, by show _ ≤ (400 : Int); omega, by show _ ≤ (400 : Int); omega⟩ (by decide) (Nat.le_of_ble_eq_true rfl) (Nat.le_of_ble_eq_true rfl) ?_
  obtain ⟨τ4, hτ4⟩ : ∃ s, s = ycp τ3 (o_ + 3) (k + 3) (w * h) := ⟨_, rfl⟩
  rw [← hτ4]
  have hf3 : ∀ c : Nat, c ≠ k + 3 → τ4 c = τ3 c := fun c hc => by rw [hτ4, ycp_n hc]
  refine y_aload_n (pc := 63) hF dX4_copyFrom_63 1 rfl ?_
  refine y_get (pc := 64) (ci := 4) hF dX4_copyFrom_64 zo_n (ho.2 g).1 rfl rfl iX4 5 (by decide) w_231 rfl ?_
  refine y_iconst (pc := 67) hF dX4_copyFrom_67 ?_
  refine y_aload_n (pc := 68) hF dX4_copyFrom_68 0 rfl ?_
  refine y_get (pc := 69) (ci := 4) hF dX4_copyFrom_69 zkn (hP.2 g).1 rfl rfl iX4 5 (by decide) w_231 rfl ?_
  refine y_iconst (pc := 72) hF dX4_copyFrom_72 ?_
  refine y_iload_n (pc := 73) hF dX4_copyFrom_73 2 rfl ?_
  refine y_copy0 (pc := 74) hF dX4_copyFrom_74 w_564 w_566 w_565 w_105 zo_n4 (ho.2 g).2.2.2.2.1 zkn4 (hP.2 g).2.2.2.2.1 ⟨by omega, by show _ ≤ (400 : Int); omega, by show _ ≤ (400 : Int); omega⟩ (by decide) (Nat.le_of_ble_eq_true rfl) (Nat.le_of_ble_eq_true rfl) ?_
  obtain ⟨τ5, hτ5⟩ : ∃ s, s = ycp τ4 (o_ + 4) (k + 4) (w * h) := ⟨_, rfl⟩
  rw [← hτ5]
  have hf4 : ∀ c : Nat, c ≠ k + 4 → τ5 c = τ4 c := fun c hc => by rw [hτ5, ycp_n hc]
  refine y_aload_n (pc := 77) hF dX4_copyFrom_77 1 rfl ?_
  refine y_get (pc := 78) (ci := 4) hF dX4_copyFrom_78 zo_n (ho.2 g).1 rfl rfl iX4 6 (by decide) w_234 rfl ?_
  refine y_iconst (pc := 81) hF dX4_copyFrom_81 ?_
  refine y_aload_n (pc := 82) hF dX4_copyFrom_82 0 rfl ?_
  refine y_get (pc := 83) (ci := 4) hF dX4_copyFrom_83 zkn (hP.2 g).1 rfl rfl iX4 6 (by decide) w_234 rfl ?_
  refine y_iconst (pc := 86) hF dX4_copyFrom_86 ?_
  refine y_iload_n (pc := 87) hF dX4_copyFrom_87 2 rfl ?_
  refine y_copy0 (pc := 88) hF dX4_copyFrom_88 w_564 w_566 w_565 w_105 zo_n5 (ho.2 g).2.2.2.2.2 zkn5 (hP.2 g).2.2.2.2.2 ⟨by omega, by show _ ≤ (400 : Int); omega, by show _ ≤ (400 : Int); omega⟩ (by decide) (Nat.le_of_ble_eq_true rfl) (Nat.le_of_ble_eq_true rfl) ?_
  obtain ⟨τ6, hτ6⟩ : ∃ s, s = ycp τ5 (o_ + 5) (k + 5) (w * h) := ⟨_, rfl⟩
  rw [← hτ6]
  have hf5 : ∀ c : Nat, c ≠ k + 5 → τ6 c = τ5 c := fun c hc => by rw [hτ6, ycp_n hc]
  have zall : ∀ c : Nat, (c ≤ k ∨ k + 5 < c) → τ6 c = τ1 c := fun c hc => by rw [hf5 c (by omega), hf4 c (by omega), hf3 c (by omega), hf2 c (by omega), hf1 c (by omega)]
  exact y_vret (pc := 91) hF dX4_copyFrom_91 (Nat.zero_le _) (Nat.zero_le _) ⟨rfl, rfl, fun c hc => by rw [zall c (by omega), zt1 c (by omega)], ⟨hA.1, by rw [zall k (by omega), hτ1, yset_o (by omega), hτ0, yset_e], by rw [zall k (by omega), hτ1, yset_e], fun x y h1 h2 h3 h4 => by have zx := y_ix (w := w) (h := h) ⟨hw1, hw2⟩ ⟨hw3, hw4⟩ ⟨h1, h2⟩ ⟨h3, h4⟩; have zq := hA.2.2.2 x y h1 h2 h3 h4; exact ⟨by rw [hf5 _ (by omega), hf4 _ (by omega), hf3 _ (by omega), hf2 _ (by omega), hτ2, ycp_at ⟨zx.1, zx.2.1⟩, zt1 _ (by omega)]; exact zq.1, by rw [hf5 _ (by omega), hf4 _ (by omega), hf3 _ (by omega), hτ3, ycp_at ⟨zx.1, zx.2.1⟩, hf1 _ (by omega), zt1 _ (by omega)]; exact zq.2.1, by rw [hf5 _ (by omega), hf4 _ (by omega), hτ4, ycp_at ⟨zx.1, zx.2.1⟩, hf2 _ (by omega), hf1 _ (by omega), zt1 _ (by omega)]; exact zq.2.2.1, by rw [hf5 _ (by omega), hτ5, ycp_at ⟨zx.1, zx.2.1⟩, hf3 _ (by omega), hf2 _ (by omega), hf1 _ (by omega), zt1 _ (by omega)]; exact zq.2.2.2.1, by rw [hτ6, ycp_at ⟨zx.1, zx.2.1⟩, hf4 _ (by omega), hf3 _ (by omega), hf2 _ (by omega), hf1 _ (by omega), zt1 _ (by omega)]; exact zq.2.2.2.2⟩⟩⟩

theorem dX4_hasHalf_0 : decode cX4_hasHalf 0 = .ok (.aload_n 0, 1) := by decide +kernel
theorem dX4_hasHalf_1 : decode cX4_hasHalf 1 = .ok (.getfield 9, 3) := by decide +kernel
theorem dX4_hasHalf_4 : decode cX4_hasHalf 4 = .ok (.iconst 1, 1) := by decide +kernel
theorem dX4_hasHalf_5 : decode cX4_hasHalf 5 = .ok (.iadd, 1) := by decide +kernel
theorem dX4_hasHalf_6 : decode cX4_hasHalf 6 = .ok (.iconst 2, 1) := by decide +kernel
theorem dX4_hasHalf_7 : decode cX4_hasHalf 7 = .ok (.idiv, 1) := by decide +kernel
theorem dX4_hasHalf_8 : decode cX4_hasHalf 8 = .ok (.iconst 3, 1) := by decide +kernel
theorem dX4_hasHalf_9 : decode cX4_hasHalf 9 = .ok (.if_icmp .lt 19, 3) := by decide +kernel
theorem dX4_hasHalf_12 : decode cX4_hasHalf 12 = .ok (.aload_n 0, 1) := by decide +kernel
theorem dX4_hasHalf_13 : decode cX4_hasHalf 13 = .ok (.getfield 15, 3) := by decide +kernel
theorem dX4_hasHalf_16 : decode cX4_hasHalf 16 = .ok (.iconst 1, 1) := by decide +kernel
theorem dX4_hasHalf_17 : decode cX4_hasHalf 17 = .ok (.iadd, 1) := by decide +kernel
theorem dX4_hasHalf_18 : decode cX4_hasHalf 18 = .ok (.iconst 2, 1) := by decide +kernel
theorem dX4_hasHalf_19 : decode cX4_hasHalf 19 = .ok (.idiv, 1) := by decide +kernel
theorem dX4_hasHalf_20 : decode cX4_hasHalf 20 = .ok (.iconst 3, 1) := by decide +kernel
theorem dX4_hasHalf_21 : decode cX4_hasHalf 21 = .ok (.if_icmp .lt 7, 3) := by decide +kernel
theorem dX4_hasHalf_24 : decode cX4_hasHalf 24 = .ok (.iconst 1, 1) := by decide +kernel
theorem dX4_hasHalf_25 : decode cX4_hasHalf 25 = .ok (.goto 4, 3) := by decide +kernel
theorem dX4_hasHalf_28 : decode cX4_hasHalf 28 = .ok (.iconst 0, 1) := by decide +kernel
theorem dX4_hasHalf_29 : decode cX4_hasHalf 29 = .ok (.ireturn, 1) := by decide +kernel
set_option maxHeartbeats 4000000 in
set_option maxRecDepth 100000 in
theorem tX4_hasHalf {l : Launch} {g : yG} {n : Nat} {σ : yM} (k : Nat) (w h : Int) (T S F P O : Int → Int → Int) (hn : 172 ≤ n) (hP : isPic k) (hA : rC σ k w h T S F P O) : yMet l g yX4_hasHalf cX4_hasHalf 1 (some .boolean) (rmL 1) [yR g k] (SC g) n σ (SC g) (yPp (bi (decide (3 ≤ (w + 1) / 2) && decide (3 ≤ (h + 1) / 2))) n σ) := by
  obtain ⟨hw1, hw2, hw3, hw4⟩ := id hA.1.1
  refine y_start (by decide) (Nat.le_of_ble_eq_true rfl) (fun X0 hF => ?_)
  show yV X0 g 1 (yQ X0 g (SC g) (yPp (bi (decide (3 ≤ (w + 1) / 2) && decide (3 ≤ (h + 1) / 2))) n σ) (rmL 1)) (SC g) n σ 0 0 0 [(0, yR g k)] []
  refine y_aload_n (pc := 0) hF dX4_hasHalf_0 0 rfl ?_
  refine y_get (pc := 1) (ci := 4) hF dX4_hasHalf_1 (by have := hP.1; omega) (hP.2 g).1 rfl rfl iX4 0 (by decide) w_210 rfl ?_
  rw [show σ k 0 = w from hA.2.1]
  refine y_iconst (pc := 4) hF dX4_hasHalf_4 ?_
  refine y_iadd (pc := 5) hF dX4_hasHalf_5 ?_
  refine y_iconst (pc := 6) hF dX4_hasHalf_6 ?_
  refine y_idiv (pc := 7) hF dX4_hasHalf_7 (by omega) (by omega) (by omega) ?_
  rw [show Int.tdiv (w + 1) 2 = (w + 1) / 2 from (y_quo (by omega))]
  refine y_iconst (pc := 8) hF dX4_hasHalf_8 ?_
  refine y_icmp_lt (pc := 9) hF dX4_hasHalf_9 28 rfl (by omega) (by omega) (fun zc9 => ?_) (fun zc9 => ?_)
  · skip
    refine y_iconst (pc := 28) hF dX4_hasHalf_28 ?_
    exact y_zret (pc := 29) hF dX4_hasHalf_29 (by decide) (Nat.zero_le _) (Nat.zero_le _) ⟨_, rfl, by rw [show (decide (3 ≤ (w + 1) / 2) && decide (3 ≤ (h + 1) / 2)) = false by simp; omega]; rfl, rfl, rfl⟩
  · skip
    refine y_aload_n (pc := 12) hF dX4_hasHalf_12 0 rfl ?_
    refine y_get (pc := 13) (ci := 4) hF dX4_hasHalf_13 (by have := hP.1; omega) (hP.2 g).1 rfl rfl iX4 1 (by decide) w_214 rfl ?_
    rw [show σ k 1 = h from hA.2.2.1]
    refine y_iconst (pc := 16) hF dX4_hasHalf_16 ?_
    refine y_iadd (pc := 17) hF dX4_hasHalf_17 ?_
    refine y_iconst (pc := 18) hF dX4_hasHalf_18 ?_
    refine y_idiv (pc := 19) hF dX4_hasHalf_19 (by omega) (by omega) (by omega) ?_
    rw [show Int.tdiv (h + 1) 2 = (h + 1) / 2 from (y_quo (by omega))]
    refine y_iconst (pc := 20) hF dX4_hasHalf_20 ?_
    refine y_icmp_lt (pc := 21) hF dX4_hasHalf_21 28 rfl (by omega) (by omega) (fun zc21 => ?_) (fun zc21 => ?_)
    · skip
      refine y_iconst (pc := 28) hF dX4_hasHalf_28 ?_
      exact y_zret (pc := 29) hF dX4_hasHalf_29 (by decide) (Nat.zero_le _) (Nat.zero_le _) ⟨_, rfl, by rw [show (decide (3 ≤ (w + 1) / 2) && decide (3 ≤ (h + 1) / 2)) = false by simp; omega]; rfl, rfl, rfl⟩
    · skip
      refine y_iconst (pc := 24) hF dX4_hasHalf_24 ?_
      refine y_goto (pc := 25) hF dX4_hasHalf_25 29 rfl ?_
      exact y_zret (pc := 29) hF dX4_hasHalf_29 (by decide) (Nat.zero_le _) (Nat.zero_le _) ⟨_, rfl, by rw [show (decide (3 ≤ (w + 1) / 2) && decide (3 ≤ (h + 1) / 2)) = true by simp; omega]; rfl, rfl, rfl⟩

theorem dX4_meanOfFour_0 : decode cX4_meanOfFour 0 = .ok (.iconst 0, 1) := by decide +kernel
theorem dX4_meanOfFour_1 : decode cX4_meanOfFour 1 = .ok (.istore_n 3, 1) := by decide +kernel
theorem dX4_meanOfFour_2 : decode cX4_meanOfFour 2 = .ok (.iconst 0, 1) := by decide +kernel
theorem dX4_meanOfFour_3 : decode cX4_meanOfFour 3 = .ok (.istore 4, 2) := by decide +kernel
theorem dX4_meanOfFour_5 : decode cX4_meanOfFour 5 = .ok (.iload_n 2, 1) := by decide +kernel
theorem dX4_meanOfFour_6 : decode cX4_meanOfFour 6 = .ok (.istore 5, 2) := by decide +kernel
theorem dX4_meanOfFour_8 : decode cX4_meanOfFour 8 = .ok (.iload 5, 2) := by decide +kernel
theorem dX4_meanOfFour_10 : decode cX4_meanOfFour 10 = .ok (.iload_n 2, 1) := by decide +kernel
theorem dX4_meanOfFour_11 : decode cX4_meanOfFour 11 = .ok (.iconst 1, 1) := by decide +kernel
theorem dX4_meanOfFour_12 : decode cX4_meanOfFour 12 = .ok (.iadd, 1) := by decide +kernel
theorem dX4_meanOfFour_13 : decode cX4_meanOfFour 13 = .ok (.if_icmp .gt 58, 3) := by decide +kernel
theorem dX4_meanOfFour_16 : decode cX4_meanOfFour 16 = .ok (.iload_n 1, 1) := by decide +kernel
theorem dX4_meanOfFour_17 : decode cX4_meanOfFour 17 = .ok (.istore 6, 2) := by decide +kernel
theorem dX4_meanOfFour_19 : decode cX4_meanOfFour 19 = .ok (.iload 6, 2) := by decide +kernel
theorem dX4_meanOfFour_21 : decode cX4_meanOfFour 21 = .ok (.iload_n 1, 1) := by decide +kernel
theorem dX4_meanOfFour_22 : decode cX4_meanOfFour 22 = .ok (.iconst 1, 1) := by decide +kernel
theorem dX4_meanOfFour_23 : decode cX4_meanOfFour 23 = .ok (.iadd, 1) := by decide +kernel
theorem dX4_meanOfFour_24 : decode cX4_meanOfFour 24 = .ok (.if_icmp .gt 41, 3) := by decide +kernel
theorem dX4_meanOfFour_27 : decode cX4_meanOfFour 27 = .ok (.aload_n 0, 1) := by decide +kernel
theorem dX4_meanOfFour_28 : decode cX4_meanOfFour 28 = .ok (.iload 6, 2) := by decide +kernel
theorem dX4_meanOfFour_30 : decode cX4_meanOfFour 30 = .ok (.iload 5, 2) := by decide +kernel
theorem dX4_meanOfFour_32 : decode cX4_meanOfFour 32 = .ok (.invokevirtual 47, 3) := by decide +kernel
theorem dX4_meanOfFour_35 : decode cX4_meanOfFour 35 = .ok (.ifCond .eq 24, 3) := by decide +kernel
theorem dX4_meanOfFour_38 : decode cX4_meanOfFour 38 = .ok (.iload_n 3, 1) := by decide +kernel
theorem dX4_meanOfFour_39 : decode cX4_meanOfFour 39 = .ok (.aload_n 0, 1) := by decide +kernel
theorem dX4_meanOfFour_40 : decode cX4_meanOfFour 40 = .ok (.getfield 18, 3) := by decide +kernel
theorem dX4_meanOfFour_43 : decode cX4_meanOfFour 43 = .ok (.iload 5, 2) := by decide +kernel
theorem dX4_meanOfFour_45 : decode cX4_meanOfFour 45 = .ok (.aload_n 0, 1) := by decide +kernel
theorem dX4_meanOfFour_46 : decode cX4_meanOfFour 46 = .ok (.getfield 9, 3) := by decide +kernel
theorem dX4_meanOfFour_49 : decode cX4_meanOfFour 49 = .ok (.imul, 1) := by decide +kernel
theorem dX4_meanOfFour_50 : decode cX4_meanOfFour 50 = .ok (.iload 6, 2) := by decide +kernel
theorem dX4_meanOfFour_52 : decode cX4_meanOfFour 52 = .ok (.iadd, 1) := by decide +kernel
theorem dX4_meanOfFour_53 : decode cX4_meanOfFour 53 = .ok (.iaload, 1) := by decide +kernel
theorem dX4_meanOfFour_54 : decode cX4_meanOfFour 54 = .ok (.iadd, 1) := by decide +kernel
theorem dX4_meanOfFour_55 : decode cX4_meanOfFour 55 = .ok (.istore_n 3, 1) := by decide +kernel
theorem dX4_meanOfFour_56 : decode cX4_meanOfFour 56 = .ok (.iinc 4 1, 3) := by decide +kernel
theorem dX4_meanOfFour_59 : decode cX4_meanOfFour 59 = .ok (.iinc 6 1, 3) := by decide +kernel
theorem dX4_meanOfFour_62 : decode cX4_meanOfFour 62 = .ok (.goto (-43), 3) := by decide +kernel
theorem dX4_meanOfFour_65 : decode cX4_meanOfFour 65 = .ok (.iinc 5 1, 3) := by decide +kernel
theorem dX4_meanOfFour_68 : decode cX4_meanOfFour 68 = .ok (.goto (-60), 3) := by decide +kernel
theorem dX4_meanOfFour_71 : decode cX4_meanOfFour 71 = .ok (.iload 4, 2) := by decide +kernel
theorem dX4_meanOfFour_73 : decode cX4_meanOfFour 73 = .ok (.ifCond .ne 7, 3) := by decide +kernel
theorem dX4_meanOfFour_76 : decode cX4_meanOfFour 76 = .ok (.iconst (-1), 1) := by decide +kernel
theorem dX4_meanOfFour_77 : decode cX4_meanOfFour 77 = .ok (.goto 7, 3) := by decide +kernel
theorem dX4_meanOfFour_80 : decode cX4_meanOfFour 80 = .ok (.iload_n 3, 1) := by decide +kernel
theorem dX4_meanOfFour_81 : decode cX4_meanOfFour 81 = .ok (.iload 4, 2) := by decide +kernel
theorem dX4_meanOfFour_83 : decode cX4_meanOfFour 83 = .ok (.idiv, 1) := by decide +kernel
theorem dX4_meanOfFour_84 : decode cX4_meanOfFour 84 = .ok (.ireturn, 1) := by decide +kernel
set_option maxHeartbeats 4000000 in
set_option maxRecDepth 100000 in
theorem tX4_meanOfFour {l : Launch} {g : yG} {n : Nat} {σ : yM} (k : Nat) (w h : Int) (T S F P O : Int → Int → Int) (hn : 172 ≤ n) (hP : isPic k) (hA : rC σ k w h T S F P O) (a b : Int) (ha : -1000000 ≤ a ∧ a ≤ 1000000) (hb : -1000000 ≤ b ∧ b ≤ 1000000) : yMet l g yX4_meanOfFour cX4_meanOfFour 7 (some .int) (rmL 3) [yR g k, yI a, yI b] (SC g) n σ (SC g) (yPp (if (s4 w h T a b).2 = 0 then -1 else (s4 w h T a b).1.tdiv (s4 w h T a b).2) n σ) := by
  obtain ⟨hw1, hw2, hw3, hw4⟩ := id hA.1.1
  have zb := s4_bd hA.1 a b
  refine y_start (by decide) (Nat.le_of_ble_eq_true rfl) (fun X0 hF => ?_)
  show yV X0 g 7 (yQ X0 g (SC g) (yPp (if (s4 w h T a b).2 = 0 then -1 else (s4 w h T a b).1.tdiv (s4 w h T a b).2) n σ) (rmL 3)) (SC g) n σ 0 0 0 [(0, yR g k), (1, yI a), (2, yI b)] []
  refine y_iconst (pc := 0) hF dX4_meanOfFour_0 ?_
  refine y_istore_n (pc := 1) (lv' := [(0, yR g k), (1, yI a), (2, yI b), (3, yI 0)]) hF dX4_meanOfFour_1 (by decide) rfl rfl ?_
  refine y_iconst (pc := 2) hF dX4_meanOfFour_2 ?_
  refine y_istore (pc := 3) (lv' := [(0, yR g k), (1, yI a), (2, yI b), (3, yI 0), (4, yI 0)]) hF dX4_meanOfFour_3 (by decide) rfl rfl ?_
  refine y_iload_n (pc := 5) hF dX4_meanOfFour_5 2 rfl ?_
  refine y_istore (pc := 6) (lv' := [(0, yR g k), (1, yI a), (2, yI b), (3, yI 0), (4, yI 0), (5, yI b)]) hF dX4_meanOfFour_6 (by decide) rfl rfl ?_
  have zL8 : ∀ (N : Nat) (j c1 c2 : Int), N = (b + 2 - j).toNat → ((b ≤ j ∧ j ≤ b + 2) ∧ (c1, c2) = fr (fun q j => fr (fun q i => m4F w h T q i j) a 2 q) b (j - b).toNat (0, 0)) → yV X0 g 7 (yQ X0 g (SC g) (yPp (if (s4 w h T a b).2 = 0 then -1 else (s4 w h T a b).1.tdiv (s4 w h T a b).2) n σ) (rmL 3)) (SC g) n σ 0 0 8 [(0, yR g k), (1, yI a), (2, yI b), (3, yI c1), (4, yI c2), (5, yI j)] [] := by
    intro N
    induction N using Nat.strongRecOn with
    | ind N zh8 =>
      intro j c1 c2  zN8 zI8
      refine y_iload (pc := 8) hF dX4_meanOfFour_8 5 rfl ?_
      refine y_iload_n (pc := 10) hF dX4_meanOfFour_10 2 rfl ?_
      refine y_iconst (pc := 11) hF dX4_meanOfFour_11 ?_
      refine y_iadd (pc := 12) hF dX4_meanOfFour_12 ?_
      refine y_icmp_gt (pc := 13) hF dX4_meanOfFour_13 71 rfl (by omega) (by omega) (fun zc13 => ?_) (fun zc13 => ?_)
      · skip
        have ze : (c1, c2) = s4 w h T a b := by rw [zI8.2, show j - b = 2 by omega]; rfl
        have ze1 : c1 = (s4 w h T a b).1 := congrArg Prod.fst ze
        have ze2 : c2 = (s4 w h T a b).2 := congrArg Prod.snd ze
        refine y_iload (pc := 71) hF dX4_meanOfFour_71 4 rfl ?_
        refine y_if_ne (pc := 73) hF dX4_meanOfFour_73 80 rfl (by omega) (fun zc73 => ?_) (fun zc73 => ?_)
        · skip
          refine y_iload_n (pc := 80) hF dX4_meanOfFour_80 3 rfl ?_
          refine y_iload (pc := 81) hF dX4_meanOfFour_81 4 rfl ?_
          refine y_idiv (pc := 83) hF dX4_meanOfFour_83 (by omega) (by omega) (by omega) ?_
          exact y_iret (pc := 84) hF dX4_meanOfFour_84 (Nat.zero_le _) (Nat.zero_le _) ⟨_, rfl, by rw [if_neg (by omega), ← ze1, ← ze2], rfl, rfl⟩
        · skip
          refine y_iconst (pc := 76) hF dX4_meanOfFour_76 ?_
          refine y_goto (pc := 77) hF dX4_meanOfFour_77 84 rfl ?_
          exact y_iret (pc := 84) hF dX4_meanOfFour_84 (Nat.zero_le _) (Nat.zero_le _) ⟨_, rfl, by rw [if_pos (by omega)], rfl, rfl⟩
      · skip
        refine y_iload_n (pc := 16) hF dX4_meanOfFour_16 1 rfl ?_
        refine y_istore (pc := 17) (lv' := [(0, yR g k), (1, yI a), (2, yI b), (3, yI c1), (4, yI c2), (5, yI j), (6, yI a)]) hF dX4_meanOfFour_17 (by decide) rfl rfl ?_
        have zL19 : ∀ (N : Nat) (i d1 d2 : Int), N = (a + 2 - i).toNat → ((a ≤ i ∧ i ≤ a + 2) ∧ (d1, d2) = fr (fun q i => m4F w h T q i j) a (i - a).toNat (c1, c2)) → yV X0 g 7 (yQ X0 g (SC g) (yPp (if (s4 w h T a b).2 = 0 then -1 else (s4 w h T a b).1.tdiv (s4 w h T a b).2) n σ) (rmL 3)) (SC g) n σ 0 0 19 [(0, yR g k), (1, yI a), (2, yI b), (3, yI d1), (4, yI d2), (5, yI j), (6, yI i)] [] := by
          intro N
          induction N using Nat.strongRecOn with
          | ind N zh19 =>
            intro i d1 d2  zN19 zI19
            refine y_iload (pc := 19) hF dX4_meanOfFour_19 6 rfl ?_
            refine y_iload_n (pc := 21) hF dX4_meanOfFour_21 1 rfl ?_
            refine y_iconst (pc := 22) hF dX4_meanOfFour_22 ?_
            refine y_iadd (pc := 23) hF dX4_meanOfFour_23 ?_
            refine y_icmp_gt (pc := 24) hF dX4_meanOfFour_24 65 rfl (by omega) (by omega) (fun zc24 => ?_) (fun zc24 => ?_)
            · skip
              refine y_iinc (pc := 65) (lv' := [(0, yR g k), (1, yI a), (2, yI b), (3, yI d1), (4, yI d2), (5, yI (j + 1)), (6, yI i)]) hF dX4_meanOfFour_65 5 rfl (by decide) rfl rfl ?_
              refine y_goto (pc := 68) hF dX4_meanOfFour_68 8 rfl ?_
              refine y_sub [0, 1, 2, 3, 4, 5] rfl ?_
              exact zh8 _ (by omega) (j + 1) (d1) (d2) rfl ⟨by omega, by rw [fr_up' _ _ zI8.1.1, ← zI8.2, zI19.2, show i - a = 2 by omega]; rfl⟩
            · skip
              refine y_aload_n (pc := 27) hF dX4_meanOfFour_27 0 rfl ?_
              refine y_iload (pc := 28) hF dX4_meanOfFour_28 6 rfl ?_
              refine y_iload (pc := 30) hF dX4_meanOfFour_30 5 rfl ?_
              have zz32 := y_rV (pc := 32) hF (tX4_isKnown k w h T S F P O hn hP hA i j (by omega) (by omega)) dX4_meanOfFour_32 (by have := hP.1; omega) (hP.2 g).1 rfl rfl w_841 qX4_isKnown rfl ⟨Nat.le_of_ble_eq_true rfl, Nat.le_of_ble_eq_true rfl⟩ ⟨Nat.zero_le _, Nat.zero_le _⟩ (Nat.le_of_ble_eq_true rfl) rfl (rest := []) (cells := 0) (slots := 0) (lv := [(0, yR g k), (1, yI a), (2, yI b), (3, yI d1), (4, yI d2), (5, yI j), (6, yI i)])
              refine y_cp (zz32) ?_
              refine y_if_eq (pc := 35) hF dX4_meanOfFour_35 59 rfl bi_r (fun zc35 => ?_) (fun zc35 => ?_)
              · replace zc35 := bi_0.mp zc35
                refine y_iinc (pc := 59) (lv' := [(0, yR g k), (1, yI a), (2, yI b), (3, yI d1), (4, yI d2), (5, yI j), (6, yI (i + 1))]) hF dX4_meanOfFour_59 6 rfl (by decide) rfl rfl ?_
                refine y_goto (pc := 62) hF dX4_meanOfFour_62 19 rfl ?_
                exact zh19 _ (by omega) (i + 1) (d1) (d2) rfl ⟨by omega, by rw [fr_up' _ _ zI19.1.1, ← zI19.2]; simp [m4F, zc35]⟩
              · replace zc35 := bi_n0.mp zc35
                have zi := sIn_iff.mp (sKn_in zc35)
                have zx := y_ix (w := w) (h := h) (x := i) (y := j) ⟨hw1, hw2⟩ ⟨hw3, hw4⟩ (by omega) (by omega)
                refine y_iload_n (pc := 38) hF dX4_meanOfFour_38 3 rfl ?_
                refine y_aload_n (pc := 39) hF dX4_meanOfFour_39 0 rfl ?_
                refine y_get (pc := 40) (ci := 4) hF dX4_meanOfFour_40 (by have := hP.1; omega) (hP.2 g).1 rfl rfl iX4 2 (by decide) w_218 rfl ?_
                refine y_iload (pc := 43) hF dX4_meanOfFour_43 5 rfl ?_
                refine y_aload_n (pc := 45) hF dX4_meanOfFour_45 0 rfl ?_
                refine y_get (pc := 46) (ci := 4) hF dX4_meanOfFour_46 (by have := hP.1; omega) (hP.2 g).1 rfl rfl iX4 0 (by decide) w_210 rfl ?_
                rw [show σ k 0 = w from hA.2.1]
                refine y_imul (pc := 49) hF dX4_meanOfFour_49 ?_
                refine y_iload (pc := 50) hF dX4_meanOfFour_50 6 rfl ?_
                refine y_iadd (pc := 52) hF dX4_meanOfFour_52 ?_
                refine y_iaload (pc := 53) hF dX4_meanOfFour_53 (by have := hP.1; omega) (hP.2 g).2.1 (by omega) (by decide) ?_
                rw [show σ (k + 1) ((j * w) + i) = T i j from (hA.2.2.2 i j zi.1 zi.2.1 zi.2.2.1 zi.2.2.2).1]
                refine y_iadd (pc := 54) hF dX4_meanOfFour_54 ?_
                refine y_istore_n (pc := 55) (lv' := [(0, yR g k), (1, yI a), (2, yI b), (3, yI (d1 + (T i j))), (4, yI d2), (5, yI j), (6, yI i)]) hF dX4_meanOfFour_55 (by decide) rfl rfl ?_
                refine y_iinc (pc := 56) (lv' := [(0, yR g k), (1, yI a), (2, yI b), (3, yI (d1 + (T i j))), (4, yI (d2 + 1)), (5, yI j), (6, yI i)]) hF dX4_meanOfFour_56 4 rfl (by decide) rfl rfl ?_
                refine y_iinc (pc := 59) (lv' := [(0, yR g k), (1, yI a), (2, yI b), (3, yI (d1 + (T i j))), (4, yI (d2 + 1)), (5, yI j), (6, yI (i + 1))]) hF dX4_meanOfFour_59 6 rfl (by decide) rfl rfl ?_
                refine y_goto (pc := 62) hF dX4_meanOfFour_62 19 rfl ?_
                exact zh19 _ (by omega) (i + 1) (d1 + (T i j)) (d2 + 1) rfl ⟨by omega, by rw [fr_up' _ _ zI19.1.1, ← zI19.2]; simp [m4F, zc35]⟩
        exact zL19 _ (a) (c1) (c2) rfl ⟨by omega, (fr_no _ _ _).symm⟩
  exact zL8 _ (b) (0) (0) rfl ⟨by omega, (fr_no _ _ _).symm⟩

set_option maxHeartbeats 4000000 in
set_option maxRecDepth 100000 in
theorem tX4_dots0 {l : Launch} {g : yG} {n : Nat} {σ : yM} (k : Nat) (w h : Int) (hn : 172 ≤ n) (hP : isPic k) (hd : (1 ≤ w ∧ w ≤ 20) ∧ (1 ≤ h ∧ h ≤ 20)) (hd0 : σ k 0 = w) (hd1 : σ k 1 = h) : yMet l g yX4_dots cX4_dots 1 (some .int) (rmL 1) [yR g k] (SC g) n σ (SC g) (yPp (w * h) n σ) := by
  refine y_start (by decide) (Nat.le_of_ble_eq_true rfl) (fun X0 hF => ?_)
  show yV X0 g 1 (yQ X0 g (SC g) (yPp (w * h) n σ) (rmL 1)) (SC g) n σ 0 0 0 [(0, yR g k)] []
  refine y_aload_n (pc := 0) hF dX4_dots_0 0 rfl ?_
  refine y_get (pc := 1) (ci := 4) hF dX4_dots_1 (by have := hP.1; omega) (hP.2 g).1 rfl rfl iX4 0 (by decide) w_210 rfl ?_
  rw [show σ k 0 = w from hd0]
  refine y_aload_n (pc := 4) hF dX4_dots_4 0 rfl ?_
  refine y_get (pc := 5) (ci := 4) hF dX4_dots_5 (by have := hP.1; omega) (hP.2 g).1 rfl rfl iX4 1 (by decide) w_214 rfl ?_
  rw [show σ k 1 = h from hd1]
  refine y_imul (pc := 8) hF dX4_dots_8 ?_
  exact y_iret (pc := 9) hF dX4_dots_9 (Nat.zero_le _) (Nat.zero_le _) ⟨_, rfl, rfl, rfl, rfl⟩

set_option maxHeartbeats 4000000 in
set_option maxRecDepth 100000 in
theorem tX4_xOf0 {l : Launch} {g : yG} {n : Nat} {σ : yM} (k : Nat) (w h : Int) (hn : 172 ≤ n) (hP : isPic k) (hd : (1 ≤ w ∧ w ≤ 20) ∧ (1 ≤ h ∧ h ≤ 20)) (hd0 : σ k 0 = w) (hd1 : σ k 1 = h) (a : Int) (ha : -2147483648 ≤ a ∧ a < 2147483648) : yMet l g yX4_xOf cX4_xOf 2 (some .int) (rmL 1) [yR g k, yI a] (SC g) n σ (SC g) (yPp (cx w a) n σ) := by
  refine y_start (by decide) (Nat.le_of_ble_eq_true rfl) (fun X0 hF => ?_)
  show yV X0 g 2 (yQ X0 g (SC g) (yPp (cx w a) n σ) (rmL 1)) (SC g) n σ 0 0 0 [(0, yR g k), (1, yI a)] []
  refine y_iload_n (pc := 0) hF dX4_xOf_0 1 rfl ?_
  refine y_if_lt (pc := 1) hF dX4_xOf_1 11 rfl (by omega) (fun zc1 => ?_) (fun zc1 => ?_)
  · skip
    refine y_iconst (pc := 11) hF dX4_xOf_11 ?_
    refine y_goto (pc := 12) hF dX4_xOf_12 21 rfl ?_
    exact y_iret (pc := 21) hF dX4_xOf_21 (Nat.zero_le _) (Nat.zero_le _) ⟨_, rfl, by first | (exfalso; omega) | (unfold cx; rw [if_pos (by omega)]) | (unfold cx; rw [if_neg (by omega), y_rem (by omega) (by omega)]), rfl, rfl⟩
  · skip
    refine y_aload_n (pc := 4) hF dX4_xOf_4 0 rfl ?_
    refine y_get (pc := 5) (ci := 4) hF dX4_xOf_5 (by have := hP.1; omega) (hP.2 g).1 rfl rfl iX4 0 (by decide) w_210 rfl ?_
    rw [show σ k 0 = w from hd0]
    refine y_if_gt (pc := 8) hF dX4_xOf_8 15 rfl (by omega) (fun zc8 => ?_) (fun zc8 => ?_)
    · skip
      refine y_iload_n (pc := 15) hF dX4_xOf_15 1 rfl ?_
      refine y_aload_n (pc := 16) hF dX4_xOf_16 0 rfl ?_
      refine y_get (pc := 17) (ci := 4) hF dX4_xOf_17 (by have := hP.1; omega) (hP.2 g).1 rfl rfl iX4 0 (by decide) w_210 rfl ?_
      rw [show σ k 0 = w from hd0]
      refine y_irem (pc := 20) hF dX4_xOf_20 (by omega) (by omega) (by omega) ?_
      exact y_iret (pc := 21) hF dX4_xOf_21 (Nat.zero_le _) (Nat.zero_le _) ⟨_, rfl, by first | (exfalso; omega) | (unfold cx; rw [if_pos (by omega)]) | (unfold cx; rw [if_neg (by omega), y_rem (by omega) (by omega)]), rfl, rfl⟩
    · skip
      refine y_iconst (pc := 11) hF dX4_xOf_11 ?_
      refine y_goto (pc := 12) hF dX4_xOf_12 21 rfl ?_
      exact y_iret (pc := 21) hF dX4_xOf_21 (Nat.zero_le _) (Nat.zero_le _) ⟨_, rfl, by first | (exfalso; omega) | (unfold cx; rw [if_pos (by omega)]) | (unfold cx; rw [if_neg (by omega), y_rem (by omega) (by omega)]), rfl, rfl⟩

set_option maxHeartbeats 4000000 in
set_option maxRecDepth 100000 in
theorem tX4_yOf0 {l : Launch} {g : yG} {n : Nat} {σ : yM} (k : Nat) (w h : Int) (hn : 172 ≤ n) (hP : isPic k) (hd : (1 ≤ w ∧ w ≤ 20) ∧ (1 ≤ h ∧ h ≤ 20)) (hd0 : σ k 0 = w) (hd1 : σ k 1 = h) (a : Int) (ha : -2147483648 ≤ a ∧ a < 2147483648) : yMet l g yX4_yOf cX4_yOf 2 (some .int) (rmL 1) [yR g k, yI a] (SC g) n σ (SC g) (yPp (cy w a) n σ) := by
  refine y_start (by decide) (Nat.le_of_ble_eq_true rfl) (fun X0 hF => ?_)
  show yV X0 g 2 (yQ X0 g (SC g) (yPp (cy w a) n σ) (rmL 1)) (SC g) n σ 0 0 0 [(0, yR g k), (1, yI a)] []
  refine y_iload_n (pc := 0) hF dX4_yOf_0 1 rfl ?_
  refine y_if_lt (pc := 1) hF dX4_yOf_1 11 rfl (by omega) (fun zc1 => ?_) (fun zc1 => ?_)
  · skip
    refine y_iconst (pc := 11) hF dX4_yOf_11 ?_
    refine y_goto (pc := 12) hF dX4_yOf_12 21 rfl ?_
    exact y_iret (pc := 21) hF dX4_yOf_21 (Nat.zero_le _) (Nat.zero_le _) ⟨_, rfl, by first | (exfalso; omega) | (unfold cy; rw [if_pos (by omega)]) | (unfold cy; rw [if_neg (by omega), y_quo (by omega)]), rfl, rfl⟩
  · skip
    refine y_aload_n (pc := 4) hF dX4_yOf_4 0 rfl ?_
    refine y_get (pc := 5) (ci := 4) hF dX4_yOf_5 (by have := hP.1; omega) (hP.2 g).1 rfl rfl iX4 0 (by decide) w_210 rfl ?_
    rw [show σ k 0 = w from hd0]
    refine y_if_gt (pc := 8) hF dX4_yOf_8 15 rfl (by omega) (fun zc8 => ?_) (fun zc8 => ?_)
    · skip
      refine y_iload_n (pc := 15) hF dX4_yOf_15 1 rfl ?_
      refine y_aload_n (pc := 16) hF dX4_yOf_16 0 rfl ?_
      refine y_get (pc := 17) (ci := 4) hF dX4_yOf_17 (by have := hP.1; omega) (hP.2 g).1 rfl rfl iX4 0 (by decide) w_210 rfl ?_
      rw [show σ k 0 = w from hd0]
      refine y_idiv (pc := 20) hF dX4_yOf_20 (by omega) (by omega) (by omega) ?_
      exact y_iret (pc := 21) hF dX4_yOf_21 (Nat.zero_le _) (Nat.zero_le _) ⟨_, rfl, by first | (exfalso; omega) | (unfold cy; rw [if_pos (by omega)]) | (unfold cy; rw [if_neg (by omega), y_quo (by omega)]), rfl, rfl⟩
    · skip
      refine y_iconst (pc := 11) hF dX4_yOf_11 ?_
      refine y_goto (pc := 12) hF dX4_yOf_12 21 rfl ?_
      exact y_iret (pc := 21) hF dX4_yOf_21 (Nat.zero_le _) (Nat.zero_le _) ⟨_, rfl, by first | (exfalso; omega) | (unfold cy; rw [if_pos (by omega)]) | (unfold cy; rw [if_neg (by omega), y_quo (by omega)]), rfl, rfl⟩

theorem dX4_becomeHalfOf_0 : decode cX4_becomeHalfOf 0 = .ok (.aload_n 0, 1) := by decide +kernel
theorem dX4_becomeHalfOf_1 : decode cX4_becomeHalfOf 1 = .ok (.aload_n 1, 1) := by decide +kernel
theorem dX4_becomeHalfOf_2 : decode cX4_becomeHalfOf 2 = .ok (.getfield 9, 3) := by decide +kernel
theorem dX4_becomeHalfOf_5 : decode cX4_becomeHalfOf 5 = .ok (.iconst 1, 1) := by decide +kernel
theorem dX4_becomeHalfOf_6 : decode cX4_becomeHalfOf 6 = .ok (.iadd, 1) := by decide +kernel
theorem dX4_becomeHalfOf_7 : decode cX4_becomeHalfOf 7 = .ok (.iconst 2, 1) := by decide +kernel
theorem dX4_becomeHalfOf_8 : decode cX4_becomeHalfOf 8 = .ok (.idiv, 1) := by decide +kernel
theorem dX4_becomeHalfOf_9 : decode cX4_becomeHalfOf 9 = .ok (.putfield 9, 3) := by decide +kernel
theorem dX4_becomeHalfOf_12 : decode cX4_becomeHalfOf 12 = .ok (.aload_n 0, 1) := by decide +kernel
theorem dX4_becomeHalfOf_13 : decode cX4_becomeHalfOf 13 = .ok (.aload_n 1, 1) := by decide +kernel
theorem dX4_becomeHalfOf_14 : decode cX4_becomeHalfOf 14 = .ok (.getfield 15, 3) := by decide +kernel
theorem dX4_becomeHalfOf_17 : decode cX4_becomeHalfOf 17 = .ok (.iconst 1, 1) := by decide +kernel
theorem dX4_becomeHalfOf_18 : decode cX4_becomeHalfOf 18 = .ok (.iadd, 1) := by decide +kernel
theorem dX4_becomeHalfOf_19 : decode cX4_becomeHalfOf 19 = .ok (.iconst 2, 1) := by decide +kernel
theorem dX4_becomeHalfOf_20 : decode cX4_becomeHalfOf 20 = .ok (.idiv, 1) := by decide +kernel
theorem dX4_becomeHalfOf_21 : decode cX4_becomeHalfOf 21 = .ok (.putfield 15, 3) := by decide +kernel
theorem dX4_becomeHalfOf_24 : decode cX4_becomeHalfOf 24 = .ok (.iconst 0, 1) := by decide +kernel
theorem dX4_becomeHalfOf_25 : decode cX4_becomeHalfOf 25 = .ok (.istore_n 2, 1) := by decide +kernel
theorem dX4_becomeHalfOf_26 : decode cX4_becomeHalfOf 26 = .ok (.iload_n 2, 1) := by decide +kernel
theorem dX4_becomeHalfOf_27 : decode cX4_becomeHalfOf 27 = .ok (.aload_n 0, 1) := by decide +kernel
theorem dX4_becomeHalfOf_28 : decode cX4_becomeHalfOf 28 = .ok (.invokevirtual 50, 3) := by decide +kernel
theorem dX4_becomeHalfOf_31 : decode cX4_becomeHalfOf 31 = .ok (.if_icmp .ge 32, 3) := by decide +kernel
theorem dX4_becomeHalfOf_34 : decode cX4_becomeHalfOf 34 = .ok (.aload_n 0, 1) := by decide +kernel
theorem dX4_becomeHalfOf_35 : decode cX4_becomeHalfOf 35 = .ok (.iload_n 2, 1) := by decide +kernel
theorem dX4_becomeHalfOf_36 : decode cX4_becomeHalfOf 36 = .ok (.aload_n 1, 1) := by decide +kernel
theorem dX4_becomeHalfOf_37 : decode cX4_becomeHalfOf 37 = .ok (.iconst 2, 1) := by decide +kernel
theorem dX4_becomeHalfOf_38 : decode cX4_becomeHalfOf 38 = .ok (.aload_n 0, 1) := by decide +kernel
theorem dX4_becomeHalfOf_39 : decode cX4_becomeHalfOf 39 = .ok (.iload_n 2, 1) := by decide +kernel
theorem dX4_becomeHalfOf_40 : decode cX4_becomeHalfOf 40 = .ok (.invokevirtual 64, 3) := by decide +kernel
theorem dX4_becomeHalfOf_43 : decode cX4_becomeHalfOf 43 = .ok (.imul, 1) := by decide +kernel
theorem dX4_becomeHalfOf_44 : decode cX4_becomeHalfOf 44 = .ok (.iconst 2, 1) := by decide +kernel
theorem dX4_becomeHalfOf_45 : decode cX4_becomeHalfOf 45 = .ok (.aload_n 0, 1) := by decide +kernel
theorem dX4_becomeHalfOf_46 : decode cX4_becomeHalfOf 46 = .ok (.iload_n 2, 1) := by decide +kernel
theorem dX4_becomeHalfOf_47 : decode cX4_becomeHalfOf 47 = .ok (.invokevirtual 68, 3) := by decide +kernel
theorem dX4_becomeHalfOf_50 : decode cX4_becomeHalfOf 50 = .ok (.imul, 1) := by decide +kernel
theorem dX4_becomeHalfOf_51 : decode cX4_becomeHalfOf 51 = .ok (.invokevirtual 71, 3) := by decide +kernel
theorem dX4_becomeHalfOf_54 : decode cX4_becomeHalfOf 54 = .ok (.invokevirtual 54, 3) := by decide +kernel
theorem dX4_becomeHalfOf_57 : decode cX4_becomeHalfOf 57 = .ok (.iinc 2 1, 3) := by decide +kernel
theorem dX4_becomeHalfOf_60 : decode cX4_becomeHalfOf 60 = .ok (.goto (-34), 3) := by decide +kernel
theorem dX4_becomeHalfOf_63 : decode cX4_becomeHalfOf 63 = .ok (.return_, 1) := by decide +kernel
set_option maxHeartbeats 4000000 in
set_option maxRecDepth 100000 in
theorem tX4_becomeHalfOf {l : Launch} {g : yG} {n : Nat} {σ : yM} (k o_ : Nat) (w h : Int) (T S F P O : Int → Int → Int) (hn : 172 ≤ n) (hP : isPic k) (ho : isPic o_) (hA : rC σ o_ w h T S F P O) (hd : o_ + 5 < k ∨ k + 5 < o_) : yMet l g yX4_becomeHalfOf cX4_becomeHalfOf 3 none (rmL 4) [yR g k, yR g o_] (SC g) n σ (SC g) (yPv (fun n' σ' => n' = n ∧ fc k (k + 5) σ σ' ∧ rC σ' k ((w + 1) / 2) ((h + 1) / 2) (sHf w h T) (hS_ (sHf w h T)) (fun _ _ => 0) (fun _ _ => -1) (fun _ _ => -1))) := by
  obtain ⟨hw1, hw2, hw3, hw4⟩ := id hA.1.1
  have zkn : k < n := by have := hP.1; omega
  have zkn1 : k + 1 < n := by have := hP.1; omega
  have zkn2 : k + 2 < n := by have := hP.1; omega
  have zkn3 : k + 3 < n := by have := hP.1; omega
  have zkn4 : k + 4 < n := by have := hP.1; omega
  have zkn5 : k + 5 < n := by have := hP.1; omega
  have zo_n : o_ < n := by have := ho.1; omega
  have zo_n1 : o_ + 1 < n := by have := ho.1; omega
  have zo_n2 : o_ + 2 < n := by have := ho.1; omega
  have zo_n3 : o_ + 3 < n := by have := ho.1; omega
  have zo_n4 : o_ + 4 < n := by have := ho.1; omega
  have zo_n5 : o_ + 5 < n := by have := ho.1; omega
  have zdd : (1 ≤ ((w + 1) / 2) ∧ ((w + 1) / 2) ≤ 20) ∧ (1 ≤ ((h + 1) / 2) ∧ ((h + 1) / 2) ≤ 20) := by omega
  have zwh := y_wh zdd.1 zdd.2
  have zhN : ∀ x y : Int, 0 ≤ x → x < ((w + 1) / 2) → 0 ≤ y → y < ((h + 1) / 2) → -1 ≤ sHf w h T x y ∧ sHf w h T x y ≤ 255 := fun x y _ _ _ _ => ⟨(sHf_bd hA.1 x y).1, (sHf_bd hA.1 x y).2.1⟩
  refine y_start (by decide) (Nat.le_of_ble_eq_true rfl) (fun X0 hF => ?_)
  show yV X0 g 3 (yQ X0 g (SC g) (yPv (fun n' σ' => n' = n ∧ fc k (k + 5) σ σ' ∧ rC σ' k ((w + 1) / 2) ((h + 1) / 2) (sHf w h T) (hS_ (sHf w h T)) (fun _ _ => 0) (fun _ _ => -1) (fun _ _ => -1))) (rmL 4)) (SC g) n σ 0 0 0 [(0, yR g k), (1, yR g o_)] []
  refine y_aload_n (pc := 0) hF dX4_becomeHalfOf_0 0 rfl ?_
  refine y_aload_n (pc := 1) hF dX4_becomeHalfOf_1 1 rfl ?_
  refine y_get (pc := 2) (ci := 4) hF dX4_becomeHalfOf_2 zo_n (ho.2 g).1 rfl rfl iX4 0 (by decide) w_210 rfl ?_
  rw [show σ o_ 0 = w from hA.2.1]
  refine y_iconst (pc := 5) hF dX4_becomeHalfOf_5 ?_
  refine y_iadd (pc := 6) hF dX4_becomeHalfOf_6 ?_
  refine y_iconst (pc := 7) hF dX4_becomeHalfOf_7 ?_
  refine y_idiv (pc := 8) hF dX4_becomeHalfOf_8 (by omega) (by omega) (by omega) ?_
  rw [show Int.tdiv (w + 1) 2 = (w + 1) / 2 from (y_quo (by omega))]
  refine y_putf (pc := 9) (ci := 4) (σ' := yset σ k 0 ((w + 1) / 2)) (sch' := (SC g)) hF dX4_becomeHalfOf_9 zkn (hP.2 g).1 rfl rfl iX4 0 (by decide) w_210 tyX4 tyX4_ok nmX4 rfl rfl rfl rfl (Nat.le_of_ble_eq_true rfl) (hP.2 g).1 ((congrArg (kPic g k) (yset_s _ _ _ _)).trans rfl) (fun k' h => ⟨yset_n h, rfl⟩) ?_
  obtain ⟨τ0, hτ0⟩ : ∃ s, s = yset σ k 0 ((w + 1) / 2) := ⟨_, rfl⟩
  rw [← hτ0]
  have zA_τ0 := hA.fr (σ' := τ0) (fun c h1 h2 => by rw [hτ0, yset_n (by omega)])
  refine y_aload_n (pc := 12) hF dX4_becomeHalfOf_12 0 rfl ?_
  refine y_aload_n (pc := 13) hF dX4_becomeHalfOf_13 1 rfl ?_
  refine y_get (pc := 14) (ci := 4) hF dX4_becomeHalfOf_14 zo_n (ho.2 g).1 rfl rfl iX4 1 (by decide) w_214 rfl ?_
  rw [show τ0 o_ 1 = h from zA_τ0.2.2.1]
  refine y_iconst (pc := 17) hF dX4_becomeHalfOf_17 ?_
  refine y_iadd (pc := 18) hF dX4_becomeHalfOf_18 ?_
  refine y_iconst (pc := 19) hF dX4_becomeHalfOf_19 ?_
  refine y_idiv (pc := 20) hF dX4_becomeHalfOf_20 (by omega) (by omega) (by omega) ?_
  rw [show Int.tdiv (h + 1) 2 = (h + 1) / 2 from (y_quo (by omega))]
  refine y_putf (pc := 21) (ci := 4) (σ' := yset τ0 k 1 ((h + 1) / 2)) (sch' := (SC g)) hF dX4_becomeHalfOf_21 zkn (hP.2 g).1 rfl rfl iX4 1 (by decide) w_214 tyX4 tyX4_ok nmX4 rfl rfl rfl rfl (Nat.le_of_ble_eq_true rfl) (hP.2 g).1 ((congrArg (kPic g k) (yset_s _ _ _ _)).trans rfl) (fun k' h => ⟨yset_n h, rfl⟩) ?_
  obtain ⟨τ1, hτ1⟩ : ∃ s, s = yset τ0 k 1 ((h + 1) / 2) := ⟨_, rfl⟩
  rw [← hτ1]
  have zt1 : ∀ c : Nat, c ≠ k → τ1 c = σ c := fun c hc => by rw [hτ1, yset_n hc, hτ0, yset_n hc]
  have z10 : τ1 k 0 = ((w + 1) / 2) := by rw [hτ1, yset_o (by omega), hτ0, yset_e]
  have z11 : τ1 k 1 = ((h + 1) / 2) := by rw [hτ1, yset_e]
  refine y_iconst (pc := 24) hF dX4_becomeHalfOf_24 ?_
  refine y_istore_n (pc := 25) (lv' := [(0, yR g k), (1, yR g o_), (2, yI 0)]) hF dX4_becomeHalfOf_25 (by decide) rfl rfl ?_
  have zL26 : ∀ (N : Nat) (τ : yM) (i : Int), N = (((w + 1) / 2) * ((h + 1) / 2) - i).toNat → (fc k (k + 5) σ τ ∧ (0 ≤ i ∧ i ≤ ((w + 1) / 2) * ((h + 1) / 2)) ∧ (τ k 0 = ((w + 1) / 2) ∧ τ k 1 = ((h + 1) / 2)) ∧ rN τ k ((w + 1) / 2) (sHf w h T) i) → yV X0 g 3 (yQ X0 g (SC g) (yPv (fun n' σ' => n' = n ∧ fc k (k + 5) σ σ' ∧ rC σ' k ((w + 1) / 2) ((h + 1) / 2) (sHf w h T) (hS_ (sHf w h T)) (fun _ _ => 0) (fun _ _ => -1) (fun _ _ => -1))) (rmL 4)) (SC g) n τ 0 0 26 [(0, yR g k), (1, yR g o_), (2, yI i)] [] := by
    intro N
    induction N using Nat.strongRecOn with
    | ind N zh26 =>
      intro τ  i  zN26 zI26
      have zA_τ := hA.fc (by omega) zI26.1
      refine y_iload_n (pc := 26) hF dX4_becomeHalfOf_26 2 rfl ?_
      refine y_aload_n (pc := 27) hF dX4_becomeHalfOf_27 0 rfl ?_
      have zz28 := y_rV (pc := 28) hF (tX4_dots0 k ((w + 1) / 2) ((h + 1) / 2) hn hP zdd zI26.2.2.1.1 zI26.2.2.1.2 ) dX4_becomeHalfOf_28 zkn (hP.2 g).1 rfl rfl w_560 qX4_dots rfl ⟨Nat.le_of_ble_eq_true rfl, Nat.le_of_ble_eq_true rfl⟩ ⟨Nat.zero_le _, Nat.zero_le _⟩ (Nat.le_of_ble_eq_true rfl) rfl (rest := [yI i]) (cells := 0) (slots := 0) (lv := [(0, yR g k), (1, yR g o_), (2, yI i)])
      refine y_cp (zz28) ?_
      refine y_icmp_ge (pc := 31) hF dX4_becomeHalfOf_31 63 rfl (by omega) (by omega) (fun zc31 => ?_) (fun zc31 => ?_)
      · skip
        exact y_vret (pc := 63) hF dX4_becomeHalfOf_63 (Nat.zero_le _) (Nat.zero_le _) ⟨rfl, rfl, zI26.1, rN.mk zdd zhN zI26.2.2.1.1 zI26.2.2.1.2 (by have zq := zI26.2.2.2; rw [show i = ((w + 1) / 2) * ((h + 1) / 2) by omega] at zq; exact zq)⟩
      · skip
        have zde := y_de (h := ((h + 1) / 2)) (w := ((w + 1) / 2)) zdd.1.1 zI26.2.1.1 (by omega)
        have zri : -2147483648 ≤ i ∧ i < 2147483648 := by omega
        refine y_aload_n (pc := 34) hF dX4_becomeHalfOf_34 0 rfl ?_
        refine y_iload_n (pc := 35) hF dX4_becomeHalfOf_35 2 rfl ?_
        refine y_aload_n (pc := 36) hF dX4_becomeHalfOf_36 1 rfl ?_
        refine y_iconst (pc := 37) hF dX4_becomeHalfOf_37 ?_
        refine y_aload_n (pc := 38) hF dX4_becomeHalfOf_38 0 rfl ?_
        refine y_iload_n (pc := 39) hF dX4_becomeHalfOf_39 2 rfl ?_
        have zz40 := y_rV (pc := 40) hF (tX4_xOf0 k ((w + 1) / 2) ((h + 1) / 2) hn hP zdd zI26.2.2.1.1 zI26.2.2.1.2 i zri) dX4_becomeHalfOf_40 zkn (hP.2 g).1 rfl rfl w_829 qX4_xOf rfl ⟨Nat.le_of_ble_eq_true rfl, Nat.le_of_ble_eq_true rfl⟩ ⟨Nat.zero_le _, Nat.zero_le _⟩ (Nat.le_of_ble_eq_true rfl) rfl (rest := [yI 2, yR g o_, yI i, yR g k]) (cells := 0) (slots := 0) (lv := [(0, yR g k), (1, yR g o_), (2, yI i)])
        refine y_cp (zz40) ?_
        rw [show cx ((w + 1) / 2) i = i % ((w + 1) / 2) from (by unfold cx; rw [if_neg (by omega)])]
        refine y_imul (pc := 43) hF dX4_becomeHalfOf_43 ?_
        refine y_iconst (pc := 44) hF dX4_becomeHalfOf_44 ?_
        refine y_aload_n (pc := 45) hF dX4_becomeHalfOf_45 0 rfl ?_
        refine y_iload_n (pc := 46) hF dX4_becomeHalfOf_46 2 rfl ?_
        have zz47 := y_rV (pc := 47) hF (tX4_yOf0 k ((w + 1) / 2) ((h + 1) / 2) hn hP zdd zI26.2.2.1.1 zI26.2.2.1.2 i zri) dX4_becomeHalfOf_47 zkn (hP.2 g).1 rfl rfl w_833 qX4_yOf rfl ⟨Nat.le_of_ble_eq_true rfl, Nat.le_of_ble_eq_true rfl⟩ ⟨Nat.zero_le _, Nat.zero_le _⟩ (Nat.le_of_ble_eq_true rfl) rfl (rest := [yI 2, yI (2 * (i % ((w + 1) / 2))), yR g o_, yI i, yR g k]) (cells := 0) (slots := 0) (lv := [(0, yR g k), (1, yR g o_), (2, yI i)])
        refine y_cp (zz47) ?_
        rw [show cy ((w + 1) / 2) i = i / ((w + 1) / 2) from (by unfold cy; rw [if_neg (by omega)])]
        refine y_imul (pc := 50) hF dX4_becomeHalfOf_50 ?_
        have zz51 := y_rV (pc := 51) hF (tX4_meanOfFour o_ w h T S F P O hn ho zA_τ (2 * (i % ((w + 1) / 2))) (2 * (i / ((w + 1) / 2))) (by omega) (by omega)) dX4_becomeHalfOf_51 zo_n (ho.2 g).1 rfl rfl w_837 qX4_meanOfFour rfl ⟨Nat.le_of_ble_eq_true rfl, Nat.le_of_ble_eq_true rfl⟩ ⟨Nat.zero_le _, Nat.zero_le _⟩ (Nat.le_of_ble_eq_true rfl) rfl (rest := [yI i, yR g k]) (cells := 0) (slots := 0) (lv := [(0, yR g k), (1, yR g o_), (2, yI i)])
        refine y_cp (zz51) ?_
        rw [show (if (s4 w h T (2 * (i % ((w + 1) / 2))) (2 * (i / ((w + 1) / 2)))).2 = 0 then -1 else (s4 w h T (2 * (i % ((w + 1) / 2))) (2 * (i / ((w + 1) / 2)))).1.tdiv (s4 w h T (2 * (i % ((w + 1) / 2))) (2 * (i / ((w + 1) / 2)))).2) = sHf w h T (i % ((w + 1) / 2)) (i / ((w + 1) / 2)) from rfl]
        refine y_cv (y_rV (pc := 54) hF (tX4_give k hn hP i (sHf w h T (i % ((w + 1) / 2)) (i / ((w + 1) / 2))) (by omega) (zhN _ _ zde.2.1 zde.2.2.1 zde.2.2.2.1 zde.2.2.2.2)) dX4_becomeHalfOf_54 zkn (hP.2 g).1 rfl rfl w_709 qX4_give rfl ⟨Nat.le_of_ble_eq_true rfl, Nat.le_of_ble_eq_true rfl⟩ ⟨Nat.zero_le _, Nat.zero_le _⟩ (Nat.le_of_ble_eq_true rfl) rfl) rfl rfl (fun n' σ' zp54 => ?_)
        obtain ⟨zn54, rfl⟩ := zp54
        have zn54 := zn54.symm
        subst zn54
        refine y_iinc (pc := 57) (lv' := [(0, yR g k), (1, yR g o_), (2, yI (i + 1))]) hF dX4_becomeHalfOf_57 2 rfl (by decide) rfl rfl ?_
        refine y_goto (pc := 60) hF dX4_becomeHalfOf_60 26 rfl ?_
        exact zh26 _ (by omega) (gv τ k i (sHf w h T (i % ((w + 1) / 2)) (i / ((w + 1) / 2)))) (i + 1) rfl ⟨gv_fc zI26.1, by omega, ⟨by rw [gv_o (by omega)]; exact zI26.2.2.1.1, by rw [gv_o (by omega)]; exact zI26.2.2.1.2⟩, zI26.2.2.2.up⟩
  exact zL26 _ τ1 (0) rfl ⟨fun c hc => zt1 c (by omega), by omega, ⟨z10, z11⟩, fun q h0 h1 => by omega⟩

theorem dX4_load_0 : decode cX4_load 0 = .ok (.aload_n 0, 1) := by decide +kernel
theorem dX4_load_1 : decode cX4_load 1 = .ok (.iload_n 2, 1) := by decide +kernel
theorem dX4_load_2 : decode cX4_load 2 = .ok (.putfield 9, 3) := by decide +kernel
theorem dX4_load_5 : decode cX4_load 5 = .ok (.aload_n 0, 1) := by decide +kernel
theorem dX4_load_6 : decode cX4_load 6 = .ok (.iload_n 3, 1) := by decide +kernel
theorem dX4_load_7 : decode cX4_load 7 = .ok (.putfield 15, 3) := by decide +kernel
theorem dX4_load_10 : decode cX4_load 10 = .ok (.iconst 0, 1) := by decide +kernel
theorem dX4_load_11 : decode cX4_load 11 = .ok (.istore 4, 2) := by decide +kernel
theorem dX4_load_13 : decode cX4_load 13 = .ok (.iload 4, 2) := by decide +kernel
theorem dX4_load_15 : decode cX4_load 15 = .ok (.aload_n 0, 1) := by decide +kernel
theorem dX4_load_16 : decode cX4_load 16 = .ok (.invokevirtual 50, 3) := by decide +kernel
theorem dX4_load_19 : decode cX4_load 19 = .ok (.if_icmp .ge 19, 3) := by decide +kernel
theorem dX4_load_22 : decode cX4_load 22 = .ok (.aload_n 0, 1) := by decide +kernel
theorem dX4_load_23 : decode cX4_load 23 = .ok (.iload 4, 2) := by decide +kernel
theorem dX4_load_25 : decode cX4_load 25 = .ok (.aload_n 1, 1) := by decide +kernel
theorem dX4_load_26 : decode cX4_load 26 = .ok (.iload 4, 2) := by decide +kernel
theorem dX4_load_28 : decode cX4_load 28 = .ok (.iaload, 1) := by decide +kernel
theorem dX4_load_29 : decode cX4_load 29 = .ok (.invokevirtual 54, 3) := by decide +kernel
theorem dX4_load_32 : decode cX4_load 32 = .ok (.iinc 4 1, 3) := by decide +kernel
theorem dX4_load_35 : decode cX4_load 35 = .ok (.goto (-22), 3) := by decide +kernel
theorem dX4_load_38 : decode cX4_load 38 = .ok (.return_, 1) := by decide +kernel
set_option maxHeartbeats 4000000 in
set_option maxRecDepth 100000 in
theorem tX4_load {l : Launch} {g : yG} {n : Nat} {σ : yM} (k : Nat) (w h : Int) (N_ : Int → Int → Int) (hn : 172 ≤ n) (hP : isPic k) (hd : (1 ≤ w ∧ w ≤ 20) ∧ (1 ≤ h ∧ h ≤ 20)) (hk : 3 < k) (hN : ∀ q : Int, 0 ≤ q → q < w * h → σ 3 q = N_ (q % w) (q / w)) (hNr : ∀ x y : Int, 0 ≤ x → x < w → 0 ≤ y → y < h → -1 ≤ N_ x y ∧ N_ x y ≤ 255) : yMet l g yX4_load cX4_load 5 none (rmL 2) [yR g k, yR g 3, yI w, yI h] (SC g) n σ (SC g) (yPv (fun n' σ' => n' = n ∧ fc k (k + 5) σ σ' ∧ rC σ' k w h N_ (hS_ N_) (fun _ _ => 0) (fun _ _ => -1) (fun _ _ => -1))) := by
  have zkn : k < n := by have := hP.1; omega
  have zkn1 : k + 1 < n := by have := hP.1; omega
  have zkn2 : k + 2 < n := by have := hP.1; omega
  have zkn3 : k + 3 < n := by have := hP.1; omega
  have zkn4 : k + 4 < n := by have := hP.1; omega
  have zkn5 : k + 5 < n := by have := hP.1; omega
  have z3 : 3 < n := by omega
  have zwh := y_wh hd.1 hd.2
  refine y_start (by decide) (Nat.le_of_ble_eq_true rfl) (fun X0 hF => ?_)
  show yV X0 g 5 (yQ X0 g (SC g) (yPv (fun n' σ' => n' = n ∧ fc k (k + 5) σ σ' ∧ rC σ' k w h N_ (hS_ N_) (fun _ _ => 0) (fun _ _ => -1) (fun _ _ => -1))) (rmL 2)) (SC g) n σ 0 0 0 [(0, yR g k), (1, yR g 3), (2, yI w), (3, yI h)] []
  refine y_aload_n (pc := 0) hF dX4_load_0 0 rfl ?_
  refine y_iload_n (pc := 1) hF dX4_load_1 2 rfl ?_
  refine y_putf (pc := 2) (ci := 4) (σ' := yset σ k 0 w) (sch' := (SC g)) hF dX4_load_2 zkn (hP.2 g).1 rfl rfl iX4 0 (by decide) w_210 tyX4 tyX4_ok nmX4 rfl rfl rfl rfl (Nat.le_of_ble_eq_true rfl) (hP.2 g).1 ((congrArg (kPic g k) (yset_s _ _ _ _)).trans rfl) (fun k' h => ⟨yset_n h, rfl⟩) ?_
  obtain ⟨τ0, hτ0⟩ : ∃ s, s = yset σ k 0 w := ⟨_, rfl⟩
  rw [← hτ0]
  refine y_aload_n (pc := 5) hF dX4_load_5 0 rfl ?_
  refine y_iload_n (pc := 6) hF dX4_load_6 3 rfl ?_
  refine y_putf (pc := 7) (ci := 4) (σ' := yset τ0 k 1 h) (sch' := (SC g)) hF dX4_load_7 zkn (hP.2 g).1 rfl rfl iX4 1 (by decide) w_214 tyX4 tyX4_ok nmX4 rfl rfl rfl rfl (Nat.le_of_ble_eq_true rfl) (hP.2 g).1 ((congrArg (kPic g k) (yset_s _ _ _ _)).trans rfl) (fun k' h => ⟨yset_n h, rfl⟩) ?_
  obtain ⟨τ1, hτ1⟩ : ∃ s, s = yset τ0 k 1 h := ⟨_, rfl⟩
  rw [← hτ1]
  have zt1 : ∀ c : Nat, c ≠ k → τ1 c = σ c := fun c hc => by rw [hτ1, yset_n hc, hτ0, yset_n hc]
  have z10 : τ1 k 0 = w := by rw [hτ1, yset_o (by omega), hτ0, yset_e]
  have z11 : τ1 k 1 = h := by rw [hτ1, yset_e]
  refine y_iconst (pc := 10) hF dX4_load_10 ?_
  refine y_istore (pc := 11) (lv' := [(0, yR g k), (1, yR g 3), (2, yI w), (3, yI h), (4, yI 0)]) hF dX4_load_11 (by decide) rfl rfl ?_
  have zL13 : ∀ (N : Nat) (τ : yM) (i : Int), N = (w * h - i).toNat → (fc k (k + 5) σ τ ∧ (0 ≤ i ∧ i ≤ w * h) ∧ (τ k 0 = w ∧ τ k 1 = h) ∧ rN τ k w N_ i) → yV X0 g 5 (yQ X0 g (SC g) (yPv (fun n' σ' => n' = n ∧ fc k (k + 5) σ σ' ∧ rC σ' k w h N_ (hS_ N_) (fun _ _ => 0) (fun _ _ => -1) (fun _ _ => -1))) (rmL 2)) (SC g) n τ 0 0 13 [(0, yR g k), (1, yR g 3), (2, yI w), (3, yI h), (4, yI i)] [] := by
    intro N
    induction N using Nat.strongRecOn with
    | ind N zh13 =>
      intro τ  i  zN13 zI13
      refine y_iload (pc := 13) hF dX4_load_13 4 rfl ?_
      refine y_aload_n (pc := 15) hF dX4_load_15 0 rfl ?_
      have zz16 := y_rV (pc := 16) hF (tX4_dots0 k w h hn hP hd zI13.2.2.1.1 zI13.2.2.1.2 ) dX4_load_16 zkn (hP.2 g).1 rfl rfl w_560 qX4_dots rfl ⟨Nat.le_of_ble_eq_true rfl, Nat.le_of_ble_eq_true rfl⟩ ⟨Nat.zero_le _, Nat.zero_le _⟩ (Nat.le_of_ble_eq_true rfl) rfl (rest := [yI i]) (cells := 0) (slots := 0) (lv := [(0, yR g k), (1, yR g 3), (2, yI w), (3, yI h), (4, yI i)])
      refine y_cp (zz16) ?_
      refine y_icmp_ge (pc := 19) hF dX4_load_19 38 rfl (by omega) (by omega) (fun zc19 => ?_) (fun zc19 => ?_)
      · skip
        exact y_vret (pc := 38) hF dX4_load_38 (Nat.zero_le _) (Nat.zero_le _) ⟨rfl, rfl, zI13.1, rN.mk hd hNr zI13.2.2.1.1 zI13.2.2.1.2 (by have zq := zI13.2.2.2; rw [show i = w * h by omega] at zq; exact zq)⟩
      · skip
        have zde := y_de (h := h) (w := w) hd.1.1 zI13.2.1.1 (by omega)
        have zri : -2147483648 ≤ i ∧ i < 2147483648 := by omega
        refine y_aload_n (pc := 22) hF dX4_load_22 0 rfl ?_
        refine y_iload (pc := 23) hF dX4_load_23 4 rfl ?_
        refine y_aload_n (pc := 25) hF dX4_load_25 1 rfl ?_
        refine y_iload (pc := 26) hF dX4_load_26 4 rfl ?_
        refine y_iaload (pc := 28) hF dX4_load_28 z3 rfl ⟨by omega, by show _ < (400 : Int); omega⟩ (by decide) ?_
        rw [show τ 3 i = N_ (i % w) (i / w) from (by rw [zI13.1 3 (by omega)]; exact hN i zI13.2.1.1 (by omega))]
        refine y_cv (y_rV (pc := 29) hF (tX4_give k hn hP i (N_ (i % w) (i / w)) (by omega) (hNr _ _ zde.2.1 zde.2.2.1 zde.2.2.2.1 zde.2.2.2.2)) dX4_load_29 zkn (hP.2 g).1 rfl rfl w_709 qX4_give rfl ⟨Nat.le_of_ble_eq_true rfl, Nat.le_of_ble_eq_true rfl⟩ ⟨Nat.zero_le _, Nat.zero_le _⟩ (Nat.le_of_ble_eq_true rfl) rfl) rfl rfl (fun n' σ' zp29 => ?_)
        obtain ⟨zn29, rfl⟩ := zp29
        have zn29 := zn29.symm
        subst zn29
        refine y_iinc (pc := 32) (lv' := [(0, yR g k), (1, yR g 3), (2, yI w), (3, yI h), (4, yI (i + 1))]) hF dX4_load_32 4 rfl (by decide) rfl rfl ?_
        refine y_goto (pc := 35) hF dX4_load_35 13 rfl ?_
        exact zh13 _ (by omega) (gv τ k i (N_ (i % w) (i / w))) (i + 1) rfl ⟨gv_fc zI13.1, by omega, ⟨by rw [gv_o (by omega)]; exact zI13.2.2.1.1, by rw [gv_o (by omega)]; exact zI13.2.2.1.2⟩, zI13.2.2.2.up⟩
  exact zL13 _ τ1 (0) rfl ⟨fun c hc => zt1 c (by omega), by omega, ⟨z10, z11⟩, fun q h0 h1 => by omega⟩

theorem dX5_placeOf_0 : decode cX5_placeOf 0 = .ok (.iconst 0, 1) := by decide +kernel
theorem dX5_placeOf_1 : decode cX5_placeOf 1 = .ok (.istore_n 2, 1) := by decide +kernel
theorem dX5_placeOf_2 : decode cX5_placeOf 2 = .ok (.iload_n 2, 1) := by decide +kernel
theorem dX5_placeOf_3 : decode cX5_placeOf 3 = .ok (.aload_n 0, 1) := by decide +kernel
theorem dX5_placeOf_4 : decode cX5_placeOf 4 = .ok (.getfield 40, 3) := by decide +kernel
theorem dX5_placeOf_7 : decode cX5_placeOf 7 = .ok (.if_icmp .ge 77, 3) := by decide +kernel
theorem dX5_placeOf_10 : decode cX5_placeOf 10 = .ok (.iconst 0, 1) := by decide +kernel
theorem dX5_placeOf_11 : decode cX5_placeOf 11 = .ok (.istore_n 3, 1) := by decide +kernel
theorem dX5_placeOf_12 : decode cX5_placeOf 12 = .ok (.iconst 0, 1) := by decide +kernel
theorem dX5_placeOf_13 : decode cX5_placeOf 13 = .ok (.istore 4, 2) := by decide +kernel
theorem dX5_placeOf_15 : decode cX5_placeOf 15 = .ok (.iload 4, 2) := by decide +kernel
theorem dX5_placeOf_17 : decode cX5_placeOf 17 = .ok (.aload_n 0, 1) := by decide +kernel
theorem dX5_placeOf_18 : decode cX5_placeOf 18 = .ok (.getfield 40, 3) := by decide +kernel
theorem dX5_placeOf_21 : decode cX5_placeOf 21 = .ok (.if_icmp .ge 50, 3) := by decide +kernel
theorem dX5_placeOf_24 : decode cX5_placeOf 24 = .ok (.aload_n 0, 1) := by decide +kernel
theorem dX5_placeOf_25 : decode cX5_placeOf 25 = .ok (.getfield 37, 3) := by decide +kernel
theorem dX5_placeOf_28 : decode cX5_placeOf 28 = .ok (.iload 4, 2) := by decide +kernel
theorem dX5_placeOf_30 : decode cX5_placeOf 30 = .ok (.iaload, 1) := by decide +kernel
theorem dX5_placeOf_31 : decode cX5_placeOf 31 = .ok (.aload_n 0, 1) := by decide +kernel
theorem dX5_placeOf_32 : decode cX5_placeOf 32 = .ok (.getfield 37, 3) := by decide +kernel
theorem dX5_placeOf_35 : decode cX5_placeOf 35 = .ok (.iload_n 2, 1) := by decide +kernel
theorem dX5_placeOf_36 : decode cX5_placeOf 36 = .ok (.iaload, 1) := by decide +kernel
theorem dX5_placeOf_37 : decode cX5_placeOf 37 = .ok (.if_icmp .gt 25, 3) := by decide +kernel
theorem dX5_placeOf_40 : decode cX5_placeOf 40 = .ok (.aload_n 0, 1) := by decide +kernel
theorem dX5_placeOf_41 : decode cX5_placeOf 41 = .ok (.getfield 37, 3) := by decide +kernel
theorem dX5_placeOf_44 : decode cX5_placeOf 44 = .ok (.iload 4, 2) := by decide +kernel
theorem dX5_placeOf_46 : decode cX5_placeOf 46 = .ok (.iaload, 1) := by decide +kernel
theorem dX5_placeOf_47 : decode cX5_placeOf 47 = .ok (.aload_n 0, 1) := by decide +kernel
theorem dX5_placeOf_48 : decode cX5_placeOf 48 = .ok (.getfield 37, 3) := by decide +kernel
theorem dX5_placeOf_51 : decode cX5_placeOf 51 = .ok (.iload_n 2, 1) := by decide +kernel
theorem dX5_placeOf_52 : decode cX5_placeOf 52 = .ok (.iaload, 1) := by decide +kernel
theorem dX5_placeOf_53 : decode cX5_placeOf 53 = .ok (.if_icmp .ne 12, 3) := by decide +kernel
theorem dX5_placeOf_56 : decode cX5_placeOf 56 = .ok (.iload 4, 2) := by decide +kernel
theorem dX5_placeOf_58 : decode cX5_placeOf 58 = .ok (.iload_n 2, 1) := by decide +kernel
theorem dX5_placeOf_59 : decode cX5_placeOf 59 = .ok (.if_icmp .ge 6, 3) := by decide +kernel
theorem dX5_placeOf_62 : decode cX5_placeOf 62 = .ok (.iinc 3 1, 3) := by decide +kernel
theorem dX5_placeOf_65 : decode cX5_placeOf 65 = .ok (.iinc 4 1, 3) := by decide +kernel
theorem dX5_placeOf_68 : decode cX5_placeOf 68 = .ok (.goto (-53), 3) := by decide +kernel
theorem dX5_placeOf_71 : decode cX5_placeOf 71 = .ok (.iload_n 3, 1) := by decide +kernel
theorem dX5_placeOf_72 : decode cX5_placeOf 72 = .ok (.iload_n 1, 1) := by decide +kernel
theorem dX5_placeOf_73 : decode cX5_placeOf 73 = .ok (.if_icmp .ne 5, 3) := by decide +kernel
theorem dX5_placeOf_76 : decode cX5_placeOf 76 = .ok (.iload_n 2, 1) := by decide +kernel
theorem dX5_placeOf_77 : decode cX5_placeOf 77 = .ok (.ireturn, 1) := by decide +kernel
theorem dX5_placeOf_78 : decode cX5_placeOf 78 = .ok (.iinc 2 1, 3) := by decide +kernel
theorem dX5_placeOf_81 : decode cX5_placeOf 81 = .ok (.goto (-79), 3) := by decide +kernel
theorem dX5_placeOf_84 : decode cX5_placeOf 84 = .ok (.iconst (-1), 1) := by decide +kernel
theorem dX5_placeOf_85 : decode cX5_placeOf 85 = .ok (.ireturn, 1) := by decide +kernel
set_option maxHeartbeats 4000000 in
set_option maxRecDepth 100000 in
theorem tX5_placeOf {l : Launch} {g : yG} {n : Nat} {σ : yM} (L : List (Int × Int)) (hn : 172 ≤ n) (hF0 : rF σ L) (hr0 : ∀ i : Int, 0 ≤ i → i < L.length → -2147483648 ≤ (gk L i).2 ∧ (gk L i).2 < 2147483648) (k : Int) (hk : -2147483648 ≤ k ∧ k < 2147483648) : yMet l g yX5_placeOf cX5_placeOf 5 (some .int) (rmL 1) [yR g 120, yI k] (SC g) n σ (SC g) (yPp (sPo L k) n σ) := by
  have z120 : 120 < n := by omega
  have z122 : 122 < n := by omega
  have zln := hF0.2.1
  refine y_start (by decide) (Nat.le_of_ble_eq_true rfl) (fun X0 hF => ?_)
  show yV X0 g 5 (yQ X0 g (SC g) (yPp (sPo L k) n σ) (rmL 1)) (SC g) n σ 0 0 0 [(0, yR g 120), (1, yI k)] []
  refine y_iconst (pc := 0) hF dX5_placeOf_0 ?_
  refine y_istore_n (pc := 1) (lv' := [(0, yR g 120), (1, yI k), (2, yI 0)]) hF dX5_placeOf_1 (by decide) rfl rfl ?_
  have zL2 : ∀ (N : Nat) (i : Int), N = ((L.length : Int) - i).toNat → ((0 ≤ i ∧ i ≤ L.length) ∧ fr (plF L k) 0 i.toNat (-1) = -1) → yV X0 g 5 (yQ X0 g (SC g) (yPp (sPo L k) n σ) (rmL 1)) (SC g) n σ 0 0 2 [(0, yR g 120), (1, yI k), (2, yI i)] [] := by
    intro N
    induction N using Nat.strongRecOn with
    | ind N zh2 =>
      intro i  zN2 zI2
      refine y_iload_n (pc := 2) hF dX5_placeOf_2 2 rfl ?_
      refine y_aload_n (pc := 3) hF dX5_placeOf_3 0 rfl ?_
      refine y_get (pc := 4) (ci := 5) hF dX5_placeOf_4 z120 rfl rfl rfl iX5 9 (by decide) w_333 rfl ?_
      rw [show σ 120 9 = (L.length : Int) from hF0.1]
      refine y_icmp_ge (pc := 7) hF dX5_placeOf_7 84 rfl (by omega) (by omega) (fun zc7 => ?_) (fun zc7 => ?_)
      · skip
        refine y_iconst (pc := 84) hF dX5_placeOf_84 ?_
        exact y_iret (pc := 85) hF dX5_placeOf_85 (Nat.zero_le _) (Nat.zero_le _) ⟨_, rfl, by unfold sPo; rw [show L.length = i.toNat by omega]; exact zI2.2.symm, rfl, rfl⟩
      · skip
        refine y_iconst (pc := 10) hF dX5_placeOf_10 ?_
        refine y_istore_n (pc := 11) (lv' := [(0, yR g 120), (1, yI k), (2, yI i), (3, yI 0)]) hF dX5_placeOf_11 (by decide) rfl rfl ?_
        refine y_iconst (pc := 12) hF dX5_placeOf_12 ?_
        refine y_istore (pc := 13) (lv' := [(0, yR g 120), (1, yI k), (2, yI i), (3, yI 0), (4, yI 0)]) hF dX5_placeOf_13 (by decide) rfl rfl ?_
        have zL15 : ∀ (N : Nat) (j c : Int), N = ((L.length : Int) - j).toNat → ((0 ≤ j ∧ j ≤ L.length) ∧ c = fr (fun c j => c + bi (ahF L i j)) 0 j.toNat 0) → yV X0 g 5 (yQ X0 g (SC g) (yPp (sPo L k) n σ) (rmL 1)) (SC g) n σ 0 0 15 [(0, yR g 120), (1, yI k), (2, yI i), (3, yI c), (4, yI j)] [] := by
          intro N
          induction N using Nat.strongRecOn with
          | ind N zh15 =>
            intro j c  zN15 zI15
            have zcb : 0 ≤ c ∧ c ≤ j := by rw [zI15.2]; have := fr_ix (f := fun c j => c + bi (ahF L i j)) (a := 0) (fun m (c : Int) => 0 ≤ c ∧ c ≤ (m : Int)) (n := j.toNat) (s := 0) (by simp) (fun m c _ hc => by have := bi_bd (ahF L i (0 + (m : Int))); omega); omega
            refine y_iload (pc := 15) hF dX5_placeOf_15 4 rfl ?_
            refine y_aload_n (pc := 17) hF dX5_placeOf_17 0 rfl ?_
            refine y_get (pc := 18) (ci := 5) hF dX5_placeOf_18 z120 rfl rfl rfl iX5 9 (by decide) w_333 rfl ?_
            rw [show σ 120 9 = (L.length : Int) from hF0.1]
            refine y_icmp_ge (pc := 21) hF dX5_placeOf_21 71 rfl (by omega) (by omega) (fun zc21 => ?_) (fun zc21 => ?_)
            · skip
              have zca : c = sAh L i := by rw [zI15.2]; unfold sAh; congr 1; omega
              refine y_iload_n (pc := 71) hF dX5_placeOf_71 3 rfl ?_
              refine y_iload_n (pc := 72) hF dX5_placeOf_72 1 rfl ?_
              refine y_icmp_ne (pc := 73) hF dX5_placeOf_73 78 rfl (by omega) hk (fun zc73 => ?_) (fun zc73 => ?_)
              · skip
                refine y_iinc (pc := 78) (lv' := [(0, yR g 120), (1, yI k), (2, yI (i + 1)), (3, yI c), (4, yI j)]) hF dX5_placeOf_78 2 rfl (by decide) rfl rfl ?_
                refine y_goto (pc := 81) hF dX5_placeOf_81 2 rfl ?_
                refine y_sub [0, 1, 2] rfl ?_
                exact zh2 _ (by omega) (i + 1) rfl ⟨by omega, by rw [fr_up _ _ _ _ zI2.1.1, zI2.2, Int.zero_add]; unfold plF; rw [if_neg (fun ze => zc73 (zca.trans ze.2))]⟩
              · skip
                refine y_iload_n (pc := 76) hF dX5_placeOf_76 2 rfl ?_
                exact y_iret (pc := 77) hF dX5_placeOf_77 (Nat.zero_le _) (Nat.zero_le _) ⟨_, rfl, by unfold sPo; have zq : fr (plF L k) 0 (i + 1).toNat (-1) = i := (by rw [fr_up _ _ _ _ zI2.1.1, zI2.2, Int.zero_add]; unfold plF; rw [if_pos ⟨rfl, by rw [← zca]; exact zc73⟩]); exact (fr_stop (show (i + 1).toNat ≤ L.length by omega) zq (fun q => by unfold plF; rw [if_neg (by omega)])).symm, rfl, rfl⟩
            · skip
              have zg1 := hr0 j (by omega) (by omega)
              have zg2 := hr0 i (by omega) (by omega)
              have zj0 : 0 ≤ j ∧ j < (400 : Int) := by omega
              have zi0 : 0 ≤ i ∧ i < (400 : Int) := by omega
              refine y_aload_n (pc := 24) hF dX5_placeOf_24 0 rfl ?_
              refine y_get (pc := 25) (ci := 5) hF dX5_placeOf_25 z120 rfl rfl rfl iX5 8 (by decide) w_331 rfl ?_
              refine y_iload (pc := 28) hF dX5_placeOf_28 4 rfl ?_
              refine y_iaload (pc := 30) hF dX5_placeOf_30 z122 rfl zj0 (by decide) ?_
              rw [show σ 122 j = (gk L j).2 from (hF0.2.2 j (by omega) (by omega)).2]
              refine y_aload_n (pc := 31) hF dX5_placeOf_31 0 rfl ?_
              refine y_get (pc := 32) (ci := 5) hF dX5_placeOf_32 z120 rfl rfl rfl iX5 8 (by decide) w_331 rfl ?_
              refine y_iload_n (pc := 35) hF dX5_placeOf_35 2 rfl ?_
              refine y_iaload (pc := 36) hF dX5_placeOf_36 z122 rfl zi0 (by decide) ?_
              rw [show σ 122 i = (gk L i).2 from (hF0.2.2 i (by omega) (by omega)).2]
              refine y_icmp_gt (pc := 37) hF dX5_placeOf_37 62 rfl zg1 zg2 (fun zc37 => ?_) (fun zc37 => ?_)
              · skip
                refine y_iinc (pc := 62) (lv' := [(0, yR g 120), (1, yI k), (2, yI i), (3, yI (c + 1)), (4, yI j)]) hF dX5_placeOf_62 3 rfl (by decide) rfl rfl ?_
                refine y_iinc (pc := 65) (lv' := [(0, yR g 120), (1, yI k), (2, yI i), (3, yI (c + 1)), (4, yI (j + 1))]) hF dX5_placeOf_65 4 rfl (by decide) rfl rfl ?_
                refine y_goto (pc := 68) hF dX5_placeOf_68 15 rfl ?_
                exact zh15 _ (by omega) (j + 1) (c + 1) rfl ⟨by omega, by rw [fr_up _ _ _ _ zI15.1.1, ← zI15.2, Int.zero_add]; rw [show ahF L i j = true by simp only [ahF, Bool.or_eq_true, Bool.and_eq_true, decide_eq_true_eq]; omega]; rfl⟩
              · skip
                refine y_aload_n (pc := 40) hF dX5_placeOf_40 0 rfl ?_
                refine y_get (pc := 41) (ci := 5) hF dX5_placeOf_41 z120 rfl rfl rfl iX5 8 (by decide) w_331 rfl ?_
                refine y_iload (pc := 44) hF dX5_placeOf_44 4 rfl ?_
                refine y_iaload (pc := 46) hF dX5_placeOf_46 z122 rfl zj0 (by decide) ?_
                rw [show σ 122 j = (gk L j).2 from (hF0.2.2 j (by omega) (by omega)).2]
                refine y_aload_n (pc := 47) hF dX5_placeOf_47 0 rfl ?_
                refine y_get (pc := 48) (ci := 5) hF dX5_placeOf_48 z120 rfl rfl rfl iX5 8 (by decide) w_331 rfl ?_
                refine y_iload_n (pc := 51) hF dX5_placeOf_51 2 rfl ?_
                refine y_iaload (pc := 52) hF dX5_placeOf_52 z122 rfl zi0 (by decide) ?_
                rw [show σ 122 i = (gk L i).2 from (hF0.2.2 i (by omega) (by omega)).2]
                refine y_icmp_ne (pc := 53) hF dX5_placeOf_53 65 rfl zg1 zg2 (fun zc53 => ?_) (fun zc53 => ?_)
                · skip
                  refine y_iinc (pc := 65) (lv' := [(0, yR g 120), (1, yI k), (2, yI i), (3, yI c), (4, yI (j + 1))]) hF dX5_placeOf_65 4 rfl (by decide) rfl rfl ?_
                  refine y_goto (pc := 68) hF dX5_placeOf_68 15 rfl ?_
                  exact zh15 _ (by omega) (j + 1) (c) rfl ⟨by omega, by rw [fr_up _ _ _ _ zI15.1.1, ← zI15.2, Int.zero_add]; rw [show ahF L i j = false by rw [Bool.eq_false_iff]; simp only [ahF, ne_eq, Bool.or_eq_true, Bool.and_eq_true, decide_eq_true_eq]; omega]; simp [bi]⟩
                · skip
                  refine y_iload (pc := 56) hF dX5_placeOf_56 4 rfl ?_
                  refine y_iload_n (pc := 58) hF dX5_placeOf_58 2 rfl ?_
                  refine y_icmp_ge (pc := 59) hF dX5_placeOf_59 65 rfl (by omega) (by omega) (fun zc59 => ?_) (fun zc59 => ?_)
                  · skip
                    refine y_iinc (pc := 65) (lv' := [(0, yR g 120), (1, yI k), (2, yI i), (3, yI c), (4, yI (j + 1))]) hF dX5_placeOf_65 4 rfl (by decide) rfl rfl ?_
                    refine y_goto (pc := 68) hF dX5_placeOf_68 15 rfl ?_
                    exact zh15 _ (by omega) (j + 1) (c) rfl ⟨by omega, by rw [fr_up _ _ _ _ zI15.1.1, ← zI15.2, Int.zero_add]; rw [show ahF L i j = false by rw [Bool.eq_false_iff]; simp only [ahF, ne_eq, Bool.or_eq_true, Bool.and_eq_true, decide_eq_true_eq]; omega]; simp [bi]⟩
                  · skip
                    refine y_iinc (pc := 62) (lv' := [(0, yR g 120), (1, yI k), (2, yI i), (3, yI (c + 1)), (4, yI j)]) hF dX5_placeOf_62 3 rfl (by decide) rfl rfl ?_
                    refine y_iinc (pc := 65) (lv' := [(0, yR g 120), (1, yI k), (2, yI i), (3, yI (c + 1)), (4, yI (j + 1))]) hF dX5_placeOf_65 4 rfl (by decide) rfl rfl ?_
                    refine y_goto (pc := 68) hF dX5_placeOf_68 15 rfl ?_
                    exact zh15 _ (by omega) (j + 1) (c + 1) rfl ⟨by omega, by rw [fr_up _ _ _ _ zI15.1.1, ← zI15.2, Int.zero_add]; rw [show ahF L i j = true by simp only [ahF, Bool.or_eq_true, Bool.and_eq_true, decide_eq_true_eq]; omega]; rfl⟩
        exact zL15 _ (0) (0) rfl ⟨by omega, rfl⟩
  exact zL2 _ (0) rfl ⟨by omega, rfl⟩

theorem dX6_leastReachOfAny_0 : decode cX6_leastReachOfAny 0 = .ok (.iconst (-1), 1) := by decide +kernel
theorem dX6_leastReachOfAny_1 : decode cX6_leastReachOfAny 1 = .ok (.istore_n 1, 1) := by decide +kernel
theorem dX6_leastReachOfAny_2 : decode cX6_leastReachOfAny 2 = .ok (.iconst 0, 1) := by decide +kernel
theorem dX6_leastReachOfAny_3 : decode cX6_leastReachOfAny 3 = .ok (.istore_n 2, 1) := by decide +kernel
theorem dX6_leastReachOfAny_4 : decode cX6_leastReachOfAny 4 = .ok (.iload_n 2, 1) := by decide +kernel
theorem dX6_leastReachOfAny_5 : decode cX6_leastReachOfAny 5 = .ok (.aload_n 0, 1) := by decide +kernel
theorem dX6_leastReachOfAny_6 : decode cX6_leastReachOfAny 6 = .ok (.getfield 68, 3) := by decide +kernel
theorem dX6_leastReachOfAny_9 : decode cX6_leastReachOfAny 9 = .ok (.invokevirtual 185, 3) := by decide +kernel
theorem dX6_leastReachOfAny_12 : decode cX6_leastReachOfAny 12 = .ok (.if_icmp .ge 52, 3) := by decide +kernel
theorem dX6_leastReachOfAny_15 : decode cX6_leastReachOfAny 15 = .ok (.aload_n 0, 1) := by decide +kernel
theorem dX6_leastReachOfAny_16 : decode cX6_leastReachOfAny 16 = .ok (.aload_n 0, 1) := by decide +kernel
theorem dX6_leastReachOfAny_17 : decode cX6_leastReachOfAny 17 = .ok (.getfield 68, 3) := by decide +kernel
theorem dX6_leastReachOfAny_20 : decode cX6_leastReachOfAny 20 = .ok (.iload_n 2, 1) := by decide +kernel
theorem dX6_leastReachOfAny_21 : decode cX6_leastReachOfAny 21 = .ok (.invokevirtual 153, 3) := by decide +kernel
theorem dX6_leastReachOfAny_24 : decode cX6_leastReachOfAny 24 = .ok (.aload_n 0, 1) := by decide +kernel
theorem dX6_leastReachOfAny_25 : decode cX6_leastReachOfAny 25 = .ok (.getfield 68, 3) := by decide +kernel
theorem dX6_leastReachOfAny_28 : decode cX6_leastReachOfAny 28 = .ok (.iload_n 2, 1) := by decide +kernel
theorem dX6_leastReachOfAny_29 : decode cX6_leastReachOfAny 29 = .ok (.invokevirtual 156, 3) := by decide +kernel
theorem dX6_leastReachOfAny_32 : decode cX6_leastReachOfAny 32 = .ok (.invokevirtual 168, 3) := by decide +kernel
theorem dX6_leastReachOfAny_35 : decode cX6_leastReachOfAny 35 = .ok (.ifCond .eq 23, 3) := by decide +kernel
theorem dX6_leastReachOfAny_38 : decode cX6_leastReachOfAny 38 = .ok (.iload_n 1, 1) := by decide +kernel
theorem dX6_leastReachOfAny_39 : decode cX6_leastReachOfAny 39 = .ok (.iconst (-1), 1) := by decide +kernel
theorem dX6_leastReachOfAny_40 : decode cX6_leastReachOfAny 40 = .ok (.if_icmp .eq 12, 3) := by decide +kernel
theorem dX6_leastReachOfAny_43 : decode cX6_leastReachOfAny 43 = .ok (.aload_n 0, 1) := by decide +kernel
theorem dX6_leastReachOfAny_44 : decode cX6_leastReachOfAny 44 = .ok (.iload_n 2, 1) := by decide +kernel
theorem dX6_leastReachOfAny_45 : decode cX6_leastReachOfAny 45 = .ok (.invokevirtual 189, 3) := by decide +kernel
theorem dX6_leastReachOfAny_48 : decode cX6_leastReachOfAny 48 = .ok (.iload_n 1, 1) := by decide +kernel
theorem dX6_leastReachOfAny_49 : decode cX6_leastReachOfAny 49 = .ok (.if_icmp .ge 9, 3) := by decide +kernel
theorem dX6_leastReachOfAny_52 : decode cX6_leastReachOfAny 52 = .ok (.aload_n 0, 1) := by decide +kernel
theorem dX6_leastReachOfAny_53 : decode cX6_leastReachOfAny 53 = .ok (.iload_n 2, 1) := by decide +kernel
theorem dX6_leastReachOfAny_54 : decode cX6_leastReachOfAny 54 = .ok (.invokevirtual 189, 3) := by decide +kernel
theorem dX6_leastReachOfAny_57 : decode cX6_leastReachOfAny 57 = .ok (.istore_n 1, 1) := by decide +kernel
theorem dX6_leastReachOfAny_58 : decode cX6_leastReachOfAny 58 = .ok (.iinc 2 1, 3) := by decide +kernel
theorem dX6_leastReachOfAny_61 : decode cX6_leastReachOfAny 61 = .ok (.goto (-57), 3) := by decide +kernel
theorem dX6_leastReachOfAny_64 : decode cX6_leastReachOfAny 64 = .ok (.iload_n 1, 1) := by decide +kernel
theorem dX6_leastReachOfAny_65 : decode cX6_leastReachOfAny 65 = .ok (.ireturn, 1) := by decide +kernel
set_option maxHeartbeats 4000000 in
set_option maxRecDepth 100000 in
theorem tX6_leastReachOfAny {l : Launch} {g : yG} {n : Nat} {σ : yM} (k cs : Nat) (w h : Int) (T S F P O : Int → Int → Int) (s re fo ra tu we sh : Int) (hn : 172 ≤ n) (hP : isPic k) (hcs : isSet cs) (hA : rC σ k w h T S F P O) (hS : rS σ cs s re fo ra tu we sh) (hk : k + 5 < 120 ∨ 130 < k) (hc2 : cs < 120 ∨ 130 < cs) (ax ay : Int) (hB : rA σ k cs ax ay) (hU : rU σ w h T F fo) (hax : 0 ≤ ax ∧ ax < 20) (hay : 0 ≤ ay ∧ ay < 20) : yMet l g yX6_leastReachOfAny cX6_leastReachOfAny 3 (some .int) (rmL 3) [yR g 123] (SC g) n σ (SC g) (yPp (sLr w h T F s fo ax ay) n σ) := by
  obtain ⟨hw1, hw2, hw3, hw4⟩ := id hA.1.1
  obtain ⟨hs1, hs2, hs3, hs4, hs5, hs6, hs7⟩ := id hS.2
  have zwh := y_wh ⟨hw1, hw2⟩ ⟨hw3, hw4⟩
  have zkn : k < n := by have := hP.1; omega
  have zcsn : cs < n := by have := hcs.1; omega
  have z123 : 123 < n := by omega
  have z124 : 124 < n := by omega
  have z125 : 125 < n := by omega
  have z126 : 126 < n := by omega
  have z127 : 127 < n := by omega
  have zkn1 : k + 1 < n := by have := hP.1; omega
  have zkn2 : k + 2 < n := by have := hP.1; omega
  have zkn3 : k + 3 < n := by have := hP.1; omega
  have zkn4 : k + 4 < n := by have := hP.1; omega
  have zkn5 : k + 5 < n := by have := hP.1; omega
  refine y_start (by decide) (Nat.le_of_ble_eq_true rfl) (fun X0 hF => ?_)
  show yV X0 g 3 (yQ X0 g (SC g) (yPp (sLr w h T F s fo ax ay) n σ) (rmL 3)) (SC g) n σ 0 0 0 [(0, yR g 123)] []
  refine y_iconst (pc := 0) hF dX6_leastReachOfAny_0 ?_
  refine y_istore_n (pc := 1) (lv' := [(0, yR g 123), (1, yI (-1))]) hF dX6_leastReachOfAny_1 (by decide) rfl rfl ?_
  refine y_iconst (pc := 2) hF dX6_leastReachOfAny_2 ?_
  refine y_istore_n (pc := 3) (lv' := [(0, yR g 123), (1, yI (-1)), (2, yI 0)]) hF dX6_leastReachOfAny_3 (by decide) rfl rfl ?_
  have zL4 : ∀ (N : Nat) (q l_ : Int), N = (w * h - q).toNat → ((0 ≤ q ∧ q ≤ w * h) ∧ (-1 ≤ l_ ∧ l_ ≤ 100) ∧ l_ = fr (lrF w h T F s fo ax ay) 0 q.toNat (-1)) → yV X0 g 3 (yQ X0 g (SC g) (yPp (sLr w h T F s fo ax ay) n σ) (rmL 3)) (SC g) n σ 0 0 4 [(0, yR g 123), (1, yI l_), (2, yI q)] [] := by
    intro N
    induction N using Nat.strongRecOn with
    | ind N zh4 =>
      intro q l_  zN4 zI4
      refine y_iload_n (pc := 4) hF dX6_leastReachOfAny_4 2 rfl ?_
      refine y_aload_n (pc := 5) hF dX6_leastReachOfAny_5 0 rfl ?_
      refine y_get (pc := 6) (ci := 6) hF dX6_leastReachOfAny_6 z123 rfl rfl rfl iX6 0 (by decide) w_361 rfl ?_
      rw [show (σ 123 0).toNat = k from hB.k]
      have zz9 := y_rV (pc := 9) hF (tX4_dots k w h T S F P O hn hP hA) dX6_leastReachOfAny_9 zkn (hP.2 g).1 rfl rfl w_1178 qX4_dots rfl ⟨Nat.le_of_ble_eq_true rfl, Nat.le_of_ble_eq_true rfl⟩ ⟨Nat.zero_le _, Nat.zero_le _⟩ (Nat.le_of_ble_eq_true rfl) rfl (rest := [yI q]) (cells := 0) (slots := 0) (lv := [(0, yR g 123), (1, yI l_), (2, yI q)])
      refine y_cp (zz9) ?_
      refine y_icmp_ge (pc := 12) hF dX6_leastReachOfAny_12 64 rfl (by omega) (by omega) (fun zc12 => ?_) (fun zc12 => ?_)
      · skip
        refine y_iload_n (pc := 64) hF dX6_leastReachOfAny_64 1 rfl ?_
        exact y_iret (pc := 65) hF dX6_leastReachOfAny_65 (Nat.zero_le _) (Nat.zero_le _) ⟨_, rfl, by rw [zI4.2.2]; unfold sLr; congr 1; omega, rfl, rfl⟩
      · skip
        have zd := y_de (h := h) hw1 zI4.1.1 (by omega)
        have zri : -2147483648 ≤ q ∧ q < 2147483648 := by omega
        have zrt : 1 ≤ rTo w ax ay q ∧ rTo w ax ay q ≤ 20 := by unfold rTo; omega
        have zrd : rTo w ax ay q = max 1 (max ((q % w - ax).natAbs : Int) ((q / w - ay).natAbs : Int)) := rfl
        refine y_aload_n (pc := 15) hF dX6_leastReachOfAny_15 0 rfl ?_
        refine y_aload_n (pc := 16) hF dX6_leastReachOfAny_16 0 rfl ?_
        refine y_get (pc := 17) (ci := 6) hF dX6_leastReachOfAny_17 z123 rfl rfl rfl iX6 0 (by decide) w_361 rfl ?_
        rw [show (σ 123 0).toNat = k from hB.k]
        refine y_iload_n (pc := 20) hF dX6_leastReachOfAny_20 2 rfl ?_
        have zz21 := y_rV (pc := 21) hF (tX4_xOf k w h T S F P O hn hP hA q zri) dX6_leastReachOfAny_21 zkn (hP.2 g).1 rfl rfl w_924 qX4_xOf rfl ⟨Nat.le_of_ble_eq_true rfl, Nat.le_of_ble_eq_true rfl⟩ ⟨Nat.zero_le _, Nat.zero_le _⟩ (Nat.le_of_ble_eq_true rfl) rfl (rest := [yR g 123]) (cells := 0) (slots := 0) (lv := [(0, yR g 123), (1, yI l_), (2, yI q)])
        refine y_cp (zz21) ?_
        rw [show cx w q = q % w from (by unfold cx; rw [if_neg (by omega)])]
        refine y_aload_n (pc := 24) hF dX6_leastReachOfAny_24 0 rfl ?_
        refine y_get (pc := 25) (ci := 6) hF dX6_leastReachOfAny_25 z123 rfl rfl rfl iX6 0 (by decide) w_361 rfl ?_
        rw [show (σ 123 0).toNat = k from hB.k]
        refine y_iload_n (pc := 28) hF dX6_leastReachOfAny_28 2 rfl ?_
        have zz29 := y_rV (pc := 29) hF (tX4_yOf k w h T S F P O hn hP hA q zri) dX6_leastReachOfAny_29 zkn (hP.2 g).1 rfl rfl w_925 qX4_yOf rfl ⟨Nat.le_of_ble_eq_true rfl, Nat.le_of_ble_eq_true rfl⟩ ⟨Nat.zero_le _, Nat.zero_le _⟩ (Nat.le_of_ble_eq_true rfl) rfl (rest := [yI (q % w), yR g 123]) (cells := 0) (slots := 0) (lv := [(0, yR g 123), (1, yI l_), (2, yI q)])
        refine y_cp (zz29) ?_
        rw [show cy w q = q / w from (by unfold cy; rw [if_neg (by omega)])]
        have zz32 := y_rV (pc := 32) hF (tX6_isWholeAndUsable k cs w h T S F P O s re fo ra tu we sh hn hP hcs hA hS hk hc2 ax ay hB hU (q % w) (q / w) (by omega) (by omega)) dX6_leastReachOfAny_32 z123 rfl rfl rfl w_932 qX6_isWholeAndUsable rfl ⟨Nat.le_of_ble_eq_true rfl, Nat.le_of_ble_eq_true rfl⟩ ⟨Nat.zero_le _, Nat.zero_le _⟩ (Nat.le_of_ble_eq_true rfl) rfl (rest := []) (cells := 0) (slots := 0) (lv := [(0, yR g 123), (1, yI l_), (2, yI q)])
        refine y_cp (zz32) ?_
        refine y_if_eq (pc := 35) hF dX6_leastReachOfAny_35 58 rfl bi_r (fun zc35 => ?_) (fun zc35 => ?_)
        · replace zc35 := bi_0.mp zc35
          refine y_iinc (pc := 58) (lv' := [(0, yR g 123), (1, yI l_), (2, yI (q + 1))]) hF dX6_leastReachOfAny_58 2 rfl (by decide) rfl rfl ?_
          refine y_goto (pc := 61) hF dX6_leastReachOfAny_61 4 rfl ?_
          exact zh4 _ (by omega) (q + 1) (l_) rfl ⟨by omega, by omega, by rw [fr_up _ _ _ _ zI4.1.1, ← zI4.2.2, Int.zero_add]; unfold lrF; rw [if_neg (fun ze => by rw [zc35] at ze; exact absurd ze.1 (by decide))]⟩
        · replace zc35 := bi_n0.mp zc35
          refine y_iload_n (pc := 38) hF dX6_leastReachOfAny_38 1 rfl ?_
          refine y_iconst (pc := 39) hF dX6_leastReachOfAny_39 ?_
          refine y_icmp_eq (pc := 40) hF dX6_leastReachOfAny_40 52 rfl (by omega) (by omega) (fun zc40 => ?_) (fun zc40 => ?_)
          · skip
            refine y_aload_n (pc := 52) hF dX6_leastReachOfAny_52 0 rfl ?_
            refine y_iload_n (pc := 53) hF dX6_leastReachOfAny_53 2 rfl ?_
            have zz54 := y_rV (pc := 54) hF (tX6_reachTo k cs w h T S F P O s re fo ra tu we sh hn hP hcs hA hS hk hc2 ax ay hB hax hay q ⟨zI4.1.1, by omega⟩) dX6_leastReachOfAny_54 z123 rfl rfl rfl w_1179 qX6_reachTo rfl ⟨Nat.le_of_ble_eq_true rfl, Nat.le_of_ble_eq_true rfl⟩ ⟨Nat.zero_le _, Nat.zero_le _⟩ (Nat.le_of_ble_eq_true rfl) rfl (rest := []) (cells := 0) (slots := 0) (lv := [(0, yR g 123), (1, yI l_), (2, yI q)])
            refine y_cp (zz54) ?_
            refine y_istore_n (pc := 57) (lv' := [(0, yR g 123), (1, yI (rTo w ax ay q)), (2, yI q)]) hF dX6_leastReachOfAny_57 (by decide) rfl rfl ?_
            refine y_iinc (pc := 58) (lv' := [(0, yR g 123), (1, yI (rTo w ax ay q)), (2, yI (q + 1))]) hF dX6_leastReachOfAny_58 2 rfl (by decide) rfl rfl ?_
            refine y_goto (pc := 61) hF dX6_leastReachOfAny_61 4 rfl ?_
            exact zh4 _ (by omega) (q + 1) (rTo w ax ay q) rfl ⟨by omega, by omega, by rw [fr_up _ _ _ _ zI4.1.1, ← zI4.2.2, Int.zero_add]; unfold lrF; rw [if_pos ⟨zc35, by omega⟩]⟩
          · skip
            refine y_aload_n (pc := 43) hF dX6_leastReachOfAny_43 0 rfl ?_
            refine y_iload_n (pc := 44) hF dX6_leastReachOfAny_44 2 rfl ?_
            have zz45 := y_rV (pc := 45) hF (tX6_reachTo k cs w h T S F P O s re fo ra tu we sh hn hP hcs hA hS hk hc2 ax ay hB hax hay q ⟨zI4.1.1, by omega⟩) dX6_leastReachOfAny_45 z123 rfl rfl rfl w_1179 qX6_reachTo rfl ⟨Nat.le_of_ble_eq_true rfl, Nat.le_of_ble_eq_true rfl⟩ ⟨Nat.zero_le _, Nat.zero_le _⟩ (Nat.le_of_ble_eq_true rfl) rfl (rest := []) (cells := 0) (slots := 0) (lv := [(0, yR g 123), (1, yI l_), (2, yI q)])
            refine y_cp (zz45) ?_
            refine y_iload_n (pc := 48) hF dX6_leastReachOfAny_48 1 rfl ?_
            refine y_icmp_ge (pc := 49) hF dX6_leastReachOfAny_49 58 rfl (by omega) (by omega) (fun zc49 => ?_) (fun zc49 => ?_)
            · skip
              refine y_iinc (pc := 58) (lv' := [(0, yR g 123), (1, yI l_), (2, yI (q + 1))]) hF dX6_leastReachOfAny_58 2 rfl (by decide) rfl rfl ?_
              refine y_goto (pc := 61) hF dX6_leastReachOfAny_61 4 rfl ?_
              exact zh4 _ (by omega) (q + 1) (l_) rfl ⟨by omega, by omega, by rw [fr_up _ _ _ _ zI4.1.1, ← zI4.2.2, Int.zero_add]; unfold lrF; rw [if_neg (fun ze => by rcases ze.2 with zq | zq <;> omega)]⟩
            · skip
              refine y_aload_n (pc := 52) hF dX6_leastReachOfAny_52 0 rfl ?_
              refine y_iload_n (pc := 53) hF dX6_leastReachOfAny_53 2 rfl ?_
              have zz54 := y_rV (pc := 54) hF (tX6_reachTo k cs w h T S F P O s re fo ra tu we sh hn hP hcs hA hS hk hc2 ax ay hB hax hay q ⟨zI4.1.1, by omega⟩) dX6_leastReachOfAny_54 z123 rfl rfl rfl w_1179 qX6_reachTo rfl ⟨Nat.le_of_ble_eq_true rfl, Nat.le_of_ble_eq_true rfl⟩ ⟨Nat.zero_le _, Nat.zero_le _⟩ (Nat.le_of_ble_eq_true rfl) rfl (rest := []) (cells := 0) (slots := 0) (lv := [(0, yR g 123), (1, yI l_), (2, yI q)])
              refine y_cp (zz54) ?_
              refine y_istore_n (pc := 57) (lv' := [(0, yR g 123), (1, yI (rTo w ax ay q)), (2, yI q)]) hF dX6_leastReachOfAny_57 (by decide) rfl rfl ?_
              refine y_iinc (pc := 58) (lv' := [(0, yR g 123), (1, yI (rTo w ax ay q)), (2, yI (q + 1))]) hF dX6_leastReachOfAny_58 2 rfl (by decide) rfl rfl ?_
              refine y_goto (pc := 61) hF dX6_leastReachOfAny_61 4 rfl ?_
              exact zh4 _ (by omega) (q + 1) (rTo w ax ay q) rfl ⟨by omega, by omega, by rw [fr_up _ _ _ _ zI4.1.1, ← zI4.2.2, Int.zero_add]; unfold lrF; rw [if_pos ⟨zc35, by omega⟩]⟩
  exact zL4 _ (0) (-1) rfl ⟨by omega, by omega, rfl⟩
