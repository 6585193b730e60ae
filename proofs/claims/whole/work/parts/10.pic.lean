theorem dX4_dots_0 : decode cX4_dots 0 = .ok (.aload_n 0, 1) := by decide +kernel
theorem dX4_dots_1 : decode cX4_dots 1 = .ok (.getfield 9, 3) := by decide +kernel
theorem dX4_dots_4 : decode cX4_dots 4 = .ok (.aload_n 0, 1) := by decide +kernel
theorem dX4_dots_5 : decode cX4_dots 5 = .ok (.getfield 15, 3) := by decide +kernel
theorem dX4_dots_8 : decode cX4_dots 8 = .ok (.imul, 1) := by decide +kernel
theorem dX4_dots_9 : decode cX4_dots 9 = .ok (.ireturn, 1) := by decide +kernel
set_option maxHeartbeats 4000000 in
set_option maxRecDepth 100000 in
theorem tX4_dots {l : Launch} {g : yG} {n : Nat} {σ : yM} (k : Nat) (hn : 172 ≤ n) (hP : isPic k) (hW : pWf σ k) : yMet l g yX4_dots cX4_dots 1 (some .int) (rmL 1) [yR g k] (SC g) n σ (SC g) (yPp (σ k 0 * σ k 1) n σ) := by
  refine y_start (by decide) (Nat.le_of_ble_eq_true rfl) (fun x hF => ?_)
  show yV x g 1 _ (SC g) n σ 0 0 0 [(0, yR g k)] []
  refine y_aload_n (pc := 0) hF dX4_dots_0 0 rfl ?_
  refine y_get (pc := 1) (ci := 4) hF dX4_dots_1 (by have := hP.1; omega) (hP.2 g).1 rfl rfl iX4 0 (by decide) w_210 rfl ?_
  refine y_aload_n (pc := 4) hF dX4_dots_4 0 rfl ?_
  refine y_get (pc := 5) (ci := 4) hF dX4_dots_5 (by have := hP.1; omega) (hP.2 g).1 rfl rfl iX4 1 (by decide) w_214 rfl ?_
  refine y_imul (pc := 8) hF dX4_dots_8 ?_
  exact y_iret (pc := 9) hF dX4_dots_9 (Nat.zero_le _) (Nat.zero_le _) ⟨_, rfl, rfl, rfl, rfl⟩

theorem dX4_at_0 : decode cX4_at 0 = .ok (.iload_n 2, 1) := by decide +kernel
theorem dX4_at_1 : decode cX4_at 1 = .ok (.aload_n 0, 1) := by decide +kernel
theorem dX4_at_2 : decode cX4_at 2 = .ok (.getfield 9, 3) := by decide +kernel
theorem dX4_at_5 : decode cX4_at 5 = .ok (.imul, 1) := by decide +kernel
theorem dX4_at_6 : decode cX4_at 6 = .ok (.iload_n 1, 1) := by decide +kernel
theorem dX4_at_7 : decode cX4_at 7 = .ok (.iadd, 1) := by decide +kernel
theorem dX4_at_8 : decode cX4_at 8 = .ok (.ireturn, 1) := by decide +kernel
set_option maxHeartbeats 4000000 in
set_option maxRecDepth 100000 in
theorem tX4_at {l : Launch} {g : yG} {n : Nat} {σ : yM} (k : Nat) (hn : 172 ≤ n) (hP : isPic k) (hW : pWf σ k) (a b : Int) : yMet l g yX4_at cX4_at 3 (some .int) (rmL 1) [yR g k, yI a, yI b] (SC g) n σ (SC g) (yPp (b * σ k 0 + a) n σ) := by
  refine y_start (by decide) (Nat.le_of_ble_eq_true rfl) (fun x hF => ?_)
  show yV x g 3 _ (SC g) n σ 0 0 0 [(0, yR g k), (1, yI a), (2, yI b)] []
  refine y_iload_n (pc := 0) hF dX4_at_0 2 rfl ?_
  refine y_aload_n (pc := 1) hF dX4_at_1 0 rfl ?_
  refine y_get (pc := 2) (ci := 4) hF dX4_at_2 (by have := hP.1; omega) (hP.2 g).1 rfl rfl iX4 0 (by decide) w_210 rfl ?_
  refine y_imul (pc := 5) hF dX4_at_5 ?_
  refine y_iload_n (pc := 6) hF dX4_at_6 1 rfl ?_
  refine y_iadd (pc := 7) hF dX4_at_7 ?_
  exact y_iret (pc := 8) hF dX4_at_8 (Nat.zero_le _) (Nat.zero_le _) ⟨_, rfl, rfl, rfl, rfl⟩

theorem dX4_has_0 : decode cX4_has 0 = .ok (.iload_n 1, 1) := by decide +kernel
theorem dX4_has_1 : decode cX4_has 1 = .ok (.ifCond .lt 27, 3) := by decide +kernel
theorem dX4_has_4 : decode cX4_has 4 = .ok (.iload_n 1, 1) := by decide +kernel
theorem dX4_has_5 : decode cX4_has 5 = .ok (.aload_n 0, 1) := by decide +kernel
theorem dX4_has_6 : decode cX4_has 6 = .ok (.getfield 9, 3) := by decide +kernel
theorem dX4_has_9 : decode cX4_has 9 = .ok (.if_icmp .ge 19, 3) := by decide +kernel
theorem dX4_has_12 : decode cX4_has 12 = .ok (.iload_n 2, 1) := by decide +kernel
theorem dX4_has_13 : decode cX4_has 13 = .ok (.ifCond .lt 15, 3) := by decide +kernel
theorem dX4_has_16 : decode cX4_has 16 = .ok (.iload_n 2, 1) := by decide +kernel
theorem dX4_has_17 : decode cX4_has 17 = .ok (.aload_n 0, 1) := by decide +kernel
theorem dX4_has_18 : decode cX4_has 18 = .ok (.getfield 15, 3) := by decide +kernel
theorem dX4_has_21 : decode cX4_has 21 = .ok (.if_icmp .ge 7, 3) := by decide +kernel
theorem dX4_has_24 : decode cX4_has 24 = .ok (.iconst 1, 1) := by decide +kernel
theorem dX4_has_25 : decode cX4_has 25 = .ok (.goto 4, 3) := by decide +kernel
theorem dX4_has_28 : decode cX4_has 28 = .ok (.iconst 0, 1) := by decide +kernel
theorem dX4_has_29 : decode cX4_has 29 = .ok (.ireturn, 1) := by decide +kernel
set_option maxHeartbeats 4000000 in
set_option maxRecDepth 100000 in
theorem tX4_has {l : Launch} {g : yG} {n : Nat} {σ : yM} (k : Nat) (hn : 172 ≤ n) (hP : isPic k) (hW : pWf σ k) (a b : Int) (ha : -2147483648 ≤ a ∧ a < 2147483648) (hb : -2147483648 ≤ b ∧ b < 2147483648) : yMet l g yX4_has cX4_has 3 (some .boolean) (rmL 1) [yR g k, yI a, yI b] (SC g) n σ (SC g) (yPp (bi (sIn (σ k 0) (σ k 1) a b)) n σ) := by
  obtain ⟨hw1, hw2, hw3, hw4⟩ := id hW
  refine y_start (by decide) (Nat.le_of_ble_eq_true rfl) (fun x hF => ?_)
  show yV x g 3 _ (SC g) n σ 0 0 0 [(0, yR g k), (1, yI a), (2, yI b)] []
  refine y_iload_n (pc := 0) hF dX4_has_0 1 rfl ?_
  refine y_if_lt (pc := 1) hF dX4_has_1 28 rfl (by omega) (fun zc1 => ?_) (fun zc1 => ?_)
  · skip
    refine y_iconst (pc := 28) hF dX4_has_28 ?_
    exact y_zret (pc := 29) hF dX4_has_29 (by decide) (Nat.zero_le _) (Nat.zero_le _) ⟨_, rfl, by rw [sIn_not.mpr (by omega)]; rfl, rfl, rfl⟩
  · skip
    refine y_iload_n (pc := 4) hF dX4_has_4 1 rfl ?_
    refine y_aload_n (pc := 5) hF dX4_has_5 0 rfl ?_
    refine y_get (pc := 6) (ci := 4) hF dX4_has_6 (by have := hP.1; omega) (hP.2 g).1 rfl rfl iX4 0 (by decide) w_210 rfl ?_
    refine y_icmp_ge (pc := 9) hF dX4_has_9 28 rfl (by omega) (by omega) (fun zc9 => ?_) (fun zc9 => ?_)
    · skip
      refine y_iconst (pc := 28) hF dX4_has_28 ?_
      exact y_zret (pc := 29) hF dX4_has_29 (by decide) (Nat.zero_le _) (Nat.zero_le _) ⟨_, rfl, by rw [sIn_not.mpr (by omega)]; rfl, rfl, rfl⟩
    · skip
      refine y_iload_n (pc := 12) hF dX4_has_12 2 rfl ?_
      refine y_if_lt (pc := 13) hF dX4_has_13 28 rfl (by omega) (fun zc13 => ?_) (fun zc13 => ?_)
      · skip
        refine y_iconst (pc := 28) hF dX4_has_28 ?_
        exact y_zret (pc := 29) hF dX4_has_29 (by decide) (Nat.zero_le _) (Nat.zero_le _) ⟨_, rfl, by rw [sIn_not.mpr (by omega)]; rfl, rfl, rfl⟩
      · skip
        refine y_iload_n (pc := 16) hF dX4_has_16 2 rfl ?_
        refine y_aload_n (pc := 17) hF dX4_has_17 0 rfl ?_
        refine y_get (pc := 18) (ci := 4) hF dX4_has_18 (by have := hP.1; omega) (hP.2 g).1 rfl rfl iX4 1 (by decide) w_214 rfl ?_
        refine y_icmp_ge (pc := 21) hF dX4_has_21 28 rfl (by omega) (by omega) (fun zc21 => ?_) (fun zc21 => ?_)
        · skip
          refine y_iconst (pc := 28) hF dX4_has_28 ?_
          exact y_zret (pc := 29) hF dX4_has_29 (by decide) (Nat.zero_le _) (Nat.zero_le _) ⟨_, rfl, by rw [sIn_not.mpr (by omega)]; rfl, rfl, rfl⟩
        · skip
          refine y_iconst (pc := 24) hF dX4_has_24 ?_
          refine y_goto (pc := 25) hF dX4_has_25 29 rfl ?_
          exact y_zret (pc := 29) hF dX4_has_29 (by decide) (Nat.zero_le _) (Nat.zero_le _) ⟨_, rfl, by rw [sIn_iff.mpr (by omega)]; rfl, rfl, rfl⟩

theorem dX4_isKnown_0 : decode cX4_isKnown 0 = .ok (.aload_n 0, 1) := by decide +kernel
theorem dX4_isKnown_1 : decode cX4_isKnown 1 = .ok (.iload_n 1, 1) := by decide +kernel
theorem dX4_isKnown_2 : decode cX4_isKnown 2 = .ok (.iload_n 2, 1) := by decide +kernel
theorem dX4_isKnown_3 : decode cX4_isKnown 3 = .ok (.invokevirtual 40, 3) := by decide +kernel
theorem dX4_isKnown_6 : decode cX4_isKnown 6 = .ok (.ifCond .eq 24, 3) := by decide +kernel
theorem dX4_isKnown_9 : decode cX4_isKnown 9 = .ok (.aload_n 0, 1) := by decide +kernel
theorem dX4_isKnown_10 : decode cX4_isKnown 10 = .ok (.getfield 18, 3) := by decide +kernel
theorem dX4_isKnown_13 : decode cX4_isKnown 13 = .ok (.iload_n 2, 1) := by decide +kernel
theorem dX4_isKnown_14 : decode cX4_isKnown 14 = .ok (.aload_n 0, 1) := by decide +kernel
theorem dX4_isKnown_15 : decode cX4_isKnown 15 = .ok (.getfield 9, 3) := by decide +kernel
theorem dX4_isKnown_18 : decode cX4_isKnown 18 = .ok (.imul, 1) := by decide +kernel
theorem dX4_isKnown_19 : decode cX4_isKnown 19 = .ok (.iload_n 1, 1) := by decide +kernel
theorem dX4_isKnown_20 : decode cX4_isKnown 20 = .ok (.iadd, 1) := by decide +kernel
theorem dX4_isKnown_21 : decode cX4_isKnown 21 = .ok (.iaload, 1) := by decide +kernel
theorem dX4_isKnown_22 : decode cX4_isKnown 22 = .ok (.iconst (-1), 1) := by decide +kernel
theorem dX4_isKnown_23 : decode cX4_isKnown 23 = .ok (.if_icmp .eq 7, 3) := by decide +kernel
theorem dX4_isKnown_26 : decode cX4_isKnown 26 = .ok (.iconst 1, 1) := by decide +kernel
theorem dX4_isKnown_27 : decode cX4_isKnown 27 = .ok (.goto 4, 3) := by decide +kernel
theorem dX4_isKnown_30 : decode cX4_isKnown 30 = .ok (.iconst 0, 1) := by decide +kernel
theorem dX4_isKnown_31 : decode cX4_isKnown 31 = .ok (.ireturn, 1) := by decide +kernel
set_option maxHeartbeats 4000000 in
set_option maxRecDepth 100000 in
theorem tX4_isKnown {l : Launch} {g : yG} {n : Nat} {σ : yM} (k : Nat) (hn : 172 ≤ n) (hP : isPic k) (hW : pWf σ k) (hT : pTn σ k) (a b : Int) (ha : -2147483648 ≤ a ∧ a < 2147483648) (hb : -2147483648 ≤ b ∧ b < 2147483648) : yMet l g yX4_isKnown cX4_isKnown 3 (some .boolean) (rmL 2) [yR g k, yI a, yI b] (SC g) n σ (SC g) (yPp (bi (sKn (σ k 0) (σ k 1) (pT σ k) a b)) n σ) := by
  obtain ⟨hw1, hw2, hw3, hw4⟩ := id hW
  refine y_start (by decide) (Nat.le_of_ble_eq_true rfl) (fun x hF => ?_)
  show yV x g 3 _ (SC g) n σ 0 0 0 [(0, yR g k), (1, yI a), (2, yI b)] []
  refine y_aload_n (pc := 0) hF dX4_isKnown_0 0 rfl ?_
  refine y_iload_n (pc := 1) hF dX4_isKnown_1 1 rfl ?_
  refine y_iload_n (pc := 2) hF dX4_isKnown_2 2 rfl ?_
  refine y_cp (y_rV (pc := 3) hF (tX4_has k hn hP hW a b (by assumption) (by assumption)) dX4_isKnown_3 (by have := hP.1; omega) (hP.2 g).1 rfl rfl w_784 qX4_has rfl ⟨Nat.le_of_ble_eq_true rfl, Nat.le_of_ble_eq_true rfl⟩ ⟨Nat.zero_le _, Nat.zero_le _⟩ (by decide) rfl) ?_
  refine y_if_eq (pc := 6) hF dX4_isKnown_6 30 rfl bi_r (fun zc6 => ?_) (fun zc6 => ?_)
  · replace zc6 := bi_0.mp zc6
    refine y_iconst (pc := 30) hF dX4_isKnown_30 ?_
    exact y_zret (pc := 31) hF dX4_isKnown_31 (by decide) (Nat.zero_le _) (Nat.zero_le _) ⟨_, rfl, by first | (rw [show sKn (σ k 0) (σ k 1) (pT σ k) a b = false by simp [sKn, pT, *]]; rfl), rfl, rfl⟩
  · replace zc6 := bi_n0.mp zc6
    have hb9 := sIn_iff.mp zc6
    have hi9 := y_ix ⟨hw1, hw2⟩ ⟨hw3, hw4⟩ ⟨hb9.1, hb9.2.1⟩ hb9.2.2
    have ht9 := hT _ hi9.1 (by omega)
    refine y_aload_n (pc := 9) hF dX4_isKnown_9 0 rfl ?_
    refine y_get (pc := 10) (ci := 4) hF dX4_isKnown_10 (by have := hP.1; omega) (hP.2 g).1 rfl rfl iX4 2 (by decide) w_218 rfl ?_
    refine y_iload_n (pc := 13) hF dX4_isKnown_13 2 rfl ?_
    refine y_aload_n (pc := 14) hF dX4_isKnown_14 0 rfl ?_
    refine y_get (pc := 15) (ci := 4) hF dX4_isKnown_15 (by have := hP.1; omega) (hP.2 g).1 rfl rfl iX4 0 (by decide) w_210 rfl ?_
    refine y_imul (pc := 18) hF dX4_isKnown_18 ?_
    refine y_iload_n (pc := 19) hF dX4_isKnown_19 1 rfl ?_
    refine y_iadd (pc := 20) hF dX4_isKnown_20 ?_
    refine y_iaload (pc := 21) hF dX4_isKnown_21 (by have := hP.1; omega) (hP.2 g).2.1 (by omega) (by decide) ?_
    refine y_iconst (pc := 22) hF dX4_isKnown_22 ?_
    refine y_icmp_eq (pc := 23) hF dX4_isKnown_23 30 rfl (by omega) (by omega) (fun zc23 => ?_) (fun zc23 => ?_)
    · skip
      refine y_iconst (pc := 30) hF dX4_isKnown_30 ?_
      exact y_zret (pc := 31) hF dX4_isKnown_31 (by decide) (Nat.zero_le _) (Nat.zero_le _) ⟨_, rfl, by first | (rw [show sKn (σ k 0) (σ k 1) (pT σ k) a b = false by simp [sKn, pT, *]]; rfl), rfl, rfl⟩
    · skip
      refine y_iconst (pc := 26) hF dX4_isKnown_26 ?_
      refine y_goto (pc := 27) hF dX4_isKnown_27 31 rfl ?_
      exact y_zret (pc := 31) hF dX4_isKnown_31 (by decide) (Nat.zero_le _) (Nat.zero_le _) ⟨_, rfl, by first | (rw [show sKn (σ k 0) (σ k 1) (pT σ k) a b = true by simp [sKn, pT, *]]; rfl), rfl, rfl⟩

theorem dX4_isMissing_0 : decode cX4_isMissing 0 = .ok (.aload_n 0, 1) := by decide +kernel
theorem dX4_isMissing_1 : decode cX4_isMissing 1 = .ok (.iload_n 1, 1) := by decide +kernel
theorem dX4_isMissing_2 : decode cX4_isMissing 2 = .ok (.iload_n 2, 1) := by decide +kernel
theorem dX4_isMissing_3 : decode cX4_isMissing 3 = .ok (.invokevirtual 40, 3) := by decide +kernel
theorem dX4_isMissing_6 : decode cX4_isMissing 6 = .ok (.ifCond .eq 24, 3) := by decide +kernel
theorem dX4_isMissing_9 : decode cX4_isMissing 9 = .ok (.aload_n 0, 1) := by decide +kernel
theorem dX4_isMissing_10 : decode cX4_isMissing 10 = .ok (.getfield 18, 3) := by decide +kernel
theorem dX4_isMissing_13 : decode cX4_isMissing 13 = .ok (.iload_n 2, 1) := by decide +kernel
theorem dX4_isMissing_14 : decode cX4_isMissing 14 = .ok (.aload_n 0, 1) := by decide +kernel
theorem dX4_isMissing_15 : decode cX4_isMissing 15 = .ok (.getfield 9, 3) := by decide +kernel
theorem dX4_isMissing_18 : decode cX4_isMissing 18 = .ok (.imul, 1) := by decide +kernel
theorem dX4_isMissing_19 : decode cX4_isMissing 19 = .ok (.iload_n 1, 1) := by decide +kernel
theorem dX4_isMissing_20 : decode cX4_isMissing 20 = .ok (.iadd, 1) := by decide +kernel
theorem dX4_isMissing_21 : decode cX4_isMissing 21 = .ok (.iaload, 1) := by decide +kernel
theorem dX4_isMissing_22 : decode cX4_isMissing 22 = .ok (.iconst (-1), 1) := by decide +kernel
theorem dX4_isMissing_23 : decode cX4_isMissing 23 = .ok (.if_icmp .ne 7, 3) := by decide +kernel
theorem dX4_isMissing_26 : decode cX4_isMissing 26 = .ok (.iconst 1, 1) := by decide +kernel
theorem dX4_isMissing_27 : decode cX4_isMissing 27 = .ok (.goto 4, 3) := by decide +kernel
theorem dX4_isMissing_30 : decode cX4_isMissing 30 = .ok (.iconst 0, 1) := by decide +kernel
theorem dX4_isMissing_31 : decode cX4_isMissing 31 = .ok (.ireturn, 1) := by decide +kernel
set_option maxHeartbeats 4000000 in
set_option maxRecDepth 100000 in
theorem tX4_isMissing {l : Launch} {g : yG} {n : Nat} {σ : yM} (k : Nat) (hn : 172 ≤ n) (hP : isPic k) (hW : pWf σ k) (hT : pTn σ k) (a b : Int) (ha : -2147483648 ≤ a ∧ a < 2147483648) (hb : -2147483648 ≤ b ∧ b < 2147483648) : yMet l g yX4_isMissing cX4_isMissing 3 (some .boolean) (rmL 2) [yR g k, yI a, yI b] (SC g) n σ (SC g) (yPp (bi (sMi (σ k 0) (σ k 1) (pT σ k) a b)) n σ) := by
  obtain ⟨hw1, hw2, hw3, hw4⟩ := id hW
  refine y_start (by decide) (Nat.le_of_ble_eq_true rfl) (fun x hF => ?_)
  show yV x g 3 _ (SC g) n σ 0 0 0 [(0, yR g k), (1, yI a), (2, yI b)] []
  refine y_aload_n (pc := 0) hF dX4_isMissing_0 0 rfl ?_
  refine y_iload_n (pc := 1) hF dX4_isMissing_1 1 rfl ?_
  refine y_iload_n (pc := 2) hF dX4_isMissing_2 2 rfl ?_
  refine y_cp (y_rV (pc := 3) hF (tX4_has k hn hP hW a b (by assumption) (by assumption)) dX4_isMissing_3 (by have := hP.1; omega) (hP.2 g).1 rfl rfl w_784 qX4_has rfl ⟨Nat.le_of_ble_eq_true rfl, Nat.le_of_ble_eq_true rfl⟩ ⟨Nat.zero_le _, Nat.zero_le _⟩ (by decide) rfl) ?_
  refine y_if_eq (pc := 6) hF dX4_isMissing_6 30 rfl bi_r (fun zc6 => ?_) (fun zc6 => ?_)
  · replace zc6 := bi_0.mp zc6
    refine y_iconst (pc := 30) hF dX4_isMissing_30 ?_
    exact y_zret (pc := 31) hF dX4_isMissing_31 (by decide) (Nat.zero_le _) (Nat.zero_le _) ⟨_, rfl, by first | (rw [show sMi (σ k 0) (σ k 1) (pT σ k) a b = false by simp [sMi, pT, *]]; rfl), rfl, rfl⟩
  · replace zc6 := bi_n0.mp zc6
    have hb9 := sIn_iff.mp zc6
    have hi9 := y_ix ⟨hw1, hw2⟩ ⟨hw3, hw4⟩ ⟨hb9.1, hb9.2.1⟩ hb9.2.2
    have ht9 := hT _ hi9.1 (by omega)
    refine y_aload_n (pc := 9) hF dX4_isMissing_9 0 rfl ?_
    refine y_get (pc := 10) (ci := 4) hF dX4_isMissing_10 (by have := hP.1; omega) (hP.2 g).1 rfl rfl iX4 2 (by decide) w_218 rfl ?_
    refine y_iload_n (pc := 13) hF dX4_isMissing_13 2 rfl ?_
    refine y_aload_n (pc := 14) hF dX4_isMissing_14 0 rfl ?_
    refine y_get (pc := 15) (ci := 4) hF dX4_isMissing_15 (by have := hP.1; omega) (hP.2 g).1 rfl rfl iX4 0 (by decide) w_210 rfl ?_
    refine y_imul (pc := 18) hF dX4_isMissing_18 ?_
    refine y_iload_n (pc := 19) hF dX4_isMissing_19 1 rfl ?_
    refine y_iadd (pc := 20) hF dX4_isMissing_20 ?_
    refine y_iaload (pc := 21) hF dX4_isMissing_21 (by have := hP.1; omega) (hP.2 g).2.1 (by omega) (by decide) ?_
    refine y_iconst (pc := 22) hF dX4_isMissing_22 ?_
    refine y_icmp_ne (pc := 23) hF dX4_isMissing_23 30 rfl (by omega) (by omega) (fun zc23 => ?_) (fun zc23 => ?_)
    · skip
      refine y_iconst (pc := 30) hF dX4_isMissing_30 ?_
      exact y_zret (pc := 31) hF dX4_isMissing_31 (by decide) (Nat.zero_le _) (Nat.zero_le _) ⟨_, rfl, by first | (rw [show sMi (σ k 0) (σ k 1) (pT σ k) a b = false by simp [sMi, pT, *]]; rfl), rfl, rfl⟩
    · skip
      refine y_iconst (pc := 26) hF dX4_isMissing_26 ?_
      refine y_goto (pc := 27) hF dX4_isMissing_27 31 rfl ?_
      exact y_zret (pc := 31) hF dX4_isMissing_31 (by decide) (Nat.zero_le _) (Nat.zero_le _) ⟨_, rfl, by first | (rw [show sMi (σ k 0) (σ k 1) (pT σ k) a b = true by simp [sMi, pT, *]]; rfl), rfl, rfl⟩
