theorem dX4_dots_0 : decode cX4_dots 0 = .ok (.aload_n 0, 1) := by decide +kernel
theorem dX4_dots_1 : decode cX4_dots 1 = .ok (.getfield 9, 3) := by decide +kernel
theorem dX4_dots_4 : decode cX4_dots 4 = .ok (.aload_n 0, 1) := by decide +kernel
theorem dX4_dots_5 : decode cX4_dots 5 = .ok (.getfield 15, 3) := by decide +kernel
theorem dX4_dots_8 : decode cX4_dots 8 = .ok (.imul, 1) := by decide +kernel
theorem dX4_dots_9 : decode cX4_dots 9 = .ok (.ireturn, 1) := by decide +kernel
set_option maxHeartbeats 4000000 in
set_option maxRecDepth 100000 in
theorem tX4_dots {l : Launch} {g : yG} {n : Nat} {σ : yM} (k : Nat) (w h : Int) (T S F P O : Int → Int → Int) (hn : 172 ≤ n) (hP : isPic k) (hA : rC σ k w h T S F P O) : yMet l g yX4_dots cX4_dots 1 (some .int) (rmL 1) [yR g k] (SC g) n σ (SC g) (yPp (w * h) n σ) := by
  refine y_start (by decide) (Nat.le_of_ble_eq_true rfl) (fun X0 hF => ?_)
  show yV X0 g 1 (yQ X0 g (SC g) (yPp (w * h) n σ) (rmL 1)) (SC g) n σ 0 0 0 [(0, yR g k)] []
  refine y_aload_n (pc := 0) hF dX4_dots_0 0 rfl ?_
  refine y_get (pc := 1) (ci := 4) hF dX4_dots_1 (by have := hP.1; omega) (hP.2 g).1 rfl rfl iX4 0 (by decide) w_210 rfl ?_
  rw [show σ k 0 = w from hA.2.1]
  refine y_aload_n (pc := 4) hF dX4_dots_4 0 rfl ?_
  refine y_get (pc := 5) (ci := 4) hF dX4_dots_5 (by have := hP.1; omega) (hP.2 g).1 rfl rfl iX4 1 (by decide) w_214 rfl ?_
  rw [show σ k 1 = h from hA.2.2.1]
  refine y_imul (pc := 8) hF dX4_dots_8 ?_
  exact y_iret (pc := 9) hF dX4_dots_9 (Nat.zero_le _) (Nat.zero_le _) ⟨_, rfl, rfl, rfl, rfl⟩

theorem dX4_at_0 : decode cX4_at 0 = .ok (.iload_n 2, 1) := by decide +kernel
theorem dX4_at_1 : decode cX4_at 1 = .ok (.aload_n 0, 1) := by decide +kernel
theorem dX4_at_2 : decode cX4_at 2 = .ok (.getfield 9, 3) := by decide +kernel
theorem dX4_at_5 : decode cX4_at 5 = .ok (.imul, 1) := by decide +kernel
theorem dX4_at_6 : decode cX4_at 6 = .ok (.iload_n 1, 1) := by decide +kernel
theorem dX4_at_7 : decode cX4_at 7 = .ok (.iadd, 1) := by decide +kernel
theorem dX4_at_8 : decode cX4_at 8 = .ok (.ireturn, 1) := by decide +kernel
set_option maxHeartbeats 4000000 in
set_option maxRecDepth 100000 in
theorem tX4_at {l : Launch} {g : yG} {n : Nat} {σ : yM} (k : Nat) (w h : Int) (T S F P O : Int → Int → Int) (hn : 172 ≤ n) (hP : isPic k) (hA : rC σ k w h T S F P O) (a b : Int) : yMet l g yX4_at cX4_at 3 (some .int) (rmL 1) [yR g k, yI a, yI b] (SC g) n σ (SC g) (yPp (b * w + a) n σ) := by
  refine y_start (by decide) (Nat.le_of_ble_eq_true rfl) (fun X0 hF => ?_)
  show yV X0 g 3 (yQ X0 g (SC g) (yPp (b * w + a) n σ) (rmL 1)) (SC g) n σ 0 0 0 [(0, yR g k), (1, yI a), (2, yI b)] []
  refine y_iload_n (pc := 0) hF dX4_at_0 2 rfl ?_
  refine y_aload_n (pc := 1) hF dX4_at_1 0 rfl ?_
  refine y_get (pc := 2) (ci := 4) hF dX4_at_2 (by have := hP.1; omega) (hP.2 g).1 rfl rfl iX4 0 (by decide) w_210 rfl ?_
  rw [show σ k 0 = w from hA.2.1]
  refine y_imul (pc := 5) hF dX4_at_5 ?_
  refine y_iload_n (pc := 6) hF dX4_at_6 1 rfl ?_
  refine y_iadd (pc := 7) hF dX4_at_7 ?_
  exact y_iret (pc := 8) hF dX4_at_8 (Nat.zero_le _) (Nat.zero_le _) ⟨_, rfl, rfl, rfl, rfl⟩

theorem dX4_has_0 : decode cX4_has 0 = .ok (.iload_n 1, 1) := by decide +kernel
theorem dX4_has_1 : decode cX4_has 1 = .ok (.ifCond .lt 27, 3) := by decide +kernel
theorem dX4_has_4 : decode cX4_has 4 = .ok (.iload_n 1, 1) := by decide +kernel
theorem dX4_has_5 : decode cX4_has 5 = .ok (.aload_n 0, 1) := by decide +kernel
theorem dX4_has_6 : decode cX4_has 6 = .ok (.getfield 9, 3) := by decide +kernel
theorem dX4_has_9 : decode cX4_has 9 = .ok (.if_icmp .ge 19, 3) := by decide +kernel
theorem dX4_has_12 : decode cX4_has 12 = .ok (.iload_n 2, 1) := by decide +kernel
theorem dX4_has_13 : decode cX4_has 13 = .ok (.ifCond .lt 15, 3) := by decide +kernel
theorem dX4_has_16 : decode cX4_has 16 = .ok (.iload_n 2, 1) := by decide +kernel
theorem dX4_has_17 : decode cX4_has 17 = .ok (.aload_n 0, 1) := by decide +kernel
theorem dX4_has_18 : decode cX4_has 18 = .ok (.getfield 15, 3) := by decide +kernel
theorem dX4_has_21 : decode cX4_has 21 = .ok (.if_icmp .ge 7, 3) := by decide +kernel
theorem dX4_has_24 : decode cX4_has 24 = .ok (.iconst 1, 1) := by decide +kernel
theorem dX4_has_25 : decode cX4_has 25 = .ok (.goto 4, 3) := by decide +kernel
theorem dX4_has_28 : decode cX4_has 28 = .ok (.iconst 0, 1) := by decide +kernel
theorem dX4_has_29 : decode cX4_has 29 = .ok (.ireturn, 1) := by decide +kernel
set_option maxHeartbeats 4000000 in
set_option maxRecDepth 100000 in
theorem tX4_has {l : Launch} {g : yG} {n : Nat} {σ : yM} (k : Nat) (w h : Int) (T S F P O : Int → Int → Int) (hn : 172 ≤ n) (hP : isPic k) (hA : rC σ k w h T S F P O) (a b : Int) (ha : -2147483648 ≤ a ∧ a < 2147483648) (hb : -2147483648 ≤ b ∧ b < 2147483648) : yMet l g yX4_has cX4_has 3 (some .boolean) (rmL 1) [yR g k, yI a, yI b] (SC g) n σ (SC g) (yPp (bi (sIn w h a b)) n σ) := by
  obtain ⟨hw1, hw2, hw3, hw4⟩ := id hA.1.1
  refine y_start (by decide) (Nat.le_of_ble_eq_true rfl) (fun X0 hF => ?_)
  show yV X0 g 3 (yQ X0 g (SC g) (yPp (bi (sIn w h a b)) n σ) (rmL 1)) (SC g) n σ 0 0 0 [(0, yR g k), (1, yI a), (2, yI b)] []
  refine y_iload_n (pc := 0) hF dX4_has_0 1 rfl ?_
  refine y_if_lt (pc := 1) hF dX4_has_1 28 rfl (by omega) (fun zc1 => ?_) (fun zc1 => ?_)
  · skip
    refine y_iconst (pc := 28) hF dX4_has_28 ?_
    exact y_zret (pc := 29) hF dX4_has_29 (by decide) (Nat.zero_le _) (Nat.zero_le _) ⟨_, rfl, by rw [sIn_not.mpr (by omega)]; rfl, rfl, rfl⟩
  · skip
    refine y_iload_n (pc := 4) hF dX4_has_4 1 rfl ?_
    refine y_aload_n (pc := 5) hF dX4_has_5 0 rfl ?_
    refine y_get (pc := 6) (ci := 4) hF dX4_has_6 (by have := hP.1; omega) (hP.2 g).1 rfl rfl iX4 0 (by decide) w_210 rfl ?_
    rw [show σ k 0 = w from hA.2.1]
    refine y_icmp_ge (pc := 9) hF dX4_has_9 28 rfl (by omega) (by omega) (fun zc9 => ?_) (fun zc9 => ?_)
    · skip
      refine y_iconst (pc := 28) hF dX4_has_28 ?_
      exact y_zret (pc := 29) hF dX4_has_29 (by decide) (Nat.zero_le _) (Nat.zero_le _) ⟨_, rfl, by rw [sIn_not.mpr (by omega)]; rfl, rfl, rfl⟩
    · skip
      refine y_iload_n (pc := 12) hF dX4_has_12 2 rfl ?_
      refine y_if_lt (pc := 13) hF dX4_has_13 28 rfl (by omega) (fun zc13 => ?_) (fun zc13 => ?_)
      · skip
        refine y_iconst (pc := 28) hF dX4_has_28 ?_
        exact y_zret (pc := 29) hF dX4_has_29 (by decide) (Nat.zero_le _) (Nat.zero_le _) ⟨_, rfl, by rw [sIn_not.mpr (by omega)]; rfl, rfl, rfl⟩
      · skip
        refine y_iload_n (pc := 16) hF dX4_has_16 2 rfl ?_
        refine y_aload_n (pc := 17) hF dX4_has_17 0 rfl ?_
        refine y_get (pc := 18) (ci := 4) hF dX4_has_18 (by have := hP.1; omega) (hP.2 g).1 rfl rfl iX4 1 (by decide) w_214 rfl ?_
        rw [show σ k 1 = h from hA.2.2.1]
        refine y_icmp_ge (pc := 21) hF dX4_has_21 28 rfl (by omega) (by omega) (fun zc21 => ?_) (fun zc21 => ?_)
        · skip
          refine y_iconst (pc := 28) hF dX4_has_28 ?_
          exact y_zret (pc := 29) hF dX4_has_29 (by decide) (Nat.zero_le _) (Nat.zero_le _) ⟨_, rfl, by rw [sIn_not.mpr (by omega)]; rfl, rfl, rfl⟩
        · skip
          refine y_iconst (pc := 24) hF dX4_has_24 ?_
          refine y_goto (pc := 25) hF dX4_has_25 29 rfl ?_
          exact y_zret (pc := 29) hF dX4_has_29 (by decide) (Nat.zero_le _) (Nat.zero_le _) ⟨_, rfl, by rw [sIn_iff.mpr (by omega)]; rfl, rfl, rfl⟩

theorem dX4_isKnown_0 : decode cX4_isKnown 0 = .ok (.aload_n 0, 1) := by decide +kernel
theorem dX4_isKnown_1 : decode cX4_isKnown 1 = .ok (.iload_n 1, 1) := by decide +kernel
theorem dX4_isKnown_2 : decode cX4_isKnown 2 = .ok (.iload_n 2, 1) := by decide +kernel
theorem dX4_isKnown_3 : decode cX4_isKnown 3 = .ok (.invokevirtual 40, 3) := by decide +kernel
theorem dX4_isKnown_6 : decode cX4_isKnown 6 = .ok (.ifCond .eq 24, 3) := by decide +kernel
theorem dX4_isKnown_9 : decode cX4_isKnown 9 = .ok (.aload_n 0, 1) := by decide +kernel
theorem dX4_isKnown_10 : decode cX4_isKnown 10 = .ok (.getfield 18, 3) := by decide +kernel
theorem dX4_isKnown_13 : decode cX4_isKnown 13 = .ok (.iload_n 2, 1) := by decide +kernel
theorem dX4_isKnown_14 : decode cX4_isKnown 14 = .ok (.aload_n 0, 1) := by decide +kernel
theorem dX4_isKnown_15 : decode cX4_isKnown 15 = .ok (.getfield 9, 3) := by decide +kernel
theorem dX4_isKnown_18 : decode cX4_isKnown 18 = .ok (.imul, 1) := by decide +kernel
theorem dX4_isKnown_19 : decode cX4_isKnown 19 = .ok (.iload_n 1, 1) := by decide +kernel
theorem dX4_isKnown_20 : decode cX4_isKnown 20 = .ok (.iadd, 1) := by decide +kernel
theorem dX4_isKnown_21 : decode cX4_isKnown 21 = .ok (.iaload, 1) := by decide +kernel
theorem dX4_isKnown_22 : decode cX4_isKnown 22 = .ok (.iconst (-1), 1) := by decide +kernel
theorem dX4_isKnown_23 : decode cX4_isKnown 23 = .ok (.if_icmp .eq 7, 3) := by decide +kernel
theorem dX4_isKnown_26 : decode cX4_isKnown 26 = .ok (.iconst 1, 1) := by decide +kernel
theorem dX4_isKnown_27 : decode cX4_isKnown 27 = .ok (.goto 4, 3) := by decide +kernel
theorem dX4_isKnown_30 : decode cX4_isKnown 30 = .ok (.iconst 0, 1) := by decide +kernel
theorem dX4_isKnown_31 : decode cX4_isKnown 31 = .ok (.ireturn, 1) := by decide +kernel
set_option maxHeartbeats 4000000 in
set_option maxRecDepth 100000 in
theorem tX4_isKnown {l : Launch} {g : yG} {n : Nat} {σ : yM} (k : Nat) (w h : Int) (T S F P O : Int → Int → Int) (hn : 172 ≤ n) (hP : isPic k) (hA : rC σ k w h T S F P O) (a b : Int) (ha : -2147483648 ≤ a ∧ a < 2147483648) (hb : -2147483648 ≤ b ∧ b < 2147483648) : yMet l g yX4_isKnown cX4_isKnown 3 (some .boolean) (rmL 2) [yR g k, yI a, yI b] (SC g) n σ (SC g) (yPp (bi (sKn w h T a b)) n σ) := by
  obtain ⟨hw1, hw2, hw3, hw4⟩ := id hA.1.1
  refine y_start (by decide) (Nat.le_of_ble_eq_true rfl) (fun X0 hF => ?_)
  show yV X0 g 3 (yQ X0 g (SC g) (yPp (bi (sKn w h T a b)) n σ) (rmL 2)) (SC g) n σ 0 0 0 [(0, yR g k), (1, yI a), (2, yI b)] []
  refine y_aload_n (pc := 0) hF dX4_isKnown_0 0 rfl ?_
  refine y_iload_n (pc := 1) hF dX4_isKnown_1 1 rfl ?_
  refine y_iload_n (pc := 2) hF dX4_isKnown_2 2 rfl ?_
  refine y_cp (y_rV (pc := 3) hF (tX4_has k w h T S F P O hn hP hA a b (by assumption) (by assumption)) dX4_isKnown_3 (by have := hP.1; omega) (hP.2 g).1 rfl rfl w_784 qX4_has rfl ⟨Nat.le_of_ble_eq_true rfl, Nat.le_of_ble_eq_true rfl⟩ ⟨Nat.zero_le _, Nat.zero_le _⟩ (Nat.le_of_ble_eq_true rfl) rfl) ?_
  refine y_if_eq (pc := 6) hF dX4_isKnown_6 30 rfl bi_r (fun zc6 => ?_) (fun zc6 => ?_)
  · replace zc6 := bi_0.mp zc6
    refine y_iconst (pc := 30) hF dX4_isKnown_30 ?_
    exact y_zret (pc := 31) hF dX4_isKnown_31 (by decide) (Nat.zero_le _) (Nat.zero_le _) ⟨_, rfl, by rw [show sKn w h T a b = false by simp [sKn, *]]; rfl, rfl, rfl⟩
  · replace zc6 := bi_n0.mp zc6
    have zb9 := sIn_iff.mp zc6
    have zi9 := y_ix ⟨hw1, hw2⟩ ⟨hw3, hw4⟩ ⟨zb9.1, zb9.2.1⟩ zb9.2.2
    have zt9 := (hA.1.2 a b zb9.1 zb9.2.1 zb9.2.2.1 zb9.2.2.2).1
    refine y_aload_n (pc := 9) hF dX4_isKnown_9 0 rfl ?_
    refine y_get (pc := 10) (ci := 4) hF dX4_isKnown_10 (by have := hP.1; omega) (hP.2 g).1 rfl rfl iX4 2 (by decide) w_218 rfl ?_
    refine y_iload_n (pc := 13) hF dX4_isKnown_13 2 rfl ?_
    refine y_aload_n (pc := 14) hF dX4_isKnown_14 0 rfl ?_
    refine y_get (pc := 15) (ci := 4) hF dX4_isKnown_15 (by have := hP.1; omega) (hP.2 g).1 rfl rfl iX4 0 (by decide) w_210 rfl ?_
    rw [show σ k 0 = w from hA.2.1]
    refine y_imul (pc := 18) hF dX4_isKnown_18 ?_
    refine y_iload_n (pc := 19) hF dX4_isKnown_19 1 rfl ?_
    refine y_iadd (pc := 20) hF dX4_isKnown_20 ?_
    refine y_iaload (pc := 21) hF dX4_isKnown_21 (by have := hP.1; omega) (hP.2 g).2.1 (by omega) (by decide) ?_
    rw [show σ (k + 1) ((b * w) + a) = T a b from (hA.2.2.2 a b zb9.1 zb9.2.1 zb9.2.2.1 zb9.2.2.2).1]
    refine y_iconst (pc := 22) hF dX4_isKnown_22 ?_
    refine y_icmp_eq (pc := 23) hF dX4_isKnown_23 30 rfl (by omega) (by omega) (fun zc23 => ?_) (fun zc23 => ?_)
    · skip
      refine y_iconst (pc := 30) hF dX4_isKnown_30 ?_
      exact y_zret (pc := 31) hF dX4_isKnown_31 (by decide) (Nat.zero_le _) (Nat.zero_le _) ⟨_, rfl, by rw [show sKn w h T a b = false by simp [sKn, *]]; rfl, rfl, rfl⟩
    · skip
      refine y_iconst (pc := 26) hF dX4_isKnown_26 ?_
      refine y_goto (pc := 27) hF dX4_isKnown_27 31 rfl ?_
      exact y_zret (pc := 31) hF dX4_isKnown_31 (by decide) (Nat.zero_le _) (Nat.zero_le _) ⟨_, rfl, by rw [show sKn w h T a b = true by simp [sKn, *]]; rfl, rfl, rfl⟩

theorem dX4_isMissing_0 : decode cX4_isMissing 0 = .ok (.aload_n 0, 1) := by decide +kernel
theorem dX4_isMissing_1 : decode cX4_isMissing 1 = .ok (.iload_n 1, 1) := by decide +kernel
theorem dX4_isMissing_2 : decode cX4_isMissing 2 = .ok (.iload_n 2, 1) := by decide +kernel
theorem dX4_isMissing_3 : decode cX4_isMissing 3 = .ok (.invokevirtual 40, 3) := by decide +kernel
theorem dX4_isMissing_6 : decode cX4_isMissing 6 = .ok (.ifCond .eq 24, 3) := by decide +kernel
theorem dX4_isMissing_9 : decode cX4_isMissing 9 = .ok (.aload_n 0, 1) := by decide +kernel
theorem dX4_isMissing_10 : decode cX4_isMissing 10 = .ok (.getfield 18, 3) := by decide +kernel
theorem dX4_isMissing_13 : decode cX4_isMissing 13 = .ok (.iload_n 2, 1) := by decide +kernel
theorem dX4_isMissing_14 : decode cX4_isMissing 14 = .ok (.aload_n 0, 1) := by decide +kernel
theorem dX4_isMissing_15 : decode cX4_isMissing 15 = .ok (.getfield 9, 3) := by decide +kernel
theorem dX4_isMissing_18 : decode cX4_isMissing 18 = .ok (.imul, 1) := by decide +kernel
theorem dX4_isMissing_19 : decode cX4_isMissing 19 = .ok (.iload_n 1, 1) := by decide +kernel
theorem dX4_isMissing_20 : decode cX4_isMissing 20 = .ok (.iadd, 1) := by decide +kernel
theorem dX4_isMissing_21 : decode cX4_isMissing 21 = .ok (.iaload, 1) := by decide +kernel
theorem dX4_isMissing_22 : decode cX4_isMissing 22 = .ok (.iconst (-1), 1) := by decide +kernel
theorem dX4_isMissing_23 : decode cX4_isMissing 23 = .ok (.if_icmp .ne 7, 3) := by decide +kernel
theorem dX4_isMissing_26 : decode cX4_isMissing 26 = .ok (.iconst 1, 1) := by decide +kernel
theorem dX4_isMissing_27 : decode cX4_isMissing 27 = .ok (.goto 4, 3) := by decide +kernel
theorem dX4_isMissing_30 : decode cX4_isMissing 30 = .ok (.iconst 0, 1) := by decide +kernel
theorem dX4_isMissing_31 : decode cX4_isMissing 31 = .ok (.ireturn, 1) := by decide +kernel
set_option maxHeartbeats 4000000 in
set_option maxRecDepth 100000 in
theorem tX4_isMissing {l : Launch} {g : yG} {n : Nat} {σ : yM} (k : Nat) (w h : Int) (T S F P O : Int → Int → Int) (hn : 172 ≤ n) (hP : isPic k) (hA : rC σ k w h T S F P O) (a b : Int) (ha : -2147483648 ≤ a ∧ a < 2147483648) (hb : -2147483648 ≤ b ∧ b < 2147483648) : yMet l g yX4_isMissing cX4_isMissing 3 (some .boolean) (rmL 2) [yR g k, yI a, yI b] (SC g) n σ (SC g) (yPp (bi (sMi w h T a b)) n σ) := by
  obtain ⟨hw1, hw2, hw3, hw4⟩ := id hA.1.1
  refine y_start (by decide) (Nat.le_of_ble_eq_true rfl) (fun X0 hF => ?_)
  show yV X0 g 3 (yQ X0 g (SC g) (yPp (bi (sMi w h T a b)) n σ) (rmL 2)) (SC g) n σ 0 0 0 [(0, yR g k), (1, yI a), (2, yI b)] []
  refine y_aload_n (pc := 0) hF dX4_isMissing_0 0 rfl ?_
  refine y_iload_n (pc := 1) hF dX4_isMissing_1 1 rfl ?_
  refine y_iload_n (pc := 2) hF dX4_isMissing_2 2 rfl ?_
  refine y_cp (y_rV (pc := 3) hF (tX4_has k w h T S F P O hn hP hA a b (by assumption) (by assumption)) dX4_isMissing_3 (by have := hP.1; omega) (hP.2 g).1 rfl rfl w_784 qX4_has rfl ⟨Nat.le_of_ble_eq_true rfl, Nat.le_of_ble_eq_true rfl⟩ ⟨Nat.zero_le _, Nat.zero_le _⟩ (Nat.le_of_ble_eq_true rfl) rfl) ?_
  refine y_if_eq (pc := 6) hF dX4_isMissing_6 30 rfl bi_r (fun zc6 => ?_) (fun zc6 => ?_)
  · replace zc6 := bi_0.mp zc6
    refine y_iconst (pc := 30) hF dX4_isMissing_30 ?_
    exact y_zret (pc := 31) hF dX4_isMissing_31 (by decide) (Nat.zero_le _) (Nat.zero_le _) ⟨_, rfl, by rw [show sMi w h T a b = false by simp [sMi, *]]; rfl, rfl, rfl⟩
  · replace zc6 := bi_n0.mp zc6
    have zb9 := sIn_iff.mp zc6
    have zi9 := y_ix ⟨hw1, hw2⟩ ⟨hw3, hw4⟩ ⟨zb9.1, zb9.2.1⟩ zb9.2.2
    have zt9 := (hA.1.2 a b zb9.1 zb9.2.1 zb9.2.2.1 zb9.2.2.2).1
    refine y_aload_n (pc := 9) hF dX4_isMissing_9 0 rfl ?_
    refine y_get (pc := 10) (ci := 4) hF dX4_isMissing_10 (by have := hP.1; omega) (hP.2 g).1 rfl rfl iX4 2 (by decide) w_218 rfl ?_
    refine y_iload_n (pc := 13) hF dX4_isMissing_13 2 rfl ?_
    refine y_aload_n (pc := 14) hF dX4_isMissing_14 0 rfl ?_
    refine y_get (pc := 15) (ci := 4) hF dX4_isMissing_15 (by have := hP.1; omega) (hP.2 g).1 rfl rfl iX4 0 (by decide) w_210 rfl ?_
    rw [show σ k 0 = w from hA.2.1]
    refine y_imul (pc := 18) hF dX4_isMissing_18 ?_
    refine y_iload_n (pc := 19) hF dX4_isMissing_19 1 rfl ?_
    refine y_iadd (pc := 20) hF dX4_isMissing_20 ?_
    refine y_iaload (pc := 21) hF dX4_isMissing_21 (by have := hP.1; omega) (hP.2 g).2.1 (by omega) (by decide) ?_
    rw [show σ (k + 1) ((b * w) + a) = T a b from (hA.2.2.2 a b zb9.1 zb9.2.1 zb9.2.2.1 zb9.2.2.2).1]
    refine y_iconst (pc := 22) hF dX4_isMissing_22 ?_
    refine y_icmp_ne (pc := 23) hF dX4_isMissing_23 30 rfl (by omega) (by omega) (fun zc23 => ?_) (fun zc23 => ?_)
    · skip
      refine y_iconst (pc := 30) hF dX4_isMissing_30 ?_
      exact y_zret (pc := 31) hF dX4_isMissing_31 (by decide) (Nat.zero_le _) (Nat.zero_le _) ⟨_, rfl, by rw [show sMi w h T a b = false by simp [sMi, *]]; rfl, rfl, rfl⟩
    · skip
      refine y_iconst (pc := 26) hF dX4_isMissing_26 ?_
      refine y_goto (pc := 27) hF dX4_isMissing_27 31 rfl ?_
      exact y_zret (pc := 31) hF dX4_isMissing_31 (by decide) (Nat.zero_le _) (Nat.zero_le _) ⟨_, rfl, by rw [show sMi w h T a b = true by simp [sMi, *]]; rfl, rfl, rfl⟩

theorem dX4_xOf_0 : decode cX4_xOf 0 = .ok (.iload_n 1, 1) := by decide +kernel
theorem dX4_xOf_1 : decode cX4_xOf 1 = .ok (.ifCond .lt 10, 3) := by decide +kernel
theorem dX4_xOf_4 : decode cX4_xOf 4 = .ok (.aload_n 0, 1) := by decide +kernel
theorem dX4_xOf_5 : decode cX4_xOf 5 = .ok (.getfield 9, 3) := by decide +kernel
theorem dX4_xOf_8 : decode cX4_xOf 8 = .ok (.ifCond .gt 7, 3) := by decide +kernel
theorem dX4_xOf_11 : decode cX4_xOf 11 = .ok (.iconst (-1), 1) := by decide +kernel
theorem dX4_xOf_12 : decode cX4_xOf 12 = .ok (.goto 9, 3) := by decide +kernel
theorem dX4_xOf_15 : decode cX4_xOf 15 = .ok (.iload_n 1, 1) := by decide +kernel
theorem dX4_xOf_16 : decode cX4_xOf 16 = .ok (.aload_n 0, 1) := by decide +kernel
theorem dX4_xOf_17 : decode cX4_xOf 17 = .ok (.getfield 9, 3) := by decide +kernel
theorem dX4_xOf_20 : decode cX4_xOf 20 = .ok (.irem, 1) := by decide +kernel
theorem dX4_xOf_21 : decode cX4_xOf 21 = .ok (.ireturn, 1) := by decide +kernel
set_option maxHeartbeats 4000000 in
set_option maxRecDepth 100000 in
theorem tX4_xOf {l : Launch} {g : yG} {n : Nat} {σ : yM} (k : Nat) (w h : Int) (T S F P O : Int → Int → Int) (hn : 172 ≤ n) (hP : isPic k) (hA : rC σ k w h T S F P O) (a : Int) (ha : -2147483648 ≤ a ∧ a < 2147483648) : yMet l g yX4_xOf cX4_xOf 2 (some .int) (rmL 1) [yR g k, yI a] (SC g) n σ (SC g) (yPp (cx w a) n σ) := by
  obtain ⟨hw1, hw2, hw3, hw4⟩ := id hA.1.1
  refine y_start (by decide) (Nat.le_of_ble_eq_true rfl) (fun X0 hF => ?_)
  show yV X0 g 2 (yQ X0 g (SC g) (yPp (cx w a) n σ) (rmL 1)) (SC g) n σ 0 0 0 [(0, yR g k), (1, yI a)] []
  refine y_iload_n (pc := 0) hF dX4_xOf_0 1 rfl ?_
  refine y_if_lt (pc := 1) hF dX4_xOf_1 11 rfl (by omega) (fun zc1 => ?_) (fun zc1 => ?_)
  · skip
    refine y_iconst (pc := 11) hF dX4_xOf_11 ?_
    refine y_goto (pc := 12) hF dX4_xOf_12 21 rfl ?_
    exact y_iret (pc := 21) hF dX4_xOf_21 (Nat.zero_le _) (Nat.zero_le _) ⟨_, rfl, by first | (exfalso; omega) | (unfold cx; rw [if_pos (by omega)]) | (unfold cx; rw [if_neg (by omega), y_rem (by omega) (by omega)]), rfl, rfl⟩
  · skip
    refine y_aload_n (pc := 4) hF dX4_xOf_4 0 rfl ?_
    refine y_get (pc := 5) (ci := 4) hF dX4_xOf_5 (by have := hP.1; omega) (hP.2 g).1 rfl rfl iX4 0 (by decide) w_210 rfl ?_
    rw [show σ k 0 = w from hA.2.1]
    refine y_if_gt (pc := 8) hF dX4_xOf_8 15 rfl (by omega) (fun zc8 => ?_) (fun zc8 => ?_)
    · skip
      refine y_iload_n (pc := 15) hF dX4_xOf_15 1 rfl ?_
      refine y_aload_n (pc := 16) hF dX4_xOf_16 0 rfl ?_
      refine y_get (pc := 17) (ci := 4) hF dX4_xOf_17 (by have := hP.1; omega) (hP.2 g).1 rfl rfl iX4 0 (by decide) w_210 rfl ?_
      rw [show σ k 0 = w from hA.2.1]
      refine y_irem (pc := 20) hF dX4_xOf_20 (by omega) (by omega) (by omega) ?_
      exact y_iret (pc := 21) hF dX4_xOf_21 (Nat.zero_le _) (Nat.zero_le _) ⟨_, rfl, by first | (exfalso; omega) | (unfold cx; rw [if_pos (by omega)]) | (unfold cx; rw [if_neg (by omega), y_rem (by omega) (by omega)]), rfl, rfl⟩
    · skip
      refine y_iconst (pc := 11) hF dX4_xOf_11 ?_
      refine y_goto (pc := 12) hF dX4_xOf_12 21 rfl ?_
      exact y_iret (pc := 21) hF dX4_xOf_21 (Nat.zero_le _) (Nat.zero_le _) ⟨_, rfl, by first | (exfalso; omega) | (unfold cx; rw [if_pos (by omega)]) | (unfold cx; rw [if_neg (by omega), y_rem (by omega) (by omega)]), rfl, rfl⟩

theorem dX4_yOf_0 : decode cX4_yOf 0 = .ok (.iload_n 1, 1) := by decide +kernel
theorem dX4_yOf_1 : decode cX4_yOf 1 = .ok (.ifCond .lt 10, 3) := by decide +kernel
theorem dX4_yOf_4 : decode cX4_yOf 4 = .ok (.aload_n 0, 1) := by decide +kernel
theorem dX4_yOf_5 : decode cX4_yOf 5 = .ok (.getfield 9, 3) := by decide +kernel
theorem dX4_yOf_8 : decode cX4_yOf 8 = .ok (.ifCond .gt 7, 3) := by decide +kernel
theorem dX4_yOf_11 : decode cX4_yOf 11 = .ok (.iconst (-1), 1) := by decide +kernel
theorem dX4_yOf_12 : decode cX4_yOf 12 = .ok (.goto 9, 3) := by decide +kernel
theorem dX4_yOf_15 : decode cX4_yOf 15 = .ok (.iload_n 1, 1) := by decide +kernel
theorem dX4_yOf_16 : decode cX4_yOf 16 = .ok (.aload_n 0, 1) := by decide +kernel
theorem dX4_yOf_17 : decode cX4_yOf 17 = .ok (.getfield 9, 3) := by decide +kernel
theorem dX4_yOf_20 : decode cX4_yOf 20 = .ok (.idiv, 1) := by decide +kernel
theorem dX4_yOf_21 : decode cX4_yOf 21 = .ok (.ireturn, 1) := by decide +kernel
set_option maxHeartbeats 4000000 in
set_option maxRecDepth 100000 in
theorem tX4_yOf {l : Launch} {g : yG} {n : Nat} {σ : yM} (k : Nat) (w h : Int) (T S F P O : Int → Int → Int) (hn : 172 ≤ n) (hP : isPic k) (hA : rC σ k w h T S F P O) (a : Int) (ha : -2147483648 ≤ a ∧ a < 2147483648) : yMet l g yX4_yOf cX4_yOf 2 (some .int) (rmL 1) [yR g k, yI a] (SC g) n σ (SC g) (yPp (cy w a) n σ) := by
  obtain ⟨hw1, hw2, hw3, hw4⟩ := id hA.1.1
  refine y_start (by decide) (Nat.le_of_ble_eq_true rfl) (fun X0 hF => ?_)
  show yV X0 g 2 (yQ X0 g (SC g) (yPp (cy w a) n σ) (rmL 1)) (SC g) n σ 0 0 0 [(0, yR g k), (1, yI a)] []
  refine y_iload_n (pc := 0) hF dX4_yOf_0 1 rfl ?_
  refine y_if_lt (pc := 1) hF dX4_yOf_1 11 rfl (by omega) (fun zc1 => ?_) (fun zc1 => ?_)
  · skip
    refine y_iconst (pc := 11) hF dX4_yOf_11 ?_
    refine y_goto (pc := 12) hF dX4_yOf_12 21 rfl ?_
    exact y_iret (pc := 21) hF dX4_yOf_21 (Nat.zero_le _) (Nat.zero_le _) ⟨_, rfl, by first | (exfalso; omega) | (unfold cy; rw [if_pos (by omega)]) | (unfold cy; rw [if_neg (by omega), y_quo (by omega)]), rfl, rfl⟩
  · skip
    refine y_aload_n (pc := 4) hF dX4_yOf_4 0 rfl ?_
    refine y_get (pc := 5) (ci := 4) hF dX4_yOf_5 (by have := hP.1; omega) (hP.2 g).1 rfl rfl iX4 0 (by decide) w_210 rfl ?_
    rw [show σ k 0 = w from hA.2.1]
    refine y_if_gt (pc := 8) hF dX4_yOf_8 15 rfl (by omega) (fun zc8 => ?_) (fun zc8 => ?_)
    · skip
      refine y_iload_n (pc := 15) hF dX4_yOf_15 1 rfl ?_
      refine y_aload_n (pc := 16) hF dX4_yOf_16 0 rfl ?_
      refine y_get (pc := 17) (ci := 4) hF dX4_yOf_17 (by have := hP.1; omega) (hP.2 g).1 rfl rfl iX4 0 (by decide) w_210 rfl ?_
      rw [show σ k 0 = w from hA.2.1]
      refine y_idiv (pc := 20) hF dX4_yOf_20 (by omega) (by omega) (by omega) ?_
      exact y_iret (pc := 21) hF dX4_yOf_21 (Nat.zero_le _) (Nat.zero_le _) ⟨_, rfl, by first | (exfalso; omega) | (unfold cy; rw [if_pos (by omega)]) | (unfold cy; rw [if_neg (by omega), y_quo (by omega)]), rfl, rfl⟩
    · skip
      refine y_iconst (pc := 11) hF dX4_yOf_11 ?_
      refine y_goto (pc := 12) hF dX4_yOf_12 21 rfl ?_
      exact y_iret (pc := 21) hF dX4_yOf_21 (Nat.zero_le _) (Nat.zero_le _) ⟨_, rfl, by first | (exfalso; omega) | (unfold cy; rw [if_pos (by omega)]) | (unfold cy; rw [if_neg (by omega), y_quo (by omega)]), rfl, rfl⟩

theorem dX4_isOnFront_0 : decode cX4_isOnFront 0 = .ok (.aload_n 0, 1) := by decide +kernel
theorem dX4_isOnFront_1 : decode cX4_isOnFront 1 = .ok (.iload_n 1, 1) := by decide +kernel
theorem dX4_isOnFront_2 : decode cX4_isOnFront 2 = .ok (.iload_n 2, 1) := by decide +kernel
theorem dX4_isOnFront_3 : decode cX4_isOnFront 3 = .ok (.invokevirtual 44, 3) := by decide +kernel
theorem dX4_isOnFront_6 : decode cX4_isOnFront 6 = .ok (.ifCond .eq 51, 3) := by decide +kernel
theorem dX4_isOnFront_9 : decode cX4_isOnFront 9 = .ok (.aload_n 0, 1) := by decide +kernel
theorem dX4_isOnFront_10 : decode cX4_isOnFront 10 = .ok (.iload_n 1, 1) := by decide +kernel
theorem dX4_isOnFront_11 : decode cX4_isOnFront 11 = .ok (.iload_n 2, 1) := by decide +kernel
theorem dX4_isOnFront_12 : decode cX4_isOnFront 12 = .ok (.iconst 1, 1) := by decide +kernel
theorem dX4_isOnFront_13 : decode cX4_isOnFront 13 = .ok (.isub, 1) := by decide +kernel
theorem dX4_isOnFront_14 : decode cX4_isOnFront 14 = .ok (.invokevirtual 47, 3) := by decide +kernel
theorem dX4_isOnFront_17 : decode cX4_isOnFront 17 = .ok (.ifCond .ne 36, 3) := by decide +kernel
theorem dX4_isOnFront_20 : decode cX4_isOnFront 20 = .ok (.aload_n 0, 1) := by decide +kernel
theorem dX4_isOnFront_21 : decode cX4_isOnFront 21 = .ok (.iload_n 1, 1) := by decide +kernel
theorem dX4_isOnFront_22 : decode cX4_isOnFront 22 = .ok (.iconst 1, 1) := by decide +kernel
theorem dX4_isOnFront_23 : decode cX4_isOnFront 23 = .ok (.isub, 1) := by decide +kernel
theorem dX4_isOnFront_24 : decode cX4_isOnFront 24 = .ok (.iload_n 2, 1) := by decide +kernel
theorem dX4_isOnFront_25 : decode cX4_isOnFront 25 = .ok (.invokevirtual 47, 3) := by decide +kernel
theorem dX4_isOnFront_28 : decode cX4_isOnFront 28 = .ok (.ifCond .ne 25, 3) := by decide +kernel
theorem dX4_isOnFront_31 : decode cX4_isOnFront 31 = .ok (.aload_n 0, 1) := by decide +kernel
theorem dX4_isOnFront_32 : decode cX4_isOnFront 32 = .ok (.iload_n 1, 1) := by decide +kernel
theorem dX4_isOnFront_33 : decode cX4_isOnFront 33 = .ok (.iconst 1, 1) := by decide +kernel
theorem dX4_isOnFront_34 : decode cX4_isOnFront 34 = .ok (.iadd, 1) := by decide +kernel
theorem dX4_isOnFront_35 : decode cX4_isOnFront 35 = .ok (.iload_n 2, 1) := by decide +kernel
theorem dX4_isOnFront_36 : decode cX4_isOnFront 36 = .ok (.invokevirtual 47, 3) := by decide +kernel
theorem dX4_isOnFront_39 : decode cX4_isOnFront 39 = .ok (.ifCond .ne 14, 3) := by decide +kernel
theorem dX4_isOnFront_42 : decode cX4_isOnFront 42 = .ok (.aload_n 0, 1) := by decide +kernel
theorem dX4_isOnFront_43 : decode cX4_isOnFront 43 = .ok (.iload_n 1, 1) := by decide +kernel
theorem dX4_isOnFront_44 : decode cX4_isOnFront 44 = .ok (.iload_n 2, 1) := by decide +kernel
theorem dX4_isOnFront_45 : decode cX4_isOnFront 45 = .ok (.iconst 1, 1) := by decide +kernel
theorem dX4_isOnFront_46 : decode cX4_isOnFront 46 = .ok (.iadd, 1) := by decide +kernel
theorem dX4_isOnFront_47 : decode cX4_isOnFront 47 = .ok (.invokevirtual 47, 3) := by decide +kernel
theorem dX4_isOnFront_50 : decode cX4_isOnFront 50 = .ok (.ifCond .eq 7, 3) := by decide +kernel
theorem dX4_isOnFront_53 : decode cX4_isOnFront 53 = .ok (.iconst 1, 1) := by decide +kernel
theorem dX4_isOnFront_54 : decode cX4_isOnFront 54 = .ok (.goto 4, 3) := by decide +kernel
theorem dX4_isOnFront_57 : decode cX4_isOnFront 57 = .ok (.iconst 0, 1) := by decide +kernel
theorem dX4_isOnFront_58 : decode cX4_isOnFront 58 = .ok (.ireturn, 1) := by decide +kernel
set_option maxHeartbeats 4000000 in
set_option maxRecDepth 100000 in
theorem tX4_isOnFront {l : Launch} {g : yG} {n : Nat} {σ : yM} (k : Nat) (w h : Int) (T S F P O : Int → Int → Int) (hn : 172 ≤ n) (hP : isPic k) (hA : rC σ k w h T S F P O) (a b : Int) (ha : -1000000 ≤ a ∧ a ≤ 1000000) (hb : -1000000 ≤ b ∧ b ≤ 1000000) : yMet l g yX4_isOnFront cX4_isOnFront 3 (some .boolean) (rmL 3) [yR g k, yI a, yI b] (SC g) n σ (SC g) (yPp (bi (sFr w h T a b)) n σ) := by
  refine y_start (by decide) (Nat.le_of_ble_eq_true rfl) (fun X0 hF => ?_)
  show yV X0 g 3 (yQ X0 g (SC g) (yPp (bi (sFr w h T a b)) n σ) (rmL 3)) (SC g) n σ 0 0 0 [(0, yR g k), (1, yI a), (2, yI b)] []
  refine y_aload_n (pc := 0) hF dX4_isOnFront_0 0 rfl ?_
  refine y_iload_n (pc := 1) hF dX4_isOnFront_1 1 rfl ?_
  refine y_iload_n (pc := 2) hF dX4_isOnFront_2 2 rfl ?_
  refine y_cp (y_rV (pc := 3) hF (tX4_isMissing k w h T S F P O hn hP hA a b (by omega) (by omega)) dX4_isOnFront_3 (by have := hP.1; omega) (hP.2 g).1 rfl rfl w_862 qX4_isMissing rfl ⟨Nat.le_of_ble_eq_true rfl, Nat.le_of_ble_eq_true rfl⟩ ⟨Nat.zero_le _, Nat.zero_le _⟩ (Nat.le_of_ble_eq_true rfl) rfl) ?_
  refine y_if_eq (pc := 6) hF dX4_isOnFront_6 57 rfl bi_r (fun zc6 => ?_) (fun zc6 => ?_)
  · replace zc6 := bi_0.mp zc6
    refine y_iconst (pc := 57) hF dX4_isOnFront_57 ?_
    exact y_zret (pc := 58) hF dX4_isOnFront_58 (by decide) (Nat.zero_le _) (Nat.zero_le _) ⟨_, rfl, by rw [show sFr w h T a b = false by simp [sFr, *]]; rfl, rfl, rfl⟩
  · replace zc6 := bi_n0.mp zc6
    refine y_aload_n (pc := 9) hF dX4_isOnFront_9 0 rfl ?_
    refine y_iload_n (pc := 10) hF dX4_isOnFront_10 1 rfl ?_
    refine y_iload_n (pc := 11) hF dX4_isOnFront_11 2 rfl ?_
    refine y_iconst (pc := 12) hF dX4_isOnFront_12 ?_
    refine y_isub (pc := 13) hF dX4_isOnFront_13 ?_
    refine y_cp (y_rV (pc := 14) hF (tX4_isKnown k w h T S F P O hn hP hA a (b - 1) (by omega) (by omega)) dX4_isOnFront_14 (by have := hP.1; omega) (hP.2 g).1 rfl rfl w_841 qX4_isKnown rfl ⟨Nat.le_of_ble_eq_true rfl, Nat.le_of_ble_eq_true rfl⟩ ⟨Nat.zero_le _, Nat.zero_le _⟩ (Nat.le_of_ble_eq_true rfl) rfl) ?_
    refine y_if_ne (pc := 17) hF dX4_isOnFront_17 53 rfl bi_r (fun zc17 => ?_) (fun zc17 => ?_)
    · replace zc17 := bi_n0.mp zc17
      refine y_iconst (pc := 53) hF dX4_isOnFront_53 ?_
      refine y_goto (pc := 54) hF dX4_isOnFront_54 58 rfl ?_
      exact y_zret (pc := 58) hF dX4_isOnFront_58 (by decide) (Nat.zero_le _) (Nat.zero_le _) ⟨_, rfl, by rw [show sFr w h T a b = true by simp [sFr, *]]; rfl, rfl, rfl⟩
    · replace zc17 := bi_0.mp zc17
      refine y_aload_n (pc := 20) hF dX4_isOnFront_20 0 rfl ?_
      refine y_iload_n (pc := 21) hF dX4_isOnFront_21 1 rfl ?_
      refine y_iconst (pc := 22) hF dX4_isOnFront_22 ?_
      refine y_isub (pc := 23) hF dX4_isOnFront_23 ?_
      refine y_iload_n (pc := 24) hF dX4_isOnFront_24 2 rfl ?_
      refine y_cp (y_rV (pc := 25) hF (tX4_isKnown k w h T S F P O hn hP hA (a - 1) b (by omega) (by omega)) dX4_isOnFront_25 (by have := hP.1; omega) (hP.2 g).1 rfl rfl w_841 qX4_isKnown rfl ⟨Nat.le_of_ble_eq_true rfl, Nat.le_of_ble_eq_true rfl⟩ ⟨Nat.zero_le _, Nat.zero_le _⟩ (Nat.le_of_ble_eq_true rfl) rfl) ?_
      refine y_if_ne (pc := 28) hF dX4_isOnFront_28 53 rfl bi_r (fun zc28 => ?_) (fun zc28 => ?_)
      · replace zc28 := bi_n0.mp zc28
        refine y_iconst (pc := 53) hF dX4_isOnFront_53 ?_
        refine y_goto (pc := 54) hF dX4_isOnFront_54 58 rfl ?_
        exact y_zret (pc := 58) hF dX4_isOnFront_58 (by decide) (Nat.zero_le _) (Nat.zero_le _) ⟨_, rfl, by rw [show sFr w h T a b = true by simp [sFr, *]]; rfl, rfl, rfl⟩
      · replace zc28 := bi_0.mp zc28
        refine y_aload_n (pc := 31) hF dX4_isOnFront_31 0 rfl ?_
        refine y_iload_n (pc := 32) hF dX4_isOnFront_32 1 rfl ?_
        refine y_iconst (pc := 33) hF dX4_isOnFront_33 ?_
        refine y_iadd (pc := 34) hF dX4_isOnFront_34 ?_
        refine y_iload_n (pc := 35) hF dX4_isOnFront_35 2 rfl ?_
        refine y_cp (y_rV (pc := 36) hF (tX4_isKnown k w h T S F P O hn hP hA (a + 1) b (by omega) (by omega)) dX4_isOnFront_36 (by have := hP.1; omega) (hP.2 g).1 rfl rfl w_841 qX4_isKnown rfl ⟨Nat.le_of_ble_eq_true rfl, Nat.le_of_ble_eq_true rfl⟩ ⟨Nat.zero_le _, Nat.zero_le _⟩ (Nat.le_of_ble_eq_true rfl) rfl) ?_
        refine y_if_ne (pc := 39) hF dX4_isOnFront_39 53 rfl bi_r (fun zc39 => ?_) (fun zc39 => ?_)
        · replace zc39 := bi_n0.mp zc39
          refine y_iconst (pc := 53) hF dX4_isOnFront_53 ?_
          refine y_goto (pc := 54) hF dX4_isOnFront_54 58 rfl ?_
          exact y_zret (pc := 58) hF dX4_isOnFront_58 (by decide) (Nat.zero_le _) (Nat.zero_le _) ⟨_, rfl, by rw [show sFr w h T a b = true by simp [sFr, *]]; rfl, rfl, rfl⟩
        · replace zc39 := bi_0.mp zc39
          refine y_aload_n (pc := 42) hF dX4_isOnFront_42 0 rfl ?_
          refine y_iload_n (pc := 43) hF dX4_isOnFront_43 1 rfl ?_
          refine y_iload_n (pc := 44) hF dX4_isOnFront_44 2 rfl ?_
          refine y_iconst (pc := 45) hF dX4_isOnFront_45 ?_
          refine y_iadd (pc := 46) hF dX4_isOnFront_46 ?_
          refine y_cp (y_rV (pc := 47) hF (tX4_isKnown k w h T S F P O hn hP hA a (b + 1) (by omega) (by omega)) dX4_isOnFront_47 (by have := hP.1; omega) (hP.2 g).1 rfl rfl w_841 qX4_isKnown rfl ⟨Nat.le_of_ble_eq_true rfl, Nat.le_of_ble_eq_true rfl⟩ ⟨Nat.zero_le _, Nat.zero_le _⟩ (Nat.le_of_ble_eq_true rfl) rfl) ?_
          refine y_if_eq (pc := 50) hF dX4_isOnFront_50 57 rfl bi_r (fun zc50 => ?_) (fun zc50 => ?_)
          · replace zc50 := bi_0.mp zc50
            refine y_iconst (pc := 57) hF dX4_isOnFront_57 ?_
            exact y_zret (pc := 58) hF dX4_isOnFront_58 (by decide) (Nat.zero_le _) (Nat.zero_le _) ⟨_, rfl, by rw [show sFr w h T a b = false by simp [sFr, *]]; rfl, rfl, rfl⟩
          · replace zc50 := bi_n0.mp zc50
            refine y_iconst (pc := 53) hF dX4_isOnFront_53 ?_
            refine y_goto (pc := 54) hF dX4_isOnFront_54 58 rfl ?_
            exact y_zret (pc := 58) hF dX4_isOnFront_58 (by decide) (Nat.zero_le _) (Nat.zero_le _) ⟨_, rfl, by rw [show sFr w h T a b = true by simp [sFr, *]]; rfl, rfl, rfl⟩

theorem dX4_countMissing_0 : decode cX4_countMissing 0 = .ok (.iconst 0, 1) := by decide +kernel
theorem dX4_countMissing_1 : decode cX4_countMissing 1 = .ok (.istore_n 1, 1) := by decide +kernel
theorem dX4_countMissing_2 : decode cX4_countMissing 2 = .ok (.iconst 0, 1) := by decide +kernel
theorem dX4_countMissing_3 : decode cX4_countMissing 3 = .ok (.istore_n 2, 1) := by decide +kernel
theorem dX4_countMissing_4 : decode cX4_countMissing 4 = .ok (.iload_n 2, 1) := by decide +kernel
theorem dX4_countMissing_5 : decode cX4_countMissing 5 = .ok (.aload_n 0, 1) := by decide +kernel
theorem dX4_countMissing_6 : decode cX4_countMissing 6 = .ok (.invokevirtual 50, 3) := by decide +kernel
theorem dX4_countMissing_9 : decode cX4_countMissing 9 = .ok (.if_icmp .ge 27, 3) := by decide +kernel
theorem dX4_countMissing_12 : decode cX4_countMissing 12 = .ok (.iload_n 1, 1) := by decide +kernel
theorem dX4_countMissing_13 : decode cX4_countMissing 13 = .ok (.aload_n 0, 1) := by decide +kernel
theorem dX4_countMissing_14 : decode cX4_countMissing 14 = .ok (.getfield 18, 3) := by decide +kernel
theorem dX4_countMissing_17 : decode cX4_countMissing 17 = .ok (.iload_n 2, 1) := by decide +kernel
theorem dX4_countMissing_18 : decode cX4_countMissing 18 = .ok (.iaload, 1) := by decide +kernel
theorem dX4_countMissing_19 : decode cX4_countMissing 19 = .ok (.iconst (-1), 1) := by decide +kernel
theorem dX4_countMissing_20 : decode cX4_countMissing 20 = .ok (.if_icmp .ne 7, 3) := by decide +kernel
theorem dX4_countMissing_23 : decode cX4_countMissing 23 = .ok (.iconst 1, 1) := by decide +kernel
theorem dX4_countMissing_24 : decode cX4_countMissing 24 = .ok (.goto 4, 3) := by decide +kernel
theorem dX4_countMissing_27 : decode cX4_countMissing 27 = .ok (.iconst 0, 1) := by decide +kernel
theorem dX4_countMissing_28 : decode cX4_countMissing 28 = .ok (.iadd, 1) := by decide +kernel
theorem dX4_countMissing_29 : decode cX4_countMissing 29 = .ok (.istore_n 1, 1) := by decide +kernel
theorem dX4_countMissing_30 : decode cX4_countMissing 30 = .ok (.iinc 2 1, 3) := by decide +kernel
theorem dX4_countMissing_33 : decode cX4_countMissing 33 = .ok (.goto (-29), 3) := by decide +kernel
theorem dX4_countMissing_36 : decode cX4_countMissing 36 = .ok (.iload_n 1, 1) := by decide +kernel
theorem dX4_countMissing_37 : decode cX4_countMissing 37 = .ok (.ireturn, 1) := by decide +kernel
set_option maxHeartbeats 4000000 in
set_option maxRecDepth 100000 in
theorem tX4_countMissing {l : Launch} {g : yG} {n : Nat} {σ : yM} (k : Nat) (w h : Int) (T S F P O : Int → Int → Int) (hn : 172 ≤ n) (hP : isPic k) (hA : rC σ k w h T S F P O) : yMet l g yX4_countMissing cX4_countMissing 3 (some .int) (rmL 2) [yR g k] (SC g) n σ (SC g) (yPp (sCt w h (fun x y => decide (T x y = -1))) n σ) := by
  obtain ⟨hw1, hw2, hw3, hw4⟩ := id hA.1.1
  have zwh := y_wh ⟨hw1, hw2⟩ ⟨hw3, hw4⟩
  refine y_start (by decide) (Nat.le_of_ble_eq_true rfl) (fun X0 hF => ?_)
  show yV X0 g 3 (yQ X0 g (SC g) (yPp (sCt w h (fun x y => decide (T x y = -1))) n σ) (rmL 2)) (SC g) n σ 0 0 0 [(0, yR g k)] []
  refine y_iconst (pc := 0) hF dX4_countMissing_0 ?_
  refine y_istore_n (pc := 1) (lv' := [(0, yR g k), (1, yI 0)]) hF dX4_countMissing_1 (by decide) rfl rfl ?_
  refine y_iconst (pc := 2) hF dX4_countMissing_2 ?_
  refine y_istore_n (pc := 3) (lv' := [(0, yR g k), (1, yI 0), (2, yI 0)]) hF dX4_countMissing_3 (by decide) rfl rfl ?_
  have zL4 : ∀ (N : Nat) (i c : Int), N = (w * h - i).toNat → (0 ≤ i ∧ i ≤ w * h ∧ c = fr (fun s i => s + bi ((fun x y => decide (T x y = -1)) (i % w) (i / w))) 0 i.toNat 0) → yV X0 g 3 (yQ X0 g (SC g) (yPp (sCt w h (fun x y => decide (T x y = -1))) n σ) (rmL 2)) (SC g) n σ 0 0 4 [(0, yR g k), (1, yI c), (2, yI i)] [] := by
    intro N
    induction N using Nat.strongRecOn with
    | ind N zh4 =>
      intro i c  zN4 zI4
      refine y_iload_n (pc := 4) hF dX4_countMissing_4 2 rfl ?_
      refine y_aload_n (pc := 5) hF dX4_countMissing_5 0 rfl ?_
      refine y_cp (y_rV (pc := 6) hF (tX4_dots k w h T S F P O hn hP hA) dX4_countMissing_6 (by have := hP.1; omega) (hP.2 g).1 rfl rfl w_560 qX4_dots rfl ⟨Nat.le_of_ble_eq_true rfl, Nat.le_of_ble_eq_true rfl⟩ ⟨Nat.zero_le _, Nat.zero_le _⟩ (Nat.le_of_ble_eq_true rfl) rfl) ?_
      refine y_icmp_ge (pc := 9) hF dX4_countMissing_9 36 rfl (by omega) (by omega) (fun zc9 => ?_) (fun zc9 => ?_)
      · skip
        refine y_iload_n (pc := 36) hF dX4_countMissing_36 1 rfl ?_
        exact y_iret (pc := 37) hF dX4_countMissing_37 (Nat.zero_le _) (Nat.zero_le _) ⟨_, rfl, by rw [zI4.2.2, show i = w * h by omega]; exact cnt_lin2 (w := w) (h := h) (fun x y => decide (T x y = -1)) (by omega) (by omega), rfl, rfl⟩
      · skip
        have zd12 := y_de (h := h) hw1 zI4.1 (by omega)
        have zt12 := (hA.1.2 (i % w) (i / w) zd12.2.1 zd12.2.2.1 zd12.2.2.2.1 zd12.2.2.2.2).1
        refine y_iload_n (pc := 12) hF dX4_countMissing_12 1 rfl ?_
        refine y_aload_n (pc := 13) hF dX4_countMissing_13 0 rfl ?_
        refine y_get (pc := 14) (ci := 4) hF dX4_countMissing_14 (by have := hP.1; omega) (hP.2 g).1 rfl rfl iX4 2 (by decide) w_218 rfl ?_
        refine y_iload_n (pc := 17) hF dX4_countMissing_17 2 rfl ?_
        refine y_iaload (pc := 18) hF dX4_countMissing_18 (by have := hP.1; omega) (hP.2 g).2.1 (by omega) (by decide) ?_
        rw [show σ (k + 1) i = T (i % w) (i / w) from (hA.at zI4.1 (by omega)).1]
        refine y_iconst (pc := 19) hF dX4_countMissing_19 ?_
        refine y_t_icmp_ne (pc := 20) hF dX4_countMissing_20 dX4_countMissing_23 dX4_countMissing_24 dX4_countMissing_27 (by omega) (by omega) ?_
        rw [show (if (T (i % w) (i / w)) ≠ (-1) then 0 else 1) = bi (decide (T (i % w) (i / w) = -1)) from (by by_cases zq : T (i % w) (i / w) = -1 <;> simp [zq, bi] <;> omega)]
        refine y_iadd (pc := 28) hF dX4_countMissing_28 ?_
        refine y_istore_n (pc := 29) (lv' := [(0, yR g k), (1, yI (c + (bi (decide (T (i % w) (i / w) = -1))))), (2, yI i)]) hF dX4_countMissing_29 (by decide) rfl rfl ?_
        refine y_iinc (pc := 30) (lv' := [(0, yR g k), (1, yI (c + (bi (decide (T (i % w) (i / w) = -1))))), (2, yI (i + 1))]) hF dX4_countMissing_30 2 rfl (by decide) rfl rfl ?_
        refine y_goto (pc := 33) hF dX4_countMissing_33 4 rfl ?_
        exact zh4 _ (by omega) (i + 1) (c + (bi (decide (T (i % w) (i / w) = -1)))) rfl ⟨by omega, by omega, by rw [fr_up _ _ _ _ zI4.1, ← zI4.2.2, Int.zero_add]⟩
  exact zL4 _ (0) (0) rfl ⟨by omega, by omega, rfl⟩

theorem dX4_countFilledIn_0 : decode cX4_countFilledIn 0 = .ok (.iconst 0, 1) := by decide +kernel
theorem dX4_countFilledIn_1 : decode cX4_countFilledIn 1 = .ok (.istore_n 1, 1) := by decide +kernel
theorem dX4_countFilledIn_2 : decode cX4_countFilledIn 2 = .ok (.iconst 0, 1) := by decide +kernel
theorem dX4_countFilledIn_3 : decode cX4_countFilledIn 3 = .ok (.istore_n 2, 1) := by decide +kernel
theorem dX4_countFilledIn_4 : decode cX4_countFilledIn 4 = .ok (.iload_n 2, 1) := by decide +kernel
theorem dX4_countFilledIn_5 : decode cX4_countFilledIn 5 = .ok (.aload_n 0, 1) := by decide +kernel
theorem dX4_countFilledIn_6 : decode cX4_countFilledIn 6 = .ok (.invokevirtual 50, 3) := by decide +kernel
theorem dX4_countFilledIn_9 : decode cX4_countFilledIn 9 = .ok (.if_icmp .ge 26, 3) := by decide +kernel
theorem dX4_countFilledIn_12 : decode cX4_countFilledIn 12 = .ok (.iload_n 1, 1) := by decide +kernel
theorem dX4_countFilledIn_13 : decode cX4_countFilledIn 13 = .ok (.aload_n 0, 1) := by decide +kernel
theorem dX4_countFilledIn_14 : decode cX4_countFilledIn 14 = .ok (.getfield 25, 3) := by decide +kernel
theorem dX4_countFilledIn_17 : decode cX4_countFilledIn 17 = .ok (.iload_n 2, 1) := by decide +kernel
theorem dX4_countFilledIn_18 : decode cX4_countFilledIn 18 = .ok (.iaload, 1) := by decide +kernel
theorem dX4_countFilledIn_19 : decode cX4_countFilledIn 19 = .ok (.ifCond .le 7, 3) := by decide +kernel
theorem dX4_countFilledIn_22 : decode cX4_countFilledIn 22 = .ok (.iconst 1, 1) := by decide +kernel
theorem dX4_countFilledIn_23 : decode cX4_countFilledIn 23 = .ok (.goto 4, 3) := by decide +kernel
theorem dX4_countFilledIn_26 : decode cX4_countFilledIn 26 = .ok (.iconst 0, 1) := by decide +kernel
theorem dX4_countFilledIn_27 : decode cX4_countFilledIn 27 = .ok (.iadd, 1) := by decide +kernel
theorem dX4_countFilledIn_28 : decode cX4_countFilledIn 28 = .ok (.istore_n 1, 1) := by decide +kernel
theorem dX4_countFilledIn_29 : decode cX4_countFilledIn 29 = .ok (.iinc 2 1, 3) := by decide +kernel
theorem dX4_countFilledIn_32 : decode cX4_countFilledIn 32 = .ok (.goto (-28), 3) := by decide +kernel
theorem dX4_countFilledIn_35 : decode cX4_countFilledIn 35 = .ok (.iload_n 1, 1) := by decide +kernel
theorem dX4_countFilledIn_36 : decode cX4_countFilledIn 36 = .ok (.ireturn, 1) := by decide +kernel
set_option maxHeartbeats 4000000 in
set_option maxRecDepth 100000 in
theorem tX4_countFilledIn {l : Launch} {g : yG} {n : Nat} {σ : yM} (k : Nat) (w h : Int) (T S F P O : Int → Int → Int) (hn : 172 ≤ n) (hP : isPic k) (hA : rC σ k w h T S F P O) : yMet l g yX4_countFilledIn cX4_countFilledIn 3 (some .int) (rmL 2) [yR g k] (SC g) n σ (SC g) (yPp (sCt w h (fun x y => decide (0 < F x y))) n σ) := by
  obtain ⟨hw1, hw2, hw3, hw4⟩ := id hA.1.1
  have zwh := y_wh ⟨hw1, hw2⟩ ⟨hw3, hw4⟩
  refine y_start (by decide) (Nat.le_of_ble_eq_true rfl) (fun X0 hF => ?_)
  show yV X0 g 3 (yQ X0 g (SC g) (yPp (sCt w h (fun x y => decide (0 < F x y))) n σ) (rmL 2)) (SC g) n σ 0 0 0 [(0, yR g k)] []
  refine y_iconst (pc := 0) hF dX4_countFilledIn_0 ?_
  refine y_istore_n (pc := 1) (lv' := [(0, yR g k), (1, yI 0)]) hF dX4_countFilledIn_1 (by decide) rfl rfl ?_
  refine y_iconst (pc := 2) hF dX4_countFilledIn_2 ?_
  refine y_istore_n (pc := 3) (lv' := [(0, yR g k), (1, yI 0), (2, yI 0)]) hF dX4_countFilledIn_3 (by decide) rfl rfl ?_
  have zL4 : ∀ (N : Nat) (i c : Int), N = (w * h - i).toNat → (0 ≤ i ∧ i ≤ w * h ∧ c = fr (fun s i => s + bi ((fun x y => decide (0 < F x y)) (i % w) (i / w))) 0 i.toNat 0) → yV X0 g 3 (yQ X0 g (SC g) (yPp (sCt w h (fun x y => decide (0 < F x y))) n σ) (rmL 2)) (SC g) n σ 0 0 4 [(0, yR g k), (1, yI c), (2, yI i)] [] := by
    intro N
    induction N using Nat.strongRecOn with
    | ind N zh4 =>
      intro i c  zN4 zI4
      refine y_iload_n (pc := 4) hF dX4_countFilledIn_4 2 rfl ?_
      refine y_aload_n (pc := 5) hF dX4_countFilledIn_5 0 rfl ?_
      refine y_cp (y_rV (pc := 6) hF (tX4_dots k w h T S F P O hn hP hA) dX4_countFilledIn_6 (by have := hP.1; omega) (hP.2 g).1 rfl rfl w_560 qX4_dots rfl ⟨Nat.le_of_ble_eq_true rfl, Nat.le_of_ble_eq_true rfl⟩ ⟨Nat.zero_le _, Nat.zero_le _⟩ (Nat.le_of_ble_eq_true rfl) rfl) ?_
      refine y_icmp_ge (pc := 9) hF dX4_countFilledIn_9 35 rfl (by omega) (by omega) (fun zc9 => ?_) (fun zc9 => ?_)
      · skip
        refine y_iload_n (pc := 35) hF dX4_countFilledIn_35 1 rfl ?_
        exact y_iret (pc := 36) hF dX4_countFilledIn_36 (Nat.zero_le _) (Nat.zero_le _) ⟨_, rfl, by rw [zI4.2.2, show i = w * h by omega]; exact cnt_lin2 (w := w) (h := h) (fun x y => decide (0 < F x y)) (by omega) (by omega), rfl, rfl⟩
      · skip
        have zd12 := y_de (h := h) hw1 zI4.1 (by omega)
        have zt12 := (hA.1.2 (i % w) (i / w) zd12.2.1 zd12.2.2.1 zd12.2.2.2.1 zd12.2.2.2.2).2.2.1
        refine y_iload_n (pc := 12) hF dX4_countFilledIn_12 1 rfl ?_
        refine y_aload_n (pc := 13) hF dX4_countFilledIn_13 0 rfl ?_
        refine y_get (pc := 14) (ci := 4) hF dX4_countFilledIn_14 (by have := hP.1; omega) (hP.2 g).1 rfl rfl iX4 4 (by decide) w_228 rfl ?_
        refine y_iload_n (pc := 17) hF dX4_countFilledIn_17 2 rfl ?_
        refine y_iaload (pc := 18) hF dX4_countFilledIn_18 (by have := hP.1; omega) (hP.2 g).2.2.2.1 (by omega) (by decide) ?_
        rw [show σ (k + 3) i = F (i % w) (i / w) from (hA.at zI4.1 (by omega)).2.2.1]
        refine y_t_if_le (pc := 19) hF dX4_countFilledIn_19 dX4_countFilledIn_22 dX4_countFilledIn_23 dX4_countFilledIn_26 (by omega) ?_
        rw [show (if (F (i % w) (i / w)) ≤ 0 then 0 else 1) = bi (decide (0 < F (i % w) (i / w))) from (by by_cases zq : 0 < F (i % w) (i / w) <;> simp [zq, bi] <;> omega)]
        refine y_iadd (pc := 27) hF dX4_countFilledIn_27 ?_
        refine y_istore_n (pc := 28) (lv' := [(0, yR g k), (1, yI (c + (bi (decide (0 < F (i % w) (i / w)))))), (2, yI i)]) hF dX4_countFilledIn_28 (by decide) rfl rfl ?_
        refine y_iinc (pc := 29) (lv' := [(0, yR g k), (1, yI (c + (bi (decide (0 < F (i % w) (i / w)))))), (2, yI (i + 1))]) hF dX4_countFilledIn_29 2 rfl (by decide) rfl rfl ?_
        refine y_goto (pc := 32) hF dX4_countFilledIn_32 4 rfl ?_
        exact zh4 _ (by omega) (i + 1) (c + (bi (decide (0 < F (i % w) (i / w))))) rfl ⟨by omega, by omega, by rw [fr_up _ _ _ _ zI4.1, ← zI4.2.2, Int.zero_add]⟩
  exact zL4 _ (0) (0) rfl ⟨by omega, by omega, rfl⟩

theorem dX4_give_0 : decode cX4_give 0 = .ok (.aload_n 0, 1) := by decide +kernel
theorem dX4_give_1 : decode cX4_give 1 = .ok (.getfield 18, 3) := by decide +kernel
theorem dX4_give_4 : decode cX4_give 4 = .ok (.iload_n 1, 1) := by decide +kernel
theorem dX4_give_5 : decode cX4_give 5 = .ok (.iload_n 2, 1) := by decide +kernel
theorem dX4_give_6 : decode cX4_give 6 = .ok (.iastore, 1) := by decide +kernel
theorem dX4_give_7 : decode cX4_give 7 = .ok (.aload_n 0, 1) := by decide +kernel
theorem dX4_give_8 : decode cX4_give 8 = .ok (.getfield 22, 3) := by decide +kernel
theorem dX4_give_11 : decode cX4_give 11 = .ok (.iload_n 1, 1) := by decide +kernel
theorem dX4_give_12 : decode cX4_give 12 = .ok (.iload_n 2, 1) := by decide +kernel
theorem dX4_give_13 : decode cX4_give 13 = .ok (.iconst (-1), 1) := by decide +kernel
theorem dX4_give_14 : decode cX4_give 14 = .ok (.if_icmp .ne 7, 3) := by decide +kernel
theorem dX4_give_17 : decode cX4_give 17 = .ok (.iconst 0, 1) := by decide +kernel
theorem dX4_give_18 : decode cX4_give 18 = .ok (.goto 6, 3) := by decide +kernel
theorem dX4_give_21 : decode cX4_give 21 = .ok (.sipush 1000, 3) := by decide +kernel
theorem dX4_give_24 : decode cX4_give 24 = .ok (.iastore, 1) := by decide +kernel
theorem dX4_give_25 : decode cX4_give 25 = .ok (.aload_n 0, 1) := by decide +kernel
theorem dX4_give_26 : decode cX4_give 26 = .ok (.getfield 25, 3) := by decide +kernel
theorem dX4_give_29 : decode cX4_give 29 = .ok (.iload_n 1, 1) := by decide +kernel
theorem dX4_give_30 : decode cX4_give 30 = .ok (.iconst 0, 1) := by decide +kernel
theorem dX4_give_31 : decode cX4_give 31 = .ok (.iastore, 1) := by decide +kernel
theorem dX4_give_32 : decode cX4_give 32 = .ok (.aload_n 0, 1) := by decide +kernel
theorem dX4_give_33 : decode cX4_give 33 = .ok (.getfield 28, 3) := by decide +kernel
theorem dX4_give_36 : decode cX4_give 36 = .ok (.iload_n 1, 1) := by decide +kernel
theorem dX4_give_37 : decode cX4_give 37 = .ok (.iconst (-1), 1) := by decide +kernel
theorem dX4_give_38 : decode cX4_give 38 = .ok (.iastore, 1) := by decide +kernel
theorem dX4_give_39 : decode cX4_give 39 = .ok (.aload_n 0, 1) := by decide +kernel
theorem dX4_give_40 : decode cX4_give 40 = .ok (.getfield 31, 3) := by decide +kernel
theorem dX4_give_43 : decode cX4_give 43 = .ok (.iload_n 1, 1) := by decide +kernel
theorem dX4_give_44 : decode cX4_give 44 = .ok (.iconst (-1), 1) := by decide +kernel
theorem dX4_give_45 : decode cX4_give 45 = .ok (.iastore, 1) := by decide +kernel
theorem dX4_give_46 : decode cX4_give 46 = .ok (.return_, 1) := by decide +kernel
set_option maxHeartbeats 4000000 in
set_option maxRecDepth 100000 in
theorem tX4_give {l : Launch} {g : yG} {n : Nat} {σ : yM} (k : Nat) (hn : 172 ≤ n) (hP : isPic k) (i t : Int) (hi : 0 ≤ i ∧ i < 400) (ht : -1 ≤ t ∧ t ≤ 255) : yMet l g yX4_give cX4_give 3 none (rmL 1) [yR g k, yI i, yI t] (SC g) n σ (SC g) (yPv (fun n' σ' => n' = n ∧ σ' = gv σ k i t)) := by
  refine y_start (by decide) (Nat.le_of_ble_eq_true rfl) (fun X0 hF => ?_)
  show yV X0 g 3 (yQ X0 g (SC g) (yPv (fun n' σ' => n' = n ∧ σ' = gv σ k i t)) (rmL 1)) (SC g) n σ 0 0 0 [(0, yR g k), (1, yI i), (2, yI t)] []
  refine y_aload_n (pc := 0) hF dX4_give_0 0 rfl ?_
  refine y_get (pc := 1) (ci := 4) hF dX4_give_1 (by have := hP.1; omega) (hP.2 g).1 rfl rfl iX4 2 (by decide) w_218 rfl ?_
  refine y_iload_n (pc := 4) hF dX4_give_4 1 rfl ?_
  refine y_iload_n (pc := 5) hF dX4_give_5 2 rfl ?_
  refine y_iastore (pc := 6) hF dX4_give_6 (by have := hP.1; omega) (hP.2 g).2.1 (by omega) (by decide) ?_
  refine y_aload_n (pc := 7) hF dX4_give_7 0 rfl ?_
  refine y_get (pc := 8) (ci := 4) hF dX4_give_8 (by have := hP.1; omega) (hP.2 g).1 rfl rfl iX4 3 (by decide) w_224 rfl ?_
  refine y_iload_n (pc := 11) hF dX4_give_11 1 rfl ?_
  refine y_iload_n (pc := 12) hF dX4_give_12 2 rfl ?_
  refine y_iconst (pc := 13) hF dX4_give_13 ?_
  refine y_icmp_ne (pc := 14) hF dX4_give_14 21 rfl (by omega) (by omega) (fun zc14 => ?_) (fun zc14 => ?_)
  · skip
    refine y_sipush (pc := 21) hF dX4_give_21 (by decide) ?_
    refine y_iastore (pc := 24) hF dX4_give_24 (by have := hP.1; omega) (hP.2 g).2.2.1 (by omega) (by decide) ?_
    refine y_aload_n (pc := 25) hF dX4_give_25 0 rfl ?_
    refine y_get (pc := 26) (ci := 4) hF dX4_give_26 (by have := hP.1; omega) (hP.2 g).1 rfl rfl iX4 4 (by decide) w_228 rfl ?_
    refine y_iload_n (pc := 29) hF dX4_give_29 1 rfl ?_
    refine y_iconst (pc := 30) hF dX4_give_30 ?_
    refine y_iastore (pc := 31) hF dX4_give_31 (by have := hP.1; omega) (hP.2 g).2.2.2.1 (by omega) (by decide) ?_
    refine y_aload_n (pc := 32) hF dX4_give_32 0 rfl ?_
    refine y_get (pc := 33) (ci := 4) hF dX4_give_33 (by have := hP.1; omega) (hP.2 g).1 rfl rfl iX4 5 (by decide) w_231 rfl ?_
    refine y_iload_n (pc := 36) hF dX4_give_36 1 rfl ?_
    refine y_iconst (pc := 37) hF dX4_give_37 ?_
    refine y_iastore (pc := 38) hF dX4_give_38 (by have := hP.1; omega) (hP.2 g).2.2.2.2.1 (by omega) (by decide) ?_
    refine y_aload_n (pc := 39) hF dX4_give_39 0 rfl ?_
    refine y_get (pc := 40) (ci := 4) hF dX4_give_40 (by have := hP.1; omega) (hP.2 g).1 rfl rfl iX4 6 (by decide) w_234 rfl ?_
    refine y_iload_n (pc := 43) hF dX4_give_43 1 rfl ?_
    refine y_iconst (pc := 44) hF dX4_give_44 ?_
    refine y_iastore (pc := 45) hF dX4_give_45 (by have := hP.1; omega) (hP.2 g).2.2.2.2.2 (by omega) (by decide) ?_
    exact y_vret (pc := 46) hF dX4_give_46 (Nat.zero_le _) (Nat.zero_le _) ⟨rfl, rfl, by unfold gv; first | rw [if_pos (by omega)] | rw [if_neg (by omega)]⟩
  · skip
    refine y_iconst (pc := 17) hF dX4_give_17 ?_
    refine y_goto (pc := 18) hF dX4_give_18 24 rfl ?_
    refine y_iastore (pc := 24) hF dX4_give_24 (by have := hP.1; omega) (hP.2 g).2.2.1 (by omega) (by decide) ?_
    refine y_aload_n (pc := 25) hF dX4_give_25 0 rfl ?_
    refine y_get (pc := 26) (ci := 4) hF dX4_give_26 (by have := hP.1; omega) (hP.2 g).1 rfl rfl iX4 4 (by decide) w_228 rfl ?_
    refine y_iload_n (pc := 29) hF dX4_give_29 1 rfl ?_
    refine y_iconst (pc := 30) hF dX4_give_30 ?_
    refine y_iastore (pc := 31) hF dX4_give_31 (by have := hP.1; omega) (hP.2 g).2.2.2.1 (by omega) (by decide) ?_
    refine y_aload_n (pc := 32) hF dX4_give_32 0 rfl ?_
    refine y_get (pc := 33) (ci := 4) hF dX4_give_33 (by have := hP.1; omega) (hP.2 g).1 rfl rfl iX4 5 (by decide) w_231 rfl ?_
    refine y_iload_n (pc := 36) hF dX4_give_36 1 rfl ?_
    refine y_iconst (pc := 37) hF dX4_give_37 ?_
    refine y_iastore (pc := 38) hF dX4_give_38 (by have := hP.1; omega) (hP.2 g).2.2.2.2.1 (by omega) (by decide) ?_
    refine y_aload_n (pc := 39) hF dX4_give_39 0 rfl ?_
    refine y_get (pc := 40) (ci := 4) hF dX4_give_40 (by have := hP.1; omega) (hP.2 g).1 rfl rfl iX4 6 (by decide) w_234 rfl ?_
    refine y_iload_n (pc := 43) hF dX4_give_43 1 rfl ?_
    refine y_iconst (pc := 44) hF dX4_give_44 ?_
    refine y_iastore (pc := 45) hF dX4_give_45 (by have := hP.1; omega) (hP.2 g).2.2.2.2.2 (by omega) (by decide) ?_
    exact y_vret (pc := 46) hF dX4_give_46 (Nat.zero_le _) (Nat.zero_le _) ⟨rfl, rfl, by unfold gv; first | rw [if_pos (by omega)] | rw [if_neg (by omega)]⟩

theorem dX4_fillIn_0 : decode cX4_fillIn 0 = .ok (.aload_n 0, 1) := by decide +kernel
theorem dX4_fillIn_1 : decode cX4_fillIn 1 = .ok (.getfield 18, 3) := by decide +kernel
theorem dX4_fillIn_4 : decode cX4_fillIn 4 = .ok (.iload_n 1, 1) := by decide +kernel
theorem dX4_fillIn_5 : decode cX4_fillIn 5 = .ok (.iload_n 2, 1) := by decide +kernel
theorem dX4_fillIn_6 : decode cX4_fillIn 6 = .ok (.iastore, 1) := by decide +kernel
theorem dX4_fillIn_7 : decode cX4_fillIn 7 = .ok (.aload_n 0, 1) := by decide +kernel
theorem dX4_fillIn_8 : decode cX4_fillIn 8 = .ok (.getfield 22, 3) := by decide +kernel
theorem dX4_fillIn_11 : decode cX4_fillIn 11 = .ok (.iload_n 1, 1) := by decide +kernel
theorem dX4_fillIn_12 : decode cX4_fillIn 12 = .ok (.iload_n 3, 1) := by decide +kernel
theorem dX4_fillIn_13 : decode cX4_fillIn 13 = .ok (.iastore, 1) := by decide +kernel
theorem dX4_fillIn_14 : decode cX4_fillIn 14 = .ok (.aload_n 0, 1) := by decide +kernel
theorem dX4_fillIn_15 : decode cX4_fillIn 15 = .ok (.getfield 25, 3) := by decide +kernel
theorem dX4_fillIn_18 : decode cX4_fillIn 18 = .ok (.iload_n 1, 1) := by decide +kernel
theorem dX4_fillIn_19 : decode cX4_fillIn 19 = .ok (.iload 5, 2) := by decide +kernel
theorem dX4_fillIn_21 : decode cX4_fillIn 21 = .ok (.iastore, 1) := by decide +kernel
theorem dX4_fillIn_22 : decode cX4_fillIn 22 = .ok (.aload_n 0, 1) := by decide +kernel
theorem dX4_fillIn_23 : decode cX4_fillIn 23 = .ok (.getfield 28, 3) := by decide +kernel
theorem dX4_fillIn_26 : decode cX4_fillIn 26 = .ok (.iload_n 1, 1) := by decide +kernel
theorem dX4_fillIn_27 : decode cX4_fillIn 27 = .ok (.iload 4, 2) := by decide +kernel
theorem dX4_fillIn_29 : decode cX4_fillIn 29 = .ok (.iastore, 1) := by decide +kernel
theorem dX4_fillIn_30 : decode cX4_fillIn 30 = .ok (.aload_n 0, 1) := by decide +kernel
theorem dX4_fillIn_31 : decode cX4_fillIn 31 = .ok (.getfield 31, 3) := by decide +kernel
theorem dX4_fillIn_34 : decode cX4_fillIn 34 = .ok (.iload_n 1, 1) := by decide +kernel
theorem dX4_fillIn_35 : decode cX4_fillIn 35 = .ok (.aload_n 0, 1) := by decide +kernel
theorem dX4_fillIn_36 : decode cX4_fillIn 36 = .ok (.getfield 25, 3) := by decide +kernel
theorem dX4_fillIn_39 : decode cX4_fillIn 39 = .ok (.iload 4, 2) := by decide +kernel
theorem dX4_fillIn_41 : decode cX4_fillIn 41 = .ok (.iaload, 1) := by decide +kernel
theorem dX4_fillIn_42 : decode cX4_fillIn 42 = .ok (.ifCond .le 13, 3) := by decide +kernel
theorem dX4_fillIn_45 : decode cX4_fillIn 45 = .ok (.aload_n 0, 1) := by decide +kernel
theorem dX4_fillIn_46 : decode cX4_fillIn 46 = .ok (.getfield 31, 3) := by decide +kernel
theorem dX4_fillIn_49 : decode cX4_fillIn 49 = .ok (.iload 4, 2) := by decide +kernel
theorem dX4_fillIn_51 : decode cX4_fillIn 51 = .ok (.iaload, 1) := by decide +kernel
theorem dX4_fillIn_52 : decode cX4_fillIn 52 = .ok (.goto 5, 3) := by decide +kernel
theorem dX4_fillIn_55 : decode cX4_fillIn 55 = .ok (.iload 4, 2) := by decide +kernel
theorem dX4_fillIn_57 : decode cX4_fillIn 57 = .ok (.iastore, 1) := by decide +kernel
theorem dX4_fillIn_58 : decode cX4_fillIn 58 = .ok (.return_, 1) := by decide +kernel
set_option maxHeartbeats 4000000 in
set_option maxRecDepth 100000 in
theorem tX4_fillIn {l : Launch} {g : yG} {n : Nat} {σ : yM} (k : Nat) (hn : 172 ≤ n) (hP : isPic k) (i t sr p m : Int) (hi : 0 ≤ i ∧ i < 400) (hp : 0 ≤ p ∧ p < 400) (hip : p ≠ i) (hf : -2147483648 ≤ σ (k + 3) p ∧ σ (k + 3) p < 2147483648) : yMet l g yX4_fillIn cX4_fillIn 6 none (rmL 1) [yR g k, yI i, yI t, yI sr, yI p, yI m] (SC g) n σ (SC g) (yPv (fun n' σ' => n' = n ∧ σ' = fI σ k i t sr p m)) := by
  refine y_start (by decide) (Nat.le_of_ble_eq_true rfl) (fun X0 hF => ?_)
  show yV X0 g 6 (yQ X0 g (SC g) (yPv (fun n' σ' => n' = n ∧ σ' = fI σ k i t sr p m)) (rmL 1)) (SC g) n σ 0 0 0 [(0, yR g k), (1, yI i), (2, yI t), (3, yI sr), (4, yI p), (5, yI m)] []
  refine y_aload_n (pc := 0) hF dX4_fillIn_0 0 rfl ?_
  refine y_get (pc := 1) (ci := 4) hF dX4_fillIn_1 (by have := hP.1; omega) (hP.2 g).1 rfl rfl iX4 2 (by decide) w_218 rfl ?_
  refine y_iload_n (pc := 4) hF dX4_fillIn_4 1 rfl ?_
  refine y_iload_n (pc := 5) hF dX4_fillIn_5 2 rfl ?_
  refine y_iastore (pc := 6) hF dX4_fillIn_6 (by have := hP.1; omega) (hP.2 g).2.1 (by omega) (by decide) ?_
  refine y_aload_n (pc := 7) hF dX4_fillIn_7 0 rfl ?_
  refine y_get (pc := 8) (ci := 4) hF dX4_fillIn_8 (by have := hP.1; omega) (hP.2 g).1 rfl rfl iX4 3 (by decide) w_224 rfl ?_
  refine y_iload_n (pc := 11) hF dX4_fillIn_11 1 rfl ?_
  refine y_iload_n (pc := 12) hF dX4_fillIn_12 3 rfl ?_
  refine y_iastore (pc := 13) hF dX4_fillIn_13 (by have := hP.1; omega) (hP.2 g).2.2.1 (by omega) (by decide) ?_
  refine y_aload_n (pc := 14) hF dX4_fillIn_14 0 rfl ?_
  refine y_get (pc := 15) (ci := 4) hF dX4_fillIn_15 (by have := hP.1; omega) (hP.2 g).1 rfl rfl iX4 4 (by decide) w_228 rfl ?_
  refine y_iload_n (pc := 18) hF dX4_fillIn_18 1 rfl ?_
  refine y_iload (pc := 19) hF dX4_fillIn_19 5 rfl ?_
  refine y_iastore (pc := 21) hF dX4_fillIn_21 (by have := hP.1; omega) (hP.2 g).2.2.2.1 (by omega) (by decide) ?_
  refine y_aload_n (pc := 22) hF dX4_fillIn_22 0 rfl ?_
  refine y_get (pc := 23) (ci := 4) hF dX4_fillIn_23 (by have := hP.1; omega) (hP.2 g).1 rfl rfl iX4 5 (by decide) w_231 rfl ?_
  refine y_iload_n (pc := 26) hF dX4_fillIn_26 1 rfl ?_
  refine y_iload (pc := 27) hF dX4_fillIn_27 4 rfl ?_
  refine y_iastore (pc := 29) hF dX4_fillIn_29 (by have := hP.1; omega) (hP.2 g).2.2.2.2.1 (by omega) (by decide) ?_
  refine y_aload_n (pc := 30) hF dX4_fillIn_30 0 rfl ?_
  refine y_get (pc := 31) (ci := 4) hF dX4_fillIn_31 (by have := hP.1; omega) (hP.2 g).1 rfl rfl iX4 6 (by decide) w_234 rfl ?_
  refine y_iload_n (pc := 34) hF dX4_fillIn_34 1 rfl ?_
  refine y_aload_n (pc := 35) hF dX4_fillIn_35 0 rfl ?_
  refine y_get (pc := 36) (ci := 4) hF dX4_fillIn_36 (by have := hP.1; omega) (hP.2 g).1 rfl rfl iX4 4 (by decide) w_228 rfl ?_
  refine y_iload (pc := 39) hF dX4_fillIn_39 4 rfl ?_
  refine y_iaload (pc := 41) hF dX4_fillIn_41 (by have := hP.1; omega) (hP.2 g).2.2.2.1 (by omega) (by decide) ?_
  rw [show (yset (yset (yset (yset σ (k + 1) i t) (k + 2) i sr) (k + 3) i m) (k + 4) i p) (k + 3) p = σ (k + 3) p from (by simp [yset_ap, hip])]
  refine y_if_le (pc := 42) hF dX4_fillIn_42 55 rfl (by omega) (fun zc42 => ?_) (fun zc42 => ?_)
  · skip
    refine y_iload (pc := 55) hF dX4_fillIn_55 4 rfl ?_
    refine y_iastore (pc := 57) hF dX4_fillIn_57 (by have := hP.1; omega) (hP.2 g).2.2.2.2.2 (by omega) (by decide) ?_
    exact y_vret (pc := 58) hF dX4_fillIn_58 (Nat.zero_le _) (Nat.zero_le _) ⟨rfl, rfl, by unfold fI; first | rw [if_pos (by omega)] | rw [if_neg (by omega)]⟩
  · skip
    refine y_aload_n (pc := 45) hF dX4_fillIn_45 0 rfl ?_
    refine y_get (pc := 46) (ci := 4) hF dX4_fillIn_46 (by have := hP.1; omega) (hP.2 g).1 rfl rfl iX4 6 (by decide) w_234 rfl ?_
    refine y_iload (pc := 49) hF dX4_fillIn_49 4 rfl ?_
    refine y_iaload (pc := 51) hF dX4_fillIn_51 (by have := hP.1; omega) (hP.2 g).2.2.2.2.2 (by omega) (by decide) ?_
    rw [show (yset (yset (yset (yset σ (k + 1) i t) (k + 2) i sr) (k + 3) i m) (k + 4) i p) (k + 5) p = σ (k + 5) p from (by simp [yset_ap])]
    refine y_goto (pc := 52) hF dX4_fillIn_52 57 rfl ?_
    refine y_iastore (pc := 57) hF dX4_fillIn_57 (by have := hP.1; omega) (hP.2 g).2.2.2.2.2 (by omega) (by decide) ?_
    exact y_vret (pc := 58) hF dX4_fillIn_58 (Nat.zero_le _) (Nat.zero_le _) ⟨rfl, rfl, by unfold fI; first | rw [if_pos (by omega)] | rw [if_neg (by omega)]⟩
