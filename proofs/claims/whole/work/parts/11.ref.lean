theorem dX11_within_0 : decode cX11_within 0 = .ok (.iload_n 0, 1) := by decide +kernel
theorem dX11_within_1 : decode cX11_within 1 = .ok (.iload_n 1, 1) := by decide +kernel
theorem dX11_within_2 : decode cX11_within 2 = .ok (.if_icmp .lt 12, 3) := by decide +kernel
theorem dX11_within_5 : decode cX11_within 5 = .ok (.iload_n 0, 1) := by decide +kernel
theorem dX11_within_6 : decode cX11_within 6 = .ok (.iload_n 2, 1) := by decide +kernel
theorem dX11_within_7 : decode cX11_within 7 = .ok (.if_icmp .gt 7, 3) := by decide +kernel
theorem dX11_within_10 : decode cX11_within 10 = .ok (.iconst 1, 1) := by decide +kernel
theorem dX11_within_11 : decode cX11_within 11 = .ok (.goto 4, 3) := by decide +kernel
theorem dX11_within_14 : decode cX11_within 14 = .ok (.iconst 0, 1) := by decide +kernel
theorem dX11_within_15 : decode cX11_within 15 = .ok (.ireturn, 1) := by decide +kernel
set_option maxHeartbeats 4000000 in
set_option maxRecDepth 100000 in
theorem tX11_within {l : Launch} {g : yG} {n : Nat} {σ : yM} (v a b : Int) (hv : -2147483648 ≤ v ∧ v < 2147483648) (ha : -2147483648 ≤ a ∧ a < 2147483648) (hb : -2147483648 ≤ b ∧ b < 2147483648) : yMet l g yX11_within cX11_within 3 (some .boolean) (rmL 1) [yI v, yI a, yI b] (SC g) n σ (SC g) (yPp (bi (decide (a ≤ v) && decide (v ≤ b))) n σ) := by
  refine y_start (by decide) (Nat.le_of_ble_eq_true rfl) (fun X0 hF => ?_)
  show yV X0 g 3 (yQ X0 g (SC g) (yPp (bi (decide (a ≤ v) && decide (v ≤ b))) n σ) (rmL 1)) (SC g) n σ 0 0 0 [(0, yI v), (1, yI a), (2, yI b)] []
  refine y_iload_n (pc := 0) hF dX11_within_0 0 rfl ?_
  refine y_iload_n (pc := 1) hF dX11_within_1 1 rfl ?_
  refine y_icmp_lt (pc := 2) hF dX11_within_2 14 rfl (by omega) (by omega) (fun zc2 => ?_) (fun zc2 => ?_)
  · skip
    refine y_iconst (pc := 14) hF dX11_within_14 ?_
    exact y_zret (pc := 15) hF dX11_within_15 (by decide) (Nat.zero_le _) (Nat.zero_le _) ⟨_, rfl, by rw [show (decide (a ≤ v) && decide (v ≤ b)) = false by simp; omega]; rfl, rfl, rfl⟩
  · skip
    refine y_iload_n (pc := 5) hF dX11_within_5 0 rfl ?_
    refine y_iload_n (pc := 6) hF dX11_within_6 2 rfl ?_
    refine y_icmp_gt (pc := 7) hF dX11_within_7 14 rfl (by omega) (by omega) (fun zc7 => ?_) (fun zc7 => ?_)
    · skip
      refine y_iconst (pc := 14) hF dX11_within_14 ?_
      exact y_zret (pc := 15) hF dX11_within_15 (by decide) (Nat.zero_le _) (Nat.zero_le _) ⟨_, rfl, by rw [show (decide (a ≤ v) && decide (v ≤ b)) = false by simp; omega]; rfl, rfl, rfl⟩
    · skip
      refine y_iconst (pc := 10) hF dX11_within_10 ?_
      refine y_goto (pc := 11) hF dX11_within_11 15 rfl ?_
      exact y_zret (pc := 15) hF dX11_within_15 (by decide) (Nat.zero_le _) (Nat.zero_le _) ⟨_, rfl, by rw [show (decide (a ≤ v) && decide (v ≤ b)) = true by simp; omega]; rfl, rfl, rfl⟩

theorem dX11_at_0 : decode cX11_at 0 = .ok (.bipush 20, 2) := by decide +kernel
theorem dX11_at_2 : decode cX11_at 2 = .ok (.iload_n 1, 1) := by decide +kernel
theorem dX11_at_3 : decode cX11_at 3 = .ok (.imul, 1) := by decide +kernel
theorem dX11_at_4 : decode cX11_at 4 = .ok (.iload_n 0, 1) := by decide +kernel
theorem dX11_at_5 : decode cX11_at 5 = .ok (.iadd, 1) := by decide +kernel
theorem dX11_at_6 : decode cX11_at 6 = .ok (.ireturn, 1) := by decide +kernel
set_option maxHeartbeats 4000000 in
set_option maxRecDepth 100000 in
theorem tX11_at {l : Launch} {g : yG} {n : Nat} {σ : yM} (a b : Int) : yMet l g yX11_at cX11_at 2 (some .int) (rmL 1) [yI a, yI b] (SC g) n σ (SC g) (yPp (20 * b + a) n σ) := by
  refine y_start (by decide) (Nat.le_of_ble_eq_true rfl) (fun X0 hF => ?_)
  show yV X0 g 2 (yQ X0 g (SC g) (yPp (20 * b + a) n σ) (rmL 1)) (SC g) n σ 0 0 0 [(0, yI a), (1, yI b)] []
  refine y_bipush (pc := 0) hF dX11_at_0 (by decide) ?_
  refine y_iload_n (pc := 2) hF dX11_at_2 1 rfl ?_
  refine y_imul (pc := 3) hF dX11_at_3 ?_
  refine y_iload_n (pc := 4) hF dX11_at_4 0 rfl ?_
  refine y_iadd (pc := 5) hF dX11_at_5 ?_
  exact y_iret (pc := 6) hF dX11_at_6 (Nat.zero_le _) (Nat.zero_le _) ⟨_, rfl, rfl, rfl, rfl⟩

theorem dX11_has_0 : decode cX11_has 0 = .ok (.iload_n 2, 1) := by decide +kernel
theorem dX11_has_1 : decode cX11_has 1 = .ok (.iconst 0, 1) := by decide +kernel
theorem dX11_has_2 : decode cX11_has 2 = .ok (.aload_n 0, 1) := by decide +kernel
theorem dX11_has_3 : decode cX11_has 3 = .ok (.getfield 22, 3) := by decide +kernel
theorem dX11_has_6 : decode cX11_has 6 = .ok (.iload_n 1, 1) := by decide +kernel
theorem dX11_has_7 : decode cX11_has 7 = .ok (.iaload, 1) := by decide +kernel
theorem dX11_has_8 : decode cX11_has 8 = .ok (.iconst 1, 1) := by decide +kernel
theorem dX11_has_9 : decode cX11_has 9 = .ok (.isub, 1) := by decide +kernel
theorem dX11_has_10 : decode cX11_has 10 = .ok (.invokestatic 68, 3) := by decide +kernel
theorem dX11_has_13 : decode cX11_has 13 = .ok (.ifCond .eq 23, 3) := by decide +kernel
theorem dX11_has_16 : decode cX11_has 16 = .ok (.iload_n 3, 1) := by decide +kernel
theorem dX11_has_17 : decode cX11_has 17 = .ok (.iconst 0, 1) := by decide +kernel
theorem dX11_has_18 : decode cX11_has 18 = .ok (.aload_n 0, 1) := by decide +kernel
theorem dX11_has_19 : decode cX11_has 19 = .ok (.getfield 25, 3) := by decide +kernel
theorem dX11_has_22 : decode cX11_has 22 = .ok (.iload_n 1, 1) := by decide +kernel
theorem dX11_has_23 : decode cX11_has 23 = .ok (.iaload, 1) := by decide +kernel
theorem dX11_has_24 : decode cX11_has 24 = .ok (.iconst 1, 1) := by decide +kernel
theorem dX11_has_25 : decode cX11_has 25 = .ok (.isub, 1) := by decide +kernel
theorem dX11_has_26 : decode cX11_has 26 = .ok (.invokestatic 68, 3) := by decide +kernel
theorem dX11_has_29 : decode cX11_has 29 = .ok (.ifCond .eq 7, 3) := by decide +kernel
theorem dX11_has_32 : decode cX11_has 32 = .ok (.iconst 1, 1) := by decide +kernel
theorem dX11_has_33 : decode cX11_has 33 = .ok (.goto 4, 3) := by decide +kernel
theorem dX11_has_36 : decode cX11_has 36 = .ok (.iconst 0, 1) := by decide +kernel
theorem dX11_has_37 : decode cX11_has 37 = .ok (.ireturn, 1) := by decide +kernel
set_option maxHeartbeats 4000000 in
set_option maxRecDepth 100000 in
theorem tX11_has {l : Launch} {g : yG} {n : Nat} {σ : yM} (z : Nat) (w h : Int) (T S F P O : Int → Int → Int) (hn : 172 ≤ n) (hz : z < 3) (hA : rM σ z w h T S F P O) (a b : Int) (ha : -2147483648 ≤ a ∧ a < 2147483648) (hb : -2147483648 ≤ b ∧ b < 2147483648) : yMet l g yX11_has cX11_has 4 (some .boolean) (rmL 2) [yR g 155, yI (z : Int), yI a, yI b] (SC g) n σ (SC g) (yPp (bi (sIn w h a b)) n σ) := by
  obtain ⟨hw1, hw2, hw3, hw4⟩ := id hA.1.1
  refine y_start (by decide) (Nat.le_of_ble_eq_true rfl) (fun X0 hF => ?_)
  show yV X0 g 4 (yQ X0 g (SC g) (yPp (bi (sIn w h a b)) n σ) (rmL 2)) (SC g) n σ 0 0 0 [(0, yR g 155), (1, yI (z : Int)), (2, yI a), (3, yI b)] []
  refine y_iload_n (pc := 0) hF dX11_has_0 2 rfl ?_
  refine y_iconst (pc := 1) hF dX11_has_1 ?_
  refine y_aload_n (pc := 2) hF dX11_has_2 0 rfl ?_
  refine y_get (pc := 3) (ci := 11) hF dX11_has_3 (by omega) rfl rfl rfl iX11 3 (by decide) w_1250 rfl ?_
  refine y_iload_n (pc := 6) hF dX11_has_6 1 rfl ?_
  refine y_iaload (pc := 7) hF dX11_has_7 (by omega) rfl (by omega) (by decide) ?_
  rw [show σ 161 (z : Int) = w from hA.2.1]
  refine y_iconst (pc := 8) hF dX11_has_8 ?_
  refine y_isub (pc := 9) hF dX11_has_9 ?_
  refine y_cp (y_rS (pc := 10) (As := [yI a, yI 0, yI (w - 1)]) (kk := 0) hF (tX11_within a 0 (w - 1) (by omega) (by omega) (by omega)) dX11_has_10 w_1392 qX11_within rfl ⟨Nat.le_of_ble_eq_true rfl, Nat.le_of_ble_eq_true rfl⟩ ⟨Nat.zero_le _, Nat.zero_le _⟩ (Nat.le_of_ble_eq_true rfl) rfl) ?_
  refine y_if_eq (pc := 13) hF dX11_has_13 36 rfl bi_r (fun zc13 => ?_) (fun zc13 => ?_)
  · replace zc13 := bi_0.mp zc13
    refine y_iconst (pc := 36) hF dX11_has_36 ?_
    exact y_zret (pc := 37) hF dX11_has_37 (by decide) (Nat.zero_le _) (Nat.zero_le _) ⟨_, rfl, by simp only [Bool.and_eq_true, Bool.and_eq_false_iff, decide_eq_true_eq, decide_eq_false_iff_not] at *; rw [sIn_not.mpr (by omega)]; rfl, rfl, rfl⟩
  · replace zc13 := bi_n0.mp zc13
    refine y_iload_n (pc := 16) hF dX11_has_16 3 rfl ?_
    refine y_iconst (pc := 17) hF dX11_has_17 ?_
    refine y_aload_n (pc := 18) hF dX11_has_18 0 rfl ?_
    refine y_get (pc := 19) (ci := 11) hF dX11_has_19 (by omega) rfl rfl rfl iX11 4 (by decide) w_1251 rfl ?_
    refine y_iload_n (pc := 22) hF dX11_has_22 1 rfl ?_
    refine y_iaload (pc := 23) hF dX11_has_23 (by omega) rfl (by omega) (by decide) ?_
    rw [show σ 162 (z : Int) = h from hA.2.2.1]
    refine y_iconst (pc := 24) hF dX11_has_24 ?_
    refine y_isub (pc := 25) hF dX11_has_25 ?_
    refine y_cp (y_rS (pc := 26) (As := [yI b, yI 0, yI (h - 1)]) (kk := 0) hF (tX11_within b 0 (h - 1) (by omega) (by omega) (by omega)) dX11_has_26 w_1392 qX11_within rfl ⟨Nat.le_of_ble_eq_true rfl, Nat.le_of_ble_eq_true rfl⟩ ⟨Nat.zero_le _, Nat.zero_le _⟩ (Nat.le_of_ble_eq_true rfl) rfl) ?_
    refine y_if_eq (pc := 29) hF dX11_has_29 36 rfl bi_r (fun zc29 => ?_) (fun zc29 => ?_)
    · replace zc29 := bi_0.mp zc29
      refine y_iconst (pc := 36) hF dX11_has_36 ?_
      exact y_zret (pc := 37) hF dX11_has_37 (by decide) (Nat.zero_le _) (Nat.zero_le _) ⟨_, rfl, by simp only [Bool.and_eq_true, Bool.and_eq_false_iff, decide_eq_true_eq, decide_eq_false_iff_not] at *; rw [sIn_not.mpr (by omega)]; rfl, rfl, rfl⟩
    · replace zc29 := bi_n0.mp zc29
      refine y_iconst (pc := 32) hF dX11_has_32 ?_
      refine y_goto (pc := 33) hF dX11_has_33 37 rfl ?_
      exact y_zret (pc := 37) hF dX11_has_37 (by decide) (Nat.zero_le _) (Nat.zero_le _) ⟨_, rfl, by simp only [Bool.and_eq_true, Bool.and_eq_false_iff, decide_eq_true_eq, decide_eq_false_iff_not] at *; rw [sIn_iff.mpr (by omega)]; rfl, rfl, rfl⟩

theorem dX11_isKnown_0 : decode cX11_isKnown 0 = .ok (.aload_n 0, 1) := by decide +kernel
theorem dX11_isKnown_1 : decode cX11_isKnown 1 = .ok (.iload_n 1, 1) := by decide +kernel
theorem dX11_isKnown_2 : decode cX11_isKnown 2 = .ok (.iload_n 2, 1) := by decide +kernel
theorem dX11_isKnown_3 : decode cX11_isKnown 3 = .ok (.iload_n 3, 1) := by decide +kernel
theorem dX11_isKnown_4 : decode cX11_isKnown 4 = .ok (.invokevirtual 72, 3) := by decide +kernel
theorem dX11_isKnown_7 : decode cX11_isKnown 7 = .ok (.ifCond .eq 25, 3) := by decide +kernel
theorem dX11_isKnown_10 : decode cX11_isKnown 10 = .ok (.aload_n 0, 1) := by decide +kernel
theorem dX11_isKnown_11 : decode cX11_isKnown 11 = .ok (.getfield 19, 3) := by decide +kernel
theorem dX11_isKnown_14 : decode cX11_isKnown 14 = .ok (.iload_n 1, 1) := by decide +kernel
theorem dX11_isKnown_15 : decode cX11_isKnown 15 = .ok (.aaload, 1) := by decide +kernel
theorem dX11_isKnown_16 : decode cX11_isKnown 16 = .ok (.iconst 0, 1) := by decide +kernel
theorem dX11_isKnown_17 : decode cX11_isKnown 17 = .ok (.iload_n 2, 1) := by decide +kernel
theorem dX11_isKnown_18 : decode cX11_isKnown 18 = .ok (.iload_n 3, 1) := by decide +kernel
theorem dX11_isKnown_19 : decode cX11_isKnown 19 = .ok (.invokestatic 56, 3) := by decide +kernel
theorem dX11_isKnown_22 : decode cX11_isKnown 22 = .ok (.iadd, 1) := by decide +kernel
theorem dX11_isKnown_23 : decode cX11_isKnown 23 = .ok (.iaload, 1) := by decide +kernel
theorem dX11_isKnown_24 : decode cX11_isKnown 24 = .ok (.iconst (-1), 1) := by decide +kernel
theorem dX11_isKnown_25 : decode cX11_isKnown 25 = .ok (.if_icmp .eq 7, 3) := by decide +kernel
theorem dX11_isKnown_28 : decode cX11_isKnown 28 = .ok (.iconst 1, 1) := by decide +kernel
theorem dX11_isKnown_29 : decode cX11_isKnown 29 = .ok (.goto 4, 3) := by decide +kernel
theorem dX11_isKnown_32 : decode cX11_isKnown 32 = .ok (.iconst 0, 1) := by decide +kernel
theorem dX11_isKnown_33 : decode cX11_isKnown 33 = .ok (.ireturn, 1) := by decide +kernel
set_option maxHeartbeats 4000000 in
set_option maxRecDepth 100000 in
theorem tX11_isKnown {l : Launch} {g : yG} {n : Nat} {σ : yM} (z : Nat) (w h : Int) (T S F P O : Int → Int → Int) (hn : 172 ≤ n) (hz : z < 3) (hA : rM σ z w h T S F P O) (a b : Int) (ha : -2147483648 ≤ a ∧ a < 2147483648) (hb : -2147483648 ≤ b ∧ b < 2147483648) : yMet l g yX11_isKnown cX11_isKnown 4 (some .boolean) (rmL 3) [yR g 155, yI (z : Int), yI a, yI b] (SC g) n σ (SC g) (yPp (bi (sKn w h T a b)) n σ) := by
  obtain ⟨hw1, hw2, hw3, hw4⟩ := id hA.1.1
  refine y_start (by decide) (Nat.le_of_ble_eq_true rfl) (fun X0 hF => ?_)
  show yV X0 g 4 (yQ X0 g (SC g) (yPp (bi (sKn w h T a b)) n σ) (rmL 3)) (SC g) n σ 0 0 0 [(0, yR g 155), (1, yI (z : Int)), (2, yI a), (3, yI b)] []
  refine y_aload_n (pc := 0) hF dX11_isKnown_0 0 rfl ?_
  refine y_iload_n (pc := 1) hF dX11_isKnown_1 1 rfl ?_
  refine y_iload_n (pc := 2) hF dX11_isKnown_2 2 rfl ?_
  refine y_iload_n (pc := 3) hF dX11_isKnown_3 3 rfl ?_
  refine y_cp (y_rV (pc := 4) hF (tX11_has z w h T S F P O hn hz hA a b (by assumption) (by assumption)) dX11_isKnown_4 (by omega) rfl rfl rfl w_1444 qX11_has rfl ⟨Nat.le_of_ble_eq_true rfl, Nat.le_of_ble_eq_true rfl⟩ ⟨Nat.zero_le _, Nat.zero_le _⟩ (Nat.le_of_ble_eq_true rfl) rfl) ?_
  refine y_if_eq (pc := 7) hF dX11_isKnown_7 32 rfl bi_r (fun zc7 => ?_) (fun zc7 => ?_)
  · replace zc7 := bi_0.mp zc7
    refine y_iconst (pc := 32) hF dX11_isKnown_32 ?_
    exact y_zret (pc := 33) hF dX11_isKnown_33 (by decide) (Nat.zero_le _) (Nat.zero_le _) ⟨_, rfl, by rw [show sKn w h T a b = false by simp [sKn, *]]; rfl, rfl, rfl⟩
  · replace zc7 := bi_n0.mp zc7
    have zb9 := sIn_iff.mp zc7
    have zt9 := (hA.1.2 a b zb9.1 zb9.2.1 zb9.2.2.1 zb9.2.2.2).1
    refine y_aload_n (pc := 10) hF dX11_isKnown_10 0 rfl ?_
    refine y_get (pc := 11) (ci := 11) hF dX11_isKnown_11 (by omega) rfl rfl rfl iX11 2 (by decide) w_1249 rfl ?_
    refine y_iload_n (pc := 14) hF dX11_isKnown_14 1 rfl ?_
    refine y_aaM (pc := 15) (z := z) hF dX11_isKnown_15 hn rfl hz ?_
    refine y_iconst (pc := 16) hF dX11_isKnown_16 ?_
    refine y_iload_n (pc := 17) hF dX11_isKnown_17 2 rfl ?_
    refine y_iload_n (pc := 18) hF dX11_isKnown_18 3 rfl ?_
    refine y_cp (y_rS (pc := 19) (As := [yI a, yI b]) (kk := 0) hF (tX11_at a b) dX11_isKnown_19 w_1236 qX11_at rfl ⟨Nat.le_of_ble_eq_true rfl, Nat.le_of_ble_eq_true rfl⟩ ⟨Nat.zero_le _, Nat.zero_le _⟩ (Nat.le_of_ble_eq_true rfl) rfl) ?_
    refine y_iadd (pc := 22) hF dX11_isKnown_22 ?_
    rw [show 0 + (20 * b + a) = 20 * b + a from (Int.zero_add _)]
    refine y_iaload (pc := 23) hF dX11_isKnown_23 (by omega) (sc_lay hz g) (by omega) (by decide) ?_
    rw [show σ (158 + z) (20 * b + a) = T a b from (hA.2.2.2 a b zb9.1 zb9.2.1 zb9.2.2.1 zb9.2.2.2).1]
    refine y_iconst (pc := 24) hF dX11_isKnown_24 ?_
    refine y_icmp_eq (pc := 25) hF dX11_isKnown_25 32 rfl (by omega) (by omega) (fun zc25 => ?_) (fun zc25 => ?_)
    · skip
      refine y_iconst (pc := 32) hF dX11_isKnown_32 ?_
      exact y_zret (pc := 33) hF dX11_isKnown_33 (by decide) (Nat.zero_le _) (Nat.zero_le _) ⟨_, rfl, by rw [show sKn w h T a b = false by simp [sKn, *]]; rfl, rfl, rfl⟩
    · skip
      refine y_iconst (pc := 28) hF dX11_isKnown_28 ?_
      refine y_goto (pc := 29) hF dX11_isKnown_29 33 rfl ?_
      exact y_zret (pc := 33) hF dX11_isKnown_33 (by decide) (Nat.zero_le _) (Nat.zero_le _) ⟨_, rfl, by rw [show sKn w h T a b = true by simp [sKn, *]]; rfl, rfl, rfl⟩

theorem dX11_isMissing_0 : decode cX11_isMissing 0 = .ok (.aload_n 0, 1) := by decide +kernel
theorem dX11_isMissing_1 : decode cX11_isMissing 1 = .ok (.iload_n 1, 1) := by decide +kernel
theorem dX11_isMissing_2 : decode cX11_isMissing 2 = .ok (.iload_n 2, 1) := by decide +kernel
theorem dX11_isMissing_3 : decode cX11_isMissing 3 = .ok (.iload_n 3, 1) := by decide +kernel
theorem dX11_isMissing_4 : decode cX11_isMissing 4 = .ok (.invokevirtual 72, 3) := by decide +kernel
theorem dX11_isMissing_7 : decode cX11_isMissing 7 = .ok (.ifCond .eq 25, 3) := by decide +kernel
theorem dX11_isMissing_10 : decode cX11_isMissing 10 = .ok (.aload_n 0, 1) := by decide +kernel
theorem dX11_isMissing_11 : decode cX11_isMissing 11 = .ok (.getfield 19, 3) := by decide +kernel
theorem dX11_isMissing_14 : decode cX11_isMissing 14 = .ok (.iload_n 1, 1) := by decide +kernel
theorem dX11_isMissing_15 : decode cX11_isMissing 15 = .ok (.aaload, 1) := by decide +kernel
theorem dX11_isMissing_16 : decode cX11_isMissing 16 = .ok (.iconst 0, 1) := by decide +kernel
theorem dX11_isMissing_17 : decode cX11_isMissing 17 = .ok (.iload_n 2, 1) := by decide +kernel
theorem dX11_isMissing_18 : decode cX11_isMissing 18 = .ok (.iload_n 3, 1) := by decide +kernel
theorem dX11_isMissing_19 : decode cX11_isMissing 19 = .ok (.invokestatic 56, 3) := by decide +kernel
theorem dX11_isMissing_22 : decode cX11_isMissing 22 = .ok (.iadd, 1) := by decide +kernel
theorem dX11_isMissing_23 : decode cX11_isMissing 23 = .ok (.iaload, 1) := by decide +kernel
theorem dX11_isMissing_24 : decode cX11_isMissing 24 = .ok (.iconst (-1), 1) := by decide +kernel
theorem dX11_isMissing_25 : decode cX11_isMissing 25 = .ok (.if_icmp .ne 7, 3) := by decide +kernel
theorem dX11_isMissing_28 : decode cX11_isMissing 28 = .ok (.iconst 1, 1) := by decide +kernel
theorem dX11_isMissing_29 : decode cX11_isMissing 29 = .ok (.goto 4, 3) := by decide +kernel
theorem dX11_isMissing_32 : decode cX11_isMissing 32 = .ok (.iconst 0, 1) := by decide +kernel
theorem dX11_isMissing_33 : decode cX11_isMissing 33 = .ok (.ireturn, 1) := by decide +kernel
set_option maxHeartbeats 4000000 in
set_option maxRecDepth 100000 in
theorem tX11_isMissing {l : Launch} {g : yG} {n : Nat} {σ : yM} (z : Nat) (w h : Int) (T S F P O : Int → Int → Int) (hn : 172 ≤ n) (hz : z < 3) (hA : rM σ z w h T S F P O) (a b : Int) (ha : -2147483648 ≤ a ∧ a < 2147483648) (hb : -2147483648 ≤ b ∧ b < 2147483648) : yMet l g yX11_isMissing cX11_isMissing 4 (some .boolean) (rmL 3) [yR g 155, yI (z : Int), yI a, yI b] (SC g) n σ (SC g) (yPp (bi (sMi w h T a b)) n σ) := by
  obtain ⟨hw1, hw2, hw3, hw4⟩ := id hA.1.1
  refine y_start (by decide) (Nat.le_of_ble_eq_true rfl) (fun X0 hF => ?_)
  show yV X0 g 4 (yQ X0 g (SC g) (yPp (bi (sMi w h T a b)) n σ) (rmL 3)) (SC g) n σ 0 0 0 [(0, yR g 155), (1, yI (z : Int)), (2, yI a), (3, yI b)] []
  refine y_aload_n (pc := 0) hF dX11_isMissing_0 0 rfl ?_
  refine y_iload_n (pc := 1) hF dX11_isMissing_1 1 rfl ?_
  refine y_iload_n (pc := 2) hF dX11_isMissing_2 2 rfl ?_
  refine y_iload_n (pc := 3) hF dX11_isMissing_3 3 rfl ?_
  refine y_cp (y_rV (pc := 4) hF (tX11_has z w h T S F P O hn hz hA a b (by assumption) (by assumption)) dX11_isMissing_4 (by omega) rfl rfl rfl w_1444 qX11_has rfl ⟨Nat.le_of_ble_eq_true rfl, Nat.le_of_ble_eq_true rfl⟩ ⟨Nat.zero_le _, Nat.zero_le _⟩ (Nat.le_of_ble_eq_true rfl) rfl) ?_
  refine y_if_eq (pc := 7) hF dX11_isMissing_7 32 rfl bi_r (fun zc7 => ?_) (fun zc7 => ?_)
  · replace zc7 := bi_0.mp zc7
    refine y_iconst (pc := 32) hF dX11_isMissing_32 ?_
    exact y_zret (pc := 33) hF dX11_isMissing_33 (by decide) (Nat.zero_le _) (Nat.zero_le _) ⟨_, rfl, by rw [show sMi w h T a b = false by simp [sMi, *]]; rfl, rfl, rfl⟩
  · replace zc7 := bi_n0.mp zc7
    have zb9 := sIn_iff.mp zc7
    have zt9 := (hA.1.2 a b zb9.1 zb9.2.1 zb9.2.2.1 zb9.2.2.2).1
    refine y_aload_n (pc := 10) hF dX11_isMissing_10 0 rfl ?_
    refine y_get (pc := 11) (ci := 11) hF dX11_isMissing_11 (by omega) rfl rfl rfl iX11 2 (by decide) w_1249 rfl ?_
    refine y_iload_n (pc := 14) hF dX11_isMissing_14 1 rfl ?_
    refine y_aaM (pc := 15) (z := z) hF dX11_isMissing_15 hn rfl hz ?_
    refine y_iconst (pc := 16) hF dX11_isMissing_16 ?_
    refine y_iload_n (pc := 17) hF dX11_isMissing_17 2 rfl ?_
    refine y_iload_n (pc := 18) hF dX11_isMissing_18 3 rfl ?_
    refine y_cp (y_rS (pc := 19) (As := [yI a, yI b]) (kk := 0) hF (tX11_at a b) dX11_isMissing_19 w_1236 qX11_at rfl ⟨Nat.le_of_ble_eq_true rfl, Nat.le_of_ble_eq_true rfl⟩ ⟨Nat.zero_le _, Nat.zero_le _⟩ (Nat.le_of_ble_eq_true rfl) rfl) ?_
    refine y_iadd (pc := 22) hF dX11_isMissing_22 ?_
    rw [show 0 + (20 * b + a) = 20 * b + a from (Int.zero_add _)]
    refine y_iaload (pc := 23) hF dX11_isMissing_23 (by omega) (sc_lay hz g) (by omega) (by decide) ?_
    rw [show σ (158 + z) (20 * b + a) = T a b from (hA.2.2.2 a b zb9.1 zb9.2.1 zb9.2.2.1 zb9.2.2.2).1]
    refine y_iconst (pc := 24) hF dX11_isMissing_24 ?_
    refine y_icmp_ne (pc := 25) hF dX11_isMissing_25 32 rfl (by omega) (by omega) (fun zc25 => ?_) (fun zc25 => ?_)
    · skip
      refine y_iconst (pc := 32) hF dX11_isMissing_32 ?_
      exact y_zret (pc := 33) hF dX11_isMissing_33 (by decide) (Nat.zero_le _) (Nat.zero_le _) ⟨_, rfl, by rw [show sMi w h T a b = false by simp [sMi, *]]; rfl, rfl, rfl⟩
    · skip
      refine y_iconst (pc := 28) hF dX11_isMissing_28 ?_
      refine y_goto (pc := 29) hF dX11_isMissing_29 33 rfl ?_
      exact y_zret (pc := 33) hF dX11_isMissing_33 (by decide) (Nat.zero_le _) (Nat.zero_le _) ⟨_, rfl, by rw [show sMi w h T a b = true by simp [sMi, *]]; rfl, rfl, rfl⟩

theorem dX11_toneOf_0 : decode cX11_toneOf 0 = .ok (.aload_n 0, 1) := by decide +kernel
theorem dX11_toneOf_1 : decode cX11_toneOf 1 = .ok (.getfield 19, 3) := by decide +kernel
theorem dX11_toneOf_4 : decode cX11_toneOf 4 = .ok (.iload_n 1, 1) := by decide +kernel
theorem dX11_toneOf_5 : decode cX11_toneOf 5 = .ok (.aaload, 1) := by decide +kernel
theorem dX11_toneOf_6 : decode cX11_toneOf 6 = .ok (.iconst 0, 1) := by decide +kernel
theorem dX11_toneOf_7 : decode cX11_toneOf 7 = .ok (.iload_n 2, 1) := by decide +kernel
theorem dX11_toneOf_8 : decode cX11_toneOf 8 = .ok (.iload_n 3, 1) := by decide +kernel
theorem dX11_toneOf_9 : decode cX11_toneOf 9 = .ok (.invokestatic 56, 3) := by decide +kernel
theorem dX11_toneOf_12 : decode cX11_toneOf 12 = .ok (.iadd, 1) := by decide +kernel
theorem dX11_toneOf_13 : decode cX11_toneOf 13 = .ok (.iaload, 1) := by decide +kernel
theorem dX11_toneOf_14 : decode cX11_toneOf 14 = .ok (.ireturn, 1) := by decide +kernel
set_option maxHeartbeats 4000000 in
set_option maxRecDepth 100000 in
theorem tX11_toneOf {l : Launch} {g : yG} {n : Nat} {σ : yM} (z : Nat) (w h : Int) (T S F P O : Int → Int → Int) (hn : 172 ≤ n) (hz : z < 3) (hA : rM σ z w h T S F P O) (a b : Int) (hi : sIn w h a b = true) : yMet l g yX11_toneOf cX11_toneOf 4 (some .int) (rmL 2) [yR g 155, yI (z : Int), yI a, yI b] (SC g) n σ (SC g) (yPp (T a b) n σ) := by
  obtain ⟨hw1, hw2, hw3, hw4⟩ := id hA.1.1
  have zi := sIn_iff.mp hi
  have zm := hA.2.2.2 a b zi.1 zi.2.1 zi.2.2.1 zi.2.2.2
  have zt := hA.1.2 a b zi.1 zi.2.1 zi.2.2.1 zi.2.2.2
  refine y_start (by decide) (Nat.le_of_ble_eq_true rfl) (fun X0 hF => ?_)
  show yV X0 g 4 (yQ X0 g (SC g) (yPp (T a b) n σ) (rmL 2)) (SC g) n σ 0 0 0 [(0, yR g 155), (1, yI (z : Int)), (2, yI a), (3, yI b)] []
  refine y_aload_n (pc := 0) hF dX11_toneOf_0 0 rfl ?_
  refine y_get (pc := 1) (ci := 11) hF dX11_toneOf_1 (by omega) rfl rfl rfl iX11 2 (by decide) w_1249 rfl ?_
  refine y_iload_n (pc := 4) hF dX11_toneOf_4 1 rfl ?_
  refine y_aaM (pc := 5) (z := z) hF dX11_toneOf_5 hn rfl hz ?_
  refine y_iconst (pc := 6) hF dX11_toneOf_6 ?_
  refine y_iload_n (pc := 7) hF dX11_toneOf_7 2 rfl ?_
  refine y_iload_n (pc := 8) hF dX11_toneOf_8 3 rfl ?_
  refine y_cp (y_rS (pc := 9) (As := [yI a, yI b]) (kk := 0) hF (tX11_at a b) dX11_toneOf_9 w_1236 qX11_at rfl ⟨Nat.le_of_ble_eq_true rfl, Nat.le_of_ble_eq_true rfl⟩ ⟨Nat.zero_le _, Nat.zero_le _⟩ (Nat.le_of_ble_eq_true rfl) rfl) ?_
  refine y_iadd (pc := 12) hF dX11_toneOf_12 ?_
  rw [show 0 + (20 * b + a) = 20 * b + a from (Int.zero_add _)]
  refine y_iaload (pc := 13) hF dX11_toneOf_13 (by omega) (sc_lay hz g) (by omega) (by decide) ?_
  rw [show σ (158 + z) (20 * b + a) = T a b from zm.1]
  exact y_iret (pc := 14) hF dX11_toneOf_14 (Nat.zero_le _) (Nat.zero_le _) ⟨_, rfl, rfl, rfl, rfl⟩

theorem dX11_isFilled_0 : decode cX11_isFilled 0 = .ok (.aload_n 0, 1) := by decide +kernel
theorem dX11_isFilled_1 : decode cX11_isFilled 1 = .ok (.getfield 19, 3) := by decide +kernel
theorem dX11_isFilled_4 : decode cX11_isFilled 4 = .ok (.iload_n 1, 1) := by decide +kernel
theorem dX11_isFilled_5 : decode cX11_isFilled 5 = .ok (.aaload, 1) := by decide +kernel
theorem dX11_isFilled_6 : decode cX11_isFilled 6 = .ok (.sipush 800, 3) := by decide +kernel
theorem dX11_isFilled_9 : decode cX11_isFilled 9 = .ok (.iload_n 2, 1) := by decide +kernel
theorem dX11_isFilled_10 : decode cX11_isFilled 10 = .ok (.iload_n 3, 1) := by decide +kernel
theorem dX11_isFilled_11 : decode cX11_isFilled 11 = .ok (.invokestatic 56, 3) := by decide +kernel
theorem dX11_isFilled_14 : decode cX11_isFilled 14 = .ok (.iadd, 1) := by decide +kernel
theorem dX11_isFilled_15 : decode cX11_isFilled 15 = .ok (.iaload, 1) := by decide +kernel
theorem dX11_isFilled_16 : decode cX11_isFilled 16 = .ok (.ifCond .le 7, 3) := by decide +kernel
theorem dX11_isFilled_19 : decode cX11_isFilled 19 = .ok (.iconst 1, 1) := by decide +kernel
theorem dX11_isFilled_20 : decode cX11_isFilled 20 = .ok (.goto 4, 3) := by decide +kernel
theorem dX11_isFilled_23 : decode cX11_isFilled 23 = .ok (.iconst 0, 1) := by decide +kernel
theorem dX11_isFilled_24 : decode cX11_isFilled 24 = .ok (.ireturn, 1) := by decide +kernel
set_option maxHeartbeats 4000000 in
set_option maxRecDepth 100000 in
theorem tX11_isFilled {l : Launch} {g : yG} {n : Nat} {σ : yM} (z : Nat) (w h : Int) (T S F P O : Int → Int → Int) (hn : 172 ≤ n) (hz : z < 3) (hA : rM σ z w h T S F P O) (a b : Int) (hi : sIn w h a b = true) : yMet l g yX11_isFilled cX11_isFilled 4 (some .boolean) (rmL 2) [yR g 155, yI (z : Int), yI a, yI b] (SC g) n σ (SC g) (yPp (bi (decide (0 < F a b))) n σ) := by
  obtain ⟨hw1, hw2, hw3, hw4⟩ := id hA.1.1
  have zi := sIn_iff.mp hi
  have zm := hA.2.2.2 a b zi.1 zi.2.1 zi.2.2.1 zi.2.2.2
  have zt := hA.1.2 a b zi.1 zi.2.1 zi.2.2.1 zi.2.2.2
  refine y_start (by decide) (Nat.le_of_ble_eq_true rfl) (fun X0 hF => ?_)
  show yV X0 g 4 (yQ X0 g (SC g) (yPp (bi (decide (0 < F a b))) n σ) (rmL 2)) (SC g) n σ 0 0 0 [(0, yR g 155), (1, yI (z : Int)), (2, yI a), (3, yI b)] []
  refine y_aload_n (pc := 0) hF dX11_isFilled_0 0 rfl ?_
  refine y_get (pc := 1) (ci := 11) hF dX11_isFilled_1 (by omega) rfl rfl rfl iX11 2 (by decide) w_1249 rfl ?_
  refine y_iload_n (pc := 4) hF dX11_isFilled_4 1 rfl ?_
  refine y_aaM (pc := 5) (z := z) hF dX11_isFilled_5 hn rfl hz ?_
  refine y_sipush (pc := 6) hF dX11_isFilled_6 (by decide) ?_
  refine y_iload_n (pc := 9) hF dX11_isFilled_9 2 rfl ?_
  refine y_iload_n (pc := 10) hF dX11_isFilled_10 3 rfl ?_
  refine y_cp (y_rS (pc := 11) (As := [yI a, yI b]) (kk := 0) hF (tX11_at a b) dX11_isFilled_11 w_1236 qX11_at rfl ⟨Nat.le_of_ble_eq_true rfl, Nat.le_of_ble_eq_true rfl⟩ ⟨Nat.zero_le _, Nat.zero_le _⟩ (Nat.le_of_ble_eq_true rfl) rfl) ?_
  refine y_iadd (pc := 14) hF dX11_isFilled_14 ?_
  refine y_iaload (pc := 15) hF dX11_isFilled_15 (by omega) (sc_lay hz g) (by omega) (by decide) ?_
  rw [show σ (158 + z) (800 + (20 * b + a)) = F a b from zm.2.2.1]
  refine y_if_le (pc := 16) hF dX11_isFilled_16 23 rfl (by omega) (fun zc16 => ?_) (fun zc16 => ?_)
  · skip
    refine y_iconst (pc := 23) hF dX11_isFilled_23 ?_
    exact y_zret (pc := 24) hF dX11_isFilled_24 (by decide) (Nat.zero_le _) (Nat.zero_le _) ⟨_, rfl, by rw [show decide (0 < F a b) = false by simp; omega]; rfl, rfl, rfl⟩
  · skip
    refine y_iconst (pc := 19) hF dX11_isFilled_19 ?_
    refine y_goto (pc := 20) hF dX11_isFilled_20 24 rfl ?_
    exact y_zret (pc := 24) hF dX11_isFilled_24 (by decide) (Nat.zero_le _) (Nat.zero_le _) ⟨_, rfl, by rw [show decide (0 < F a b) = true by simp; omega]; rfl, rfl, rfl⟩

theorem dX11_isFront_0 : decode cX11_isFront 0 = .ok (.aload_n 0, 1) := by decide +kernel
theorem dX11_isFront_1 : decode cX11_isFront 1 = .ok (.iload_n 1, 1) := by decide +kernel
theorem dX11_isFront_2 : decode cX11_isFront 2 = .ok (.iload_n 2, 1) := by decide +kernel
theorem dX11_isFront_3 : decode cX11_isFront 3 = .ok (.iload_n 3, 1) := by decide +kernel
theorem dX11_isFront_4 : decode cX11_isFront 4 = .ok (.invokevirtual 75, 3) := by decide +kernel
theorem dX11_isFront_7 : decode cX11_isFront 7 = .ok (.ifCond .eq 55, 3) := by decide +kernel
theorem dX11_isFront_10 : decode cX11_isFront 10 = .ok (.aload_n 0, 1) := by decide +kernel
theorem dX11_isFront_11 : decode cX11_isFront 11 = .ok (.iload_n 1, 1) := by decide +kernel
theorem dX11_isFront_12 : decode cX11_isFront 12 = .ok (.iload_n 2, 1) := by decide +kernel
theorem dX11_isFront_13 : decode cX11_isFront 13 = .ok (.iconst 1, 1) := by decide +kernel
theorem dX11_isFront_14 : decode cX11_isFront 14 = .ok (.isub, 1) := by decide +kernel
theorem dX11_isFront_15 : decode cX11_isFront 15 = .ok (.iload_n 3, 1) := by decide +kernel
theorem dX11_isFront_16 : decode cX11_isFront 16 = .ok (.invokevirtual 78, 3) := by decide +kernel
theorem dX11_isFront_19 : decode cX11_isFront 19 = .ok (.ifCond .ne 39, 3) := by decide +kernel
theorem dX11_isFront_22 : decode cX11_isFront 22 = .ok (.aload_n 0, 1) := by decide +kernel
theorem dX11_isFront_23 : decode cX11_isFront 23 = .ok (.iload_n 1, 1) := by decide +kernel
theorem dX11_isFront_24 : decode cX11_isFront 24 = .ok (.iload_n 2, 1) := by decide +kernel
theorem dX11_isFront_25 : decode cX11_isFront 25 = .ok (.iconst 1, 1) := by decide +kernel
theorem dX11_isFront_26 : decode cX11_isFront 26 = .ok (.iadd, 1) := by decide +kernel
theorem dX11_isFront_27 : decode cX11_isFront 27 = .ok (.iload_n 3, 1) := by decide +kernel
theorem dX11_isFront_28 : decode cX11_isFront 28 = .ok (.invokevirtual 78, 3) := by decide +kernel
theorem dX11_isFront_31 : decode cX11_isFront 31 = .ok (.ifCond .ne 27, 3) := by decide +kernel
theorem dX11_isFront_34 : decode cX11_isFront 34 = .ok (.aload_n 0, 1) := by decide +kernel
theorem dX11_isFront_35 : decode cX11_isFront 35 = .ok (.iload_n 1, 1) := by decide +kernel
theorem dX11_isFront_36 : decode cX11_isFront 36 = .ok (.iload_n 2, 1) := by decide +kernel
theorem dX11_isFront_37 : decode cX11_isFront 37 = .ok (.iload_n 3, 1) := by decide +kernel
theorem dX11_isFront_38 : decode cX11_isFront 38 = .ok (.iconst 1, 1) := by decide +kernel
theorem dX11_isFront_39 : decode cX11_isFront 39 = .ok (.isub, 1) := by decide +kernel
theorem dX11_isFront_40 : decode cX11_isFront 40 = .ok (.invokevirtual 78, 3) := by decide +kernel
theorem dX11_isFront_43 : decode cX11_isFront 43 = .ok (.ifCond .ne 15, 3) := by decide +kernel
theorem dX11_isFront_46 : decode cX11_isFront 46 = .ok (.aload_n 0, 1) := by decide +kernel
theorem dX11_isFront_47 : decode cX11_isFront 47 = .ok (.iload_n 1, 1) := by decide +kernel
theorem dX11_isFront_48 : decode cX11_isFront 48 = .ok (.iload_n 2, 1) := by decide +kernel
theorem dX11_isFront_49 : decode cX11_isFront 49 = .ok (.iload_n 3, 1) := by decide +kernel
theorem dX11_isFront_50 : decode cX11_isFront 50 = .ok (.iconst 1, 1) := by decide +kernel
theorem dX11_isFront_51 : decode cX11_isFront 51 = .ok (.iadd, 1) := by decide +kernel
theorem dX11_isFront_52 : decode cX11_isFront 52 = .ok (.invokevirtual 78, 3) := by decide +kernel
theorem dX11_isFront_55 : decode cX11_isFront 55 = .ok (.ifCond .eq 7, 3) := by decide +kernel
theorem dX11_isFront_58 : decode cX11_isFront 58 = .ok (.iconst 1, 1) := by decide +kernel
theorem dX11_isFront_59 : decode cX11_isFront 59 = .ok (.goto 4, 3) := by decide +kernel
theorem dX11_isFront_62 : decode cX11_isFront 62 = .ok (.iconst 0, 1) := by decide +kernel
theorem dX11_isFront_63 : decode cX11_isFront 63 = .ok (.ireturn, 1) := by decide +kernel
set_option maxHeartbeats 4000000 in
set_option maxRecDepth 100000 in
theorem tX11_isFront {l : Launch} {g : yG} {n : Nat} {σ : yM} (z : Nat) (w h : Int) (T S F P O : Int → Int → Int) (hn : 172 ≤ n) (hz : z < 3) (hA : rM σ z w h T S F P O) (a b : Int) (ha : -1000000 ≤ a ∧ a ≤ 1000000) (hb : -1000000 ≤ b ∧ b ≤ 1000000) : yMet l g yX11_isFront cX11_isFront 4 (some .boolean) (rmL 4) [yR g 155, yI (z : Int), yI a, yI b] (SC g) n σ (SC g) (yPp (bi (sFr w h T a b)) n σ) := by
  refine y_start (by decide) (Nat.le_of_ble_eq_true rfl) (fun X0 hF => ?_)
  show yV X0 g 4 (yQ X0 g (SC g) (yPp (bi (sFr w h T a b)) n σ) (rmL 4)) (SC g) n σ 0 0 0 [(0, yR g 155), (1, yI (z : Int)), (2, yI a), (3, yI b)] []
  refine y_aload_n (pc := 0) hF dX11_isFront_0 0 rfl ?_
  refine y_iload_n (pc := 1) hF dX11_isFront_1 1 rfl ?_
  refine y_iload_n (pc := 2) hF dX11_isFront_2 2 rfl ?_
  refine y_iload_n (pc := 3) hF dX11_isFront_3 3 rfl ?_
  refine y_cp (y_rV (pc := 4) hF (tX11_isMissing z w h T S F P O hn hz hA a b (by omega) (by omega)) dX11_isFront_4 (by omega) rfl rfl rfl w_1504 qX11_isMissing rfl ⟨Nat.le_of_ble_eq_true rfl, Nat.le_of_ble_eq_true rfl⟩ ⟨Nat.zero_le _, Nat.zero_le _⟩ (Nat.le_of_ble_eq_true rfl) rfl) ?_
  refine y_if_eq (pc := 7) hF dX11_isFront_7 62 rfl bi_r (fun zc7 => ?_) (fun zc7 => ?_)
  · replace zc7 := bi_0.mp zc7
    refine y_iconst (pc := 62) hF dX11_isFront_62 ?_
    exact y_zret (pc := 63) hF dX11_isFront_63 (by decide) (Nat.zero_le _) (Nat.zero_le _) ⟨_, rfl, by rw [show sFr w h T a b = false by simp [sFr, *]]; rfl, rfl, rfl⟩
  · replace zc7 := bi_n0.mp zc7
    refine y_aload_n (pc := 10) hF dX11_isFront_10 0 rfl ?_
    refine y_iload_n (pc := 11) hF dX11_isFront_11 1 rfl ?_
    refine y_iload_n (pc := 12) hF dX11_isFront_12 2 rfl ?_
    refine y_iconst (pc := 13) hF dX11_isFront_13 ?_
    refine y_isub (pc := 14) hF dX11_isFront_14 ?_
    refine y_iload_n (pc := 15) hF dX11_isFront_15 3 rfl ?_
    refine y_cp (y_rV (pc := 16) hF (tX11_isKnown z w h T S F P O hn hz hA (a - 1) b (by omega) (by omega)) dX11_isFront_16 (by omega) rfl rfl rfl w_1440 qX11_isKnown rfl ⟨Nat.le_of_ble_eq_true rfl, Nat.le_of_ble_eq_true rfl⟩ ⟨Nat.zero_le _, Nat.zero_le _⟩ (Nat.le_of_ble_eq_true rfl) rfl) ?_
    refine y_if_ne (pc := 19) hF dX11_isFront_19 58 rfl bi_r (fun zc19 => ?_) (fun zc19 => ?_)
    · replace zc19 := bi_n0.mp zc19
      refine y_iconst (pc := 58) hF dX11_isFront_58 ?_
      refine y_goto (pc := 59) hF dX11_isFront_59 63 rfl ?_
      exact y_zret (pc := 63) hF dX11_isFront_63 (by decide) (Nat.zero_le _) (Nat.zero_le _) ⟨_, rfl, by rw [show sFr w h T a b = true by simp [sFr, *]]; rfl, rfl, rfl⟩
    · replace zc19 := bi_0.mp zc19
      refine y_aload_n (pc := 22) hF dX11_isFront_22 0 rfl ?_
      refine y_iload_n (pc := 23) hF dX11_isFront_23 1 rfl ?_
      refine y_iload_n (pc := 24) hF dX11_isFront_24 2 rfl ?_
      refine y_iconst (pc := 25) hF dX11_isFront_25 ?_
      refine y_iadd (pc := 26) hF dX11_isFront_26 ?_
      refine y_iload_n (pc := 27) hF dX11_isFront_27 3 rfl ?_
      refine y_cp (y_rV (pc := 28) hF (tX11_isKnown z w h T S F P O hn hz hA (a + 1) b (by omega) (by omega)) dX11_isFront_28 (by omega) rfl rfl rfl w_1440 qX11_isKnown rfl ⟨Nat.le_of_ble_eq_true rfl, Nat.le_of_ble_eq_true rfl⟩ ⟨Nat.zero_le _, Nat.zero_le _⟩ (Nat.le_of_ble_eq_true rfl) rfl) ?_
      refine y_if_ne (pc := 31) hF dX11_isFront_31 58 rfl bi_r (fun zc31 => ?_) (fun zc31 => ?_)
      · replace zc31 := bi_n0.mp zc31
        refine y_iconst (pc := 58) hF dX11_isFront_58 ?_
        refine y_goto (pc := 59) hF dX11_isFront_59 63 rfl ?_
        exact y_zret (pc := 63) hF dX11_isFront_63 (by decide) (Nat.zero_le _) (Nat.zero_le _) ⟨_, rfl, by rw [show sFr w h T a b = true by simp [sFr, *]]; rfl, rfl, rfl⟩
      · replace zc31 := bi_0.mp zc31
        refine y_aload_n (pc := 34) hF dX11_isFront_34 0 rfl ?_
        refine y_iload_n (pc := 35) hF dX11_isFront_35 1 rfl ?_
        refine y_iload_n (pc := 36) hF dX11_isFront_36 2 rfl ?_
        refine y_iload_n (pc := 37) hF dX11_isFront_37 3 rfl ?_
        refine y_iconst (pc := 38) hF dX11_isFront_38 ?_
        refine y_isub (pc := 39) hF dX11_isFront_39 ?_
        refine y_cp (y_rV (pc := 40) hF (tX11_isKnown z w h T S F P O hn hz hA a (b - 1) (by omega) (by omega)) dX11_isFront_40 (by omega) rfl rfl rfl w_1440 qX11_isKnown rfl ⟨Nat.le_of_ble_eq_true rfl, Nat.le_of_ble_eq_true rfl⟩ ⟨Nat.zero_le _, Nat.zero_le _⟩ (Nat.le_of_ble_eq_true rfl) rfl) ?_
        refine y_if_ne (pc := 43) hF dX11_isFront_43 58 rfl bi_r (fun zc43 => ?_) (fun zc43 => ?_)
        · replace zc43 := bi_n0.mp zc43
          refine y_iconst (pc := 58) hF dX11_isFront_58 ?_
          refine y_goto (pc := 59) hF dX11_isFront_59 63 rfl ?_
          exact y_zret (pc := 63) hF dX11_isFront_63 (by decide) (Nat.zero_le _) (Nat.zero_le _) ⟨_, rfl, by rw [show sFr w h T a b = true by simp [sFr, *]]; rfl, rfl, rfl⟩
        · replace zc43 := bi_0.mp zc43
          refine y_aload_n (pc := 46) hF dX11_isFront_46 0 rfl ?_
          refine y_iload_n (pc := 47) hF dX11_isFront_47 1 rfl ?_
          refine y_iload_n (pc := 48) hF dX11_isFront_48 2 rfl ?_
          refine y_iload_n (pc := 49) hF dX11_isFront_49 3 rfl ?_
          refine y_iconst (pc := 50) hF dX11_isFront_50 ?_
          refine y_iadd (pc := 51) hF dX11_isFront_51 ?_
          refine y_cp (y_rV (pc := 52) hF (tX11_isKnown z w h T S F P O hn hz hA a (b + 1) (by omega) (by omega)) dX11_isFront_52 (by omega) rfl rfl rfl w_1440 qX11_isKnown rfl ⟨Nat.le_of_ble_eq_true rfl, Nat.le_of_ble_eq_true rfl⟩ ⟨Nat.zero_le _, Nat.zero_le _⟩ (Nat.le_of_ble_eq_true rfl) rfl) ?_
          refine y_if_eq (pc := 55) hF dX11_isFront_55 62 rfl bi_r (fun zc55 => ?_) (fun zc55 => ?_)
          · replace zc55 := bi_0.mp zc55
            refine y_iconst (pc := 62) hF dX11_isFront_62 ?_
            exact y_zret (pc := 63) hF dX11_isFront_63 (by decide) (Nat.zero_le _) (Nat.zero_le _) ⟨_, rfl, by rw [show sFr w h T a b = false by simp [sFr, *]]; rfl, rfl, rfl⟩
          · replace zc55 := bi_n0.mp zc55
            refine y_iconst (pc := 58) hF dX11_isFront_58 ?_
            refine y_goto (pc := 59) hF dX11_isFront_59 63 rfl ?_
            exact y_zret (pc := 63) hF dX11_isFront_63 (by decide) (Nat.zero_le _) (Nat.zero_le _) ⟨_, rfl, by rw [show sFr w h T a b = true by simp [sFr, *]]; rfl, rfl, rfl⟩

theorem dX11_forgets_0 : decode cX11_forgets 0 = .ok (.aload_n 0, 1) := by decide +kernel
theorem dX11_forgets_1 : decode cX11_forgets 1 = .ok (.getfield 19, 3) := by decide +kernel
theorem dX11_forgets_4 : decode cX11_forgets 4 = .ok (.iload_n 1, 1) := by decide +kernel
theorem dX11_forgets_5 : decode cX11_forgets 5 = .ok (.aaload, 1) := by decide +kernel
theorem dX11_forgets_6 : decode cX11_forgets 6 = .ok (.sipush 800, 3) := by decide +kernel
theorem dX11_forgets_9 : decode cX11_forgets 9 = .ok (.iload_n 2, 1) := by decide +kernel
theorem dX11_forgets_10 : decode cX11_forgets 10 = .ok (.iadd, 1) := by decide +kernel
theorem dX11_forgets_11 : decode cX11_forgets 11 = .ok (.iconst 0, 1) := by decide +kernel
theorem dX11_forgets_12 : decode cX11_forgets 12 = .ok (.iastore, 1) := by decide +kernel
theorem dX11_forgets_13 : decode cX11_forgets 13 = .ok (.aload_n 0, 1) := by decide +kernel
theorem dX11_forgets_14 : decode cX11_forgets 14 = .ok (.getfield 19, 3) := by decide +kernel
theorem dX11_forgets_17 : decode cX11_forgets 17 = .ok (.iload_n 1, 1) := by decide +kernel
theorem dX11_forgets_18 : decode cX11_forgets 18 = .ok (.aaload, 1) := by decide +kernel
theorem dX11_forgets_19 : decode cX11_forgets 19 = .ok (.sipush 1200, 3) := by decide +kernel
theorem dX11_forgets_22 : decode cX11_forgets 22 = .ok (.iload_n 2, 1) := by decide +kernel
theorem dX11_forgets_23 : decode cX11_forgets 23 = .ok (.iadd, 1) := by decide +kernel
theorem dX11_forgets_24 : decode cX11_forgets 24 = .ok (.iconst (-1), 1) := by decide +kernel
theorem dX11_forgets_25 : decode cX11_forgets 25 = .ok (.iastore, 1) := by decide +kernel
theorem dX11_forgets_26 : decode cX11_forgets 26 = .ok (.aload_n 0, 1) := by decide +kernel
theorem dX11_forgets_27 : decode cX11_forgets 27 = .ok (.getfield 19, 3) := by decide +kernel
theorem dX11_forgets_30 : decode cX11_forgets 30 = .ok (.iload_n 1, 1) := by decide +kernel
theorem dX11_forgets_31 : decode cX11_forgets 31 = .ok (.aaload, 1) := by decide +kernel
theorem dX11_forgets_32 : decode cX11_forgets 32 = .ok (.sipush 1600, 3) := by decide +kernel
theorem dX11_forgets_35 : decode cX11_forgets 35 = .ok (.iload_n 2, 1) := by decide +kernel
theorem dX11_forgets_36 : decode cX11_forgets 36 = .ok (.iadd, 1) := by decide +kernel
theorem dX11_forgets_37 : decode cX11_forgets 37 = .ok (.iconst (-1), 1) := by decide +kernel
theorem dX11_forgets_38 : decode cX11_forgets 38 = .ok (.iastore, 1) := by decide +kernel
theorem dX11_forgets_39 : decode cX11_forgets 39 = .ok (.return_, 1) := by decide +kernel
set_option maxHeartbeats 4000000 in
set_option maxRecDepth 100000 in
theorem tX11_forgets {l : Launch} {g : yG} {n : Nat} {σ : yM} (z : Nat) (hn : 172 ≤ n) (hz : z < 3) (i : Int) (hi : 0 ≤ i ∧ i < 400) : yMet l g yX11_forgets cX11_forgets 3 none (rmL 1) [yR g 155, yI (z : Int), yI i] (SC g) n σ (SC g) (yPv (fun n' σ' => n' = n ∧ σ' = yset (yset (yset σ (158 + z) (800 + i) 0) (158 + z) (1200 + i) (-1)) (158 + z) (1600 + i) (-1))) := by
  refine y_start (by decide) (Nat.le_of_ble_eq_true rfl) (fun X0 hF => ?_)
  show yV X0 g 3 (yQ X0 g (SC g) (yPv (fun n' σ' => n' = n ∧ σ' = yset (yset (yset σ (158 + z) (800 + i) 0) (158 + z) (1200 + i) (-1)) (158 + z) (1600 + i) (-1))) (rmL 1)) (SC g) n σ 0 0 0 [(0, yR g 155), (1, yI (z : Int)), (2, yI i)] []
  refine y_aload_n (pc := 0) hF dX11_forgets_0 0 rfl ?_
  refine y_get (pc := 1) (ci := 11) hF dX11_forgets_1 (by omega) rfl rfl rfl iX11 2 (by decide) w_1249 rfl ?_
  refine y_iload_n (pc := 4) hF dX11_forgets_4 1 rfl ?_
  refine y_aaM (pc := 5) (z := z) hF dX11_forgets_5 hn rfl hz ?_
  refine y_sipush (pc := 6) hF dX11_forgets_6 (by decide) ?_
  refine y_iload_n (pc := 9) hF dX11_forgets_9 2 rfl ?_
  refine y_iadd (pc := 10) hF dX11_forgets_10 ?_
  refine y_iconst (pc := 11) hF dX11_forgets_11 ?_
  refine y_iastore (pc := 12) hF dX11_forgets_12 (by omega) (sc_lay hz g) (by omega) (by decide) ?_
  refine y_aload_n (pc := 13) hF dX11_forgets_13 0 rfl ?_
  refine y_get (pc := 14) (ci := 11) hF dX11_forgets_14 (by omega) rfl rfl rfl iX11 2 (by decide) w_1249 rfl ?_
  refine y_iload_n (pc := 17) hF dX11_forgets_17 1 rfl ?_
  refine y_aaM (pc := 18) (z := z) hF dX11_forgets_18 hn rfl hz ?_
  refine y_sipush (pc := 19) hF dX11_forgets_19 (by decide) ?_
  refine y_iload_n (pc := 22) hF dX11_forgets_22 2 rfl ?_
  refine y_iadd (pc := 23) hF dX11_forgets_23 ?_
  refine y_iconst (pc := 24) hF dX11_forgets_24 ?_
  refine y_iastore (pc := 25) hF dX11_forgets_25 (by omega) (sc_lay hz g) (by omega) (by decide) ?_
  refine y_aload_n (pc := 26) hF dX11_forgets_26 0 rfl ?_
  refine y_get (pc := 27) (ci := 11) hF dX11_forgets_27 (by omega) rfl rfl rfl iX11 2 (by decide) w_1249 rfl ?_
  refine y_iload_n (pc := 30) hF dX11_forgets_30 1 rfl ?_
  refine y_aaM (pc := 31) (z := z) hF dX11_forgets_31 hn rfl hz ?_
  refine y_sipush (pc := 32) hF dX11_forgets_32 (by decide) ?_
  refine y_iload_n (pc := 35) hF dX11_forgets_35 2 rfl ?_
  refine y_iadd (pc := 36) hF dX11_forgets_36 ?_
  refine y_iconst (pc := 37) hF dX11_forgets_37 ?_
  refine y_iastore (pc := 38) hF dX11_forgets_38 (by omega) (sc_lay hz g) (by omega) (by decide) ?_
  exact y_vret (pc := 39) hF dX11_forgets_39 (Nat.zero_le _) (Nat.zero_le _) ⟨rfl, rfl, rfl⟩

theorem dX11_known_0 : decode cX11_known 0 = .ok (.aload_n 0, 1) := by decide +kernel
theorem dX11_known_1 : decode cX11_known 1 = .ok (.getfield 19, 3) := by decide +kernel
theorem dX11_known_4 : decode cX11_known 4 = .ok (.iload_n 1, 1) := by decide +kernel
theorem dX11_known_5 : decode cX11_known 5 = .ok (.aaload, 1) := by decide +kernel
theorem dX11_known_6 : decode cX11_known 6 = .ok (.iconst 0, 1) := by decide +kernel
theorem dX11_known_7 : decode cX11_known 7 = .ok (.iload_n 2, 1) := by decide +kernel
theorem dX11_known_8 : decode cX11_known 8 = .ok (.iadd, 1) := by decide +kernel
theorem dX11_known_9 : decode cX11_known 9 = .ok (.iload_n 3, 1) := by decide +kernel
theorem dX11_known_10 : decode cX11_known 10 = .ok (.iastore, 1) := by decide +kernel
theorem dX11_known_11 : decode cX11_known 11 = .ok (.aload_n 0, 1) := by decide +kernel
theorem dX11_known_12 : decode cX11_known 12 = .ok (.getfield 19, 3) := by decide +kernel
theorem dX11_known_15 : decode cX11_known 15 = .ok (.iload_n 1, 1) := by decide +kernel
theorem dX11_known_16 : decode cX11_known 16 = .ok (.aaload, 1) := by decide +kernel
theorem dX11_known_17 : decode cX11_known 17 = .ok (.sipush 400, 3) := by decide +kernel
theorem dX11_known_20 : decode cX11_known 20 = .ok (.iload_n 2, 1) := by decide +kernel
theorem dX11_known_21 : decode cX11_known 21 = .ok (.iadd, 1) := by decide +kernel
theorem dX11_known_22 : decode cX11_known 22 = .ok (.sipush 1000, 3) := by decide +kernel
theorem dX11_known_25 : decode cX11_known 25 = .ok (.iastore, 1) := by decide +kernel
theorem dX11_known_26 : decode cX11_known 26 = .ok (.aload_n 0, 1) := by decide +kernel
theorem dX11_known_27 : decode cX11_known 27 = .ok (.iload_n 1, 1) := by decide +kernel
theorem dX11_known_28 : decode cX11_known 28 = .ok (.iload_n 2, 1) := by decide +kernel
theorem dX11_known_29 : decode cX11_known 29 = .ok (.invokevirtual 64, 3) := by decide +kernel
theorem dX11_known_32 : decode cX11_known 32 = .ok (.return_, 1) := by decide +kernel
set_option maxHeartbeats 4000000 in
set_option maxRecDepth 100000 in
theorem tX11_known {l : Launch} {g : yG} {n : Nat} {σ : yM} (z : Nat) (hn : 172 ≤ n) (hz : z < 3) (i t : Int) (hi : 0 ≤ i ∧ i < 400) : yMet l g yX11_known cX11_known 4 none (rmL 2) [yR g 155, yI (z : Int), yI i, yI t] (SC g) n σ (SC g) (yPv (fun n' σ' => n' = n ∧ σ' = mkn σ z i t)) := by
  refine y_start (by decide) (Nat.le_of_ble_eq_true rfl) (fun X0 hF => ?_)
  show yV X0 g 4 (yQ X0 g (SC g) (yPv (fun n' σ' => n' = n ∧ σ' = mkn σ z i t)) (rmL 2)) (SC g) n σ 0 0 0 [(0, yR g 155), (1, yI (z : Int)), (2, yI i), (3, yI t)] []
  refine y_aload_n (pc := 0) hF dX11_known_0 0 rfl ?_
  refine y_get (pc := 1) (ci := 11) hF dX11_known_1 (by omega) rfl rfl rfl iX11 2 (by decide) w_1249 rfl ?_
  refine y_iload_n (pc := 4) hF dX11_known_4 1 rfl ?_
  refine y_aaM (pc := 5) (z := z) hF dX11_known_5 hn rfl hz ?_
  refine y_iconst (pc := 6) hF dX11_known_6 ?_
  refine y_iload_n (pc := 7) hF dX11_known_7 2 rfl ?_
  refine y_iadd (pc := 8) hF dX11_known_8 ?_
  rw [show 0 + i = i from (Int.zero_add _)]
  refine y_iload_n (pc := 9) hF dX11_known_9 3 rfl ?_
  refine y_iastore (pc := 10) hF dX11_known_10 (by omega) (sc_lay hz g) (by omega) (by decide) ?_
  refine y_aload_n (pc := 11) hF dX11_known_11 0 rfl ?_
  refine y_get (pc := 12) (ci := 11) hF dX11_known_12 (by omega) rfl rfl rfl iX11 2 (by decide) w_1249 rfl ?_
  refine y_iload_n (pc := 15) hF dX11_known_15 1 rfl ?_
  refine y_aaM (pc := 16) (z := z) hF dX11_known_16 hn rfl hz ?_
  refine y_sipush (pc := 17) hF dX11_known_17 (by decide) ?_
  refine y_iload_n (pc := 20) hF dX11_known_20 2 rfl ?_
  refine y_iadd (pc := 21) hF dX11_known_21 ?_
  refine y_sipush (pc := 22) hF dX11_known_22 (by decide) ?_
  refine y_iastore (pc := 25) hF dX11_known_25 (by omega) (sc_lay hz g) (by omega) (by decide) ?_
  refine y_aload_n (pc := 26) hF dX11_known_26 0 rfl ?_
  refine y_iload_n (pc := 27) hF dX11_known_27 1 rfl ?_
  refine y_iload_n (pc := 28) hF dX11_known_28 2 rfl ?_
  refine y_cv (y_rV (pc := 29) hF (tX11_forgets z hn hz i (by omega)) dX11_known_29 (by omega) rfl rfl rfl w_1243 qX11_forgets rfl ⟨Nat.le_of_ble_eq_true rfl, Nat.le_of_ble_eq_true rfl⟩ ⟨Nat.zero_le _, Nat.zero_le _⟩ (Nat.le_of_ble_eq_true rfl) rfl) rfl rfl (fun n' σ' zp29 => ?_)
  obtain ⟨zn29, rfl⟩ := zp29
  have zn29 := zn29.symm
  subst zn29
  exact y_vret (pc := 32) hF dX11_known_32 (Nat.zero_le _) (Nat.zero_le _) ⟨rfl, rfl, rfl⟩

theorem dX11_missing_0 : decode cX11_missing 0 = .ok (.aload_n 0, 1) := by decide +kernel
theorem dX11_missing_1 : decode cX11_missing 1 = .ok (.getfield 19, 3) := by decide +kernel
theorem dX11_missing_4 : decode cX11_missing 4 = .ok (.iload_n 1, 1) := by decide +kernel
theorem dX11_missing_5 : decode cX11_missing 5 = .ok (.aaload, 1) := by decide +kernel
theorem dX11_missing_6 : decode cX11_missing 6 = .ok (.iconst 0, 1) := by decide +kernel
theorem dX11_missing_7 : decode cX11_missing 7 = .ok (.iload_n 2, 1) := by decide +kernel
theorem dX11_missing_8 : decode cX11_missing 8 = .ok (.iadd, 1) := by decide +kernel
theorem dX11_missing_9 : decode cX11_missing 9 = .ok (.iconst (-1), 1) := by decide +kernel
theorem dX11_missing_10 : decode cX11_missing 10 = .ok (.iastore, 1) := by decide +kernel
theorem dX11_missing_11 : decode cX11_missing 11 = .ok (.aload_n 0, 1) := by decide +kernel
theorem dX11_missing_12 : decode cX11_missing 12 = .ok (.getfield 19, 3) := by decide +kernel
theorem dX11_missing_15 : decode cX11_missing 15 = .ok (.iload_n 1, 1) := by decide +kernel
theorem dX11_missing_16 : decode cX11_missing 16 = .ok (.aaload, 1) := by decide +kernel
theorem dX11_missing_17 : decode cX11_missing 17 = .ok (.sipush 400, 3) := by decide +kernel
theorem dX11_missing_20 : decode cX11_missing 20 = .ok (.iload_n 2, 1) := by decide +kernel
theorem dX11_missing_21 : decode cX11_missing 21 = .ok (.iadd, 1) := by decide +kernel
theorem dX11_missing_22 : decode cX11_missing 22 = .ok (.iconst 0, 1) := by decide +kernel
theorem dX11_missing_23 : decode cX11_missing 23 = .ok (.iastore, 1) := by decide +kernel
theorem dX11_missing_24 : decode cX11_missing 24 = .ok (.aload_n 0, 1) := by decide +kernel
theorem dX11_missing_25 : decode cX11_missing 25 = .ok (.iload_n 1, 1) := by decide +kernel
theorem dX11_missing_26 : decode cX11_missing 26 = .ok (.iload_n 2, 1) := by decide +kernel
theorem dX11_missing_27 : decode cX11_missing 27 = .ok (.invokevirtual 64, 3) := by decide +kernel
theorem dX11_missing_30 : decode cX11_missing 30 = .ok (.return_, 1) := by decide +kernel
set_option maxHeartbeats 4000000 in
set_option maxRecDepth 100000 in
theorem tX11_missing {l : Launch} {g : yG} {n : Nat} {σ : yM} (z : Nat) (hn : 172 ≤ n) (hz : z < 3) (i : Int) (hi : 0 ≤ i ∧ i < 400) : yMet l g yX11_missing cX11_missing 3 none (rmL 2) [yR g 155, yI (z : Int), yI i] (SC g) n σ (SC g) (yPv (fun n' σ' => n' = n ∧ σ' = mms σ z i)) := by
  refine y_start (by decide) (Nat.le_of_ble_eq_true rfl) (fun X0 hF => ?_)
  show yV X0 g 3 (yQ X0 g (SC g) (yPv (fun n' σ' => n' = n ∧ σ' = mms σ z i)) (rmL 2)) (SC g) n σ 0 0 0 [(0, yR g 155), (1, yI (z : Int)), (2, yI i)] []
  refine y_aload_n (pc := 0) hF dX11_missing_0 0 rfl ?_
  refine y_get (pc := 1) (ci := 11) hF dX11_missing_1 (by omega) rfl rfl rfl iX11 2 (by decide) w_1249 rfl ?_
  refine y_iload_n (pc := 4) hF dX11_missing_4 1 rfl ?_
  refine y_aaM (pc := 5) (z := z) hF dX11_missing_5 hn rfl hz ?_
  refine y_iconst (pc := 6) hF dX11_missing_6 ?_
  refine y_iload_n (pc := 7) hF dX11_missing_7 2 rfl ?_
  refine y_iadd (pc := 8) hF dX11_missing_8 ?_
  rw [show 0 + i = i from (Int.zero_add _)]
  refine y_iconst (pc := 9) hF dX11_missing_9 ?_
  refine y_iastore (pc := 10) hF dX11_missing_10 (by omega) (sc_lay hz g) (by omega) (by decide) ?_
  refine y_aload_n (pc := 11) hF dX11_missing_11 0 rfl ?_
  refine y_get (pc := 12) (ci := 11) hF dX11_missing_12 (by omega) rfl rfl rfl iX11 2 (by decide) w_1249 rfl ?_
  refine y_iload_n (pc := 15) hF dX11_missing_15 1 rfl ?_
  refine y_aaM (pc := 16) (z := z) hF dX11_missing_16 hn rfl hz ?_
  refine y_sipush (pc := 17) hF dX11_missing_17 (by decide) ?_
  refine y_iload_n (pc := 20) hF dX11_missing_20 2 rfl ?_
  refine y_iadd (pc := 21) hF dX11_missing_21 ?_
  refine y_iconst (pc := 22) hF dX11_missing_22 ?_
  refine y_iastore (pc := 23) hF dX11_missing_23 (by omega) (sc_lay hz g) (by omega) (by decide) ?_
  refine y_aload_n (pc := 24) hF dX11_missing_24 0 rfl ?_
  refine y_iload_n (pc := 25) hF dX11_missing_25 1 rfl ?_
  refine y_iload_n (pc := 26) hF dX11_missing_26 2 rfl ?_
  refine y_cv (y_rV (pc := 27) hF (tX11_forgets z hn hz i (by omega)) dX11_missing_27 (by omega) rfl rfl rfl w_1243 qX11_forgets rfl ⟨Nat.le_of_ble_eq_true rfl, Nat.le_of_ble_eq_true rfl⟩ ⟨Nat.zero_le _, Nat.zero_le _⟩ (Nat.le_of_ble_eq_true rfl) rfl) rfl rfl (fun n' σ' zp27 => ?_)
  obtain ⟨zn27, rfl⟩ := zp27
  have zn27 := zn27.symm
  subst zn27
  exact y_vret (pc := 30) hF dX11_missing_30 (Nat.zero_le _) (Nat.zero_le _) ⟨rfl, rfl, rfl⟩
