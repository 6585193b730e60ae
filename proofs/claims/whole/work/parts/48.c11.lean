theorem dX6_reaches_0 : decode cX6_reaches 0 = .ok (.iload_n 1, 1) := by decide +kernel
theorem dX6_reaches_1 : decode cX6_reaches 1 = .ok (.aload_n 0, 1) := by decide +kernel
theorem dX6_reaches_2 : decode cX6_reaches 2 = .ok (.getfield 9, 3) := by decide +kernel
theorem dX6_reaches_5 : decode cX6_reaches 5 = .ok (.isub, 1) := by decide +kernel
theorem dX6_reaches_6 : decode cX6_reaches 6 = .ok (.invokestatic 134, 3) := by decide +kernel
theorem dX6_reaches_9 : decode cX6_reaches 9 = .ok (.aload_n 0, 1) := by decide +kernel
theorem dX6_reaches_10 : decode cX6_reaches 10 = .ok (.getfield 72, 3) := by decide +kernel
theorem dX6_reaches_13 : decode cX6_reaches 13 = .ok (.getfield 140, 3) := by decide +kernel
theorem dX6_reaches_16 : decode cX6_reaches 16 = .ok (.if_icmp .gt 26, 3) := by decide +kernel
theorem dX6_reaches_19 : decode cX6_reaches 19 = .ok (.iload_n 2, 1) := by decide +kernel
theorem dX6_reaches_20 : decode cX6_reaches 20 = .ok (.aload_n 0, 1) := by decide +kernel
theorem dX6_reaches_21 : decode cX6_reaches 21 = .ok (.getfield 15, 3) := by decide +kernel
theorem dX6_reaches_24 : decode cX6_reaches 24 = .ok (.isub, 1) := by decide +kernel
theorem dX6_reaches_25 : decode cX6_reaches 25 = .ok (.invokestatic 134, 3) := by decide +kernel
theorem dX6_reaches_28 : decode cX6_reaches 28 = .ok (.aload_n 0, 1) := by decide +kernel
theorem dX6_reaches_29 : decode cX6_reaches 29 = .ok (.getfield 72, 3) := by decide +kernel
theorem dX6_reaches_32 : decode cX6_reaches 32 = .ok (.getfield 140, 3) := by decide +kernel
theorem dX6_reaches_35 : decode cX6_reaches 35 = .ok (.if_icmp .gt 7, 3) := by decide +kernel
theorem dX6_reaches_38 : decode cX6_reaches 38 = .ok (.iconst 1, 1) := by decide +kernel
theorem dX6_reaches_39 : decode cX6_reaches 39 = .ok (.goto 4, 3) := by decide +kernel
theorem dX6_reaches_42 : decode cX6_reaches 42 = .ok (.iconst 0, 1) := by decide +kernel
theorem dX6_reaches_43 : decode cX6_reaches 43 = .ok (.ireturn, 1) := by decide +kernel
set_option maxHeartbeats 4000000 in
set_option maxRecDepth 100000 in
theorem tX6_reaches {l : Launch} {g : yG} {n : Nat} {σ : yM} (k cs : Nat) (w h : Int) (T S F P O : Int → Int → Int) (s re fo ra tu we sh : Int) (hn : 172 ≤ n) (hP : isPic k) (hcs : isSet cs) (hA : rC σ k w h T S F P O) (hS : rS σ cs s re fo ra tu we sh) (hk : k + 5 < 120 ∨ 130 < k) (hc2 : cs < 120 ∨ 130 < cs) (ax ay : Int) (hB : rA σ k cs ax ay) (hax : -1000000 ≤ ax ∧ ax ≤ 1000000) (hay : -1000000 ≤ ay ∧ ay ≤ 1000000) (x y : Int) (hx : -1000000 ≤ x ∧ x ≤ 1000000) (hy : -1000000 ≤ y ∧ y ≤ 1000000) : yMet l g yX6_reaches cX6_reaches 3 (some .boolean) (rmL 1) [yR g 123, yI x, yI y] (SC g) n σ (SC g) (yPp (bi (sNr ax ay x y re)) n σ) := by
  obtain ⟨hw1, hw2, hw3, hw4⟩ := id hA.1.1
  obtain ⟨hs1, hs2, hs3, hs4, hs5, hs6, hs7⟩ := id hS.2
  have zkn : k < n := by have := hP.1; omega
  have zcsn : cs < n := by have := hcs.1; omega
  have z123 : 123 < n := by omega
  have z124 : 124 < n := by omega
  have z125 : 125 < n := by omega
  have z126 : 126 < n := by omega
  have z127 : 127 < n := by omega
  have zkn1 : k + 1 < n := by have := hP.1; omega
  have zkn2 : k + 2 < n := by have := hP.1; omega
  have zkn3 : k + 3 < n := by have := hP.1; omega
  have zkn4 : k + 4 < n := by have := hP.1; omega
  have zkn5 : k + 5 < n := by have := hP.1; omega
  refine y_start (by decide) (Nat.le_of_ble_eq_true rfl) (fun X0 hF => ?_)
  show yV X0 g 3 (yQ X0 g (SC g) (yPp (bi (sNr ax ay x y re)) n σ) (rmL 1)) (SC g) n σ 0 0 0 [(0, yR g 123), (1, yI x), (2, yI y)] []
  refine y_iload_n (pc := 0) hF dX6_reaches_0 1 rfl ?_
  refine y_aload_n (pc := 1) hF dX6_reaches_1 0 rfl ?_
  refine y_get (pc := 2) (ci := 6) hF dX6_reaches_2 z123 rfl rfl rfl iX6 2 (by decide) w_363 rfl ?_
  rw [show σ 123 2 = ax from hB.2.2.1]
  refine y_isub (pc := 5) hF dX6_reaches_5 ?_
  refine y_mabs (pc := 6) hF dX6_reaches_6 w_1068 w_883 w_103 w_884 (Nat.le_of_ble_eq_true rfl) (Nat.le_of_ble_eq_true rfl) ⟨Nat.zero_le _, Nat.zero_le _⟩ (by omega) ?_
  refine y_aload_n (pc := 9) hF dX6_reaches_9 0 rfl ?_
  refine y_get (pc := 10) (ci := 6) hF dX6_reaches_10 z123 rfl rfl rfl iX6 1 (by decide) w_362 rfl ?_
  rw [show (σ 123 1).toNat = cs from hB.c]
  refine y_getN (pc := 13) (ci := 7) hF dX6_reaches_13 zcsn (hcs.2 g) rfl rfl iX7 1 (by decide) w_169 rfl ?_
  rw [show σ cs 1 = re from hS.1.2.1]
  refine y_icmp_gt (pc := 16) hF dX6_reaches_16 42 rfl (by omega) (by omega) (fun zc16 => ?_) (fun zc16 => ?_)
  · skip
    refine y_iconst (pc := 42) hF dX6_reaches_42 ?_
    exact y_zret (pc := 43) hF dX6_reaches_43 (by decide) (Nat.zero_le _) (Nat.zero_le _) ⟨_, rfl, by rw [show sNr ax ay x y re = false by rw [Bool.eq_false_iff]; simp only [sNr, ne_eq, Bool.and_eq_true, decide_eq_true_eq]; omega]; rfl, rfl, rfl⟩
  · skip
    refine y_iload_n (pc := 19) hF dX6_reaches_19 2 rfl ?_
    refine y_aload_n (pc := 20) hF dX6_reaches_20 0 rfl ?_
    refine y_get (pc := 21) (ci := 6) hF dX6_reaches_21 z123 rfl rfl rfl iX6 3 (by decide) w_366 rfl ?_
    rw [show σ 123 3 = ay from hB.2.2.2]
    refine y_isub (pc := 24) hF dX6_reaches_24 ?_
    refine y_mabs (pc := 25) hF dX6_reaches_25 w_1068 w_883 w_103 w_884 (Nat.le_of_ble_eq_true rfl) (Nat.le_of_ble_eq_true rfl) ⟨Nat.zero_le _, Nat.zero_le _⟩ (by omega) ?_
    refine y_aload_n (pc := 28) hF dX6_reaches_28 0 rfl ?_
    refine y_get (pc := 29) (ci := 6) hF dX6_reaches_29 z123 rfl rfl rfl iX6 1 (by decide) w_362 rfl ?_
    rw [show (σ 123 1).toNat = cs from hB.c]
    refine y_getN (pc := 32) (ci := 7) hF dX6_reaches_32 zcsn (hcs.2 g) rfl rfl iX7 1 (by decide) w_169 rfl ?_
    rw [show σ cs 1 = re from hS.1.2.1]
    refine y_icmp_gt (pc := 35) hF dX6_reaches_35 42 rfl (by omega) (by omega) (fun zc35 => ?_) (fun zc35 => ?_)
    · skip
      refine y_iconst (pc := 42) hF dX6_reaches_42 ?_
      exact y_zret (pc := 43) hF dX6_reaches_43 (by decide) (Nat.zero_le _) (Nat.zero_le _) ⟨_, rfl, by rw [show sNr ax ay x y re = false by rw [Bool.eq_false_iff]; simp only [sNr, ne_eq, Bool.and_eq_true, decide_eq_true_eq]; omega]; rfl, rfl, rfl⟩
    · skip
      refine y_iconst (pc := 38) hF dX6_reaches_38 ?_
      refine y_goto (pc := 39) hF dX6_reaches_39 43 rfl ?_
      exact y_zret (pc := 43) hF dX6_reaches_43 (by decide) (Nat.zero_le _) (Nat.zero_le _) ⟨_, rfl, by rw [show sNr ax ay x y re = true by simp only [sNr, Bool.and_eq_true, decide_eq_true_eq]; omega]; rfl, rfl, rfl⟩

theorem dX6_reachTo_0 : decode cX6_reachTo 0 = .ok (.aload_n 0, 1) := by decide +kernel
theorem dX6_reachTo_1 : decode cX6_reachTo 1 = .ok (.getfield 68, 3) := by decide +kernel
theorem dX6_reachTo_4 : decode cX6_reachTo 4 = .ok (.iload_n 1, 1) := by decide +kernel
theorem dX6_reachTo_5 : decode cX6_reachTo 5 = .ok (.invokevirtual 153, 3) := by decide +kernel
theorem dX6_reachTo_8 : decode cX6_reachTo 8 = .ok (.aload_n 0, 1) := by decide +kernel
theorem dX6_reachTo_9 : decode cX6_reachTo 9 = .ok (.getfield 9, 3) := by decide +kernel
theorem dX6_reachTo_12 : decode cX6_reachTo 12 = .ok (.isub, 1) := by decide +kernel
theorem dX6_reachTo_13 : decode cX6_reachTo 13 = .ok (.invokestatic 134, 3) := by decide +kernel
theorem dX6_reachTo_16 : decode cX6_reachTo 16 = .ok (.istore_n 2, 1) := by decide +kernel
theorem dX6_reachTo_17 : decode cX6_reachTo 17 = .ok (.aload_n 0, 1) := by decide +kernel
theorem dX6_reachTo_18 : decode cX6_reachTo 18 = .ok (.getfield 68, 3) := by decide +kernel
theorem dX6_reachTo_21 : decode cX6_reachTo 21 = .ok (.iload_n 1, 1) := by decide +kernel
theorem dX6_reachTo_22 : decode cX6_reachTo 22 = .ok (.invokevirtual 156, 3) := by decide +kernel
theorem dX6_reachTo_25 : decode cX6_reachTo 25 = .ok (.aload_n 0, 1) := by decide +kernel
theorem dX6_reachTo_26 : decode cX6_reachTo 26 = .ok (.getfield 15, 3) := by decide +kernel
theorem dX6_reachTo_29 : decode cX6_reachTo 29 = .ok (.isub, 1) := by decide +kernel
theorem dX6_reachTo_30 : decode cX6_reachTo 30 = .ok (.invokestatic 134, 3) := by decide +kernel
theorem dX6_reachTo_33 : decode cX6_reachTo 33 = .ok (.istore_n 3, 1) := by decide +kernel
theorem dX6_reachTo_34 : decode cX6_reachTo 34 = .ok (.iconst 1, 1) := by decide +kernel
theorem dX6_reachTo_35 : decode cX6_reachTo 35 = .ok (.iload_n 2, 1) := by decide +kernel
theorem dX6_reachTo_36 : decode cX6_reachTo 36 = .ok (.iload_n 3, 1) := by decide +kernel
theorem dX6_reachTo_37 : decode cX6_reachTo 37 = .ok (.invokestatic 165, 3) := by decide +kernel
theorem dX6_reachTo_40 : decode cX6_reachTo 40 = .ok (.invokestatic 165, 3) := by decide +kernel
theorem dX6_reachTo_43 : decode cX6_reachTo 43 = .ok (.ireturn, 1) := by decide +kernel
set_option maxHeartbeats 4000000 in
set_option maxRecDepth 100000 in
theorem tX6_reachTo {l : Launch} {g : yG} {n : Nat} {σ : yM} (k cs : Nat) (w h : Int) (T S F P O : Int → Int → Int) (s re fo ra tu we sh : Int) (hn : 172 ≤ n) (hP : isPic k) (hcs : isSet cs) (hA : rC σ k w h T S F P O) (hS : rS σ cs s re fo ra tu we sh) (hk : k + 5 < 120 ∨ 130 < k) (hc2 : cs < 120 ∨ 130 < cs) (ax ay : Int) (hB : rA σ k cs ax ay) (hax : 0 ≤ ax ∧ ax < 20) (hay : 0 ≤ ay ∧ ay < 20) (q : Int) (hq : 0 ≤ q ∧ q < w * h) : yMet l g yX6_reachTo cX6_reachTo 4 (some .int) (rmL 2) [yR g 123, yI q] (SC g) n σ (SC g) (yPp (max 1 (max ((q % w - ax).natAbs : Int) ((q / w - ay).natAbs : Int))) n σ) := by
  obtain ⟨hw1, hw2, hw3, hw4⟩ := id hA.1.1
  obtain ⟨hs1, hs2, hs3, hs4, hs5, hs6, hs7⟩ := id hS.2
  have zkn : k < n := by have := hP.1; omega
  have zcsn : cs < n := by have := hcs.1; omega
  have z123 : 123 < n := by omega
  have z124 : 124 < n := by omega
  have z125 : 125 < n := by omega
  have z126 : 126 < n := by omega
  have z127 : 127 < n := by omega
  have zkn1 : k + 1 < n := by have := hP.1; omega
  have zkn2 : k + 2 < n := by have := hP.1; omega
  have zkn3 : k + 3 < n := by have := hP.1; omega
  have zkn4 : k + 4 < n := by have := hP.1; omega
  have zkn5 : k + 5 < n := by have := hP.1; omega
  have zd := y_de (h := h) hw1 hq.1 hq.2
  have zwh := y_wh ⟨hw1, hw2⟩ ⟨hw3, hw4⟩
  have zri : -2147483648 ≤ q ∧ q < 2147483648 := by omega
  refine y_start (by decide) (Nat.le_of_ble_eq_true rfl) (fun X0 hF => ?_)
  show yV X0 g 4 (yQ X0 g (SC g) (yPp (max 1 (max ((q % w - ax).natAbs : Int) ((q / w - ay).natAbs : Int))) n σ) (rmL 2)) (SC g) n σ 0 0 0 [(0, yR g 123), (1, yI q)] []
  refine y_aload_n (pc := 0) hF dX6_reachTo_0 0 rfl ?_
  refine y_get (pc := 1) (ci := 6) hF dX6_reachTo_1 z123 rfl rfl rfl iX6 0 (by decide) w_361 rfl ?_
  rw [show (σ 123 0).toNat = k from hB.k]
  refine y_iload_n (pc := 4) hF dX6_reachTo_4 1 rfl ?_
  have zz5 := y_rV (pc := 5) hF (tX4_xOf k w h T S F P O hn hP hA q zri) dX6_reachTo_5 zkn (hP.2 g).1 rfl rfl w_924 qX4_xOf rfl ⟨Nat.le_of_ble_eq_true rfl, Nat.le_of_ble_eq_true rfl⟩ ⟨Nat.zero_le _, Nat.zero_le _⟩ (Nat.le_of_ble_eq_true rfl) rfl (rest := []) (cells := 0) (slots := 0) (lv := [(0, yR g 123), (1, yI q)])
  refine y_cp (zz5) ?_
  rw [show cx w q = q % w from (by unfold cx; rw [if_neg (by omega)])]
  refine y_aload_n (pc := 8) hF dX6_reachTo_8 0 rfl ?_
  refine y_get (pc := 9) (ci := 6) hF dX6_reachTo_9 z123 rfl rfl rfl iX6 2 (by decide) w_363 rfl ?_
  rw [show σ 123 2 = ax from hB.2.2.1]
  refine y_isub (pc := 12) hF dX6_reachTo_12 ?_
  refine y_mabs (pc := 13) hF dX6_reachTo_13 w_1068 w_883 w_103 w_884 (Nat.le_of_ble_eq_true rfl) (Nat.le_of_ble_eq_true rfl) ⟨Nat.zero_le _, Nat.zero_le _⟩ (by omega) ?_
  refine y_istore_n (pc := 16) (lv' := [(0, yR g 123), (1, yI q), (2, yI (Int.natAbs ((q % w) - ax) : Int))]) hF dX6_reachTo_16 (by decide) rfl rfl ?_
  refine y_aload_n (pc := 17) hF dX6_reachTo_17 0 rfl ?_
  refine y_get (pc := 18) (ci := 6) hF dX6_reachTo_18 z123 rfl rfl rfl iX6 0 (by decide) w_361 rfl ?_
  rw [show (σ 123 0).toNat = k from hB.k]
  refine y_iload_n (pc := 21) hF dX6_reachTo_21 1 rfl ?_
  have zz22 := y_rV (pc := 22) hF (tX4_yOf k w h T S F P O hn hP hA q zri) dX6_reachTo_22 zkn (hP.2 g).1 rfl rfl w_925 qX4_yOf rfl ⟨Nat.le_of_ble_eq_true rfl, Nat.le_of_ble_eq_true rfl⟩ ⟨Nat.zero_le _, Nat.zero_le _⟩ (Nat.le_of_ble_eq_true rfl) rfl (rest := []) (cells := 0) (slots := 0) (lv := [(0, yR g 123), (1, yI q), (2, yI (Int.natAbs ((q % w) - ax) : Int))])
  refine y_cp (zz22) ?_
  rw [show cy w q = q / w from (by unfold cy; rw [if_neg (by omega)])]
  refine y_aload_n (pc := 25) hF dX6_reachTo_25 0 rfl ?_
  refine y_get (pc := 26) (ci := 6) hF dX6_reachTo_26 z123 rfl rfl rfl iX6 3 (by decide) w_366 rfl ?_
  rw [show σ 123 3 = ay from hB.2.2.2]
  refine y_isub (pc := 29) hF dX6_reachTo_29 ?_
  refine y_mabs (pc := 30) hF dX6_reachTo_30 w_1068 w_883 w_103 w_884 (Nat.le_of_ble_eq_true rfl) (Nat.le_of_ble_eq_true rfl) ⟨Nat.zero_le _, Nat.zero_le _⟩ (by omega) ?_
  refine y_istore_n (pc := 33) (lv' := [(0, yR g 123), (1, yI q), (2, yI (Int.natAbs ((q % w) - ax) : Int)), (3, yI (Int.natAbs ((q / w) - ay) : Int))]) hF dX6_reachTo_33 (by decide) rfl rfl ?_
  refine y_iconst (pc := 34) hF dX6_reachTo_34 ?_
  refine y_iload_n (pc := 35) hF dX6_reachTo_35 2 rfl ?_
  refine y_iload_n (pc := 36) hF dX6_reachTo_36 3 rfl ?_
  refine y_mmax (pc := 37) hF dX6_reachTo_37 w_931 w_876 w_103 w_877 (Nat.le_of_ble_eq_true rfl) (Nat.le_of_ble_eq_true rfl) ⟨Nat.zero_le _, Nat.zero_le _⟩ (by omega) (by omega) ?_
  refine y_mmax (pc := 40) hF dX6_reachTo_40 w_931 w_876 w_103 w_877 (Nat.le_of_ble_eq_true rfl) (Nat.le_of_ble_eq_true rfl) ⟨Nat.zero_le _, Nat.zero_le _⟩ (by omega) (by omega) ?_
  exact y_iret (pc := 43) hF dX6_reachTo_43 (Nat.zero_le _) (Nat.zero_le _) ⟨_, rfl, rfl, rfl, rfl⟩
