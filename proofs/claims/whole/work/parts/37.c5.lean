theorem dX6_isWholeAndUsable_0 : decode cX6_isWholeAndUsable 0 = .ok (.aload_n 0, 1) := by decide +kernel
theorem dX6_isWholeAndUsable_1 : decode cX6_isWholeAndUsable 1 = .ok (.getfield 72, 3) := by decide +kernel
theorem dX6_isWholeAndUsable_4 : decode cX6_isWholeAndUsable 4 = .ok (.getfield 105, 3) := by decide +kernel
theorem dX6_isWholeAndUsable_7 : decode cX6_isWholeAndUsable 7 = .ok (.istore_n 3, 1) := by decide +kernel
theorem dX6_isWholeAndUsable_8 : decode cX6_isWholeAndUsable 8 = .ok (.iload_n 1, 1) := by decide +kernel
theorem dX6_isWholeAndUsable_9 : decode cX6_isWholeAndUsable 9 = .ok (.iload_n 3, 1) := by decide +kernel
theorem dX6_isWholeAndUsable_10 : decode cX6_isWholeAndUsable 10 = .ok (.isub, 1) := by decide +kernel
theorem dX6_isWholeAndUsable_11 : decode cX6_isWholeAndUsable 11 = .ok (.istore 4, 2) := by decide +kernel
theorem dX6_isWholeAndUsable_13 : decode cX6_isWholeAndUsable 13 = .ok (.iload_n 2, 1) := by decide +kernel
theorem dX6_isWholeAndUsable_14 : decode cX6_isWholeAndUsable 14 = .ok (.iload_n 3, 1) := by decide +kernel
theorem dX6_isWholeAndUsable_15 : decode cX6_isWholeAndUsable 15 = .ok (.isub, 1) := by decide +kernel
theorem dX6_isWholeAndUsable_16 : decode cX6_isWholeAndUsable 16 = .ok (.istore 5, 2) := by decide +kernel
theorem dX6_isWholeAndUsable_18 : decode cX6_isWholeAndUsable 18 = .ok (.iload_n 1, 1) := by decide +kernel
theorem dX6_isWholeAndUsable_19 : decode cX6_isWholeAndUsable 19 = .ok (.iload_n 3, 1) := by decide +kernel
theorem dX6_isWholeAndUsable_20 : decode cX6_isWholeAndUsable 20 = .ok (.iadd, 1) := by decide +kernel
theorem dX6_isWholeAndUsable_21 : decode cX6_isWholeAndUsable 21 = .ok (.iconst 1, 1) := by decide +kernel
theorem dX6_isWholeAndUsable_22 : decode cX6_isWholeAndUsable 22 = .ok (.iadd, 1) := by decide +kernel
theorem dX6_isWholeAndUsable_23 : decode cX6_isWholeAndUsable 23 = .ok (.istore 6, 2) := by decide +kernel
theorem dX6_isWholeAndUsable_25 : decode cX6_isWholeAndUsable 25 = .ok (.iload_n 2, 1) := by decide +kernel
theorem dX6_isWholeAndUsable_26 : decode cX6_isWholeAndUsable 26 = .ok (.iload_n 3, 1) := by decide +kernel
theorem dX6_isWholeAndUsable_27 : decode cX6_isWholeAndUsable 27 = .ok (.iadd, 1) := by decide +kernel
theorem dX6_isWholeAndUsable_28 : decode cX6_isWholeAndUsable 28 = .ok (.iconst 1, 1) := by decide +kernel
theorem dX6_isWholeAndUsable_29 : decode cX6_isWholeAndUsable 29 = .ok (.iadd, 1) := by decide +kernel
theorem dX6_isWholeAndUsable_30 : decode cX6_isWholeAndUsable 30 = .ok (.istore 7, 2) := by decide +kernel
theorem dX6_isWholeAndUsable_32 : decode cX6_isWholeAndUsable 32 = .ok (.iload 4, 2) := by decide +kernel
theorem dX6_isWholeAndUsable_34 : decode cX6_isWholeAndUsable 34 = .ok (.ifCond .lt 32, 3) := by decide +kernel
theorem dX6_isWholeAndUsable_37 : decode cX6_isWholeAndUsable 37 = .ok (.iload 5, 2) := by decide +kernel
theorem dX6_isWholeAndUsable_39 : decode cX6_isWholeAndUsable 39 = .ok (.ifCond .lt 27, 3) := by decide +kernel
theorem dX6_isWholeAndUsable_42 : decode cX6_isWholeAndUsable 42 = .ok (.iload 6, 2) := by decide +kernel
theorem dX6_isWholeAndUsable_44 : decode cX6_isWholeAndUsable 44 = .ok (.aload_n 0, 1) := by decide +kernel
theorem dX6_isWholeAndUsable_45 : decode cX6_isWholeAndUsable 45 = .ok (.getfield 68, 3) := by decide +kernel
theorem dX6_isWholeAndUsable_48 : decode cX6_isWholeAndUsable 48 = .ok (.getfield 92, 3) := by decide +kernel
theorem dX6_isWholeAndUsable_51 : decode cX6_isWholeAndUsable 51 = .ok (.if_icmp .gt 15, 3) := by decide +kernel
theorem dX6_isWholeAndUsable_54 : decode cX6_isWholeAndUsable 54 = .ok (.iload 7, 2) := by decide +kernel
theorem dX6_isWholeAndUsable_56 : decode cX6_isWholeAndUsable 56 = .ok (.aload_n 0, 1) := by decide +kernel
theorem dX6_isWholeAndUsable_57 : decode cX6_isWholeAndUsable 57 = .ok (.getfield 68, 3) := by decide +kernel
theorem dX6_isWholeAndUsable_60 : decode cX6_isWholeAndUsable 60 = .ok (.getfield 87, 3) := by decide +kernel
theorem dX6_isWholeAndUsable_63 : decode cX6_isWholeAndUsable 63 = .ok (.if_icmp .le 5, 3) := by decide +kernel
theorem dX6_isWholeAndUsable_66 : decode cX6_isWholeAndUsable 66 = .ok (.iconst 0, 1) := by decide +kernel
theorem dX6_isWholeAndUsable_67 : decode cX6_isWholeAndUsable 67 = .ok (.ireturn, 1) := by decide +kernel
theorem dX6_isWholeAndUsable_68 : decode cX6_isWholeAndUsable 68 = .ok (.aload_n 0, 1) := by decide +kernel
theorem dX6_isWholeAndUsable_69 : decode cX6_isWholeAndUsable 69 = .ok (.getfield 34, 3) := by decide +kernel
theorem dX6_isWholeAndUsable_72 : decode cX6_isWholeAndUsable 72 = .ok (.iload 7, 2) := by decide +kernel
theorem dX6_isWholeAndUsable_74 : decode cX6_isWholeAndUsable 74 = .ok (.bipush 21, 2) := by decide +kernel
theorem dX6_isWholeAndUsable_76 : decode cX6_isWholeAndUsable 76 = .ok (.imul, 1) := by decide +kernel
theorem dX6_isWholeAndUsable_77 : decode cX6_isWholeAndUsable 77 = .ok (.iload 6, 2) := by decide +kernel
theorem dX6_isWholeAndUsable_79 : decode cX6_isWholeAndUsable 79 = .ok (.iadd, 1) := by decide +kernel
theorem dX6_isWholeAndUsable_80 : decode cX6_isWholeAndUsable 80 = .ok (.iaload, 1) := by decide +kernel
theorem dX6_isWholeAndUsable_81 : decode cX6_isWholeAndUsable 81 = .ok (.aload_n 0, 1) := by decide +kernel
theorem dX6_isWholeAndUsable_82 : decode cX6_isWholeAndUsable 82 = .ok (.getfield 34, 3) := by decide +kernel
theorem dX6_isWholeAndUsable_85 : decode cX6_isWholeAndUsable 85 = .ok (.iload 7, 2) := by decide +kernel
theorem dX6_isWholeAndUsable_87 : decode cX6_isWholeAndUsable 87 = .ok (.bipush 21, 2) := by decide +kernel
theorem dX6_isWholeAndUsable_89 : decode cX6_isWholeAndUsable 89 = .ok (.imul, 1) := by decide +kernel
theorem dX6_isWholeAndUsable_90 : decode cX6_isWholeAndUsable 90 = .ok (.iload 4, 2) := by decide +kernel
theorem dX6_isWholeAndUsable_92 : decode cX6_isWholeAndUsable 92 = .ok (.iadd, 1) := by decide +kernel
theorem dX6_isWholeAndUsable_93 : decode cX6_isWholeAndUsable 93 = .ok (.iaload, 1) := by decide +kernel
theorem dX6_isWholeAndUsable_94 : decode cX6_isWholeAndUsable 94 = .ok (.isub, 1) := by decide +kernel
theorem dX6_isWholeAndUsable_95 : decode cX6_isWholeAndUsable 95 = .ok (.aload_n 0, 1) := by decide +kernel
theorem dX6_isWholeAndUsable_96 : decode cX6_isWholeAndUsable 96 = .ok (.getfield 34, 3) := by decide +kernel
theorem dX6_isWholeAndUsable_99 : decode cX6_isWholeAndUsable 99 = .ok (.iload 5, 2) := by decide +kernel
theorem dX6_isWholeAndUsable_101 : decode cX6_isWholeAndUsable 101 = .ok (.bipush 21, 2) := by decide +kernel
theorem dX6_isWholeAndUsable_103 : decode cX6_isWholeAndUsable 103 = .ok (.imul, 1) := by decide +kernel
theorem dX6_isWholeAndUsable_104 : decode cX6_isWholeAndUsable 104 = .ok (.iload 6, 2) := by decide +kernel
theorem dX6_isWholeAndUsable_106 : decode cX6_isWholeAndUsable 106 = .ok (.iadd, 1) := by decide +kernel
theorem dX6_isWholeAndUsable_107 : decode cX6_isWholeAndUsable 107 = .ok (.iaload, 1) := by decide +kernel
theorem dX6_isWholeAndUsable_108 : decode cX6_isWholeAndUsable 108 = .ok (.isub, 1) := by decide +kernel
theorem dX6_isWholeAndUsable_109 : decode cX6_isWholeAndUsable 109 = .ok (.aload_n 0, 1) := by decide +kernel
theorem dX6_isWholeAndUsable_110 : decode cX6_isWholeAndUsable 110 = .ok (.getfield 34, 3) := by decide +kernel
theorem dX6_isWholeAndUsable_113 : decode cX6_isWholeAndUsable 113 = .ok (.iload 5, 2) := by decide +kernel
theorem dX6_isWholeAndUsable_115 : decode cX6_isWholeAndUsable 115 = .ok (.bipush 21, 2) := by decide +kernel
theorem dX6_isWholeAndUsable_117 : decode cX6_isWholeAndUsable 117 = .ok (.imul, 1) := by decide +kernel
theorem dX6_isWholeAndUsable_118 : decode cX6_isWholeAndUsable 118 = .ok (.iload 4, 2) := by decide +kernel
theorem dX6_isWholeAndUsable_120 : decode cX6_isWholeAndUsable 120 = .ok (.iadd, 1) := by decide +kernel
theorem dX6_isWholeAndUsable_121 : decode cX6_isWholeAndUsable 121 = .ok (.iaload, 1) := by decide +kernel
theorem dX6_isWholeAndUsable_122 : decode cX6_isWholeAndUsable 122 = .ok (.iadd, 1) := by decide +kernel
theorem dX6_isWholeAndUsable_123 : decode cX6_isWholeAndUsable 123 = .ok (.ifCond .ne 7, 3) := by decide +kernel
theorem dX6_isWholeAndUsable_126 : decode cX6_isWholeAndUsable 126 = .ok (.iconst 1, 1) := by decide +kernel
theorem dX6_isWholeAndUsable_127 : decode cX6_isWholeAndUsable 127 = .ok (.goto 4, 3) := by decide +kernel
theorem dX6_isWholeAndUsable_130 : decode cX6_isWholeAndUsable 130 = .ok (.iconst 0, 1) := by decide +kernel
theorem dX6_isWholeAndUsable_131 : decode cX6_isWholeAndUsable 131 = .ok (.ireturn, 1) := by decide +kernel
set_option maxHeartbeats 4000000 in
set_option maxRecDepth 100000 in
theorem tX6_isWholeAndUsable {l : Launch} {g : yG} {n : Nat} {σ : yM} (k cs : Nat) (w h : Int) (T S F P O : Int → Int → Int) (s re fo ra tu we sh : Int) (hn : 172 ≤ n) (hP : isPic k) (hcs : isSet cs) (hA : rC σ k w h T S F P O) (hS : rS σ cs s re fo ra tu we sh) (hk : k + 5 < 120 ∨ 130 < k) (hc2 : cs < 120 ∨ 130 < cs) (ax ay : Int) (hB : rA σ k cs ax ay) (hU : rU σ w h T F fo) (x y : Int) (hx : -1000000 ≤ x ∧ x ≤ 1000000) (hy : -1000000 ≤ y ∧ y ≤ 1000000) : yMet l g yX6_isWholeAndUsable cX6_isWholeAndUsable 8 (some .boolean) (rmL 1) [yR g 123, yI x, yI y] (SC g) n σ (SC g) (yPp (bi (sWs w h T F s fo x y)) n σ) := by
  obtain ⟨hw1, hw2, hw3, hw4⟩ := id hA.1.1
  obtain ⟨hs1, hs2, hs3, hs4, hs5, hs6, hs7⟩ := id hS.2
  have zkn : k < n := by have := hP.1; omega
  have zcsn : cs < n := by have := hcs.1; omega
  have z123 : 123 < n := by omega
  have z124 : 124 < n := by omega
  have z125 : 125 < n := by omega
  have z126 : 126 < n := by omega
  have z127 : 127 < n := by omega
  have zkn1 : k + 1 < n := by have := hP.1; omega
  have zkn2 : k + 2 < n := by have := hP.1; omega
  have zkn3 : k + 3 < n := by have := hP.1; omega
  have zkn4 : k + 4 < n := by have := hP.1; omega
  have zkn5 : k + 5 < n := by have := hP.1; omega
  refine y_start (by decide) (Nat.le_of_ble_eq_true rfl) (fun X0 hF => ?_)
  show yV X0 g 8 (yQ X0 g (SC g) (yPp (bi (sWs w h T F s fo x y)) n σ) (rmL 1)) (SC g) n σ 0 0 0 [(0, yR g 123), (1, yI x), (2, yI y)] []
  refine y_aload_n (pc := 0) hF dX6_isWholeAndUsable_0 0 rfl ?_
  refine y_get (pc := 1) (ci := 6) hF dX6_isWholeAndUsable_1 z123 rfl rfl rfl iX6 1 (by decide) w_362 rfl ?_
  rw [show (σ 123 1).toNat = cs from hB.c]
  refine y_getN (pc := 4) (ci := 7) hF dX6_isWholeAndUsable_4 zcsn (hcs.2 g) rfl rfl iX7 0 (by decide) w_165 rfl ?_
  rw [show σ cs 0 = s from hS.1.1]
  refine y_istore_n (pc := 7) (lv' := [(0, yR g 123), (1, yI x), (2, yI y), (3, yI s)]) hF dX6_isWholeAndUsable_7 (by decide) rfl rfl ?_
  refine y_iload_n (pc := 8) hF dX6_isWholeAndUsable_8 1 rfl ?_
  refine y_iload_n (pc := 9) hF dX6_isWholeAndUsable_9 3 rfl ?_
  refine y_isub (pc := 10) hF dX6_isWholeAndUsable_10 ?_
  refine y_istore (pc := 11) (lv' := [(0, yR g 123), (1, yI x), (2, yI y), (3, yI s), (4, yI (x - s))]) hF dX6_isWholeAndUsable_11 (by decide) rfl rfl ?_
  refine y_iload_n (pc := 13) hF dX6_isWholeAndUsable_13 2 rfl ?_
  refine y_iload_n (pc := 14) hF dX6_isWholeAndUsable_14 3 rfl ?_
  refine y_isub (pc := 15) hF dX6_isWholeAndUsable_15 ?_
  refine y_istore (pc := 16) (lv' := [(0, yR g 123), (1, yI x), (2, yI y), (3, yI s), (4, yI (x - s)), (5, yI (y - s))]) hF dX6_isWholeAndUsable_16 (by decide) rfl rfl ?_
  refine y_iload_n (pc := 18) hF dX6_isWholeAndUsable_18 1 rfl ?_
  refine y_iload_n (pc := 19) hF dX6_isWholeAndUsable_19 3 rfl ?_
  refine y_iadd (pc := 20) hF dX6_isWholeAndUsable_20 ?_
  refine y_iconst (pc := 21) hF dX6_isWholeAndUsable_21 ?_
  refine y_iadd (pc := 22) hF dX6_isWholeAndUsable_22 ?_
  refine y_istore (pc := 23) (lv' := [(0, yR g 123), (1, yI x), (2, yI y), (3, yI s), (4, yI (x - s)), (5, yI (y - s)), (6, yI ((x + s) + 1))]) hF dX6_isWholeAndUsable_23 (by decide) rfl rfl ?_
  refine y_iload_n (pc := 25) hF dX6_isWholeAndUsable_25 2 rfl ?_
  refine y_iload_n (pc := 26) hF dX6_isWholeAndUsable_26 3 rfl ?_
  refine y_iadd (pc := 27) hF dX6_isWholeAndUsable_27 ?_
  refine y_iconst (pc := 28) hF dX6_isWholeAndUsable_28 ?_
  refine y_iadd (pc := 29) hF dX6_isWholeAndUsable_29 ?_
  refine y_istore (pc := 30) (lv' := [(0, yR g 123), (1, yI x), (2, yI y), (3, yI s), (4, yI (x - s)), (5, yI (y - s)), (6, yI ((x + s) + 1)), (7, yI ((y + s) + 1))]) hF dX6_isWholeAndUsable_30 (by decide) rfl rfl ?_
  refine y_iload (pc := 32) hF dX6_isWholeAndUsable_32 4 rfl ?_
  refine y_if_lt (pc := 34) hF dX6_isWholeAndUsable_34 66 rfl (by omega) (fun zc34 => ?_) (fun zc34 => ?_)
  · skip
    refine y_iconst (pc := 66) hF dX6_isWholeAndUsable_66 ?_
    exact y_zret (pc := 67) hF dX6_isWholeAndUsable_67 (by decide) (Nat.zero_le _) (Nat.zero_le _) ⟨_, rfl, by rw [sWs_out (by omega) (by omega)]; rfl, rfl, rfl⟩
  · skip
    refine y_iload (pc := 37) hF dX6_isWholeAndUsable_37 5 rfl ?_
    refine y_if_lt (pc := 39) hF dX6_isWholeAndUsable_39 66 rfl (by omega) (fun zc39 => ?_) (fun zc39 => ?_)
    · skip
      refine y_iconst (pc := 66) hF dX6_isWholeAndUsable_66 ?_
      exact y_zret (pc := 67) hF dX6_isWholeAndUsable_67 (by decide) (Nat.zero_le _) (Nat.zero_le _) ⟨_, rfl, by rw [sWs_out (by omega) (by omega)]; rfl, rfl, rfl⟩
    · skip
      refine y_iload (pc := 42) hF dX6_isWholeAndUsable_42 6 rfl ?_
      refine y_aload_n (pc := 44) hF dX6_isWholeAndUsable_44 0 rfl ?_
      refine y_get (pc := 45) (ci := 6) hF dX6_isWholeAndUsable_45 z123 rfl rfl rfl iX6 0 (by decide) w_361 rfl ?_
      rw [show (σ 123 0).toNat = k from hB.k]
      refine y_getN (pc := 48) (ci := 4) hF dX6_isWholeAndUsable_48 zkn (hP.2 g).1 rfl rfl iX4 0 (by decide) w_212 rfl ?_
      rw [show σ k 0 = w from hA.2.1]
      refine y_icmp_gt (pc := 51) hF dX6_isWholeAndUsable_51 66 rfl (by omega) (by omega) (fun zc51 => ?_) (fun zc51 => ?_)
      · skip
        refine y_iconst (pc := 66) hF dX6_isWholeAndUsable_66 ?_
        exact y_zret (pc := 67) hF dX6_isWholeAndUsable_67 (by decide) (Nat.zero_le _) (Nat.zero_le _) ⟨_, rfl, by rw [sWs_out (by omega) (by omega)]; rfl, rfl, rfl⟩
      · skip
        refine y_iload (pc := 54) hF dX6_isWholeAndUsable_54 7 rfl ?_
        refine y_aload_n (pc := 56) hF dX6_isWholeAndUsable_56 0 rfl ?_
        refine y_get (pc := 57) (ci := 6) hF dX6_isWholeAndUsable_57 z123 rfl rfl rfl iX6 0 (by decide) w_361 rfl ?_
        rw [show (σ 123 0).toNat = k from hB.k]
        refine y_getN (pc := 60) (ci := 4) hF dX6_isWholeAndUsable_60 zkn (hP.2 g).1 rfl rfl iX4 1 (by decide) w_215 rfl ?_
        rw [show σ k 1 = h from hA.2.2.1]
        refine y_icmp_le (pc := 63) hF dX6_isWholeAndUsable_63 68 rfl (by omega) (by omega) (fun zc63 => ?_) (fun zc63 => ?_)
        · skip
          have zq0 : 0 ≤ σ 127 ((y + s + 1) * 21 + (x + s + 1)) ∧ σ 127 ((y + s + 1) * 21 + (x + s + 1)) ≤ 400 := by rw [hU _ _ (by omega) (by omega) (by omega) (by omega)]; exact pu_bd (by omega) (by omega)
          have zq1 : 0 ≤ σ 127 ((y + s + 1) * 21 + (x - s)) ∧ σ 127 ((y + s + 1) * 21 + (x - s)) ≤ 400 := by rw [hU _ _ (by omega) (by omega) (by omega) (by omega)]; exact pu_bd (by omega) (by omega)
          have zq2 : 0 ≤ σ 127 ((y - s) * 21 + (x + s + 1)) ∧ σ 127 ((y - s) * 21 + (x + s + 1)) ≤ 400 := by rw [hU _ _ (by omega) (by omega) (by omega) (by omega)]; exact pu_bd (by omega) (by omega)
          have zq3 : 0 ≤ σ 127 ((y - s) * 21 + (x - s)) ∧ σ 127 ((y - s) * 21 + (x - s)) ≤ 400 := by rw [hU _ _ (by omega) (by omega) (by omega) (by omega)]; exact pu_bd (by omega) (by omega)
          refine y_aload_n (pc := 68) hF dX6_isWholeAndUsable_68 0 rfl ?_
          refine y_get (pc := 69) (ci := 6) hF dX6_isWholeAndUsable_69 z123 rfl rfl rfl iX6 9 (by decide) w_374 rfl ?_
          refine y_iload (pc := 72) hF dX6_isWholeAndUsable_72 7 rfl ?_
          refine y_bipush (pc := 74) hF dX6_isWholeAndUsable_74 (by decide) ?_
          refine y_imul (pc := 76) hF dX6_isWholeAndUsable_76 ?_
          refine y_iload (pc := 77) hF dX6_isWholeAndUsable_77 6 rfl ?_
          refine y_iadd (pc := 79) hF dX6_isWholeAndUsable_79 ?_
          refine y_iaload (pc := 80) hF dX6_isWholeAndUsable_80 z127 rfl (by omega) (by decide) ?_
          refine y_aload_n (pc := 81) hF dX6_isWholeAndUsable_81 0 rfl ?_
          refine y_get (pc := 82) (ci := 6) hF dX6_isWholeAndUsable_82 z123 rfl rfl rfl iX6 9 (by decide) w_374 rfl ?_
          refine y_iload (pc := 85) hF dX6_isWholeAndUsable_85 7 rfl ?_
          refine y_bipush (pc := 87) hF dX6_isWholeAndUsable_87 (by decide) ?_
          refine y_imul (pc := 89) hF dX6_isWholeAndUsable_89 ?_
          refine y_iload (pc := 90) hF dX6_isWholeAndUsable_90 4 rfl ?_
          refine y_iadd (pc := 92) hF dX6_isWholeAndUsable_92 ?_
          refine y_iaload (pc := 93) hF dX6_isWholeAndUsable_93 z127 rfl (by omega) (by decide) ?_
          refine y_isub (pc := 94) hF dX6_isWholeAndUsable_94 ?_
          refine y_aload_n (pc := 95) hF dX6_isWholeAndUsable_95 0 rfl ?_
          refine y_get (pc := 96) (ci := 6) hF dX6_isWholeAndUsable_96 z123 rfl rfl rfl iX6 9 (by decide) w_374 rfl ?_
          refine y_iload (pc := 99) hF dX6_isWholeAndUsable_99 5 rfl ?_
          refine y_bipush (pc := 101) hF dX6_isWholeAndUsable_101 (by decide) ?_
          refine y_imul (pc := 103) hF dX6_isWholeAndUsable_103 ?_
          refine y_iload (pc := 104) hF dX6_isWholeAndUsable_104 6 rfl ?_
          refine y_iadd (pc := 106) hF dX6_isWholeAndUsable_106 ?_
          refine y_iaload (pc := 107) hF dX6_isWholeAndUsable_107 z127 rfl (by omega) (by decide) ?_
          refine y_isub (pc := 108) hF dX6_isWholeAndUsable_108 ?_
          refine y_aload_n (pc := 109) hF dX6_isWholeAndUsable_109 0 rfl ?_
          refine y_get (pc := 110) (ci := 6) hF dX6_isWholeAndUsable_110 z123 rfl rfl rfl iX6 9 (by decide) w_374 rfl ?_
          refine y_iload (pc := 113) hF dX6_isWholeAndUsable_113 5 rfl ?_
          refine y_bipush (pc := 115) hF dX6_isWholeAndUsable_115 (by decide) ?_
          refine y_imul (pc := 117) hF dX6_isWholeAndUsable_117 ?_
          refine y_iload (pc := 118) hF dX6_isWholeAndUsable_118 4 rfl ?_
          refine y_iadd (pc := 120) hF dX6_isWholeAndUsable_120 ?_
          refine y_iaload (pc := 121) hF dX6_isWholeAndUsable_121 z127 rfl (by omega) (by decide) ?_
          refine y_iadd (pc := 122) hF dX6_isWholeAndUsable_122 ?_
          refine y_if_ne (pc := 123) hF dX6_isWholeAndUsable_123 130 rfl (by omega) (fun zc123 => ?_) (fun zc123 => ?_)
          · skip
            refine y_iconst (pc := 130) hF dX6_isWholeAndUsable_130 ?_
            exact y_zret (pc := 131) hF dX6_isWholeAndUsable_131 (by decide) (Nat.zero_le _) (Nat.zero_le _) ⟨_, rfl, by rw [Bool.eq_false_iff.mpr (fun ze => zc123 ((rU_whole hU (by omega) (by omega) (by omega)).mpr ze))]; rfl, rfl, rfl⟩
          · skip
            refine y_iconst (pc := 126) hF dX6_isWholeAndUsable_126 ?_
            refine y_goto (pc := 127) hF dX6_isWholeAndUsable_127 131 rfl ?_
            exact y_zret (pc := 131) hF dX6_isWholeAndUsable_131 (by decide) (Nat.zero_le _) (Nat.zero_le _) ⟨_, rfl, by rw [(rU_whole hU (by omega) (by omega) (by omega)).mp zc123]; rfl, rfl, rfl⟩
        · skip
          refine y_iconst (pc := 66) hF dX6_isWholeAndUsable_66 ?_
          exact y_zret (pc := 67) hF dX6_isWholeAndUsable_67 (by decide) (Nat.zero_le _) (Nat.zero_le _) ⟨_, rfl, by rw [sWs_out (by omega) (by omega)]; rfl, rfl, rfl⟩

theorem dX6_countUnusable_0 : decode cX6_countUnusable 0 = .ok (.aload_n 0, 1) := by decide +kernel
theorem dX6_countUnusable_1 : decode cX6_countUnusable 1 = .ok (.getfield 72, 3) := by decide +kernel
theorem dX6_countUnusable_4 : decode cX6_countUnusable 4 = .ok (.getfield 82, 3) := by decide +kernel
theorem dX6_countUnusable_7 : decode cX6_countUnusable 7 = .ok (.iconst 1, 1) := by decide +kernel
theorem dX6_countUnusable_8 : decode cX6_countUnusable 8 = .ok (.if_icmp .ne 7, 3) := by decide +kernel
theorem dX6_countUnusable_11 : decode cX6_countUnusable 11 = .ok (.iconst 1, 1) := by decide +kernel
theorem dX6_countUnusable_12 : decode cX6_countUnusable 12 = .ok (.goto 4, 3) := by decide +kernel
theorem dX6_countUnusable_15 : decode cX6_countUnusable 15 = .ok (.iconst 0, 1) := by decide +kernel
theorem dX6_countUnusable_16 : decode cX6_countUnusable 16 = .ok (.istore_n 1, 1) := by decide +kernel
theorem dX6_countUnusable_17 : decode cX6_countUnusable 17 = .ok (.iconst 0, 1) := by decide +kernel
theorem dX6_countUnusable_18 : decode cX6_countUnusable 18 = .ok (.istore_n 2, 1) := by decide +kernel
theorem dX6_countUnusable_19 : decode cX6_countUnusable 19 = .ok (.iload_n 2, 1) := by decide +kernel
theorem dX6_countUnusable_20 : decode cX6_countUnusable 20 = .ok (.aload_n 0, 1) := by decide +kernel
theorem dX6_countUnusable_21 : decode cX6_countUnusable 21 = .ok (.getfield 68, 3) := by decide +kernel
theorem dX6_countUnusable_24 : decode cX6_countUnusable 24 = .ok (.getfield 87, 3) := by decide +kernel
theorem dX6_countUnusable_27 : decode cX6_countUnusable 27 = .ok (.if_icmp .ge 127, 3) := by decide +kernel
theorem dX6_countUnusable_30 : decode cX6_countUnusable 30 = .ok (.iconst 0, 1) := by decide +kernel
theorem dX6_countUnusable_31 : decode cX6_countUnusable 31 = .ok (.istore_n 3, 1) := by decide +kernel
theorem dX6_countUnusable_32 : decode cX6_countUnusable 32 = .ok (.iconst 0, 1) := by decide +kernel
theorem dX6_countUnusable_33 : decode cX6_countUnusable 33 = .ok (.istore 4, 2) := by decide +kernel
theorem dX6_countUnusable_35 : decode cX6_countUnusable 35 = .ok (.iload 4, 2) := by decide +kernel
theorem dX6_countUnusable_37 : decode cX6_countUnusable 37 = .ok (.aload_n 0, 1) := by decide +kernel
theorem dX6_countUnusable_38 : decode cX6_countUnusable 38 = .ok (.getfield 68, 3) := by decide +kernel
theorem dX6_countUnusable_41 : decode cX6_countUnusable 41 = .ok (.getfield 92, 3) := by decide +kernel
theorem dX6_countUnusable_44 : decode cX6_countUnusable 44 = .ok (.if_icmp .ge 104, 3) := by decide +kernel
theorem dX6_countUnusable_47 : decode cX6_countUnusable 47 = .ok (.aload_n 0, 1) := by decide +kernel
theorem dX6_countUnusable_48 : decode cX6_countUnusable 48 = .ok (.getfield 68, 3) := by decide +kernel
theorem dX6_countUnusable_51 : decode cX6_countUnusable 51 = .ok (.iload 4, 2) := by decide +kernel
theorem dX6_countUnusable_53 : decode cX6_countUnusable 53 = .ok (.iload_n 2, 1) := by decide +kernel
theorem dX6_countUnusable_54 : decode cX6_countUnusable 54 = .ok (.invokevirtual 95, 3) := by decide +kernel
theorem dX6_countUnusable_57 : decode cX6_countUnusable 57 = .ok (.istore 5, 2) := by decide +kernel
theorem dX6_countUnusable_59 : decode cX6_countUnusable 59 = .ok (.aload_n 0, 1) := by decide +kernel
theorem dX6_countUnusable_60 : decode cX6_countUnusable 60 = .ok (.getfield 68, 3) := by decide +kernel
theorem dX6_countUnusable_63 : decode cX6_countUnusable 63 = .ok (.getfield 99, 3) := by decide +kernel
theorem dX6_countUnusable_66 : decode cX6_countUnusable 66 = .ok (.iload 5, 2) := by decide +kernel
theorem dX6_countUnusable_68 : decode cX6_countUnusable 68 = .ok (.iaload, 1) := by decide +kernel
theorem dX6_countUnusable_69 : decode cX6_countUnusable 69 = .ok (.iconst (-1), 1) := by decide +kernel
theorem dX6_countUnusable_70 : decode cX6_countUnusable 70 = .ok (.if_icmp .eq 24, 3) := by decide +kernel
theorem dX6_countUnusable_73 : decode cX6_countUnusable 73 = .ok (.iload_n 1, 1) := by decide +kernel
theorem dX6_countUnusable_74 : decode cX6_countUnusable 74 = .ok (.ifCond .ne 16, 3) := by decide +kernel
theorem dX6_countUnusable_77 : decode cX6_countUnusable 77 = .ok (.aload_n 0, 1) := by decide +kernel
theorem dX6_countUnusable_78 : decode cX6_countUnusable 78 = .ok (.getfield 68, 3) := by decide +kernel
theorem dX6_countUnusable_81 : decode cX6_countUnusable 81 = .ok (.getfield 102, 3) := by decide +kernel
theorem dX6_countUnusable_84 : decode cX6_countUnusable 84 = .ok (.iload 5, 2) := by decide +kernel
theorem dX6_countUnusable_86 : decode cX6_countUnusable 86 = .ok (.iaload, 1) := by decide +kernel
theorem dX6_countUnusable_87 : decode cX6_countUnusable 87 = .ok (.ifCond .ne 7, 3) := by decide +kernel
theorem dX6_countUnusable_90 : decode cX6_countUnusable 90 = .ok (.iconst 1, 1) := by decide +kernel
theorem dX6_countUnusable_91 : decode cX6_countUnusable 91 = .ok (.goto 4, 3) := by decide +kernel
theorem dX6_countUnusable_94 : decode cX6_countUnusable 94 = .ok (.iconst 0, 1) := by decide +kernel
theorem dX6_countUnusable_95 : decode cX6_countUnusable 95 = .ok (.istore 6, 2) := by decide +kernel
theorem dX6_countUnusable_97 : decode cX6_countUnusable 97 = .ok (.iload_n 3, 1) := by decide +kernel
theorem dX6_countUnusable_98 : decode cX6_countUnusable 98 = .ok (.iload 6, 2) := by decide +kernel
theorem dX6_countUnusable_100 : decode cX6_countUnusable 100 = .ok (.ifCond .eq 7, 3) := by decide +kernel
theorem dX6_countUnusable_103 : decode cX6_countUnusable 103 = .ok (.iconst 0, 1) := by decide +kernel
theorem dX6_countUnusable_104 : decode cX6_countUnusable 104 = .ok (.goto 4, 3) := by decide +kernel
theorem dX6_countUnusable_107 : decode cX6_countUnusable 107 = .ok (.iconst 1, 1) := by decide +kernel
theorem dX6_countUnusable_108 : decode cX6_countUnusable 108 = .ok (.iadd, 1) := by decide +kernel
theorem dX6_countUnusable_109 : decode cX6_countUnusable 109 = .ok (.istore_n 3, 1) := by decide +kernel
theorem dX6_countUnusable_110 : decode cX6_countUnusable 110 = .ok (.iload_n 2, 1) := by decide +kernel
theorem dX6_countUnusable_111 : decode cX6_countUnusable 111 = .ok (.iconst 1, 1) := by decide +kernel
theorem dX6_countUnusable_112 : decode cX6_countUnusable 112 = .ok (.iadd, 1) := by decide +kernel
theorem dX6_countUnusable_113 : decode cX6_countUnusable 113 = .ok (.bipush 21, 2) := by decide +kernel
theorem dX6_countUnusable_115 : decode cX6_countUnusable 115 = .ok (.imul, 1) := by decide +kernel
theorem dX6_countUnusable_116 : decode cX6_countUnusable 116 = .ok (.iload 4, 2) := by decide +kernel
theorem dX6_countUnusable_118 : decode cX6_countUnusable 118 = .ok (.iadd, 1) := by decide +kernel
theorem dX6_countUnusable_119 : decode cX6_countUnusable 119 = .ok (.iconst 1, 1) := by decide +kernel
theorem dX6_countUnusable_120 : decode cX6_countUnusable 120 = .ok (.iadd, 1) := by decide +kernel
theorem dX6_countUnusable_121 : decode cX6_countUnusable 121 = .ok (.istore 7, 2) := by decide +kernel
theorem dX6_countUnusable_123 : decode cX6_countUnusable 123 = .ok (.aload_n 0, 1) := by decide +kernel
theorem dX6_countUnusable_124 : decode cX6_countUnusable 124 = .ok (.getfield 34, 3) := by decide +kernel
theorem dX6_countUnusable_127 : decode cX6_countUnusable 127 = .ok (.iload 7, 2) := by decide +kernel
theorem dX6_countUnusable_129 : decode cX6_countUnusable 129 = .ok (.aload_n 0, 1) := by decide +kernel
theorem dX6_countUnusable_130 : decode cX6_countUnusable 130 = .ok (.getfield 34, 3) := by decide +kernel
theorem dX6_countUnusable_133 : decode cX6_countUnusable 133 = .ok (.iload 7, 2) := by decide +kernel
theorem dX6_countUnusable_135 : decode cX6_countUnusable 135 = .ok (.bipush 21, 2) := by decide +kernel
theorem dX6_countUnusable_137 : decode cX6_countUnusable 137 = .ok (.isub, 1) := by decide +kernel
theorem dX6_countUnusable_138 : decode cX6_countUnusable 138 = .ok (.iaload, 1) := by decide +kernel
theorem dX6_countUnusable_139 : decode cX6_countUnusable 139 = .ok (.iload_n 3, 1) := by decide +kernel
theorem dX6_countUnusable_140 : decode cX6_countUnusable 140 = .ok (.iadd, 1) := by decide +kernel
theorem dX6_countUnusable_141 : decode cX6_countUnusable 141 = .ok (.iastore, 1) := by decide +kernel
theorem dX6_countUnusable_142 : decode cX6_countUnusable 142 = .ok (.iinc 4 1, 3) := by decide +kernel
theorem dX6_countUnusable_145 : decode cX6_countUnusable 145 = .ok (.goto (-110), 3) := by decide +kernel
theorem dX6_countUnusable_148 : decode cX6_countUnusable 148 = .ok (.iinc 2 1, 3) := by decide +kernel
theorem dX6_countUnusable_151 : decode cX6_countUnusable 151 = .ok (.goto (-132), 3) := by decide +kernel
theorem dX6_countUnusable_154 : decode cX6_countUnusable 154 = .ok (.return_, 1) := by decide +kernel
set_option maxHeartbeats 4000000 in
set_option maxRecDepth 100000 in
theorem tX6_countUnusable {l : Launch} {g : yG} {n : Nat} {σ : yM} (k cs : Nat) (w h : Int) (T S F P O : Int → Int → Int) (s re fo ra tu we sh : Int) (hn : 172 ≤ n) (hP : isPic k) (hcs : isSet cs) (hA : rC σ k w h T S F P O) (hS : rS σ cs s re fo ra tu we sh) (hk : k + 5 < 120 ∨ 130 < k) (hc2 : cs < 120 ∨ 130 < cs) (ax ay : Int) (hB : rA σ k cs ax ay) (hT : rT σ) : yMet l g yX6_countUnusable cX6_countUnusable 8 none (rmL 2) [yR g 123] (SC g) n σ (SC g) (yPv (fun n' σ' => n' = n ∧ fk 127 0 440 σ σ' ∧ rT σ' ∧ rU σ' w h T F fo)) := by
  obtain ⟨hw1, hw2, hw3, hw4⟩ := id hA.1.1
  obtain ⟨hs1, hs2, hs3, hs4, hs5, hs6, hs7⟩ := id hS.2
  have zkn : k < n := by have := hP.1; omega
  have zcsn : cs < n := by have := hcs.1; omega
  have z123 : 123 < n := by omega
  have z124 : 124 < n := by omega
  have z125 : 125 < n := by omega
  have z126 : 126 < n := by omega
  have z127 : 127 < n := by omega
  have zkn1 : k + 1 < n := by have := hP.1; omega
  have zkn2 : k + 2 < n := by have := hP.1; omega
  have zkn3 : k + 3 < n := by have := hP.1; omega
  have zkn4 : k + 4 < n := by have := hP.1; omega
  have zkn5 : k + 5 < n := by have := hP.1; omega
  refine y_start (by decide) (Nat.le_of_ble_eq_true rfl) (fun X0 hF => ?_)
  show yV X0 g 8 (yQ X0 g (SC g) (yPv (fun n' σ' => n' = n ∧ fk 127 0 440 σ σ' ∧ rT σ' ∧ rU σ' w h T F fo)) (rmL 2)) (SC g) n σ 0 0 0 [(0, yR g 123)] []
  refine y_aload_n (pc := 0) hF dX6_countUnusable_0 0 rfl ?_
  refine y_get (pc := 1) (ci := 6) hF dX6_countUnusable_1 z123 rfl rfl rfl iX6 1 (by decide) w_362 rfl ?_
  rw [show (σ 123 1).toNat = cs from hB.c]
  refine y_getN (pc := 4) (ci := 7) hF dX6_countUnusable_4 zcsn (hcs.2 g) rfl rfl iX7 2 (by decide) w_172 rfl ?_
  rw [show σ cs 2 = fo from hS.1.2.2.1]
  refine y_iconst (pc := 7) hF dX6_countUnusable_7 ?_
  refine y_t_icmp_ne (pc := 8) hF dX6_countUnusable_8 dX6_countUnusable_11 dX6_countUnusable_12 dX6_countUnusable_15 (by omega) (by omega) ?_
  rw [show (if fo ≠ 1 then 0 else 1) = fo from (by rcases (show fo = 0 ∨ fo = 1 by omega) with e | e <;> simp [e])]
  refine y_istore_n (pc := 16) (lv' := [(0, yR g 123), (1, yI fo)]) hF dX6_countUnusable_16 (by decide) rfl rfl ?_
  refine y_iconst (pc := 17) hF dX6_countUnusable_17 ?_
  refine y_istore_n (pc := 18) (lv' := [(0, yR g 123), (1, yI fo), (2, yI 0)]) hF dX6_countUnusable_18 (by decide) rfl rfl ?_
  have zL19 : ∀ (N : Nat) (τ : yM) (j : Int), N = (h - j).toNat → (fk 127 0 440 σ τ ∧ rT τ ∧ (0 ≤ j ∧ j ≤ h) ∧ (∀ a b : Int, 0 ≤ a → a ≤ w → 0 ≤ b → b ≤ j → τ 127 (b * 21 + a) = pu w h T F fo a b)) → yV X0 g 8 (yQ X0 g (SC g) (yPv (fun n' σ' => n' = n ∧ fk 127 0 440 σ σ' ∧ rT σ' ∧ rU σ' w h T F fo)) (rmL 2)) (SC g) n τ 0 0 19 [(0, yR g 123), (1, yI fo), (2, yI j)] [] := by
    intro N
    induction N using Nat.strongRecOn with
    | ind N zh19 =>
      intro τ  j  zN19 zI19
      have zA_τ := hA.fc (by omega) zI19.1.fc
      have zS_τ := hS.fc (by omega) zI19.1.fc
      have zB_τ := hB.fc (by omega) zI19.1.fc
      refine y_iload_n (pc := 19) hF dX6_countUnusable_19 2 rfl ?_
      refine y_aload_n (pc := 20) hF dX6_countUnusable_20 0 rfl ?_
      refine y_get (pc := 21) (ci := 6) hF dX6_countUnusable_21 z123 rfl rfl rfl iX6 0 (by decide) w_361 rfl ?_
      rw [show (τ 123 0).toNat = k from zB_τ.k]
      refine y_getN (pc := 24) (ci := 4) hF dX6_countUnusable_24 zkn (hP.2 g).1 rfl rfl iX4 1 (by decide) w_215 rfl ?_
      rw [show τ k 1 = h from zA_τ.2.2.1]
      refine y_icmp_ge (pc := 27) hF dX6_countUnusable_27 154 rfl (by omega) (by omega) (fun zc27 => ?_) (fun zc27 => ?_)
      · skip
        exact y_vret (pc := 154) hF dX6_countUnusable_154 (Nat.zero_le _) (Nat.zero_le _) ⟨rfl, rfl, zI19.1, zI19.2.1, fun a b a1 a2 b1 b2 => zI19.2.2.2 a b a1 a2 b1 (by omega)⟩
      · skip
        refine y_iconst (pc := 30) hF dX6_countUnusable_30 ?_
        refine y_istore_n (pc := 31) (lv' := [(0, yR g 123), (1, yI fo), (2, yI j), (3, yI 0)]) hF dX6_countUnusable_31 (by decide) rfl rfl ?_
        refine y_iconst (pc := 32) hF dX6_countUnusable_32 ?_
        refine y_istore (pc := 33) (lv' := [(0, yR g 123), (1, yI fo), (2, yI j), (3, yI 0), (4, yI 0)]) hF dX6_countUnusable_33 (by decide) rfl rfl ?_
        have zL35 : ∀ (N : Nat) (υ : yM) (i c : Int), N = (w - i).toNat → (fk 127 0 440 σ υ ∧ rT υ ∧ (0 ≤ i ∧ i ≤ w) ∧ c = pr1 w h T F fo i j ∧ (∀ a b : Int, 0 ≤ a → a ≤ w → 0 ≤ b → b ≤ j → υ 127 (b * 21 + a) = pu w h T F fo a b) ∧ (∀ a : Int, 0 ≤ a → a ≤ i → υ 127 ((j + 1) * 21 + a) = pu w h T F fo a (j + 1))) → yV X0 g 8 (yQ X0 g (SC g) (yPv (fun n' σ' => n' = n ∧ fk 127 0 440 σ σ' ∧ rT σ' ∧ rU σ' w h T F fo)) (rmL 2)) (SC g) n υ 0 0 35 [(0, yR g 123), (1, yI fo), (2, yI j), (3, yI c), (4, yI i)] [] := by
          intro N
          induction N using Nat.strongRecOn with
          | ind N zh35 =>
            intro υ  i c  zN35 zI35
            have zA_υ := hA.fc (by omega) zI35.1.fc
            have zS_υ := hS.fc (by omega) zI35.1.fc
            have zB_υ := hB.fc (by omega) zI35.1.fc
            refine y_iload (pc := 35) hF dX6_countUnusable_35 4 rfl ?_
            refine y_aload_n (pc := 37) hF dX6_countUnusable_37 0 rfl ?_
            refine y_get (pc := 38) (ci := 6) hF dX6_countUnusable_38 z123 rfl rfl rfl iX6 0 (by decide) w_361 rfl ?_
            rw [show (υ 123 0).toNat = k from zB_υ.k]
            refine y_getN (pc := 41) (ci := 4) hF dX6_countUnusable_41 zkn (hP.2 g).1 rfl rfl iX4 0 (by decide) w_212 rfl ?_
            rw [show υ k 0 = w from zA_υ.2.1]
            refine y_icmp_ge (pc := 44) hF dX6_countUnusable_44 148 rfl (by omega) (by omega) (fun zc44 => ?_) (fun zc44 => ?_)
            · skip
              refine y_iinc (pc := 148) (lv' := [(0, yR g 123), (1, yI fo), (2, yI (j + 1)), (3, yI c), (4, yI i)]) hF dX6_countUnusable_148 2 rfl (by decide) rfl rfl ?_
              refine y_goto (pc := 151) hF dX6_countUnusable_151 19 rfl ?_
              refine y_sub [0, 1, 2] rfl ?_
              exact zh19 _ (by omega) υ (j + 1) rfl ⟨zI35.1, zI35.2.1, by omega, fun a b a1 a2 b1 b2 => (Decidable.em (b = j + 1)).elim (fun e => by rw [e]; exact zI35.2.2.2.2.2 a a1 (by omega)) (fun e => zI35.2.2.2.2.1 a b a1 a2 b1 (by omega))⟩
            · skip
              have zin : sIn w h i j = true := sIn_iff.mpr (by omega)
              have zix := y_ix (w := w) (h := h) (x := i) (y := j) ⟨hw1, hw2⟩ ⟨hw3, hw4⟩ (by omega) (by omega)
              have zm := zA_υ.2.2.2 i j (by omega) (by omega) (by omega) (by omega)
              have zt := hA.1.2 i j (by omega) (by omega) (by omega) (by omega)
              refine y_aload_n (pc := 47) hF dX6_countUnusable_47 0 rfl ?_
              refine y_get (pc := 48) (ci := 6) hF dX6_countUnusable_48 z123 rfl rfl rfl iX6 0 (by decide) w_361 rfl ?_
              rw [show (υ 123 0).toNat = k from zB_υ.k]
              refine y_iload (pc := 51) hF dX6_countUnusable_51 4 rfl ?_
              refine y_iload_n (pc := 53) hF dX6_countUnusable_53 2 rfl ?_
              have zz54 := y_rV (pc := 54) hF (tX4_at k w h T S F P O hn hP zA_υ i j) dX6_countUnusable_54 zkn (hP.2 g).1 rfl rfl w_901 qX4_at rfl ⟨Nat.le_of_ble_eq_true rfl, Nat.le_of_ble_eq_true rfl⟩ ⟨Nat.zero_le _, Nat.zero_le _⟩ (Nat.le_of_ble_eq_true rfl) rfl (rest := []) (cells := 0) (slots := 0) (lv := [(0, yR g 123), (1, yI fo), (2, yI j), (3, yI c), (4, yI i)])
              refine y_cp (zz54) ?_
              refine y_istore (pc := 57) (lv' := [(0, yR g 123), (1, yI fo), (2, yI j), (3, yI c), (4, yI i), (5, yI (j * w + i))]) hF dX6_countUnusable_57 (by decide) rfl rfl ?_
              have zJ97 : ∀ (b : Int), (b = bi (uOk w h T F fo i j)) → yV X0 g 8 (yQ X0 g (SC g) (yPv (fun n' σ' => n' = n ∧ fk 127 0 440 σ σ' ∧ rT σ' ∧ rU σ' w h T F fo)) (rmL 2)) (SC g) n υ 0 0 97 [(0, yR g 123), (1, yI fo), (2, yI j), (3, yI c), (4, yI i), (5, yI (j * w + i)), (6, yI b)] [] := by
                intro b  zb
                refine y_iload_n (pc := 97) hF dX6_countUnusable_97 3 rfl ?_
                refine y_iload (pc := 98) hF dX6_countUnusable_98 6 rfl ?_
                refine y_t_if_eq (pc := 100) hF dX6_countUnusable_100 dX6_countUnusable_103 dX6_countUnusable_104 dX6_countUnusable_107 (by rw [zb]; exact bi_r) ?_
                rw [show (if b = 0 then 1 else 0) = nb w h T F fo i j from (by rw [zb]; unfold nb; cases uOk w h T F fo i j <;> rfl)]
                refine y_iadd (pc := 108) hF dX6_countUnusable_108 ?_
                refine y_istore_n (pc := 109) (lv' := [(0, yR g 123), (1, yI fo), (2, yI j), (3, yI (c + (nb w h T F fo i j))), (4, yI i), (5, yI (j * w + i)), (6, yI b)]) hF dX6_countUnusable_109 (by decide) rfl rfl ?_
                refine y_iload_n (pc := 110) hF dX6_countUnusable_110 2 rfl ?_
                refine y_iconst (pc := 111) hF dX6_countUnusable_111 ?_
                refine y_iadd (pc := 112) hF dX6_countUnusable_112 ?_
                refine y_bipush (pc := 113) hF dX6_countUnusable_113 (by decide) ?_
                refine y_imul (pc := 115) hF dX6_countUnusable_115 ?_
                refine y_iload (pc := 116) hF dX6_countUnusable_116 4 rfl ?_
                refine y_iadd (pc := 118) hF dX6_countUnusable_118 ?_
                refine y_iconst (pc := 119) hF dX6_countUnusable_119 ?_
                refine y_iadd (pc := 120) hF dX6_countUnusable_120 ?_
                refine y_istore (pc := 121) (lv' := [(0, yR g 123), (1, yI fo), (2, yI j), (3, yI (c + (nb w h T F fo i j))), (4, yI i), (5, yI (j * w + i)), (6, yI b), (7, yI ((((j + 1) * 21) + i) + 1))]) hF dX6_countUnusable_121 (by decide) rfl rfl ?_
                refine y_aload_n (pc := 123) hF dX6_countUnusable_123 0 rfl ?_
                refine y_get (pc := 124) (ci := 6) hF dX6_countUnusable_124 z123 rfl rfl rfl iX6 9 (by decide) w_374 rfl ?_
                refine y_iload (pc := 127) hF dX6_countUnusable_127 7 rfl ?_
                refine y_aload_n (pc := 129) hF dX6_countUnusable_129 0 rfl ?_
                refine y_get (pc := 130) (ci := 6) hF dX6_countUnusable_130 z123 rfl rfl rfl iX6 9 (by decide) w_374 rfl ?_
                refine y_iload (pc := 133) hF dX6_countUnusable_133 7 rfl ?_
                refine y_bipush (pc := 135) hF dX6_countUnusable_135 (by decide) ?_
                refine y_isub (pc := 137) hF dX6_countUnusable_137 ?_
                refine y_iaload (pc := 138) hF dX6_countUnusable_138 z127 rfl (by omega) (by decide) ?_
                rw [show υ 127 (((((j + 1) * 21) + i) + 1) - 21) = pu w h T F fo (i + 1) j from (by rw [show ((((j + 1) * 21) + i) + 1) - 21 = j * 21 + (i + 1) by omega]; exact zI35.2.2.2.2.1 (i + 1) j (by omega) (by omega) (by omega) (by omega))]
                refine y_iload_n (pc := 139) hF dX6_countUnusable_139 3 rfl ?_
                refine y_iadd (pc := 140) hF dX6_countUnusable_140 ?_
                refine y_iastore (pc := 141) hF dX6_countUnusable_141 z127 rfl (by omega) (by decide) ?_
                have zrT : rT (yset υ 127 ((((j + 1) * 21) + i) + 1) (pu w h T F fo (i + 1) j + (c + nb w h T F fo i j))) := fun a a1 a2 a3 => by rw [yset_ap, if_neg (by omega)]; exact zI35.2.1 a a1 a2 a3
                refine y_iinc (pc := 142) (lv' := [(0, yR g 123), (1, yI fo), (2, yI j), (3, yI (c + (nb w h T F fo i j))), (4, yI (i + 1)), (5, yI (j * w + i)), (6, yI b), (7, yI ((((j + 1) * 21) + i) + 1))]) hF dX6_countUnusable_142 4 rfl (by decide) rfl rfl ?_
                refine y_goto (pc := 145) hF dX6_countUnusable_145 35 rfl ?_
                refine y_sub [0, 1, 2, 3, 4] rfl ?_
                exact zh35 _ (by omega) (yset υ 127 ((((j + 1) * 21) + i) + 1) ((pu w h T F fo (i + 1) j) + (c + (nb w h T F fo i j)))) (i + 1) (c + (nb w h T F fo i j)) rfl ⟨zI35.1.st (by omega), zrT, by omega, by rw [pr1_up zI35.2.2.1.1, ← zI35.2.2.2.1], fun a b a1 a2 b1 b2 => by rw [yset_ap, if_neg (by omega)]; exact zI35.2.2.2.2.1 a b a1 a2 b1 b2, fun a a1 a2 => (Decidable.em (a = i + 1)).elim (fun e => by rw [e, yset_ap, if_pos ⟨rfl, by omega⟩, pu_up (by omega), pr1_up zI35.2.2.1.1, ← zI35.2.2.2.1]) (fun e => by rw [yset_ap, if_neg (by omega)]; exact zI35.2.2.2.2.2 a a1 (by omega))⟩
              refine y_aload_n (pc := 59) hF dX6_countUnusable_59 0 rfl ?_
              refine y_get (pc := 60) (ci := 6) hF dX6_countUnusable_60 z123 rfl rfl rfl iX6 0 (by decide) w_361 rfl ?_
              rw [show (υ 123 0).toNat = k from zB_υ.k]
              refine y_getN (pc := 63) (ci := 4) hF dX6_countUnusable_63 zkn (hP.2 g).1 rfl rfl iX4 2 (by decide) w_220 rfl ?_
              refine y_iload (pc := 66) hF dX6_countUnusable_66 5 rfl ?_
              refine y_iaload (pc := 68) hF dX6_countUnusable_68 zkn1 (hP.2 g).2.1 (by omega) (by decide) ?_
              rw [show υ (k + 1) (j * w + i) = T i j from zm.1]
              refine y_iconst (pc := 69) hF dX6_countUnusable_69 ?_
              refine y_icmp_eq (pc := 70) hF dX6_countUnusable_70 94 rfl (by omega) (by omega) (fun zc70 => ?_) (fun zc70 => ?_)
              · skip
                refine y_iconst (pc := 94) hF dX6_countUnusable_94 ?_
                refine y_istore (pc := 95) (lv' := [(0, yR g 123), (1, yI fo), (2, yI j), (3, yI c), (4, yI i), (5, yI (j * w + i)), (6, yI 0)]) hF dX6_countUnusable_95 (by decide) rfl rfl ?_
                exact zJ97 (0) (by simp [uOk, sKn, zin, bi, zc70])
              · skip
                refine y_iload_n (pc := 73) hF dX6_countUnusable_73 1 rfl ?_
                refine y_if_ne (pc := 74) hF dX6_countUnusable_74 90 rfl (by omega) (fun zc74 => ?_) (fun zc74 => ?_)
                · skip
                  refine y_iconst (pc := 90) hF dX6_countUnusable_90 ?_
                  refine y_goto (pc := 91) hF dX6_countUnusable_91 95 rfl ?_
                  refine y_istore (pc := 95) (lv' := [(0, yR g 123), (1, yI fo), (2, yI j), (3, yI c), (4, yI i), (5, yI (j * w + i)), (6, yI 1)]) hF dX6_countUnusable_95 (by decide) rfl rfl ?_
                  exact zJ97 (1) (by simp [uOk, sKn, zin, bi, zc70, zc74])
                · skip
                  refine y_aload_n (pc := 77) hF dX6_countUnusable_77 0 rfl ?_
                  refine y_get (pc := 78) (ci := 6) hF dX6_countUnusable_78 z123 rfl rfl rfl iX6 0 (by decide) w_361 rfl ?_
                  rw [show (υ 123 0).toNat = k from zB_υ.k]
                  refine y_getN (pc := 81) (ci := 4) hF dX6_countUnusable_81 zkn (hP.2 g).1 rfl rfl iX4 4 (by decide) w_229 rfl ?_
                  refine y_iload (pc := 84) hF dX6_countUnusable_84 5 rfl ?_
                  refine y_iaload (pc := 86) hF dX6_countUnusable_86 zkn3 (hP.2 g).2.2.2.1 (by omega) (by decide) ?_
                  rw [show υ (k + 3) (j * w + i) = F i j from zm.2.2.1]
                  refine y_t_if_ne (pc := 87) hF dX6_countUnusable_87 dX6_countUnusable_90 dX6_countUnusable_91 dX6_countUnusable_94 (by omega) ?_
                  refine y_istore (pc := 95) (lv' := [(0, yR g 123), (1, yI fo), (2, yI j), (3, yI c), (4, yI i), (5, yI (j * w + i)), (6, yI (if (F i j) ≠ 0 then 0 else 1))]) hF dX6_countUnusable_95 (by decide) rfl rfl ?_
                  exact zJ97 (if (F i j) ≠ 0 then 0 else 1) (by rcases (show F i j = 0 ∨ (0 < F i j ∧ F i j ≠ 0) by omega) with e | e <;> simp [uOk, sKn, zin, bi, zc70, zc74, e])
        exact zL35 _ τ (0) (0) rfl ⟨zI19.1, zI19.2.1, by omega, rfl, zI19.2.2.2, fun a a1 a2 => by rw [show a = 0 by omega, pu_x0]; exact zI19.2.1 _ (by omega) (by omega) (by omega)⟩
  exact zL19 _ σ (0) rfl ⟨fk.rf σ, hT, by omega, fun a b a1 a2 b1 b2 => by rw [show b = 0 by omega, pu_y0]; exact hT _ (by omega) (by omega) (by omega)⟩
