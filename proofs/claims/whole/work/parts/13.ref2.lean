theorem dX11_steady_0 : decode cX11_steady 0 = .ok (.iconst 0, 1) := by decide +kernel
theorem dX11_steady_1 : decode cX11_steady 1 = .ok (.istore 4, 2) := by decide +kernel
theorem dX11_steady_3 : decode cX11_steady 3 = .ok (.iconst 0, 1) := by decide +kernel
theorem dX11_steady_4 : decode cX11_steady 4 = .ok (.istore 5, 2) := by decide +kernel
theorem dX11_steady_6 : decode cX11_steady 6 = .ok (.iload_n 3, 1) := by decide +kernel
theorem dX11_steady_7 : decode cX11_steady 7 = .ok (.aload_n 0, 1) := by decide +kernel
theorem dX11_steady_8 : decode cX11_steady 8 = .ok (.getfield 37, 3) := by decide +kernel
theorem dX11_steady_11 : decode cX11_steady 11 = .ok (.iconst 0, 1) := by decide +kernel
theorem dX11_steady_12 : decode cX11_steady 12 = .ok (.iaload, 1) := by decide +kernel
theorem dX11_steady_13 : decode cX11_steady 13 = .ok (.isub, 1) := by decide +kernel
theorem dX11_steady_14 : decode cX11_steady 14 = .ok (.istore 6, 2) := by decide +kernel
theorem dX11_steady_16 : decode cX11_steady 16 = .ok (.iload 6, 2) := by decide +kernel
theorem dX11_steady_18 : decode cX11_steady 18 = .ok (.iload_n 3, 1) := by decide +kernel
theorem dX11_steady_19 : decode cX11_steady 19 = .ok (.aload_n 0, 1) := by decide +kernel
theorem dX11_steady_20 : decode cX11_steady 20 = .ok (.getfield 37, 3) := by decide +kernel
theorem dX11_steady_23 : decode cX11_steady 23 = .ok (.iconst 0, 1) := by decide +kernel
theorem dX11_steady_24 : decode cX11_steady 24 = .ok (.iaload, 1) := by decide +kernel
theorem dX11_steady_25 : decode cX11_steady 25 = .ok (.iadd, 1) := by decide +kernel
theorem dX11_steady_26 : decode cX11_steady 26 = .ok (.if_icmp .gt 79, 3) := by decide +kernel
theorem dX11_steady_29 : decode cX11_steady 29 = .ok (.iload_n 2, 1) := by decide +kernel
theorem dX11_steady_30 : decode cX11_steady 30 = .ok (.aload_n 0, 1) := by decide +kernel
theorem dX11_steady_31 : decode cX11_steady 31 = .ok (.getfield 37, 3) := by decide +kernel
theorem dX11_steady_34 : decode cX11_steady 34 = .ok (.iconst 0, 1) := by decide +kernel
theorem dX11_steady_35 : decode cX11_steady 35 = .ok (.iaload, 1) := by decide +kernel
theorem dX11_steady_36 : decode cX11_steady 36 = .ok (.isub, 1) := by decide +kernel
theorem dX11_steady_37 : decode cX11_steady 37 = .ok (.istore 7, 2) := by decide +kernel
theorem dX11_steady_39 : decode cX11_steady 39 = .ok (.iload 7, 2) := by decide +kernel
theorem dX11_steady_41 : decode cX11_steady 41 = .ok (.iload_n 2, 1) := by decide +kernel
theorem dX11_steady_42 : decode cX11_steady 42 = .ok (.aload_n 0, 1) := by decide +kernel
theorem dX11_steady_43 : decode cX11_steady 43 = .ok (.getfield 37, 3) := by decide +kernel
theorem dX11_steady_46 : decode cX11_steady 46 = .ok (.iconst 0, 1) := by decide +kernel
theorem dX11_steady_47 : decode cX11_steady 47 = .ok (.iaload, 1) := by decide +kernel
theorem dX11_steady_48 : decode cX11_steady 48 = .ok (.iadd, 1) := by decide +kernel
theorem dX11_steady_49 : decode cX11_steady 49 = .ok (.if_icmp .gt 50, 3) := by decide +kernel
theorem dX11_steady_52 : decode cX11_steady 52 = .ok (.aload_n 0, 1) := by decide +kernel
theorem dX11_steady_53 : decode cX11_steady 53 = .ok (.iload_n 1, 1) := by decide +kernel
theorem dX11_steady_54 : decode cX11_steady 54 = .ok (.iload 7, 2) := by decide +kernel
theorem dX11_steady_56 : decode cX11_steady 56 = .ok (.iload 6, 2) := by decide +kernel
theorem dX11_steady_58 : decode cX11_steady 58 = .ok (.invokevirtual 72, 3) := by decide +kernel
theorem dX11_steady_61 : decode cX11_steady 61 = .ok (.ifCond .ne 6, 3) := by decide +kernel
theorem dX11_steady_64 : decode cX11_steady 64 = .ok (.goto 29, 3) := by decide +kernel
theorem dX11_steady_67 : decode cX11_steady 67 = .ok (.iload 4, 2) := by decide +kernel
theorem dX11_steady_69 : decode cX11_steady 69 = .ok (.aload_n 0, 1) := by decide +kernel
theorem dX11_steady_70 : decode cX11_steady 70 = .ok (.getfield 19, 3) := by decide +kernel
theorem dX11_steady_73 : decode cX11_steady 73 = .ok (.iload_n 1, 1) := by decide +kernel
theorem dX11_steady_74 : decode cX11_steady 74 = .ok (.aaload, 1) := by decide +kernel
theorem dX11_steady_75 : decode cX11_steady 75 = .ok (.sipush 400, 3) := by decide +kernel
theorem dX11_steady_78 : decode cX11_steady 78 = .ok (.iload 7, 2) := by decide +kernel
theorem dX11_steady_80 : decode cX11_steady 80 = .ok (.iload 6, 2) := by decide +kernel
theorem dX11_steady_82 : decode cX11_steady 82 = .ok (.invokestatic 56, 3) := by decide +kernel
theorem dX11_steady_85 : decode cX11_steady 85 = .ok (.iadd, 1) := by decide +kernel
theorem dX11_steady_86 : decode cX11_steady 86 = .ok (.iaload, 1) := by decide +kernel
theorem dX11_steady_87 : decode cX11_steady 87 = .ok (.iadd, 1) := by decide +kernel
theorem dX11_steady_88 : decode cX11_steady 88 = .ok (.istore 4, 2) := by decide +kernel
theorem dX11_steady_90 : decode cX11_steady 90 = .ok (.iinc 5 1, 3) := by decide +kernel
theorem dX11_steady_93 : decode cX11_steady 93 = .ok (.iinc 7 1, 3) := by decide +kernel
theorem dX11_steady_96 : decode cX11_steady 96 = .ok (.goto (-57), 3) := by decide +kernel
theorem dX11_steady_99 : decode cX11_steady 99 = .ok (.iinc 6 1, 3) := by decide +kernel
theorem dX11_steady_102 : decode cX11_steady 102 = .ok (.goto (-86), 3) := by decide +kernel
theorem dX11_steady_105 : decode cX11_steady 105 = .ok (.iload 4, 2) := by decide +kernel
theorem dX11_steady_107 : decode cX11_steady 107 = .ok (.iload 5, 2) := by decide +kernel
theorem dX11_steady_109 : decode cX11_steady 109 = .ok (.idiv, 1) := by decide +kernel
theorem dX11_steady_110 : decode cX11_steady 110 = .ok (.ireturn, 1) := by decide +kernel
set_option maxHeartbeats 4000000 in
set_option maxRecDepth 100000 in
theorem tX11_steady {l : Launch} {g : yG} {n : Nat} {σ : yM} (z : Nat) (w h : Int) (T S F P O : Int → Int → Int) (s re fo ra tu we sh : Int) (hn : 172 ≤ n) (hz : z < 3) (hA : rM σ z w h T S F P O) (hS : rS σ 166 s re fo ra tu we sh) (x y : Int) (hi : sIn w h x y = true) : yMet l g yX11_steady cX11_steady 8 (some .int) (rmL 3) [yR g 155, yI (z : Int), yI x, yI y] (SC g) n σ (SC g) (yPp (sSd w h S s x y) n σ) := by
  obtain ⟨hw1, hw2, hw3, hw4⟩ := id hA.1.1
  obtain ⟨hs1, hs2, hs3, hs4, hs5, hs6, hs7⟩ := id hS.2
  have zi := sIn_iff.mp hi
  have zq1 := sSt_bd (x := x) (y := y) (s := s) ⟨by omega, hs1.2⟩ hA.1.S
  have zq2 := sSt_pos (S := S) (s := s) (by omega) hi
  refine y_start (by decide) (Nat.le_of_ble_eq_true rfl) (fun X0 hF => ?_)
  show yV X0 g 8 (yQ X0 g (SC g) (yPp (sSd w h S s x y) n σ) (rmL 3)) (SC g) n σ 0 0 0 [(0, yR g 155), (1, yI (z : Int)), (2, yI x), (3, yI y)] []
  refine y_iconst (pc := 0) hF dX11_steady_0 ?_
  refine y_istore (pc := 1) (lv' := [(0, yR g 155), (1, yI (z : Int)), (2, yI x), (3, yI y), (4, yI 0)]) hF dX11_steady_1 (by decide) rfl rfl ?_
  refine y_iconst (pc := 3) hF dX11_steady_3 ?_
  refine y_istore (pc := 4) (lv' := [(0, yR g 155), (1, yI (z : Int)), (2, yI x), (3, yI y), (4, yI 0), (5, yI 0)]) hF dX11_steady_4 (by decide) rfl rfl ?_
  refine y_iload_n (pc := 6) hF dX11_steady_6 3 rfl ?_
  refine y_aload_n (pc := 7) hF dX11_steady_7 0 rfl ?_
  refine y_get (pc := 8) (ci := 11) hF dX11_steady_8 (by omega) rfl rfl rfl iX11 10 (by decide) w_1257 rfl ?_
  refine y_iconst (pc := 11) hF dX11_steady_11 ?_
  refine y_iaload (pc := 12) hF dX11_steady_12 (by omega) rfl (by omega) (by decide) ?_
  rw [show σ 166 0 = s from hS.1.1]
  refine y_isub (pc := 13) hF dX11_steady_13 ?_
  refine y_istore (pc := 14) (lv' := [(0, yR g 155), (1, yI (z : Int)), (2, yI x), (3, yI y), (4, yI 0), (5, yI 0), (6, yI (y - s))]) hF dX11_steady_14 (by decide) rfl rfl ?_
  have zL16 : ∀ (N : Nat) (j a c : Int), N = (y + s + 1 - j).toNat → ((y - s ≤ j ∧ j ≤ y + s + 1) ∧ (a, c) = fr (fun q j => fr (fun q i => stF w h S q i j) (x - s) (2 * s + 1).toNat q) (y - s) (j - (y - s)).toNat (0, 0)) → yV X0 g 8 (yQ X0 g (SC g) (yPp (sSd w h S s x y) n σ) (rmL 3)) (SC g) n σ 0 0 16 [(0, yR g 155), (1, yI (z : Int)), (2, yI x), (3, yI y), (4, yI a), (5, yI c), (6, yI j)] [] := by
    intro N
    induction N using Nat.strongRecOn with
    | ind N zh16 =>
      intro j a c  zN16 zI16
      refine y_iload (pc := 16) hF dX11_steady_16 6 rfl ?_
      refine y_iload_n (pc := 18) hF dX11_steady_18 3 rfl ?_
      refine y_aload_n (pc := 19) hF dX11_steady_19 0 rfl ?_
      refine y_get (pc := 20) (ci := 11) hF dX11_steady_20 (by omega) rfl rfl rfl iX11 10 (by decide) w_1257 rfl ?_
      refine y_iconst (pc := 23) hF dX11_steady_23 ?_
      refine y_iaload (pc := 24) hF dX11_steady_24 (by omega) rfl (by omega) (by decide) ?_
      rw [show σ 166 0 = s from hS.1.1]
      refine y_iadd (pc := 25) hF dX11_steady_25 ?_
      refine y_icmp_gt (pc := 26) hF dX11_steady_26 105 rfl (by omega) (by omega) (fun zc26 => ?_) (fun zc26 => ?_)
      · skip
        have ze : (a, c) = sSt w h S s x y := by rw [zI16.2, show j - (y - s) = 2 * s + 1 by omega]; rfl
        have ze1 : a = (sSt w h S s x y).1 := congrArg Prod.fst ze
        have ze2 : c = (sSt w h S s x y).2 := congrArg Prod.snd ze
        have zr1 : -2147483648 ≤ a ∧ a < 2147483648 := by omega
        have zr2 : -2147483648 ≤ c ∧ c < 2147483648 := by omega
        have zr3 : c ≠ 0 := by omega
        refine y_iload (pc := 105) hF dX11_steady_105 4 rfl ?_
        refine y_iload (pc := 107) hF dX11_steady_107 5 rfl ?_
        refine y_idiv (pc := 109) hF dX11_steady_109 zr1 zr2 zr3 ?_
        exact y_iret (pc := 110) hF dX11_steady_110 (Nat.zero_le _) (Nat.zero_le _) ⟨_, rfl, by rw [ze1, ze2]; rfl, rfl, rfl⟩
      · skip
        refine y_iload_n (pc := 29) hF dX11_steady_29 2 rfl ?_
        refine y_aload_n (pc := 30) hF dX11_steady_30 0 rfl ?_
        refine y_get (pc := 31) (ci := 11) hF dX11_steady_31 (by omega) rfl rfl rfl iX11 10 (by decide) w_1257 rfl ?_
        refine y_iconst (pc := 34) hF dX11_steady_34 ?_
        refine y_iaload (pc := 35) hF dX11_steady_35 (by omega) rfl (by omega) (by decide) ?_
        rw [show σ 166 0 = s from hS.1.1]
        refine y_isub (pc := 36) hF dX11_steady_36 ?_
        refine y_istore (pc := 37) (lv' := [(0, yR g 155), (1, yI (z : Int)), (2, yI x), (3, yI y), (4, yI a), (5, yI c), (6, yI j), (7, yI (x - s))]) hF dX11_steady_37 (by decide) rfl rfl ?_
        have zL39 : ∀ (N : Nat) (i a2 c2 : Int), N = (x + s + 1 - i).toNat → ((x - s ≤ i ∧ i ≤ x + s + 1) ∧ (a2, c2) = fr (fun q i => stF w h S q i j) (x - s) (i - (x - s)).toNat (a, c)) → yV X0 g 8 (yQ X0 g (SC g) (yPp (sSd w h S s x y) n σ) (rmL 3)) (SC g) n σ 0 0 39 [(0, yR g 155), (1, yI (z : Int)), (2, yI x), (3, yI y), (4, yI a2), (5, yI c2), (6, yI j), (7, yI i)] [] := by
          intro N
          induction N using Nat.strongRecOn with
          | ind N zh39 =>
            intro i a2 c2  zN39 zI39
            refine y_iload (pc := 39) hF dX11_steady_39 7 rfl ?_
            refine y_iload_n (pc := 41) hF dX11_steady_41 2 rfl ?_
            refine y_aload_n (pc := 42) hF dX11_steady_42 0 rfl ?_
            refine y_get (pc := 43) (ci := 11) hF dX11_steady_43 (by omega) rfl rfl rfl iX11 10 (by decide) w_1257 rfl ?_
            refine y_iconst (pc := 46) hF dX11_steady_46 ?_
            refine y_iaload (pc := 47) hF dX11_steady_47 (by omega) rfl (by omega) (by decide) ?_
            rw [show σ 166 0 = s from hS.1.1]
            refine y_iadd (pc := 48) hF dX11_steady_48 ?_
            refine y_icmp_gt (pc := 49) hF dX11_steady_49 99 rfl (by omega) (by omega) (fun zc49 => ?_) (fun zc49 => ?_)
            · skip
              refine y_iinc (pc := 99) (lv' := [(0, yR g 155), (1, yI (z : Int)), (2, yI x), (3, yI y), (4, yI a2), (5, yI c2), (6, yI (j + 1)), (7, yI i)]) hF dX11_steady_99 6 rfl (by decide) rfl rfl ?_
              refine y_goto (pc := 102) hF dX11_steady_102 16 rfl ?_
              refine y_sub [0, 1, 2, 3, 4, 5, 6] rfl ?_
              exact zh16 _ (by omega) (j + 1) (a2) (c2) rfl ⟨by omega, by rw [fr_up' _ _ zI16.1.1, ← zI16.2, zI39.2, show i - (x - s) = 2 * s + 1 by omega]⟩
            · skip
              refine y_aload_n (pc := 52) hF dX11_steady_52 0 rfl ?_
              refine y_iload_n (pc := 53) hF dX11_steady_53 1 rfl ?_
              refine y_iload (pc := 54) hF dX11_steady_54 7 rfl ?_
              refine y_iload (pc := 56) hF dX11_steady_56 6 rfl ?_
              refine y_cp (y_rV (pc := 58) hF (tX11_has z w h T S F P O hn hz hA i j (by omega) (by omega)) dX11_steady_58 (by omega) rfl rfl rfl w_1444 qX11_has rfl ⟨Nat.le_of_ble_eq_true rfl, Nat.le_of_ble_eq_true rfl⟩ ⟨Nat.zero_le _, Nat.zero_le _⟩ (Nat.le_of_ble_eq_true rfl) rfl) ?_
              refine y_if_ne (pc := 61) hF dX11_steady_61 67 rfl bi_r (fun zc61 => ?_) (fun zc61 => ?_)
              · replace zc61 := bi_n0.mp zc61
                have zb := sIn_iff.mp zc61
                have zm := hA.2.2.2 i j zb.1 zb.2.1 zb.2.2.1 zb.2.2.2
                refine y_iload (pc := 67) hF dX11_steady_67 4 rfl ?_
                refine y_aload_n (pc := 69) hF dX11_steady_69 0 rfl ?_
                refine y_get (pc := 70) (ci := 11) hF dX11_steady_70 (by omega) rfl rfl rfl iX11 2 (by decide) w_1249 rfl ?_
                refine y_iload_n (pc := 73) hF dX11_steady_73 1 rfl ?_
                refine y_aaM (pc := 74) (z := z) hF dX11_steady_74 hn rfl hz ?_
                refine y_sipush (pc := 75) hF dX11_steady_75 (by decide) ?_
                refine y_iload (pc := 78) hF dX11_steady_78 7 rfl ?_
                refine y_iload (pc := 80) hF dX11_steady_80 6 rfl ?_
                refine y_cp (y_rS (pc := 82) (As := [yI i, yI j]) (kk := 0) hF (tX11_at i j) dX11_steady_82 w_1236 qX11_at rfl ⟨Nat.le_of_ble_eq_true rfl, Nat.le_of_ble_eq_true rfl⟩ ⟨Nat.zero_le _, Nat.zero_le _⟩ (Nat.le_of_ble_eq_true rfl) rfl) ?_
                refine y_iadd (pc := 85) hF dX11_steady_85 ?_
                refine y_iaload (pc := 86) hF dX11_steady_86 (by omega) (sc_lay hz g) (by omega) (by decide) ?_
                rw [show σ (158 + z) (400 + (20 * j + i)) = S i j from zm.2.1]
                refine y_iadd (pc := 87) hF dX11_steady_87 ?_
                refine y_istore (pc := 88) (lv' := [(0, yR g 155), (1, yI (z : Int)), (2, yI x), (3, yI y), (4, yI (a2 + (S i j))), (5, yI c2), (6, yI j), (7, yI i)]) hF dX11_steady_88 (by decide) rfl rfl ?_
                refine y_iinc (pc := 90) (lv' := [(0, yR g 155), (1, yI (z : Int)), (2, yI x), (3, yI y), (4, yI (a2 + (S i j))), (5, yI (c2 + 1)), (6, yI j), (7, yI i)]) hF dX11_steady_90 5 rfl (by decide) rfl rfl ?_
                refine y_iinc (pc := 93) (lv' := [(0, yR g 155), (1, yI (z : Int)), (2, yI x), (3, yI y), (4, yI (a2 + (S i j))), (5, yI (c2 + 1)), (6, yI j), (7, yI (i + 1))]) hF dX11_steady_93 7 rfl (by decide) rfl rfl ?_
                refine y_goto (pc := 96) hF dX11_steady_96 39 rfl ?_
                exact zh39 _ (by omega) (i + 1) (a2 + (S i j)) (c2 + 1) rfl ⟨by omega, by rw [fr_up' _ _ zI39.1.1, ← zI39.2]; simp [stF, zc61]⟩
              · replace zc61 := bi_0.mp zc61
                refine y_goto (pc := 64) hF dX11_steady_64 93 rfl ?_
                refine y_iinc (pc := 93) (lv' := [(0, yR g 155), (1, yI (z : Int)), (2, yI x), (3, yI y), (4, yI a2), (5, yI c2), (6, yI j), (7, yI (i + 1))]) hF dX11_steady_93 7 rfl (by decide) rfl rfl ?_
                refine y_goto (pc := 96) hF dX11_steady_96 39 rfl ?_
                exact zh39 _ (by omega) (i + 1) (a2) (c2) rfl ⟨by omega, by rw [fr_up' _ _ zI39.1.1, ← zI39.2]; simp [stF, zc61]⟩
        exact zL39 _ (x - s) (a) (c) rfl ⟨by omega, (fr_no _ _ _).symm⟩
  exact zL16 _ (y - s) (0) (0) rfl ⟨by omega, (fr_no _ _ _).symm⟩

theorem dX11_outX_0 : decode cX11_outX 0 = .ok (.aload_n 0, 1) := by decide +kernel
theorem dX11_outX_1 : decode cX11_outX 1 = .ok (.iload_n 1, 1) := by decide +kernel
theorem dX11_outX_2 : decode cX11_outX 2 = .ok (.iload_n 2, 1) := by decide +kernel
theorem dX11_outX_3 : decode cX11_outX 3 = .ok (.iconst 1, 1) := by decide +kernel
theorem dX11_outX_4 : decode cX11_outX 4 = .ok (.iadd, 1) := by decide +kernel
theorem dX11_outX_5 : decode cX11_outX 5 = .ok (.iload_n 3, 1) := by decide +kernel
theorem dX11_outX_6 : decode cX11_outX 6 = .ok (.invokevirtual 75, 3) := by decide +kernel
theorem dX11_outX_9 : decode cX11_outX 9 = .ok (.ifCond .eq 7, 3) := by decide +kernel
theorem dX11_outX_12 : decode cX11_outX 12 = .ok (.iconst 1, 1) := by decide +kernel
theorem dX11_outX_13 : decode cX11_outX 13 = .ok (.goto 4, 3) := by decide +kernel
theorem dX11_outX_16 : decode cX11_outX 16 = .ok (.iconst 0, 1) := by decide +kernel
theorem dX11_outX_17 : decode cX11_outX 17 = .ok (.aload_n 0, 1) := by decide +kernel
theorem dX11_outX_18 : decode cX11_outX 18 = .ok (.iload_n 1, 1) := by decide +kernel
theorem dX11_outX_19 : decode cX11_outX 19 = .ok (.iload_n 2, 1) := by decide +kernel
theorem dX11_outX_20 : decode cX11_outX 20 = .ok (.iconst 1, 1) := by decide +kernel
theorem dX11_outX_21 : decode cX11_outX 21 = .ok (.isub, 1) := by decide +kernel
theorem dX11_outX_22 : decode cX11_outX 22 = .ok (.iload_n 3, 1) := by decide +kernel
theorem dX11_outX_23 : decode cX11_outX 23 = .ok (.invokevirtual 75, 3) := by decide +kernel
theorem dX11_outX_26 : decode cX11_outX 26 = .ok (.ifCond .eq 7, 3) := by decide +kernel
theorem dX11_outX_29 : decode cX11_outX 29 = .ok (.iconst 1, 1) := by decide +kernel
theorem dX11_outX_30 : decode cX11_outX 30 = .ok (.goto 4, 3) := by decide +kernel
theorem dX11_outX_33 : decode cX11_outX 33 = .ok (.iconst 0, 1) := by decide +kernel
theorem dX11_outX_34 : decode cX11_outX 34 = .ok (.isub, 1) := by decide +kernel
theorem dX11_outX_35 : decode cX11_outX 35 = .ok (.ireturn, 1) := by decide +kernel
set_option maxHeartbeats 4000000 in
set_option maxRecDepth 100000 in
theorem tX11_outX {l : Launch} {g : yG} {n : Nat} {σ : yM} (z : Nat) (w h : Int) (T S F P O : Int → Int → Int) (hn : 172 ≤ n) (hz : z < 3) (hA : rM σ z w h T S F P O) (x y : Int) (hi : sIn w h x y = true) : yMet l g yX11_outX cX11_outX 4 (some .int) (rmL 4) [yR g 155, yI (z : Int), yI x, yI y] (SC g) n σ (SC g) (yPp (sOx w h T x y) n σ) := by
  obtain ⟨hw1, hw2, hw3, hw4⟩ := id hA.1.1
  have zi := sIn_iff.mp hi
  refine y_start (by decide) (Nat.le_of_ble_eq_true rfl) (fun X0 hF => ?_)
  show yV X0 g 4 (yQ X0 g (SC g) (yPp (sOx w h T x y) n σ) (rmL 4)) (SC g) n σ 0 0 0 [(0, yR g 155), (1, yI (z : Int)), (2, yI x), (3, yI y)] []
  refine y_aload_n (pc := 0) hF dX11_outX_0 0 rfl ?_
  refine y_iload_n (pc := 1) hF dX11_outX_1 1 rfl ?_
  refine y_iload_n (pc := 2) hF dX11_outX_2 2 rfl ?_
  refine y_iconst (pc := 3) hF dX11_outX_3 ?_
  refine y_iadd (pc := 4) hF dX11_outX_4 ?_
  refine y_iload_n (pc := 5) hF dX11_outX_5 3 rfl ?_
  refine y_cp (y_rV (pc := 6) hF (tX11_isMissing z w h T S F P O hn hz hA (x + 1) y (by omega) (by omega)) dX11_outX_6 (by omega) rfl rfl rfl w_1504 qX11_isMissing rfl ⟨Nat.le_of_ble_eq_true rfl, Nat.le_of_ble_eq_true rfl⟩ ⟨Nat.zero_le _, Nat.zero_le _⟩ (Nat.le_of_ble_eq_true rfl) rfl) ?_
  refine y_t_if_eq (pc := 9) hF dX11_outX_9 dX11_outX_12 dX11_outX_13 dX11_outX_16 bi_r ?_
  rw [show (if (bi (sMi w h T (x + 1) y)) = 0 then 0 else 1) = bi (sMi w h T (x + 1) y) from bi_t]
  refine y_aload_n (pc := 17) hF dX11_outX_17 0 rfl ?_
  refine y_iload_n (pc := 18) hF dX11_outX_18 1 rfl ?_
  refine y_iload_n (pc := 19) hF dX11_outX_19 2 rfl ?_
  refine y_iconst (pc := 20) hF dX11_outX_20 ?_
  refine y_isub (pc := 21) hF dX11_outX_21 ?_
  refine y_iload_n (pc := 22) hF dX11_outX_22 3 rfl ?_
  refine y_cp (y_rV (pc := 23) hF (tX11_isMissing z w h T S F P O hn hz hA (x - 1) y (by omega) (by omega)) dX11_outX_23 (by omega) rfl rfl rfl w_1504 qX11_isMissing rfl ⟨Nat.le_of_ble_eq_true rfl, Nat.le_of_ble_eq_true rfl⟩ ⟨Nat.zero_le _, Nat.zero_le _⟩ (Nat.le_of_ble_eq_true rfl) rfl) ?_
  refine y_t_if_eq (pc := 26) hF dX11_outX_26 dX11_outX_29 dX11_outX_30 dX11_outX_33 bi_r ?_
  rw [show (if (bi (sMi w h T (x - 1) y)) = 0 then 0 else 1) = bi (sMi w h T (x - 1) y) from bi_t]
  refine y_isub (pc := 34) hF dX11_outX_34 ?_
  exact y_iret (pc := 35) hF dX11_outX_35 (Nat.zero_le _) (Nat.zero_le _) ⟨_, rfl, rfl, rfl, rfl⟩

theorem dX11_outY_0 : decode cX11_outY 0 = .ok (.aload_n 0, 1) := by decide +kernel
theorem dX11_outY_1 : decode cX11_outY 1 = .ok (.iload_n 1, 1) := by decide +kernel
theorem dX11_outY_2 : decode cX11_outY 2 = .ok (.iload_n 2, 1) := by decide +kernel
theorem dX11_outY_3 : decode cX11_outY 3 = .ok (.iload_n 3, 1) := by decide +kernel
theorem dX11_outY_4 : decode cX11_outY 4 = .ok (.iconst 1, 1) := by decide +kernel
theorem dX11_outY_5 : decode cX11_outY 5 = .ok (.iadd, 1) := by decide +kernel
theorem dX11_outY_6 : decode cX11_outY 6 = .ok (.invokevirtual 75, 3) := by decide +kernel
theorem dX11_outY_9 : decode cX11_outY 9 = .ok (.ifCond .eq 7, 3) := by decide +kernel
theorem dX11_outY_12 : decode cX11_outY 12 = .ok (.iconst 1, 1) := by decide +kernel
theorem dX11_outY_13 : decode cX11_outY 13 = .ok (.goto 4, 3) := by decide +kernel
theorem dX11_outY_16 : decode cX11_outY 16 = .ok (.iconst 0, 1) := by decide +kernel
theorem dX11_outY_17 : decode cX11_outY 17 = .ok (.aload_n 0, 1) := by decide +kernel
theorem dX11_outY_18 : decode cX11_outY 18 = .ok (.iload_n 1, 1) := by decide +kernel
theorem dX11_outY_19 : decode cX11_outY 19 = .ok (.iload_n 2, 1) := by decide +kernel
theorem dX11_outY_20 : decode cX11_outY 20 = .ok (.iload_n 3, 1) := by decide +kernel
theorem dX11_outY_21 : decode cX11_outY 21 = .ok (.iconst 1, 1) := by decide +kernel
theorem dX11_outY_22 : decode cX11_outY 22 = .ok (.isub, 1) := by decide +kernel
theorem dX11_outY_23 : decode cX11_outY 23 = .ok (.invokevirtual 75, 3) := by decide +kernel
theorem dX11_outY_26 : decode cX11_outY 26 = .ok (.ifCond .eq 7, 3) := by decide +kernel
theorem dX11_outY_29 : decode cX11_outY 29 = .ok (.iconst 1, 1) := by decide +kernel
theorem dX11_outY_30 : decode cX11_outY 30 = .ok (.goto 4, 3) := by decide +kernel
theorem dX11_outY_33 : decode cX11_outY 33 = .ok (.iconst 0, 1) := by decide +kernel
theorem dX11_outY_34 : decode cX11_outY 34 = .ok (.isub, 1) := by decide +kernel
theorem dX11_outY_35 : decode cX11_outY 35 = .ok (.ireturn, 1) := by decide +kernel
set_option maxHeartbeats 4000000 in
set_option maxRecDepth 100000 in
theorem tX11_outY {l : Launch} {g : yG} {n : Nat} {σ : yM} (z : Nat) (w h : Int) (T S F P O : Int → Int → Int) (hn : 172 ≤ n) (hz : z < 3) (hA : rM σ z w h T S F P O) (x y : Int) (hi : sIn w h x y = true) : yMet l g yX11_outY cX11_outY 4 (some .int) (rmL 4) [yR g 155, yI (z : Int), yI x, yI y] (SC g) n σ (SC g) (yPp (sOy w h T x y) n σ) := by
  obtain ⟨hw1, hw2, hw3, hw4⟩ := id hA.1.1
  have zi := sIn_iff.mp hi
  refine y_start (by decide) (Nat.le_of_ble_eq_true rfl) (fun X0 hF => ?_)
  show yV X0 g 4 (yQ X0 g (SC g) (yPp (sOy w h T x y) n σ) (rmL 4)) (SC g) n σ 0 0 0 [(0, yR g 155), (1, yI (z : Int)), (2, yI x), (3, yI y)] []
  refine y_aload_n (pc := 0) hF dX11_outY_0 0 rfl ?_
  refine y_iload_n (pc := 1) hF dX11_outY_1 1 rfl ?_
  refine y_iload_n (pc := 2) hF dX11_outY_2 2 rfl ?_
  refine y_iload_n (pc := 3) hF dX11_outY_3 3 rfl ?_
  refine y_iconst (pc := 4) hF dX11_outY_4 ?_
  refine y_iadd (pc := 5) hF dX11_outY_5 ?_
  refine y_cp (y_rV (pc := 6) hF (tX11_isMissing z w h T S F P O hn hz hA x (y + 1) (by omega) (by omega)) dX11_outY_6 (by omega) rfl rfl rfl w_1504 qX11_isMissing rfl ⟨Nat.le_of_ble_eq_true rfl, Nat.le_of_ble_eq_true rfl⟩ ⟨Nat.zero_le _, Nat.zero_le _⟩ (Nat.le_of_ble_eq_true rfl) rfl) ?_
  refine y_t_if_eq (pc := 9) hF dX11_outY_9 dX11_outY_12 dX11_outY_13 dX11_outY_16 bi_r ?_
  rw [show (if (bi (sMi w h T x (y + 1))) = 0 then 0 else 1) = bi (sMi w h T x (y + 1)) from bi_t]
  refine y_aload_n (pc := 17) hF dX11_outY_17 0 rfl ?_
  refine y_iload_n (pc := 18) hF dX11_outY_18 1 rfl ?_
  refine y_iload_n (pc := 19) hF dX11_outY_19 2 rfl ?_
  refine y_iload_n (pc := 20) hF dX11_outY_20 3 rfl ?_
  refine y_iconst (pc := 21) hF dX11_outY_21 ?_
  refine y_isub (pc := 22) hF dX11_outY_22 ?_
  refine y_cp (y_rV (pc := 23) hF (tX11_isMissing z w h T S F P O hn hz hA x (y - 1) (by omega) (by omega)) dX11_outY_23 (by omega) rfl rfl rfl w_1504 qX11_isMissing rfl ⟨Nat.le_of_ble_eq_true rfl, Nat.le_of_ble_eq_true rfl⟩ ⟨Nat.zero_le _, Nat.zero_le _⟩ (Nat.le_of_ble_eq_true rfl) rfl) ?_
  refine y_t_if_eq (pc := 26) hF dX11_outY_26 dX11_outY_29 dX11_outY_30 dX11_outY_33 bi_r ?_
  rw [show (if (bi (sMi w h T x (y - 1))) = 0 then 0 else 1) = bi (sMi w h T x (y - 1)) from bi_t]
  refine y_isub (pc := 34) hF dX11_outY_34 ?_
  exact y_iret (pc := 35) hF dX11_outY_35 (Nat.zero_le _) (Nat.zero_le _) ⟨_, rfl, rfl, rfl, rfl⟩

theorem dX11_slopes_0 : decode cX11_slopes 0 = .ok (.aload_n 0, 1) := by decide +kernel
theorem dX11_slopes_1 : decode cX11_slopes 1 = .ok (.iconst 0, 1) := by decide +kernel
theorem dX11_slopes_2 : decode cX11_slopes 2 = .ok (.putfield 81, 3) := by decide +kernel
theorem dX11_slopes_5 : decode cX11_slopes 5 = .ok (.aload_n 0, 1) := by decide +kernel
theorem dX11_slopes_6 : decode cX11_slopes 6 = .ok (.iconst 0, 1) := by decide +kernel
theorem dX11_slopes_7 : decode cX11_slopes 7 = .ok (.putfield 84, 3) := by decide +kernel
theorem dX11_slopes_10 : decode cX11_slopes 10 = .ok (.iload_n 3, 1) := by decide +kernel
theorem dX11_slopes_11 : decode cX11_slopes 11 = .ok (.aload_n 0, 1) := by decide +kernel
theorem dX11_slopes_12 : decode cX11_slopes 12 = .ok (.getfield 37, 3) := by decide +kernel
theorem dX11_slopes_15 : decode cX11_slopes 15 = .ok (.iconst 0, 1) := by decide +kernel
theorem dX11_slopes_16 : decode cX11_slopes 16 = .ok (.iaload, 1) := by decide +kernel
theorem dX11_slopes_17 : decode cX11_slopes 17 = .ok (.isub, 1) := by decide +kernel
theorem dX11_slopes_18 : decode cX11_slopes 18 = .ok (.istore 4, 2) := by decide +kernel
theorem dX11_slopes_20 : decode cX11_slopes 20 = .ok (.iload 4, 2) := by decide +kernel
theorem dX11_slopes_22 : decode cX11_slopes 22 = .ok (.iload_n 3, 1) := by decide +kernel
theorem dX11_slopes_23 : decode cX11_slopes 23 = .ok (.aload_n 0, 1) := by decide +kernel
theorem dX11_slopes_24 : decode cX11_slopes 24 = .ok (.getfield 37, 3) := by decide +kernel
theorem dX11_slopes_27 : decode cX11_slopes 27 = .ok (.iconst 0, 1) := by decide +kernel
theorem dX11_slopes_28 : decode cX11_slopes 28 = .ok (.iaload, 1) := by decide +kernel
theorem dX11_slopes_29 : decode cX11_slopes 29 = .ok (.iadd, 1) := by decide +kernel
theorem dX11_slopes_30 : decode cX11_slopes 30 = .ok (.if_icmp .gt 203, 3) := by decide +kernel
theorem dX11_slopes_33 : decode cX11_slopes 33 = .ok (.iload_n 2, 1) := by decide +kernel
theorem dX11_slopes_34 : decode cX11_slopes 34 = .ok (.aload_n 0, 1) := by decide +kernel
theorem dX11_slopes_35 : decode cX11_slopes 35 = .ok (.getfield 37, 3) := by decide +kernel
theorem dX11_slopes_38 : decode cX11_slopes 38 = .ok (.iconst 0, 1) := by decide +kernel
theorem dX11_slopes_39 : decode cX11_slopes 39 = .ok (.iaload, 1) := by decide +kernel
theorem dX11_slopes_40 : decode cX11_slopes 40 = .ok (.isub, 1) := by decide +kernel
theorem dX11_slopes_41 : decode cX11_slopes 41 = .ok (.istore 5, 2) := by decide +kernel
theorem dX11_slopes_43 : decode cX11_slopes 43 = .ok (.iload 5, 2) := by decide +kernel
theorem dX11_slopes_45 : decode cX11_slopes 45 = .ok (.iload_n 2, 1) := by decide +kernel
theorem dX11_slopes_46 : decode cX11_slopes 46 = .ok (.aload_n 0, 1) := by decide +kernel
theorem dX11_slopes_47 : decode cX11_slopes 47 = .ok (.getfield 37, 3) := by decide +kernel
theorem dX11_slopes_50 : decode cX11_slopes 50 = .ok (.iconst 0, 1) := by decide +kernel
theorem dX11_slopes_51 : decode cX11_slopes 51 = .ok (.iaload, 1) := by decide +kernel
theorem dX11_slopes_52 : decode cX11_slopes 52 = .ok (.iadd, 1) := by decide +kernel
theorem dX11_slopes_53 : decode cX11_slopes 53 = .ok (.if_icmp .gt 174, 3) := by decide +kernel
theorem dX11_slopes_56 : decode cX11_slopes 56 = .ok (.aload_n 0, 1) := by decide +kernel
theorem dX11_slopes_57 : decode cX11_slopes 57 = .ok (.iload_n 1, 1) := by decide +kernel
theorem dX11_slopes_58 : decode cX11_slopes 58 = .ok (.iload 5, 2) := by decide +kernel
theorem dX11_slopes_60 : decode cX11_slopes 60 = .ok (.iload 4, 2) := by decide +kernel
theorem dX11_slopes_62 : decode cX11_slopes 62 = .ok (.invokevirtual 78, 3) := by decide +kernel
theorem dX11_slopes_65 : decode cX11_slopes 65 = .ok (.ifCond .eq 156, 3) := by decide +kernel
theorem dX11_slopes_68 : decode cX11_slopes 68 = .ok (.aload_n 0, 1) := by decide +kernel
theorem dX11_slopes_69 : decode cX11_slopes 69 = .ok (.iload_n 1, 1) := by decide +kernel
theorem dX11_slopes_70 : decode cX11_slopes 70 = .ok (.iload 5, 2) := by decide +kernel
theorem dX11_slopes_72 : decode cX11_slopes 72 = .ok (.iconst 1, 1) := by decide +kernel
theorem dX11_slopes_73 : decode cX11_slopes 73 = .ok (.isub, 1) := by decide +kernel
theorem dX11_slopes_74 : decode cX11_slopes 74 = .ok (.iload 4, 2) := by decide +kernel
theorem dX11_slopes_76 : decode cX11_slopes 76 = .ok (.invokevirtual 78, 3) := by decide +kernel
theorem dX11_slopes_79 : decode cX11_slopes 79 = .ok (.ifCond .eq 142, 3) := by decide +kernel
theorem dX11_slopes_82 : decode cX11_slopes 82 = .ok (.aload_n 0, 1) := by decide +kernel
theorem dX11_slopes_83 : decode cX11_slopes 83 = .ok (.iload_n 1, 1) := by decide +kernel
theorem dX11_slopes_84 : decode cX11_slopes 84 = .ok (.iload 5, 2) := by decide +kernel
theorem dX11_slopes_86 : decode cX11_slopes 86 = .ok (.iconst 1, 1) := by decide +kernel
theorem dX11_slopes_87 : decode cX11_slopes 87 = .ok (.iadd, 1) := by decide +kernel
theorem dX11_slopes_88 : decode cX11_slopes 88 = .ok (.iload 4, 2) := by decide +kernel
theorem dX11_slopes_90 : decode cX11_slopes 90 = .ok (.invokevirtual 78, 3) := by decide +kernel
theorem dX11_slopes_93 : decode cX11_slopes 93 = .ok (.ifCond .eq 128, 3) := by decide +kernel
theorem dX11_slopes_96 : decode cX11_slopes 96 = .ok (.aload_n 0, 1) := by decide +kernel
theorem dX11_slopes_97 : decode cX11_slopes 97 = .ok (.iload_n 1, 1) := by decide +kernel
theorem dX11_slopes_98 : decode cX11_slopes 98 = .ok (.iload 5, 2) := by decide +kernel
theorem dX11_slopes_100 : decode cX11_slopes 100 = .ok (.iload 4, 2) := by decide +kernel
theorem dX11_slopes_102 : decode cX11_slopes 102 = .ok (.iconst 1, 1) := by decide +kernel
theorem dX11_slopes_103 : decode cX11_slopes 103 = .ok (.isub, 1) := by decide +kernel
theorem dX11_slopes_104 : decode cX11_slopes 104 = .ok (.invokevirtual 78, 3) := by decide +kernel
theorem dX11_slopes_107 : decode cX11_slopes 107 = .ok (.ifCond .eq 114, 3) := by decide +kernel
theorem dX11_slopes_110 : decode cX11_slopes 110 = .ok (.aload_n 0, 1) := by decide +kernel
theorem dX11_slopes_111 : decode cX11_slopes 111 = .ok (.iload_n 1, 1) := by decide +kernel
theorem dX11_slopes_112 : decode cX11_slopes 112 = .ok (.iload 5, 2) := by decide +kernel
theorem dX11_slopes_114 : decode cX11_slopes 114 = .ok (.iload 4, 2) := by decide +kernel
theorem dX11_slopes_116 : decode cX11_slopes 116 = .ok (.iconst 1, 1) := by decide +kernel
theorem dX11_slopes_117 : decode cX11_slopes 117 = .ok (.iadd, 1) := by decide +kernel
theorem dX11_slopes_118 : decode cX11_slopes 118 = .ok (.invokevirtual 78, 3) := by decide +kernel
theorem dX11_slopes_121 : decode cX11_slopes 121 = .ok (.ifCond .ne 6, 3) := by decide +kernel
theorem dX11_slopes_124 : decode cX11_slopes 124 = .ok (.goto 97, 3) := by decide +kernel
theorem dX11_slopes_127 : decode cX11_slopes 127 = .ok (.aload_n 0, 1) := by decide +kernel
theorem dX11_slopes_128 : decode cX11_slopes 128 = .ok (.iload_n 1, 1) := by decide +kernel
theorem dX11_slopes_129 : decode cX11_slopes 129 = .ok (.iload 5, 2) := by decide +kernel
theorem dX11_slopes_131 : decode cX11_slopes 131 = .ok (.iconst 1, 1) := by decide +kernel
theorem dX11_slopes_132 : decode cX11_slopes 132 = .ok (.iadd, 1) := by decide +kernel
theorem dX11_slopes_133 : decode cX11_slopes 133 = .ok (.iload 4, 2) := by decide +kernel
theorem dX11_slopes_135 : decode cX11_slopes 135 = .ok (.invokevirtual 87, 3) := by decide +kernel
theorem dX11_slopes_138 : decode cX11_slopes 138 = .ok (.aload_n 0, 1) := by decide +kernel
theorem dX11_slopes_139 : decode cX11_slopes 139 = .ok (.iload_n 1, 1) := by decide +kernel
theorem dX11_slopes_140 : decode cX11_slopes 140 = .ok (.iload 5, 2) := by decide +kernel
theorem dX11_slopes_142 : decode cX11_slopes 142 = .ok (.iconst 1, 1) := by decide +kernel
theorem dX11_slopes_143 : decode cX11_slopes 143 = .ok (.isub, 1) := by decide +kernel
theorem dX11_slopes_144 : decode cX11_slopes 144 = .ok (.iload 4, 2) := by decide +kernel
theorem dX11_slopes_146 : decode cX11_slopes 146 = .ok (.invokevirtual 87, 3) := by decide +kernel
theorem dX11_slopes_149 : decode cX11_slopes 149 = .ok (.isub, 1) := by decide +kernel
theorem dX11_slopes_150 : decode cX11_slopes 150 = .ok (.istore 6, 2) := by decide +kernel
theorem dX11_slopes_152 : decode cX11_slopes 152 = .ok (.aload_n 0, 1) := by decide +kernel
theorem dX11_slopes_153 : decode cX11_slopes 153 = .ok (.iload_n 1, 1) := by decide +kernel
theorem dX11_slopes_154 : decode cX11_slopes 154 = .ok (.iload 5, 2) := by decide +kernel
theorem dX11_slopes_156 : decode cX11_slopes 156 = .ok (.iload 4, 2) := by decide +kernel
theorem dX11_slopes_158 : decode cX11_slopes 158 = .ok (.iconst 1, 1) := by decide +kernel
theorem dX11_slopes_159 : decode cX11_slopes 159 = .ok (.iadd, 1) := by decide +kernel
theorem dX11_slopes_160 : decode cX11_slopes 160 = .ok (.invokevirtual 87, 3) := by decide +kernel
theorem dX11_slopes_163 : decode cX11_slopes 163 = .ok (.aload_n 0, 1) := by decide +kernel
theorem dX11_slopes_164 : decode cX11_slopes 164 = .ok (.iload_n 1, 1) := by decide +kernel
theorem dX11_slopes_165 : decode cX11_slopes 165 = .ok (.iload 5, 2) := by decide +kernel
theorem dX11_slopes_167 : decode cX11_slopes 167 = .ok (.iload 4, 2) := by decide +kernel
theorem dX11_slopes_169 : decode cX11_slopes 169 = .ok (.iconst 1, 1) := by decide +kernel
theorem dX11_slopes_170 : decode cX11_slopes 170 = .ok (.isub, 1) := by decide +kernel
theorem dX11_slopes_171 : decode cX11_slopes 171 = .ok (.invokevirtual 87, 3) := by decide +kernel
theorem dX11_slopes_174 : decode cX11_slopes 174 = .ok (.isub, 1) := by decide +kernel
theorem dX11_slopes_175 : decode cX11_slopes 175 = .ok (.istore 7, 2) := by decide +kernel
theorem dX11_slopes_177 : decode cX11_slopes 177 = .ok (.iload 6, 2) := by decide +kernel
theorem dX11_slopes_179 : decode cX11_slopes 179 = .ok (.invokestatic 91, 3) := by decide +kernel
theorem dX11_slopes_182 : decode cX11_slopes 182 = .ok (.iload 7, 2) := by decide +kernel
theorem dX11_slopes_184 : decode cX11_slopes 184 = .ok (.invokestatic 91, 3) := by decide +kernel
theorem dX11_slopes_187 : decode cX11_slopes 187 = .ok (.iadd, 1) := by decide +kernel
theorem dX11_slopes_188 : decode cX11_slopes 188 = .ok (.aload_n 0, 1) := by decide +kernel
theorem dX11_slopes_189 : decode cX11_slopes 189 = .ok (.getfield 81, 3) := by decide +kernel
theorem dX11_slopes_192 : decode cX11_slopes 192 = .ok (.invokestatic 91, 3) := by decide +kernel
theorem dX11_slopes_195 : decode cX11_slopes 195 = .ok (.aload_n 0, 1) := by decide +kernel
theorem dX11_slopes_196 : decode cX11_slopes 196 = .ok (.getfield 84, 3) := by decide +kernel
theorem dX11_slopes_199 : decode cX11_slopes 199 = .ok (.invokestatic 91, 3) := by decide +kernel
theorem dX11_slopes_202 : decode cX11_slopes 202 = .ok (.iadd, 1) := by decide +kernel
theorem dX11_slopes_203 : decode cX11_slopes 203 = .ok (.if_icmp .gt 6, 3) := by decide +kernel
theorem dX11_slopes_206 : decode cX11_slopes 206 = .ok (.goto 15, 3) := by decide +kernel
theorem dX11_slopes_209 : decode cX11_slopes 209 = .ok (.aload_n 0, 1) := by decide +kernel
theorem dX11_slopes_210 : decode cX11_slopes 210 = .ok (.iload 6, 2) := by decide +kernel
theorem dX11_slopes_212 : decode cX11_slopes 212 = .ok (.putfield 81, 3) := by decide +kernel
theorem dX11_slopes_215 : decode cX11_slopes 215 = .ok (.aload_n 0, 1) := by decide +kernel
theorem dX11_slopes_216 : decode cX11_slopes 216 = .ok (.iload 7, 2) := by decide +kernel
theorem dX11_slopes_218 : decode cX11_slopes 218 = .ok (.putfield 84, 3) := by decide +kernel
theorem dX11_slopes_221 : decode cX11_slopes 221 = .ok (.iinc 5 1, 3) := by decide +kernel
theorem dX11_slopes_224 : decode cX11_slopes 224 = .ok (.goto (-181), 3) := by decide +kernel
theorem dX11_slopes_227 : decode cX11_slopes 227 = .ok (.iinc 4 1, 3) := by decide +kernel
theorem dX11_slopes_230 : decode cX11_slopes 230 = .ok (.goto (-210), 3) := by decide +kernel
theorem dX11_slopes_233 : decode cX11_slopes 233 = .ok (.return_, 1) := by decide +kernel
set_option maxHeartbeats 4000000 in
set_option maxRecDepth 100000 in
theorem tX11_slopes {l : Launch} {g : yG} {n : Nat} {σ : yM} (z : Nat) (w h : Int) (T S F P O : Int → Int → Int) (s re fo ra tu we sh : Int) (hn : 172 ≤ n) (hz : z < 3) (hA : rM σ z w h T S F P O) (hS : rS σ 166 s re fo ra tu we sh) (x y : Int) (hi : sIn w h x y = true) : yMet l g yX11_slopes cX11_slopes 8 none (rmL 4) [yR g 155, yI (z : Int), yI x, yI y] (SC g) n σ (SC g) (yPv (fun n' σ' => n' = n ∧ fR 11 12 σ σ' ∧ σ' 155 11 = (sSl w h T s x y).1 ∧ σ' 155 12 = (sSl w h T s x y).2)) := by
  obtain ⟨hw1, hw2, hw3, hw4⟩ := id hA.1.1
  obtain ⟨hs1, hs2, hs3, hs4, hs5, hs6, hs7⟩ := id hS.2
  have zi := sIn_iff.mp hi
  refine y_start (by decide) (Nat.le_of_ble_eq_true rfl) (fun X0 hF => ?_)
  show yV X0 g 8 (yQ X0 g (SC g) (yPv (fun n' σ' => n' = n ∧ fR 11 12 σ σ' ∧ σ' 155 11 = (sSl w h T s x y).1 ∧ σ' 155 12 = (sSl w h T s x y).2)) (rmL 4)) (SC g) n σ 0 0 0 [(0, yR g 155), (1, yI (z : Int)), (2, yI x), (3, yI y)] []
  refine y_aload_n (pc := 0) hF dX11_slopes_0 0 rfl ?_
  refine y_iconst (pc := 1) hF dX11_slopes_1 ?_
  refine y_putf (pc := 2) (ci := 11) (σ' := yset σ 155 11 0) (sch' := (SC g)) hF dX11_slopes_2 (by omega) rfl rfl rfl iX11 11 (by decide) w_1258 tyX11 tyX11_ok nmX11 rfl rfl rfl rfl (Nat.le_of_ble_eq_true rfl) rfl (y_ps rfl) (fun k' h => ⟨yset_n h, rfl⟩) ?_
  refine y_aload_n (pc := 5) hF dX11_slopes_5 0 rfl ?_
  refine y_iconst (pc := 6) hF dX11_slopes_6 ?_
  refine y_putf (pc := 7) (ci := 11) (σ' := yset (yset σ 155 11 0) 155 12 0) (sch' := (SC g)) hF dX11_slopes_7 (by omega) rfl rfl rfl iX11 12 (by decide) w_1259 tyX11 tyX11_ok nmX11 rfl rfl rfl rfl (Nat.le_of_ble_eq_true rfl) rfl (y_ps rfl) (fun k' h => ⟨yset_n h, rfl⟩) ?_
  obtain ⟨τ0, hτ0⟩ : ∃ t, t = yset (yset σ 155 11 0) 155 12 0 := ⟨_, rfl⟩
  rw [← hτ0]
  have zf0 : fR 11 12 σ τ0 := by rw [hτ0]; exact ((fR.rf σ).st (by omega)).st (by omega)
  have zA_τ0 := hA.fR hz zf0
  have zS_τ0 := hS.fR (by omega) zf0
  skip
  refine y_iload_n (pc := 10) hF dX11_slopes_10 3 rfl ?_
  refine y_aload_n (pc := 11) hF dX11_slopes_11 0 rfl ?_
  refine y_get (pc := 12) (ci := 11) hF dX11_slopes_12 (by omega) rfl rfl rfl iX11 10 (by decide) w_1257 rfl ?_
  refine y_iconst (pc := 15) hF dX11_slopes_15 ?_
  refine y_iaload (pc := 16) hF dX11_slopes_16 (by omega) rfl (by omega) (by decide) ?_
  rw [show τ0 166 0 = s from zS_τ0.1.1]
  refine y_isub (pc := 17) hF dX11_slopes_17 ?_
  refine y_istore (pc := 18) (lv' := [(0, yR g 155), (1, yI (z : Int)), (2, yI x), (3, yI y), (4, yI (y - s))]) hF dX11_slopes_18 (by decide) rfl rfl ?_
  have zL20 : ∀ (N : Nat) (τ : yM) (j : Int), N = (y + s + 1 - j).toNat → (fR 11 12 σ τ ∧ (y - s ≤ j ∧ j ≤ y + s + 1) ∧ ((-256 ≤ τ 155 11 ∧ τ 155 11 ≤ 256) ∧ (-256 ≤ τ 155 12 ∧ τ 155 12 ≤ 256)) ∧ (τ 155 11, τ 155 12) = fr (fun g j => fr (fun g i => slF w h T g i j) (x - s) (2 * s + 1).toNat g) (y - s) (j - (y - s)).toNat (0, 0)) → yV X0 g 8 (yQ X0 g (SC g) (yPv (fun n' σ' => n' = n ∧ fR 11 12 σ σ' ∧ σ' 155 11 = (sSl w h T s x y).1 ∧ σ' 155 12 = (sSl w h T s x y).2)) (rmL 4)) (SC g) n τ 0 0 20 [(0, yR g 155), (1, yI (z : Int)), (2, yI x), (3, yI y), (4, yI j)] [] := by
    intro N
    induction N using Nat.strongRecOn with
    | ind N zh20 =>
      intro τ  j  zN20 zI20
      have zA_τ := hA.fR hz zI20.1
      have zS_τ := hS.fR (by omega) zI20.1
      refine y_iload (pc := 20) hF dX11_slopes_20 4 rfl ?_
      refine y_iload_n (pc := 22) hF dX11_slopes_22 3 rfl ?_
      refine y_aload_n (pc := 23) hF dX11_slopes_23 0 rfl ?_
      refine y_get (pc := 24) (ci := 11) hF dX11_slopes_24 (by omega) rfl rfl rfl iX11 10 (by decide) w_1257 rfl ?_
      refine y_iconst (pc := 27) hF dX11_slopes_27 ?_
      refine y_iaload (pc := 28) hF dX11_slopes_28 (by omega) rfl (by omega) (by decide) ?_
      rw [show τ 166 0 = s from zS_τ.1.1]
      refine y_iadd (pc := 29) hF dX11_slopes_29 ?_
      refine y_icmp_gt (pc := 30) hF dX11_slopes_30 233 rfl (by omega) (by omega) (fun zc30 => ?_) (fun zc30 => ?_)
      · skip
        exact y_vret (pc := 233) hF dX11_slopes_233 (Nat.zero_le _) (Nat.zero_le _) ⟨rfl, rfl, zI20.1, by have := congrArg Prod.fst zI20.2.2.2; rw [show j - (y - s) = 2 * s + 1 by omega] at this; exact this, by have := congrArg Prod.snd zI20.2.2.2; rw [show j - (y - s) = 2 * s + 1 by omega] at this; exact this⟩
      · skip
        refine y_iload_n (pc := 33) hF dX11_slopes_33 2 rfl ?_
        refine y_aload_n (pc := 34) hF dX11_slopes_34 0 rfl ?_
        refine y_get (pc := 35) (ci := 11) hF dX11_slopes_35 (by omega) rfl rfl rfl iX11 10 (by decide) w_1257 rfl ?_
        refine y_iconst (pc := 38) hF dX11_slopes_38 ?_
        refine y_iaload (pc := 39) hF dX11_slopes_39 (by omega) rfl (by omega) (by decide) ?_
        rw [show τ 166 0 = s from zS_τ.1.1]
        refine y_isub (pc := 40) hF dX11_slopes_40 ?_
        refine y_istore (pc := 41) (lv' := [(0, yR g 155), (1, yI (z : Int)), (2, yI x), (3, yI y), (4, yI j), (5, yI (x - s))]) hF dX11_slopes_41 (by decide) rfl rfl ?_
        have zL43 : ∀ (N : Nat) (υ : yM) (i : Int), N = (x + s + 1 - i).toNat → (fR 11 12 σ υ ∧ (x - s ≤ i ∧ i ≤ x + s + 1) ∧ ((-256 ≤ υ 155 11 ∧ υ 155 11 ≤ 256) ∧ (-256 ≤ υ 155 12 ∧ υ 155 12 ≤ 256)) ∧ (υ 155 11, υ 155 12) = fr (fun g i => slF w h T g i j) (x - s) (i - (x - s)).toNat (τ 155 11, τ 155 12)) → yV X0 g 8 (yQ X0 g (SC g) (yPv (fun n' σ' => n' = n ∧ fR 11 12 σ σ' ∧ σ' 155 11 = (sSl w h T s x y).1 ∧ σ' 155 12 = (sSl w h T s x y).2)) (rmL 4)) (SC g) n υ 0 0 43 [(0, yR g 155), (1, yI (z : Int)), (2, yI x), (3, yI y), (4, yI j), (5, yI i)] [] := by
          intro N
          induction N using Nat.strongRecOn with
          | ind N zh43 =>
            intro υ  i  zN43 zI43
            have zA_υ := hA.fR hz zI43.1
            have zS_υ := hS.fR (by omega) zI43.1
            refine y_iload (pc := 43) hF dX11_slopes_43 5 rfl ?_
            refine y_iload_n (pc := 45) hF dX11_slopes_45 2 rfl ?_
            refine y_aload_n (pc := 46) hF dX11_slopes_46 0 rfl ?_
            refine y_get (pc := 47) (ci := 11) hF dX11_slopes_47 (by omega) rfl rfl rfl iX11 10 (by decide) w_1257 rfl ?_
            refine y_iconst (pc := 50) hF dX11_slopes_50 ?_
            refine y_iaload (pc := 51) hF dX11_slopes_51 (by omega) rfl (by omega) (by decide) ?_
            rw [show υ 166 0 = s from zS_υ.1.1]
            refine y_iadd (pc := 52) hF dX11_slopes_52 ?_
            refine y_icmp_gt (pc := 53) hF dX11_slopes_53 227 rfl (by omega) (by omega) (fun zc53 => ?_) (fun zc53 => ?_)
            · skip
              refine y_iinc (pc := 227) (lv' := [(0, yR g 155), (1, yI (z : Int)), (2, yI x), (3, yI y), (4, yI (j + 1)), (5, yI i)]) hF dX11_slopes_227 4 rfl (by decide) rfl rfl ?_
              refine y_goto (pc := 230) hF dX11_slopes_230 20 rfl ?_
              refine y_sub [0, 1, 2, 3, 4] rfl ?_
              exact zh20 _ (by omega) υ (j + 1) rfl ⟨zI43.1, by omega, zI43.2.2.1, by rw [fr_up' _ _ zI20.2.1.1, ← zI20.2.2.2, zI43.2.2.2, show i - (x - s) = 2 * s + 1 by omega]⟩
            · skip
              refine y_aload_n (pc := 56) hF dX11_slopes_56 0 rfl ?_
              refine y_iload_n (pc := 57) hF dX11_slopes_57 1 rfl ?_
              refine y_iload (pc := 58) hF dX11_slopes_58 5 rfl ?_
              refine y_iload (pc := 60) hF dX11_slopes_60 4 rfl ?_
              refine y_cp (y_rV (pc := 62) hF (tX11_isKnown z w h T S F P O hn hz zA_υ i j (by omega) (by omega)) dX11_slopes_62 (by omega) rfl rfl rfl w_1440 qX11_isKnown rfl ⟨Nat.le_of_ble_eq_true rfl, Nat.le_of_ble_eq_true rfl⟩ ⟨Nat.zero_le _, Nat.zero_le _⟩ (Nat.le_of_ble_eq_true rfl) rfl) ?_
              refine y_if_eq (pc := 65) hF dX11_slopes_65 221 rfl bi_r (fun zc65 => ?_) (fun zc65 => ?_)
              · replace zc65 := bi_0.mp zc65
                refine y_iinc (pc := 221) (lv' := [(0, yR g 155), (1, yI (z : Int)), (2, yI x), (3, yI y), (4, yI j), (5, yI (i + 1))]) hF dX11_slopes_221 5 rfl (by decide) rfl rfl ?_
                refine y_goto (pc := 224) hF dX11_slopes_224 43 rfl ?_
                exact zh43 _ (by omega) υ (i + 1) rfl ⟨zI43.1, by omega, zI43.2.2.1, by rw [fr_up' _ _ zI43.2.1.1, ← zI43.2.2.2]; simp [slF, slK, zc65]⟩
              · replace zc65 := bi_n0.mp zc65
                refine y_aload_n (pc := 68) hF dX11_slopes_68 0 rfl ?_
                refine y_iload_n (pc := 69) hF dX11_slopes_69 1 rfl ?_
                refine y_iload (pc := 70) hF dX11_slopes_70 5 rfl ?_
                refine y_iconst (pc := 72) hF dX11_slopes_72 ?_
                refine y_isub (pc := 73) hF dX11_slopes_73 ?_
                refine y_iload (pc := 74) hF dX11_slopes_74 4 rfl ?_
                refine y_cp (y_rV (pc := 76) hF (tX11_isKnown z w h T S F P O hn hz zA_υ (i - 1) j (by omega) (by omega)) dX11_slopes_76 (by omega) rfl rfl rfl w_1440 qX11_isKnown rfl ⟨Nat.le_of_ble_eq_true rfl, Nat.le_of_ble_eq_true rfl⟩ ⟨Nat.zero_le _, Nat.zero_le _⟩ (Nat.le_of_ble_eq_true rfl) rfl) ?_
                refine y_if_eq (pc := 79) hF dX11_slopes_79 221 rfl bi_r (fun zc79 => ?_) (fun zc79 => ?_)
                · replace zc79 := bi_0.mp zc79
                  refine y_iinc (pc := 221) (lv' := [(0, yR g 155), (1, yI (z : Int)), (2, yI x), (3, yI y), (4, yI j), (5, yI (i + 1))]) hF dX11_slopes_221 5 rfl (by decide) rfl rfl ?_
                  refine y_goto (pc := 224) hF dX11_slopes_224 43 rfl ?_
                  exact zh43 _ (by omega) υ (i + 1) rfl ⟨zI43.1, by omega, zI43.2.2.1, by rw [fr_up' _ _ zI43.2.1.1, ← zI43.2.2.2]; simp [slF, slK, zc65, zc79]⟩
                · replace zc79 := bi_n0.mp zc79
                  refine y_aload_n (pc := 82) hF dX11_slopes_82 0 rfl ?_
                  refine y_iload_n (pc := 83) hF dX11_slopes_83 1 rfl ?_
                  refine y_iload (pc := 84) hF dX11_slopes_84 5 rfl ?_
                  refine y_iconst (pc := 86) hF dX11_slopes_86 ?_
                  refine y_iadd (pc := 87) hF dX11_slopes_87 ?_
                  refine y_iload (pc := 88) hF dX11_slopes_88 4 rfl ?_
                  refine y_cp (y_rV (pc := 90) hF (tX11_isKnown z w h T S F P O hn hz zA_υ (i + 1) j (by omega) (by omega)) dX11_slopes_90 (by omega) rfl rfl rfl w_1440 qX11_isKnown rfl ⟨Nat.le_of_ble_eq_true rfl, Nat.le_of_ble_eq_true rfl⟩ ⟨Nat.zero_le _, Nat.zero_le _⟩ (Nat.le_of_ble_eq_true rfl) rfl) ?_
                  refine y_if_eq (pc := 93) hF dX11_slopes_93 221 rfl bi_r (fun zc93 => ?_) (fun zc93 => ?_)
                  · replace zc93 := bi_0.mp zc93
                    refine y_iinc (pc := 221) (lv' := [(0, yR g 155), (1, yI (z : Int)), (2, yI x), (3, yI y), (4, yI j), (5, yI (i + 1))]) hF dX11_slopes_221 5 rfl (by decide) rfl rfl ?_
                    refine y_goto (pc := 224) hF dX11_slopes_224 43 rfl ?_
                    exact zh43 _ (by omega) υ (i + 1) rfl ⟨zI43.1, by omega, zI43.2.2.1, by rw [fr_up' _ _ zI43.2.1.1, ← zI43.2.2.2]; simp [slF, slK, zc65, zc79, zc93]⟩
                  · replace zc93 := bi_n0.mp zc93
                    refine y_aload_n (pc := 96) hF dX11_slopes_96 0 rfl ?_
                    refine y_iload_n (pc := 97) hF dX11_slopes_97 1 rfl ?_
                    refine y_iload (pc := 98) hF dX11_slopes_98 5 rfl ?_
                    refine y_iload (pc := 100) hF dX11_slopes_100 4 rfl ?_
                    refine y_iconst (pc := 102) hF dX11_slopes_102 ?_
                    refine y_isub (pc := 103) hF dX11_slopes_103 ?_
                    refine y_cp (y_rV (pc := 104) hF (tX11_isKnown z w h T S F P O hn hz zA_υ i (j - 1) (by omega) (by omega)) dX11_slopes_104 (by omega) rfl rfl rfl w_1440 qX11_isKnown rfl ⟨Nat.le_of_ble_eq_true rfl, Nat.le_of_ble_eq_true rfl⟩ ⟨Nat.zero_le _, Nat.zero_le _⟩ (Nat.le_of_ble_eq_true rfl) rfl) ?_
                    refine y_if_eq (pc := 107) hF dX11_slopes_107 221 rfl bi_r (fun zc107 => ?_) (fun zc107 => ?_)
                    · replace zc107 := bi_0.mp zc107
                      refine y_iinc (pc := 221) (lv' := [(0, yR g 155), (1, yI (z : Int)), (2, yI x), (3, yI y), (4, yI j), (5, yI (i + 1))]) hF dX11_slopes_221 5 rfl (by decide) rfl rfl ?_
                      refine y_goto (pc := 224) hF dX11_slopes_224 43 rfl ?_
                      exact zh43 _ (by omega) υ (i + 1) rfl ⟨zI43.1, by omega, zI43.2.2.1, by rw [fr_up' _ _ zI43.2.1.1, ← zI43.2.2.2]; simp [slF, slK, zc65, zc79, zc93, zc107]⟩
                    · replace zc107 := bi_n0.mp zc107
                      refine y_aload_n (pc := 110) hF dX11_slopes_110 0 rfl ?_
                      refine y_iload_n (pc := 111) hF dX11_slopes_111 1 rfl ?_
                      refine y_iload (pc := 112) hF dX11_slopes_112 5 rfl ?_
                      refine y_iload (pc := 114) hF dX11_slopes_114 4 rfl ?_
                      refine y_iconst (pc := 116) hF dX11_slopes_116 ?_
                      refine y_iadd (pc := 117) hF dX11_slopes_117 ?_
                      refine y_cp (y_rV (pc := 118) hF (tX11_isKnown z w h T S F P O hn hz zA_υ i (j + 1) (by omega) (by omega)) dX11_slopes_118 (by omega) rfl rfl rfl w_1440 qX11_isKnown rfl ⟨Nat.le_of_ble_eq_true rfl, Nat.le_of_ble_eq_true rfl⟩ ⟨Nat.zero_le _, Nat.zero_le _⟩ (Nat.le_of_ble_eq_true rfl) rfl) ?_
                      refine y_if_ne (pc := 121) hF dX11_slopes_121 127 rfl bi_r (fun zc121 => ?_) (fun zc121 => ?_)
                      · replace zc121 := bi_n0.mp zc121
                        have zk1 := zc65
                        have zk2 := zc79
                        have zk3 := zc93
                        have zk4 := zc107
                        have zk5 := zc121
                        simp only [sKn, Bool.and_eq_true] at zk1 zk2 zk3 zk4 zk5
                        have zu2 := hA.1.T _ _ zk2.1
                        have zu3 := hA.1.T _ _ zk3.1
                        have zu4 := hA.1.T _ _ zk4.1
                        have zu5 := hA.1.T _ _ zk5.1
                        refine y_aload_n (pc := 127) hF dX11_slopes_127 0 rfl ?_
                        refine y_iload_n (pc := 128) hF dX11_slopes_128 1 rfl ?_
                        refine y_iload (pc := 129) hF dX11_slopes_129 5 rfl ?_
                        refine y_iconst (pc := 131) hF dX11_slopes_131 ?_
                        refine y_iadd (pc := 132) hF dX11_slopes_132 ?_
                        refine y_iload (pc := 133) hF dX11_slopes_133 4 rfl ?_
                        refine y_cp (y_rV (pc := 135) hF (tX11_toneOf z w h T S F P O hn hz zA_υ (i + 1) j zk3.1) dX11_slopes_135 (by omega) rfl rfl rfl w_1472 qX11_toneOf rfl ⟨Nat.le_of_ble_eq_true rfl, Nat.le_of_ble_eq_true rfl⟩ ⟨Nat.zero_le _, Nat.zero_le _⟩ (Nat.le_of_ble_eq_true rfl) rfl) ?_
                        refine y_aload_n (pc := 138) hF dX11_slopes_138 0 rfl ?_
                        refine y_iload_n (pc := 139) hF dX11_slopes_139 1 rfl ?_
                        refine y_iload (pc := 140) hF dX11_slopes_140 5 rfl ?_
                        refine y_iconst (pc := 142) hF dX11_slopes_142 ?_
                        refine y_isub (pc := 143) hF dX11_slopes_143 ?_
                        refine y_iload (pc := 144) hF dX11_slopes_144 4 rfl ?_
                        refine y_cp (y_rV (pc := 146) hF (tX11_toneOf z w h T S F P O hn hz zA_υ (i - 1) j zk2.1) dX11_slopes_146 (by omega) rfl rfl rfl w_1472 qX11_toneOf rfl ⟨Nat.le_of_ble_eq_true rfl, Nat.le_of_ble_eq_true rfl⟩ ⟨Nat.zero_le _, Nat.zero_le _⟩ (Nat.le_of_ble_eq_true rfl) rfl) ?_
                        refine y_isub (pc := 149) hF dX11_slopes_149 ?_
                        refine y_istore (pc := 150) (lv' := [(0, yR g 155), (1, yI (z : Int)), (2, yI x), (3, yI y), (4, yI j), (5, yI i), (6, yI ((T (i + 1) j) - (T (i - 1) j)))]) hF dX11_slopes_150 (by decide) rfl rfl ?_
                        refine y_aload_n (pc := 152) hF dX11_slopes_152 0 rfl ?_
                        refine y_iload_n (pc := 153) hF dX11_slopes_153 1 rfl ?_
                        refine y_iload (pc := 154) hF dX11_slopes_154 5 rfl ?_
                        refine y_iload (pc := 156) hF dX11_slopes_156 4 rfl ?_
                        refine y_iconst (pc := 158) hF dX11_slopes_158 ?_
                        refine y_iadd (pc := 159) hF dX11_slopes_159 ?_
                        refine y_cp (y_rV (pc := 160) hF (tX11_toneOf z w h T S F P O hn hz zA_υ i (j + 1) zk5.1) dX11_slopes_160 (by omega) rfl rfl rfl w_1472 qX11_toneOf rfl ⟨Nat.le_of_ble_eq_true rfl, Nat.le_of_ble_eq_true rfl⟩ ⟨Nat.zero_le _, Nat.zero_le _⟩ (Nat.le_of_ble_eq_true rfl) rfl) ?_
                        refine y_aload_n (pc := 163) hF dX11_slopes_163 0 rfl ?_
                        refine y_iload_n (pc := 164) hF dX11_slopes_164 1 rfl ?_
                        refine y_iload (pc := 165) hF dX11_slopes_165 5 rfl ?_
                        refine y_iload (pc := 167) hF dX11_slopes_167 4 rfl ?_
                        refine y_iconst (pc := 169) hF dX11_slopes_169 ?_
                        refine y_isub (pc := 170) hF dX11_slopes_170 ?_
                        refine y_cp (y_rV (pc := 171) hF (tX11_toneOf z w h T S F P O hn hz zA_υ i (j - 1) zk4.1) dX11_slopes_171 (by omega) rfl rfl rfl w_1472 qX11_toneOf rfl ⟨Nat.le_of_ble_eq_true rfl, Nat.le_of_ble_eq_true rfl⟩ ⟨Nat.zero_le _, Nat.zero_le _⟩ (Nat.le_of_ble_eq_true rfl) rfl) ?_
                        refine y_isub (pc := 174) hF dX11_slopes_174 ?_
                        refine y_istore (pc := 175) (lv' := [(0, yR g 155), (1, yI (z : Int)), (2, yI x), (3, yI y), (4, yI j), (5, yI i), (6, yI ((T (i + 1) j) - (T (i - 1) j))), (7, yI ((T i (j + 1)) - (T i (j - 1))))]) hF dX11_slopes_175 (by decide) rfl rfl ?_
                        refine y_iload (pc := 177) hF dX11_slopes_177 6 rfl ?_
                        refine y_mabs (pc := 179) hF dX11_slopes_179 w_1524 w_883 w_103 w_884 (Nat.le_of_ble_eq_true rfl) (Nat.le_of_ble_eq_true rfl) ⟨Nat.zero_le _, Nat.zero_le _⟩ (by omega) ?_
                        refine y_iload (pc := 182) hF dX11_slopes_182 7 rfl ?_
                        refine y_mabs (pc := 184) hF dX11_slopes_184 w_1524 w_883 w_103 w_884 (Nat.le_of_ble_eq_true rfl) (Nat.le_of_ble_eq_true rfl) ⟨Nat.zero_le _, Nat.zero_le _⟩ (by omega) ?_
                        refine y_iadd (pc := 187) hF dX11_slopes_187 ?_
                        refine y_aload_n (pc := 188) hF dX11_slopes_188 0 rfl ?_
                        refine y_get (pc := 189) (ci := 11) hF dX11_slopes_189 (by omega) rfl rfl rfl iX11 11 (by decide) w_1258 rfl ?_
                        refine y_mabs (pc := 192) hF dX11_slopes_192 w_1524 w_883 w_103 w_884 (Nat.le_of_ble_eq_true rfl) (Nat.le_of_ble_eq_true rfl) ⟨Nat.zero_le _, Nat.zero_le _⟩ (by omega) ?_
                        refine y_aload_n (pc := 195) hF dX11_slopes_195 0 rfl ?_
                        refine y_get (pc := 196) (ci := 11) hF dX11_slopes_196 (by omega) rfl rfl rfl iX11 12 (by decide) w_1259 rfl ?_
                        refine y_mabs (pc := 199) hF dX11_slopes_199 w_1524 w_883 w_103 w_884 (Nat.le_of_ble_eq_true rfl) (Nat.le_of_ble_eq_true rfl) ⟨Nat.zero_le _, Nat.zero_le _⟩ (by omega) ?_
                        refine y_iadd (pc := 202) hF dX11_slopes_202 ?_
                        refine y_icmp_gt (pc := 203) hF dX11_slopes_203 209 rfl (by omega) (by omega) (fun zc203 => ?_) (fun zc203 => ?_)
                        · skip
                          refine y_aload_n (pc := 209) hF dX11_slopes_209 0 rfl ?_
                          refine y_iload (pc := 210) hF dX11_slopes_210 6 rfl ?_
                          refine y_putf (pc := 212) (ci := 11) (σ' := yset υ 155 11 ((T (i + 1) j) - (T (i - 1) j))) (sch' := (SC g)) hF dX11_slopes_212 (by omega) rfl rfl rfl iX11 11 (by decide) w_1258 tyX11 tyX11_ok nmX11 rfl rfl rfl rfl (Nat.le_of_ble_eq_true rfl) rfl (y_ps rfl) (fun k' h => ⟨yset_n h, rfl⟩) ?_
                          refine y_aload_n (pc := 215) hF dX11_slopes_215 0 rfl ?_
                          refine y_iload (pc := 216) hF dX11_slopes_216 7 rfl ?_
                          refine y_putf (pc := 218) (ci := 11) (σ' := yset (yset υ 155 11 ((T (i + 1) j) - (T (i - 1) j))) 155 12 ((T i (j + 1)) - (T i (j - 1)))) (sch' := (SC g)) hF dX11_slopes_218 (by omega) rfl rfl rfl iX11 12 (by decide) w_1259 tyX11 tyX11_ok nmX11 rfl rfl rfl rfl (Nat.le_of_ble_eq_true rfl) rfl (y_ps rfl) (fun k' h => ⟨yset_n h, rfl⟩) ?_
                          refine y_iinc (pc := 221) (lv' := [(0, yR g 155), (1, yI (z : Int)), (2, yI x), (3, yI y), (4, yI j), (5, yI (i + 1)), (6, yI ((T (i + 1) j) - (T (i - 1) j))), (7, yI ((T i (j + 1)) - (T i (j - 1))))]) hF dX11_slopes_221 5 rfl (by decide) rfl rfl ?_
                          refine y_goto (pc := 224) hF dX11_slopes_224 43 rfl ?_
                          refine y_sub [0, 1, 2, 3, 4, 5] rfl ?_
                          exact zh43 _ (by omega) (yset (yset υ 155 11 ((T (i + 1) j) - (T (i - 1) j))) 155 12 ((T i (j + 1)) - (T i (j - 1)))) (i + 1) rfl ⟨(zI43.1.st (by omega)).st (by omega), by omega, by simp only [yset_ap]; simp; omega, by rw [fr_up' _ _ zI43.2.1.1, ← zI43.2.2.2]; simp only [yset_ap]; simp [slF, slK, zc65, zc79, zc93, zc107, zc121, Int.not_le.mpr zc203]⟩
                        · skip
                          refine y_goto (pc := 206) hF dX11_slopes_206 221 rfl ?_
                          refine y_iinc (pc := 221) (lv' := [(0, yR g 155), (1, yI (z : Int)), (2, yI x), (3, yI y), (4, yI j), (5, yI (i + 1)), (6, yI ((T (i + 1) j) - (T (i - 1) j))), (7, yI ((T i (j + 1)) - (T i (j - 1))))]) hF dX11_slopes_221 5 rfl (by decide) rfl rfl ?_
                          refine y_goto (pc := 224) hF dX11_slopes_224 43 rfl ?_
                          refine y_sub [0, 1, 2, 3, 4, 5] rfl ?_
                          exact zh43 _ (by omega) υ (i + 1) rfl ⟨zI43.1, by omega, zI43.2.2.1, by rw [fr_up' _ _ zI43.2.1.1, ← zI43.2.2.2]; simp [slF, slK, zc65, zc79, zc93, zc107, zc121, zc203]⟩
                      · replace zc121 := bi_0.mp zc121
                        refine y_goto (pc := 124) hF dX11_slopes_124 221 rfl ?_
                        refine y_iinc (pc := 221) (lv' := [(0, yR g 155), (1, yI (z : Int)), (2, yI x), (3, yI y), (4, yI j), (5, yI (i + 1))]) hF dX11_slopes_221 5 rfl (by decide) rfl rfl ?_
                        refine y_goto (pc := 224) hF dX11_slopes_224 43 rfl ?_
                        exact zh43 _ (by omega) υ (i + 1) rfl ⟨zI43.1, by omega, zI43.2.2.1, by rw [fr_up' _ _ zI43.2.1.1, ← zI43.2.2.2]; simp [slF, slK, zc65, zc79, zc93, zc107, zc121]⟩
        exact zL43 _ τ (x - s) rfl ⟨zI20.1, by omega, zI20.2.2.1, (fr_no _ _ _).symm⟩
  exact zL20 _ τ0 (y - s) rfl ⟨zf0, by omega, by rw [hτ0]; simp [yset_ap], by rw [hτ0, fr_no]; simp [yset_ap]⟩

theorem dX11_flow_0 : decode cX11_flow 0 = .ok (.aload_n 0, 1) := by decide +kernel
theorem dX11_flow_1 : decode cX11_flow 1 = .ok (.iload_n 1, 1) := by decide +kernel
theorem dX11_flow_2 : decode cX11_flow 2 = .ok (.iload_n 2, 1) := by decide +kernel
theorem dX11_flow_3 : decode cX11_flow 3 = .ok (.iload_n 3, 1) := by decide +kernel
theorem dX11_flow_4 : decode cX11_flow 4 = .ok (.invokevirtual 97, 3) := by decide +kernel
theorem dX11_flow_7 : decode cX11_flow 7 = .ok (.aload_n 0, 1) := by decide +kernel
theorem dX11_flow_8 : decode cX11_flow 8 = .ok (.getfield 81, 3) := by decide +kernel
theorem dX11_flow_11 : decode cX11_flow 11 = .ok (.aload_n 0, 1) := by decide +kernel
theorem dX11_flow_12 : decode cX11_flow 12 = .ok (.iload_n 1, 1) := by decide +kernel
theorem dX11_flow_13 : decode cX11_flow 13 = .ok (.iload_n 2, 1) := by decide +kernel
theorem dX11_flow_14 : decode cX11_flow 14 = .ok (.iload_n 3, 1) := by decide +kernel
theorem dX11_flow_15 : decode cX11_flow 15 = .ok (.invokevirtual 100, 3) := by decide +kernel
theorem dX11_flow_18 : decode cX11_flow 18 = .ok (.imul, 1) := by decide +kernel
theorem dX11_flow_19 : decode cX11_flow 19 = .ok (.aload_n 0, 1) := by decide +kernel
theorem dX11_flow_20 : decode cX11_flow 20 = .ok (.getfield 84, 3) := by decide +kernel
theorem dX11_flow_23 : decode cX11_flow 23 = .ok (.aload_n 0, 1) := by decide +kernel
theorem dX11_flow_24 : decode cX11_flow 24 = .ok (.iload_n 1, 1) := by decide +kernel
theorem dX11_flow_25 : decode cX11_flow 25 = .ok (.iload_n 2, 1) := by decide +kernel
theorem dX11_flow_26 : decode cX11_flow 26 = .ok (.iload_n 3, 1) := by decide +kernel
theorem dX11_flow_27 : decode cX11_flow 27 = .ok (.invokevirtual 103, 3) := by decide +kernel
theorem dX11_flow_30 : decode cX11_flow 30 = .ok (.imul, 1) := by decide +kernel
theorem dX11_flow_31 : decode cX11_flow 31 = .ok (.isub, 1) := by decide +kernel
theorem dX11_flow_32 : decode cX11_flow 32 = .ok (.invokestatic 91, 3) := by decide +kernel
theorem dX11_flow_35 : decode cX11_flow 35 = .ok (.iconst 1, 1) := by decide +kernel
theorem dX11_flow_36 : decode cX11_flow 36 = .ok (.iadd, 1) := by decide +kernel
theorem dX11_flow_37 : decode cX11_flow 37 = .ok (.ireturn, 1) := by decide +kernel
set_option maxHeartbeats 4000000 in
set_option maxRecDepth 100000 in
theorem tX11_flow {l : Launch} {g : yG} {n : Nat} {σ : yM} (z : Nat) (w h : Int) (T S F P O : Int → Int → Int) (s re fo ra tu we sh : Int) (hn : 172 ≤ n) (hz : z < 3) (hA : rM σ z w h T S F P O) (hS : rS σ 166 s re fo ra tu we sh) (x y : Int) (hi : sIn w h x y = true) : yMet l g yX11_flow cX11_flow 4 (some .int) (rmL 5) [yR g 155, yI (z : Int), yI x, yI y] (SC g) n σ (SC g) (yPi (fun v n' σ' => n' = n ∧ v = sFl w h T s x y ∧ fR 11 12 σ σ')) := by
  obtain ⟨hw1, hw2, hw3, hw4⟩ := id hA.1.1
  have zi := sIn_iff.mp hi
  refine y_start (by decide) (Nat.le_of_ble_eq_true rfl) (fun X0 hF => ?_)
  show yV X0 g 4 (yQ X0 g (SC g) (yPi (fun v n' σ' => n' = n ∧ v = sFl w h T s x y ∧ fR 11 12 σ σ')) (rmL 5)) (SC g) n σ 0 0 0 [(0, yR g 155), (1, yI (z : Int)), (2, yI x), (3, yI y)] []
  refine y_aload_n (pc := 0) hF dX11_flow_0 0 rfl ?_
  refine y_iload_n (pc := 1) hF dX11_flow_1 1 rfl ?_
  refine y_iload_n (pc := 2) hF dX11_flow_2 2 rfl ?_
  refine y_iload_n (pc := 3) hF dX11_flow_3 3 rfl ?_
  refine y_cv (y_rV (pc := 4) hF (tX11_slopes z w h T S F P O s re fo ra tu we sh hn hz hA hS x y hi) dX11_flow_4 (by omega) rfl rfl rfl w_1520 qX11_slopes rfl ⟨Nat.le_of_ble_eq_true rfl, Nat.le_of_ble_eq_true rfl⟩ ⟨Nat.zero_le _, Nat.zero_le _⟩ (Nat.le_of_ble_eq_true rfl) rfl) rfl rfl (fun n' σ4 zp4 => ?_)
  obtain ⟨zn4, zp4⟩ := zp4
  have zn4 := zn4.symm
  subst zn4
  have zA_σ4 := hA.fR hz zp4.1
  have zS_σ4 := hS.fR (by omega) zp4.1
  refine y_aload_n (pc := 7) hF dX11_flow_7 0 rfl ?_
  refine y_get (pc := 8) (ci := 11) hF dX11_flow_8 (by omega) rfl rfl rfl iX11 11 (by decide) w_1258 rfl ?_
  rw [show σ4 155 11 = (sSl w h T s x y).1 from zp4.2.1]
  refine y_aload_n (pc := 11) hF dX11_flow_11 0 rfl ?_
  refine y_iload_n (pc := 12) hF dX11_flow_12 1 rfl ?_
  refine y_iload_n (pc := 13) hF dX11_flow_13 2 rfl ?_
  refine y_iload_n (pc := 14) hF dX11_flow_14 3 rfl ?_
  refine y_cp (y_rV (pc := 15) hF (tX11_outY z w h T S F P O hn hz zA_σ4 x y hi) dX11_flow_15 (by omega) rfl rfl rfl w_1525 qX11_outY rfl ⟨Nat.le_of_ble_eq_true rfl, Nat.le_of_ble_eq_true rfl⟩ ⟨Nat.zero_le _, Nat.zero_le _⟩ (Nat.le_of_ble_eq_true rfl) rfl) ?_
  refine y_imul (pc := 18) hF dX11_flow_18 ?_
  refine y_aload_n (pc := 19) hF dX11_flow_19 0 rfl ?_
  refine y_get (pc := 20) (ci := 11) hF dX11_flow_20 (by omega) rfl rfl rfl iX11 12 (by decide) w_1259 rfl ?_
  rw [show σ4 155 12 = (sSl w h T s x y).2 from zp4.2.2]
  refine y_aload_n (pc := 23) hF dX11_flow_23 0 rfl ?_
  refine y_iload_n (pc := 24) hF dX11_flow_24 1 rfl ?_
  refine y_iload_n (pc := 25) hF dX11_flow_25 2 rfl ?_
  refine y_iload_n (pc := 26) hF dX11_flow_26 3 rfl ?_
  refine y_cp (y_rV (pc := 27) hF (tX11_outX z w h T S F P O hn hz zA_σ4 x y hi) dX11_flow_27 (by omega) rfl rfl rfl w_1529 qX11_outX rfl ⟨Nat.le_of_ble_eq_true rfl, Nat.le_of_ble_eq_true rfl⟩ ⟨Nat.zero_le _, Nat.zero_le _⟩ (Nat.le_of_ble_eq_true rfl) rfl) ?_
  refine y_imul (pc := 30) hF dX11_flow_30 ?_
  refine y_isub (pc := 31) hF dX11_flow_31 ?_
  refine y_mabs (pc := 32) hF dX11_flow_32 w_1524 w_883 w_103 w_884 (Nat.le_of_ble_eq_true rfl) (Nat.le_of_ble_eq_true rfl) ⟨Nat.zero_le _, Nat.zero_le _⟩ (by have := sFl_in (sSl_bd (s := s) (x := x) (y := y) hA.1.T).1 (sSl_bd (s := s) (x := x) (y := y) hA.1.T).2 (sOx_bd w h T x y).2 (sOx_bd w h T x y).1; omega) ?_
  refine y_iconst (pc := 35) hF dX11_flow_35 ?_
  refine y_iadd (pc := 36) hF dX11_flow_36 ?_
  exact y_iret (pc := 37) hF dX11_flow_37 (Nat.zero_le _) (Nat.zero_le _) ⟨_, rfl, rfl, rfl, zp4.1⟩

theorem dX11_rankOf_0 : decode cX11_rankOf 0 = .ok (.aload_n 0, 1) := by decide +kernel
theorem dX11_rankOf_1 : decode cX11_rankOf 1 = .ok (.getfield 37, 3) := by decide +kernel
theorem dX11_rankOf_4 : decode cX11_rankOf 4 = .ok (.iconst 3, 1) := by decide +kernel
theorem dX11_rankOf_5 : decode cX11_rankOf 5 = .ok (.iaload, 1) := by decide +kernel
theorem dX11_rankOf_6 : decode cX11_rankOf 6 = .ok (.iconst 1, 1) := by decide +kernel
theorem dX11_rankOf_7 : decode cX11_rankOf 7 = .ok (.if_icmp .ne 11, 3) := by decide +kernel
theorem dX11_rankOf_10 : decode cX11_rankOf 10 = .ok (.aload_n 0, 1) := by decide +kernel
theorem dX11_rankOf_11 : decode cX11_rankOf 11 = .ok (.iload_n 1, 1) := by decide +kernel
theorem dX11_rankOf_12 : decode cX11_rankOf 12 = .ok (.iload_n 2, 1) := by decide +kernel
theorem dX11_rankOf_13 : decode cX11_rankOf 13 = .ok (.iload_n 3, 1) := by decide +kernel
theorem dX11_rankOf_14 : decode cX11_rankOf 14 = .ok (.invokevirtual 106, 3) := by decide +kernel
theorem dX11_rankOf_17 : decode cX11_rankOf 17 = .ok (.ireturn, 1) := by decide +kernel
theorem dX11_rankOf_18 : decode cX11_rankOf 18 = .ok (.aload_n 0, 1) := by decide +kernel
theorem dX11_rankOf_19 : decode cX11_rankOf 19 = .ok (.getfield 37, 3) := by decide +kernel
theorem dX11_rankOf_22 : decode cX11_rankOf 22 = .ok (.iconst 3, 1) := by decide +kernel
theorem dX11_rankOf_23 : decode cX11_rankOf 23 = .ok (.iaload, 1) := by decide +kernel
theorem dX11_rankOf_24 : decode cX11_rankOf 24 = .ok (.iconst 2, 1) := by decide +kernel
theorem dX11_rankOf_25 : decode cX11_rankOf 25 = .ok (.if_icmp .ne 13, 3) := by decide +kernel
theorem dX11_rankOf_28 : decode cX11_rankOf 28 = .ok (.aload_n 0, 1) := by decide +kernel
theorem dX11_rankOf_29 : decode cX11_rankOf 29 = .ok (.iload_n 1, 1) := by decide +kernel
theorem dX11_rankOf_30 : decode cX11_rankOf 30 = .ok (.iload_n 2, 1) := by decide +kernel
theorem dX11_rankOf_31 : decode cX11_rankOf 31 = .ok (.iload_n 3, 1) := by decide +kernel
theorem dX11_rankOf_32 : decode cX11_rankOf 32 = .ok (.invokevirtual 109, 3) := by decide +kernel
theorem dX11_rankOf_35 : decode cX11_rankOf 35 = .ok (.goto 18, 3) := by decide +kernel
theorem dX11_rankOf_38 : decode cX11_rankOf 38 = .ok (.aload_n 0, 1) := by decide +kernel
theorem dX11_rankOf_39 : decode cX11_rankOf 39 = .ok (.iload_n 1, 1) := by decide +kernel
theorem dX11_rankOf_40 : decode cX11_rankOf 40 = .ok (.iload_n 2, 1) := by decide +kernel
theorem dX11_rankOf_41 : decode cX11_rankOf 41 = .ok (.iload_n 3, 1) := by decide +kernel
theorem dX11_rankOf_42 : decode cX11_rankOf 42 = .ok (.invokevirtual 106, 3) := by decide +kernel
theorem dX11_rankOf_45 : decode cX11_rankOf 45 = .ok (.aload_n 0, 1) := by decide +kernel
theorem dX11_rankOf_46 : decode cX11_rankOf 46 = .ok (.iload_n 1, 1) := by decide +kernel
theorem dX11_rankOf_47 : decode cX11_rankOf 47 = .ok (.iload_n 2, 1) := by decide +kernel
theorem dX11_rankOf_48 : decode cX11_rankOf 48 = .ok (.iload_n 3, 1) := by decide +kernel
theorem dX11_rankOf_49 : decode cX11_rankOf 49 = .ok (.invokevirtual 109, 3) := by decide +kernel
theorem dX11_rankOf_52 : decode cX11_rankOf 52 = .ok (.imul, 1) := by decide +kernel
theorem dX11_rankOf_53 : decode cX11_rankOf 53 = .ok (.ireturn, 1) := by decide +kernel
set_option maxHeartbeats 4000000 in
set_option maxRecDepth 100000 in
theorem tX11_rankOf {l : Launch} {g : yG} {n : Nat} {σ : yM} (z : Nat) (w h : Int) (T S F P O : Int → Int → Int) (s re fo ra tu we sh : Int) (hn : 172 ≤ n) (hz : z < 3) (hA : rM σ z w h T S F P O) (hS : rS σ 166 s re fo ra tu we sh) (x y : Int) (hi : sIn w h x y = true) : yMet l g yX11_rankOf cX11_rankOf 4 (some .int) (rmL 6) [yR g 155, yI (z : Int), yI x, yI y] (SC g) n σ (SC g) (yPi (fun v n' σ' => n' = n ∧ v = sRk w h T S s ra x y ∧ fR 11 12 σ σ')) := by
  obtain ⟨hw1, hw2, hw3, hw4⟩ := id hA.1.1
  obtain ⟨hs1, hs2, hs3, hs4, hs5, hs6, hs7⟩ := id hS.2
  have zi := sIn_iff.mp hi
  refine y_start (by decide) (Nat.le_of_ble_eq_true rfl) (fun X0 hF => ?_)
  show yV X0 g 4 (yQ X0 g (SC g) (yPi (fun v n' σ' => n' = n ∧ v = sRk w h T S s ra x y ∧ fR 11 12 σ σ')) (rmL 6)) (SC g) n σ 0 0 0 [(0, yR g 155), (1, yI (z : Int)), (2, yI x), (3, yI y)] []
  refine y_aload_n (pc := 0) hF dX11_rankOf_0 0 rfl ?_
  refine y_get (pc := 1) (ci := 11) hF dX11_rankOf_1 (by omega) rfl rfl rfl iX11 10 (by decide) w_1257 rfl ?_
  refine y_iconst (pc := 4) hF dX11_rankOf_4 ?_
  refine y_iaload (pc := 5) hF dX11_rankOf_5 (by omega) rfl (by omega) (by decide) ?_
  rw [show σ 166 3 = ra from hS.1.2.2.2.1]
  refine y_iconst (pc := 6) hF dX11_rankOf_6 ?_
  refine y_icmp_ne (pc := 7) hF dX11_rankOf_7 18 rfl (by omega) (by omega) (fun zc7 => ?_) (fun zc7 => ?_)
  · skip
    refine y_aload_n (pc := 18) hF dX11_rankOf_18 0 rfl ?_
    refine y_get (pc := 19) (ci := 11) hF dX11_rankOf_19 (by omega) rfl rfl rfl iX11 10 (by decide) w_1257 rfl ?_
    refine y_iconst (pc := 22) hF dX11_rankOf_22 ?_
    refine y_iaload (pc := 23) hF dX11_rankOf_23 (by omega) rfl (by omega) (by decide) ?_
    rw [show σ 166 3 = ra from hS.1.2.2.2.1]
    refine y_iconst (pc := 24) hF dX11_rankOf_24 ?_
    refine y_icmp_ne (pc := 25) hF dX11_rankOf_25 38 rfl (by omega) (by omega) (fun zc25 => ?_) (fun zc25 => ?_)
    · skip
      refine y_aload_n (pc := 38) hF dX11_rankOf_38 0 rfl ?_
      refine y_iload_n (pc := 39) hF dX11_rankOf_39 1 rfl ?_
      refine y_iload_n (pc := 40) hF dX11_rankOf_40 2 rfl ?_
      refine y_iload_n (pc := 41) hF dX11_rankOf_41 3 rfl ?_
      refine y_cp (y_rV (pc := 42) hF (tX11_steady z w h T S F P O s re fo ra tu we sh hn hz hA hS x y hi) dX11_rankOf_42 (by omega) rfl rfl rfl w_1512 qX11_steady rfl ⟨Nat.le_of_ble_eq_true rfl, Nat.le_of_ble_eq_true rfl⟩ ⟨Nat.zero_le _, Nat.zero_le _⟩ (Nat.le_of_ble_eq_true rfl) rfl) ?_
      refine y_aload_n (pc := 45) hF dX11_rankOf_45 0 rfl ?_
      refine y_iload_n (pc := 46) hF dX11_rankOf_46 1 rfl ?_
      refine y_iload_n (pc := 47) hF dX11_rankOf_47 2 rfl ?_
      refine y_iload_n (pc := 48) hF dX11_rankOf_48 3 rfl ?_
      refine y_ci (y_rV (pc := 49) hF (tX11_flow z w h T S F P O s re fo ra tu we sh hn hz hA hS x y hi) dX11_rankOf_49 (by omega) rfl rfl rfl w_1516 qX11_flow rfl ⟨Nat.le_of_ble_eq_true rfl, Nat.le_of_ble_eq_true rfl⟩ ⟨Nat.zero_le _, Nat.zero_le _⟩ (Nat.le_of_ble_eq_true rfl) rfl) rfl rfl (fun r49 n' σ49 zp49 => ?_)
      obtain ⟨zn49, zp49⟩ := zp49
      have zn49 := zn49.symm
      subst zn49
      have zA_σ49 := hA.fR hz zp49.2
      have zS_σ49 := hS.fR (by omega) zp49.2
      refine y_imul (pc := 52) hF dX11_rankOf_52 ?_
      exact y_iret (pc := 53) hF dX11_rankOf_53 (Nat.zero_le _) (Nat.zero_le _) ⟨_, rfl, rfl, by unfold sRk; rw [if_neg (by omega), if_neg (by omega), zp49.1], zp49.2⟩
    · skip
      refine y_aload_n (pc := 28) hF dX11_rankOf_28 0 rfl ?_
      refine y_iload_n (pc := 29) hF dX11_rankOf_29 1 rfl ?_
      refine y_iload_n (pc := 30) hF dX11_rankOf_30 2 rfl ?_
      refine y_iload_n (pc := 31) hF dX11_rankOf_31 3 rfl ?_
      refine y_ci (y_rV (pc := 32) hF (tX11_flow z w h T S F P O s re fo ra tu we sh hn hz hA hS x y hi) dX11_rankOf_32 (by omega) rfl rfl rfl w_1516 qX11_flow rfl ⟨Nat.le_of_ble_eq_true rfl, Nat.le_of_ble_eq_true rfl⟩ ⟨Nat.zero_le _, Nat.zero_le _⟩ (Nat.le_of_ble_eq_true rfl) rfl) rfl rfl (fun r32 n' σ32 zp32 => ?_)
      obtain ⟨zn32, zp32⟩ := zp32
      have zn32 := zn32.symm
      subst zn32
      have zA_σ32 := hA.fR hz zp32.2
      have zS_σ32 := hS.fR (by omega) zp32.2
      refine y_goto (pc := 35) hF dX11_rankOf_35 53 rfl ?_
      exact y_iret (pc := 53) hF dX11_rankOf_53 (Nat.zero_le _) (Nat.zero_le _) ⟨_, rfl, rfl, by unfold sRk; rw [if_neg (by omega), if_pos zc25]; exact zp32.1, zp32.2⟩
  · skip
    refine y_aload_n (pc := 10) hF dX11_rankOf_10 0 rfl ?_
    refine y_iload_n (pc := 11) hF dX11_rankOf_11 1 rfl ?_
    refine y_iload_n (pc := 12) hF dX11_rankOf_12 2 rfl ?_
    refine y_iload_n (pc := 13) hF dX11_rankOf_13 3 rfl ?_
    refine y_cp (y_rV (pc := 14) hF (tX11_steady z w h T S F P O s re fo ra tu we sh hn hz hA hS x y hi) dX11_rankOf_14 (by omega) rfl rfl rfl w_1512 qX11_steady rfl ⟨Nat.le_of_ble_eq_true rfl, Nat.le_of_ble_eq_true rfl⟩ ⟨Nat.zero_le _, Nat.zero_le _⟩ (Nat.le_of_ble_eq_true rfl) rfl) ?_
    exact y_iret (pc := 17) hF dX11_rankOf_17 (Nat.zero_le _) (Nat.zero_le _) ⟨_, rfl, rfl, by unfold sRk; rw [if_pos zc7], fR.rf σ⟩
