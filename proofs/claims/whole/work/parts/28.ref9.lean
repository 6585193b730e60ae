theorem dX11_halvesOne_0 : decode cX11_halvesOne 0 = .ok (.iconst 0, 1) := by decide +kernel
theorem dX11_halvesOne_1 : decode cX11_halvesOne 1 = .ok (.istore 4, 2) := by decide +kernel
theorem dX11_halvesOne_3 : decode cX11_halvesOne 3 = .ok (.iconst 0, 1) := by decide +kernel
theorem dX11_halvesOne_4 : decode cX11_halvesOne 4 = .ok (.istore 5, 2) := by decide +kernel
theorem dX11_halvesOne_6 : decode cX11_halvesOne 6 = .ok (.iconst 2, 1) := by decide +kernel
theorem dX11_halvesOne_7 : decode cX11_halvesOne 7 = .ok (.iload_n 3, 1) := by decide +kernel
theorem dX11_halvesOne_8 : decode cX11_halvesOne 8 = .ok (.imul, 1) := by decide +kernel
theorem dX11_halvesOne_9 : decode cX11_halvesOne 9 = .ok (.istore 6, 2) := by decide +kernel
theorem dX11_halvesOne_11 : decode cX11_halvesOne 11 = .ok (.iload 6, 2) := by decide +kernel
theorem dX11_halvesOne_13 : decode cX11_halvesOne 13 = .ok (.iconst 2, 1) := by decide +kernel
theorem dX11_halvesOne_14 : decode cX11_halvesOne 14 = .ok (.iload_n 3, 1) := by decide +kernel
theorem dX11_halvesOne_15 : decode cX11_halvesOne 15 = .ok (.imul, 1) := by decide +kernel
theorem dX11_halvesOne_16 : decode cX11_halvesOne 16 = .ok (.iconst 2, 1) := by decide +kernel
theorem dX11_halvesOne_17 : decode cX11_halvesOne 17 = .ok (.iadd, 1) := by decide +kernel
theorem dX11_halvesOne_18 : decode cX11_halvesOne 18 = .ok (.if_icmp .ge 62, 3) := by decide +kernel
theorem dX11_halvesOne_21 : decode cX11_halvesOne 21 = .ok (.iconst 2, 1) := by decide +kernel
theorem dX11_halvesOne_22 : decode cX11_halvesOne 22 = .ok (.iload_n 2, 1) := by decide +kernel
theorem dX11_halvesOne_23 : decode cX11_halvesOne 23 = .ok (.imul, 1) := by decide +kernel
theorem dX11_halvesOne_24 : decode cX11_halvesOne 24 = .ok (.istore 7, 2) := by decide +kernel
theorem dX11_halvesOne_26 : decode cX11_halvesOne 26 = .ok (.iload 7, 2) := by decide +kernel
theorem dX11_halvesOne_28 : decode cX11_halvesOne 28 = .ok (.iconst 2, 1) := by decide +kernel
theorem dX11_halvesOne_29 : decode cX11_halvesOne 29 = .ok (.iload_n 2, 1) := by decide +kernel
theorem dX11_halvesOne_30 : decode cX11_halvesOne 30 = .ok (.imul, 1) := by decide +kernel
theorem dX11_halvesOne_31 : decode cX11_halvesOne 31 = .ok (.iconst 2, 1) := by decide +kernel
theorem dX11_halvesOne_32 : decode cX11_halvesOne 32 = .ok (.iadd, 1) := by decide +kernel
theorem dX11_halvesOne_33 : decode cX11_halvesOne 33 = .ok (.if_icmp .ge 41, 3) := by decide +kernel
theorem dX11_halvesOne_36 : decode cX11_halvesOne 36 = .ok (.aload_n 0, 1) := by decide +kernel
theorem dX11_halvesOne_37 : decode cX11_halvesOne 37 = .ok (.iload_n 1, 1) := by decide +kernel
theorem dX11_halvesOne_38 : decode cX11_halvesOne 38 = .ok (.iload 7, 2) := by decide +kernel
theorem dX11_halvesOne_40 : decode cX11_halvesOne 40 = .ok (.iload 6, 2) := by decide +kernel
theorem dX11_halvesOne_42 : decode cX11_halvesOne 42 = .ok (.invokevirtual 78, 3) := by decide +kernel
theorem dX11_halvesOne_45 : decode cX11_halvesOne 45 = .ok (.ifCond .ne 6, 3) := by decide +kernel
theorem dX11_halvesOne_48 : decode cX11_halvesOne 48 = .ok (.goto 20, 3) := by decide +kernel
theorem dX11_halvesOne_51 : decode cX11_halvesOne 51 = .ok (.iload 4, 2) := by decide +kernel
theorem dX11_halvesOne_53 : decode cX11_halvesOne 53 = .ok (.aload_n 0, 1) := by decide +kernel
theorem dX11_halvesOne_54 : decode cX11_halvesOne 54 = .ok (.iload_n 1, 1) := by decide +kernel
theorem dX11_halvesOne_55 : decode cX11_halvesOne 55 = .ok (.iload 7, 2) := by decide +kernel
theorem dX11_halvesOne_57 : decode cX11_halvesOne 57 = .ok (.iload 6, 2) := by decide +kernel
theorem dX11_halvesOne_59 : decode cX11_halvesOne 59 = .ok (.invokevirtual 87, 3) := by decide +kernel
theorem dX11_halvesOne_62 : decode cX11_halvesOne 62 = .ok (.iadd, 1) := by decide +kernel
theorem dX11_halvesOne_63 : decode cX11_halvesOne 63 = .ok (.istore 4, 2) := by decide +kernel
theorem dX11_halvesOne_65 : decode cX11_halvesOne 65 = .ok (.iinc 5 1, 3) := by decide +kernel
theorem dX11_halvesOne_68 : decode cX11_halvesOne 68 = .ok (.iinc 7 1, 3) := by decide +kernel
theorem dX11_halvesOne_71 : decode cX11_halvesOne 71 = .ok (.goto (-45), 3) := by decide +kernel
theorem dX11_halvesOne_74 : decode cX11_halvesOne 74 = .ok (.iinc 6 1, 3) := by decide +kernel
theorem dX11_halvesOne_77 : decode cX11_halvesOne 77 = .ok (.goto (-66), 3) := by decide +kernel
theorem dX11_halvesOne_80 : decode cX11_halvesOne 80 = .ok (.iload 5, 2) := by decide +kernel
theorem dX11_halvesOne_82 : decode cX11_halvesOne 82 = .ok (.ifCond .ne 18, 3) := by decide +kernel
theorem dX11_halvesOne_85 : decode cX11_halvesOne 85 = .ok (.aload_n 0, 1) := by decide +kernel
theorem dX11_halvesOne_86 : decode cX11_halvesOne 86 = .ok (.iload_n 1, 1) := by decide +kernel
theorem dX11_halvesOne_87 : decode cX11_halvesOne 87 = .ok (.iconst 1, 1) := by decide +kernel
theorem dX11_halvesOne_88 : decode cX11_halvesOne 88 = .ok (.iadd, 1) := by decide +kernel
theorem dX11_halvesOne_89 : decode cX11_halvesOne 89 = .ok (.iload_n 2, 1) := by decide +kernel
theorem dX11_halvesOne_90 : decode cX11_halvesOne 90 = .ok (.iload_n 3, 1) := by decide +kernel
theorem dX11_halvesOne_91 : decode cX11_halvesOne 91 = .ok (.invokestatic 56, 3) := by decide +kernel
theorem dX11_halvesOne_94 : decode cX11_halvesOne 94 = .ok (.invokevirtual 229, 3) := by decide +kernel
theorem dX11_halvesOne_97 : decode cX11_halvesOne 97 = .ok (.goto 20, 3) := by decide +kernel
theorem dX11_halvesOne_100 : decode cX11_halvesOne 100 = .ok (.aload_n 0, 1) := by decide +kernel
theorem dX11_halvesOne_101 : decode cX11_halvesOne 101 = .ok (.iload_n 1, 1) := by decide +kernel
theorem dX11_halvesOne_102 : decode cX11_halvesOne 102 = .ok (.iconst 1, 1) := by decide +kernel
theorem dX11_halvesOne_103 : decode cX11_halvesOne 103 = .ok (.iadd, 1) := by decide +kernel
theorem dX11_halvesOne_104 : decode cX11_halvesOne 104 = .ok (.iload_n 2, 1) := by decide +kernel
theorem dX11_halvesOne_105 : decode cX11_halvesOne 105 = .ok (.iload_n 3, 1) := by decide +kernel
theorem dX11_halvesOne_106 : decode cX11_halvesOne 106 = .ok (.invokestatic 56, 3) := by decide +kernel
theorem dX11_halvesOne_109 : decode cX11_halvesOne 109 = .ok (.iload 4, 2) := by decide +kernel
theorem dX11_halvesOne_111 : decode cX11_halvesOne 111 = .ok (.iload 5, 2) := by decide +kernel
theorem dX11_halvesOne_113 : decode cX11_halvesOne 113 = .ok (.idiv, 1) := by decide +kernel
theorem dX11_halvesOne_114 : decode cX11_halvesOne 114 = .ok (.invokevirtual 60, 3) := by decide +kernel
theorem dX11_halvesOne_117 : decode cX11_halvesOne 117 = .ok (.return_, 1) := by decide +kernel
set_option maxHeartbeats 4000000 in
set_option maxRecDepth 100000 in
theorem tX11_halvesOne {l : Launch} {g : yG} {n : Nat} {σ : yM} (z : Nat) (w h : Int) (T S F P O : Int → Int → Int) (hn : 172 ≤ n) (hz : z < 3) (hz2 : z < 2) (hA : rM σ z w h T S F P O) (x y : Int) (hx : 0 ≤ x ∧ x < 20) (hy : 0 ≤ y ∧ y < 20) : yMet l g yX11_halvesOne cX11_halvesOne 8 none (rmL 4) [yR g 155, yI (z : Int), yI x, yI y] (SC g) n σ (SC g) (yPv (fun n' σ' => n' = n ∧ σ' = mgv σ (z + 1) (20 * y + x) (sHf w h T x y))) := by
  obtain ⟨hw1, hw2, hw3, hw4⟩ := id hA.1.1
  have zb := s4_bd hA.1 (2 * x) (2 * y)
  refine y_start (by decide) (Nat.le_of_ble_eq_true rfl) (fun X0 hF => ?_)
  show yV X0 g 8 (yQ X0 g (SC g) (yPv (fun n' σ' => n' = n ∧ σ' = mgv σ (z + 1) (20 * y + x) (sHf w h T x y))) (rmL 4)) (SC g) n σ 0 0 0 [(0, yR g 155), (1, yI (z : Int)), (2, yI x), (3, yI y)] []
  refine y_iconst (pc := 0) hF dX11_halvesOne_0 ?_
  refine y_istore (pc := 1) (lv' := [(0, yR g 155), (1, yI (z : Int)), (2, yI x), (3, yI y), (4, yI 0)]) hF dX11_halvesOne_1 (by decide) rfl rfl ?_
  refine y_iconst (pc := 3) hF dX11_halvesOne_3 ?_
  refine y_istore (pc := 4) (lv' := [(0, yR g 155), (1, yI (z : Int)), (2, yI x), (3, yI y), (4, yI 0), (5, yI 0)]) hF dX11_halvesOne_4 (by decide) rfl rfl ?_
  refine y_iconst (pc := 6) hF dX11_halvesOne_6 ?_
  refine y_iload_n (pc := 7) hF dX11_halvesOne_7 3 rfl ?_
  refine y_imul (pc := 8) hF dX11_halvesOne_8 ?_
  refine y_istore (pc := 9) (lv' := [(0, yR g 155), (1, yI (z : Int)), (2, yI x), (3, yI y), (4, yI 0), (5, yI 0), (6, yI (2 * y))]) hF dX11_halvesOne_9 (by decide) rfl rfl ?_
  have zL11 : ∀ (N : Nat) (j a c : Int), N = (2 * y + 2 - j).toNat → ((2 * y ≤ j ∧ j ≤ 2 * y + 2) ∧ (a, c) = fr (fun q j => fr (fun q i => m4F w h T q i j) (2 * x) 2 q) (2 * y) (j - 2 * y).toNat (0, 0)) → yV X0 g 8 (yQ X0 g (SC g) (yPv (fun n' σ' => n' = n ∧ σ' = mgv σ (z + 1) (20 * y + x) (sHf w h T x y))) (rmL 4)) (SC g) n σ 0 0 11 [(0, yR g 155), (1, yI (z : Int)), (2, yI x), (3, yI y), (4, yI a), (5, yI c), (6, yI j)] [] := by
    intro N
    induction N using Nat.strongRecOn with
    | ind N zh11 =>
      intro j a c  zN11 zI11
      refine y_iload (pc := 11) hF dX11_halvesOne_11 6 rfl ?_
      refine y_iconst (pc := 13) hF dX11_halvesOne_13 ?_
      refine y_iload_n (pc := 14) hF dX11_halvesOne_14 3 rfl ?_
      refine y_imul (pc := 15) hF dX11_halvesOne_15 ?_
      refine y_iconst (pc := 16) hF dX11_halvesOne_16 ?_
      refine y_iadd (pc := 17) hF dX11_halvesOne_17 ?_
      refine y_icmp_ge (pc := 18) hF dX11_halvesOne_18 80 rfl (by omega) (by omega) (fun zc18 => ?_) (fun zc18 => ?_)
      · skip
        have ze : (a, c) = s4 w h T (2 * x) (2 * y) := by rw [zI11.2, show j - 2 * y = 2 by omega]; rfl
        have ze1 : a = (s4 w h T (2 * x) (2 * y)).1 := congrArg Prod.fst ze
        have ze2 : c = (s4 w h T (2 * x) (2 * y)).2 := congrArg Prod.snd ze
        have zhb := sHf_bd hA.1 x y
        refine y_iload (pc := 80) hF dX11_halvesOne_80 5 rfl ?_
        refine y_if_ne (pc := 82) hF dX11_halvesOne_82 100 rfl (by omega) (fun zc82 => ?_) (fun zc82 => ?_)
        · skip
          refine y_aload_n (pc := 100) hF dX11_halvesOne_100 0 rfl ?_
          refine y_iload_n (pc := 101) hF dX11_halvesOne_101 1 rfl ?_
          refine y_iconst (pc := 102) hF dX11_halvesOne_102 ?_
          refine y_iadd (pc := 103) hF dX11_halvesOne_103 ?_
          rw [show (z : Int) + 1 = ((z + 1 : Nat) : Int) from (by omega)]
          refine y_iload_n (pc := 104) hF dX11_halvesOne_104 2 rfl ?_
          refine y_iload_n (pc := 105) hF dX11_halvesOne_105 3 rfl ?_
          refine y_cp (y_rS (pc := 106) (As := [yI x, yI y]) (kk := 0) hF (tX11_at x y) dX11_halvesOne_106 w_1236 qX11_at rfl ⟨Nat.le_of_ble_eq_true rfl, Nat.le_of_ble_eq_true rfl⟩ ⟨Nat.zero_le _, Nat.zero_le _⟩ (Nat.le_of_ble_eq_true rfl) rfl) ?_
          refine y_iload (pc := 109) hF dX11_halvesOne_109 4 rfl ?_
          refine y_iload (pc := 111) hF dX11_halvesOne_111 5 rfl ?_
          refine y_idiv (pc := 113) hF dX11_halvesOne_113 (by omega) (by omega) (by omega) ?_
          refine y_cv (y_rV (pc := 114) hF (tX11_known (z + 1) hn (by omega) (20 * y + x) (Int.tdiv a c) (by omega)) dX11_halvesOne_114 (by omega) rfl rfl rfl w_1239 qX11_known rfl ⟨Nat.le_of_ble_eq_true rfl, Nat.le_of_ble_eq_true rfl⟩ ⟨Nat.zero_le _, Nat.zero_le _⟩ (Nat.le_of_ble_eq_true rfl) rfl) rfl rfl (fun n' σ' zp114 => ?_)
          obtain ⟨zn114, rfl⟩ := zp114
          have zn114 := zn114.symm
          subst zn114
          exact y_vret (pc := 117) hF dX11_halvesOne_117 (Nat.zero_le _) (Nat.zero_le _) ⟨rfl, rfl, by have zt : sHf w h T x y = Int.tdiv a c := by { unfold sHf; rw [if_neg (by omega), ze1, ze2] }; unfold mgv; rw [← zt, if_neg (by omega)]⟩
        · skip
          refine y_aload_n (pc := 85) hF dX11_halvesOne_85 0 rfl ?_
          refine y_iload_n (pc := 86) hF dX11_halvesOne_86 1 rfl ?_
          refine y_iconst (pc := 87) hF dX11_halvesOne_87 ?_
          refine y_iadd (pc := 88) hF dX11_halvesOne_88 ?_
          rw [show (z : Int) + 1 = ((z + 1 : Nat) : Int) from (by omega)]
          refine y_iload_n (pc := 89) hF dX11_halvesOne_89 2 rfl ?_
          refine y_iload_n (pc := 90) hF dX11_halvesOne_90 3 rfl ?_
          refine y_cp (y_rS (pc := 91) (As := [yI x, yI y]) (kk := 0) hF (tX11_at x y) dX11_halvesOne_91 w_1236 qX11_at rfl ⟨Nat.le_of_ble_eq_true rfl, Nat.le_of_ble_eq_true rfl⟩ ⟨Nat.zero_le _, Nat.zero_le _⟩ (Nat.le_of_ble_eq_true rfl) rfl) ?_
          refine y_cv (y_rV (pc := 94) hF (tX11_missing (z + 1) hn (by omega) (20 * y + x) (by omega)) dX11_halvesOne_94 (by omega) rfl rfl rfl w_1428 qX11_missing rfl ⟨Nat.le_of_ble_eq_true rfl, Nat.le_of_ble_eq_true rfl⟩ ⟨Nat.zero_le _, Nat.zero_le _⟩ (Nat.le_of_ble_eq_true rfl) rfl) rfl rfl (fun n' σ' zp94 => ?_)
          obtain ⟨zn94, rfl⟩ := zp94
          have zn94 := zn94.symm
          subst zn94
          refine y_goto (pc := 97) hF dX11_halvesOne_97 117 rfl ?_
          exact y_vret (pc := 117) hF dX11_halvesOne_117 (Nat.zero_le _) (Nat.zero_le _) ⟨rfl, rfl, by have zt : sHf w h T x y = -1 := by { unfold sHf; rw [if_pos (by omega)] }; unfold mgv; rw [if_pos zt]⟩
      · skip
        refine y_iconst (pc := 21) hF dX11_halvesOne_21 ?_
        refine y_iload_n (pc := 22) hF dX11_halvesOne_22 2 rfl ?_
        refine y_imul (pc := 23) hF dX11_halvesOne_23 ?_
        refine y_istore (pc := 24) (lv' := [(0, yR g 155), (1, yI (z : Int)), (2, yI x), (3, yI y), (4, yI a), (5, yI c), (6, yI j), (7, yI (2 * x))]) hF dX11_halvesOne_24 (by decide) rfl rfl ?_
        have zL26 : ∀ (N : Nat) (i a2 c2 : Int), N = (2 * x + 2 - i).toNat → ((2 * x ≤ i ∧ i ≤ 2 * x + 2) ∧ (a2, c2) = fr (fun q i => m4F w h T q i j) (2 * x) (i - 2 * x).toNat (a, c)) → yV X0 g 8 (yQ X0 g (SC g) (yPv (fun n' σ' => n' = n ∧ σ' = mgv σ (z + 1) (20 * y + x) (sHf w h T x y))) (rmL 4)) (SC g) n σ 0 0 26 [(0, yR g 155), (1, yI (z : Int)), (2, yI x), (3, yI y), (4, yI a2), (5, yI c2), (6, yI j), (7, yI i)] [] := by
          intro N
          induction N using Nat.strongRecOn with
          | ind N zh26 =>
            intro i a2 c2  zN26 zI26
            refine y_iload (pc := 26) hF dX11_halvesOne_26 7 rfl ?_
            refine y_iconst (pc := 28) hF dX11_halvesOne_28 ?_
            refine y_iload_n (pc := 29) hF dX11_halvesOne_29 2 rfl ?_
            refine y_imul (pc := 30) hF dX11_halvesOne_30 ?_
            refine y_iconst (pc := 31) hF dX11_halvesOne_31 ?_
            refine y_iadd (pc := 32) hF dX11_halvesOne_32 ?_
            refine y_icmp_ge (pc := 33) hF dX11_halvesOne_33 74 rfl (by omega) (by omega) (fun zc33 => ?_) (fun zc33 => ?_)
            · skip
              refine y_iinc (pc := 74) (lv' := [(0, yR g 155), (1, yI (z : Int)), (2, yI x), (3, yI y), (4, yI a2), (5, yI c2), (6, yI (j + 1)), (7, yI i)]) hF dX11_halvesOne_74 6 rfl (by decide) rfl rfl ?_
              refine y_goto (pc := 77) hF dX11_halvesOne_77 11 rfl ?_
              refine y_sub [0, 1, 2, 3, 4, 5, 6] rfl ?_
              exact zh11 _ (by omega) (j + 1) (a2) (c2) rfl ⟨by omega, by rw [fr_up' _ _ zI11.1.1, ← zI11.2, zI26.2, show i - 2 * x = 2 by omega]; rfl⟩
            · skip
              refine y_aload_n (pc := 36) hF dX11_halvesOne_36 0 rfl ?_
              refine y_iload_n (pc := 37) hF dX11_halvesOne_37 1 rfl ?_
              refine y_iload (pc := 38) hF dX11_halvesOne_38 7 rfl ?_
              refine y_iload (pc := 40) hF dX11_halvesOne_40 6 rfl ?_
              refine y_cp (y_rV (pc := 42) hF (tX11_isKnown z w h T S F P O hn hz hA i j (by omega) (by omega)) dX11_halvesOne_42 (by omega) rfl rfl rfl w_1440 qX11_isKnown rfl ⟨Nat.le_of_ble_eq_true rfl, Nat.le_of_ble_eq_true rfl⟩ ⟨Nat.zero_le _, Nat.zero_le _⟩ (Nat.le_of_ble_eq_true rfl) rfl) ?_
              refine y_if_ne (pc := 45) hF dX11_halvesOne_45 51 rfl bi_r (fun zc45 => ?_) (fun zc45 => ?_)
              · replace zc45 := bi_n0.mp zc45
                refine y_iload (pc := 51) hF dX11_halvesOne_51 4 rfl ?_
                refine y_aload_n (pc := 53) hF dX11_halvesOne_53 0 rfl ?_
                refine y_iload_n (pc := 54) hF dX11_halvesOne_54 1 rfl ?_
                refine y_iload (pc := 55) hF dX11_halvesOne_55 7 rfl ?_
                refine y_iload (pc := 57) hF dX11_halvesOne_57 6 rfl ?_
                refine y_cp (y_rV (pc := 59) hF (tX11_toneOf z w h T S F P O hn hz hA i j (sKn_in zc45)) dX11_halvesOne_59 (by omega) rfl rfl rfl w_1472 qX11_toneOf rfl ⟨Nat.le_of_ble_eq_true rfl, Nat.le_of_ble_eq_true rfl⟩ ⟨Nat.zero_le _, Nat.zero_le _⟩ (Nat.le_of_ble_eq_true rfl) rfl) ?_
                refine y_iadd (pc := 62) hF dX11_halvesOne_62 ?_
                refine y_istore (pc := 63) (lv' := [(0, yR g 155), (1, yI (z : Int)), (2, yI x), (3, yI y), (4, yI (a2 + (T i j))), (5, yI c2), (6, yI j), (7, yI i)]) hF dX11_halvesOne_63 (by decide) rfl rfl ?_
                refine y_iinc (pc := 65) (lv' := [(0, yR g 155), (1, yI (z : Int)), (2, yI x), (3, yI y), (4, yI (a2 + (T i j))), (5, yI (c2 + 1)), (6, yI j), (7, yI i)]) hF dX11_halvesOne_65 5 rfl (by decide) rfl rfl ?_
                refine y_iinc (pc := 68) (lv' := [(0, yR g 155), (1, yI (z : Int)), (2, yI x), (3, yI y), (4, yI (a2 + (T i j))), (5, yI (c2 + 1)), (6, yI j), (7, yI (i + 1))]) hF dX11_halvesOne_68 7 rfl (by decide) rfl rfl ?_
                refine y_goto (pc := 71) hF dX11_halvesOne_71 26 rfl ?_
                exact zh26 _ (by omega) (i + 1) (a2 + (T i j)) (c2 + 1) rfl ⟨by omega, by rw [fr_up' _ _ zI26.1.1, ← zI26.2]; simp [m4F, zc45]⟩
              · replace zc45 := bi_0.mp zc45
                refine y_goto (pc := 48) hF dX11_halvesOne_48 68 rfl ?_
                refine y_iinc (pc := 68) (lv' := [(0, yR g 155), (1, yI (z : Int)), (2, yI x), (3, yI y), (4, yI a2), (5, yI c2), (6, yI j), (7, yI (i + 1))]) hF dX11_halvesOne_68 7 rfl (by decide) rfl rfl ?_
                refine y_goto (pc := 71) hF dX11_halvesOne_71 26 rfl ?_
                exact zh26 _ (by omega) (i + 1) (a2) (c2) rfl ⟨by omega, by rw [fr_up' _ _ zI26.1.1, ← zI26.2]; simp [m4F, zc45]⟩
        exact zL26 _ (2 * x) (a) (c) rfl ⟨by omega, (fr_no _ _ _).symm⟩
  exact zL11 _ (2 * y) (0) (0) rfl ⟨by omega, (fr_no _ _ _).symm⟩

theorem dX11_halves_0 : decode cX11_halves 0 = .ok (.aload_n 0, 1) := by decide +kernel
theorem dX11_halves_1 : decode cX11_halves 1 = .ok (.getfield 22, 3) := by decide +kernel
theorem dX11_halves_4 : decode cX11_halves 4 = .ok (.iload_n 1, 1) := by decide +kernel
theorem dX11_halves_5 : decode cX11_halves 5 = .ok (.iconst 1, 1) := by decide +kernel
theorem dX11_halves_6 : decode cX11_halves 6 = .ok (.iadd, 1) := by decide +kernel
theorem dX11_halves_7 : decode cX11_halves 7 = .ok (.aload_n 0, 1) := by decide +kernel
theorem dX11_halves_8 : decode cX11_halves 8 = .ok (.getfield 22, 3) := by decide +kernel
theorem dX11_halves_11 : decode cX11_halves 11 = .ok (.iload_n 1, 1) := by decide +kernel
theorem dX11_halves_12 : decode cX11_halves 12 = .ok (.iaload, 1) := by decide +kernel
theorem dX11_halves_13 : decode cX11_halves 13 = .ok (.iconst 1, 1) := by decide +kernel
theorem dX11_halves_14 : decode cX11_halves 14 = .ok (.iadd, 1) := by decide +kernel
theorem dX11_halves_15 : decode cX11_halves 15 = .ok (.iconst 2, 1) := by decide +kernel
theorem dX11_halves_16 : decode cX11_halves 16 = .ok (.idiv, 1) := by decide +kernel
theorem dX11_halves_17 : decode cX11_halves 17 = .ok (.iastore, 1) := by decide +kernel
theorem dX11_halves_18 : decode cX11_halves 18 = .ok (.aload_n 0, 1) := by decide +kernel
theorem dX11_halves_19 : decode cX11_halves 19 = .ok (.getfield 25, 3) := by decide +kernel
theorem dX11_halves_22 : decode cX11_halves 22 = .ok (.iload_n 1, 1) := by decide +kernel
theorem dX11_halves_23 : decode cX11_halves 23 = .ok (.iconst 1, 1) := by decide +kernel
theorem dX11_halves_24 : decode cX11_halves 24 = .ok (.iadd, 1) := by decide +kernel
theorem dX11_halves_25 : decode cX11_halves 25 = .ok (.aload_n 0, 1) := by decide +kernel
theorem dX11_halves_26 : decode cX11_halves 26 = .ok (.getfield 25, 3) := by decide +kernel
theorem dX11_halves_29 : decode cX11_halves 29 = .ok (.iload_n 1, 1) := by decide +kernel
theorem dX11_halves_30 : decode cX11_halves 30 = .ok (.iaload, 1) := by decide +kernel
theorem dX11_halves_31 : decode cX11_halves 31 = .ok (.iconst 1, 1) := by decide +kernel
theorem dX11_halves_32 : decode cX11_halves 32 = .ok (.iadd, 1) := by decide +kernel
theorem dX11_halves_33 : decode cX11_halves 33 = .ok (.iconst 2, 1) := by decide +kernel
theorem dX11_halves_34 : decode cX11_halves 34 = .ok (.idiv, 1) := by decide +kernel
theorem dX11_halves_35 : decode cX11_halves 35 = .ok (.iastore, 1) := by decide +kernel
theorem dX11_halves_36 : decode cX11_halves 36 = .ok (.aload_n 0, 1) := by decide +kernel
theorem dX11_halves_37 : decode cX11_halves 37 = .ok (.getfield 22, 3) := by decide +kernel
theorem dX11_halves_40 : decode cX11_halves 40 = .ok (.iload_n 1, 1) := by decide +kernel
theorem dX11_halves_41 : decode cX11_halves 41 = .ok (.iconst 1, 1) := by decide +kernel
theorem dX11_halves_42 : decode cX11_halves 42 = .ok (.iadd, 1) := by decide +kernel
theorem dX11_halves_43 : decode cX11_halves 43 = .ok (.iaload, 1) := by decide +kernel
theorem dX11_halves_44 : decode cX11_halves 44 = .ok (.iconst 3, 1) := by decide +kernel
theorem dX11_halves_45 : decode cX11_halves 45 = .ok (.if_icmp .lt 15, 3) := by decide +kernel
theorem dX11_halves_48 : decode cX11_halves 48 = .ok (.aload_n 0, 1) := by decide +kernel
theorem dX11_halves_49 : decode cX11_halves 49 = .ok (.getfield 25, 3) := by decide +kernel
theorem dX11_halves_52 : decode cX11_halves 52 = .ok (.iload_n 1, 1) := by decide +kernel
theorem dX11_halves_53 : decode cX11_halves 53 = .ok (.iconst 1, 1) := by decide +kernel
theorem dX11_halves_54 : decode cX11_halves 54 = .ok (.iadd, 1) := by decide +kernel
theorem dX11_halves_55 : decode cX11_halves 55 = .ok (.iaload, 1) := by decide +kernel
theorem dX11_halves_56 : decode cX11_halves 56 = .ok (.iconst 3, 1) := by decide +kernel
theorem dX11_halves_57 : decode cX11_halves 57 = .ok (.if_icmp .ge 5, 3) := by decide +kernel
theorem dX11_halves_60 : decode cX11_halves 60 = .ok (.iconst 0, 1) := by decide +kernel
theorem dX11_halves_61 : decode cX11_halves 61 = .ok (.ireturn, 1) := by decide +kernel
theorem dX11_halves_62 : decode cX11_halves 62 = .ok (.iconst 0, 1) := by decide +kernel
theorem dX11_halves_63 : decode cX11_halves 63 = .ok (.istore_n 2, 1) := by decide +kernel
theorem dX11_halves_64 : decode cX11_halves 64 = .ok (.iload_n 2, 1) := by decide +kernel
theorem dX11_halves_65 : decode cX11_halves 65 = .ok (.aload_n 0, 1) := by decide +kernel
theorem dX11_halves_66 : decode cX11_halves 66 = .ok (.getfield 25, 3) := by decide +kernel
theorem dX11_halves_69 : decode cX11_halves 69 = .ok (.iload_n 1, 1) := by decide +kernel
theorem dX11_halves_70 : decode cX11_halves 70 = .ok (.iconst 1, 1) := by decide +kernel
theorem dX11_halves_71 : decode cX11_halves 71 = .ok (.iadd, 1) := by decide +kernel
theorem dX11_halves_72 : decode cX11_halves 72 = .ok (.iaload, 1) := by decide +kernel
theorem dX11_halves_73 : decode cX11_halves 73 = .ok (.if_icmp .ge 36, 3) := by decide +kernel
theorem dX11_halves_76 : decode cX11_halves 76 = .ok (.iconst 0, 1) := by decide +kernel
theorem dX11_halves_77 : decode cX11_halves 77 = .ok (.istore_n 3, 1) := by decide +kernel
theorem dX11_halves_78 : decode cX11_halves 78 = .ok (.iload_n 3, 1) := by decide +kernel
theorem dX11_halves_79 : decode cX11_halves 79 = .ok (.aload_n 0, 1) := by decide +kernel
theorem dX11_halves_80 : decode cX11_halves 80 = .ok (.getfield 22, 3) := by decide +kernel
theorem dX11_halves_83 : decode cX11_halves 83 = .ok (.iload_n 1, 1) := by decide +kernel
theorem dX11_halves_84 : decode cX11_halves 84 = .ok (.iconst 1, 1) := by decide +kernel
theorem dX11_halves_85 : decode cX11_halves 85 = .ok (.iadd, 1) := by decide +kernel
theorem dX11_halves_86 : decode cX11_halves 86 = .ok (.iaload, 1) := by decide +kernel
theorem dX11_halves_87 : decode cX11_halves 87 = .ok (.if_icmp .ge 16, 3) := by decide +kernel
theorem dX11_halves_90 : decode cX11_halves 90 = .ok (.aload_n 0, 1) := by decide +kernel
theorem dX11_halves_91 : decode cX11_halves 91 = .ok (.iload_n 1, 1) := by decide +kernel
theorem dX11_halves_92 : decode cX11_halves 92 = .ok (.iload_n 3, 1) := by decide +kernel
theorem dX11_halves_93 : decode cX11_halves 93 = .ok (.iload_n 2, 1) := by decide +kernel
theorem dX11_halves_94 : decode cX11_halves 94 = .ok (.invokevirtual 226, 3) := by decide +kernel
theorem dX11_halves_97 : decode cX11_halves 97 = .ok (.iinc 3 1, 3) := by decide +kernel
theorem dX11_halves_100 : decode cX11_halves 100 = .ok (.goto (-22), 3) := by decide +kernel
theorem dX11_halves_103 : decode cX11_halves 103 = .ok (.iinc 2 1, 3) := by decide +kernel
theorem dX11_halves_106 : decode cX11_halves 106 = .ok (.goto (-42), 3) := by decide +kernel
theorem dX11_halves_109 : decode cX11_halves 109 = .ok (.aload_n 0, 1) := by decide +kernel
theorem dX11_halves_110 : decode cX11_halves 110 = .ok (.getfield 19, 3) := by decide +kernel
theorem dX11_halves_113 : decode cX11_halves 113 = .ok (.iload_n 1, 1) := by decide +kernel
theorem dX11_halves_114 : decode cX11_halves 114 = .ok (.iconst 1, 1) := by decide +kernel
theorem dX11_halves_115 : decode cX11_halves 115 = .ok (.iadd, 1) := by decide +kernel
theorem dX11_halves_116 : decode cX11_halves 116 = .ok (.aaload, 1) := by decide +kernel
theorem dX11_halves_117 : decode cX11_halves 117 = .ok (.sipush 2000, 3) := by decide +kernel
theorem dX11_halves_120 : decode cX11_halves 120 = .ok (.iconst 0, 1) := by decide +kernel
theorem dX11_halves_121 : decode cX11_halves 121 = .ok (.iastore, 1) := by decide +kernel
theorem dX11_halves_122 : decode cX11_halves 122 = .ok (.aload_n 0, 1) := by decide +kernel
theorem dX11_halves_123 : decode cX11_halves 123 = .ok (.getfield 19, 3) := by decide +kernel
theorem dX11_halves_126 : decode cX11_halves 126 = .ok (.iload_n 1, 1) := by decide +kernel
theorem dX11_halves_127 : decode cX11_halves 127 = .ok (.iconst 1, 1) := by decide +kernel
theorem dX11_halves_128 : decode cX11_halves 128 = .ok (.iadd, 1) := by decide +kernel
theorem dX11_halves_129 : decode cX11_halves 129 = .ok (.aaload, 1) := by decide +kernel
theorem dX11_halves_130 : decode cX11_halves 130 = .ok (.sipush 2001, 3) := by decide +kernel
theorem dX11_halves_133 : decode cX11_halves 133 = .ok (.iconst 0, 1) := by decide +kernel
theorem dX11_halves_134 : decode cX11_halves 134 = .ok (.iastore, 1) := by decide +kernel
theorem dX11_halves_135 : decode cX11_halves 135 = .ok (.aload_n 0, 1) := by decide +kernel
theorem dX11_halves_136 : decode cX11_halves 136 = .ok (.getfield 19, 3) := by decide +kernel
theorem dX11_halves_139 : decode cX11_halves 139 = .ok (.iload_n 1, 1) := by decide +kernel
theorem dX11_halves_140 : decode cX11_halves 140 = .ok (.iconst 1, 1) := by decide +kernel
theorem dX11_halves_141 : decode cX11_halves 141 = .ok (.iadd, 1) := by decide +kernel
theorem dX11_halves_142 : decode cX11_halves 142 = .ok (.aaload, 1) := by decide +kernel
theorem dX11_halves_143 : decode cX11_halves 143 = .ok (.sipush 2002, 3) := by decide +kernel
theorem dX11_halves_146 : decode cX11_halves 146 = .ok (.iconst 0, 1) := by decide +kernel
theorem dX11_halves_147 : decode cX11_halves 147 = .ok (.iastore, 1) := by decide +kernel
theorem dX11_halves_148 : decode cX11_halves 148 = .ok (.iconst 1, 1) := by decide +kernel
theorem dX11_halves_149 : decode cX11_halves 149 = .ok (.ireturn, 1) := by decide +kernel
set_option maxHeartbeats 4000000 in
set_option maxRecDepth 100000 in
theorem tX11_halves {l : Launch} {g : yG} {n : Nat} {σ : yM} (z : Nat) (w h : Int) (T S F P O : Int → Int → Int) (hn : 172 ≤ n) (hz : z < 3) (hz2 : z < 2) (hA : rM σ z w h T S F P O) (lg : Int → Int → Int) : yMet l g yX11_halves cX11_halves 4 (some .boolean) (rmL 5) [yR g 155, yI (z : Int)] (SC g) n σ (SC g) (yPi (fun v n' σ' => n' = n ∧ σ' 161 ((z : Int) + 1) = (w + 1) / 2 ∧ σ' 162 ((z : Int) + 1) = (h + 1) / 2 ∧ (∀ (c : Nat) (j : Int), c ≠ 158 + (z + 1) → ((c ≠ 161 ∧ c ≠ 162) ∨ j ≠ (z : Int) + 1) → σ' c j = σ c j) ∧ v = bi (decide (3 ≤ (w + 1) / 2) && decide (3 ≤ (h + 1) / 2)) ∧ ((3 ≤ (w + 1) / 2 ∧ 3 ≤ (h + 1) / 2) → rX σ' (z + 1) ((w + 1) / 2) ((h + 1) / 2) (hX w h T lg)))) := by
  obtain ⟨hw1, hw2, hw3, hw4⟩ := id hA.1.1
  refine y_start (by decide) (Nat.le_of_ble_eq_true rfl) (fun X0 hF => ?_)
  show yV X0 g 4 (yQ X0 g (SC g) (yPi (fun v n' σ' => n' = n ∧ σ' 161 ((z : Int) + 1) = (w + 1) / 2 ∧ σ' 162 ((z : Int) + 1) = (h + 1) / 2 ∧ (∀ (c : Nat) (j : Int), c ≠ 158 + (z + 1) → ((c ≠ 161 ∧ c ≠ 162) ∨ j ≠ (z : Int) + 1) → σ' c j = σ c j) ∧ v = bi (decide (3 ≤ (w + 1) / 2) && decide (3 ≤ (h + 1) / 2)) ∧ ((3 ≤ (w + 1) / 2 ∧ 3 ≤ (h + 1) / 2) → rX σ' (z + 1) ((w + 1) / 2) ((h + 1) / 2) (hX w h T lg)))) (rmL 5)) (SC g) n σ 0 0 0 [(0, yR g 155), (1, yI (z : Int))] []
  refine y_aload_n (pc := 0) hF dX11_halves_0 0 rfl ?_
  refine y_get (pc := 1) (ci := 11) hF dX11_halves_1 (by omega) rfl rfl rfl iX11 3 (by decide) w_1250 rfl ?_
  refine y_iload_n (pc := 4) hF dX11_halves_4 1 rfl ?_
  refine y_iconst (pc := 5) hF dX11_halves_5 ?_
  refine y_iadd (pc := 6) hF dX11_halves_6 ?_
  refine y_aload_n (pc := 7) hF dX11_halves_7 0 rfl ?_
  refine y_get (pc := 8) (ci := 11) hF dX11_halves_8 (by omega) rfl rfl rfl iX11 3 (by decide) w_1250 rfl ?_
  refine y_iload_n (pc := 11) hF dX11_halves_11 1 rfl ?_
  refine y_iaload (pc := 12) hF dX11_halves_12 (by omega) rfl (by omega) (by decide) ?_
  rw [show σ 161 (z : Int) = w from hA.2.1]
  refine y_iconst (pc := 13) hF dX11_halves_13 ?_
  refine y_iadd (pc := 14) hF dX11_halves_14 ?_
  refine y_iconst (pc := 15) hF dX11_halves_15 ?_
  refine y_idiv (pc := 16) hF dX11_halves_16 (by omega) (by omega) (by omega) ?_
  rw [show Int.tdiv (w + 1) 2 = (w + 1) / 2 from (y_quo (by omega))]
  refine y_iastore (pc := 17) hF dX11_halves_17 (by omega) rfl (by omega) (by decide) ?_
  refine y_aload_n (pc := 18) hF dX11_halves_18 0 rfl ?_
  refine y_get (pc := 19) (ci := 11) hF dX11_halves_19 (by omega) rfl rfl rfl iX11 4 (by decide) w_1251 rfl ?_
  refine y_iload_n (pc := 22) hF dX11_halves_22 1 rfl ?_
  refine y_iconst (pc := 23) hF dX11_halves_23 ?_
  refine y_iadd (pc := 24) hF dX11_halves_24 ?_
  refine y_aload_n (pc := 25) hF dX11_halves_25 0 rfl ?_
  refine y_get (pc := 26) (ci := 11) hF dX11_halves_26 (by omega) rfl rfl rfl iX11 4 (by decide) w_1251 rfl ?_
  refine y_iload_n (pc := 29) hF dX11_halves_29 1 rfl ?_
  refine y_iaload (pc := 30) hF dX11_halves_30 (by omega) rfl (by omega) (by decide) ?_
  rw [show (yset σ 161 ((z : Int) + 1) ((w + 1) / 2)) 162 (z : Int) = h from (by rw [yset_n (by omega)]; exact hA.2.2.1)]
  refine y_iconst (pc := 31) hF dX11_halves_31 ?_
  refine y_iadd (pc := 32) hF dX11_halves_32 ?_
  refine y_iconst (pc := 33) hF dX11_halves_33 ?_
  refine y_idiv (pc := 34) hF dX11_halves_34 (by omega) (by omega) (by omega) ?_
  rw [show Int.tdiv (h + 1) 2 = (h + 1) / 2 from (y_quo (by omega))]
  refine y_iastore (pc := 35) hF dX11_halves_35 (by omega) rfl (by omega) (by decide) ?_
  obtain ⟨σ1, hσ1⟩ : ∃ s, s = yset (yset σ 161 ((z : Int) + 1) ((w + 1) / 2)) 162 ((z : Int) + 1) ((h + 1) / 2) := ⟨_, rfl⟩
  rw [← hσ1]
  have zw1 : ∀ t : yM, (∀ (c : Nat) (j : Int), c ≠ 158 + (z + 1) → t c j = σ1 c j) → t 161 ((z : Int) + 1) = (w + 1) / 2 := fun t ht => by rw [ht 161 _ (by omega), hσ1, yset_n (by omega), yset_e]
  have zh1 : ∀ t : yM, (∀ (c : Nat) (j : Int), c ≠ 158 + (z + 1) → t c j = σ1 c j) → t 162 ((z : Int) + 1) = (h + 1) / 2 := fun t ht => by rw [ht 162 _ (by omega), hσ1, yset_e]
  have zfr : ∀ t : yM, (∀ (c : Nat) (j : Int), c ≠ 158 + (z + 1) → t c j = σ1 c j) → ∀ (c : Nat) (j : Int), c ≠ 158 + (z + 1) → ((c ≠ 161 ∧ c ≠ 162) ∨ j ≠ (z : Int) + 1) → t c j = σ c j := fun t ht c j h1 h2 => by rw [ht c j h1, hσ1, yset_o (by omega), yset_o (by omega)]
  refine y_aload_n (pc := 36) hF dX11_halves_36 0 rfl ?_
  refine y_get (pc := 37) (ci := 11) hF dX11_halves_37 (by omega) rfl rfl rfl iX11 3 (by decide) w_1250 rfl ?_
  refine y_iload_n (pc := 40) hF dX11_halves_40 1 rfl ?_
  refine y_iconst (pc := 41) hF dX11_halves_41 ?_
  refine y_iadd (pc := 42) hF dX11_halves_42 ?_
  refine y_iaload (pc := 43) hF dX11_halves_43 (by omega) rfl (by omega) (by decide) ?_
  rw [show σ1 161 ((z : Int) + 1) = (w + 1) / 2 from (zw1 _ (fun c j hq => rfl))]
  refine y_iconst (pc := 44) hF dX11_halves_44 ?_
  refine y_icmp_lt (pc := 45) hF dX11_halves_45 60 rfl (by omega) (by omega) (fun zc45 => ?_) (fun zc45 => ?_)
  · skip
    refine y_iconst (pc := 60) hF dX11_halves_60 ?_
    exact y_zret (pc := 61) hF dX11_halves_61 (by decide) (Nat.zero_le _) (Nat.zero_le _) ⟨_, rfl, rfl, zw1 _ (fun c j hq => rfl), zh1 _ (fun c j hq => rfl), zfr _ (fun c j hq => rfl), by rw [show (decide (3 ≤ (w + 1) / 2) && decide (3 ≤ (h + 1) / 2)) = false by simp; omega]; rfl, fun zq => by omega⟩
  · skip
    refine y_aload_n (pc := 48) hF dX11_halves_48 0 rfl ?_
    refine y_get (pc := 49) (ci := 11) hF dX11_halves_49 (by omega) rfl rfl rfl iX11 4 (by decide) w_1251 rfl ?_
    refine y_iload_n (pc := 52) hF dX11_halves_52 1 rfl ?_
    refine y_iconst (pc := 53) hF dX11_halves_53 ?_
    refine y_iadd (pc := 54) hF dX11_halves_54 ?_
    refine y_iaload (pc := 55) hF dX11_halves_55 (by omega) rfl (by omega) (by decide) ?_
    rw [show σ1 162 ((z : Int) + 1) = (h + 1) / 2 from (zh1 _ (fun c j hq => rfl))]
    refine y_iconst (pc := 56) hF dX11_halves_56 ?_
    refine y_icmp_ge (pc := 57) hF dX11_halves_57 62 rfl (by omega) (by omega) (fun zc57 => ?_) (fun zc57 => ?_)
    · skip
      refine y_iconst (pc := 62) hF dX11_halves_62 ?_
      refine y_istore_n (pc := 63) (lv' := [(0, yR g 155), (1, yI (z : Int)), (2, yI 0)]) hF dX11_halves_63 (by decide) rfl rfl ?_
      have zL64 : ∀ (N : Nat) (τ : yM) (y : Int), N = ((h + 1) / 2 - y).toNat → ((∀ (c : Nat) (j : Int), c ≠ 158 + (z + 1) → τ c j = σ1 c j) ∧ (0 ≤ y ∧ y ≤ (h + 1) / 2) ∧ (∀ x' y' : Int, 0 ≤ x' → x' < ((w + 1) / 2) → 0 ≤ y' → (y' < y ∨ (y' = y ∧ x' < 0)) → τ (158 + (z + 1)) (20 * y' + x') = sHf w h T x' y' ∧ τ (158 + (z + 1)) (400 + (20 * y' + x')) = hS_ (sHf w h T) x' y' ∧ τ (158 + (z + 1)) (800 + (20 * y' + x')) = 0 ∧ τ (158 + (z + 1)) (1200 + (20 * y' + x')) = -1 ∧ τ (158 + (z + 1)) (1600 + (20 * y' + x')) = -1)) → yV X0 g 4 (yQ X0 g (SC g) (yPi (fun v n' σ' => n' = n ∧ σ' 161 ((z : Int) + 1) = (w + 1) / 2 ∧ σ' 162 ((z : Int) + 1) = (h + 1) / 2 ∧ (∀ (c : Nat) (j : Int), c ≠ 158 + (z + 1) → ((c ≠ 161 ∧ c ≠ 162) ∨ j ≠ (z : Int) + 1) → σ' c j = σ c j) ∧ v = bi (decide (3 ≤ (w + 1) / 2) && decide (3 ≤ (h + 1) / 2)) ∧ ((3 ≤ (w + 1) / 2 ∧ 3 ≤ (h + 1) / 2) → rX σ' (z + 1) ((w + 1) / 2) ((h + 1) / 2) (hX w h T lg)))) (rmL 5)) (SC g) n τ 0 0 64 [(0, yR g 155), (1, yI (z : Int)), (2, yI y)] [] := by
        intro N
        induction N using Nat.strongRecOn with
        | ind N zh64 =>
          intro τ  y  zN64 zI64
          refine y_iload_n (pc := 64) hF dX11_halves_64 2 rfl ?_
          refine y_aload_n (pc := 65) hF dX11_halves_65 0 rfl ?_
          refine y_get (pc := 66) (ci := 11) hF dX11_halves_66 (by omega) rfl rfl rfl iX11 4 (by decide) w_1251 rfl ?_
          refine y_iload_n (pc := 69) hF dX11_halves_69 1 rfl ?_
          refine y_iconst (pc := 70) hF dX11_halves_70 ?_
          refine y_iadd (pc := 71) hF dX11_halves_71 ?_
          refine y_iaload (pc := 72) hF dX11_halves_72 (by omega) rfl (by omega) (by decide) ?_
          rw [show τ 162 ((z : Int) + 1) = (h + 1) / 2 from (zh1 _ zI64.1)]
          refine y_icmp_ge (pc := 73) hF dX11_halves_73 109 rfl (by omega) (by omega) (fun zc73 => ?_) (fun zc73 => ?_)
          · skip
            refine y_aload_n (pc := 109) hF dX11_halves_109 0 rfl ?_
            refine y_get (pc := 110) (ci := 11) hF dX11_halves_110 (by omega) rfl rfl rfl iX11 2 (by decide) w_1249 rfl ?_
            refine y_iload_n (pc := 113) hF dX11_halves_113 1 rfl ?_
            refine y_iconst (pc := 114) hF dX11_halves_114 ?_
            refine y_iadd (pc := 115) hF dX11_halves_115 ?_
            refine y_aaM1 (pc := 116) (z := z) hF dX11_halves_116 hn rfl hz2 ?_
            refine y_sipush (pc := 117) hF dX11_halves_117 (by decide) ?_
            refine y_iconst (pc := 120) hF dX11_halves_120 ?_
            refine y_iastore (pc := 121) hF dX11_halves_121 (by omega) (sc_lay1 hz2 g) (by omega) (by decide) ?_
            refine y_aload_n (pc := 122) hF dX11_halves_122 0 rfl ?_
            refine y_get (pc := 123) (ci := 11) hF dX11_halves_123 (by omega) rfl rfl rfl iX11 2 (by decide) w_1249 rfl ?_
            refine y_iload_n (pc := 126) hF dX11_halves_126 1 rfl ?_
            refine y_iconst (pc := 127) hF dX11_halves_127 ?_
            refine y_iadd (pc := 128) hF dX11_halves_128 ?_
            refine y_aaM1 (pc := 129) (z := z) hF dX11_halves_129 hn rfl hz2 ?_
            refine y_sipush (pc := 130) hF dX11_halves_130 (by decide) ?_
            refine y_iconst (pc := 133) hF dX11_halves_133 ?_
            refine y_iastore (pc := 134) hF dX11_halves_134 (by omega) (sc_lay1 hz2 g) (by omega) (by decide) ?_
            refine y_aload_n (pc := 135) hF dX11_halves_135 0 rfl ?_
            refine y_get (pc := 136) (ci := 11) hF dX11_halves_136 (by omega) rfl rfl rfl iX11 2 (by decide) w_1249 rfl ?_
            refine y_iload_n (pc := 139) hF dX11_halves_139 1 rfl ?_
            refine y_iconst (pc := 140) hF dX11_halves_140 ?_
            refine y_iadd (pc := 141) hF dX11_halves_141 ?_
            refine y_aaM1 (pc := 142) (z := z) hF dX11_halves_142 hn rfl hz2 ?_
            refine y_sipush (pc := 143) hF dX11_halves_143 (by decide) ?_
            refine y_iconst (pc := 146) hF dX11_halves_146 ?_
            refine y_iastore (pc := 147) hF dX11_halves_147 (by omega) (sc_lay1 hz2 g) (by omega) (by decide) ?_
            have zf9 : ∀ (c : Nat) (j : Int), c ≠ 158 + (z + 1) → yset (yset (yset τ (159 + z) 2000 0) (159 + z) 2001 0) (159 + z) 2002 0 c j = σ1 c j := fun c j hq => by rw [yset_n (by omega), yset_n (by omega), yset_n (by omega)]; exact zI64.1 c j hq
            have zs9 : ∀ q : Int, q < 2000 → yset (yset (yset τ (159 + z) 2000 0) (159 + z) 2001 0) (159 + z) 2002 0 (158 + (z + 1)) q = τ (158 + (z + 1)) q := fun q hq => by rw [yset_o (by omega), yset_o (by omega), yset_o (by omega)]
            refine y_iconst (pc := 148) hF dX11_halves_148 ?_
            exact y_zret (pc := 149) hF dX11_halves_149 (by decide) (Nat.zero_le _) (Nat.zero_le _) ⟨_, rfl, rfl, zw1 _ zf9, zh1 _ zf9, zfr _ zf9, by rw [show (decide (3 ≤ (w + 1) / 2) && decide (3 ≤ (h + 1) / 2)) = true by simp; omega]; rfl, fun _ => ⟨⟨aOk_half hA.1, zw1 _ zf9, zh1 _ zf9, fun x' y' h1 h2 h3 h4 => by rw [zs9 _ (by omega), zs9 _ (by omega), zs9 _ (by omega), zs9 _ (by omega), zs9 _ (by omega)]; exact zI64.2.2 x' y' h1 h2 h3 (by omega)⟩, by rw [show 158 + (z + 1) = 159 + z by omega, yset_o (by omega), yset_o (by omega), yset_e], by rw [show 158 + (z + 1) = 159 + z by omega, yset_o (by omega), yset_e], by rw [show 158 + (z + 1) = 159 + z by omega, yset_e], by omega, by omega, fun a b h1 h2 h3 h4 => by omega⟩⟩
          · skip
            refine y_iconst (pc := 76) hF dX11_halves_76 ?_
            refine y_istore_n (pc := 77) (lv' := [(0, yR g 155), (1, yI (z : Int)), (2, yI y), (3, yI 0)]) hF dX11_halves_77 (by decide) rfl rfl ?_
            have zL78 : ∀ (N : Nat) (υ : yM) (x : Int), N = ((w + 1) / 2 - x).toNat → ((∀ (c : Nat) (j : Int), c ≠ 158 + (z + 1) → υ c j = σ1 c j) ∧ (0 ≤ x ∧ x ≤ (w + 1) / 2) ∧ (∀ x' y' : Int, 0 ≤ x' → x' < ((w + 1) / 2) → 0 ≤ y' → (y' < y ∨ (y' = y ∧ x' < x)) → υ (158 + (z + 1)) (20 * y' + x') = sHf w h T x' y' ∧ υ (158 + (z + 1)) (400 + (20 * y' + x')) = hS_ (sHf w h T) x' y' ∧ υ (158 + (z + 1)) (800 + (20 * y' + x')) = 0 ∧ υ (158 + (z + 1)) (1200 + (20 * y' + x')) = -1 ∧ υ (158 + (z + 1)) (1600 + (20 * y' + x')) = -1)) → yV X0 g 4 (yQ X0 g (SC g) (yPi (fun v n' σ' => n' = n ∧ σ' 161 ((z : Int) + 1) = (w + 1) / 2 ∧ σ' 162 ((z : Int) + 1) = (h + 1) / 2 ∧ (∀ (c : Nat) (j : Int), c ≠ 158 + (z + 1) → ((c ≠ 161 ∧ c ≠ 162) ∨ j ≠ (z : Int) + 1) → σ' c j = σ c j) ∧ v = bi (decide (3 ≤ (w + 1) / 2) && decide (3 ≤ (h + 1) / 2)) ∧ ((3 ≤ (w + 1) / 2 ∧ 3 ≤ (h + 1) / 2) → rX σ' (z + 1) ((w + 1) / 2) ((h + 1) / 2) (hX w h T lg)))) (rmL 5)) (SC g) n υ 0 0 78 [(0, yR g 155), (1, yI (z : Int)), (2, yI y), (3, yI x)] [] := by
              intro N
              induction N using Nat.strongRecOn with
              | ind N zh78 =>
                intro υ  x  zN78 zI78
                have zAυ : rM υ z w h T S F P O := hA.fr' (zfr υ zI78.1 161 _ (by omega) (by omega)) (zfr υ zI78.1 162 _ (by omega) (by omega)) (fun q h1 h2 => zfr υ zI78.1 _ _ (by omega) (by omega))
                refine y_iload_n (pc := 78) hF dX11_halves_78 3 rfl ?_
                refine y_aload_n (pc := 79) hF dX11_halves_79 0 rfl ?_
                refine y_get (pc := 80) (ci := 11) hF dX11_halves_80 (by omega) rfl rfl rfl iX11 3 (by decide) w_1250 rfl ?_
                refine y_iload_n (pc := 83) hF dX11_halves_83 1 rfl ?_
                refine y_iconst (pc := 84) hF dX11_halves_84 ?_
                refine y_iadd (pc := 85) hF dX11_halves_85 ?_
                refine y_iaload (pc := 86) hF dX11_halves_86 (by omega) rfl (by omega) (by decide) ?_
                rw [show υ 161 ((z : Int) + 1) = (w + 1) / 2 from (zw1 _ zI78.1)]
                refine y_icmp_ge (pc := 87) hF dX11_halves_87 103 rfl (by omega) (by omega) (fun zc87 => ?_) (fun zc87 => ?_)
                · skip
                  refine y_iinc (pc := 103) (lv' := [(0, yR g 155), (1, yI (z : Int)), (2, yI (y + 1)), (3, yI x)]) hF dX11_halves_103 2 rfl (by decide) rfl rfl ?_
                  refine y_goto (pc := 106) hF dX11_halves_106 64 rfl ?_
                  refine y_sub [0, 1, 2] rfl ?_
                  exact zh64 _ (by omega) υ (y + 1) rfl ⟨zI78.1, by omega, fun x' y' h1 h2 h3 h4 => zI78.2.2 x' y' h1 h2 h3 (by omega)⟩
                · skip
                  refine y_aload_n (pc := 90) hF dX11_halves_90 0 rfl ?_
                  refine y_iload_n (pc := 91) hF dX11_halves_91 1 rfl ?_
                  refine y_iload_n (pc := 92) hF dX11_halves_92 3 rfl ?_
                  refine y_iload_n (pc := 93) hF dX11_halves_93 2 rfl ?_
                  refine y_cv (y_rV (pc := 94) hF (tX11_halvesOne z w h T S F P O hn hz hz2 zAυ x y (by omega) (by omega)) dX11_halves_94 (by omega) rfl rfl rfl w_1609 qX11_halvesOne rfl ⟨Nat.le_of_ble_eq_true rfl, Nat.le_of_ble_eq_true rfl⟩ ⟨Nat.zero_le _, Nat.zero_le _⟩ (Nat.le_of_ble_eq_true rfl) rfl) rfl rfl (fun n' σ' zp94 => ?_)
                  obtain ⟨zn94, rfl⟩ := zp94
                  have zn94 := zn94.symm
                  subst zn94
                  refine y_iinc (pc := 97) (lv' := [(0, yR g 155), (1, yI (z : Int)), (2, yI y), (3, yI (x + 1))]) hF dX11_halves_97 3 rfl (by decide) rfl rfl ?_
                  refine y_goto (pc := 100) hF dX11_halves_100 78 rfl ?_
                  exact zh78 _ (by omega) (mgv υ (z + 1) (20 * y + x) (sHf w h T x y)) (x + 1) rfl ⟨fun c j hq => by rw [mgv_o (Or.inl hq)]; exact zI78.1 c j hq, by omega, fun x' y' h1 h2 h3 h4 => by rcases Decidable.em (x' = x ∧ y' = y) with zq | zq; (obtain ⟨rfl, rfl⟩ := zq; exact mgv_at (by omega)); (rw [mgv_o (Or.inr (by omega)), mgv_o (Or.inr (by omega)), mgv_o (Or.inr (by omega)), mgv_o (Or.inr (by omega)), mgv_o (Or.inr (by omega))]; exact zI78.2.2 x' y' h1 h2 h3 (by omega))⟩
            exact zL78 _ τ (0) rfl ⟨zI64.1, by omega, fun x' y' h1 h2 h3 h4 => zI64.2.2 x' y' h1 h2 h3 (by omega)⟩
      exact zL64 _ σ1 (0) rfl ⟨fun c j hq => rfl, by omega, fun x' y' h1 h2 h3 h4 => by omega⟩
    · skip
      refine y_iconst (pc := 60) hF dX11_halves_60 ?_
      exact y_zret (pc := 61) hF dX11_halves_61 (by decide) (Nat.zero_le _) (Nat.zero_le _) ⟨_, rfl, rfl, zw1 _ (fun c j hq => rfl), zh1 _ (fun c j hq => rfl), zfr _ (fun c j hq => rfl), by rw [show (decide (3 ≤ (w + 1) / 2) && decide (3 ≤ (h + 1) / 2)) = false by simp; omega]; rfl, fun zq => by omega⟩
