theorem dX11_differs_0 : decode cX11_differs 0 = .ok (.iconst 0, 1) := by decide +kernel
theorem dX11_differs_1 : decode cX11_differs 1 = .ok (.istore 8, 2) := by decide +kernel
theorem dX11_differs_3 : decode cX11_differs 3 = .ok (.iload_n 3, 1) := by decide +kernel
theorem dX11_differs_4 : decode cX11_differs 4 = .ok (.aload_n 0, 1) := by decide +kernel
theorem dX11_differs_5 : decode cX11_differs 5 = .ok (.getfield 37, 3) := by decide +kernel
theorem dX11_differs_8 : decode cX11_differs 8 = .ok (.iconst 0, 1) := by decide +kernel
theorem dX11_differs_9 : decode cX11_differs 9 = .ok (.iaload, 1) := by decide +kernel
theorem dX11_differs_10 : decode cX11_differs 10 = .ok (.isub, 1) := by decide +kernel
theorem dX11_differs_11 : decode cX11_differs 11 = .ok (.istore 9, 2) := by decide +kernel
theorem dX11_differs_13 : decode cX11_differs 13 = .ok (.iload 9, 2) := by decide +kernel
theorem dX11_differs_15 : decode cX11_differs 15 = .ok (.iload_n 3, 1) := by decide +kernel
theorem dX11_differs_16 : decode cX11_differs 16 = .ok (.aload_n 0, 1) := by decide +kernel
theorem dX11_differs_17 : decode cX11_differs 17 = .ok (.getfield 37, 3) := by decide +kernel
theorem dX11_differs_20 : decode cX11_differs 20 = .ok (.iconst 0, 1) := by decide +kernel
theorem dX11_differs_21 : decode cX11_differs 21 = .ok (.iaload, 1) := by decide +kernel
theorem dX11_differs_22 : decode cX11_differs 22 = .ok (.iadd, 1) := by decide +kernel
theorem dX11_differs_23 : decode cX11_differs 23 = .ok (.if_icmp .gt 117, 3) := by decide +kernel
theorem dX11_differs_26 : decode cX11_differs 26 = .ok (.iload_n 2, 1) := by decide +kernel
theorem dX11_differs_27 : decode cX11_differs 27 = .ok (.aload_n 0, 1) := by decide +kernel
theorem dX11_differs_28 : decode cX11_differs 28 = .ok (.getfield 37, 3) := by decide +kernel
theorem dX11_differs_31 : decode cX11_differs 31 = .ok (.iconst 0, 1) := by decide +kernel
theorem dX11_differs_32 : decode cX11_differs 32 = .ok (.iaload, 1) := by decide +kernel
theorem dX11_differs_33 : decode cX11_differs 33 = .ok (.isub, 1) := by decide +kernel
theorem dX11_differs_34 : decode cX11_differs 34 = .ok (.istore 10, 2) := by decide +kernel
theorem dX11_differs_36 : decode cX11_differs 36 = .ok (.iload 10, 2) := by decide +kernel
theorem dX11_differs_38 : decode cX11_differs 38 = .ok (.iload_n 2, 1) := by decide +kernel
theorem dX11_differs_39 : decode cX11_differs 39 = .ok (.aload_n 0, 1) := by decide +kernel
theorem dX11_differs_40 : decode cX11_differs 40 = .ok (.getfield 37, 3) := by decide +kernel
theorem dX11_differs_43 : decode cX11_differs 43 = .ok (.iconst 0, 1) := by decide +kernel
theorem dX11_differs_44 : decode cX11_differs 44 = .ok (.iaload, 1) := by decide +kernel
theorem dX11_differs_45 : decode cX11_differs 45 = .ok (.iadd, 1) := by decide +kernel
theorem dX11_differs_46 : decode cX11_differs 46 = .ok (.if_icmp .gt 88, 3) := by decide +kernel
theorem dX11_differs_49 : decode cX11_differs 49 = .ok (.aload_n 0, 1) := by decide +kernel
theorem dX11_differs_50 : decode cX11_differs 50 = .ok (.iload_n 1, 1) := by decide +kernel
theorem dX11_differs_51 : decode cX11_differs 51 = .ok (.iload 10, 2) := by decide +kernel
theorem dX11_differs_53 : decode cX11_differs 53 = .ok (.iload 9, 2) := by decide +kernel
theorem dX11_differs_55 : decode cX11_differs 55 = .ok (.invokevirtual 78, 3) := by decide +kernel
theorem dX11_differs_58 : decode cX11_differs 58 = .ok (.ifCond .ne 6, 3) := by decide +kernel
theorem dX11_differs_61 : decode cX11_differs 61 = .ok (.goto 67, 3) := by decide +kernel
theorem dX11_differs_64 : decode cX11_differs 64 = .ok (.aload_n 0, 1) := by decide +kernel
theorem dX11_differs_65 : decode cX11_differs 65 = .ok (.iload_n 1, 1) := by decide +kernel
theorem dX11_differs_66 : decode cX11_differs 66 = .ok (.iload_n 2, 1) := by decide +kernel
theorem dX11_differs_67 : decode cX11_differs 67 = .ok (.iload_n 3, 1) := by decide +kernel
theorem dX11_differs_68 : decode cX11_differs 68 = .ok (.iload 10, 2) := by decide +kernel
theorem dX11_differs_70 : decode cX11_differs 70 = .ok (.iload 9, 2) := by decide +kernel
theorem dX11_differs_72 : decode cX11_differs 72 = .ok (.iload 4, 2) := by decide +kernel
theorem dX11_differs_74 : decode cX11_differs 74 = .ok (.iload 5, 2) := by decide +kernel
theorem dX11_differs_76 : decode cX11_differs 76 = .ok (.iload 6, 2) := by decide +kernel
theorem dX11_differs_78 : decode cX11_differs 78 = .ok (.invokevirtual 136, 3) := by decide +kernel
theorem dX11_differs_81 : decode cX11_differs 81 = .ok (.aload_n 0, 1) := by decide +kernel
theorem dX11_differs_82 : decode cX11_differs 82 = .ok (.getfield 143, 3) := by decide +kernel
theorem dX11_differs_85 : decode cX11_differs 85 = .ok (.isub, 1) := by decide +kernel
theorem dX11_differs_86 : decode cX11_differs 86 = .ok (.istore 11, 2) := by decide +kernel
theorem dX11_differs_88 : decode cX11_differs 88 = .ok (.iload 8, 2) := by decide +kernel
theorem dX11_differs_90 : decode cX11_differs 90 = .ok (.iload 11, 2) := by decide +kernel
theorem dX11_differs_92 : decode cX11_differs 92 = .ok (.iload 11, 2) := by decide +kernel
theorem dX11_differs_94 : decode cX11_differs 94 = .ok (.imul, 1) := by decide +kernel
theorem dX11_differs_95 : decode cX11_differs 95 = .ok (.aload_n 0, 1) := by decide +kernel
theorem dX11_differs_96 : decode cX11_differs 96 = .ok (.iload_n 1, 1) := by decide +kernel
theorem dX11_differs_97 : decode cX11_differs 97 = .ok (.iload 10, 2) := by decide +kernel
theorem dX11_differs_99 : decode cX11_differs 99 = .ok (.iload 9, 2) := by decide +kernel
theorem dX11_differs_101 : decode cX11_differs 101 = .ok (.invokevirtual 140, 3) := by decide +kernel
theorem dX11_differs_104 : decode cX11_differs 104 = .ok (.imul, 1) := by decide +kernel
theorem dX11_differs_105 : decode cX11_differs 105 = .ok (.iadd, 1) := by decide +kernel
theorem dX11_differs_106 : decode cX11_differs 106 = .ok (.istore 8, 2) := by decide +kernel
theorem dX11_differs_108 : decode cX11_differs 108 = .ok (.aload_n 0, 1) := by decide +kernel
theorem dX11_differs_109 : decode cX11_differs 109 = .ok (.dup, 1) := by decide +kernel
theorem dX11_differs_110 : decode cX11_differs 110 = .ok (.getfield 149, 3) := by decide +kernel
theorem dX11_differs_113 : decode cX11_differs 113 = .ok (.iconst 1, 1) := by decide +kernel
theorem dX11_differs_114 : decode cX11_differs 114 = .ok (.iadd, 1) := by decide +kernel
theorem dX11_differs_115 : decode cX11_differs 115 = .ok (.putfield 149, 3) := by decide +kernel
theorem dX11_differs_118 : decode cX11_differs 118 = .ok (.iload 8, 2) := by decide +kernel
theorem dX11_differs_120 : decode cX11_differs 120 = .ok (.iload 7, 2) := by decide +kernel
theorem dX11_differs_122 : decode cX11_differs 122 = .ok (.if_icmp .lt 6, 3) := by decide +kernel
theorem dX11_differs_125 : decode cX11_differs 125 = .ok (.iload 8, 2) := by decide +kernel
theorem dX11_differs_127 : decode cX11_differs 127 = .ok (.ireturn, 1) := by decide +kernel
theorem dX11_differs_128 : decode cX11_differs 128 = .ok (.iinc 10 1, 3) := by decide +kernel
theorem dX11_differs_131 : decode cX11_differs 131 = .ok (.goto (-95), 3) := by decide +kernel
theorem dX11_differs_134 : decode cX11_differs 134 = .ok (.iinc 9 1, 3) := by decide +kernel
theorem dX11_differs_137 : decode cX11_differs 137 = .ok (.goto (-124), 3) := by decide +kernel
theorem dX11_differs_140 : decode cX11_differs 140 = .ok (.iload 8, 2) := by decide +kernel
theorem dX11_differs_142 : decode cX11_differs 142 = .ok (.ireturn, 1) := by decide +kernel
set_option maxHeartbeats 4000000 in
set_option maxRecDepth 100000 in
theorem tX11_differs {l : Launch} {g : yG} {n : Nat} {σ : yM} (z : Nat) (w h : Int) (T S F P O : Int → Int → Int) (s re fo ra tu we sh : Int) (hn : 172 ≤ n) (hz : z < 3) (hA : rM σ z w h T S F P O) (hS : rS σ 166 s re fo ra tu we sh) (x y u v way : Int) (hi : sIn w h x y = true) (hq : sPl w h T s u v) (huv : sIn w h u v = true) (hy : 0 ≤ way ∧ way ≤ 7) (le : Int) (hle : 1 ≤ le ∧ le ≤ 1000000000) (hsf : -255 ≤ σ 155 16 ∧ σ 155 16 ≤ 255) : yMet l g yX11_differs cX11_differs 12 (some .int) (rmL 4) [yR g 155, yI (z : Int), yI x, yI y, yI u, yI v, yI way, yI le] (SC g) n σ (SC g) (yPi (fun v' n' σ' => n' = n ∧ v' = (sDf w h T S s we x y u v way (σ 155 16) le).1 ∧ fR 18 18 σ σ' ∧ σ' 155 18 = σ 155 18 + (sDf w h T S s we x y u v way (σ 155 16) le).2)) := by
  obtain ⟨hw1, hw2, hw3, hw4⟩ := id hA.1.1
  obtain ⟨hs1, hs2, hs3, hs4, hs5, hs6, hs7⟩ := id hS.2
  have zi := sIn_iff.mp hi
  have zu := sIn_iff.mp huv
  refine y_start (by decide) (Nat.le_of_ble_eq_true rfl) (fun X0 hF => ?_)
  show yV X0 g 12 (yQ X0 g (SC g) (yPi (fun v' n' σ' => n' = n ∧ v' = (sDf w h T S s we x y u v way (σ 155 16) le).1 ∧ fR 18 18 σ σ' ∧ σ' 155 18 = σ 155 18 + (sDf w h T S s we x y u v way (σ 155 16) le).2)) (rmL 4)) (SC g) n σ 0 0 0 [(0, yR g 155), (1, yI (z : Int)), (2, yI x), (3, yI y), (4, yI u), (5, yI v), (6, yI way), (7, yI le)] []
  refine y_iconst (pc := 0) hF dX11_differs_0 ?_
  refine y_istore (pc := 1) (lv' := [(0, yR g 155), (1, yI (z : Int)), (2, yI x), (3, yI y), (4, yI u), (5, yI v), (6, yI way), (7, yI le), (8, yI 0)]) hF dX11_differs_1 (by decide) rfl rfl ?_
  refine y_iload_n (pc := 3) hF dX11_differs_3 3 rfl ?_
  refine y_aload_n (pc := 4) hF dX11_differs_4 0 rfl ?_
  refine y_get (pc := 5) (ci := 11) hF dX11_differs_5 (by omega) rfl rfl rfl iX11 10 (by decide) w_1257 rfl ?_
  refine y_iconst (pc := 8) hF dX11_differs_8 ?_
  refine y_iaload (pc := 9) hF dX11_differs_9 (by omega) rfl (by omega) (by decide) ?_
  rw [show σ 166 0 = s from hS.1.1]
  refine y_isub (pc := 10) hF dX11_differs_10 ?_
  refine y_istore (pc := 11) (lv' := [(0, yR g 155), (1, yI (z : Int)), (2, yI x), (3, yI y), (4, yI u), (5, yI v), (6, yI way), (7, yI le), (8, yI 0), (9, yI (y - s))]) hF dX11_differs_11 (by decide) rfl rfl ?_
  have zL13 : ∀ (N : Nat) (τ : yM) (j a : Int), N = (y + s + 1 - j).toNat → (fR 18 18 σ τ ∧ (y - s ≤ j ∧ j ≤ y + s + 1) ∧ (0 ≤ a ∧ a ≤ 1300500 * (τ 155 18 - σ 155 18) ∧ a < le) ∧ (τ 155 18 - σ 155 18 ≤ 7 * (j - (y - s))) ∧ (a, τ 155 18 - σ 155 18) = fr (fun q j => fr (fun q i => dfF w h T S we x y u v way (σ 155 16) le q i j) (x - s) (2 * s + 1).toNat q) (y - s) (j - (y - s)).toNat (0, 0)) → yV X0 g 12 (yQ X0 g (SC g) (yPi (fun v' n' σ' => n' = n ∧ v' = (sDf w h T S s we x y u v way (σ 155 16) le).1 ∧ fR 18 18 σ σ' ∧ σ' 155 18 = σ 155 18 + (sDf w h T S s we x y u v way (σ 155 16) le).2)) (rmL 4)) (SC g) n τ 0 0 13 [(0, yR g 155), (1, yI (z : Int)), (2, yI x), (3, yI y), (4, yI u), (5, yI v), (6, yI way), (7, yI le), (8, yI a), (9, yI j)] [] := by
    intro N
    induction N using Nat.strongRecOn with
    | ind N zh13 =>
      intro τ  j a  zN13 zI13
      have zA_τ := hA.fR hz zI13.1
      have zS_τ := hS.fR (by omega) zI13.1
      refine y_iload (pc := 13) hF dX11_differs_13 9 rfl ?_
      refine y_iload_n (pc := 15) hF dX11_differs_15 3 rfl ?_
      refine y_aload_n (pc := 16) hF dX11_differs_16 0 rfl ?_
      refine y_get (pc := 17) (ci := 11) hF dX11_differs_17 (by omega) rfl rfl rfl iX11 10 (by decide) w_1257 rfl ?_
      refine y_iconst (pc := 20) hF dX11_differs_20 ?_
      refine y_iaload (pc := 21) hF dX11_differs_21 (by omega) rfl (by omega) (by decide) ?_
      rw [show τ 166 0 = s from zS_τ.1.1]
      refine y_iadd (pc := 22) hF dX11_differs_22 ?_
      refine y_icmp_gt (pc := 23) hF dX11_differs_23 140 rfl (by omega) (by omega) (fun zc23 => ?_) (fun zc23 => ?_)
      · skip
        have ze : (a, τ 155 18 - σ 155 18) = sDf w h T S s we x y u v way (σ 155 16) le := by rw [zI13.2.2.2.2, show j - (y - s) = 2 * s + 1 by omega]; rfl
        refine y_iload (pc := 140) hF dX11_differs_140 8 rfl ?_
        exact y_iret (pc := 142) hF dX11_differs_142 (Nat.zero_le _) (Nat.zero_le _) ⟨_, rfl, rfl, by rw [← ze], zI13.1, by rw [← ze]; omega⟩
      · skip
        refine y_iload_n (pc := 26) hF dX11_differs_26 2 rfl ?_
        refine y_aload_n (pc := 27) hF dX11_differs_27 0 rfl ?_
        refine y_get (pc := 28) (ci := 11) hF dX11_differs_28 (by omega) rfl rfl rfl iX11 10 (by decide) w_1257 rfl ?_
        refine y_iconst (pc := 31) hF dX11_differs_31 ?_
        refine y_iaload (pc := 32) hF dX11_differs_32 (by omega) rfl (by omega) (by decide) ?_
        rw [show τ 166 0 = s from zS_τ.1.1]
        refine y_isub (pc := 33) hF dX11_differs_33 ?_
        refine y_istore (pc := 34) (lv' := [(0, yR g 155), (1, yI (z : Int)), (2, yI x), (3, yI y), (4, yI u), (5, yI v), (6, yI way), (7, yI le), (8, yI a), (9, yI j), (10, yI (x - s))]) hF dX11_differs_34 (by decide) rfl rfl ?_
        have zL36 : ∀ (N : Nat) (υ : yM) (i a2 : Int), N = (x + s + 1 - i).toNat → (fR 18 18 σ υ ∧ (x - s ≤ i ∧ i ≤ x + s + 1) ∧ (0 ≤ a2 ∧ a2 ≤ 1300500 * (υ 155 18 - σ 155 18) ∧ a2 < le) ∧ (υ 155 18 - σ 155 18 ≤ τ 155 18 - σ 155 18 + (i - (x - s))) ∧ (a2, υ 155 18 - σ 155 18) = fr (fun q i => dfF w h T S we x y u v way (σ 155 16) le q i j) (x - s) (i - (x - s)).toNat (a, τ 155 18 - σ 155 18)) → yV X0 g 12 (yQ X0 g (SC g) (yPi (fun v' n' σ' => n' = n ∧ v' = (sDf w h T S s we x y u v way (σ 155 16) le).1 ∧ fR 18 18 σ σ' ∧ σ' 155 18 = σ 155 18 + (sDf w h T S s we x y u v way (σ 155 16) le).2)) (rmL 4)) (SC g) n υ 0 0 36 [(0, yR g 155), (1, yI (z : Int)), (2, yI x), (3, yI y), (4, yI u), (5, yI v), (6, yI way), (7, yI le), (8, yI a2), (9, yI j), (10, yI i)] [] := by
          intro N
          induction N using Nat.strongRecOn with
          | ind N zh36 =>
            intro υ  i a2  zN36 zI36
            have zA_υ := hA.fR hz zI36.1
            have zS_υ := hS.fR (by omega) zI36.1
            refine y_iload (pc := 36) hF dX11_differs_36 10 rfl ?_
            refine y_iload_n (pc := 38) hF dX11_differs_38 2 rfl ?_
            refine y_aload_n (pc := 39) hF dX11_differs_39 0 rfl ?_
            refine y_get (pc := 40) (ci := 11) hF dX11_differs_40 (by omega) rfl rfl rfl iX11 10 (by decide) w_1257 rfl ?_
            refine y_iconst (pc := 43) hF dX11_differs_43 ?_
            refine y_iaload (pc := 44) hF dX11_differs_44 (by omega) rfl (by omega) (by decide) ?_
            rw [show υ 166 0 = s from zS_υ.1.1]
            refine y_iadd (pc := 45) hF dX11_differs_45 ?_
            refine y_icmp_gt (pc := 46) hF dX11_differs_46 134 rfl (by omega) (by omega) (fun zc46 => ?_) (fun zc46 => ?_)
            · skip
              refine y_iinc (pc := 134) (lv' := [(0, yR g 155), (1, yI (z : Int)), (2, yI x), (3, yI y), (4, yI u), (5, yI v), (6, yI way), (7, yI le), (8, yI a2), (9, yI (j + 1)), (10, yI i)]) hF dX11_differs_134 9 rfl (by decide) rfl rfl ?_
              refine y_goto (pc := 137) hF dX11_differs_137 13 rfl ?_
              refine y_sub [0, 1, 2, 3, 4, 5, 6, 7, 8, 9] rfl ?_
              exact zh13 _ (by omega) υ (j + 1) (a2) rfl ⟨zI36.1, by omega, by omega, by omega, by rw [fr_up' _ _ zI13.2.1.1, ← zI13.2.2.2.2, zI36.2.2.2.2, show i - (x - s) = 2 * s + 1 by omega]⟩
            · skip
              refine y_aload_n (pc := 49) hF dX11_differs_49 0 rfl ?_
              refine y_iload_n (pc := 50) hF dX11_differs_50 1 rfl ?_
              refine y_iload (pc := 51) hF dX11_differs_51 10 rfl ?_
              refine y_iload (pc := 53) hF dX11_differs_53 9 rfl ?_
              refine y_cp (y_rV (pc := 55) hF (tX11_isKnown z w h T S F P O hn hz zA_υ i j (by omega) (by omega)) dX11_differs_55 (by omega) rfl rfl rfl w_1440 qX11_isKnown rfl ⟨Nat.le_of_ble_eq_true rfl, Nat.le_of_ble_eq_true rfl⟩ ⟨Nat.zero_le _, Nat.zero_le _⟩ (Nat.le_of_ble_eq_true rfl) rfl) ?_
              refine y_if_ne (pc := 58) hF dX11_differs_58 64 rfl bi_r (fun zc58 => ?_) (fun zc58 => ?_)
              · replace zc58 := bi_n0.mp zc58
                have zw := sWt_bd (we := we) (hA.1.S i j (sKn_in zc58))
                have zp := sAp_bd hA.1 (way := way) (x := x) (y := y) hq zc58 (by omega) (by omega)
                have zsq := y_sq (a := sAp T x y i j u v way - σ 155 16) (b := sWt S we i j) (by omega) zw
                have zq : dfF w h T S we x y u v way (σ 155 16) le (a2, υ 155 18 - σ 155 18) i j = (a2 + (sAp T x y i j u v way - σ 155 16) * (sAp T x y i j u v way - σ 155 16) * sWt S we i j, υ 155 18 - σ 155 18 + 1) := by unfold dfF; rw [if_pos zc58, if_neg (show ¬ (le ≤ a2) by omega)]
                refine y_aload_n (pc := 64) hF dX11_differs_64 0 rfl ?_
                refine y_iload_n (pc := 65) hF dX11_differs_65 1 rfl ?_
                refine y_iload_n (pc := 66) hF dX11_differs_66 2 rfl ?_
                refine y_iload_n (pc := 67) hF dX11_differs_67 3 rfl ?_
                refine y_iload (pc := 68) hF dX11_differs_68 10 rfl ?_
                refine y_iload (pc := 70) hF dX11_differs_70 9 rfl ?_
                refine y_iload (pc := 72) hF dX11_differs_72 4 rfl ?_
                refine y_iload (pc := 74) hF dX11_differs_74 5 rfl ?_
                refine y_iload (pc := 76) hF dX11_differs_76 6 rfl ?_
                refine y_cp (y_rV (pc := 78) hF (tX11_apart z w h T S F P O hn hz zA_υ x y i j u v way (by omega) (sKn_in zc58) (sKn_in (hq.at (by omega) (by omega)))) dX11_differs_78 (by omega) rfl rfl rfl w_1557 qX11_apart rfl ⟨Nat.le_of_ble_eq_true rfl, Nat.le_of_ble_eq_true rfl⟩ ⟨Nat.zero_le _, Nat.zero_le _⟩ (Nat.le_of_ble_eq_true rfl) rfl) ?_
                refine y_aload_n (pc := 81) hF dX11_differs_81 0 rfl ?_
                refine y_get (pc := 82) (ci := 11) hF dX11_differs_82 (by omega) rfl rfl rfl iX11 16 (by decide) w_1263 rfl ?_
                rw [show υ 155 16 = σ 155 16 from (zI36.1 155 16 (by omega))]
                refine y_isub (pc := 85) hF dX11_differs_85 ?_
                refine y_istore (pc := 86) (lv' := [(0, yR g 155), (1, yI (z : Int)), (2, yI x), (3, yI y), (4, yI u), (5, yI v), (6, yI way), (7, yI le), (8, yI a2), (9, yI j), (10, yI i), (11, yI ((sAp T x y i j u v way) - (σ 155 16)))]) hF dX11_differs_86 (by decide) rfl rfl ?_
                refine y_iload (pc := 88) hF dX11_differs_88 8 rfl ?_
                refine y_iload (pc := 90) hF dX11_differs_90 11 rfl ?_
                refine y_iload (pc := 92) hF dX11_differs_92 11 rfl ?_
                refine y_imul (pc := 94) hF dX11_differs_94 ?_
                refine y_aload_n (pc := 95) hF dX11_differs_95 0 rfl ?_
                refine y_iload_n (pc := 96) hF dX11_differs_96 1 rfl ?_
                refine y_iload (pc := 97) hF dX11_differs_97 10 rfl ?_
                refine y_iload (pc := 99) hF dX11_differs_99 9 rfl ?_
                refine y_cp (y_rV (pc := 101) hF (tX11_weight z w h T S F P O s re fo ra tu we sh hn hz zA_υ zS_υ i j (sKn_in zc58)) dX11_differs_101 (by omega) rfl rfl rfl w_1567 qX11_weight rfl ⟨Nat.le_of_ble_eq_true rfl, Nat.le_of_ble_eq_true rfl⟩ ⟨Nat.zero_le _, Nat.zero_le _⟩ (Nat.le_of_ble_eq_true rfl) rfl) ?_
                refine y_imul (pc := 104) hF dX11_differs_104 ?_
                refine y_iadd (pc := 105) hF dX11_differs_105 ?_
                refine y_istore (pc := 106) (lv' := [(0, yR g 155), (1, yI (z : Int)), (2, yI x), (3, yI y), (4, yI u), (5, yI v), (6, yI way), (7, yI le), (8, yI (a2 + ((((sAp T x y i j u v way) - (σ 155 16)) * ((sAp T x y i j u v way) - (σ 155 16))) * (sWt S we i j)))), (9, yI j), (10, yI i), (11, yI ((sAp T x y i j u v way) - (σ 155 16)))]) hF dX11_differs_106 (by decide) rfl rfl ?_
                refine y_aload_n (pc := 108) hF dX11_differs_108 0 rfl ?_
                refine y_dup (pc := 109) hF dX11_differs_109 rfl ?_
                refine y_get (pc := 110) (ci := 11) hF dX11_differs_110 (by omega) rfl rfl rfl iX11 18 (by decide) w_1265 rfl ?_
                refine y_iconst (pc := 113) hF dX11_differs_113 ?_
                refine y_iadd (pc := 114) hF dX11_differs_114 ?_
                refine y_putf (pc := 115) (ci := 11) (σ' := yset υ 155 18 ((υ 155 18) + 1)) (sch' := (SC g)) hF dX11_differs_115 (by omega) rfl rfl rfl iX11 18 (by decide) w_1265 tyX11 tyX11_ok nmX11 rfl rfl rfl rfl (Nat.le_of_ble_eq_true rfl) rfl (y_ps rfl) (fun k' h => ⟨yset_n h, rfl⟩) ?_
                refine y_iload (pc := 118) hF dX11_differs_118 8 rfl ?_
                refine y_iload (pc := 120) hF dX11_differs_120 7 rfl ?_
                refine y_icmp_lt (pc := 122) hF dX11_differs_122 128 rfl (by omega) (by omega) (fun zc122 => ?_) (fun zc122 => ?_)
                · skip
                  refine y_iinc (pc := 128) (lv' := [(0, yR g 155), (1, yI (z : Int)), (2, yI x), (3, yI y), (4, yI u), (5, yI v), (6, yI way), (7, yI le), (8, yI (a2 + ((((sAp T x y i j u v way) - (σ 155 16)) * ((sAp T x y i j u v way) - (σ 155 16))) * (sWt S we i j)))), (9, yI j), (10, yI (i + 1)), (11, yI ((sAp T x y i j u v way) - (σ 155 16)))]) hF dX11_differs_128 10 rfl (by decide) rfl rfl ?_
                  refine y_goto (pc := 131) hF dX11_differs_131 36 rfl ?_
                  refine y_sub [0, 1, 2, 3, 4, 5, 6, 7, 8, 9, 10] rfl ?_
                  exact zh36 _ (by omega) (yset υ 155 18 ((υ 155 18) + 1)) (i + 1) (a2 + ((((sAp T x y i j u v way) - (σ 155 16)) * ((sAp T x y i j u v way) - (σ 155 16))) * (sWt S we i j))) rfl ⟨zI36.1.st (by omega), by omega, by simp only [yset_e]; omega, by simp only [yset_e]; omega, by rw [fr_up' _ _ zI36.2.1.1, ← zI36.2.2.2.2, zq, yset_e, show υ 155 18 + 1 - σ 155 18 = υ 155 18 - σ 155 18 + 1 by omega]⟩
                · skip
                  have zr1 := fr_up' (fun q i => dfF w h T S we x y u v way (σ 155 16) le q i j) (a, τ 155 18 - σ 155 18) zI36.2.1.1
                  rw [← zI36.2.2.2.2, zq] at zr1
                  have zr2 := fr_stop (N := (2 * s + 1).toNat) (by omega) zr1 (fun i => dfF_fix zc122 i j)
                  have zr3 := fr_up' (fun q j => fr (fun q i => dfF w h T S we x y u v way (σ 155 16) le q i j) (x - s) (2 * s + 1).toNat q) (0, 0) zI13.2.1.1
                  rw [← zI13.2.2.2.2, zr2] at zr3
                  have zr4 := fr_stop (N := (2 * s + 1).toNat) (by omega) zr3 (fun j => fr_fix (fun i => dfF_fix zc122 i j) _)
                  have ze : sDf w h T S s we x y u v way (σ 155 16) le = (a2 + (sAp T x y i j u v way - σ 155 16) * (sAp T x y i j u v way - σ 155 16) * sWt S we i j, υ 155 18 - σ 155 18 + 1) := zr4
                  refine y_iload (pc := 125) hF dX11_differs_125 8 rfl ?_
                  exact y_iret (pc := 127) hF dX11_differs_127 (Nat.zero_le _) (Nat.zero_le _) ⟨_, rfl, rfl, by rw [ze], zI36.1.st (by omega), by rw [ze, yset_e]; omega⟩
              · replace zc58 := bi_0.mp zc58
                refine y_goto (pc := 61) hF dX11_differs_61 128 rfl ?_
                refine y_iinc (pc := 128) (lv' := [(0, yR g 155), (1, yI (z : Int)), (2, yI x), (3, yI y), (4, yI u), (5, yI v), (6, yI way), (7, yI le), (8, yI a2), (9, yI j), (10, yI (i + 1))]) hF dX11_differs_128 10 rfl (by decide) rfl rfl ?_
                refine y_goto (pc := 131) hF dX11_differs_131 36 rfl ?_
                exact zh36 _ (by omega) υ (i + 1) (a2) rfl ⟨zI36.1, by omega, by omega, by omega, by rw [fr_up' _ _ zI36.2.1.1, ← zI36.2.2.2.2]; simp [dfF, zc58]⟩
        exact zL36 _ τ (x - s) (a) rfl ⟨zI13.1, by omega, by omega, by omega, (fr_no _ _ _).symm⟩
  exact zL13 _ σ (y - s) (0) rfl ⟨fR.rf σ, by omega, by omega, by omega, by rw [fr_no, Int.sub_self]⟩

theorem dX11_begins_0 : decode cX11_begins 0 = .ok (.aload_n 0, 1) := by decide +kernel
theorem dX11_begins_1 : decode cX11_begins 1 = .ok (.iconst (-1), 1) := by decide +kernel
theorem dX11_begins_2 : decode cX11_begins 2 = .ok (.putfield 152, 3) := by decide +kernel
theorem dX11_begins_5 : decode cX11_begins 5 = .ok (.aload_n 0, 1) := by decide +kernel
theorem dX11_begins_6 : decode cX11_begins 6 = .ok (.iconst (-1), 1) := by decide +kernel
theorem dX11_begins_7 : decode cX11_begins 7 = .ok (.putfield 155, 3) := by decide +kernel
theorem dX11_begins_10 : decode cX11_begins 10 = .ok (.aload_n 0, 1) := by decide +kernel
theorem dX11_begins_11 : decode cX11_begins 11 = .ok (.iconst (-1), 1) := by decide +kernel
theorem dX11_begins_12 : decode cX11_begins 12 = .ok (.putfield 158, 3) := by decide +kernel
theorem dX11_begins_15 : decode cX11_begins 15 = .ok (.aload_n 0, 1) := by decide +kernel
theorem dX11_begins_16 : decode cX11_begins 16 = .ok (.iconst 0, 1) := by decide +kernel
theorem dX11_begins_17 : decode cX11_begins 17 = .ok (.putfield 161, 3) := by decide +kernel
theorem dX11_begins_20 : decode cX11_begins 20 = .ok (.aload_n 0, 1) := by decide +kernel
theorem dX11_begins_21 : decode cX11_begins 21 = .ok (.iconst (-1), 1) := by decide +kernel
theorem dX11_begins_22 : decode cX11_begins 22 = .ok (.putfield 164, 3) := by decide +kernel
theorem dX11_begins_25 : decode cX11_begins 25 = .ok (.aload_n 0, 1) := by decide +kernel
theorem dX11_begins_26 : decode cX11_begins 26 = .ok (.iconst 0, 1) := by decide +kernel
theorem dX11_begins_27 : decode cX11_begins 27 = .ok (.putfield 167, 3) := by decide +kernel
theorem dX11_begins_30 : decode cX11_begins 30 = .ok (.aload_n 0, 1) := by decide +kernel
theorem dX11_begins_31 : decode cX11_begins 31 = .ok (.iconst 0, 1) := by decide +kernel
theorem dX11_begins_32 : decode cX11_begins 32 = .ok (.putfield 170, 3) := by decide +kernel
theorem dX11_begins_35 : decode cX11_begins 35 = .ok (.aload_n 0, 1) := by decide +kernel
theorem dX11_begins_36 : decode cX11_begins 36 = .ok (.iconst 0, 1) := by decide +kernel
theorem dX11_begins_37 : decode cX11_begins 37 = .ok (.putfield 173, 3) := by decide +kernel
theorem dX11_begins_40 : decode cX11_begins 40 = .ok (.aload_n 0, 1) := by decide +kernel
theorem dX11_begins_41 : decode cX11_begins 41 = .ok (.iconst 0, 1) := by decide +kernel
theorem dX11_begins_42 : decode cX11_begins 42 = .ok (.putfield 149, 3) := by decide +kernel
theorem dX11_begins_45 : decode cX11_begins 45 = .ok (.return_, 1) := by decide +kernel
set_option maxHeartbeats 4000000 in
set_option maxRecDepth 100000 in
theorem tX11_begins {l : Launch} {g : yG} {n : Nat} {σ : yM} (hn : 172 ≤ n) : yMet l g yX11_begins cX11_begins 1 none (rmL 1) [yR g 155] (SC g) n σ (SC g) (yPv (fun n' σ' => n' = n ∧ fR 16 26 σ σ' ∧ (σ' 155 19, σ' 155 20, σ' 155 21, σ' 155 22, σ' 155 23, σ' 155 24, σ' 155 25, σ' 155 26, σ' 155 18) = q0)) := by
  refine y_start (by decide) (Nat.le_of_ble_eq_true rfl) (fun X0 hF => ?_)
  show yV X0 g 1 (yQ X0 g (SC g) (yPv (fun n' σ' => n' = n ∧ fR 16 26 σ σ' ∧ (σ' 155 19, σ' 155 20, σ' 155 21, σ' 155 22, σ' 155 23, σ' 155 24, σ' 155 25, σ' 155 26, σ' 155 18) = q0)) (rmL 1)) (SC g) n σ 0 0 0 [(0, yR g 155)] []
  refine y_aload_n (pc := 0) hF dX11_begins_0 0 rfl ?_
  refine y_iconst (pc := 1) hF dX11_begins_1 ?_
  refine y_putf (pc := 2) (ci := 11) (σ' := yset σ 155 19 (-1)) (sch' := (SC g)) hF dX11_begins_2 (by omega) rfl rfl rfl iX11 19 (by decide) w_1266 tyX11 tyX11_ok nmX11 rfl rfl rfl rfl (Nat.le_of_ble_eq_true rfl) rfl (y_ps rfl) (fun k' h => ⟨yset_n h, rfl⟩) ?_
  refine y_aload_n (pc := 5) hF dX11_begins_5 0 rfl ?_
  refine y_iconst (pc := 6) hF dX11_begins_6 ?_
  refine y_putf (pc := 7) (ci := 11) (σ' := yset (yset σ 155 19 (-1)) 155 20 (-1)) (sch' := (SC g)) hF dX11_begins_7 (by omega) rfl rfl rfl iX11 20 (by decide) w_1267 tyX11 tyX11_ok nmX11 rfl rfl rfl rfl (Nat.le_of_ble_eq_true rfl) rfl (y_ps rfl) (fun k' h => ⟨yset_n h, rfl⟩) ?_
  refine y_aload_n (pc := 10) hF dX11_begins_10 0 rfl ?_
  refine y_iconst (pc := 11) hF dX11_begins_11 ?_
  refine y_putf (pc := 12) (ci := 11) (σ' := yset (yset (yset σ 155 19 (-1)) 155 20 (-1)) 155 21 (-1)) (sch' := (SC g)) hF dX11_begins_12 (by omega) rfl rfl rfl iX11 21 (by decide) w_1268 tyX11 tyX11_ok nmX11 rfl rfl rfl rfl (Nat.le_of_ble_eq_true rfl) rfl (y_ps rfl) (fun k' h => ⟨yset_n h, rfl⟩) ?_
  refine y_aload_n (pc := 15) hF dX11_begins_15 0 rfl ?_
  refine y_iconst (pc := 16) hF dX11_begins_16 ?_
  refine y_putf (pc := 17) (ci := 11) (σ' := yset (yset (yset (yset σ 155 19 (-1)) 155 20 (-1)) 155 21 (-1)) 155 22 0) (sch' := (SC g)) hF dX11_begins_17 (by omega) rfl rfl rfl iX11 22 (by decide) w_1269 tyX11 tyX11_ok nmX11 rfl rfl rfl rfl (Nat.le_of_ble_eq_true rfl) rfl (y_ps rfl) (fun k' h => ⟨yset_n h, rfl⟩) ?_
  refine y_aload_n (pc := 20) hF dX11_begins_20 0 rfl ?_
  refine y_iconst (pc := 21) hF dX11_begins_21 ?_
  refine y_putf (pc := 22) (ci := 11) (σ' := yset (yset (yset (yset (yset σ 155 19 (-1)) 155 20 (-1)) 155 21 (-1)) 155 22 0) 155 23 (-1)) (sch' := (SC g)) hF dX11_begins_22 (by omega) rfl rfl rfl iX11 23 (by decide) w_1270 tyX11 tyX11_ok nmX11 rfl rfl rfl rfl (Nat.le_of_ble_eq_true rfl) rfl (y_ps rfl) (fun k' h => ⟨yset_n h, rfl⟩) ?_
  refine y_aload_n (pc := 25) hF dX11_begins_25 0 rfl ?_
  refine y_iconst (pc := 26) hF dX11_begins_26 ?_
  refine y_putf (pc := 27) (ci := 11) (σ' := yset (yset (yset (yset (yset (yset σ 155 19 (-1)) 155 20 (-1)) 155 21 (-1)) 155 22 0) 155 23 (-1)) 155 24 0) (sch' := (SC g)) hF dX11_begins_27 (by omega) rfl rfl rfl iX11 24 (by decide) w_1271 tyX11 tyX11_ok nmX11 rfl rfl rfl rfl (Nat.le_of_ble_eq_true rfl) rfl (y_ps rfl) (fun k' h => ⟨yset_n h, rfl⟩) ?_
  refine y_aload_n (pc := 30) hF dX11_begins_30 0 rfl ?_
  refine y_iconst (pc := 31) hF dX11_begins_31 ?_
  refine y_putf (pc := 32) (ci := 11) (σ' := yset (yset (yset (yset (yset (yset (yset σ 155 19 (-1)) 155 20 (-1)) 155 21 (-1)) 155 22 0) 155 23 (-1)) 155 24 0) 155 25 0) (sch' := (SC g)) hF dX11_begins_32 (by omega) rfl rfl rfl iX11 25 (by decide) w_1272 tyX11 tyX11_ok nmX11 rfl rfl rfl rfl (Nat.le_of_ble_eq_true rfl) rfl (y_ps rfl) (fun k' h => ⟨yset_n h, rfl⟩) ?_
  refine y_aload_n (pc := 35) hF dX11_begins_35 0 rfl ?_
  refine y_iconst (pc := 36) hF dX11_begins_36 ?_
  refine y_putf (pc := 37) (ci := 11) (σ' := yset (yset (yset (yset (yset (yset (yset (yset σ 155 19 (-1)) 155 20 (-1)) 155 21 (-1)) 155 22 0) 155 23 (-1)) 155 24 0) 155 25 0) 155 26 0) (sch' := (SC g)) hF dX11_begins_37 (by omega) rfl rfl rfl iX11 26 (by decide) w_1273 tyX11 tyX11_ok nmX11 rfl rfl rfl rfl (Nat.le_of_ble_eq_true rfl) rfl (y_ps rfl) (fun k' h => ⟨yset_n h, rfl⟩) ?_
  refine y_aload_n (pc := 40) hF dX11_begins_40 0 rfl ?_
  refine y_iconst (pc := 41) hF dX11_begins_41 ?_
  refine y_putf (pc := 42) (ci := 11) (σ' := yset (yset (yset (yset (yset (yset (yset (yset (yset σ 155 19 (-1)) 155 20 (-1)) 155 21 (-1)) 155 22 0) 155 23 (-1)) 155 24 0) 155 25 0) 155 26 0) 155 18 0) (sch' := (SC g)) hF dX11_begins_42 (by omega) rfl rfl rfl iX11 18 (by decide) w_1265 tyX11 tyX11_ok nmX11 rfl rfl rfl rfl (Nat.le_of_ble_eq_true rfl) rfl (y_ps rfl) (fun k' h => ⟨yset_n h, rfl⟩) ?_
  exact y_vret (pc := 45) hF dX11_begins_45 (Nat.zero_le _) (Nat.zero_le _) ⟨rfl, rfl, (((((((((fR.rf σ).st (by omega)).st (by omega)).st (by omega)).st (by omega)).st (by omega)).st (by omega)).st (by omega)).st (by omega)).st (by omega), by simp [yset_ap, q0]⟩

theorem asF_eq {w h : Int} {T S : Int → Int → Int} {s we sh x y u v way le : Int} {q : aQ} (hle : (if q.1 = -1 then 1000000000 else qBd q) = le) : asF w h T S s we sh x y u v q way = asG u v way (sSh w h T S s we sh x y u v way) (sBo w h T S s we sh x y u v way) (sDf w h T S s we x y u v way (sSh w h T S s we sh x y u v way) le).1 (sDf w h T S s we x y u v way (sSh w h T S s we sh x y u v way) le).2 q := by
  unfold asF
  rw [hle]
theorem dX11_asks_0 : decode cX11_asks 0 = .ok (.iconst 0, 1) := by decide +kernel
theorem dX11_asks_1 : decode cX11_asks 1 = .ok (.istore 6, 2) := by decide +kernel
theorem dX11_asks_3 : decode cX11_asks 3 = .ok (.iload 6, 2) := by decide +kernel
theorem dX11_asks_5 : decode cX11_asks 5 = .ok (.iconst 1, 1) := by decide +kernel
theorem dX11_asks_6 : decode cX11_asks 6 = .ok (.aload_n 0, 1) := by decide +kernel
theorem dX11_asks_7 : decode cX11_asks 7 = .ok (.getfield 37, 3) := by decide +kernel
theorem dX11_asks_10 : decode cX11_asks 10 = .ok (.iconst 4, 1) := by decide +kernel
theorem dX11_asks_11 : decode cX11_asks 11 = .ok (.iaload, 1) := by decide +kernel
theorem dX11_asks_12 : decode cX11_asks 12 = .ok (.ishl, 1) := by decide +kernel
theorem dX11_asks_13 : decode cX11_asks 13 = .ok (.if_icmp .ge 164, 3) := by decide +kernel
theorem dX11_asks_16 : decode cX11_asks 16 = .ok (.aload_n 0, 1) := by decide +kernel
theorem dX11_asks_17 : decode cX11_asks 17 = .ok (.dup, 1) := by decide +kernel
theorem dX11_asks_18 : decode cX11_asks 18 = .ok (.getfield 167, 3) := by decide +kernel
theorem dX11_asks_21 : decode cX11_asks 21 = .ok (.iconst 1, 1) := by decide +kernel
theorem dX11_asks_22 : decode cX11_asks 22 = .ok (.iadd, 1) := by decide +kernel
theorem dX11_asks_23 : decode cX11_asks 23 = .ok (.putfield 167, 3) := by decide +kernel
theorem dX11_asks_26 : decode cX11_asks 26 = .ok (.aload_n 0, 1) := by decide +kernel
theorem dX11_asks_27 : decode cX11_asks 27 = .ok (.iload_n 1, 1) := by decide +kernel
theorem dX11_asks_28 : decode cX11_asks 28 = .ok (.iload_n 2, 1) := by decide +kernel
theorem dX11_asks_29 : decode cX11_asks 29 = .ok (.iload_n 3, 1) := by decide +kernel
theorem dX11_asks_30 : decode cX11_asks 30 = .ok (.iload 4, 2) := by decide +kernel
theorem dX11_asks_32 : decode cX11_asks 32 = .ok (.iload 5, 2) := by decide +kernel
theorem dX11_asks_34 : decode cX11_asks 34 = .ok (.iload 6, 2) := by decide +kernel
theorem dX11_asks_36 : decode cX11_asks 36 = .ok (.invokevirtual 176, 3) := by decide +kernel
theorem dX11_asks_39 : decode cX11_asks 39 = .ok (.aload_n 0, 1) := by decide +kernel
theorem dX11_asks_40 : decode cX11_asks 40 = .ok (.getfield 152, 3) := by decide +kernel
theorem dX11_asks_43 : decode cX11_asks 43 = .ok (.iconst (-1), 1) := by decide +kernel
theorem dX11_asks_44 : decode cX11_asks 44 = .ok (.if_icmp .ne 7, 3) := by decide +kernel
theorem dX11_asks_47 : decode cX11_asks 47 = .ok (.iconst 1, 1) := by decide +kernel
theorem dX11_asks_48 : decode cX11_asks 48 = .ok (.goto 4, 3) := by decide +kernel
theorem dX11_asks_51 : decode cX11_asks 51 = .ok (.iconst 0, 1) := by decide +kernel
theorem dX11_asks_52 : decode cX11_asks 52 = .ok (.istore 7, 2) := by decide +kernel
theorem dX11_asks_54 : decode cX11_asks 54 = .ok (.iload 7, 2) := by decide +kernel
theorem dX11_asks_56 : decode cX11_asks 56 = .ok (.ifCond .ne 27, 3) := by decide +kernel
theorem dX11_asks_59 : decode cX11_asks 59 = .ok (.aload_n 0, 1) := by decide +kernel
theorem dX11_asks_60 : decode cX11_asks 60 = .ok (.getfield 146, 3) := by decide +kernel
theorem dX11_asks_63 : decode cX11_asks 63 = .ok (.aload_n 0, 1) := by decide +kernel
theorem dX11_asks_64 : decode cX11_asks 64 = .ok (.getfield 164, 3) := by decide +kernel
theorem dX11_asks_67 : decode cX11_asks 67 = .ok (.if_icmp .lt 16, 3) := by decide +kernel
theorem dX11_asks_70 : decode cX11_asks 70 = .ok (.aload_n 0, 1) := by decide +kernel
theorem dX11_asks_71 : decode cX11_asks 71 = .ok (.dup, 1) := by decide +kernel
theorem dX11_asks_72 : decode cX11_asks 72 = .ok (.getfield 170, 3) := by decide +kernel
theorem dX11_asks_75 : decode cX11_asks 75 = .ok (.iconst 1, 1) := by decide +kernel
theorem dX11_asks_76 : decode cX11_asks 76 = .ok (.iadd, 1) := by decide +kernel
theorem dX11_asks_77 : decode cX11_asks 77 = .ok (.putfield 170, 3) := by decide +kernel
theorem dX11_asks_80 : decode cX11_asks 80 = .ok (.goto 91, 3) := by decide +kernel
theorem dX11_asks_83 : decode cX11_asks 83 = .ok (.aload_n 0, 1) := by decide +kernel
theorem dX11_asks_84 : decode cX11_asks 84 = .ok (.iload_n 1, 1) := by decide +kernel
theorem dX11_asks_85 : decode cX11_asks 85 = .ok (.iload_n 2, 1) := by decide +kernel
theorem dX11_asks_86 : decode cX11_asks 86 = .ok (.iload_n 3, 1) := by decide +kernel
theorem dX11_asks_87 : decode cX11_asks 87 = .ok (.iload 4, 2) := by decide +kernel
theorem dX11_asks_89 : decode cX11_asks 89 = .ok (.iload 5, 2) := by decide +kernel
theorem dX11_asks_91 : decode cX11_asks 91 = .ok (.iload 6, 2) := by decide +kernel
theorem dX11_asks_93 : decode cX11_asks 93 = .ok (.iload 7, 2) := by decide +kernel
theorem dX11_asks_95 : decode cX11_asks 95 = .ok (.ifCond .eq 8, 3) := by decide +kernel
theorem dX11_asks_98 : decode cX11_asks 98 = .ok (.ldc 180, 2) := by decide +kernel
theorem dX11_asks_100 : decode cX11_asks 100 = .ok (.goto 7, 3) := by decide +kernel
theorem dX11_asks_103 : decode cX11_asks 103 = .ok (.aload_n 0, 1) := by decide +kernel
theorem dX11_asks_104 : decode cX11_asks 104 = .ok (.getfield 164, 3) := by decide +kernel
theorem dX11_asks_107 : decode cX11_asks 107 = .ok (.invokevirtual 181, 3) := by decide +kernel
theorem dX11_asks_110 : decode cX11_asks 110 = .ok (.istore 8, 2) := by decide +kernel
theorem dX11_asks_112 : decode cX11_asks 112 = .ok (.iload 7, 2) := by decide +kernel
theorem dX11_asks_114 : decode cX11_asks 114 = .ok (.ifCond .ne 25, 3) := by decide +kernel
theorem dX11_asks_117 : decode cX11_asks 117 = .ok (.iload 8, 2) := by decide +kernel
theorem dX11_asks_119 : decode cX11_asks 119 = .ok (.aload_n 0, 1) := by decide +kernel
theorem dX11_asks_120 : decode cX11_asks 120 = .ok (.getfield 164, 3) := by decide +kernel
theorem dX11_asks_123 : decode cX11_asks 123 = .ok (.if_icmp .lt 16, 3) := by decide +kernel
theorem dX11_asks_126 : decode cX11_asks 126 = .ok (.aload_n 0, 1) := by decide +kernel
theorem dX11_asks_127 : decode cX11_asks 127 = .ok (.dup, 1) := by decide +kernel
theorem dX11_asks_128 : decode cX11_asks 128 = .ok (.getfield 173, 3) := by decide +kernel
theorem dX11_asks_131 : decode cX11_asks 131 = .ok (.iconst 1, 1) := by decide +kernel
theorem dX11_asks_132 : decode cX11_asks 132 = .ok (.iadd, 1) := by decide +kernel
theorem dX11_asks_133 : decode cX11_asks 133 = .ok (.putfield 173, 3) := by decide +kernel
theorem dX11_asks_136 : decode cX11_asks 136 = .ok (.goto 35, 3) := by decide +kernel
theorem dX11_asks_139 : decode cX11_asks 139 = .ok (.aload_n 0, 1) := by decide +kernel
theorem dX11_asks_140 : decode cX11_asks 140 = .ok (.iload 4, 2) := by decide +kernel
theorem dX11_asks_142 : decode cX11_asks 142 = .ok (.putfield 152, 3) := by decide +kernel
theorem dX11_asks_145 : decode cX11_asks 145 = .ok (.aload_n 0, 1) := by decide +kernel
theorem dX11_asks_146 : decode cX11_asks 146 = .ok (.iload 5, 2) := by decide +kernel
theorem dX11_asks_148 : decode cX11_asks 148 = .ok (.putfield 155, 3) := by decide +kernel
theorem dX11_asks_151 : decode cX11_asks 151 = .ok (.aload_n 0, 1) := by decide +kernel
theorem dX11_asks_152 : decode cX11_asks 152 = .ok (.iload 6, 2) := by decide +kernel
theorem dX11_asks_154 : decode cX11_asks 154 = .ok (.putfield 158, 3) := by decide +kernel
theorem dX11_asks_157 : decode cX11_asks 157 = .ok (.aload_n 0, 1) := by decide +kernel
theorem dX11_asks_158 : decode cX11_asks 158 = .ok (.aload_n 0, 1) := by decide +kernel
theorem dX11_asks_159 : decode cX11_asks 159 = .ok (.getfield 143, 3) := by decide +kernel
theorem dX11_asks_162 : decode cX11_asks 162 = .ok (.putfield 161, 3) := by decide +kernel
theorem dX11_asks_165 : decode cX11_asks 165 = .ok (.aload_n 0, 1) := by decide +kernel
theorem dX11_asks_166 : decode cX11_asks 166 = .ok (.iload 8, 2) := by decide +kernel
theorem dX11_asks_168 : decode cX11_asks 168 = .ok (.putfield 164, 3) := by decide +kernel
theorem dX11_asks_171 : decode cX11_asks 171 = .ok (.iinc 6 1, 3) := by decide +kernel
theorem dX11_asks_174 : decode cX11_asks 174 = .ok (.goto (-171), 3) := by decide +kernel
theorem dX11_asks_177 : decode cX11_asks 177 = .ok (.return_, 1) := by decide +kernel
set_option maxHeartbeats 4000000 in
set_option maxRecDepth 100000 in
theorem tX11_asks {l : Launch} {g : yG} {n : Nat} {σ : yM} (z : Nat) (w h : Int) (T S F P O : Int → Int → Int) (s re fo ra tu we sh : Int) (hn : 172 ≤ n) (hz : z < 3) (hA : rM σ z w h T S F P O) (hS : rS σ 166 s re fo ra tu we sh) (x y u v : Int) (hi : sIn w h x y = true) (hq : sPl w h T s u v) (huv : sIn w h u v = true) (hk : qOk w h T s (σ 155 19, σ 155 20, σ 155 21, σ 155 22, σ 155 23, σ 155 24, σ 155 25, σ 155 26, σ 155 18)) (hso : σ 155 24 < 1000000) : yMet l g yX11_asks cX11_asks 9 none (rmL 5) [yR g 155, yI (z : Int), yI x, yI y, yI u, yI v] (SC g) n σ (SC g) (yPv (fun n' σ' => n' = n ∧ fR 16 26 σ σ' ∧ (σ' 155 19, σ' 155 20, σ' 155 21, σ' 155 22, σ' 155 23, σ' 155 24, σ' 155 25, σ' 155 26, σ' 155 18) = sAs w h T S s tu we sh x y u v (σ 155 19, σ 155 20, σ 155 21, σ 155 22, σ 155 23, σ 155 24, σ 155 25, σ 155 26, σ 155 18))) := by
  obtain ⟨hw1, hw2, hw3, hw4⟩ := id hA.1.1
  obtain ⟨hs1, hs2, hs3, hs4, hs5, hs6, hs7⟩ := id hS.2
  have zi := sIn_iff.mp hi
  have zu := sIn_iff.mp huv
  have zp2 := y_p2 hs5
  refine y_start (by decide) (Nat.le_of_ble_eq_true rfl) (fun X0 hF => ?_)
  show yV X0 g 9 (yQ X0 g (SC g) (yPv (fun n' σ' => n' = n ∧ fR 16 26 σ σ' ∧ (σ' 155 19, σ' 155 20, σ' 155 21, σ' 155 22, σ' 155 23, σ' 155 24, σ' 155 25, σ' 155 26, σ' 155 18) = sAs w h T S s tu we sh x y u v (σ 155 19, σ 155 20, σ 155 21, σ 155 22, σ 155 23, σ 155 24, σ 155 25, σ 155 26, σ 155 18))) (rmL 5)) (SC g) n σ 0 0 0 [(0, yR g 155), (1, yI (z : Int)), (2, yI x), (3, yI y), (4, yI u), (5, yI v)] []
  refine y_iconst (pc := 0) hF dX11_asks_0 ?_
  refine y_istore (pc := 1) (lv' := [(0, yR g 155), (1, yI (z : Int)), (2, yI x), (3, yI y), (4, yI u), (5, yI v), (6, yI 0)]) hF dX11_asks_1 (by decide) rfl rfl ?_
  have zL3 : ∀ (N : Nat) (τ : yM) (way : Int), N = (2 ^ tu.toNat - way).toNat → (fR 16 26 σ τ ∧ (0 ≤ way ∧ way ≤ 2 ^ tu.toNat) ∧ (τ 155 19, τ 155 20, τ 155 21, τ 155 22, τ 155 23, τ 155 24, τ 155 25, τ 155 26, τ 155 18) = fr (asF w h T S s we sh x y u v) 0 way.toNat (σ 155 19, σ 155 20, σ 155 21, σ 155 22, σ 155 23, σ 155 24, σ 155 25, σ 155 26, σ 155 18) ∧ qOk w h T s (τ 155 19, τ 155 20, τ 155 21, τ 155 22, τ 155 23, τ 155 24, τ 155 25, τ 155 26, τ 155 18) ∧ τ 155 24 = σ 155 24 + way) → yV X0 g 9 (yQ X0 g (SC g) (yPv (fun n' σ' => n' = n ∧ fR 16 26 σ σ' ∧ (σ' 155 19, σ' 155 20, σ' 155 21, σ' 155 22, σ' 155 23, σ' 155 24, σ' 155 25, σ' 155 26, σ' 155 18) = sAs w h T S s tu we sh x y u v (σ 155 19, σ 155 20, σ 155 21, σ 155 22, σ 155 23, σ 155 24, σ 155 25, σ 155 26, σ 155 18))) (rmL 5)) (SC g) n τ 0 0 3 [(0, yR g 155), (1, yI (z : Int)), (2, yI x), (3, yI y), (4, yI u), (5, yI v), (6, yI way)] [] := by
    intro N
    induction N using Nat.strongRecOn with
    | ind N zh3 =>
      intro τ  way  zN3 zI3
      have zA_τ := hA.fR hz zI3.1
      have zS_τ := hS.fR (by omega) zI3.1
      refine y_iload (pc := 3) hF dX11_asks_3 6 rfl ?_
      refine y_iconst (pc := 5) hF dX11_asks_5 ?_
      refine y_aload_n (pc := 6) hF dX11_asks_6 0 rfl ?_
      refine y_get (pc := 7) (ci := 11) hF dX11_asks_7 (by omega) rfl rfl rfl iX11 10 (by decide) w_1257 rfl ?_
      refine y_iconst (pc := 10) hF dX11_asks_10 ?_
      refine y_iaload (pc := 11) hF dX11_asks_11 (by omega) rfl (by omega) (by decide) ?_
      rw [show τ 166 4 = tu from zS_τ.1.2.2.2.2.1]
      refine y_shl1 (pc := 12) hF dX11_asks_12 (by omega) ?_
      refine y_icmp_ge (pc := 13) hF dX11_asks_13 177 rfl (by omega) (by omega) (fun zc13 => ?_) (fun zc13 => ?_)
      · skip
        exact y_vret (pc := 177) hF dX11_asks_177 (Nat.zero_le _) (Nat.zero_le _) ⟨rfl, rfl, zI3.1, by rw [zI3.2.2.1, show way = 2 ^ tu.toNat by omega, y_p2n hs5]; rfl⟩
      · skip
        obtain ⟨zk1, zk2⟩ := id zI3.2.2.2.1
        refine y_aload_n (pc := 16) hF dX11_asks_16 0 rfl ?_
        refine y_dup (pc := 17) hF dX11_asks_17 rfl ?_
        refine y_get (pc := 18) (ci := 11) hF dX11_asks_18 (by omega) rfl rfl rfl iX11 24 (by decide) w_1271 rfl ?_
        refine y_iconst (pc := 21) hF dX11_asks_21 ?_
        refine y_iadd (pc := 22) hF dX11_asks_22 ?_
        refine y_putf (pc := 23) (ci := 11) (σ' := yset τ 155 24 ((τ 155 24) + 1)) (sch' := (SC g)) hF dX11_asks_23 (by omega) rfl rfl rfl iX11 24 (by decide) w_1271 tyX11 tyX11_ok nmX11 rfl rfl rfl rfl (Nat.le_of_ble_eq_true rfl) rfl (y_ps rfl) (fun k' h => ⟨yset_n h, rfl⟩) ?_
        obtain ⟨m1, hm1⟩ : ∃ s, s = yset τ 155 24 ((τ 155 24) + 1) := ⟨_, rfl⟩
        rw [← hm1]
        have zf1 : fR 16 26 σ m1 := by rw [hm1]; exact zI3.1.st (by omega)
        have zA_m1 := hA.fR hz zf1
        have zS_m1 := hS.fR (by omega) zf1
        refine y_aload_n (pc := 26) hF dX11_asks_26 0 rfl ?_
        refine y_iload_n (pc := 27) hF dX11_asks_27 1 rfl ?_
        refine y_iload_n (pc := 28) hF dX11_asks_28 2 rfl ?_
        refine y_iload_n (pc := 29) hF dX11_asks_29 3 rfl ?_
        refine y_iload (pc := 30) hF dX11_asks_30 4 rfl ?_
        refine y_iload (pc := 32) hF dX11_asks_32 5 rfl ?_
        refine y_iload (pc := 34) hF dX11_asks_34 6 rfl ?_
        refine y_cv (y_rV (pc := 36) hF (tX11_bounds z w h T S F P O s re fo ra tu we sh hn hz zA_m1 zS_m1 x y u v way hi hq huv (by omega)) dX11_asks_36 (by omega) rfl rfl rfl w_1553 qX11_bounds rfl ⟨Nat.le_of_ble_eq_true rfl, Nat.le_of_ble_eq_true rfl⟩ ⟨Nat.zero_le _, Nat.zero_le _⟩ (Nat.le_of_ble_eq_true rfl) rfl) rfl rfl (fun n' σ36 zp36 => ?_)
        obtain ⟨zn36, zp36⟩ := zp36
        have zn36 := zn36.symm
        subst zn36
        have zA_σ36 := zA_m1.fR hz zp36.1
        have zS_σ36 := zS_m1.fR (by omega) zp36.1
        have zv18 : σ36 155 18 = τ 155 18 := by rw [zp36.1 155 18 (by omega), hm1]; simp [yset_ap]
        have zv19 : σ36 155 19 = τ 155 19 := by rw [zp36.1 155 19 (by omega), hm1]; simp [yset_ap]
        have zv20 : σ36 155 20 = τ 155 20 := by rw [zp36.1 155 20 (by omega), hm1]; simp [yset_ap]
        have zv21 : σ36 155 21 = τ 155 21 := by rw [zp36.1 155 21 (by omega), hm1]; simp [yset_ap]
        have zv22 : σ36 155 22 = τ 155 22 := by rw [zp36.1 155 22 (by omega), hm1]; simp [yset_ap]
        have zv23 : σ36 155 23 = τ 155 23 := by rw [zp36.1 155 23 (by omega), hm1]; simp [yset_ap]
        have zv24 : σ36 155 24 = τ 155 24 + 1 := by rw [zp36.1 155 24 (by omega), hm1]; simp [yset_ap]
        have zv25 : σ36 155 25 = τ 155 25 := by rw [zp36.1 155 25 (by omega), hm1]; simp [yset_ap]
        have zv26 : σ36 155 26 = τ 155 26 := by rw [zp36.1 155 26 (by omega), hm1]; simp [yset_ap]
        have zfs := zf1.tr (zp36.1.wk (by omega) (by omega))
        have zb19 : -1 ≤ τ 155 19 ∧ τ 155 19 ≤ 20 := by rcases zk1 with zk | zk; (omega); (have := sIn_iff.mp zk.1; omega)
        have zb23 : -1 ≤ τ 155 23 ∧ τ 155 23 ≤ 63724500 := by rcases zk1 with zk | zk; (omega); (omega)
        have zbo := sBo_bd hA.1 (we := we) (sh := sh) (way := way) (x := x) (y := y) ⟨by omega, hs1.2⟩ hq
        have zsb := sSh_bd hA.1 (we := we) (sh := sh) (way := way) (x := x) (y := y) ⟨by omega, hs1.2⟩ hq
        have zh1 := zp36.2.1
        have zh2 := zp36.2.2
        have zsf : -255 ≤ σ36 155 16 ∧ σ36 155 16 ≤ 255 := by omega
        refine y_aload_n (pc := 39) hF dX11_asks_39 0 rfl ?_
        refine y_get (pc := 40) (ci := 11) hF dX11_asks_40 (by omega) rfl rfl rfl iX11 19 (by decide) w_1266 rfl ?_
        refine y_iconst (pc := 43) hF dX11_asks_43 ?_
        refine y_icmp_ne (pc := 44) hF dX11_asks_44 51 rfl (by omega) (by omega) (fun zc44 => ?_) (fun zc44 => ?_)
        · skip
          refine y_iconst (pc := 51) hF dX11_asks_51 ?_
          refine y_istore (pc := 52) (lv' := [(0, yR g 155), (1, yI (z : Int)), (2, yI x), (3, yI y), (4, yI u), (5, yI v), (6, yI way), (7, yI 0)]) hF dX11_asks_52 (by decide) rfl rfl ?_
          refine y_iload (pc := 54) hF dX11_asks_54 7 rfl ?_
          refine y_if_ne (pc := 56) hF dX11_asks_56 83 rfl (by decide) (fun zc56 => absurd zc56 (by decide)) (fun _ => ?_)
          refine y_aload_n (pc := 59) hF dX11_asks_59 0 rfl ?_
          refine y_get (pc := 60) (ci := 11) hF dX11_asks_60 (by omega) rfl rfl rfl iX11 17 (by decide) w_1264 rfl ?_
          refine y_aload_n (pc := 63) hF dX11_asks_63 0 rfl ?_
          refine y_get (pc := 64) (ci := 11) hF dX11_asks_64 (by omega) rfl rfl rfl iX11 23 (by decide) w_1270 rfl ?_
          refine y_icmp_lt (pc := 67) hF dX11_asks_67 83 rfl (by omega) (by omega) (fun zc67 => ?_) (fun zc67 => ?_)
          · skip
            have zle : 1 ≤ σ36 155 23 ∧ σ36 155 23 ≤ 1000000000 := by omega
            refine y_aload_n (pc := 83) hF dX11_asks_83 0 rfl ?_
            refine y_iload_n (pc := 84) hF dX11_asks_84 1 rfl ?_
            refine y_iload_n (pc := 85) hF dX11_asks_85 2 rfl ?_
            refine y_iload_n (pc := 86) hF dX11_asks_86 3 rfl ?_
            refine y_iload (pc := 87) hF dX11_asks_87 4 rfl ?_
            refine y_iload (pc := 89) hF dX11_asks_89 5 rfl ?_
            refine y_iload (pc := 91) hF dX11_asks_91 6 rfl ?_
            refine y_iload (pc := 93) hF dX11_asks_93 7 rfl ?_
            refine y_if_eq (pc := 95) hF dX11_asks_95 103 rfl (by decide) (fun _ => ?_) (fun zc95 => absurd zc95 (by decide))
            refine y_aload_n (pc := 103) hF dX11_asks_103 0 rfl ?_
            refine y_get (pc := 104) (ci := 11) hF dX11_asks_104 (by omega) rfl rfl rfl iX11 23 (by decide) w_1270 rfl ?_
            refine y_ci (y_rV (pc := 107) hF (tX11_differs z w h T S F P O s re fo ra tu we sh hn hz zA_σ36 zS_σ36 x y u v way hi hq huv (by omega) (σ36 155 23) zle zsf) dX11_asks_107 (by omega) rfl rfl rfl w_1572 qX11_differs rfl ⟨Nat.le_of_ble_eq_true rfl, Nat.le_of_ble_eq_true rfl⟩ ⟨Nat.zero_le _, Nat.zero_le _⟩ (Nat.le_of_ble_eq_true rfl) rfl) rfl rfl (fun r107 n' σ107 zp107 => ?_)
            obtain ⟨zn107, zp107⟩ := zp107
            have zn107 := zn107.symm
            subst zn107
            have zA_σ107 := zA_σ36.fR hz zp107.2.1
            have zS_σ107 := zS_σ36.fR (by omega) zp107.2.1
            have zw16 : σ107 155 16 = σ36 155 16 := zp107.2.1 155 16 (by omega)
            have zw19 : σ107 155 19 = σ36 155 19 := zp107.2.1 155 19 (by omega)
            have zw20 : σ107 155 20 = σ36 155 20 := zp107.2.1 155 20 (by omega)
            have zw21 : σ107 155 21 = σ36 155 21 := zp107.2.1 155 21 (by omega)
            have zw22 : σ107 155 22 = σ36 155 22 := zp107.2.1 155 22 (by omega)
            have zw23 : σ107 155 23 = σ36 155 23 := zp107.2.1 155 23 (by omega)
            have zw24 : σ107 155 24 = σ36 155 24 := zp107.2.1 155 24 (by omega)
            have zw25 : σ107 155 25 = σ36 155 25 := zp107.2.1 155 25 (by omega)
            have zw26 : σ107 155 26 = σ36 155 26 := zp107.2.1 155 26 (by omega)
            have zd1 := zp107.1
            have zw18 := zp107.2.2
            have zdb := sDf_bd hA.1 (we := we) (way := way) (x := x) (y := y) (sf := σ36 155 16) (le := σ36 155 23) ⟨by omega, hs1.2⟩ hq zsf
            refine y_istore (pc := 110) (lv' := [(0, yR g 155), (1, yI (z : Int)), (2, yI x), (3, yI y), (4, yI u), (5, yI v), (6, yI way), (7, yI 0), (8, yI r107)]) hF dX11_asks_110 (by decide) rfl rfl ?_
            refine y_iload (pc := 112) hF dX11_asks_112 7 rfl ?_
            refine y_if_ne (pc := 114) hF dX11_asks_114 139 rfl (by decide) (fun zc114 => absurd zc114 (by decide)) (fun _ => ?_)
            refine y_iload (pc := 117) hF dX11_asks_117 8 rfl ?_
            refine y_aload_n (pc := 119) hF dX11_asks_119 0 rfl ?_
            refine y_get (pc := 120) (ci := 11) hF dX11_asks_120 (by omega) rfl rfl rfl iX11 23 (by decide) w_1270 rfl ?_
            refine y_icmp_lt (pc := 123) hF dX11_asks_123 139 rfl (by omega) (by omega) (fun zc123 => ?_) (fun zc123 => ?_)
            · skip
              refine y_aload_n (pc := 139) hF dX11_asks_139 0 rfl ?_
              refine y_iload (pc := 140) hF dX11_asks_140 4 rfl ?_
              refine y_putf (pc := 142) (ci := 11) (σ' := yset σ107 155 19 u) (sch' := (SC g)) hF dX11_asks_142 (by omega) rfl rfl rfl iX11 19 (by decide) w_1266 tyX11 tyX11_ok nmX11 rfl rfl rfl rfl (Nat.le_of_ble_eq_true rfl) rfl (y_ps rfl) (fun k' h => ⟨yset_n h, rfl⟩) ?_
              refine y_aload_n (pc := 145) hF dX11_asks_145 0 rfl ?_
              refine y_iload (pc := 146) hF dX11_asks_146 5 rfl ?_
              refine y_putf (pc := 148) (ci := 11) (σ' := yset (yset σ107 155 19 u) 155 20 v) (sch' := (SC g)) hF dX11_asks_148 (by omega) rfl rfl rfl iX11 20 (by decide) w_1267 tyX11 tyX11_ok nmX11 rfl rfl rfl rfl (Nat.le_of_ble_eq_true rfl) rfl (y_ps rfl) (fun k' h => ⟨yset_n h, rfl⟩) ?_
              refine y_aload_n (pc := 151) hF dX11_asks_151 0 rfl ?_
              refine y_iload (pc := 152) hF dX11_asks_152 6 rfl ?_
              refine y_putf (pc := 154) (ci := 11) (σ' := yset (yset (yset σ107 155 19 u) 155 20 v) 155 21 way) (sch' := (SC g)) hF dX11_asks_154 (by omega) rfl rfl rfl iX11 21 (by decide) w_1268 tyX11 tyX11_ok nmX11 rfl rfl rfl rfl (Nat.le_of_ble_eq_true rfl) rfl (y_ps rfl) (fun k' h => ⟨yset_n h, rfl⟩) ?_
              refine y_aload_n (pc := 157) hF dX11_asks_157 0 rfl ?_
              refine y_aload_n (pc := 158) hF dX11_asks_158 0 rfl ?_
              refine y_get (pc := 159) (ci := 11) hF dX11_asks_159 (by omega) rfl rfl rfl iX11 16 (by decide) w_1263 rfl ?_
              refine y_putf (pc := 162) (ci := 11) (σ' := yset (yset (yset (yset σ107 155 19 u) 155 20 v) 155 21 way) 155 22 ((yset (yset (yset σ107 155 19 u) 155 20 v) 155 21 way) 155 16)) (sch' := (SC g)) hF dX11_asks_162 (by omega) rfl rfl rfl iX11 22 (by decide) w_1269 tyX11 tyX11_ok nmX11 rfl rfl rfl rfl (Nat.le_of_ble_eq_true rfl) rfl (y_ps rfl) (fun k' h => ⟨yset_n h, rfl⟩) ?_
              refine y_aload_n (pc := 165) hF dX11_asks_165 0 rfl ?_
              refine y_iload (pc := 166) hF dX11_asks_166 8 rfl ?_
              refine y_putf (pc := 168) (ci := 11) (σ' := yset (yset (yset (yset (yset σ107 155 19 u) 155 20 v) 155 21 way) 155 22 ((yset (yset (yset σ107 155 19 u) 155 20 v) 155 21 way) 155 16)) 155 23 r107) (sch' := (SC g)) hF dX11_asks_168 (by omega) rfl rfl rfl iX11 23 (by decide) w_1270 tyX11 tyX11_ok nmX11 rfl rfl rfl rfl (Nat.le_of_ble_eq_true rfl) rfl (y_ps rfl) (fun k' h => ⟨yset_n h, rfl⟩) ?_
              refine y_iinc (pc := 171) (lv' := [(0, yR g 155), (1, yI (z : Int)), (2, yI x), (3, yI y), (4, yI u), (5, yI v), (6, yI (way + 1)), (7, yI 0), (8, yI r107)]) hF dX11_asks_171 6 rfl (by decide) rfl rfl ?_
              refine y_goto (pc := 174) hF dX11_asks_174 3 rfl ?_
              have zs : ((yset (yset (yset (yset (yset σ107 155 19 u) 155 20 v) 155 21 way) 155 22 ((yset (yset (yset σ107 155 19 u) 155 20 v) 155 21 way) 155 16)) 155 23 r107) 155 19, (yset (yset (yset (yset (yset σ107 155 19 u) 155 20 v) 155 21 way) 155 22 ((yset (yset (yset σ107 155 19 u) 155 20 v) 155 21 way) 155 16)) 155 23 r107) 155 20, (yset (yset (yset (yset (yset σ107 155 19 u) 155 20 v) 155 21 way) 155 22 ((yset (yset (yset σ107 155 19 u) 155 20 v) 155 21 way) 155 16)) 155 23 r107) 155 21, (yset (yset (yset (yset (yset σ107 155 19 u) 155 20 v) 155 21 way) 155 22 ((yset (yset (yset σ107 155 19 u) 155 20 v) 155 21 way) 155 16)) 155 23 r107) 155 22, (yset (yset (yset (yset (yset σ107 155 19 u) 155 20 v) 155 21 way) 155 22 ((yset (yset (yset σ107 155 19 u) 155 20 v) 155 21 way) 155 16)) 155 23 r107) 155 23, (yset (yset (yset (yset (yset σ107 155 19 u) 155 20 v) 155 21 way) 155 22 ((yset (yset (yset σ107 155 19 u) 155 20 v) 155 21 way) 155 16)) 155 23 r107) 155 24, (yset (yset (yset (yset (yset σ107 155 19 u) 155 20 v) 155 21 way) 155 22 ((yset (yset (yset σ107 155 19 u) 155 20 v) 155 21 way) 155 16)) 155 23 r107) 155 25, (yset (yset (yset (yset (yset σ107 155 19 u) 155 20 v) 155 21 way) 155 22 ((yset (yset (yset σ107 155 19 u) 155 20 v) 155 21 way) 155 16)) 155 23 r107) 155 26, (yset (yset (yset (yset (yset σ107 155 19 u) 155 20 v) 155 21 way) 155 22 ((yset (yset (yset σ107 155 19 u) 155 20 v) 155 21 way) 155 16)) 155 23 r107) 155 18) = asF w h T S s we sh x y u v (τ 155 19, τ 155 20, τ 155 21, τ 155 22, τ 155 23, τ 155 24, τ 155 25, τ 155 26, τ 155 18) way := by
                rw [asF_eq (le := σ36 155 23) (show (if τ 155 19 = -1 then (1000000000 : Int) else τ 155 23) = σ36 155 23 by rw [if_neg (by omega)]; omega)]
                simp only [asG]
                rw [← zh1, ← zd1]
                rw [if_neg (by omega), if_neg (by omega)]
                simp [yset_ap, zw19, zw20, zw21, zw22, zw23, zw24, zw25, zw26, zw18, zw16, zv18, zv19, zv20, zv21, zv22, zv23, zv24, zv25, zv26]
              refine y_sub [0, 1, 2, 3, 4, 5, 6] rfl ?_
              exact zh3 _ (by omega) (yset (yset (yset (yset (yset σ107 155 19 u) 155 20 v) 155 21 way) 155 22 ((yset (yset (yset σ107 155 19 u) 155 20 v) 155 21 way) 155 16)) 155 23 r107) (way + 1) rfl ⟨(((((zfs.tr (zp107.2.1.wk (by omega) (by omega))).st (by omega)).st (by omega)).st (by omega)).st (by omega)).st (by omega), by omega, by rw [fr_up _ _ _ _ zI3.2.1.1, ← zI3.2.2.1, Int.zero_add]; exact zs, by rw [zs]; exact asF_ok hA.1 ⟨by omega, hs1.2⟩ hq huv (by omega) zI3.2.2.2.1 (show τ 155 24 < 1000000000 by omega), by simp [yset_ap, zv24, zw24]; omega⟩
            · skip
              refine y_aload_n (pc := 126) hF dX11_asks_126 0 rfl ?_
              refine y_dup (pc := 127) hF dX11_asks_127 rfl ?_
              refine y_get (pc := 128) (ci := 11) hF dX11_asks_128 (by omega) rfl rfl rfl iX11 26 (by decide) w_1273 rfl ?_
              refine y_iconst (pc := 131) hF dX11_asks_131 ?_
              refine y_iadd (pc := 132) hF dX11_asks_132 ?_
              refine y_putf (pc := 133) (ci := 11) (σ' := yset σ107 155 26 ((σ107 155 26) + 1)) (sch' := (SC g)) hF dX11_asks_133 (by omega) rfl rfl rfl iX11 26 (by decide) w_1273 tyX11 tyX11_ok nmX11 rfl rfl rfl rfl (Nat.le_of_ble_eq_true rfl) rfl (y_ps rfl) (fun k' h => ⟨yset_n h, rfl⟩) ?_
              refine y_goto (pc := 136) hF dX11_asks_136 171 rfl ?_
              refine y_iinc (pc := 171) (lv' := [(0, yR g 155), (1, yI (z : Int)), (2, yI x), (3, yI y), (4, yI u), (5, yI v), (6, yI (way + 1)), (7, yI 0), (8, yI r107)]) hF dX11_asks_171 6 rfl (by decide) rfl rfl ?_
              refine y_goto (pc := 174) hF dX11_asks_174 3 rfl ?_
              have zs : ((yset σ107 155 26 ((σ107 155 26) + 1)) 155 19, (yset σ107 155 26 ((σ107 155 26) + 1)) 155 20, (yset σ107 155 26 ((σ107 155 26) + 1)) 155 21, (yset σ107 155 26 ((σ107 155 26) + 1)) 155 22, (yset σ107 155 26 ((σ107 155 26) + 1)) 155 23, (yset σ107 155 26 ((σ107 155 26) + 1)) 155 24, (yset σ107 155 26 ((σ107 155 26) + 1)) 155 25, (yset σ107 155 26 ((σ107 155 26) + 1)) 155 26, (yset σ107 155 26 ((σ107 155 26) + 1)) 155 18) = asF w h T S s we sh x y u v (τ 155 19, τ 155 20, τ 155 21, τ 155 22, τ 155 23, τ 155 24, τ 155 25, τ 155 26, τ 155 18) way := by
                rw [asF_eq (le := σ36 155 23) (show (if τ 155 19 = -1 then (1000000000 : Int) else τ 155 23) = σ36 155 23 by rw [if_neg (by omega)]; omega)]
                simp only [asG]
                rw [← zh1, ← zd1]
                rw [if_neg (by omega), if_pos (show τ 155 19 ≠ -1 ∧ τ 155 23 ≤ r107 by omega)]
                simp [yset_ap, zw19, zw20, zw21, zw22, zw23, zw24, zw25, zw26, zw18, zw16, zv18, zv19, zv20, zv21, zv22, zv23, zv24, zv25, zv26]
              refine y_sub [0, 1, 2, 3, 4, 5, 6] rfl ?_
              exact zh3 _ (by omega) (yset σ107 155 26 ((σ107 155 26) + 1)) (way + 1) rfl ⟨(zfs.tr (zp107.2.1.wk (by omega) (by omega))).st (by omega), by omega, by rw [fr_up _ _ _ _ zI3.2.1.1, ← zI3.2.2.1, Int.zero_add]; exact zs, by rw [zs]; exact asF_ok hA.1 ⟨by omega, hs1.2⟩ hq huv (by omega) zI3.2.2.2.1 (show τ 155 24 < 1000000000 by omega), by simp [yset_ap, zv24, zw24]; omega⟩
          · skip
            refine y_aload_n (pc := 70) hF dX11_asks_70 0 rfl ?_
            refine y_dup (pc := 71) hF dX11_asks_71 rfl ?_
            refine y_get (pc := 72) (ci := 11) hF dX11_asks_72 (by omega) rfl rfl rfl iX11 25 (by decide) w_1272 rfl ?_
            refine y_iconst (pc := 75) hF dX11_asks_75 ?_
            refine y_iadd (pc := 76) hF dX11_asks_76 ?_
            refine y_putf (pc := 77) (ci := 11) (σ' := yset σ36 155 25 ((σ36 155 25) + 1)) (sch' := (SC g)) hF dX11_asks_77 (by omega) rfl rfl rfl iX11 25 (by decide) w_1272 tyX11 tyX11_ok nmX11 rfl rfl rfl rfl (Nat.le_of_ble_eq_true rfl) rfl (y_ps rfl) (fun k' h => ⟨yset_n h, rfl⟩) ?_
            refine y_goto (pc := 80) hF dX11_asks_80 171 rfl ?_
            refine y_iinc (pc := 171) (lv' := [(0, yR g 155), (1, yI (z : Int)), (2, yI x), (3, yI y), (4, yI u), (5, yI v), (6, yI (way + 1)), (7, yI 0)]) hF dX11_asks_171 6 rfl (by decide) rfl rfl ?_
            refine y_goto (pc := 174) hF dX11_asks_174 3 rfl ?_
            have zs : ((yset σ36 155 25 ((σ36 155 25) + 1)) 155 19, (yset σ36 155 25 ((σ36 155 25) + 1)) 155 20, (yset σ36 155 25 ((σ36 155 25) + 1)) 155 21, (yset σ36 155 25 ((σ36 155 25) + 1)) 155 22, (yset σ36 155 25 ((σ36 155 25) + 1)) 155 23, (yset σ36 155 25 ((σ36 155 25) + 1)) 155 24, (yset σ36 155 25 ((σ36 155 25) + 1)) 155 25, (yset σ36 155 25 ((σ36 155 25) + 1)) 155 26, (yset σ36 155 25 ((σ36 155 25) + 1)) 155 18) = asF w h T S s we sh x y u v (τ 155 19, τ 155 20, τ 155 21, τ 155 22, τ 155 23, τ 155 24, τ 155 25, τ 155 26, τ 155 18) way := by
              simp only [asF, asG, qBd]
              rw [if_pos (show τ 155 19 ≠ -1 ∧ τ 155 23 ≤ sBo w h T S s we sh x y u v way by omega)]
              simp [yset_ap, zv18, zv19, zv20, zv21, zv22, zv23, zv24, zv25, zv26]
            refine y_sub [0, 1, 2, 3, 4, 5, 6] rfl ?_
            exact zh3 _ (by omega) (yset σ36 155 25 ((σ36 155 25) + 1)) (way + 1) rfl ⟨zfs.st (by omega), by omega, by rw [fr_up _ _ _ _ zI3.2.1.1, ← zI3.2.2.1, Int.zero_add]; exact zs, by rw [zs]; exact asF_ok hA.1 ⟨by omega, hs1.2⟩ hq huv (by omega) zI3.2.2.2.1 (show τ 155 24 < 1000000000 by omega), by simp [yset_ap, zv24]; omega⟩
        · skip
          refine y_iconst (pc := 47) hF dX11_asks_47 ?_
          refine y_goto (pc := 48) hF dX11_asks_48 52 rfl ?_
          refine y_istore (pc := 52) (lv' := [(0, yR g 155), (1, yI (z : Int)), (2, yI x), (3, yI y), (4, yI u), (5, yI v), (6, yI way), (7, yI 1)]) hF dX11_asks_52 (by decide) rfl rfl ?_
          refine y_iload (pc := 54) hF dX11_asks_54 7 rfl ?_
          refine y_if_ne (pc := 56) hF dX11_asks_56 83 rfl (by decide) (fun _ => ?_) (fun zc56 => absurd zc56 (by decide))
          have zle : 1 ≤ (1000000000 : Int) ∧ (1000000000 : Int) ≤ 1000000000 := by decide
          refine y_aload_n (pc := 83) hF dX11_asks_83 0 rfl ?_
          refine y_iload_n (pc := 84) hF dX11_asks_84 1 rfl ?_
          refine y_iload_n (pc := 85) hF dX11_asks_85 2 rfl ?_
          refine y_iload_n (pc := 86) hF dX11_asks_86 3 rfl ?_
          refine y_iload (pc := 87) hF dX11_asks_87 4 rfl ?_
          refine y_iload (pc := 89) hF dX11_asks_89 5 rfl ?_
          refine y_iload (pc := 91) hF dX11_asks_91 6 rfl ?_
          refine y_iload (pc := 93) hF dX11_asks_93 7 rfl ?_
          refine y_if_eq (pc := 95) hF dX11_asks_95 103 rfl (by decide) (fun zc95 => absurd zc95 (by decide)) (fun _ => ?_)
          refine y_ldc (pc := 98) (v := 1000000000) hF dX11_asks_98 wk_1571 ?_
          refine y_goto (pc := 100) hF dX11_asks_100 107 rfl ?_
          refine y_ci (y_rV (pc := 107) hF (tX11_differs z w h T S F P O s re fo ra tu we sh hn hz zA_σ36 zS_σ36 x y u v way hi hq huv (by omega) 1000000000 zle zsf) dX11_asks_107 (by omega) rfl rfl rfl w_1572 qX11_differs rfl ⟨Nat.le_of_ble_eq_true rfl, Nat.le_of_ble_eq_true rfl⟩ ⟨Nat.zero_le _, Nat.zero_le _⟩ (Nat.le_of_ble_eq_true rfl) rfl) rfl rfl (fun r107 n' σ107 zp107 => ?_)
          obtain ⟨zn107, zp107⟩ := zp107
          have zn107 := zn107.symm
          subst zn107
          have zA_σ107 := zA_σ36.fR hz zp107.2.1
          have zS_σ107 := zS_σ36.fR (by omega) zp107.2.1
          have zw16 : σ107 155 16 = σ36 155 16 := zp107.2.1 155 16 (by omega)
          have zw19 : σ107 155 19 = σ36 155 19 := zp107.2.1 155 19 (by omega)
          have zw20 : σ107 155 20 = σ36 155 20 := zp107.2.1 155 20 (by omega)
          have zw21 : σ107 155 21 = σ36 155 21 := zp107.2.1 155 21 (by omega)
          have zw22 : σ107 155 22 = σ36 155 22 := zp107.2.1 155 22 (by omega)
          have zw23 : σ107 155 23 = σ36 155 23 := zp107.2.1 155 23 (by omega)
          have zw24 : σ107 155 24 = σ36 155 24 := zp107.2.1 155 24 (by omega)
          have zw25 : σ107 155 25 = σ36 155 25 := zp107.2.1 155 25 (by omega)
          have zw26 : σ107 155 26 = σ36 155 26 := zp107.2.1 155 26 (by omega)
          have zd1 := zp107.1
          have zw18 := zp107.2.2
          have zdb := sDf_bd hA.1 (we := we) (way := way) (x := x) (y := y) (sf := σ36 155 16) (le := 1000000000) ⟨by omega, hs1.2⟩ hq zsf
          refine y_istore (pc := 110) (lv' := [(0, yR g 155), (1, yI (z : Int)), (2, yI x), (3, yI y), (4, yI u), (5, yI v), (6, yI way), (7, yI 1), (8, yI r107)]) hF dX11_asks_110 (by decide) rfl rfl ?_
          refine y_iload (pc := 112) hF dX11_asks_112 7 rfl ?_
          refine y_if_ne (pc := 114) hF dX11_asks_114 139 rfl (by decide) (fun _ => ?_) (fun zc114 => absurd zc114 (by decide))
          refine y_aload_n (pc := 139) hF dX11_asks_139 0 rfl ?_
          refine y_iload (pc := 140) hF dX11_asks_140 4 rfl ?_
          refine y_putf (pc := 142) (ci := 11) (σ' := yset σ107 155 19 u) (sch' := (SC g)) hF dX11_asks_142 (by omega) rfl rfl rfl iX11 19 (by decide) w_1266 tyX11 tyX11_ok nmX11 rfl rfl rfl rfl (Nat.le_of_ble_eq_true rfl) rfl (y_ps rfl) (fun k' h => ⟨yset_n h, rfl⟩) ?_
          refine y_aload_n (pc := 145) hF dX11_asks_145 0 rfl ?_
          refine y_iload (pc := 146) hF dX11_asks_146 5 rfl ?_
          refine y_putf (pc := 148) (ci := 11) (σ' := yset (yset σ107 155 19 u) 155 20 v) (sch' := (SC g)) hF dX11_asks_148 (by omega) rfl rfl rfl iX11 20 (by decide) w_1267 tyX11 tyX11_ok nmX11 rfl rfl rfl rfl (Nat.le_of_ble_eq_true rfl) rfl (y_ps rfl) (fun k' h => ⟨yset_n h, rfl⟩) ?_
          refine y_aload_n (pc := 151) hF dX11_asks_151 0 rfl ?_
          refine y_iload (pc := 152) hF dX11_asks_152 6 rfl ?_
          refine y_putf (pc := 154) (ci := 11) (σ' := yset (yset (yset σ107 155 19 u) 155 20 v) 155 21 way) (sch' := (SC g)) hF dX11_asks_154 (by omega) rfl rfl rfl iX11 21 (by decide) w_1268 tyX11 tyX11_ok nmX11 rfl rfl rfl rfl (Nat.le_of_ble_eq_true rfl) rfl (y_ps rfl) (fun k' h => ⟨yset_n h, rfl⟩) ?_
          refine y_aload_n (pc := 157) hF dX11_asks_157 0 rfl ?_
          refine y_aload_n (pc := 158) hF dX11_asks_158 0 rfl ?_
          refine y_get (pc := 159) (ci := 11) hF dX11_asks_159 (by omega) rfl rfl rfl iX11 16 (by decide) w_1263 rfl ?_
          refine y_putf (pc := 162) (ci := 11) (σ' := yset (yset (yset (yset σ107 155 19 u) 155 20 v) 155 21 way) 155 22 ((yset (yset (yset σ107 155 19 u) 155 20 v) 155 21 way) 155 16)) (sch' := (SC g)) hF dX11_asks_162 (by omega) rfl rfl rfl iX11 22 (by decide) w_1269 tyX11 tyX11_ok nmX11 rfl rfl rfl rfl (Nat.le_of_ble_eq_true rfl) rfl (y_ps rfl) (fun k' h => ⟨yset_n h, rfl⟩) ?_
          refine y_aload_n (pc := 165) hF dX11_asks_165 0 rfl ?_
          refine y_iload (pc := 166) hF dX11_asks_166 8 rfl ?_
          refine y_putf (pc := 168) (ci := 11) (σ' := yset (yset (yset (yset (yset σ107 155 19 u) 155 20 v) 155 21 way) 155 22 ((yset (yset (yset σ107 155 19 u) 155 20 v) 155 21 way) 155 16)) 155 23 r107) (sch' := (SC g)) hF dX11_asks_168 (by omega) rfl rfl rfl iX11 23 (by decide) w_1270 tyX11 tyX11_ok nmX11 rfl rfl rfl rfl (Nat.le_of_ble_eq_true rfl) rfl (y_ps rfl) (fun k' h => ⟨yset_n h, rfl⟩) ?_
          refine y_iinc (pc := 171) (lv' := [(0, yR g 155), (1, yI (z : Int)), (2, yI x), (3, yI y), (4, yI u), (5, yI v), (6, yI (way + 1)), (7, yI 1), (8, yI r107)]) hF dX11_asks_171 6 rfl (by decide) rfl rfl ?_
          refine y_goto (pc := 174) hF dX11_asks_174 3 rfl ?_
          have zs : ((yset (yset (yset (yset (yset σ107 155 19 u) 155 20 v) 155 21 way) 155 22 ((yset (yset (yset σ107 155 19 u) 155 20 v) 155 21 way) 155 16)) 155 23 r107) 155 19, (yset (yset (yset (yset (yset σ107 155 19 u) 155 20 v) 155 21 way) 155 22 ((yset (yset (yset σ107 155 19 u) 155 20 v) 155 21 way) 155 16)) 155 23 r107) 155 20, (yset (yset (yset (yset (yset σ107 155 19 u) 155 20 v) 155 21 way) 155 22 ((yset (yset (yset σ107 155 19 u) 155 20 v) 155 21 way) 155 16)) 155 23 r107) 155 21, (yset (yset (yset (yset (yset σ107 155 19 u) 155 20 v) 155 21 way) 155 22 ((yset (yset (yset σ107 155 19 u) 155 20 v) 155 21 way) 155 16)) 155 23 r107) 155 22, (yset (yset (yset (yset (yset σ107 155 19 u) 155 20 v) 155 21 way) 155 22 ((yset (yset (yset σ107 155 19 u) 155 20 v) 155 21 way) 155 16)) 155 23 r107) 155 23, (yset (yset (yset (yset (yset σ107 155 19 u) 155 20 v) 155 21 way) 155 22 ((yset (yset (yset σ107 155 19 u) 155 20 v) 155 21 way) 155 16)) 155 23 r107) 155 24, (yset (yset (yset (yset (yset σ107 155 19 u) 155 20 v) 155 21 way) 155 22 ((yset (yset (yset σ107 155 19 u) 155 20 v) 155 21 way) 155 16)) 155 23 r107) 155 25, (yset (yset (yset (yset (yset σ107 155 19 u) 155 20 v) 155 21 way) 155 22 ((yset (yset (yset σ107 155 19 u) 155 20 v) 155 21 way) 155 16)) 155 23 r107) 155 26, (yset (yset (yset (yset (yset σ107 155 19 u) 155 20 v) 155 21 way) 155 22 ((yset (yset (yset σ107 155 19 u) 155 20 v) 155 21 way) 155 16)) 155 23 r107) 155 18) = asF w h T S s we sh x y u v (τ 155 19, τ 155 20, τ 155 21, τ 155 22, τ 155 23, τ 155 24, τ 155 25, τ 155 26, τ 155 18) way := by
            rw [asF_eq (le := 1000000000) (show (if τ 155 19 = -1 then (1000000000 : Int) else τ 155 23) = 1000000000 by rw [if_pos (by omega)])]
            simp only [asG]
            rw [← zh1, if_neg (by omega), if_neg (by omega), ← zd1]
            simp [yset_ap, zw19, zw20, zw21, zw22, zw23, zw24, zw25, zw26, zw18, zw16, zv18, zv19, zv20, zv21, zv22, zv23, zv24, zv25, zv26]
          refine y_sub [0, 1, 2, 3, 4, 5, 6] rfl ?_
          exact zh3 _ (by omega) (yset (yset (yset (yset (yset σ107 155 19 u) 155 20 v) 155 21 way) 155 22 ((yset (yset (yset σ107 155 19 u) 155 20 v) 155 21 way) 155 16)) 155 23 r107) (way + 1) rfl ⟨(((((zfs.tr (zp107.2.1.wk (by omega) (by omega))).st (by omega)).st (by omega)).st (by omega)).st (by omega)).st (by omega), by omega, by rw [fr_up _ _ _ _ zI3.2.1.1, ← zI3.2.2.1, Int.zero_add]; exact zs, by rw [zs]; exact asF_ok hA.1 ⟨by omega, hs1.2⟩ hq huv (by omega) zI3.2.2.2.1 (show τ 155 24 < 1000000000 by omega), by simp [yset_ap, zv24, zw24]; omega⟩
  exact zL3 _ σ (0) rfl ⟨fR.rf σ, by omega, rfl, hk, by omega⟩
