theorem dX5_measureSteady_0 : decode cX5_measureSteady 0 = .ok (.iconst 0, 1) := by decide +kernel
theorem dX5_measureSteady_1 : decode cX5_measureSteady 1 = .ok (.istore 5, 2) := by decide +kernel
theorem dX5_measureSteady_3 : decode cX5_measureSteady 3 = .ok (.iconst 0, 1) := by decide +kernel
theorem dX5_measureSteady_4 : decode cX5_measureSteady 4 = .ok (.istore 6, 2) := by decide +kernel
theorem dX5_measureSteady_6 : decode cX5_measureSteady 6 = .ok (.iload_n 3, 1) := by decide +kernel
theorem dX5_measureSteady_7 : decode cX5_measureSteady 7 = .ok (.iload_n 2, 1) := by decide +kernel
theorem dX5_measureSteady_8 : decode cX5_measureSteady 8 = .ok (.iadd, 1) := by decide +kernel
theorem dX5_measureSteady_9 : decode cX5_measureSteady 9 = .ok (.aload_n 1, 1) := by decide +kernel
theorem dX5_measureSteady_10 : decode cX5_measureSteady 10 = .ok (.getfield 70, 3) := by decide +kernel
theorem dX5_measureSteady_13 : decode cX5_measureSteady 13 = .ok (.iconst 1, 1) := by decide +kernel
theorem dX5_measureSteady_14 : decode cX5_measureSteady 14 = .ok (.isub, 1) := by decide +kernel
theorem dX5_measureSteady_15 : decode cX5_measureSteady 15 = .ok (.invokestatic 73, 3) := by decide +kernel
theorem dX5_measureSteady_18 : decode cX5_measureSteady 18 = .ok (.istore 7, 2) := by decide +kernel
theorem dX5_measureSteady_20 : decode cX5_measureSteady 20 = .ok (.iload 4, 2) := by decide +kernel
theorem dX5_measureSteady_22 : decode cX5_measureSteady 22 = .ok (.iload_n 2, 1) := by decide +kernel
theorem dX5_measureSteady_23 : decode cX5_measureSteady 23 = .ok (.iadd, 1) := by decide +kernel
theorem dX5_measureSteady_24 : decode cX5_measureSteady 24 = .ok (.aload_n 1, 1) := by decide +kernel
theorem dX5_measureSteady_25 : decode cX5_measureSteady 25 = .ok (.getfield 77, 3) := by decide +kernel
theorem dX5_measureSteady_28 : decode cX5_measureSteady 28 = .ok (.iconst 1, 1) := by decide +kernel
theorem dX5_measureSteady_29 : decode cX5_measureSteady 29 = .ok (.isub, 1) := by decide +kernel
theorem dX5_measureSteady_30 : decode cX5_measureSteady 30 = .ok (.invokestatic 73, 3) := by decide +kernel
theorem dX5_measureSteady_33 : decode cX5_measureSteady 33 = .ok (.istore 8, 2) := by decide +kernel
theorem dX5_measureSteady_35 : decode cX5_measureSteady 35 = .ok (.iload 4, 2) := by decide +kernel
theorem dX5_measureSteady_37 : decode cX5_measureSteady 37 = .ok (.iload_n 2, 1) := by decide +kernel
theorem dX5_measureSteady_38 : decode cX5_measureSteady 38 = .ok (.isub, 1) := by decide +kernel
theorem dX5_measureSteady_39 : decode cX5_measureSteady 39 = .ok (.iconst 0, 1) := by decide +kernel
theorem dX5_measureSteady_40 : decode cX5_measureSteady 40 = .ok (.invokestatic 80, 3) := by decide +kernel
theorem dX5_measureSteady_43 : decode cX5_measureSteady 43 = .ok (.istore 9, 2) := by decide +kernel
theorem dX5_measureSteady_45 : decode cX5_measureSteady 45 = .ok (.iload 9, 2) := by decide +kernel
theorem dX5_measureSteady_47 : decode cX5_measureSteady 47 = .ok (.iload 8, 2) := by decide +kernel
theorem dX5_measureSteady_49 : decode cX5_measureSteady 49 = .ok (.if_icmp .gt 54, 3) := by decide +kernel
theorem dX5_measureSteady_52 : decode cX5_measureSteady 52 = .ok (.iload_n 3, 1) := by decide +kernel
theorem dX5_measureSteady_53 : decode cX5_measureSteady 53 = .ok (.iload_n 2, 1) := by decide +kernel
theorem dX5_measureSteady_54 : decode cX5_measureSteady 54 = .ok (.isub, 1) := by decide +kernel
theorem dX5_measureSteady_55 : decode cX5_measureSteady 55 = .ok (.iconst 0, 1) := by decide +kernel
theorem dX5_measureSteady_56 : decode cX5_measureSteady 56 = .ok (.invokestatic 80, 3) := by decide +kernel
theorem dX5_measureSteady_59 : decode cX5_measureSteady 59 = .ok (.istore 10, 2) := by decide +kernel
theorem dX5_measureSteady_61 : decode cX5_measureSteady 61 = .ok (.iload 10, 2) := by decide +kernel
theorem dX5_measureSteady_63 : decode cX5_measureSteady 63 = .ok (.iload 7, 2) := by decide +kernel
theorem dX5_measureSteady_65 : decode cX5_measureSteady 65 = .ok (.if_icmp .gt 32, 3) := by decide +kernel
theorem dX5_measureSteady_68 : decode cX5_measureSteady 68 = .ok (.iload 5, 2) := by decide +kernel
theorem dX5_measureSteady_70 : decode cX5_measureSteady 70 = .ok (.aload_n 1, 1) := by decide +kernel
theorem dX5_measureSteady_71 : decode cX5_measureSteady 71 = .ok (.getfield 83, 3) := by decide +kernel
theorem dX5_measureSteady_74 : decode cX5_measureSteady 74 = .ok (.iload 9, 2) := by decide +kernel
theorem dX5_measureSteady_76 : decode cX5_measureSteady 76 = .ok (.aload_n 1, 1) := by decide +kernel
theorem dX5_measureSteady_77 : decode cX5_measureSteady 77 = .ok (.getfield 70, 3) := by decide +kernel
theorem dX5_measureSteady_80 : decode cX5_measureSteady 80 = .ok (.imul, 1) := by decide +kernel
theorem dX5_measureSteady_81 : decode cX5_measureSteady 81 = .ok (.iload 10, 2) := by decide +kernel
theorem dX5_measureSteady_83 : decode cX5_measureSteady 83 = .ok (.iadd, 1) := by decide +kernel
theorem dX5_measureSteady_84 : decode cX5_measureSteady 84 = .ok (.iaload, 1) := by decide +kernel
theorem dX5_measureSteady_85 : decode cX5_measureSteady 85 = .ok (.iadd, 1) := by decide +kernel
theorem dX5_measureSteady_86 : decode cX5_measureSteady 86 = .ok (.istore 5, 2) := by decide +kernel
theorem dX5_measureSteady_88 : decode cX5_measureSteady 88 = .ok (.iinc 6 1, 3) := by decide +kernel
theorem dX5_measureSteady_91 : decode cX5_measureSteady 91 = .ok (.iinc 10 1, 3) := by decide +kernel
theorem dX5_measureSteady_94 : decode cX5_measureSteady 94 = .ok (.goto (-33), 3) := by decide +kernel
theorem dX5_measureSteady_97 : decode cX5_measureSteady 97 = .ok (.iinc 9 1, 3) := by decide +kernel
theorem dX5_measureSteady_100 : decode cX5_measureSteady 100 = .ok (.goto (-55), 3) := by decide +kernel
theorem dX5_measureSteady_103 : decode cX5_measureSteady 103 = .ok (.aload_n 0, 1) := by decide +kernel
theorem dX5_measureSteady_104 : decode cX5_measureSteady 104 = .ok (.iload 6, 2) := by decide +kernel
theorem dX5_measureSteady_106 : decode cX5_measureSteady 106 = .ok (.ifCond .ne 7, 3) := by decide +kernel
theorem dX5_measureSteady_109 : decode cX5_measureSteady 109 = .ok (.iconst 0, 1) := by decide +kernel
theorem dX5_measureSteady_110 : decode cX5_measureSteady 110 = .ok (.goto 8, 3) := by decide +kernel
theorem dX5_measureSteady_113 : decode cX5_measureSteady 113 = .ok (.iload 5, 2) := by decide +kernel
theorem dX5_measureSteady_115 : decode cX5_measureSteady 115 = .ok (.iload 6, 2) := by decide +kernel
theorem dX5_measureSteady_117 : decode cX5_measureSteady 117 = .ok (.idiv, 1) := by decide +kernel
theorem dX5_measureSteady_118 : decode cX5_measureSteady 118 = .ok (.putfield 9, 3) := by decide +kernel
theorem dX5_measureSteady_121 : decode cX5_measureSteady 121 = .ok (.return_, 1) := by decide +kernel
set_option maxHeartbeats 4000000 in
set_option maxRecDepth 100000 in
theorem tX5_measureSteady {l : Launch} {g : yG} {n : Nat} {σ : yM} (k : Nat) (w h : Int) (T S F P O : Int → Int → Int) (hn : 172 ≤ n) (hP : isPic k) (hA : rC σ k w h T S F P O) (hk : k + 5 < 120 ∨ 130 < k) (s : Int) (hs : 1 ≤ s ∧ s ≤ 3) (x y : Int) (hi : sIn w h x y = true) : yMet l g yX5_measureSteady cX5_measureSteady 11 none (rmL 1) [yR g 120, yR g k, yI s, yI x, yI y] (SC g) n σ (SC g) (yPv (fun n' σ' => n' = n ∧ σ' = yset σ 120 0 (sSd w h S s x y))) := by
  obtain ⟨hw1, hw2, hw3, hw4⟩ := id hA.1.1
  have zi := sIn_iff.mp hi
  have zq1 := sSt_bd (x := x) (y := y) (s := s) ⟨by omega, hs.2⟩ hA.1.S
  have zq2 := sSt_pos (S := S) (s := s) (by omega) hi
  refine y_start (by decide) (Nat.le_of_ble_eq_true rfl) (fun X0 hF => ?_)
  show yV X0 g 11 (yQ X0 g (SC g) (yPv (fun n' σ' => n' = n ∧ σ' = yset σ 120 0 (sSd w h S s x y))) (rmL 1)) (SC g) n σ 0 0 0 [(0, yR g 120), (1, yR g k), (2, yI s), (3, yI x), (4, yI y)] []
  refine y_iconst (pc := 0) hF dX5_measureSteady_0 ?_
  refine y_istore (pc := 1) (lv' := [(0, yR g 120), (1, yR g k), (2, yI s), (3, yI x), (4, yI y), (5, yI 0)]) hF dX5_measureSteady_1 (by decide) rfl rfl ?_
  refine y_iconst (pc := 3) hF dX5_measureSteady_3 ?_
  refine y_istore (pc := 4) (lv' := [(0, yR g 120), (1, yR g k), (2, yI s), (3, yI x), (4, yI y), (5, yI 0), (6, yI 0)]) hF dX5_measureSteady_4 (by decide) rfl rfl ?_
  refine y_iload_n (pc := 6) hF dX5_measureSteady_6 3 rfl ?_
  refine y_iload_n (pc := 7) hF dX5_measureSteady_7 2 rfl ?_
  refine y_iadd (pc := 8) hF dX5_measureSteady_8 ?_
  refine y_aload_n (pc := 9) hF dX5_measureSteady_9 1 rfl ?_
  refine y_getN (pc := 10) (ci := 4) hF dX5_measureSteady_10 (by have := hP.1; omega) (hP.2 g).1 rfl rfl iX4 0 (by decide) w_211 rfl ?_
  rw [show σ k 0 = w from hA.2.1]
  refine y_iconst (pc := 13) hF dX5_measureSteady_13 ?_
  refine y_isub (pc := 14) hF dX5_measureSteady_14 ?_
  refine y_mmin (pc := 15) hF dX5_measureSteady_15 w_874 w_699 w_103 w_700 (Nat.le_of_ble_eq_true rfl) (Nat.le_of_ble_eq_true rfl) ⟨Nat.zero_le _, Nat.zero_le _⟩ (by omega) (by omega) ?_
  refine y_istore (pc := 18) (lv' := [(0, yR g 120), (1, yR g k), (2, yI s), (3, yI x), (4, yI y), (5, yI 0), (6, yI 0), (7, yI (min (x + s) (w - 1)))]) hF dX5_measureSteady_18 (by decide) rfl rfl ?_
  refine y_iload (pc := 20) hF dX5_measureSteady_20 4 rfl ?_
  refine y_iload_n (pc := 22) hF dX5_measureSteady_22 2 rfl ?_
  refine y_iadd (pc := 23) hF dX5_measureSteady_23 ?_
  refine y_aload_n (pc := 24) hF dX5_measureSteady_24 1 rfl ?_
  refine y_getN (pc := 25) (ci := 4) hF dX5_measureSteady_25 (by have := hP.1; omega) (hP.2 g).1 rfl rfl iX4 1 (by decide) w_216 rfl ?_
  rw [show σ k 1 = h from hA.2.2.1]
  refine y_iconst (pc := 28) hF dX5_measureSteady_28 ?_
  refine y_isub (pc := 29) hF dX5_measureSteady_29 ?_
  refine y_mmin (pc := 30) hF dX5_measureSteady_30 w_874 w_699 w_103 w_700 (Nat.le_of_ble_eq_true rfl) (Nat.le_of_ble_eq_true rfl) ⟨Nat.zero_le _, Nat.zero_le _⟩ (by omega) (by omega) ?_
  refine y_istore (pc := 33) (lv' := [(0, yR g 120), (1, yR g k), (2, yI s), (3, yI x), (4, yI y), (5, yI 0), (6, yI 0), (7, yI (min (x + s) (w - 1))), (8, yI (min (y + s) (h - 1)))]) hF dX5_measureSteady_33 (by decide) rfl rfl ?_
  refine y_iload (pc := 35) hF dX5_measureSteady_35 4 rfl ?_
  refine y_iload_n (pc := 37) hF dX5_measureSteady_37 2 rfl ?_
  refine y_isub (pc := 38) hF dX5_measureSteady_38 ?_
  refine y_iconst (pc := 39) hF dX5_measureSteady_39 ?_
  refine y_mmax (pc := 40) hF dX5_measureSteady_40 w_875 w_876 w_103 w_877 (Nat.le_of_ble_eq_true rfl) (Nat.le_of_ble_eq_true rfl) ⟨Nat.zero_le _, Nat.zero_le _⟩ (by omega) (by omega) ?_
  refine y_istore (pc := 43) (lv' := [(0, yR g 120), (1, yR g k), (2, yI s), (3, yI x), (4, yI y), (5, yI 0), (6, yI 0), (7, yI (min (x + s) (w - 1))), (8, yI (min (y + s) (h - 1))), (9, yI (max (y - s) 0))]) hF dX5_measureSteady_43 (by decide) rfl rfl ?_
  have zL45 : ∀ (N : Nat) (j a c : Int), N = (min (y + s) (h - 1) + 1 - j).toNat → ((max (y - s) 0 ≤ j ∧ j ≤ min (y + s) (h - 1) + 1) ∧ (a, c) = fr (fun q j => fr (fun q i => stF w h S q i j) (max (x - s) 0) (min (x + s) (w - 1) + 1 - max (x - s) 0).toNat q) (max (y - s) 0) (j - max (y - s) 0).toNat (0, 0)) → yV X0 g 11 (yQ X0 g (SC g) (yPv (fun n' σ' => n' = n ∧ σ' = yset σ 120 0 (sSd w h S s x y))) (rmL 1)) (SC g) n σ 0 0 45 [(0, yR g 120), (1, yR g k), (2, yI s), (3, yI x), (4, yI y), (5, yI a), (6, yI c), (7, yI (min (x + s) (w - 1))), (8, yI (min (y + s) (h - 1))), (9, yI j)] [] := by
    intro N
    induction N using Nat.strongRecOn with
    | ind N zh45 =>
      intro j a c  zN45 zI45
      refine y_iload (pc := 45) hF dX5_measureSteady_45 9 rfl ?_
      refine y_iload (pc := 47) hF dX5_measureSteady_47 8 rfl ?_
      refine y_icmp_gt (pc := 49) hF dX5_measureSteady_49 103 rfl (by omega) (by omega) (fun zc49 => ?_) (fun zc49 => ?_)
      · skip
        have ze : (a, c) = sSt w h S s x y := by rw [zI45.2, show j = min (y + s) (h - 1) + 1 by omega]; exact (fr_clip2 (f := stF w h S) (xl := 0) (xh := w - 1) (yl := 0) (yh := h - 1) (by omega) (fun q i j hq => by unfold stF; rw [if_neg (by rw [sIn_iff]; omega)])).symm
        have ze1 : a = (sSt w h S s x y).1 := congrArg Prod.fst ze
        have ze2 : c = (sSt w h S s x y).2 := congrArg Prod.snd ze
        have zr1 : -2147483648 ≤ a ∧ a < 2147483648 := by omega
        have zr2 : -2147483648 ≤ c ∧ c < 2147483648 := by omega
        have zr3 : c ≠ 0 := by omega
        refine y_aload_n (pc := 103) hF dX5_measureSteady_103 0 rfl ?_
        refine y_iload (pc := 104) hF dX5_measureSteady_104 6 rfl ?_
        refine y_if_ne (pc := 106) hF dX5_measureSteady_106 113 rfl (by omega) (fun zc106 => ?_) (fun zc106 => ?_)
        · skip
          refine y_iload (pc := 113) hF dX5_measureSteady_113 5 rfl ?_
          refine y_iload (pc := 115) hF dX5_measureSteady_115 6 rfl ?_
          refine y_idiv (pc := 117) hF dX5_measureSteady_117 zr1 zr2 zr3 ?_
          refine y_putf (pc := 118) (ci := 5) (σ' := yset σ 120 0 (Int.tdiv a c)) (sch' := (SC g)) hF dX5_measureSteady_118 (by omega) rfl rfl rfl iX5 0 (by decide) w_313 tyX5 tyX5_ok nmX5 rfl rfl rfl rfl (Nat.le_of_ble_eq_true rfl) rfl (y_ps rfl) (fun k' h => ⟨yset_n h, rfl⟩) ?_
          exact y_vret (pc := 121) hF dX5_measureSteady_121 (Nat.zero_le _) (Nat.zero_le _) ⟨rfl, rfl, by rw [ze1, ze2]; rfl⟩
        · skip
          refine y_iconst (pc := 109) hF dX5_measureSteady_109 ?_
          refine y_goto (pc := 110) hF dX5_measureSteady_110 118 rfl ?_
          refine y_putf (pc := 118) (ci := 5) (σ' := yset σ 120 0 0) (sch' := (SC g)) hF dX5_measureSteady_118 (by omega) rfl rfl rfl iX5 0 (by decide) w_313 tyX5 tyX5_ok nmX5 rfl rfl rfl rfl (Nat.le_of_ble_eq_true rfl) rfl (y_ps rfl) (fun k' h => ⟨yset_n h, rfl⟩) ?_
          exact y_vret (pc := 121) hF dX5_measureSteady_121 (Nat.zero_le _) (Nat.zero_le _) ⟨rfl, rfl, by exfalso; omega⟩
      · skip
        refine y_iload_n (pc := 52) hF dX5_measureSteady_52 3 rfl ?_
        refine y_iload_n (pc := 53) hF dX5_measureSteady_53 2 rfl ?_
        refine y_isub (pc := 54) hF dX5_measureSteady_54 ?_
        refine y_iconst (pc := 55) hF dX5_measureSteady_55 ?_
        refine y_mmax (pc := 56) hF dX5_measureSteady_56 w_875 w_876 w_103 w_877 (Nat.le_of_ble_eq_true rfl) (Nat.le_of_ble_eq_true rfl) ⟨Nat.zero_le _, Nat.zero_le _⟩ (by omega) (by omega) ?_
        refine y_istore (pc := 59) (lv' := [(0, yR g 120), (1, yR g k), (2, yI s), (3, yI x), (4, yI y), (5, yI a), (6, yI c), (7, yI (min (x + s) (w - 1))), (8, yI (min (y + s) (h - 1))), (9, yI j), (10, yI (max (x - s) 0))]) hF dX5_measureSteady_59 (by decide) rfl rfl ?_
        have zL61 : ∀ (N : Nat) (i a2 c2 : Int), N = (min (x + s) (w - 1) + 1 - i).toNat → ((max (x - s) 0 ≤ i ∧ i ≤ min (x + s) (w - 1) + 1) ∧ (a2, c2) = fr (fun q i => stF w h S q i j) (max (x - s) 0) (i - max (x - s) 0).toNat (a, c)) → yV X0 g 11 (yQ X0 g (SC g) (yPv (fun n' σ' => n' = n ∧ σ' = yset σ 120 0 (sSd w h S s x y))) (rmL 1)) (SC g) n σ 0 0 61 [(0, yR g 120), (1, yR g k), (2, yI s), (3, yI x), (4, yI y), (5, yI a2), (6, yI c2), (7, yI (min (x + s) (w - 1))), (8, yI (min (y + s) (h - 1))), (9, yI j), (10, yI i)] [] := by
          intro N
          induction N using Nat.strongRecOn with
          | ind N zh61 =>
            intro i a2 c2  zN61 zI61
            refine y_iload (pc := 61) hF dX5_measureSteady_61 10 rfl ?_
            refine y_iload (pc := 63) hF dX5_measureSteady_63 7 rfl ?_
            refine y_icmp_gt (pc := 65) hF dX5_measureSteady_65 97 rfl (by omega) (by omega) (fun zc65 => ?_) (fun zc65 => ?_)
            · skip
              refine y_iinc (pc := 97) (lv' := [(0, yR g 120), (1, yR g k), (2, yI s), (3, yI x), (4, yI y), (5, yI a2), (6, yI c2), (7, yI (min (x + s) (w - 1))), (8, yI (min (y + s) (h - 1))), (9, yI (j + 1)), (10, yI i)]) hF dX5_measureSteady_97 9 rfl (by decide) rfl rfl ?_
              refine y_goto (pc := 100) hF dX5_measureSteady_100 45 rfl ?_
              refine y_sub [0, 1, 2, 3, 4, 5, 6, 7, 8, 9] rfl ?_
              exact zh45 _ (by omega) (j + 1) (a2) (c2) rfl ⟨by omega, by rw [fr_up' _ _ zI45.1.1, ← zI45.2, zI61.2, show i = min (x + s) (w - 1) + 1 by omega]⟩
            · skip
              have zin : sIn w h i j = true := sIn_iff.mpr (by omega)
              have zix := y_ix (w := w) (h := h) (x := i) (y := j) ⟨hw1, hw2⟩ ⟨hw3, hw4⟩ (by omega) (by omega)
              have zm := hA.2.2.2 i j (by omega) (by omega) (by omega) (by omega)
              refine y_iload (pc := 68) hF dX5_measureSteady_68 5 rfl ?_
              refine y_aload_n (pc := 70) hF dX5_measureSteady_70 1 rfl ?_
              refine y_getN (pc := 71) (ci := 4) hF dX5_measureSteady_71 (by have := hP.1; omega) (hP.2 g).1 rfl rfl iX4 3 (by decide) w_225 rfl ?_
              refine y_iload (pc := 74) hF dX5_measureSteady_74 9 rfl ?_
              refine y_aload_n (pc := 76) hF dX5_measureSteady_76 1 rfl ?_
              refine y_getN (pc := 77) (ci := 4) hF dX5_measureSteady_77 (by have := hP.1; omega) (hP.2 g).1 rfl rfl iX4 0 (by decide) w_211 rfl ?_
              rw [show σ k 0 = w from hA.2.1]
              refine y_imul (pc := 80) hF dX5_measureSteady_80 ?_
              refine y_iload (pc := 81) hF dX5_measureSteady_81 10 rfl ?_
              refine y_iadd (pc := 83) hF dX5_measureSteady_83 ?_
              refine y_iaload (pc := 84) hF dX5_measureSteady_84 (by have := hP.1; omega) (hP.2 g).2.2.1 (by omega) (by decide) ?_
              rw [show σ (k + 2) ((j * w) + i) = S i j from zm.2.1]
              refine y_iadd (pc := 85) hF dX5_measureSteady_85 ?_
              refine y_istore (pc := 86) (lv' := [(0, yR g 120), (1, yR g k), (2, yI s), (3, yI x), (4, yI y), (5, yI (a2 + (S i j))), (6, yI c2), (7, yI (min (x + s) (w - 1))), (8, yI (min (y + s) (h - 1))), (9, yI j), (10, yI i)]) hF dX5_measureSteady_86 (by decide) rfl rfl ?_
              refine y_iinc (pc := 88) (lv' := [(0, yR g 120), (1, yR g k), (2, yI s), (3, yI x), (4, yI y), (5, yI (a2 + (S i j))), (6, yI (c2 + 1)), (7, yI (min (x + s) (w - 1))), (8, yI (min (y + s) (h - 1))), (9, yI j), (10, yI i)]) hF dX5_measureSteady_88 6 rfl (by decide) rfl rfl ?_
              refine y_iinc (pc := 91) (lv' := [(0, yR g 120), (1, yR g k), (2, yI s), (3, yI x), (4, yI y), (5, yI (a2 + (S i j))), (6, yI (c2 + 1)), (7, yI (min (x + s) (w - 1))), (8, yI (min (y + s) (h - 1))), (9, yI j), (10, yI (i + 1))]) hF dX5_measureSteady_91 10 rfl (by decide) rfl rfl ?_
              refine y_goto (pc := 94) hF dX5_measureSteady_94 61 rfl ?_
              exact zh61 _ (by omega) (i + 1) (a2 + (S i j)) (c2 + 1) rfl ⟨by omega, by rw [fr_up' _ _ zI61.1.1, ← zI61.2]; unfold stF; rw [if_pos zin]⟩
        exact zL61 _ (max (x - s) 0) (a) (c) rfl ⟨by omega, (fr_no _ _ _).symm⟩
  exact zL45 _ (max (y - s) 0) (0) (0) rfl ⟨by omega, (fr_no _ _ _).symm⟩
