theorem dX10_difference_0 : decode cX10_difference 0 = .ok (.aload_n 0, 1) := by decide +kernel
theorem dX10_difference_1 : decode cX10_difference 1 = .ok (.iload_n 1, 1) := by decide +kernel
theorem dX10_difference_2 : decode cX10_difference 2 = .ok (.iload_n 2, 1) := by decide +kernel
theorem dX10_difference_3 : decode cX10_difference 3 = .ok (.invokevirtual 156, 3) := by decide +kernel
theorem dX10_difference_6 : decode cX10_difference 6 = .ok (.aload_n 0, 1) := by decide +kernel
theorem dX10_difference_7 : decode cX10_difference 7 = .ok (.iload_n 3, 1) := by decide +kernel
theorem dX10_difference_8 : decode cX10_difference 8 = .ok (.iload 4, 2) := by decide +kernel
theorem dX10_difference_10 : decode cX10_difference 10 = .ok (.invokevirtual 156, 3) := by decide +kernel
theorem dX10_difference_13 : decode cX10_difference 13 = .ok (.aload_n 0, 1) := by decide +kernel
theorem dX10_difference_14 : decode cX10_difference 14 = .ok (.iload 5, 2) := by decide +kernel
theorem dX10_difference_16 : decode cX10_difference 16 = .ok (.ifCond .lt 14, 3) := by decide +kernel
theorem dX10_difference_19 : decode cX10_difference 19 = .ok (.iload 5, 2) := by decide +kernel
theorem dX10_difference_21 : decode cX10_difference 21 = .ok (.bipush 15, 2) := by decide +kernel
theorem dX10_difference_23 : decode cX10_difference 23 = .ok (.if_icmp .gt 7, 3) := by decide +kernel
theorem dX10_difference_26 : decode cX10_difference 26 = .ok (.iconst 1, 1) := by decide +kernel
theorem dX10_difference_27 : decode cX10_difference 27 = .ok (.goto 4, 3) := by decide +kernel
theorem dX10_difference_30 : decode cX10_difference 30 = .ok (.iconst 0, 1) := by decide +kernel
theorem dX10_difference_31 : decode cX10_difference 31 = .ok (.invokevirtual 110, 3) := by decide +kernel
theorem dX10_difference_34 : decode cX10_difference 34 = .ok (.aload_n 0, 1) := by decide +kernel
theorem dX10_difference_35 : decode cX10_difference 35 = .ok (.getfield 63, 3) := by decide +kernel
theorem dX10_difference_38 : decode cX10_difference 38 = .ok (.aload_n 0, 1) := by decide +kernel
theorem dX10_difference_39 : decode cX10_difference 39 = .ok (.getfield 26, 3) := by decide +kernel
theorem dX10_difference_42 : decode cX10_difference 42 = .ok (.aload_n 0, 1) := by decide +kernel
theorem dX10_difference_43 : decode cX10_difference 43 = .ok (.getfield 19, 3) := by decide +kernel
theorem dX10_difference_46 : decode cX10_difference 46 = .ok (.iload_n 1, 1) := by decide +kernel
theorem dX10_difference_47 : decode cX10_difference 47 = .ok (.iload_n 2, 1) := by decide +kernel
theorem dX10_difference_48 : decode cX10_difference 48 = .ok (.invokevirtual 297, 3) := by decide +kernel
theorem dX10_difference_51 : decode cX10_difference 51 = .ok (.aload_n 0, 1) := by decide +kernel
theorem dX10_difference_52 : decode cX10_difference 52 = .ok (.getfield 63, 3) := by decide +kernel
theorem dX10_difference_55 : decode cX10_difference 55 = .ok (.iload_n 3, 1) := by decide +kernel
theorem dX10_difference_56 : decode cX10_difference 56 = .ok (.iload 4, 2) := by decide +kernel
theorem dX10_difference_58 : decode cX10_difference 58 = .ok (.invokevirtual 327, 3) := by decide +kernel
theorem dX10_difference_61 : decode cX10_difference 61 = .ok (.ifCond .eq 16, 3) := by decide +kernel
theorem dX10_difference_64 : decode cX10_difference 64 = .ok (.aload_n 0, 1) := by decide +kernel
theorem dX10_difference_65 : decode cX10_difference 65 = .ok (.getfield 63, 3) := by decide +kernel
theorem dX10_difference_68 : decode cX10_difference 68 = .ok (.iload_n 3, 1) := by decide +kernel
theorem dX10_difference_69 : decode cX10_difference 69 = .ok (.iload 4, 2) := by decide +kernel
theorem dX10_difference_71 : decode cX10_difference 71 = .ok (.invokevirtual 330, 3) := by decide +kernel
theorem dX10_difference_74 : decode cX10_difference 74 = .ok (.ifCond .ne 5, 3) := by decide +kernel
theorem dX10_difference_77 : decode cX10_difference 77 = .ok (.iconst (-1), 1) := by decide +kernel
theorem dX10_difference_78 : decode cX10_difference 78 = .ok (.ireturn, 1) := by decide +kernel
theorem dX10_difference_79 : decode cX10_difference 79 = .ok (.aload_n 0, 1) := by decide +kernel
theorem dX10_difference_80 : decode cX10_difference 80 = .ok (.getfield 26, 3) := by decide +kernel
theorem dX10_difference_83 : decode cX10_difference 83 = .ok (.iload_n 3, 1) := by decide +kernel
theorem dX10_difference_84 : decode cX10_difference 84 = .ok (.iload 4, 2) := by decide +kernel
theorem dX10_difference_86 : decode cX10_difference 86 = .ok (.invokevirtual 169, 3) := by decide +kernel
theorem dX10_difference_89 : decode cX10_difference 89 = .ok (.istore 6, 2) := by decide +kernel
theorem dX10_difference_91 : decode cX10_difference 91 = .ok (.iload 5, 2) := by decide +kernel
theorem dX10_difference_93 : decode cX10_difference 93 = .ok (.iconst 2, 1) := by decide +kernel
theorem dX10_difference_94 : decode cX10_difference 94 = .ok (.idiv, 1) := by decide +kernel
theorem dX10_difference_95 : decode cX10_difference 95 = .ok (.istore 7, 2) := by decide +kernel
theorem dX10_difference_97 : decode cX10_difference 97 = .ok (.aload_n 0, 1) := by decide +kernel
theorem dX10_difference_98 : decode cX10_difference 98 = .ok (.getfield 63, 3) := by decide +kernel
theorem dX10_difference_101 : decode cX10_difference 101 = .ok (.iload 6, 2) := by decide +kernel
theorem dX10_difference_103 : decode cX10_difference 103 = .ok (.iload 7, 2) := by decide +kernel
theorem dX10_difference_105 : decode cX10_difference 105 = .ok (.invokevirtual 333, 3) := by decide +kernel
theorem dX10_difference_108 : decode cX10_difference 108 = .ok (.iload 5, 2) := by decide +kernel
theorem dX10_difference_110 : decode cX10_difference 110 = .ok (.iconst 2, 1) := by decide +kernel
theorem dX10_difference_111 : decode cX10_difference 111 = .ok (.irem, 1) := by decide +kernel
theorem dX10_difference_112 : decode cX10_difference 112 = .ok (.iconst 1, 1) := by decide +kernel
theorem dX10_difference_113 : decode cX10_difference 113 = .ok (.if_icmp .ne 12, 3) := by decide +kernel
theorem dX10_difference_116 : decode cX10_difference 116 = .ok (.aload_n 0, 1) := by decide +kernel
theorem dX10_difference_117 : decode cX10_difference 117 = .ok (.getfield 63, 3) := by decide +kernel
theorem dX10_difference_120 : decode cX10_difference 120 = .ok (.getfield 336, 3) := by decide +kernel
theorem dX10_difference_123 : decode cX10_difference 123 = .ok (.l2i, 1) := by decide +kernel
theorem dX10_difference_124 : decode cX10_difference 124 = .ok (.ireturn, 1) := by decide +kernel
theorem dX10_difference_125 : decode cX10_difference 125 = .ok (.aload_n 0, 1) := by decide +kernel
theorem dX10_difference_126 : decode cX10_difference 126 = .ok (.getfield 63, 3) := by decide +kernel
theorem dX10_difference_129 : decode cX10_difference 129 = .ok (.iload 6, 2) := by decide +kernel
theorem dX10_difference_131 : decode cX10_difference 131 = .ok (.iload 7, 2) := by decide +kernel
theorem dX10_difference_133 : decode cX10_difference 133 = .ok (.ldc_w 339, 3) := by decide +kernel
theorem dX10_difference_136 : decode cX10_difference 136 = .ok (.invokevirtual 340, 3) := by decide +kernel
theorem dX10_difference_139 : decode cX10_difference 139 = .ok (.ireturn, 1) := by decide +kernel
set_option maxHeartbeats 4000000 in
set_option maxRecDepth 100000 in
theorem tX10_difference {l : Launch} {g : yG} {n : Nat} {σ : yM} (hlt : l.stackTraces = false) (hn : 172 ≤ n) (w h : Int) (T S F P O : Int → Int → Int) (nf df nl : Int) (lg : Int → Int → Int) (s re fo ra tu we sh : Int) (H : List aX) (ht : Bool) (K : Int → Int → Int) (tl : Int) (tb : Int → Int) (fa r1 r2 N : Int) (hV : cV σ (w, h, (T, S, F, P, O, nf, df, nl, lg), (s, re, fo, ra, tu, we, sh), H, ht, K, tl, tb, fa, r1, r2)) (hW : aW N (w, h, (T, S, F, P, O, nf, df, nl, lg), (s, re, fo, ra, tu, we, sh), H, ht, K, tl, tb, fa, r1, r2)) (x y u vv a : Int) (hx : -2147483648 ≤ x ∧ x < 2147483648) (hy : -2147483648 ≤ y ∧ y < 2147483648) (hu : -2147483648 ≤ u ∧ u < 2147483648) (hvv : -2147483648 ≤ vv ∧ vv < 2147483648) (ha : -2147483648 ≤ a ∧ a < 2147483648) : yMX l g yX10_difference cX10_difference 8 (some .int) (rmA 8 4 24) [yR g 0, yI x, yI y, yI u, yI vv, yI a] (SC g) n σ (SC g) (yPi (fun v n' σ' => n ≤ n' ∧ ((sIn w h x y = true ∧ sIn w h u vv = true) ∧ 0 ≤ a ∧ a ≤ 15) ∧ v = dfV w h T S F s re fo we sh x y u vv a ∧ cV σ' (w, h, (T, S, F, P, O, nf, df, nl, lg), (s, re, fo, ra, tu, we, sh), H, ht, K, tl, tb, fa, r1, r2) ∧ cF σ σ')) (fun E n' σ' => n ≤ n' ∧ ((E = eN ∧ ¬ (sIn w h x y = true ∧ sIn w h u vv = true) ∧ cV σ' (bN (w, h, (T, S, F, P, O, nf, df, nl, lg), (s, re, fo, ra, tu, we, sh), H, ht, K, tl, tb, fa, r1, r2))) ∨ (E = eA ∧ (sIn w h x y = true ∧ sIn w h u vv = true) ∧ ¬ (0 ≤ a ∧ a ≤ 15) ∧ cV σ' (bA (w, h, (T, S, F, P, O, nf, df, nl, lg), (s, re, fo, ra, tu, we, sh), H, ht, K, tl, tb, fa, r1, r2)))) ∧ cF σ σ') := by
  obtain ⟨⟨hA, hJ⟩, hS, hH, ⟨hb1, hb2⟩, ⟨ht1, ht2⟩, hfa, hr1, hr2, hT⟩ := id hV
  obtain ⟨hw1, hw2, hw3, hw4⟩ := id hA.1.1
  obtain ⟨hs1, hs2, hs3, hs4, hs5, hs6, hs7⟩ := id hS.2
  have z128 : 128 < n := by omega
  have z129 : 129 < n := by omega
  have z130 : 130 < n := by omega
  refine y_startX (by decide) (Nat.le_of_ble_eq_true rfl) (fun X0 hX => ?_)
  have hF := hX.1
  show yV X0 g 8 (yQX X0 g (SC g) (yPi (fun v n' σ' => n ≤ n' ∧ ((sIn w h x y = true ∧ sIn w h u vv = true) ∧ 0 ≤ a ∧ a ≤ 15) ∧ v = dfV w h T S F s re fo we sh x y u vv a ∧ cV σ' (w, h, (T, S, F, P, O, nf, df, nl, lg), (s, re, fo, ra, tu, we, sh), H, ht, K, tl, tb, fa, r1, r2) ∧ cF σ σ')) (fun E n' σ' => n ≤ n' ∧ ((E = eN ∧ ¬ (sIn w h x y = true ∧ sIn w h u vv = true) ∧ cV σ' (bN (w, h, (T, S, F, P, O, nf, df, nl, lg), (s, re, fo, ra, tu, we, sh), H, ht, K, tl, tb, fa, r1, r2))) ∨ (E = eA ∧ (sIn w h x y = true ∧ sIn w h u vv = true) ∧ ¬ (0 ≤ a ∧ a ≤ 15) ∧ cV σ' (bA (w, h, (T, S, F, P, O, nf, df, nl, lg), (s, re, fo, ra, tu, we, sh), H, ht, K, tl, tb, fa, r1, r2)))) ∧ cF σ σ') (rmA 8 4 24)) (SC g) n σ 0 0 0 [(0, yR g 0), (1, yI x), (2, yI y), (3, yI u), (4, yI vv), (5, yI a)] []
  refine y_aload_n (pc := 0) hF dX10_difference_0 0 rfl ?_
  refine y_iload_n (pc := 1) hF dX10_difference_1 1 rfl ?_
  refine y_iload_n (pc := 2) hF dX10_difference_2 2 rfl ?_
  refine y_contX (cells' := 0 + 1) (slots' := 0 + 6) hX (y_rVX (pc := 3) hX (tX10_demandDot hlt hn w h T S F P O hA x y (by omega) (by omega)) dX10_difference_3 (by omega) rfl rfl rfl w_752 qX10_demandDot rfl ⟨Nat.le_of_ble_eq_true rfl, Nat.le_of_ble_eq_true rfl⟩ ⟨Nat.le_of_ble_eq_true rfl, Nat.le_of_ble_eq_true rfl⟩ (Nat.le_of_ble_eq_true rfl) rfl) rfl rfl ⟨Nat.le_of_ble_eq_true rfl, Nat.le_of_ble_eq_true rfl⟩ (fun E n' σ' zx => ⟨zx.2.1, Or.inl ⟨zx.1, by rw [zx.2.2.1]; simp, by rw [zx.2.2.2]; exact hV.bN⟩, by rw [zx.2.2.2]; exact cF_N⟩) (fun r3 n' σ3 zp3 => ?_)
  obtain ⟨zr3, zp3⟩ := zp3
  subst zr3
  obtain ⟨zn3, zs3, zb3⟩ := zp3
  have zs3 := zs3.symm
  subst zs3
  have zn3 := zn3.symm
  subst zn3
  skip
  show yV X0 g 8 (yQX X0 g (SC g) (yPi (fun v n' σ' => n ≤ n' ∧ ((sIn w h x y = true ∧ sIn w h u vv = true) ∧ 0 ≤ a ∧ a ≤ 15) ∧ v = dfV w h T S F s re fo we sh x y u vv a ∧ cV σ' (w, h, (T, S, F, P, O, nf, df, nl, lg), (s, re, fo, ra, tu, we, sh), H, ht, K, tl, tb, fa, r1, r2) ∧ cF σ σ')) (fun E n' σ' => n ≤ n' ∧ ((E = eN ∧ ¬ (sIn w h x y = true ∧ sIn w h u vv = true) ∧ cV σ' (bN (w, h, (T, S, F, P, O, nf, df, nl, lg), (s, re, fo, ra, tu, we, sh), H, ht, K, tl, tb, fa, r1, r2))) ∨ (E = eA ∧ (sIn w h x y = true ∧ sIn w h u vv = true) ∧ ¬ (0 ≤ a ∧ a ≤ 15) ∧ cV σ' (bA (w, h, (T, S, F, P, O, nf, df, nl, lg), (s, re, fo, ra, tu, we, sh), H, ht, K, tl, tb, fa, r1, r2)))) ∧ cF σ σ') (rmA 8 4 24)) (SC g) n σ (0 + 1) (0 + 6) 6 [(0, yR g 0), (1, yI x), (2, yI y), (3, yI u), (4, yI vv), (5, yI a)] []
  refine y_aload_n (pc := 6) hF dX10_difference_6 0 rfl ?_
  refine y_iload_n (pc := 7) hF dX10_difference_7 3 rfl ?_
  refine y_iload (pc := 8) hF dX10_difference_8 4 rfl ?_
  refine y_contX (cells' := 0 + 1 + 1) (slots' := 0 + 6 + 6) hX (y_rVX (pc := 10) hX (tX10_demandDot hlt hn w h T S F P O hA u vv (by omega) (by omega)) dX10_difference_10 (by omega) rfl rfl rfl w_752 qX10_demandDot rfl ⟨Nat.le_of_ble_eq_true rfl, Nat.le_of_ble_eq_true rfl⟩ ⟨Nat.le_of_ble_eq_true rfl, Nat.le_of_ble_eq_true rfl⟩ (Nat.le_of_ble_eq_true rfl) rfl) rfl rfl ⟨Nat.le_of_ble_eq_true rfl, Nat.le_of_ble_eq_true rfl⟩ (fun E n' σ' zx => ⟨zx.2.1, Or.inl ⟨zx.1, by rw [zx.2.2.1]; simp, by rw [zx.2.2.2]; exact hV.bN⟩, by rw [zx.2.2.2]; exact cF_N⟩) (fun r10 n' σ10 zp10 => ?_)
  obtain ⟨zr10, zp10⟩ := zp10
  subst zr10
  obtain ⟨zn10, zs10, zb10⟩ := zp10
  have zs10 := zs10.symm
  subst zs10
  have zn10 := zn10.symm
  subst zn10
  skip
  show yV X0 g 8 (yQX X0 g (SC g) (yPi (fun v n' σ' => n ≤ n' ∧ ((sIn w h x y = true ∧ sIn w h u vv = true) ∧ 0 ≤ a ∧ a ≤ 15) ∧ v = dfV w h T S F s re fo we sh x y u vv a ∧ cV σ' (w, h, (T, S, F, P, O, nf, df, nl, lg), (s, re, fo, ra, tu, we, sh), H, ht, K, tl, tb, fa, r1, r2) ∧ cF σ σ')) (fun E n' σ' => n ≤ n' ∧ ((E = eN ∧ ¬ (sIn w h x y = true ∧ sIn w h u vv = true) ∧ cV σ' (bN (w, h, (T, S, F, P, O, nf, df, nl, lg), (s, re, fo, ra, tu, we, sh), H, ht, K, tl, tb, fa, r1, r2))) ∨ (E = eA ∧ (sIn w h x y = true ∧ sIn w h u vv = true) ∧ ¬ (0 ≤ a ∧ a ≤ 15) ∧ cV σ' (bA (w, h, (T, S, F, P, O, nf, df, nl, lg), (s, re, fo, ra, tu, we, sh), H, ht, K, tl, tb, fa, r1, r2)))) ∧ cF σ σ') (rmA 8 4 24)) (SC g) n σ (0 + 1 + 1) (0 + 6 + 6) 13 [(0, yR g 0), (1, yI x), (2, yI y), (3, yI u), (4, yI vv), (5, yI a)] []
  have zJ31 : ∀ (zb : Bool), (zb = decide (0 ≤ a ∧ a ≤ 15)) → yV X0 g 8 (yQX X0 g (SC g) (yPi (fun v n' σ' => n ≤ n' ∧ ((sIn w h x y = true ∧ sIn w h u vv = true) ∧ 0 ≤ a ∧ a ≤ 15) ∧ v = dfV w h T S F s re fo we sh x y u vv a ∧ cV σ' (w, h, (T, S, F, P, O, nf, df, nl, lg), (s, re, fo, ra, tu, we, sh), H, ht, K, tl, tb, fa, r1, r2) ∧ cF σ σ')) (fun E n' σ' => n ≤ n' ∧ ((E = eN ∧ ¬ (sIn w h x y = true ∧ sIn w h u vv = true) ∧ cV σ' (bN (w, h, (T, S, F, P, O, nf, df, nl, lg), (s, re, fo, ra, tu, we, sh), H, ht, K, tl, tb, fa, r1, r2))) ∨ (E = eA ∧ (sIn w h x y = true ∧ sIn w h u vv = true) ∧ ¬ (0 ≤ a ∧ a ≤ 15) ∧ cV σ' (bA (w, h, (T, S, F, P, O, nf, df, nl, lg), (s, re, fo, ra, tu, we, sh), H, ht, K, tl, tb, fa, r1, r2)))) ∧ cF σ σ') (rmA 8 4 24)) (SC g) n σ (0 + 1 + 1) (0 + 6 + 6) 31 [(0, yR g 0), (1, yI x), (2, yI y), (3, yI u), (4, yI vv), (5, yI a)] [yI (bi zb), yR g 0] := by
    intro zb  zhb
    refine y_contX (cells' := 0 + 1 + 1 + 1) (slots' := 0 + 6 + 6 + 6) hX (y_rVX (pc := 31) hX (tX10_demand hlt hn zb) dX10_difference_31 (by omega) rfl rfl rfl w_611 qX10_demand rfl ⟨Nat.le_of_ble_eq_true rfl, Nat.le_of_ble_eq_true rfl⟩ ⟨Nat.le_of_ble_eq_true rfl, Nat.le_of_ble_eq_true rfl⟩ (Nat.le_of_ble_eq_true rfl) rfl) rfl rfl ⟨Nat.le_of_ble_eq_true rfl, Nat.le_of_ble_eq_true rfl⟩ (fun E n' σ' zx => ⟨zx.2.1, Or.inr ⟨zx.1, ⟨zb3, zb10⟩, by have zq := zx.2.2.1; rw [zhb] at zq; simpa using zq, by rw [zx.2.2.2]; exact hV.bA⟩, by rw [zx.2.2.2]; exact cF_N⟩) (fun r31 n' σ31 zp31 => ?_)
    obtain ⟨zr31, zp31⟩ := zp31
    subst zr31
    obtain ⟨zn31, zs31, zb31⟩ := zp31
    have zs31 := zs31.symm
    subst zs31
    have zn31 := zn31.symm
    subst zn31
    skip
    show yV X0 g 8 (yQX X0 g (SC g) (yPi (fun v n' σ' => n ≤ n' ∧ ((sIn w h x y = true ∧ sIn w h u vv = true) ∧ 0 ≤ a ∧ a ≤ 15) ∧ v = dfV w h T S F s re fo we sh x y u vv a ∧ cV σ' (w, h, (T, S, F, P, O, nf, df, nl, lg), (s, re, fo, ra, tu, we, sh), H, ht, K, tl, tb, fa, r1, r2) ∧ cF σ σ')) (fun E n' σ' => n ≤ n' ∧ ((E = eN ∧ ¬ (sIn w h x y = true ∧ sIn w h u vv = true) ∧ cV σ' (bN (w, h, (T, S, F, P, O, nf, df, nl, lg), (s, re, fo, ra, tu, we, sh), H, ht, K, tl, tb, fa, r1, r2))) ∨ (E = eA ∧ (sIn w h x y = true ∧ sIn w h u vv = true) ∧ ¬ (0 ≤ a ∧ a ≤ 15) ∧ cV σ' (bA (w, h, (T, S, F, P, O, nf, df, nl, lg), (s, re, fo, ra, tu, we, sh), H, ht, K, tl, tb, fa, r1, r2)))) ∧ cF σ σ') (rmA 8 4 24)) (SC g) n σ (0 + 1 + 1 + 1) (0 + 6 + 6 + 6) 34 [(0, yR g 0), (1, yI x), (2, yI y), (3, yI u), (4, yI vv), (5, yI a)] []
    have zok : (sIn w h x y = true ∧ sIn w h u vv = true) ∧ 0 ≤ a ∧ a ≤ 15 := ⟨⟨zb3, zb10⟩, by have zq := zb31; rw [zhb] at zq; simpa using zq⟩
    have zi := sIn_iff.mp zb3
    have zj := sIn_iff.mp zb10
    refine y_aload_n (pc := 34) hF dX10_difference_34 0 rfl ?_
    refine y_get (pc := 35) (ci := 10) hF dX10_difference_35 (by omega) rfl rfl rfl iX10 8 (by decide) w_495 rfl ?_
    refine y_aload_n (pc := 38) hF dX10_difference_38 0 rfl ?_
    refine y_get (pc := 39) (ci := 10) hF dX10_difference_39 (by omega) rfl rfl rfl iX10 2 (by decide) w_489 rfl ?_
    refine y_aload_n (pc := 42) hF dX10_difference_42 0 rfl ?_
    refine y_get (pc := 43) (ci := 10) hF dX10_difference_43 (by omega) rfl rfl rfl iX10 1 (by decide) w_488 rfl ?_
    refine y_iload_n (pc := 46) hF dX10_difference_46 1 rfl ?_
    refine y_iload_n (pc := 47) hF dX10_difference_47 2 rfl ?_
    refine y_cv (y_rV (pc := 48) hF (tX6_aim 5 4 w h T S F P O s re fo ra tu we sh hn pic_5 set_4 hA hS (by omega) (by omega) hT x y zb3) dX10_difference_48 (by omega) rfl rfl rfl w_1048 qX6_aim rfl ⟨Nat.le_of_ble_eq_true rfl, Nat.le_of_ble_eq_true rfl⟩ ⟨Nat.le_of_ble_eq_true rfl, Nat.le_of_ble_eq_true rfl⟩ (Nat.le_of_ble_eq_true rfl) rfl) rfl rfl (fun n' σ48 zp48 => ?_)
    obtain ⟨zn48, zp48⟩ := zp48
    have zn48 := zn48.symm
    subst zn48
    have zA_σ48 := hA.fc (by omega) zp48.1
    have zS_σ48 := hS.fc (by omega) zp48.1
    have zV1 := hV.scr zp48.1 (by omega) zp48.2.1.2.1
    refine y_aload_n (pc := 51) hF dX10_difference_51 0 rfl ?_
    refine y_get (pc := 52) (ci := 10) hF dX10_difference_52 (by omega) rfl rfl rfl iX10 8 (by decide) w_495 rfl ?_
    refine y_iload_n (pc := 55) hF dX10_difference_55 3 rfl ?_
    refine y_iload (pc := 56) hF dX10_difference_56 4 rfl ?_
    have zz58 := y_rV (pc := 58) hF (tX6_reaches (n := n) (σ := σ48) 5 4 w h T S F P O s re fo ra tu we sh hn pic_5 set_4 zA_σ48 zS_σ48 (by omega) (by omega) x y zp48.2.1.1 (by omega) (by omega) u vv (by omega) (by omega)) dX10_difference_58 (by omega) rfl rfl rfl w_1064 qX6_reaches rfl ⟨Nat.le_of_ble_eq_true rfl, Nat.le_of_ble_eq_true rfl⟩ ⟨Nat.le_of_ble_eq_true rfl, Nat.le_of_ble_eq_true rfl⟩ (Nat.le_of_ble_eq_true rfl) rfl (rest := []) (cells := 0 + 1 + 1 + 1) (slots := 0 + 6 + 6 + 6) (lv := [(0, yR g 0), (1, yI x), (2, yI y), (3, yI u), (4, yI vv), (5, yI a)])
    refine y_cp (zz58) ?_
    refine y_if_eq (pc := 61) hF dX10_difference_61 77 rfl bi_r (fun zc61 => ?_) (fun zc61 => ?_)
    · replace zc61 := bi_0.mp zc61
      refine y_iconst (pc := 77) hF dX10_difference_77 ?_
      exact y_retX (y_iret (pc := 78) hF dX10_difference_78 (Nat.le_of_ble_eq_true rfl) (Nat.le_of_ble_eq_true rfl) ⟨_, rfl, Nat.le_refl _, zok, by unfold dfV; rw [if_neg (by simp [zc61])], zV1, zp48.1.cF (by omega)⟩)
    · replace zc61 := bi_n0.mp zc61
      refine y_aload_n (pc := 64) hF dX10_difference_64 0 rfl ?_
      refine y_get (pc := 65) (ci := 10) hF dX10_difference_65 (by omega) rfl rfl rfl iX10 8 (by decide) w_495 rfl ?_
      refine y_iload_n (pc := 68) hF dX10_difference_68 3 rfl ?_
      refine y_iload (pc := 69) hF dX10_difference_69 4 rfl ?_
      have zz71 := y_rV (pc := 71) hF (tX6_isWholeAndUsable (n := n) (σ := σ48) 5 4 w h T S F P O s re fo ra tu we sh hn pic_5 set_4 zA_σ48 zS_σ48 (by omega) (by omega) x y zp48.2.1.1 zp48.2.1.2.2.1 u vv (by omega) (by omega)) dX10_difference_71 (by omega) rfl rfl rfl w_1069 qX6_isWholeAndUsable rfl ⟨Nat.le_of_ble_eq_true rfl, Nat.le_of_ble_eq_true rfl⟩ ⟨Nat.le_of_ble_eq_true rfl, Nat.le_of_ble_eq_true rfl⟩ (Nat.le_of_ble_eq_true rfl) rfl (rest := []) (cells := 0 + 1 + 1 + 1) (slots := 0 + 6 + 6 + 6) (lv := [(0, yR g 0), (1, yI x), (2, yI y), (3, yI u), (4, yI vv), (5, yI a)])
      refine y_cp (zz71) ?_
      refine y_if_ne (pc := 74) hF dX10_difference_74 79 rfl bi_r (fun zc74 => ?_) (fun zc74 => ?_)
      · replace zc74 := bi_n0.mp zc74
        have zwy : 0 ≤ a / 2 ∧ a / 2 < 8 := by omega
        have zpl := sWs.pl (by omega) zc74
        have zSH := sSh_bd hA.1 (we := we) (sh := sh) (way := a / 2) (x := x) (y := y) ⟨by omega, hs1.2⟩ zpl
        refine y_aload_n (pc := 79) hF dX10_difference_79 0 rfl ?_
        refine y_get (pc := 80) (ci := 10) hF dX10_difference_80 (by omega) rfl rfl rfl iX10 2 (by decide) w_489 rfl ?_
        refine y_iload_n (pc := 83) hF dX10_difference_83 3 rfl ?_
        refine y_iload (pc := 84) hF dX10_difference_84 4 rfl ?_
        have zz86 := y_rV (pc := 86) hF (tX4_at (n := n) (σ := σ48) 5 w h T S F P O hn pic_5 zA_σ48 u vv) dX10_difference_86 (by have := pic_5.1; omega) (pic_5.2 g).1 rfl rfl w_794 qX4_at rfl ⟨Nat.le_of_ble_eq_true rfl, Nat.le_of_ble_eq_true rfl⟩ ⟨Nat.le_of_ble_eq_true rfl, Nat.le_of_ble_eq_true rfl⟩ (Nat.le_of_ble_eq_true rfl) rfl (rest := []) (cells := 0 + 1 + 1 + 1) (slots := 0 + 6 + 6 + 6) (lv := [(0, yR g 0), (1, yI x), (2, yI y), (3, yI u), (4, yI vv), (5, yI a)])
        refine y_cp (zz86) ?_
        refine y_istore (pc := 89) (lv' := [(0, yR g 0), (1, yI x), (2, yI y), (3, yI u), (4, yI vv), (5, yI a), (6, yI (vv * w + u))]) hF dX10_difference_89 (by decide) rfl rfl ?_
        refine y_iload (pc := 91) hF dX10_difference_91 5 rfl ?_
        refine y_iconst (pc := 93) hF dX10_difference_93 ?_
        refine y_idiv (pc := 94) hF dX10_difference_94 (by omega) (by omega) (by omega) ?_
        rw [show Int.tdiv a 2 = a / 2 from (y_quo (by omega))]
        refine y_istore (pc := 95) (lv' := [(0, yR g 0), (1, yI x), (2, yI y), (3, yI u), (4, yI vv), (5, yI a), (6, yI (vv * w + u)), (7, yI (a / 2))]) hF dX10_difference_95 (by decide) rfl rfl ?_
        refine y_aload_n (pc := 97) hF dX10_difference_97 0 rfl ?_
        refine y_get (pc := 98) (ci := 10) hF dX10_difference_98 (by omega) rfl rfl rfl iX10 8 (by decide) w_495 rfl ?_
        refine y_iload (pc := 101) hF dX10_difference_101 6 rfl ?_
        refine y_iload (pc := 103) hF dX10_difference_103 7 rfl ?_
        refine y_cv (y_rV (pc := 105) hF (tX6_compare 5 4 w h T S F P O s re fo ra tu we sh hn pic_5 set_4 zA_σ48 zS_σ48 (by omega) (by omega) x y zp48.2.1.1 u vv (a / 2) zb10 zwy zpl zp48.2.1.2.2.2) dX10_difference_105 (by omega) rfl rfl rfl w_1070 qX6_compare rfl ⟨Nat.le_of_ble_eq_true rfl, Nat.le_of_ble_eq_true rfl⟩ ⟨Nat.le_of_ble_eq_true rfl, Nat.le_of_ble_eq_true rfl⟩ (Nat.le_of_ble_eq_true rfl) rfl) rfl rfl (fun n' σ105 zp105 => ?_)
        obtain ⟨zn105, zp105⟩ := zp105
        have zn105 := zn105.symm
        subst zn105
        have zA_σ105 := zA_σ48.fc (by omega) zp105.1.fc
        have zS_σ105 := zS_σ48.fc (by omega) zp105.1.fc
        have zB5 := zp48.2.1.1.fr (σ' := σ105) (fun j _ _ => zp105.1 123 j (by omega))
        have zG5 := zp48.2.1.2.2.2.fk10 (zp105.1.wk (by omega) (by omega))
        have zV2 := zV1.scr zp105.1.fc (by omega) (zp48.2.1.2.1.fr (zp105.1.fc 127 (by omega)))
        have zf2 := (zp48.1.cF (by omega)).tr (zp105.1.fc.cF (by omega))
        refine y_iload (pc := 108) hF dX10_difference_108 5 rfl ?_
        refine y_iconst (pc := 110) hF dX10_difference_110 ?_
        refine y_irem (pc := 111) hF dX10_difference_111 (by omega) (by omega) (by omega) ?_
        rw [show a - Int.tdiv a 2 * 2 = a % 2 from (y_rem (by omega) (by omega))]
        refine y_iconst (pc := 112) hF dX10_difference_112 ?_
        refine y_icmp_ne (pc := 113) hF dX10_difference_113 125 rfl (by omega) (by omega) (fun zc113 => ?_) (fun zc113 => ?_)
        · skip
          refine y_aload_n (pc := 125) hF dX10_difference_125 0 rfl ?_
          refine y_get (pc := 126) (ci := 10) hF dX10_difference_126 (by omega) rfl rfl rfl iX10 8 (by decide) w_495 rfl ?_
          refine y_iload (pc := 129) hF dX10_difference_129 6 rfl ?_
          refine y_iload (pc := 131) hF dX10_difference_131 7 rfl ?_
          refine y_ldcw (pc := 133) (v := 2147483647) hF dX10_difference_133 wk_1071 ?_
          refine y_ci (y_rV (pc := 136) hF (tX6_reckon 5 4 w h T S F P O s re fo ra tu we sh hn pic_5 set_4 zA_σ105 zS_σ105 (by omega) (by omega) x y zB5 u vv (a / 2) zb10 zwy zpl zG5 (sSh w h T S s we sh x y u vv (a / 2)) 2147483647 zp105.2.1 zSH (by decide)) dX10_difference_136 (by omega) rfl rfl rfl w_1072 qX6_reckon rfl ⟨Nat.le_of_ble_eq_true rfl, Nat.le_of_ble_eq_true rfl⟩ ⟨Nat.le_of_ble_eq_true rfl, Nat.le_of_ble_eq_true rfl⟩ (Nat.le_of_ble_eq_true rfl) rfl) rfl rfl (fun r136 n' σ136 zp136 => ?_)
          obtain ⟨zn136, zv136, zp136⟩ := zp136
          have zn136 := zn136.symm
          subst zn136
          subst zv136
          exact y_retX (y_iret (pc := 139) hF dX10_difference_139 (Nat.le_of_ble_eq_true rfl) (Nat.le_of_ble_eq_true rfl) ⟨_, rfl, Nat.le_refl _, zok, by unfold dfV; rw [if_pos ⟨zc61, zc74⟩, if_neg zc113, sDf_le (le := 2147483647) (le' := 1000000000) hA.1 hs1 zpl zSH (by decide) (by decide)], zV2.scr zp136.1.fc (by omega) (zV2.T.fr (zp136.1.fc 127 (by omega))), zf2.tr (zp136.1.fc.cF (by omega))⟩)
        · skip
          refine y_aload_n (pc := 116) hF dX10_difference_116 0 rfl ?_
          refine y_get (pc := 117) (ci := 10) hF dX10_difference_117 (by omega) rfl rfl rfl iX10 8 (by decide) w_495 rfl ?_
          refine y_getN (pc := 120) (ci := 6) hF dX10_difference_120 (by omega) rfl rfl rfl iX6 11 (by decide) w_377 rfl ?_
          rw [show σ105 123 11 = sBo w h T S s we sh x y u vv (a / 2) from zp105.2.2]
          refine y_l2i (pc := 123) hF dX10_difference_123 ?_
          exact y_retX (y_iret (pc := 124) hF dX10_difference_124 (Nat.le_of_ble_eq_true rfl) (Nat.le_of_ble_eq_true rfl) ⟨_, rfl, Nat.le_refl _, zok, by unfold dfV; rw [if_pos ⟨zc61, zc74⟩, if_pos zc113], zV2, zf2⟩)
      · replace zc74 := bi_0.mp zc74
        refine y_iconst (pc := 77) hF dX10_difference_77 ?_
        exact y_retX (y_iret (pc := 78) hF dX10_difference_78 (Nat.le_of_ble_eq_true rfl) (Nat.le_of_ble_eq_true rfl) ⟨_, rfl, Nat.le_refl _, zok, by unfold dfV; rw [if_neg (by simp [zc74])], zV1, zp48.1.cF (by omega)⟩)
  refine y_aload_n (pc := 13) hF dX10_difference_13 0 rfl ?_
  refine y_iload (pc := 14) hF dX10_difference_14 5 rfl ?_
  refine y_if_lt (pc := 16) hF dX10_difference_16 30 rfl (by omega) (fun zc16 => ?_) (fun zc16 => ?_)
  · skip
    refine y_iconst (pc := 30) hF dX10_difference_30 ?_
    exact zJ31 false (by simp; omega)
  · skip
    refine y_iload (pc := 19) hF dX10_difference_19 5 rfl ?_
    refine y_bipush (pc := 21) hF dX10_difference_21 (by decide) ?_
    refine y_icmp_gt (pc := 23) hF dX10_difference_23 30 rfl (by omega) (by omega) (fun zc23 => ?_) (fun zc23 => ?_)
    · skip
      refine y_iconst (pc := 30) hF dX10_difference_30 ?_
      exact zJ31 false (by simp; omega)
    · skip
      refine y_iconst (pc := 26) hF dX10_difference_26 ?_
      refine y_goto (pc := 27) hF dX10_difference_27 31 rfl ?_
      exact zJ31 true (by simp; omega)

theorem dX10_half_0 : decode cX10_half 0 = .ok (.aload_n 0, 1) := by decide +kernel
theorem dX10_half_1 : decode cX10_half 1 = .ok (.iload_n 1, 1) := by decide +kernel
theorem dX10_half_2 : decode cX10_half 2 = .ok (.iconst 1, 1) := by decide +kernel
theorem dX10_half_3 : decode cX10_half 3 = .ok (.if_icmp .eq 8, 3) := by decide +kernel
theorem dX10_half_6 : decode cX10_half 6 = .ok (.iload_n 1, 1) := by decide +kernel
theorem dX10_half_7 : decode cX10_half 7 = .ok (.iconst 2, 1) := by decide +kernel
theorem dX10_half_8 : decode cX10_half 8 = .ok (.if_icmp .ne 7, 3) := by decide +kernel
theorem dX10_half_11 : decode cX10_half 11 = .ok (.iconst 1, 1) := by decide +kernel
theorem dX10_half_12 : decode cX10_half 12 = .ok (.goto 4, 3) := by decide +kernel
theorem dX10_half_15 : decode cX10_half 15 = .ok (.iconst 0, 1) := by decide +kernel
theorem dX10_half_16 : decode cX10_half 16 = .ok (.invokevirtual 110, 3) := by decide +kernel
theorem dX10_half_19 : decode cX10_half 19 = .ok (.aload_n 0, 1) := by decide +kernel
theorem dX10_half_20 : decode cX10_half 20 = .ok (.getfield 79, 3) := by decide +kernel
theorem dX10_half_23 : decode cX10_half 23 = .ok (.aload_n 0, 1) := by decide +kernel
theorem dX10_half_24 : decode cX10_half 24 = .ok (.getfield 26, 3) := by decide +kernel
theorem dX10_half_27 : decode cX10_half 27 = .ok (.iload_n 1, 1) := by decide +kernel
theorem dX10_half_28 : decode cX10_half 28 = .ok (.invokevirtual 371, 3) := by decide +kernel
theorem dX10_half_31 : decode cX10_half 31 = .ok (.iload_n 1, 1) := by decide +kernel
theorem dX10_half_32 : decode cX10_half 32 = .ok (.if_icmp .ge 6, 3) := by decide +kernel
theorem dX10_half_35 : decode cX10_half 35 = .ok (.bipush (-2), 2) := by decide +kernel
theorem dX10_half_37 : decode cX10_half 37 = .ok (.ireturn, 1) := by decide +kernel
theorem dX10_half_38 : decode cX10_half 38 = .ok (.iload_n 1, 1) := by decide +kernel
theorem dX10_half_39 : decode cX10_half 39 = .ok (.iconst 1, 1) := by decide +kernel
theorem dX10_half_40 : decode cX10_half 40 = .ok (.if_icmp .ne 13, 3) := by decide +kernel
theorem dX10_half_43 : decode cX10_half 43 = .ok (.aload_n 0, 1) := by decide +kernel
theorem dX10_half_44 : decode cX10_half 44 = .ok (.getfield 79, 3) := by decide +kernel
theorem dX10_half_47 : decode cX10_half 47 = .ok (.getfield 375, 3) := by decide +kernel
theorem dX10_half_50 : decode cX10_half 50 = .ok (.goto 10, 3) := by decide +kernel
theorem dX10_half_53 : decode cX10_half 53 = .ok (.aload_n 0, 1) := by decide +kernel
theorem dX10_half_54 : decode cX10_half 54 = .ok (.getfield 79, 3) := by decide +kernel
theorem dX10_half_57 : decode cX10_half 57 = .ok (.getfield 378, 3) := by decide +kernel
theorem dX10_half_60 : decode cX10_half 60 = .ok (.astore 4, 2) := by decide +kernel
theorem dX10_half_62 : decode cX10_half 62 = .ok (.aload 4, 2) := by decide +kernel
theorem dX10_half_64 : decode cX10_half 64 = .ok (.iload_n 2, 1) := by decide +kernel
theorem dX10_half_65 : decode cX10_half 65 = .ok (.iload_n 3, 1) := by decide +kernel
theorem dX10_half_66 : decode cX10_half 66 = .ok (.invokevirtual 381, 3) := by decide +kernel
theorem dX10_half_69 : decode cX10_half 69 = .ok (.ifCond .eq 19, 3) := by decide +kernel
theorem dX10_half_72 : decode cX10_half 72 = .ok (.aload 4, 2) := by decide +kernel
theorem dX10_half_74 : decode cX10_half 74 = .ok (.getfield 176, 3) := by decide +kernel
theorem dX10_half_77 : decode cX10_half 77 = .ok (.aload 4, 2) := by decide +kernel
theorem dX10_half_79 : decode cX10_half 79 = .ok (.iload_n 2, 1) := by decide +kernel
theorem dX10_half_80 : decode cX10_half 80 = .ok (.iload_n 3, 1) := by decide +kernel
theorem dX10_half_81 : decode cX10_half 81 = .ok (.invokevirtual 169, 3) := by decide +kernel
theorem dX10_half_84 : decode cX10_half 84 = .ok (.iaload, 1) := by decide +kernel
theorem dX10_half_85 : decode cX10_half 85 = .ok (.goto 5, 3) := by decide +kernel
theorem dX10_half_88 : decode cX10_half 88 = .ok (.bipush (-2), 2) := by decide +kernel
theorem dX10_half_90 : decode cX10_half 90 = .ok (.ireturn, 1) := by decide +kernel
set_option maxHeartbeats 4000000 in
set_option maxRecDepth 100000 in
theorem tX10_half {l : Launch} {g : yG} {n : Nat} {σ : yM} (hlt : l.stackTraces = false) (hn : 172 ≤ n) (w h : Int) (T S F P O : Int → Int → Int) (nf df nl : Int) (lg : Int → Int → Int) (s re fo ra tu we sh : Int) (H : List aX) (ht : Bool) (K : Int → Int → Int) (tl : Int) (tb : Int → Int) (fa r1 r2 N : Int) (hV : cV σ (w, h, (T, S, F, P, O, nf, df, nl, lg), (s, re, fo, ra, tu, we, sh), H, ht, K, tl, tb, fa, r1, r2)) (hW : aW N (w, h, (T, S, F, P, O, nf, df, nl, lg), (s, re, fo, ra, tu, we, sh), H, ht, K, tl, tb, fa, r1, r2)) (a x y : Int) (ha : -2147483648 ≤ a ∧ a < 2147483648) (hx : -2147483648 ≤ x ∧ x < 2147483648) (hy : -2147483648 ≤ y ∧ y < 2147483648) : yMX l g yX10_half cX10_half 5 (some .int) (rmA 8 4 24) [yR g 0, yI a, yI x, yI y] (SC g) n σ (SC g) (yPi (fun v n' σ' => n ≤ n' ∧ (a = 1 ∨ a = 2) ∧ v = hfV w h T a x y ∧ cV σ' (w, h, (T, S, F, P, O, nf, df, nl, lg), (s, re, fo, ra, tu, we, sh), H, ht, K, tl, tb, fa, r1, r2) ∧ cF σ σ')) (fun E n' σ' => E = eA ∧ n ≤ n' ∧ ¬ (a = 1 ∨ a = 2) ∧ cV σ' (bA (w, h, (T, S, F, P, O, nf, df, nl, lg), (s, re, fo, ra, tu, we, sh), H, ht, K, tl, tb, fa, r1, r2)) ∧ cF σ σ') := by
  obtain ⟨⟨hA, hJ⟩, hS, hH, ⟨hb1, hb2⟩, ⟨ht1, ht2⟩, hfa, hr1, hr2, hT⟩ := id hV
  obtain ⟨hw1, hw2, hw3, hw4⟩ := id hA.1.1
  obtain ⟨hs1, hs2, hs3, hs4, hs5, hs6, hs7⟩ := id hS.2
  have z128 : 128 < n := by omega
  have z129 : 129 < n := by omega
  have z130 : 130 < n := by omega
  have zh012 := nHf_012 w h a
  refine y_startX (by decide) (Nat.le_of_ble_eq_true rfl) (fun X0 hX => ?_)
  have hF := hX.1
  show yV X0 g 5 (yQX X0 g (SC g) (yPi (fun v n' σ' => n ≤ n' ∧ (a = 1 ∨ a = 2) ∧ v = hfV w h T a x y ∧ cV σ' (w, h, (T, S, F, P, O, nf, df, nl, lg), (s, re, fo, ra, tu, we, sh), H, ht, K, tl, tb, fa, r1, r2) ∧ cF σ σ')) (fun E n' σ' => E = eA ∧ n ≤ n' ∧ ¬ (a = 1 ∨ a = 2) ∧ cV σ' (bA (w, h, (T, S, F, P, O, nf, df, nl, lg), (s, re, fo, ra, tu, we, sh), H, ht, K, tl, tb, fa, r1, r2)) ∧ cF σ σ') (rmA 8 4 24)) (SC g) n σ 0 0 0 [(0, yR g 0), (1, yI a), (2, yI x), (3, yI y)] []
  have zJ16 : ∀ (zb : Bool), (zb = decide (a = 1 ∨ a = 2)) → yV X0 g 5 (yQX X0 g (SC g) (yPi (fun v n' σ' => n ≤ n' ∧ (a = 1 ∨ a = 2) ∧ v = hfV w h T a x y ∧ cV σ' (w, h, (T, S, F, P, O, nf, df, nl, lg), (s, re, fo, ra, tu, we, sh), H, ht, K, tl, tb, fa, r1, r2) ∧ cF σ σ')) (fun E n' σ' => E = eA ∧ n ≤ n' ∧ ¬ (a = 1 ∨ a = 2) ∧ cV σ' (bA (w, h, (T, S, F, P, O, nf, df, nl, lg), (s, re, fo, ra, tu, we, sh), H, ht, K, tl, tb, fa, r1, r2)) ∧ cF σ σ') (rmA 8 4 24)) (SC g) n σ 0 0 16 [(0, yR g 0), (1, yI a), (2, yI x), (3, yI y)] [yI (bi zb), yR g 0] := by
    intro zb  zhb
    refine y_contX (cells' := 0 + 1) (slots' := 0 + 6) hX (y_rVX (pc := 16) hX (tX10_demand hlt hn zb) dX10_half_16 (by omega) rfl rfl rfl w_611 qX10_demand rfl ⟨Nat.le_of_ble_eq_true rfl, Nat.le_of_ble_eq_true rfl⟩ ⟨Nat.le_of_ble_eq_true rfl, Nat.le_of_ble_eq_true rfl⟩ (Nat.le_of_ble_eq_true rfl) rfl) rfl rfl ⟨Nat.le_of_ble_eq_true rfl, Nat.le_of_ble_eq_true rfl⟩ (fun E n' σ' zx => ⟨zx.1, zx.2.1, by have zq := zx.2.2.1; rw [zhb] at zq; simpa using zq, by rw [zx.2.2.2]; exact hV.bA, by rw [zx.2.2.2]; exact cF_N⟩) (fun r16 n' σ16 zp16 => ?_)
    obtain ⟨zr16, zp16⟩ := zp16
    subst zr16
    obtain ⟨zn16, zs16, zb16⟩ := zp16
    have zs16 := zs16.symm
    subst zs16
    have zn16 := zn16.symm
    subst zn16
    skip
    show yV X0 g 5 (yQX X0 g (SC g) (yPi (fun v n' σ' => n ≤ n' ∧ (a = 1 ∨ a = 2) ∧ v = hfV w h T a x y ∧ cV σ' (w, h, (T, S, F, P, O, nf, df, nl, lg), (s, re, fo, ra, tu, we, sh), H, ht, K, tl, tb, fa, r1, r2) ∧ cF σ σ')) (fun E n' σ' => E = eA ∧ n ≤ n' ∧ ¬ (a = 1 ∨ a = 2) ∧ cV σ' (bA (w, h, (T, S, F, P, O, nf, df, nl, lg), (s, re, fo, ra, tu, we, sh), H, ht, K, tl, tb, fa, r1, r2)) ∧ cF σ σ') (rmA 8 4 24)) (SC g) n σ (0 + 1) (0 + 6) 19 [(0, yR g 0), (1, yI a), (2, yI x), (3, yI y)] []
    have zok : a = 1 ∨ a = 2 := by have zq := zb16; rw [zhb] at zq; simpa using zq
    refine y_aload_n (pc := 19) hF dX10_half_19 0 rfl ?_
    refine y_get (pc := 20) (ci := 10) hF dX10_half_20 (by omega) rfl rfl rfl iX10 10 (by decide) w_497 rfl ?_
    refine y_aload_n (pc := 23) hF dX10_half_23 0 rfl ?_
    refine y_get (pc := 24) (ci := 10) hF dX10_half_24 (by omega) rfl rfl rfl iX10 2 (by decide) w_489 rfl ?_
    refine y_iload_n (pc := 27) hF dX10_half_27 1 rfl ?_
    refine y_ci (y_rV (pc := 28) hF (tX0_makeHalves 5 w h T S F P O hn pic_5 hA (by omega) a (by omega)) dX10_half_28 (by omega) rfl rfl rfl w_1133 qX0_makeHalves rfl ⟨Nat.le_of_ble_eq_true rfl, Nat.le_of_ble_eq_true rfl⟩ ⟨Nat.le_of_ble_eq_true rfl, Nat.le_of_ble_eq_true rfl⟩ (Nat.le_of_ble_eq_true rfl) rfl) rfl rfl (fun r28 n' σ28 zp28 => ?_)
    obtain ⟨zn28, zv28, zp28⟩ := zp28
    have zn28 := zn28.symm
    subst zn28
    subst zv28
    have zV := hV.scr zp28.1 (by omega) (hT.fr (zp28.1 127 (by omega)))
    refine y_iload_n (pc := 31) hF dX10_half_31 1 rfl ?_
    refine y_icmp_ge (pc := 32) hF dX10_half_32 38 rfl (by omega) (by omega) (fun zc32 => ?_) (fun zc32 => ?_)
    · skip
      refine y_iload_n (pc := 38) hF dX10_half_38 1 rfl ?_
      refine y_iconst (pc := 39) hF dX10_half_39 ?_
      refine y_icmp_ne (pc := 40) hF dX10_half_40 53 rfl (by omega) (by omega) (fun zc40 => ?_) (fun zc40 => ?_)
      · skip
        refine y_aload_n (pc := 53) hF dX10_half_53 0 rfl ?_
        refine y_get (pc := 54) (ci := 10) hF dX10_half_54 (by omega) rfl rfl rfl iX10 10 (by decide) w_497 rfl ?_
        refine y_getN (pc := 57) (ci := 0) hF dX10_half_57 (by omega) rfl rfl rfl iX0 3 (by decide) w_474 rfl ?_
        refine y_astore (pc := 60) (lv' := [(0, yR g 0), (1, yI a), (2, yI x), (3, yI y), (4, yR g 138)]) hF dX10_half_60 (by decide) rfl rfl ?_
        refine y_aload (pc := 62) hF dX10_half_62 4 rfl ?_
        refine y_iload_n (pc := 64) hF dX10_half_64 2 rfl ?_
        refine y_iload_n (pc := 65) hF dX10_half_65 3 rfl ?_
        have zz66 := y_rV (pc := 66) hF (tX4_has (n := n) (σ := σ28) 138 (((w + 1) / 2 + 1) / 2) (((h + 1) / 2 + 1) / 2) (sHf ((w + 1) / 2) ((h + 1) / 2) (sHf w h T)) (hS_ (sHf ((w + 1) / 2) ((h + 1) / 2) (sHf w h T))) (fun _ _ => 0) (fun _ _ => -1) (fun _ _ => -1) hn pic_138 (zp28.2.2 (by omega)) x y hx hy) dX10_half_66 (by have := pic_138.1; omega) (pic_138.2 g).1 rfl rfl w_756 qX4_has rfl ⟨Nat.le_of_ble_eq_true rfl, Nat.le_of_ble_eq_true rfl⟩ ⟨Nat.le_of_ble_eq_true rfl, Nat.le_of_ble_eq_true rfl⟩ (Nat.le_of_ble_eq_true rfl) rfl (rest := []) (cells := 0 + 1) (slots := 0 + 6) (lv := [(0, yR g 0), (1, yI a), (2, yI x), (3, yI y), (4, yR g 138)])
        refine y_cp (zz66) ?_
        refine y_if_eq (pc := 69) hF dX10_half_69 88 rfl bi_r (fun zc69 => ?_) (fun zc69 => ?_)
        · replace zc69 := bi_0.mp zc69
          refine y_bipush (pc := 88) hF dX10_half_88 (by decide) ?_
          exact y_retX (y_iret (pc := 90) hF dX10_half_90 (Nat.le_of_ble_eq_true rfl) (Nat.le_of_ble_eq_true rfl) ⟨_, rfl, Nat.le_refl _, zok, by unfold hfV; rw [if_neg (by omega), if_neg (show ¬ a = 1 by omega), if_neg (by simp [zc69])], zV, zp28.1.cF (by omega)⟩)
        · replace zc69 := bi_n0.mp zc69
          have zi := sIn_iff.mp zc69
          have zix := y_ix (w := (((w + 1) / 2 + 1) / 2)) (h := (((h + 1) / 2 + 1) / 2)) (x := x) (y := y) (by omega) (by omega) (by omega) (by omega)
          have zat := (zp28.2.2 (by omega)).2.2.2 x y zi.1 zi.2.1 zi.2.2.1 zi.2.2.2
          refine y_aload (pc := 72) hF dX10_half_72 4 rfl ?_
          refine y_getN (pc := 74) (ci := 4) hF dX10_half_74 (by have := pic_138.1; omega) (pic_138.2 g).1 rfl rfl iX4 2 (by decide) w_223 rfl ?_
          refine y_aload (pc := 77) hF dX10_half_77 4 rfl ?_
          refine y_iload_n (pc := 79) hF dX10_half_79 2 rfl ?_
          refine y_iload_n (pc := 80) hF dX10_half_80 3 rfl ?_
          have zz81 := y_rV (pc := 81) hF (tX4_at (n := n) (σ := σ28) 138 (((w + 1) / 2 + 1) / 2) (((h + 1) / 2 + 1) / 2) (sHf ((w + 1) / 2) ((h + 1) / 2) (sHf w h T)) (hS_ (sHf ((w + 1) / 2) ((h + 1) / 2) (sHf w h T))) (fun _ _ => 0) (fun _ _ => -1) (fun _ _ => -1) hn pic_138 (zp28.2.2 (by omega)) x y) dX10_half_81 (by have := pic_138.1; omega) (pic_138.2 g).1 rfl rfl w_794 qX4_at rfl ⟨Nat.le_of_ble_eq_true rfl, Nat.le_of_ble_eq_true rfl⟩ ⟨Nat.le_of_ble_eq_true rfl, Nat.le_of_ble_eq_true rfl⟩ (Nat.le_of_ble_eq_true rfl) rfl (rest := [yR g (138 + 1)]) (cells := 0 + 1) (slots := 0 + 6) (lv := [(0, yR g 0), (1, yI a), (2, yI x), (3, yI y), (4, yR g 138)])
          refine y_cp (zz81) ?_
          refine y_iaload (pc := 84) hF dX10_half_84 (by have := pic_138.1; omega) (pic_138.2 g).2.1 ⟨zix.1, by show _ < (400 : Int); omega⟩ (by decide) ?_
          rw [show σ28 (138 + 1) (y * (((w + 1) / 2 + 1) / 2) + x) = sHf ((w + 1) / 2) ((h + 1) / 2) (sHf w h T) x y from zat.1]
          refine y_goto (pc := 85) hF dX10_half_85 90 rfl ?_
          exact y_retX (y_iret (pc := 90) hF dX10_half_90 (Nat.le_of_ble_eq_true rfl) (Nat.le_of_ble_eq_true rfl) ⟨_, rfl, Nat.le_refl _, zok, by unfold hfV; rw [if_neg (by omega), if_neg (show ¬ a = 1 by omega), if_pos zc69], zV, zp28.1.cF (by omega)⟩)
      · skip
        refine y_aload_n (pc := 43) hF dX10_half_43 0 rfl ?_
        refine y_get (pc := 44) (ci := 10) hF dX10_half_44 (by omega) rfl rfl rfl iX10 10 (by decide) w_497 rfl ?_
        refine y_getN (pc := 47) (ci := 0) hF dX10_half_47 (by omega) rfl rfl rfl iX0 2 (by decide) w_472 rfl ?_
        refine y_goto (pc := 50) hF dX10_half_50 60 rfl ?_
        refine y_astore (pc := 60) (lv' := [(0, yR g 0), (1, yI a), (2, yI x), (3, yI y), (4, yR g 132)]) hF dX10_half_60 (by decide) rfl rfl ?_
        refine y_aload (pc := 62) hF dX10_half_62 4 rfl ?_
        refine y_iload_n (pc := 64) hF dX10_half_64 2 rfl ?_
        refine y_iload_n (pc := 65) hF dX10_half_65 3 rfl ?_
        have zz66 := y_rV (pc := 66) hF (tX4_has (n := n) (σ := σ28) 132 ((w + 1) / 2) ((h + 1) / 2) (sHf w h T) (hS_ (sHf w h T)) (fun _ _ => 0) (fun _ _ => -1) (fun _ _ => -1) hn pic_132 (zp28.2.1 (by omega)) x y hx hy) dX10_half_66 (by have := pic_132.1; omega) (pic_132.2 g).1 rfl rfl w_756 qX4_has rfl ⟨Nat.le_of_ble_eq_true rfl, Nat.le_of_ble_eq_true rfl⟩ ⟨Nat.le_of_ble_eq_true rfl, Nat.le_of_ble_eq_true rfl⟩ (Nat.le_of_ble_eq_true rfl) rfl (rest := []) (cells := 0 + 1) (slots := 0 + 6) (lv := [(0, yR g 0), (1, yI a), (2, yI x), (3, yI y), (4, yR g 132)])
        refine y_cp (zz66) ?_
        refine y_if_eq (pc := 69) hF dX10_half_69 88 rfl bi_r (fun zc69 => ?_) (fun zc69 => ?_)
        · replace zc69 := bi_0.mp zc69
          refine y_bipush (pc := 88) hF dX10_half_88 (by decide) ?_
          exact y_retX (y_iret (pc := 90) hF dX10_half_90 (Nat.le_of_ble_eq_true rfl) (Nat.le_of_ble_eq_true rfl) ⟨_, rfl, Nat.le_refl _, zok, by unfold hfV; rw [if_neg (by omega), if_pos (show a = 1 by omega), if_neg (by simp [zc69])], zV, zp28.1.cF (by omega)⟩)
        · replace zc69 := bi_n0.mp zc69
          have zi := sIn_iff.mp zc69
          have zix := y_ix (w := ((w + 1) / 2)) (h := ((h + 1) / 2)) (x := x) (y := y) (by omega) (by omega) (by omega) (by omega)
          have zat := (zp28.2.1 (by omega)).2.2.2 x y zi.1 zi.2.1 zi.2.2.1 zi.2.2.2
          refine y_aload (pc := 72) hF dX10_half_72 4 rfl ?_
          refine y_getN (pc := 74) (ci := 4) hF dX10_half_74 (by have := pic_132.1; omega) (pic_132.2 g).1 rfl rfl iX4 2 (by decide) w_223 rfl ?_
          refine y_aload (pc := 77) hF dX10_half_77 4 rfl ?_
          refine y_iload_n (pc := 79) hF dX10_half_79 2 rfl ?_
          refine y_iload_n (pc := 80) hF dX10_half_80 3 rfl ?_
          have zz81 := y_rV (pc := 81) hF (tX4_at (n := n) (σ := σ28) 132 ((w + 1) / 2) ((h + 1) / 2) (sHf w h T) (hS_ (sHf w h T)) (fun _ _ => 0) (fun _ _ => -1) (fun _ _ => -1) hn pic_132 (zp28.2.1 (by omega)) x y) dX10_half_81 (by have := pic_132.1; omega) (pic_132.2 g).1 rfl rfl w_794 qX4_at rfl ⟨Nat.le_of_ble_eq_true rfl, Nat.le_of_ble_eq_true rfl⟩ ⟨Nat.le_of_ble_eq_true rfl, Nat.le_of_ble_eq_true rfl⟩ (Nat.le_of_ble_eq_true rfl) rfl (rest := [yR g (132 + 1)]) (cells := 0 + 1) (slots := 0 + 6) (lv := [(0, yR g 0), (1, yI a), (2, yI x), (3, yI y), (4, yR g 132)])
          refine y_cp (zz81) ?_
          refine y_iaload (pc := 84) hF dX10_half_84 (by have := pic_132.1; omega) (pic_132.2 g).2.1 ⟨zix.1, by show _ < (400 : Int); omega⟩ (by decide) ?_
          rw [show σ28 (132 + 1) (y * ((w + 1) / 2) + x) = sHf w h T x y from zat.1]
          refine y_goto (pc := 85) hF dX10_half_85 90 rfl ?_
          exact y_retX (y_iret (pc := 90) hF dX10_half_90 (Nat.le_of_ble_eq_true rfl) (Nat.le_of_ble_eq_true rfl) ⟨_, rfl, Nat.le_refl _, zok, by unfold hfV; rw [if_neg (by omega), if_pos (show a = 1 by omega), if_pos zc69], zV, zp28.1.cF (by omega)⟩)
    · skip
      refine y_bipush (pc := 35) hF dX10_half_35 (by decide) ?_
      exact y_retX (y_iret (pc := 37) hF dX10_half_37 (Nat.le_of_ble_eq_true rfl) (Nat.le_of_ble_eq_true rfl) ⟨_, rfl, Nat.le_refl _, zok, by unfold hfV; rw [if_pos zc32], zV, zp28.1.cF (by omega)⟩)
  refine y_aload_n (pc := 0) hF dX10_half_0 0 rfl ?_
  refine y_iload_n (pc := 1) hF dX10_half_1 1 rfl ?_
  refine y_iconst (pc := 2) hF dX10_half_2 ?_
  refine y_icmp_eq (pc := 3) hF dX10_half_3 11 rfl (by omega) (by omega) (fun zc3 => ?_) (fun zc3 => ?_)
  · skip
    refine y_iconst (pc := 11) hF dX10_half_11 ?_
    refine y_goto (pc := 12) hF dX10_half_12 16 rfl ?_
    exact zJ16 true (by simp; omega)
  · skip
    refine y_iload_n (pc := 6) hF dX10_half_6 1 rfl ?_
    refine y_iconst (pc := 7) hF dX10_half_7 ?_
    refine y_icmp_ne (pc := 8) hF dX10_half_8 15 rfl (by omega) (by omega) (fun zc8 => ?_) (fun zc8 => ?_)
    · skip
      refine y_iconst (pc := 15) hF dX10_half_15 ?_
      exact zJ16 false (by simp; omega)
    · skip
      refine y_iconst (pc := 11) hF dX10_half_11 ?_
      refine y_goto (pc := 12) hF dX10_half_12 16 rfl ?_
      exact zJ16 true (by simp; omega)

theorem dX10_lent_0 : decode cX10_lent 0 = .ok (.aload_n 0, 1) := by decide +kernel
theorem dX10_lent_1 : decode cX10_lent 1 = .ok (.iload_n 1, 1) := by decide +kernel
theorem dX10_lent_2 : decode cX10_lent 2 = .ok (.iload_n 2, 1) := by decide +kernel
theorem dX10_lent_3 : decode cX10_lent 3 = .ok (.invokevirtual 156, 3) := by decide +kernel
theorem dX10_lent_6 : decode cX10_lent 6 = .ok (.aload_n 0, 1) := by decide +kernel
theorem dX10_lent_7 : decode cX10_lent 7 = .ok (.getfield 19, 3) := by decide +kernel
theorem dX10_lent_10 : decode cX10_lent 10 = .ok (.getfield 208, 3) := by decide +kernel
theorem dX10_lent_13 : decode cX10_lent 13 = .ok (.istore_n 3, 1) := by decide +kernel
theorem dX10_lent_14 : decode cX10_lent 14 = .ok (.iconst 0, 1) := by decide +kernel
theorem dX10_lent_15 : decode cX10_lent 15 = .ok (.istore 4, 2) := by decide +kernel
theorem dX10_lent_17 : decode cX10_lent 17 = .ok (.iconst 0, 1) := by decide +kernel
theorem dX10_lent_18 : decode cX10_lent 18 = .ok (.istore 5, 2) := by decide +kernel
theorem dX10_lent_20 : decode cX10_lent 20 = .ok (.iload 5, 2) := by decide +kernel
theorem dX10_lent_22 : decode cX10_lent 22 = .ok (.aload_n 0, 1) := by decide +kernel
theorem dX10_lent_23 : decode cX10_lent 23 = .ok (.getfield 26, 3) := by decide +kernel
theorem dX10_lent_26 : decode cX10_lent 26 = .ok (.invokevirtual 181, 3) := by decide +kernel
theorem dX10_lent_29 : decode cX10_lent 29 = .ok (.if_icmp .ge 66, 3) := by decide +kernel
theorem dX10_lent_32 : decode cX10_lent 32 = .ok (.aload_n 0, 1) := by decide +kernel
theorem dX10_lent_33 : decode cX10_lent 33 = .ok (.getfield 26, 3) := by decide +kernel
theorem dX10_lent_36 : decode cX10_lent 36 = .ok (.getfield 248, 3) := by decide +kernel
theorem dX10_lent_39 : decode cX10_lent 39 = .ok (.iload 5, 2) := by decide +kernel
theorem dX10_lent_41 : decode cX10_lent 41 = .ok (.iaload, 1) := by decide +kernel
theorem dX10_lent_42 : decode cX10_lent 42 = .ok (.istore 6, 2) := by decide +kernel
theorem dX10_lent_44 : decode cX10_lent 44 = .ok (.iload 6, 2) := by decide +kernel
theorem dX10_lent_46 : decode cX10_lent 46 = .ok (.iconst (-1), 1) := by decide +kernel
theorem dX10_lent_47 : decode cX10_lent 47 = .ok (.if_icmp .eq 42, 3) := by decide +kernel
theorem dX10_lent_50 : decode cX10_lent 50 = .ok (.aload_n 0, 1) := by decide +kernel
theorem dX10_lent_51 : decode cX10_lent 51 = .ok (.getfield 26, 3) := by decide +kernel
theorem dX10_lent_54 : decode cX10_lent 54 = .ok (.iload 6, 2) := by decide +kernel
theorem dX10_lent_56 : decode cX10_lent 56 = .ok (.invokevirtual 242, 3) := by decide +kernel
theorem dX10_lent_59 : decode cX10_lent 59 = .ok (.iload_n 1, 1) := by decide +kernel
theorem dX10_lent_60 : decode cX10_lent 60 = .ok (.isub, 1) := by decide +kernel
theorem dX10_lent_61 : decode cX10_lent 61 = .ok (.invokestatic 413, 3) := by decide +kernel
theorem dX10_lent_64 : decode cX10_lent 64 = .ok (.iload_n 3, 1) := by decide +kernel
theorem dX10_lent_65 : decode cX10_lent 65 = .ok (.if_icmp .gt 24, 3) := by decide +kernel
theorem dX10_lent_68 : decode cX10_lent 68 = .ok (.aload_n 0, 1) := by decide +kernel
theorem dX10_lent_69 : decode cX10_lent 69 = .ok (.getfield 26, 3) := by decide +kernel
theorem dX10_lent_72 : decode cX10_lent 72 = .ok (.iload 6, 2) := by decide +kernel
theorem dX10_lent_74 : decode cX10_lent 74 = .ok (.invokevirtual 245, 3) := by decide +kernel
theorem dX10_lent_77 : decode cX10_lent 77 = .ok (.iload_n 2, 1) := by decide +kernel
theorem dX10_lent_78 : decode cX10_lent 78 = .ok (.isub, 1) := by decide +kernel
theorem dX10_lent_79 : decode cX10_lent 79 = .ok (.invokestatic 413, 3) := by decide +kernel
theorem dX10_lent_82 : decode cX10_lent 82 = .ok (.iload_n 3, 1) := by decide +kernel
theorem dX10_lent_83 : decode cX10_lent 83 = .ok (.if_icmp .gt 6, 3) := by decide +kernel
theorem dX10_lent_86 : decode cX10_lent 86 = .ok (.iinc 4 1, 3) := by decide +kernel
theorem dX10_lent_89 : decode cX10_lent 89 = .ok (.iinc 5 1, 3) := by decide +kernel
theorem dX10_lent_92 : decode cX10_lent 92 = .ok (.goto (-72), 3) := by decide +kernel
theorem dX10_lent_95 : decode cX10_lent 95 = .ok (.iload 4, 2) := by decide +kernel
theorem dX10_lent_97 : decode cX10_lent 97 = .ok (.ireturn, 1) := by decide +kernel
set_option maxHeartbeats 4000000 in
set_option maxRecDepth 100000 in
theorem tX10_lent {l : Launch} {g : yG} {n : Nat} {σ : yM} (hlt : l.stackTraces = false) (hn : 172 ≤ n) (w h : Int) (T S F P O : Int → Int → Int) (nf df nl : Int) (lg : Int → Int → Int) (s re fo ra tu we sh : Int) (H : List aX) (ht : Bool) (K : Int → Int → Int) (tl : Int) (tb : Int → Int) (fa r1 r2 N : Int) (hV : cV σ (w, h, (T, S, F, P, O, nf, df, nl, lg), (s, re, fo, ra, tu, we, sh), H, ht, K, tl, tb, fa, r1, r2)) (hW : aW N (w, h, (T, S, F, P, O, nf, df, nl, lg), (s, re, fo, ra, tu, we, sh), H, ht, K, tl, tb, fa, r1, r2)) (x y : Int) (hx : -2147483648 ≤ x ∧ x < 2147483648) (hy : -2147483648 ≤ y ∧ y < 2147483648) : yMX l g yX10_lent cX10_lent 7 (some .int) (rmA 8 4 24) [yR g 0, yI x, yI y] (SC g) n σ (SC g) (yPi (fun v n' σ' => n ≤ n' ∧ (sIn w h x y = true) ∧ v = lnV w h O s x y ∧ cV σ' (w, h, (T, S, F, P, O, nf, df, nl, lg), (s, re, fo, ra, tu, we, sh), H, ht, K, tl, tb, fa, r1, r2) ∧ cF σ σ')) (fun E n' σ' => E = eN ∧ n ≤ n' ∧ ¬ (sIn w h x y = true) ∧ cV σ' (bN (w, h, (T, S, F, P, O, nf, df, nl, lg), (s, re, fo, ra, tu, we, sh), H, ht, K, tl, tb, fa, r1, r2)) ∧ cF σ σ') := by
  obtain ⟨⟨hA, hJ⟩, hS, hH, ⟨hb1, hb2⟩, ⟨ht1, ht2⟩, hfa, hr1, hr2, hT⟩ := id hV
  obtain ⟨hw1, hw2, hw3, hw4⟩ := id hA.1.1
  obtain ⟨hs1, hs2, hs3, hs4, hs5, hs6, hs7⟩ := id hS.2
  have z128 : 128 < n := by omega
  have z129 : 129 < n := by omega
  have z130 : 130 < n := by omega
  have zwh := y_wh ⟨hw1, hw2⟩ ⟨hw3, hw4⟩
  refine y_startX (by decide) (Nat.le_of_ble_eq_true rfl) (fun X0 hX => ?_)
  have hF := hX.1
  show yV X0 g 7 (yQX X0 g (SC g) (yPi (fun v n' σ' => n ≤ n' ∧ (sIn w h x y = true) ∧ v = lnV w h O s x y ∧ cV σ' (w, h, (T, S, F, P, O, nf, df, nl, lg), (s, re, fo, ra, tu, we, sh), H, ht, K, tl, tb, fa, r1, r2) ∧ cF σ σ')) (fun E n' σ' => E = eN ∧ n ≤ n' ∧ ¬ (sIn w h x y = true) ∧ cV σ' (bN (w, h, (T, S, F, P, O, nf, df, nl, lg), (s, re, fo, ra, tu, we, sh), H, ht, K, tl, tb, fa, r1, r2)) ∧ cF σ σ') (rmA 8 4 24)) (SC g) n σ 0 0 0 [(0, yR g 0), (1, yI x), (2, yI y)] []
  refine y_aload_n (pc := 0) hF dX10_lent_0 0 rfl ?_
  refine y_iload_n (pc := 1) hF dX10_lent_1 1 rfl ?_
  refine y_iload_n (pc := 2) hF dX10_lent_2 2 rfl ?_
  refine y_contX (cells' := 0 + 1) (slots' := 0 + 6) hX (y_rVX (pc := 3) hX (tX10_demandDot hlt hn w h T S F P O hA x y (by omega) (by omega)) dX10_lent_3 (by omega) rfl rfl rfl w_752 qX10_demandDot rfl ⟨Nat.le_of_ble_eq_true rfl, Nat.le_of_ble_eq_true rfl⟩ ⟨Nat.le_of_ble_eq_true rfl, Nat.le_of_ble_eq_true rfl⟩ (Nat.le_of_ble_eq_true rfl) rfl) rfl rfl ⟨Nat.le_of_ble_eq_true rfl, Nat.le_of_ble_eq_true rfl⟩ (fun E n' σ' zx => ⟨zx.1, zx.2.1, by rw [zx.2.2.1]; decide, by rw [zx.2.2.2]; exact hV.bN, by rw [zx.2.2.2]; exact cF_N⟩) (fun r3 n' σ3 zp3 => ?_)
  obtain ⟨zr3, zp3⟩ := zp3
  subst zr3
  obtain ⟨zn3, zs3, zb3⟩ := zp3
  have zs3 := zs3.symm
  subst zs3
  have zn3 := zn3.symm
  subst zn3
  skip
  show yV X0 g 7 (yQX X0 g (SC g) (yPi (fun v n' σ' => n ≤ n' ∧ (sIn w h x y = true) ∧ v = lnV w h O s x y ∧ cV σ' (w, h, (T, S, F, P, O, nf, df, nl, lg), (s, re, fo, ra, tu, we, sh), H, ht, K, tl, tb, fa, r1, r2) ∧ cF σ σ')) (fun E n' σ' => E = eN ∧ n ≤ n' ∧ ¬ (sIn w h x y = true) ∧ cV σ' (bN (w, h, (T, S, F, P, O, nf, df, nl, lg), (s, re, fo, ra, tu, we, sh), H, ht, K, tl, tb, fa, r1, r2)) ∧ cF σ σ') (rmA 8 4 24)) (SC g) n σ (0 + 1) (0 + 6) 6 [(0, yR g 0), (1, yI x), (2, yI y)] []
  have zi := sIn_iff.mp zb3
  refine y_aload_n (pc := 6) hF dX10_lent_6 0 rfl ?_
  refine y_get (pc := 7) (ci := 10) hF dX10_lent_7 (by omega) rfl rfl rfl iX10 1 (by decide) w_488 rfl ?_
  refine y_getN (pc := 10) (ci := 7) hF dX10_lent_10 (by omega) rfl rfl rfl iX7 0 (by decide) w_167 rfl ?_
  rw [show σ 4 0 = s from hS.1.1]
  refine y_istore_n (pc := 13) (lv' := [(0, yR g 0), (1, yI x), (2, yI y), (3, yI s)]) hF dX10_lent_13 (by decide) rfl rfl ?_
  refine y_iconst (pc := 14) hF dX10_lent_14 ?_
  refine y_istore (pc := 15) (lv' := [(0, yR g 0), (1, yI x), (2, yI y), (3, yI s), (4, yI 0)]) hF dX10_lent_15 (by decide) rfl rfl ?_
  refine y_iconst (pc := 17) hF dX10_lent_17 ?_
  refine y_istore (pc := 18) (lv' := [(0, yR g 0), (1, yI x), (2, yI y), (3, yI s), (4, yI 0), (5, yI 0)]) hF dX10_lent_18 (by decide) rfl rfl ?_
  have zL20 : ∀ (N : Nat) (i c : Int), N = (w * h - i).toNat → (0 ≤ i ∧ i ≤ w * h ∧ c = fr (fun s_ i => s_ + bi ((fun p q => decide (0 ≤ O p q) && sNr x y (mx (O p q)) (my (O p q)) s) (i % w) (i / w))) 0 i.toNat 0) → yV X0 g 7 (yQX X0 g (SC g) (yPi (fun v n' σ' => n ≤ n' ∧ (sIn w h x y = true) ∧ v = lnV w h O s x y ∧ cV σ' (w, h, (T, S, F, P, O, nf, df, nl, lg), (s, re, fo, ra, tu, we, sh), H, ht, K, tl, tb, fa, r1, r2) ∧ cF σ σ')) (fun E n' σ' => E = eN ∧ n ≤ n' ∧ ¬ (sIn w h x y = true) ∧ cV σ' (bN (w, h, (T, S, F, P, O, nf, df, nl, lg), (s, re, fo, ra, tu, we, sh), H, ht, K, tl, tb, fa, r1, r2)) ∧ cF σ σ') (rmA 8 4 24)) (SC g) n σ (0 + 1) (0 + 6) 20 [(0, yR g 0), (1, yI x), (2, yI y), (3, yI s), (4, yI c), (5, yI i)] [] := by
    intro N
    induction N using Nat.strongRecOn with
    | ind N zh20 =>
      intro i c  zN20 zI20
      refine y_iload (pc := 20) hF dX10_lent_20 5 rfl ?_
      refine y_aload_n (pc := 22) hF dX10_lent_22 0 rfl ?_
      refine y_get (pc := 23) (ci := 10) hF dX10_lent_23 (by omega) rfl rfl rfl iX10 2 (by decide) w_489 rfl ?_
      have zz26 := y_rV (pc := 26) hF (tX4_dots (n := n) (σ := σ) 5 w h T S F P O hn pic_5 hA) dX10_lent_26 (by have := pic_5.1; omega) (pic_5.2 g).1 rfl rfl w_567 qX4_dots rfl ⟨Nat.le_of_ble_eq_true rfl, Nat.le_of_ble_eq_true rfl⟩ ⟨Nat.le_of_ble_eq_true rfl, Nat.le_of_ble_eq_true rfl⟩ (Nat.le_of_ble_eq_true rfl) rfl (rest := [yI i]) (cells := 0 + 1) (slots := 0 + 6) (lv := [(0, yR g 0), (1, yI x), (2, yI y), (3, yI s), (4, yI c), (5, yI i)])
      refine y_cp (zz26) ?_
      refine y_icmp_ge (pc := 29) hF dX10_lent_29 95 rfl (by omega) (by omega) (fun zc29 => ?_) (fun zc29 => ?_)
      · skip
        refine y_iload (pc := 95) hF dX10_lent_95 4 rfl ?_
        exact y_retX (y_iret (pc := 97) hF dX10_lent_97 (Nat.le_of_ble_eq_true rfl) (Nat.le_of_ble_eq_true rfl) ⟨_, rfl, Nat.le_refl _, zb3, by rw [zI20.2.2, show i = w * h by omega]; exact cnt_lin2 (w := w) (h := h) (fun p q => decide (0 ≤ O p q) && sNr x y (mx (O p q)) (my (O p q)) s) (by omega) (by omega), hV, cF.rf σ⟩)
      · skip
        have zd := y_de (h := h) hw1 zI20.1 (by omega)
        have zat := hA.at zI20.1 (by omega)
        have za := hA.1.2 (i % w) (i / w) zd.2.1 zd.2.2.1 zd.2.2.2.1 zd.2.2.2.2
        have zco := cI_bd ⟨hw1, hw2⟩ ⟨hw3, hw4⟩ za.2.2.2.2.1
        have zmo := cI_m hw1 za.2.2.2.2.1
        have zro : -2147483648 ≤ cI w (O (i % w) (i / w)) ∧ cI w (O (i % w) (i / w)) < 2147483648 := by omega
        have zmb : -1 ≤ mx (O (i % w) (i / w)) ∧ mx (O (i % w) (i / w)) < 20 ∧ -1 ≤ my (O (i % w) (i / w)) ∧ my (O (i % w) (i / w)) < 20 := by { unfold mx my; rcases za.2.2.2.2.1 with ze | ze; (rw [if_pos ze, if_pos ze]; decide); (rw [if_neg (by omega), if_neg (by omega)]; omega) }
        have zco2 : cOk w h (O (i % w) (i / w)) := za.2.2.2.2.1
        refine y_aload_n (pc := 32) hF dX10_lent_32 0 rfl ?_
        refine y_get (pc := 33) (ci := 10) hF dX10_lent_33 (by omega) rfl rfl rfl iX10 2 (by decide) w_489 rfl ?_
        refine y_getN (pc := 36) (ci := 4) hF dX10_lent_36 (by have := pic_5.1; omega) (pic_5.2 g).1 rfl rfl iX4 6 (by decide) w_235 rfl ?_
        refine y_iload (pc := 39) hF dX10_lent_39 5 rfl ?_
        refine y_iaload (pc := 41) hF dX10_lent_41 (by have := pic_5.1; omega) (pic_5.2 g).2.2.2.2.2 ⟨zI20.1, by show _ < (400 : Int); omega⟩ (by decide) ?_
        rw [show σ (5 + 5) i = cI w (O (i % w) (i / w)) from zat.2.2.2.2]
        refine y_istore (pc := 42) (lv' := [(0, yR g 0), (1, yI x), (2, yI y), (3, yI s), (4, yI c), (5, yI i), (6, yI (cI w (O (i % w) (i / w))))]) hF dX10_lent_42 (by decide) rfl rfl ?_
        refine y_iload (pc := 44) hF dX10_lent_44 6 rfl ?_
        refine y_iconst (pc := 46) hF dX10_lent_46 ?_
        refine y_icmp_eq (pc := 47) hF dX10_lent_47 89 rfl zro (by decide) (fun zc47 => ?_) (fun zc47 => ?_)
        · skip
          refine y_iinc (pc := 89) (lv' := [(0, yR g 0), (1, yI x), (2, yI y), (3, yI s), (4, yI c), (5, yI (i + 1)), (6, yI (cI w (O (i % w) (i / w))))]) hF dX10_lent_89 5 rfl (by decide) rfl rfl ?_
          refine y_goto (pc := 92) hF dX10_lent_92 20 rfl ?_
          refine y_sub [0, 1, 2, 3, 4, 5] rfl ?_
          exact zh20 _ (by omega) (i + 1) (c) rfl ⟨by omega, by omega, by rw [fr_up _ _ _ _ zI20.1, ← zI20.2.2, Int.zero_add]; show _ = c + bi (decide (0 ≤ O (i % w) (i / w)) && sNr x y (mx (O (i % w) (i / w))) (my (O (i % w) (i / w))) s); rw [show (decide (0 ≤ O (i % w) (i / w)) && sNr x y (mx (O (i % w) (i / w))) (my (O (i % w) (i / w))) s) = false by rw [Bool.eq_false_iff]; simp only [ne_eq, sNr, Bool.and_eq_true, decide_eq_true_eq]; omega]; simp [bi]⟩
        · skip
          refine y_aload_n (pc := 50) hF dX10_lent_50 0 rfl ?_
          refine y_get (pc := 51) (ci := 10) hF dX10_lent_51 (by omega) rfl rfl rfl iX10 2 (by decide) w_489 rfl ?_
          refine y_iload (pc := 54) hF dX10_lent_54 6 rfl ?_
          have zz56 := y_rV (pc := 56) hF (tX4_xOf (n := n) (σ := σ) 5 w h T S F P O hn pic_5 hA (cI w (O (i % w) (i / w))) zro) dX10_lent_56 (by have := pic_5.1; omega) (pic_5.2 g).1 rfl rfl w_994 qX4_xOf rfl ⟨Nat.le_of_ble_eq_true rfl, Nat.le_of_ble_eq_true rfl⟩ ⟨Nat.le_of_ble_eq_true rfl, Nat.le_of_ble_eq_true rfl⟩ (Nat.le_of_ble_eq_true rfl) rfl (rest := []) (cells := 0 + 1) (slots := 0 + 6) (lv := [(0, yR g 0), (1, yI x), (2, yI y), (3, yI s), (4, yI c), (5, yI i), (6, yI (cI w (O (i % w) (i / w))))])
          refine y_cp (zz56) ?_
          rw [show cx w (cI w (O (i % w) (i / w))) = mx (O (i % w) (i / w)) from zmo.1]
          refine y_iload_n (pc := 59) hF dX10_lent_59 1 rfl ?_
          refine y_isub (pc := 60) hF dX10_lent_60 ?_
          refine y_mabs (pc := 61) hF dX10_lent_61 w_1197 w_883 w_103 w_884 (Nat.le_of_ble_eq_true rfl) (Nat.le_of_ble_eq_true rfl) ⟨Nat.le_of_ble_eq_true rfl, Nat.le_of_ble_eq_true rfl⟩ (by omega) ?_
          refine y_iload_n (pc := 64) hF dX10_lent_64 3 rfl ?_
          refine y_icmp_gt (pc := 65) hF dX10_lent_65 89 rfl (by omega) (by omega) (fun zc65 => ?_) (fun zc65 => ?_)
          · skip
            refine y_iinc (pc := 89) (lv' := [(0, yR g 0), (1, yI x), (2, yI y), (3, yI s), (4, yI c), (5, yI (i + 1)), (6, yI (cI w (O (i % w) (i / w))))]) hF dX10_lent_89 5 rfl (by decide) rfl rfl ?_
            refine y_goto (pc := 92) hF dX10_lent_92 20 rfl ?_
            refine y_sub [0, 1, 2, 3, 4, 5] rfl ?_
            exact zh20 _ (by omega) (i + 1) (c) rfl ⟨by omega, by omega, by rw [fr_up _ _ _ _ zI20.1, ← zI20.2.2, Int.zero_add]; show _ = c + bi (decide (0 ≤ O (i % w) (i / w)) && sNr x y (mx (O (i % w) (i / w))) (my (O (i % w) (i / w))) s); rw [show (decide (0 ≤ O (i % w) (i / w)) && sNr x y (mx (O (i % w) (i / w))) (my (O (i % w) (i / w))) s) = false by rw [Bool.eq_false_iff]; simp only [ne_eq, sNr, Bool.and_eq_true, decide_eq_true_eq]; omega]; simp [bi]⟩
          · skip
            refine y_aload_n (pc := 68) hF dX10_lent_68 0 rfl ?_
            refine y_get (pc := 69) (ci := 10) hF dX10_lent_69 (by omega) rfl rfl rfl iX10 2 (by decide) w_489 rfl ?_
            refine y_iload (pc := 72) hF dX10_lent_72 6 rfl ?_
            have zz74 := y_rV (pc := 74) hF (tX4_yOf (n := n) (σ := σ) 5 w h T S F P O hn pic_5 hA (cI w (O (i % w) (i / w))) zro) dX10_lent_74 (by have := pic_5.1; omega) (pic_5.2 g).1 rfl rfl w_995 qX4_yOf rfl ⟨Nat.le_of_ble_eq_true rfl, Nat.le_of_ble_eq_true rfl⟩ ⟨Nat.le_of_ble_eq_true rfl, Nat.le_of_ble_eq_true rfl⟩ (Nat.le_of_ble_eq_true rfl) rfl (rest := []) (cells := 0 + 1) (slots := 0 + 6) (lv := [(0, yR g 0), (1, yI x), (2, yI y), (3, yI s), (4, yI c), (5, yI i), (6, yI (cI w (O (i % w) (i / w))))])
            refine y_cp (zz74) ?_
            rw [show cy w (cI w (O (i % w) (i / w))) = my (O (i % w) (i / w)) from zmo.2]
            refine y_iload_n (pc := 77) hF dX10_lent_77 2 rfl ?_
            refine y_isub (pc := 78) hF dX10_lent_78 ?_
            refine y_mabs (pc := 79) hF dX10_lent_79 w_1197 w_883 w_103 w_884 (Nat.le_of_ble_eq_true rfl) (Nat.le_of_ble_eq_true rfl) ⟨Nat.le_of_ble_eq_true rfl, Nat.le_of_ble_eq_true rfl⟩ (by omega) ?_
            refine y_iload_n (pc := 82) hF dX10_lent_82 3 rfl ?_
            refine y_icmp_gt (pc := 83) hF dX10_lent_83 89 rfl (by omega) (by omega) (fun zc83 => ?_) (fun zc83 => ?_)
            · skip
              refine y_iinc (pc := 89) (lv' := [(0, yR g 0), (1, yI x), (2, yI y), (3, yI s), (4, yI c), (5, yI (i + 1)), (6, yI (cI w (O (i % w) (i / w))))]) hF dX10_lent_89 5 rfl (by decide) rfl rfl ?_
              refine y_goto (pc := 92) hF dX10_lent_92 20 rfl ?_
              refine y_sub [0, 1, 2, 3, 4, 5] rfl ?_
              exact zh20 _ (by omega) (i + 1) (c) rfl ⟨by omega, by omega, by rw [fr_up _ _ _ _ zI20.1, ← zI20.2.2, Int.zero_add]; show _ = c + bi (decide (0 ≤ O (i % w) (i / w)) && sNr x y (mx (O (i % w) (i / w))) (my (O (i % w) (i / w))) s); rw [show (decide (0 ≤ O (i % w) (i / w)) && sNr x y (mx (O (i % w) (i / w))) (my (O (i % w) (i / w))) s) = false by rw [Bool.eq_false_iff]; simp only [ne_eq, sNr, Bool.and_eq_true, decide_eq_true_eq]; omega]; simp [bi]⟩
            · skip
              refine y_iinc (pc := 86) (lv' := [(0, yR g 0), (1, yI x), (2, yI y), (3, yI s), (4, yI (c + 1)), (5, yI i), (6, yI (cI w (O (i % w) (i / w))))]) hF dX10_lent_86 4 rfl (by decide) rfl rfl ?_
              refine y_iinc (pc := 89) (lv' := [(0, yR g 0), (1, yI x), (2, yI y), (3, yI s), (4, yI (c + 1)), (5, yI (i + 1)), (6, yI (cI w (O (i % w) (i / w))))]) hF dX10_lent_89 5 rfl (by decide) rfl rfl ?_
              refine y_goto (pc := 92) hF dX10_lent_92 20 rfl ?_
              refine y_sub [0, 1, 2, 3, 4, 5] rfl ?_
              exact zh20 _ (by omega) (i + 1) (c + 1) rfl ⟨by omega, by omega, by rw [fr_up _ _ _ _ zI20.1, ← zI20.2.2, Int.zero_add]; show _ = c + bi (decide (0 ≤ O (i % w) (i / w)) && sNr x y (mx (O (i % w) (i / w))) (my (O (i % w) (i / w))) s); rw [show (decide (0 ≤ O (i % w) (i / w)) && sNr x y (mx (O (i % w) (i / w))) (my (O (i % w) (i / w))) s) = true by simp only [sNr, Bool.and_eq_true, decide_eq_true_eq]; omega]; rfl⟩
  exact zL20 _ (0) (0) rfl ⟨by omega, by omega, rfl⟩

theorem dX10_flawOf_0 : decode cX10_flawOf 0 = .ok (.iconst 0, 1) := by decide +kernel
theorem dX10_flawOf_1 : decode cX10_flawOf 1 = .ok (.istore_n 2, 1) := by decide +kernel
theorem dX10_flawOf_2 : decode cX10_flawOf 2 = .ok (.iconst 0, 1) := by decide +kernel
theorem dX10_flawOf_3 : decode cX10_flawOf 3 = .ok (.istore_n 3, 1) := by decide +kernel
theorem dX10_flawOf_4 : decode cX10_flawOf 4 = .ok (.iload_n 3, 1) := by decide +kernel
theorem dX10_flawOf_5 : decode cX10_flawOf 5 = .ok (.aload_n 1, 1) := by decide +kernel
theorem dX10_flawOf_6 : decode cX10_flawOf 6 = .ok (.invokevirtual 181, 3) := by decide +kernel
theorem dX10_flawOf_9 : decode cX10_flawOf 9 = .ok (.if_icmp .ge 57, 3) := by decide +kernel
theorem dX10_flawOf_12 : decode cX10_flawOf 12 = .ok (.aload_n 1, 1) := by decide +kernel
theorem dX10_flawOf_13 : decode cX10_flawOf 13 = .ok (.getfield 236, 3) := by decide +kernel
theorem dX10_flawOf_16 : decode cX10_flawOf 16 = .ok (.iload_n 3, 1) := by decide +kernel
theorem dX10_flawOf_17 : decode cX10_flawOf 17 = .ok (.iaload, 1) := by decide +kernel
theorem dX10_flawOf_18 : decode cX10_flawOf 18 = .ok (.ifCond .le 42, 3) := by decide +kernel
theorem dX10_flawOf_21 : decode cX10_flawOf 21 = .ok (.aload_n 0, 1) := by decide +kernel
theorem dX10_flawOf_22 : decode cX10_flawOf 22 = .ok (.getfield 44, 3) := by decide +kernel
theorem dX10_flawOf_25 : decode cX10_flawOf 25 = .ok (.getfield 176, 3) := by decide +kernel
theorem dX10_flawOf_28 : decode cX10_flawOf 28 = .ok (.iload_n 3, 1) := by decide +kernel
theorem dX10_flawOf_29 : decode cX10_flawOf 29 = .ok (.iaload, 1) := by decide +kernel
theorem dX10_flawOf_30 : decode cX10_flawOf 30 = .ok (.iconst (-1), 1) := by decide +kernel
theorem dX10_flawOf_31 : decode cX10_flawOf 31 = .ok (.if_icmp .eq 29, 3) := by decide +kernel
theorem dX10_flawOf_34 : decode cX10_flawOf 34 = .ok (.aload_n 1, 1) := by decide +kernel
theorem dX10_flawOf_35 : decode cX10_flawOf 35 = .ok (.getfield 176, 3) := by decide +kernel
theorem dX10_flawOf_38 : decode cX10_flawOf 38 = .ok (.iload_n 3, 1) := by decide +kernel
theorem dX10_flawOf_39 : decode cX10_flawOf 39 = .ok (.iaload, 1) := by decide +kernel
theorem dX10_flawOf_40 : decode cX10_flawOf 40 = .ok (.aload_n 0, 1) := by decide +kernel
theorem dX10_flawOf_41 : decode cX10_flawOf 41 = .ok (.getfield 44, 3) := by decide +kernel
theorem dX10_flawOf_44 : decode cX10_flawOf 44 = .ok (.getfield 176, 3) := by decide +kernel
theorem dX10_flawOf_47 : decode cX10_flawOf 47 = .ok (.iload_n 3, 1) := by decide +kernel
theorem dX10_flawOf_48 : decode cX10_flawOf 48 = .ok (.iaload, 1) := by decide +kernel
theorem dX10_flawOf_49 : decode cX10_flawOf 49 = .ok (.isub, 1) := by decide +kernel
theorem dX10_flawOf_50 : decode cX10_flawOf 50 = .ok (.istore 4, 2) := by decide +kernel
theorem dX10_flawOf_52 : decode cX10_flawOf 52 = .ok (.iload_n 2, 1) := by decide +kernel
theorem dX10_flawOf_53 : decode cX10_flawOf 53 = .ok (.iload 4, 2) := by decide +kernel
theorem dX10_flawOf_55 : decode cX10_flawOf 55 = .ok (.iload 4, 2) := by decide +kernel
theorem dX10_flawOf_57 : decode cX10_flawOf 57 = .ok (.imul, 1) := by decide +kernel
theorem dX10_flawOf_58 : decode cX10_flawOf 58 = .ok (.iadd, 1) := by decide +kernel
theorem dX10_flawOf_59 : decode cX10_flawOf 59 = .ok (.istore_n 2, 1) := by decide +kernel
theorem dX10_flawOf_60 : decode cX10_flawOf 60 = .ok (.iinc 3 1, 3) := by decide +kernel
theorem dX10_flawOf_63 : decode cX10_flawOf 63 = .ok (.goto (-59), 3) := by decide +kernel
theorem dX10_flawOf_66 : decode cX10_flawOf 66 = .ok (.iload_n 2, 1) := by decide +kernel
theorem dX10_flawOf_67 : decode cX10_flawOf 67 = .ok (.ireturn, 1) := by decide +kernel
set_option maxHeartbeats 4000000 in
set_option maxRecDepth 100000 in
theorem tX10_flawOf {l : Launch} {g : yG} {n : Nat} {σ : yM} (hn : 172 ≤ n) (k : Nat) (w h : Int) (T S F P O : Int → Int → Int) (hP : isPic k) (hA : rC σ k w h T S F P O) (K : Int → Int → Int) (hK : cK σ w h K) (hKr : kOk w h K) : yMet l g yX10_flawOf cX10_flawOf 5 (some .int) (rmL 2) [yR g 0, yR g k] (SC g) n σ (SC g) (yPp (sFw w h T F K) n σ) := by
  obtain ⟨hw1, hw2, hw3, hw4⟩ := id hA.1.1
  have zwh := y_wh ⟨hw1, hw2⟩ ⟨hw3, hw4⟩
  refine y_start (by decide) (Nat.le_of_ble_eq_true rfl) (fun X0 hF => ?_)
  show yV X0 g 5 (yQ X0 g (SC g) (yPp (sFw w h T F K) n σ) (rmL 2)) (SC g) n σ 0 0 0 [(0, yR g 0), (1, yR g k)] []
  refine y_iconst (pc := 0) hF dX10_flawOf_0 ?_
  refine y_istore_n (pc := 1) (lv' := [(0, yR g 0), (1, yR g k), (2, yI 0)]) hF dX10_flawOf_1 (by decide) rfl rfl ?_
  refine y_iconst (pc := 2) hF dX10_flawOf_2 ?_
  refine y_istore_n (pc := 3) (lv' := [(0, yR g 0), (1, yR g k), (2, yI 0), (3, yI 0)]) hF dX10_flawOf_3 (by decide) rfl rfl ?_
  have zL4 : ∀ (N : Nat) (i c : Int), N = (w * h - i).toNat → (0 ≤ i ∧ i ≤ w * h ∧ c = fr (fun q i => flF T F K q (i % w) (i / w)) 0 i.toNat 0) → yV X0 g 5 (yQ X0 g (SC g) (yPp (sFw w h T F K) n σ) (rmL 2)) (SC g) n σ 0 0 4 [(0, yR g 0), (1, yR g k), (2, yI c), (3, yI i)] [] := by
    intro N
    induction N using Nat.strongRecOn with
    | ind N zh4 =>
      intro i c  zN4 zI4
      refine y_iload_n (pc := 4) hF dX10_flawOf_4 3 rfl ?_
      refine y_aload_n (pc := 5) hF dX10_flawOf_5 1 rfl ?_
      have zz6 := y_rV (pc := 6) hF (tX4_dots (n := n) (σ := σ) k w h T S F P O hn hP hA) dX10_flawOf_6 (by have := hP.1; omega) (hP.2 g).1 rfl rfl w_567 qX4_dots rfl ⟨Nat.le_of_ble_eq_true rfl, Nat.le_of_ble_eq_true rfl⟩ ⟨Nat.zero_le _, Nat.zero_le _⟩ (Nat.le_of_ble_eq_true rfl) rfl (rest := [yI i]) (cells := 0) (slots := 0) (lv := [(0, yR g 0), (1, yR g k), (2, yI c), (3, yI i)])
      refine y_cp (zz6) ?_
      refine y_icmp_ge (pc := 9) hF dX10_flawOf_9 66 rfl (by omega) (by omega) (fun zc9 => ?_) (fun zc9 => ?_)
      · skip
        refine y_iload_n (pc := 66) hF dX10_flawOf_66 2 rfl ?_
        exact y_iret (pc := 67) hF dX10_flawOf_67 (Nat.zero_le _) (Nat.zero_le _) ⟨_, rfl, by rw [zI4.2.2, show i = w * h by omega]; exact fr_linI _ (by omega) (by omega) _, rfl, rfl⟩
      · skip
        have zd := y_de (h := h) hw1 zI4.1 (by omega)
        have zat := hA.at zI4.1 (by omega)
        have za := hA.1.2 (i % w) (i / w) zd.2.1 zd.2.2.1 zd.2.2.2.1 zd.2.2.2.2
        have zkk : σ 115 i = K (i % w) (i / w) := by have := hK (i % w) (i / w) zd.2.1 zd.2.2.1 zd.2.2.2.1 zd.2.2.2.2; rw [zd.1] at this; exact this
        have zkr := hKr (i % w) (i / w) zd.2.1 zd.2.2.1 zd.2.2.2.1 zd.2.2.2.2
        have zi4 : 0 ≤ i ∧ i < (400 : Int) := by omega
        refine y_aload_n (pc := 12) hF dX10_flawOf_12 1 rfl ?_
        refine y_getN (pc := 13) (ci := 4) hF dX10_flawOf_13 (by have := hP.1; omega) (hP.2 g).1 rfl rfl iX4 4 (by decide) w_230 rfl ?_
        refine y_iload_n (pc := 16) hF dX10_flawOf_16 3 rfl ?_
        refine y_iaload (pc := 17) hF dX10_flawOf_17 (by have := hP.1; omega) (hP.2 g).2.2.2.1 zi4 (by decide) ?_
        rw [show σ (k + 3) i = F (i % w) (i / w) from zat.2.2.1]
        refine y_if_le (pc := 18) hF dX10_flawOf_18 60 rfl (by omega) (fun zc18 => ?_) (fun zc18 => ?_)
        · skip
          refine y_iinc (pc := 60) (lv' := [(0, yR g 0), (1, yR g k), (2, yI c), (3, yI (i + 1))]) hF dX10_flawOf_60 3 rfl (by decide) rfl rfl ?_
          refine y_goto (pc := 63) hF dX10_flawOf_63 4 rfl ?_
          exact zh4 _ (by omega) (i + 1) (c) rfl ⟨by omega, by omega, by rw [fr_up _ _ _ _ zI4.1, ← zI4.2.2, Int.zero_add]; unfold flF; rw [if_neg (fun ze => by omega)]⟩
        · skip
          refine y_aload_n (pc := 21) hF dX10_flawOf_21 0 rfl ?_
          refine y_get (pc := 22) (ci := 10) hF dX10_flawOf_22 (by omega) rfl rfl rfl iX10 5 (by decide) w_492 rfl ?_
          refine y_getN (pc := 25) (ci := 4) hF dX10_flawOf_25 (by omega) rfl rfl rfl iX4 2 (by decide) w_223 rfl ?_
          refine y_iload_n (pc := 28) hF dX10_flawOf_28 3 rfl ?_
          refine y_iaload (pc := 29) hF dX10_flawOf_29 (by omega) rfl zi4 (by decide) ?_
          rw [show σ (114 + 1) i = K (i % w) (i / w) from zkk]
          refine y_iconst (pc := 30) hF dX10_flawOf_30 ?_
          refine y_icmp_eq (pc := 31) hF dX10_flawOf_31 60 rfl (by omega) (by omega) (fun zc31 => ?_) (fun zc31 => ?_)
          · skip
            refine y_iinc (pc := 60) (lv' := [(0, yR g 0), (1, yR g k), (2, yI c), (3, yI (i + 1))]) hF dX10_flawOf_60 3 rfl (by decide) rfl rfl ?_
            refine y_goto (pc := 63) hF dX10_flawOf_63 4 rfl ?_
            exact zh4 _ (by omega) (i + 1) (c) rfl ⟨by omega, by omega, by rw [fr_up _ _ _ _ zI4.1, ← zI4.2.2, Int.zero_add]; unfold flF; rw [if_neg (fun ze => ze.2 zc31)]⟩
          · skip
            refine y_aload_n (pc := 34) hF dX10_flawOf_34 1 rfl ?_
            refine y_getN (pc := 35) (ci := 4) hF dX10_flawOf_35 (by have := hP.1; omega) (hP.2 g).1 rfl rfl iX4 2 (by decide) w_223 rfl ?_
            refine y_iload_n (pc := 38) hF dX10_flawOf_38 3 rfl ?_
            refine y_iaload (pc := 39) hF dX10_flawOf_39 (by have := hP.1; omega) (hP.2 g).2.1 zi4 (by decide) ?_
            rw [show σ (k + 1) i = T (i % w) (i / w) from zat.1]
            refine y_aload_n (pc := 40) hF dX10_flawOf_40 0 rfl ?_
            refine y_get (pc := 41) (ci := 10) hF dX10_flawOf_41 (by omega) rfl rfl rfl iX10 5 (by decide) w_492 rfl ?_
            refine y_getN (pc := 44) (ci := 4) hF dX10_flawOf_44 (by omega) rfl rfl rfl iX4 2 (by decide) w_223 rfl ?_
            refine y_iload_n (pc := 47) hF dX10_flawOf_47 3 rfl ?_
            refine y_iaload (pc := 48) hF dX10_flawOf_48 (by omega) rfl zi4 (by decide) ?_
            rw [show σ (114 + 1) i = K (i % w) (i / w) from zkk]
            refine y_isub (pc := 49) hF dX10_flawOf_49 ?_
            refine y_istore (pc := 50) (lv' := [(0, yR g 0), (1, yR g k), (2, yI c), (3, yI i), (4, yI ((T (i % w) (i / w)) - (K (i % w) (i / w))))]) hF dX10_flawOf_50 (by decide) rfl rfl ?_
            refine y_iload_n (pc := 52) hF dX10_flawOf_52 2 rfl ?_
            refine y_iload (pc := 53) hF dX10_flawOf_53 4 rfl ?_
            refine y_iload (pc := 55) hF dX10_flawOf_55 4 rfl ?_
            refine y_imul (pc := 57) hF dX10_flawOf_57 ?_
            refine y_iadd (pc := 58) hF dX10_flawOf_58 ?_
            refine y_istore_n (pc := 59) (lv' := [(0, yR g 0), (1, yR g k), (2, yI (c + (((T (i % w) (i / w)) - (K (i % w) (i / w))) * ((T (i % w) (i / w)) - (K (i % w) (i / w)))))), (3, yI i), (4, yI ((T (i % w) (i / w)) - (K (i % w) (i / w))))]) hF dX10_flawOf_59 (by decide) rfl rfl ?_
            refine y_iinc (pc := 60) (lv' := [(0, yR g 0), (1, yR g k), (2, yI (c + (((T (i % w) (i / w)) - (K (i % w) (i / w))) * ((T (i % w) (i / w)) - (K (i % w) (i / w)))))), (3, yI (i + 1)), (4, yI ((T (i % w) (i / w)) - (K (i % w) (i / w))))]) hF dX10_flawOf_60 3 rfl (by decide) rfl rfl ?_
            refine y_goto (pc := 63) hF dX10_flawOf_63 4 rfl ?_
            refine y_sub [0, 1, 2, 3] rfl ?_
            exact zh4 _ (by omega) (i + 1) (c + (((T (i % w) (i / w)) - (K (i % w) (i / w))) * ((T (i % w) (i / w)) - (K (i % w) (i / w))))) rfl ⟨by omega, by omega, by rw [fr_up _ _ _ _ zI4.1, ← zI4.2.2, Int.zero_add]; unfold flF; rw [if_pos ⟨by omega, zc31⟩]⟩
  exact zL4 _ (0) (0) rfl ⟨by omega, by omega, rfl⟩

theorem dX10_flaw_0 : decode cX10_flaw 0 = .ok (.aload_n 0, 1) := by decide +kernel
theorem dX10_flaw_1 : decode cX10_flaw 1 = .ok (.getfield 47, 3) := by decide +kernel
theorem dX10_flaw_4 : decode cX10_flaw 4 = .ok (.ifCond .eq 14, 3) := by decide +kernel
theorem dX10_flaw_7 : decode cX10_flaw 7 = .ok (.aload_n 0, 1) := by decide +kernel
theorem dX10_flaw_8 : decode cX10_flaw 8 = .ok (.aload_n 0, 1) := by decide +kernel
theorem dX10_flaw_9 : decode cX10_flaw 9 = .ok (.getfield 26, 3) := by decide +kernel
theorem dX10_flaw_12 : decode cX10_flaw 12 = .ok (.invokevirtual 387, 3) := by decide +kernel
theorem dX10_flaw_15 : decode cX10_flaw 15 = .ok (.goto 4, 3) := by decide +kernel
theorem dX10_flaw_18 : decode cX10_flaw 18 = .ok (.iconst (-1), 1) := by decide +kernel
theorem dX10_flaw_19 : decode cX10_flaw 19 = .ok (.ireturn, 1) := by decide +kernel
set_option maxHeartbeats 4000000 in
set_option maxRecDepth 100000 in
theorem tX10_flaw {l : Launch} {g : yG} {n : Nat} {σ : yM} (hn : 172 ≤ n) (w h : Int) (T S F P O : Int → Int → Int) (nf df nl : Int) (lg : Int → Int → Int) (s re fo ra tu we sh : Int) (H : List aX) (ht : Bool) (K : Int → Int → Int) (tl : Int) (tb : Int → Int) (fa r1 r2 N : Int) (hV : cV σ (w, h, (T, S, F, P, O, nf, df, nl, lg), (s, re, fo, ra, tu, we, sh), H, ht, K, tl, tb, fa, r1, r2)) (hW : aW N (w, h, (T, S, F, P, O, nf, df, nl, lg), (s, re, fo, ra, tu, we, sh), H, ht, K, tl, tb, fa, r1, r2))  : yMet l g yX10_flaw cX10_flaw 1 (some .int) (rmL 3) [yR g 0] (SC g) n σ (SC g) (yPp (if ht = true then sFw w h T F K else -1) n σ) := by
  obtain ⟨⟨hA, hJ⟩, hS, hH, ⟨hb1, hb2⟩, ⟨ht1, ht2⟩, hfa, hr1, hr2, hT⟩ := id hV
  obtain ⟨hw1, hw2, hw3, hw4⟩ := id hA.1.1
  obtain ⟨hs1, hs2, hs3, hs4, hs5, hs6, hs7⟩ := id hS.2
  have z128 : 128 < n := by omega
  have z129 : 129 < n := by omega
  have z130 : 130 < n := by omega
  refine y_start (by decide) (Nat.le_of_ble_eq_true rfl) (fun X0 hF => ?_)
  show yV X0 g 1 (yQ X0 g (SC g) (yPp (if ht = true then sFw w h T F K else -1) n σ) (rmL 3)) (SC g) n σ 0 0 0 [(0, yR g 0)] []
  refine y_aload_n (pc := 0) hF dX10_flaw_0 0 rfl ?_
  refine y_get (pc := 1) (ci := 10) hF dX10_flaw_1 (by omega) rfl rfl rfl iX10 6 (by decide) w_493 rfl ?_
  rw [show σ 0 6 = bi ht from hb1]
  refine y_if_eq (pc := 4) hF dX10_flaw_4 18 rfl bi_r (fun zc4 => ?_) (fun zc4 => ?_)
  · replace zc4 := bi_0.mp zc4
    refine y_iconst (pc := 18) hF dX10_flaw_18 ?_
    exact y_iret (pc := 19) hF dX10_flaw_19 (Nat.zero_le _) (Nat.zero_le _) ⟨_, rfl, by rw [if_neg (by simp [zc4])], rfl, rfl⟩
  · replace zc4 := bi_n0.mp zc4
    refine y_aload_n (pc := 7) hF dX10_flaw_7 0 rfl ?_
    refine y_aload_n (pc := 8) hF dX10_flaw_8 0 rfl ?_
    refine y_get (pc := 9) (ci := 10) hF dX10_flaw_9 (by omega) rfl rfl rfl iX10 2 (by decide) w_489 rfl ?_
    have zz12 := y_rV (pc := 12) hF (tX10_flawOf (n := n) (σ := σ) hn 5 w h T S F P O pic_5 hA K (hb2 zc4) (hW.2.2.1 zc4)) dX10_flaw_12 (by omega) rfl rfl rfl w_590 qX10_flawOf rfl ⟨Nat.le_of_ble_eq_true rfl, Nat.le_of_ble_eq_true rfl⟩ ⟨Nat.zero_le _, Nat.zero_le _⟩ (Nat.le_of_ble_eq_true rfl) rfl (rest := []) (cells := 0) (slots := 0) (lv := [(0, yR g 0)])
    refine y_cp (zz12) ?_
    refine y_goto (pc := 15) hF dX10_flaw_15 19 rfl ?_
    exact y_iret (pc := 19) hF dX10_flaw_19 (Nat.zero_le _) (Nat.zero_le _) ⟨_, rfl, by rw [if_pos zc4], rfl, rfl⟩

theorem dX10_print_0 : decode cX10_print 0 = .ok (.lconst 0, 1) := by decide +kernel
theorem dX10_print_1 : decode cX10_print 1 = .ok (.lstore_n 1, 1) := by decide +kernel
theorem dX10_print_2 : decode cX10_print 2 = .ok (.iconst 0, 1) := by decide +kernel
theorem dX10_print_3 : decode cX10_print 3 = .ok (.istore_n 3, 1) := by decide +kernel
theorem dX10_print_4 : decode cX10_print 4 = .ok (.iload_n 3, 1) := by decide +kernel
theorem dX10_print_5 : decode cX10_print 5 = .ok (.aload_n 0, 1) := by decide +kernel
theorem dX10_print_6 : decode cX10_print 6 = .ok (.getfield 26, 3) := by decide +kernel
theorem dX10_print_9 : decode cX10_print 9 = .ok (.invokevirtual 181, 3) := by decide +kernel
theorem dX10_print_12 : decode cX10_print 12 = .ok (.if_icmp .ge 26, 3) := by decide +kernel
theorem dX10_print_15 : decode cX10_print 15 = .ok (.ldc2_w 419, 3) := by decide +kernel
theorem dX10_print_18 : decode cX10_print 18 = .ok (.lload_n 1, 1) := by decide +kernel
theorem dX10_print_19 : decode cX10_print 19 = .ok (.lmul, 1) := by decide +kernel
theorem dX10_print_20 : decode cX10_print 20 = .ok (.aload_n 0, 1) := by decide +kernel
theorem dX10_print_21 : decode cX10_print 21 = .ok (.getfield 26, 3) := by decide +kernel
theorem dX10_print_24 : decode cX10_print 24 = .ok (.getfield 176, 3) := by decide +kernel
theorem dX10_print_27 : decode cX10_print 27 = .ok (.iload_n 3, 1) := by decide +kernel
theorem dX10_print_28 : decode cX10_print 28 = .ok (.iaload, 1) := by decide +kernel
theorem dX10_print_29 : decode cX10_print 29 = .ok (.i2l, 1) := by decide +kernel
theorem dX10_print_30 : decode cX10_print 30 = .ok (.ladd, 1) := by decide +kernel
theorem dX10_print_31 : decode cX10_print 31 = .ok (.lstore_n 1, 1) := by decide +kernel
theorem dX10_print_32 : decode cX10_print 32 = .ok (.iinc 3 1, 3) := by decide +kernel
theorem dX10_print_35 : decode cX10_print 35 = .ok (.goto (-31), 3) := by decide +kernel
theorem dX10_print_38 : decode cX10_print 38 = .ok (.lload_n 1, 1) := by decide +kernel
theorem dX10_print_39 : decode cX10_print 39 = .ok (.lreturn, 1) := by decide +kernel
set_option maxHeartbeats 4000000 in
set_option maxRecDepth 100000 in
theorem tX10_print {l : Launch} {g : yG} {n : Nat} {σ : yM} (hn : 172 ≤ n) (w h : Int) (T S F P O : Int → Int → Int) (nf df nl : Int) (lg : Int → Int → Int) (s re fo ra tu we sh : Int) (H : List aX) (ht : Bool) (K : Int → Int → Int) (tl : Int) (tb : Int → Int) (fa r1 r2 N : Int) (hV : cV σ (w, h, (T, S, F, P, O, nf, df, nl, lg), (s, re, fo, ra, tu, we, sh), H, ht, K, tl, tb, fa, r1, r2)) (hW : aW N (w, h, (T, S, F, P, O, nf, df, nl, lg), (s, re, fo, ra, tu, we, sh), H, ht, K, tl, tb, fa, r1, r2))  : yMet l g yX10_print cX10_print 4 (some .long) (rmL 2) [yR g 0] (SC g) n σ (SC g) (yPl (fun v n' σ' => v = pV w h T ∧ n' = n ∧ σ' = σ)) := by
  obtain ⟨⟨hA, hJ⟩, hS, hH, ⟨hb1, hb2⟩, ⟨ht1, ht2⟩, hfa, hr1, hr2, hT⟩ := id hV
  obtain ⟨hw1, hw2, hw3, hw4⟩ := id hA.1.1
  obtain ⟨hs1, hs2, hs3, hs4, hs5, hs6, hs7⟩ := id hS.2
  have z128 : 128 < n := by omega
  have z129 : 129 < n := by omega
  have z130 : 130 < n := by omega
  have zwh := y_wh ⟨hw1, hw2⟩ ⟨hw3, hw4⟩
  refine y_start (by decide) (Nat.le_of_ble_eq_true rfl) (fun X0 hF => ?_)
  show yV X0 g 4 (yQ X0 g (SC g) (yPl (fun v n' σ' => v = pV w h T ∧ n' = n ∧ σ' = σ)) (rmL 2)) (SC g) n σ 0 0 0 [(0, yR g 0)] []
  refine y_lconst (pc := 0) (v := 0) hF dX10_print_0 rfl ?_
  refine y_lstore_n (pc := 1) (lv' := [(0, yR g 0), (1, yJ 0)]) hF dX10_print_1 (by decide) rfl rfl rfl ?_
  refine y_iconst (pc := 2) hF dX10_print_2 ?_
  refine y_istore_n (pc := 3) (lv' := [(0, yR g 0), (1, yJ 0), (3, yI 0)]) hF dX10_print_3 (by decide) rfl rfl ?_
  have zL4 : ∀ (N : Nat) (i c : Int), N = (w * h - i).toNat → (0 ≤ i ∧ i ≤ w * h ∧ c = fr (fun v i => 31 * v + T (i % w) (i / w)) 0 i.toNat 0) → yV X0 g 4 (yQ X0 g (SC g) (yPl (fun v n' σ' => v = pV w h T ∧ n' = n ∧ σ' = σ)) (rmL 2)) (SC g) n σ 0 0 4 [(0, yR g 0), (1, yJ c), (3, yI i)] [] := by
    intro N
    induction N using Nat.strongRecOn with
    | ind N zh4 =>
      intro i c  zN4 zI4
      refine y_iload_n (pc := 4) hF dX10_print_4 2 rfl ?_
      refine y_aload_n (pc := 5) hF dX10_print_5 0 rfl ?_
      refine y_get (pc := 6) (ci := 10) hF dX10_print_6 (by omega) rfl rfl rfl iX10 2 (by decide) w_489 rfl ?_
      have zz9 := y_rV (pc := 9) hF (tX4_dots (n := n) (σ := σ) 5 w h T S F P O hn pic_5 hA) dX10_print_9 (by have := pic_5.1; omega) (pic_5.2 g).1 rfl rfl w_567 qX4_dots rfl ⟨Nat.le_of_ble_eq_true rfl, Nat.le_of_ble_eq_true rfl⟩ ⟨Nat.zero_le _, Nat.zero_le _⟩ (Nat.le_of_ble_eq_true rfl) rfl (rest := [yI i]) (cells := 0) (slots := 0) (lv := [(0, yR g 0), (1, yJ c), (3, yI i)])
      refine y_cp (zz9) ?_
      refine y_icmp_ge (pc := 12) hF dX10_print_12 38 rfl (by omega) (by omega) (fun zc12 => ?_) (fun zc12 => ?_)
      · skip
        refine y_lload_n (pc := 38) hF dX10_print_38 1 rfl ?_
        exact y_lret (pc := 39) hF dX10_print_39 (Nat.zero_le _) (Nat.zero_le _) ⟨_, rfl, by rw [zI4.2.2, show i = w * h by omega]; exact fr_linI (fun v x y => 31 * v + T x y) (by omega) (by omega) _, rfl, rfl⟩
      · skip
        have zd := y_de (h := h) hw1 zI4.1 (by omega)
        have zat := hA.at zI4.1 (by omega)
        have zin : sIn w h (i % w) (i / w) = true := sIn_iff.mpr ⟨zd.2.1, zd.2.2.1, zd.2.2.2⟩
        have ztb := hA.1.T _ _ zin
        refine y_ldc2 (pc := 15) (v := 31) hF dX10_print_15 wk_598 ?_
        refine y_lload_n (pc := 18) hF dX10_print_18 1 rfl ?_
        refine y_lmul (pc := 19) hF dX10_print_19 ?_
        refine y_aload_n (pc := 20) hF dX10_print_20 0 rfl ?_
        refine y_get (pc := 21) (ci := 10) hF dX10_print_21 (by omega) rfl rfl rfl iX10 2 (by decide) w_489 rfl ?_
        refine y_getN (pc := 24) (ci := 4) hF dX10_print_24 (by have := pic_5.1; omega) (pic_5.2 g).1 rfl rfl iX4 2 (by decide) w_223 rfl ?_
        refine y_iload_n (pc := 27) hF dX10_print_27 2 rfl ?_
        refine y_iaload (pc := 28) hF dX10_print_28 (by have := pic_5.1; omega) (pic_5.2 g).2.1 ⟨zI4.1, by show _ < (400 : Int); omega⟩ (by decide) ?_
        rw [show σ (5 + 1) i = T (i % w) (i / w) from zat.1]
        refine y_i2l (pc := 29) hF dX10_print_29 (by omega) ?_
        refine y_ladd (pc := 30) hF dX10_print_30 ?_
        refine y_lstore_n (pc := 31) (lv' := [(0, yR g 0), (1, yJ ((31 * c) + (T (i % w) (i / w)))), (3, yI i)]) hF dX10_print_31 (by decide) rfl rfl rfl ?_
        refine y_iinc (pc := 32) (lv' := [(0, yR g 0), (1, yJ ((31 * c) + (T (i % w) (i / w)))), (3, yI (i + 1))]) hF dX10_print_32 2 rfl (by decide) rfl rfl ?_
        refine y_goto (pc := 35) hF dX10_print_35 4 rfl ?_
        exact zh4 _ (by omega) (i + 1) ((31 * c) + (T (i % w) (i / w))) rfl ⟨by omega, by omega, by rw [fr_up _ _ _ _ zI4.1, ← zI4.2.2, Int.zero_add]⟩
  exact zL4 _ (0) (0) rfl ⟨by omega, by omega, rfl⟩

theorem dX10_favourite_0 : decode cX10_favourite 0 = .ok (.aload_n 0, 1) := by decide +kernel
theorem dX10_favourite_1 : decode cX10_favourite 1 = .ok (.iload_n 1, 1) := by decide +kernel
theorem dX10_favourite_2 : decode cX10_favourite 2 = .ok (.ifCond .eq 8, 3) := by decide +kernel
theorem dX10_favourite_5 : decode cX10_favourite 5 = .ok (.iload_n 1, 1) := by decide +kernel
theorem dX10_favourite_6 : decode cX10_favourite 6 = .ok (.iconst 1, 1) := by decide +kernel
theorem dX10_favourite_7 : decode cX10_favourite 7 = .ok (.if_icmp .ne 7, 3) := by decide +kernel
theorem dX10_favourite_10 : decode cX10_favourite 10 = .ok (.iconst 1, 1) := by decide +kernel
theorem dX10_favourite_11 : decode cX10_favourite 11 = .ok (.goto 4, 3) := by decide +kernel
theorem dX10_favourite_14 : decode cX10_favourite 14 = .ok (.iconst 0, 1) := by decide +kernel
theorem dX10_favourite_15 : decode cX10_favourite 15 = .ok (.invokevirtual 110, 3) := by decide +kernel
theorem dX10_favourite_18 : decode cX10_favourite 18 = .ok (.iconst (-1), 1) := by decide +kernel
theorem dX10_favourite_19 : decode cX10_favourite 19 = .ok (.istore_n 2, 1) := by decide +kernel
theorem dX10_favourite_20 : decode cX10_favourite 20 = .ok (.iconst 0, 1) := by decide +kernel
theorem dX10_favourite_21 : decode cX10_favourite 21 = .ok (.istore_n 3, 1) := by decide +kernel
theorem dX10_favourite_22 : decode cX10_favourite 22 = .ok (.iconst 0, 1) := by decide +kernel
theorem dX10_favourite_23 : decode cX10_favourite 23 = .ok (.istore 4, 2) := by decide +kernel
theorem dX10_favourite_25 : decode cX10_favourite 25 = .ok (.iload 4, 2) := by decide +kernel
theorem dX10_favourite_27 : decode cX10_favourite 27 = .ok (.bipush 8, 2) := by decide +kernel
theorem dX10_favourite_29 : decode cX10_favourite 29 = .ok (.if_icmp .ge 32, 3) := by decide +kernel
theorem dX10_favourite_32 : decode cX10_favourite 32 = .ok (.aload_n 0, 1) := by decide +kernel
theorem dX10_favourite_33 : decode cX10_favourite 33 = .ok (.getfield 33, 3) := by decide +kernel
theorem dX10_favourite_36 : decode cX10_favourite 36 = .ok (.iload 4, 2) := by decide +kernel
theorem dX10_favourite_38 : decode cX10_favourite 38 = .ok (.invokevirtual 416, 3) := by decide +kernel
theorem dX10_favourite_41 : decode cX10_favourite 41 = .ok (.istore 5, 2) := by decide +kernel
theorem dX10_favourite_43 : decode cX10_favourite 43 = .ok (.iload 5, 2) := by decide +kernel
theorem dX10_favourite_45 : decode cX10_favourite 45 = .ok (.iload_n 3, 1) := by decide +kernel
theorem dX10_favourite_46 : decode cX10_favourite 46 = .ok (.if_icmp .le 9, 3) := by decide +kernel
theorem dX10_favourite_49 : decode cX10_favourite 49 = .ok (.iload 4, 2) := by decide +kernel
theorem dX10_favourite_51 : decode cX10_favourite 51 = .ok (.istore_n 2, 1) := by decide +kernel
theorem dX10_favourite_52 : decode cX10_favourite 52 = .ok (.iload 5, 2) := by decide +kernel
theorem dX10_favourite_54 : decode cX10_favourite 54 = .ok (.istore_n 3, 1) := by decide +kernel
theorem dX10_favourite_55 : decode cX10_favourite 55 = .ok (.iinc 4 1, 3) := by decide +kernel
theorem dX10_favourite_58 : decode cX10_favourite 58 = .ok (.goto (-33), 3) := by decide +kernel
theorem dX10_favourite_61 : decode cX10_favourite 61 = .ok (.iload_n 1, 1) := by decide +kernel
theorem dX10_favourite_62 : decode cX10_favourite 62 = .ok (.ifCond .ne 7, 3) := by decide +kernel
theorem dX10_favourite_65 : decode cX10_favourite 65 = .ok (.iload_n 2, 1) := by decide +kernel
theorem dX10_favourite_66 : decode cX10_favourite 66 = .ok (.goto 4, 3) := by decide +kernel
theorem dX10_favourite_69 : decode cX10_favourite 69 = .ok (.iload_n 3, 1) := by decide +kernel
theorem dX10_favourite_70 : decode cX10_favourite 70 = .ok (.ireturn, 1) := by decide +kernel
set_option maxHeartbeats 4000000 in
set_option maxRecDepth 100000 in
theorem tX10_favourite {l : Launch} {g : yG} {n : Nat} {σ : yM} (hlt : l.stackTraces = false) (hn : 172 ≤ n) (w h : Int) (T S F P O : Int → Int → Int) (nf df nl : Int) (lg : Int → Int → Int) (s re fo ra tu we sh : Int) (H : List aX) (ht : Bool) (K : Int → Int → Int) (tl : Int) (tb : Int → Int) (fa r1 r2 N : Int) (hV : cV σ (w, h, (T, S, F, P, O, nf, df, nl, lg), (s, re, fo, ra, tu, we, sh), H, ht, K, tl, tb, fa, r1, r2)) (hW : aW N (w, h, (T, S, F, P, O, nf, df, nl, lg), (s, re, fo, ra, tu, we, sh), H, ht, K, tl, tb, fa, r1, r2)) (a : Int) (ha : -2147483648 ≤ a ∧ a < 2147483648) : yMX l g yX10_favourite cX10_favourite 6 (some .int) (rmA 8 4 24) [yR g 0, yI a] (SC g) n σ (SC g) (yPi (fun v n' σ' => n ≤ n' ∧ (a = 0 ∨ a = 1) ∧ v = (if a = 0 then (fvQ nl lg).1 else (fvQ nl lg).2) ∧ cV σ' (w, h, (T, S, F, P, O, nf, df, nl, lg), (s, re, fo, ra, tu, we, sh), H, ht, K, tl, tb, fa, r1, r2) ∧ cF σ σ')) (fun E n' σ' => E = eA ∧ n ≤ n' ∧ ¬ (a = 0 ∨ a = 1) ∧ cV σ' (bA (w, h, (T, S, F, P, O, nf, df, nl, lg), (s, re, fo, ra, tu, we, sh), H, ht, K, tl, tb, fa, r1, r2)) ∧ cF σ σ') := by
  obtain ⟨⟨hA, hJ⟩, hS, hH, ⟨hb1, hb2⟩, ⟨ht1, ht2⟩, hfa, hr1, hr2, hT⟩ := id hV
  obtain ⟨hw1, hw2, hw3, hw4⟩ := id hA.1.1
  obtain ⟨hs1, hs2, hs3, hs4, hs5, hs6, hs7⟩ := id hS.2
  have z128 : 128 < n := by omega
  have z129 : 129 < n := by omega
  have z130 : 130 < n := by omega
  have zj3 := hJ.2.2.1
  have zj4 := hJ.2.2.2.1
  have zlg := hW.1.2
  refine y_startX (by decide) (Nat.le_of_ble_eq_true rfl) (fun X0 hX => ?_)
  have hF := hX.1
  show yV X0 g 6 (yQX X0 g (SC g) (yPi (fun v n' σ' => n ≤ n' ∧ (a = 0 ∨ a = 1) ∧ v = (if a = 0 then (fvQ nl lg).1 else (fvQ nl lg).2) ∧ cV σ' (w, h, (T, S, F, P, O, nf, df, nl, lg), (s, re, fo, ra, tu, we, sh), H, ht, K, tl, tb, fa, r1, r2) ∧ cF σ σ')) (fun E n' σ' => E = eA ∧ n ≤ n' ∧ ¬ (a = 0 ∨ a = 1) ∧ cV σ' (bA (w, h, (T, S, F, P, O, nf, df, nl, lg), (s, re, fo, ra, tu, we, sh), H, ht, K, tl, tb, fa, r1, r2)) ∧ cF σ σ') (rmA 8 4 24)) (SC g) n σ 0 0 0 [(0, yR g 0), (1, yI a)] []
  have zJ15 : ∀ (zb : Bool), (zb = decide (a = 0 ∨ a = 1)) → yV X0 g 6 (yQX X0 g (SC g) (yPi (fun v n' σ' => n ≤ n' ∧ (a = 0 ∨ a = 1) ∧ v = (if a = 0 then (fvQ nl lg).1 else (fvQ nl lg).2) ∧ cV σ' (w, h, (T, S, F, P, O, nf, df, nl, lg), (s, re, fo, ra, tu, we, sh), H, ht, K, tl, tb, fa, r1, r2) ∧ cF σ σ')) (fun E n' σ' => E = eA ∧ n ≤ n' ∧ ¬ (a = 0 ∨ a = 1) ∧ cV σ' (bA (w, h, (T, S, F, P, O, nf, df, nl, lg), (s, re, fo, ra, tu, we, sh), H, ht, K, tl, tb, fa, r1, r2)) ∧ cF σ σ') (rmA 8 4 24)) (SC g) n σ 0 0 15 [(0, yR g 0), (1, yI a)] [yI (bi zb), yR g 0] := by
    intro zb  zhb
    refine y_contX (cells' := 0 + 1) (slots' := 0 + 6) hX (y_rVX (pc := 15) hX (tX10_demand hlt hn zb) dX10_favourite_15 (by omega) rfl rfl rfl w_611 qX10_demand rfl ⟨Nat.le_of_ble_eq_true rfl, Nat.le_of_ble_eq_true rfl⟩ ⟨Nat.le_of_ble_eq_true rfl, Nat.le_of_ble_eq_true rfl⟩ (Nat.le_of_ble_eq_true rfl) rfl) rfl rfl ⟨Nat.le_of_ble_eq_true rfl, Nat.le_of_ble_eq_true rfl⟩ (fun E n' σ' zx => ⟨zx.1, zx.2.1, by have zq := zx.2.2.1; rw [zhb] at zq; simpa using zq, by rw [zx.2.2.2]; exact hV.bA, by rw [zx.2.2.2]; exact cF_N⟩) (fun r15 n' σ15 zp15 => ?_)
    obtain ⟨zr15, zp15⟩ := zp15
    subst zr15
    obtain ⟨zn15, zs15, zb15⟩ := zp15
    have zs15 := zs15.symm
    subst zs15
    have zn15 := zn15.symm
    subst zn15
    skip
    show yV X0 g 6 (yQX X0 g (SC g) (yPi (fun v n' σ' => n ≤ n' ∧ (a = 0 ∨ a = 1) ∧ v = (if a = 0 then (fvQ nl lg).1 else (fvQ nl lg).2) ∧ cV σ' (w, h, (T, S, F, P, O, nf, df, nl, lg), (s, re, fo, ra, tu, we, sh), H, ht, K, tl, tb, fa, r1, r2) ∧ cF σ σ')) (fun E n' σ' => E = eA ∧ n ≤ n' ∧ ¬ (a = 0 ∨ a = 1) ∧ cV σ' (bA (w, h, (T, S, F, P, O, nf, df, nl, lg), (s, re, fo, ra, tu, we, sh), H, ht, K, tl, tb, fa, r1, r2)) ∧ cF σ σ') (rmA 8 4 24)) (SC g) n σ (0 + 1) (0 + 6) 18 [(0, yR g 0), (1, yI a)] []
    have zok : a = 0 ∨ a = 1 := by have zq := zb15; rw [zhb] at zq; simpa using zq
    refine y_iconst (pc := 18) hF dX10_favourite_18 ?_
    refine y_istore_n (pc := 19) (lv' := [(0, yR g 0), (1, yI a), (2, yI (-1))]) hF dX10_favourite_19 (by decide) rfl rfl ?_
    refine y_iconst (pc := 20) hF dX10_favourite_20 ?_
    refine y_istore_n (pc := 21) (lv' := [(0, yR g 0), (1, yI a), (2, yI (-1)), (3, yI 0)]) hF dX10_favourite_21 (by decide) rfl rfl ?_
    refine y_iconst (pc := 22) hF dX10_favourite_22 ?_
    refine y_istore (pc := 23) (lv' := [(0, yR g 0), (1, yI a), (2, yI (-1)), (3, yI 0), (4, yI 0)]) hF dX10_favourite_23 (by decide) rfl rfl ?_
    have zL25 : ∀ (N : Nat) (i c d : Int), N = (8 - i).toNat → ((0 ≤ i ∧ i ≤ 8) ∧ (0 ≤ d ∧ d ≤ 30) ∧ (c, d) = fr (fvF nl lg) 0 i.toNat (-1, 0)) → yV X0 g 6 (yQX X0 g (SC g) (yPi (fun v n' σ' => n ≤ n' ∧ (a = 0 ∨ a = 1) ∧ v = (if a = 0 then (fvQ nl lg).1 else (fvQ nl lg).2) ∧ cV σ' (w, h, (T, S, F, P, O, nf, df, nl, lg), (s, re, fo, ra, tu, we, sh), H, ht, K, tl, tb, fa, r1, r2) ∧ cF σ σ')) (fun E n' σ' => E = eA ∧ n ≤ n' ∧ ¬ (a = 0 ∨ a = 1) ∧ cV σ' (bA (w, h, (T, S, F, P, O, nf, df, nl, lg), (s, re, fo, ra, tu, we, sh), H, ht, K, tl, tb, fa, r1, r2)) ∧ cF σ σ') (rmA 8 4 24)) (SC g) n σ (0 + 1) (0 + 6) 25 [(0, yR g 0), (1, yI a), (2, yI c), (3, yI d), (4, yI i)] [] := by
      intro N
      induction N using Nat.strongRecOn with
      | ind N zh25 =>
        intro i c d  zN25 zI25
        refine y_iload (pc := 25) hF dX10_favourite_25 4 rfl ?_
        refine y_bipush (pc := 27) hF dX10_favourite_27 (by decide) ?_
        refine y_icmp_ge (pc := 29) hF dX10_favourite_29 61 rfl (by omega) (by omega) (fun zc29 => ?_) (fun zc29 => ?_)
        · skip
          have zq : (c, d) = fvQ nl lg := by rw [zI25.2.2, show i = 8 by omega]; rfl
          have zq1 : c = (fvQ nl lg).1 := congrArg Prod.fst zq
          have zq2 : d = (fvQ nl lg).2 := congrArg Prod.snd zq
          refine y_iload_n (pc := 61) hF dX10_favourite_61 1 rfl ?_
          refine y_if_ne (pc := 62) hF dX10_favourite_62 69 rfl (by omega) (fun zc62 => ?_) (fun zc62 => ?_)
          · skip
            refine y_iload_n (pc := 69) hF dX10_favourite_69 3 rfl ?_
            exact y_retX (y_iret (pc := 70) hF dX10_favourite_70 (Nat.le_of_ble_eq_true rfl) (Nat.le_of_ble_eq_true rfl) ⟨_, rfl, Nat.le_refl _, zok, by rw [if_neg zc62, zq2], hV, cF.rf σ⟩)
          · skip
            refine y_iload_n (pc := 65) hF dX10_favourite_65 2 rfl ?_
            refine y_goto (pc := 66) hF dX10_favourite_66 70 rfl ?_
            exact y_retX (y_iret (pc := 70) hF dX10_favourite_70 (Nat.le_of_ble_eq_true rfl) (Nat.le_of_ble_eq_true rfl) ⟨_, rfl, Nat.le_refl _, zok, by rw [if_pos zc62, zq1], hV, cF.rf σ⟩)
        · skip
          have zwb := sWy_bd (nl := nl) (lg := lg) (way := i) (by omega)
          refine y_aload_n (pc := 32) hF dX10_favourite_32 0 rfl ?_
          refine y_get (pc := 33) (ci := 10) hF dX10_favourite_33 (by omega) rfl rfl rfl iX10 3 (by decide) w_490 rfl ?_
          refine y_iload (pc := 36) hF dX10_favourite_36 4 rfl ?_
          have zz38 := y_rV (pc := 38) hF (tX2_countWay (n := n) (σ := σ) 11 nf df nl lg hn jou_11 hJ i (by omega) zlg) dX10_favourite_38 (by omega) rfl rfl rfl w_1205 qX2_countWay rfl ⟨Nat.le_of_ble_eq_true rfl, Nat.le_of_ble_eq_true rfl⟩ ⟨Nat.le_of_ble_eq_true rfl, Nat.le_of_ble_eq_true rfl⟩ (Nat.le_of_ble_eq_true rfl) rfl (rest := []) (cells := 0 + 1) (slots := 0 + 6) (lv := [(0, yR g 0), (1, yI a), (2, yI c), (3, yI d), (4, yI i)])
          refine y_cp (zz38) ?_
          refine y_istore (pc := 41) (lv' := [(0, yR g 0), (1, yI a), (2, yI c), (3, yI d), (4, yI i), (5, yI (sWy nl lg i))]) hF dX10_favourite_41 (by decide) rfl rfl ?_
          refine y_iload (pc := 43) hF dX10_favourite_43 5 rfl ?_
          refine y_iload_n (pc := 45) hF dX10_favourite_45 3 rfl ?_
          refine y_icmp_le (pc := 46) hF dX10_favourite_46 55 rfl (by omega) (by omega) (fun zc46 => ?_) (fun zc46 => ?_)
          · skip
            refine y_iinc (pc := 55) (lv' := [(0, yR g 0), (1, yI a), (2, yI c), (3, yI d), (4, yI (i + 1)), (5, yI (sWy nl lg i))]) hF dX10_favourite_55 4 rfl (by decide) rfl rfl ?_
            refine y_goto (pc := 58) hF dX10_favourite_58 25 rfl ?_
            refine y_sub [0, 1, 2, 3, 4] rfl ?_
            exact zh25 _ (by omega) (i + 1) (c) (d) rfl ⟨by omega, by omega, by rw [fr_up _ _ _ _ zI25.1.1, ← zI25.2.2, Int.zero_add]; unfold fvF; rw [if_neg (by simp only; omega)]⟩
          · skip
            refine y_iload (pc := 49) hF dX10_favourite_49 4 rfl ?_
            refine y_istore_n (pc := 51) (lv' := [(0, yR g 0), (1, yI a), (2, yI i), (3, yI d), (4, yI i), (5, yI (sWy nl lg i))]) hF dX10_favourite_51 (by decide) rfl rfl ?_
            refine y_iload (pc := 52) hF dX10_favourite_52 5 rfl ?_
            refine y_istore_n (pc := 54) (lv' := [(0, yR g 0), (1, yI a), (2, yI i), (3, yI (sWy nl lg i)), (4, yI i), (5, yI (sWy nl lg i))]) hF dX10_favourite_54 (by decide) rfl rfl ?_
            refine y_iinc (pc := 55) (lv' := [(0, yR g 0), (1, yI a), (2, yI i), (3, yI (sWy nl lg i)), (4, yI (i + 1)), (5, yI (sWy nl lg i))]) hF dX10_favourite_55 4 rfl (by decide) rfl rfl ?_
            refine y_goto (pc := 58) hF dX10_favourite_58 25 rfl ?_
            refine y_sub [0, 1, 2, 3, 4] rfl ?_
            exact zh25 _ (by omega) (i + 1) (i) (sWy nl lg i) rfl ⟨by omega, by omega, by rw [fr_up _ _ _ _ zI25.1.1, ← zI25.2.2, Int.zero_add]; unfold fvF; rw [if_pos (by simp only; omega)]⟩
    exact zL25 _ (0) (-1) (0) rfl ⟨by omega, by omega, rfl⟩
  refine y_aload_n (pc := 0) hF dX10_favourite_0 0 rfl ?_
  refine y_iload_n (pc := 1) hF dX10_favourite_1 1 rfl ?_
  refine y_if_eq (pc := 2) hF dX10_favourite_2 10 rfl (by omega) (fun zc2 => ?_) (fun zc2 => ?_)
  · skip
    refine y_iconst (pc := 10) hF dX10_favourite_10 ?_
    refine y_goto (pc := 11) hF dX10_favourite_11 15 rfl ?_
    exact zJ15 true (by simp; omega)
  · skip
    refine y_iload_n (pc := 5) hF dX10_favourite_5 1 rfl ?_
    refine y_iconst (pc := 6) hF dX10_favourite_6 ?_
    refine y_icmp_ne (pc := 7) hF dX10_favourite_7 14 rfl (by omega) (by omega) (fun zc7 => ?_) (fun zc7 => ?_)
    · skip
      refine y_iconst (pc := 14) hF dX10_favourite_14 ?_
      exact zJ15 false (by simp; omega)
    · skip
      refine y_iconst (pc := 10) hF dX10_favourite_10 ?_
      refine y_goto (pc := 11) hF dX10_favourite_11 15 rfl ?_
      exact zJ15 true (by simp; omega)
