theorem dX10_hole_0 : decode cX10_hole 0 = .ok (.aload_n 0, 1) := by decide +kernel
theorem dX10_hole_1 : decode cX10_hole 1 = .ok (.iload_n 1, 1) := by decide +kernel
theorem dX10_hole_2 : decode cX10_hole 2 = .ok (.iload_n 2, 1) := by decide +kernel
theorem dX10_hole_3 : decode cX10_hole 3 = .ok (.invokevirtual 156, 3) := by decide +kernel
theorem dX10_hole_6 : decode cX10_hole 6 = .ok (.aload_n 0, 1) := by decide +kernel
theorem dX10_hole_7 : decode cX10_hole 7 = .ok (.iload_n 3, 1) := by decide +kernel
theorem dX10_hole_8 : decode cX10_hole 8 = .ok (.iload 4, 2) := by decide +kernel
theorem dX10_hole_10 : decode cX10_hole 10 = .ok (.invokevirtual 156, 3) := by decide +kernel
theorem dX10_hole_13 : decode cX10_hole 13 = .ok (.aload_n 0, 1) := by decide +kernel
theorem dX10_hole_14 : decode cX10_hole 14 = .ok (.iload_n 3, 1) := by decide +kernel
theorem dX10_hole_15 : decode cX10_hole 15 = .ok (.iload_n 1, 1) := by decide +kernel
theorem dX10_hole_16 : decode cX10_hole 16 = .ok (.if_icmp .lt 13, 3) := by decide +kernel
theorem dX10_hole_19 : decode cX10_hole 19 = .ok (.iload 4, 2) := by decide +kernel
theorem dX10_hole_21 : decode cX10_hole 21 = .ok (.iload_n 2, 1) := by decide +kernel
theorem dX10_hole_22 : decode cX10_hole 22 = .ok (.if_icmp .lt 7, 3) := by decide +kernel
theorem dX10_hole_25 : decode cX10_hole 25 = .ok (.iconst 1, 1) := by decide +kernel
theorem dX10_hole_26 : decode cX10_hole 26 = .ok (.goto 4, 3) := by decide +kernel
theorem dX10_hole_29 : decode cX10_hole 29 = .ok (.iconst 0, 1) := by decide +kernel
theorem dX10_hole_30 : decode cX10_hole 30 = .ok (.invokevirtual 110, 3) := by decide +kernel
theorem dX10_hole_33 : decode cX10_hole 33 = .ok (.iconst 0, 1) := by decide +kernel
theorem dX10_hole_34 : decode cX10_hole 34 = .ok (.istore 5, 2) := by decide +kernel
theorem dX10_hole_36 : decode cX10_hole 36 = .ok (.iload_n 2, 1) := by decide +kernel
theorem dX10_hole_37 : decode cX10_hole 37 = .ok (.istore 6, 2) := by decide +kernel
theorem dX10_hole_39 : decode cX10_hole 39 = .ok (.iload 6, 2) := by decide +kernel
theorem dX10_hole_41 : decode cX10_hole 41 = .ok (.iload 4, 2) := by decide +kernel
theorem dX10_hole_43 : decode cX10_hole 43 = .ok (.if_icmp .gt 48, 3) := by decide +kernel
theorem dX10_hole_46 : decode cX10_hole 46 = .ok (.iload_n 1, 1) := by decide +kernel
theorem dX10_hole_47 : decode cX10_hole 47 = .ok (.istore 7, 2) := by decide +kernel
theorem dX10_hole_49 : decode cX10_hole 49 = .ok (.iload 7, 2) := by decide +kernel
theorem dX10_hole_51 : decode cX10_hole 51 = .ok (.iload_n 3, 1) := by decide +kernel
theorem dX10_hole_52 : decode cX10_hole 52 = .ok (.if_icmp .gt 33, 3) := by decide +kernel
theorem dX10_hole_55 : decode cX10_hole 55 = .ok (.iload 5, 2) := by decide +kernel
theorem dX10_hole_57 : decode cX10_hole 57 = .ok (.aload_n 0, 1) := by decide +kernel
theorem dX10_hole_58 : decode cX10_hole 58 = .ok (.getfield 26, 3) := by decide +kernel
theorem dX10_hole_61 : decode cX10_hole 61 = .ok (.iload 7, 2) := by decide +kernel
theorem dX10_hole_63 : decode cX10_hole 63 = .ok (.iload 6, 2) := by decide +kernel
theorem dX10_hole_65 : decode cX10_hole 65 = .ok (.invokevirtual 159, 3) := by decide +kernel
theorem dX10_hole_68 : decode cX10_hole 68 = .ok (.ifCond .eq 7, 3) := by decide +kernel
theorem dX10_hole_71 : decode cX10_hole 71 = .ok (.iconst 1, 1) := by decide +kernel
theorem dX10_hole_72 : decode cX10_hole 72 = .ok (.goto 4, 3) := by decide +kernel
theorem dX10_hole_75 : decode cX10_hole 75 = .ok (.iconst 0, 1) := by decide +kernel
theorem dX10_hole_76 : decode cX10_hole 76 = .ok (.iadd, 1) := by decide +kernel
theorem dX10_hole_77 : decode cX10_hole 77 = .ok (.istore 5, 2) := by decide +kernel
theorem dX10_hole_79 : decode cX10_hole 79 = .ok (.iinc 7 1, 3) := by decide +kernel
theorem dX10_hole_82 : decode cX10_hole 82 = .ok (.goto (-33), 3) := by decide +kernel
theorem dX10_hole_85 : decode cX10_hole 85 = .ok (.iinc 6 1, 3) := by decide +kernel
theorem dX10_hole_88 : decode cX10_hole 88 = .ok (.goto (-49), 3) := by decide +kernel
theorem dX10_hole_91 : decode cX10_hole 91 = .ok (.iload 5, 2) := by decide +kernel
theorem dX10_hole_93 : decode cX10_hole 93 = .ok (.ifCond .ne 5, 3) := by decide +kernel
theorem dX10_hole_96 : decode cX10_hole 96 = .ok (.iconst 0, 1) := by decide +kernel
theorem dX10_hole_97 : decode cX10_hole 97 = .ok (.ireturn, 1) := by decide +kernel
theorem dX10_hole_98 : decode cX10_hole 98 = .ok (.aload_n 0, 1) := by decide +kernel
theorem dX10_hole_99 : decode cX10_hole 99 = .ok (.getfield 40, 3) := by decide +kernel
theorem dX10_hole_102 : decode cX10_hole 102 = .ok (.aload_n 0, 1) := by decide +kernel
theorem dX10_hole_103 : decode cX10_hole 103 = .ok (.getfield 26, 3) := by decide +kernel
theorem dX10_hole_106 : decode cX10_hole 106 = .ok (.aload_n 0, 1) := by decide +kernel
theorem dX10_hole_107 : decode cX10_hole 107 = .ok (.getfield 33, 3) := by decide +kernel
theorem dX10_hole_110 : decode cX10_hole 110 = .ok (.invokevirtual 162, 3) := by decide +kernel
theorem dX10_hole_113 : decode cX10_hole 113 = .ok (.aload_n 0, 1) := by decide +kernel
theorem dX10_hole_114 : decode cX10_hole 114 = .ok (.getfield 40, 3) := by decide +kernel
theorem dX10_hole_117 : decode cX10_hole 117 = .ok (.iload 5, 2) := by decide +kernel
theorem dX10_hole_119 : decode cX10_hole 119 = .ok (.invokevirtual 166, 3) := by decide +kernel
theorem dX10_hole_122 : decode cX10_hole 122 = .ok (.pop, 1) := by decide +kernel
theorem dX10_hole_123 : decode cX10_hole 123 = .ok (.iload_n 2, 1) := by decide +kernel
theorem dX10_hole_124 : decode cX10_hole 124 = .ok (.istore 6, 2) := by decide +kernel
theorem dX10_hole_126 : decode cX10_hole 126 = .ok (.iload 6, 2) := by decide +kernel
theorem dX10_hole_128 : decode cX10_hole 128 = .ok (.iload 4, 2) := by decide +kernel
theorem dX10_hole_130 : decode cX10_hole 130 = .ok (.if_icmp .gt 43, 3) := by decide +kernel
theorem dX10_hole_133 : decode cX10_hole 133 = .ok (.iload_n 1, 1) := by decide +kernel
theorem dX10_hole_134 : decode cX10_hole 134 = .ok (.istore 7, 2) := by decide +kernel
theorem dX10_hole_136 : decode cX10_hole 136 = .ok (.iload 7, 2) := by decide +kernel
theorem dX10_hole_138 : decode cX10_hole 138 = .ok (.iload_n 3, 1) := by decide +kernel
theorem dX10_hole_139 : decode cX10_hole 139 = .ok (.if_icmp .gt 28, 3) := by decide +kernel
theorem dX10_hole_142 : decode cX10_hole 142 = .ok (.aload_n 0, 1) := by decide +kernel
theorem dX10_hole_143 : decode cX10_hole 143 = .ok (.getfield 26, 3) := by decide +kernel
theorem dX10_hole_146 : decode cX10_hole 146 = .ok (.aload_n 0, 1) := by decide +kernel
theorem dX10_hole_147 : decode cX10_hole 147 = .ok (.getfield 26, 3) := by decide +kernel
theorem dX10_hole_150 : decode cX10_hole 150 = .ok (.iload 7, 2) := by decide +kernel
theorem dX10_hole_152 : decode cX10_hole 152 = .ok (.iload 6, 2) := by decide +kernel
theorem dX10_hole_154 : decode cX10_hole 154 = .ok (.invokevirtual 169, 3) := by decide +kernel
theorem dX10_hole_157 : decode cX10_hole 157 = .ok (.iconst (-1), 1) := by decide +kernel
theorem dX10_hole_158 : decode cX10_hole 158 = .ok (.invokevirtual 173, 3) := by decide +kernel
theorem dX10_hole_161 : decode cX10_hole 161 = .ok (.iinc 7 1, 3) := by decide +kernel
theorem dX10_hole_164 : decode cX10_hole 164 = .ok (.goto (-28), 3) := by decide +kernel
theorem dX10_hole_167 : decode cX10_hole 167 = .ok (.iinc 6 1, 3) := by decide +kernel
theorem dX10_hole_170 : decode cX10_hole 170 = .ok (.goto (-44), 3) := by decide +kernel
theorem dX10_hole_173 : decode cX10_hole 173 = .ok (.iload 5, 2) := by decide +kernel
theorem dX10_hole_175 : decode cX10_hole 175 = .ok (.ireturn, 1) := by decide +kernel
set_option maxHeartbeats 4000000 in
set_option maxRecDepth 100000 in
theorem tX10_hole {l : Launch} {g : yG} {n : Nat} {σ : yM} (hlt : l.stackTraces = false) (hn : 172 ≤ n) (w h : Int) (T S F P O : Int → Int → Int) (nf df nl : Int) (lg : Int → Int → Int) (s re fo ra tu we sh : Int) (H : List aX) (ht : Bool) (K : Int → Int → Int) (tl : Int) (tb : Int → Int) (fa r1 r2 N : Int) (hV : cV σ (w, h, (T, S, F, P, O, nf, df, nl, lg), (s, re, fo, ra, tu, we, sh), H, ht, K, tl, tb, fa, r1, r2)) (hW : aW N (w, h, (T, S, F, P, O, nf, df, nl, lg), (s, re, fo, ra, tu, we, sh), H, ht, K, tl, tb, fa, r1, r2)) (x y tx ty : Int) (hx : -2147483648 ≤ x ∧ x < 2147483648) (hy : -2147483648 ≤ y ∧ y < 2147483648) (htx : -2147483648 ≤ tx ∧ tx < 2147483648) (hty : -2147483648 ≤ ty ∧ ty < 2147483648) : yMX l g yX10_hole cX10_hole 8 (some .int) (rmA 8 4 24) [yR g 0, yI x, yI y, yI tx, yI ty] (SC g) n σ (SC g) (yPi (fun zv n' σ' => n ≤ n' ∧ ((sIn w h x y = true ∧ sIn w h tx ty = true) ∧ x ≤ tx ∧ y ≤ ty) ∧ zv = hC w h T x y tx ty ∧ cV σ' (if hC w h T x y tx ty = 0 then (w, h, (T, S, F, P, O, nf, df, nl, lg), (s, re, fo, ra, tu, we, sh), H, ht, K, tl, tb, fa, r1, r2) else (w, h, (dHo (dR x y tx x (ty + 1)) (-1) T, dHo (dR x y tx x (ty + 1)) 0 S, dHo (dR x y tx x (ty + 1)) 0 F, dHo (dR x y tx x (ty + 1)) (-1) P, dHo (dR x y tx x (ty + 1)) (-1) O, nf, df, nl, lg), (s, re, fo, ra, tu, we, sh), pH (T, S, F, P, O, nf, df, nl, lg) H, ht, K, tl, tb, fa, r1, r2)) ∧ cF σ σ')) (fun E n' σ' => n ≤ n' ∧ ((E = eN ∧ ¬ (sIn w h x y = true ∧ sIn w h tx ty = true) ∧ cV σ' (bN (w, h, (T, S, F, P, O, nf, df, nl, lg), (s, re, fo, ra, tu, we, sh), H, ht, K, tl, tb, fa, r1, r2))) ∨ (E = eA ∧ (sIn w h x y = true ∧ sIn w h tx ty = true) ∧ ¬ (x ≤ tx ∧ y ≤ ty) ∧ cV σ' (bA (w, h, (T, S, F, P, O, nf, df, nl, lg), (s, re, fo, ra, tu, we, sh), H, ht, K, tl, tb, fa, r1, r2)))) ∧ cF σ σ') := by
  obtain ⟨⟨hA, hJ⟩, hS, hH, ⟨hb1, hb2⟩, ⟨ht1, ht2⟩, hfa, hr1, hr2, hT⟩ := id hV
  obtain ⟨hw1, hw2, hw3, hw4⟩ := id hA.1.1
  obtain ⟨hs1, hs2, hs3, hs4, hs5, hs6, hs7⟩ := id hS.2
  have z128 : 128 < n := by omega
  have z129 : 129 < n := by omega
  have z130 : 130 < n := by omega
  obtain ⟨hd, hd1, hdr, hd2, hd3, hd4⟩ := id hH
  have hdl : 0 ≤ (H.length : Int) ∧ (H.length : Int) ≤ 10 := by omega
  refine y_startX (by decide) (Nat.le_of_ble_eq_true rfl) (fun X0 hX => ?_)
  have hF := hX.1
  show yV X0 g 8 (yQX X0 g (SC g) (yPi (fun zv n' σ' => n ≤ n' ∧ ((sIn w h x y = true ∧ sIn w h tx ty = true) ∧ x ≤ tx ∧ y ≤ ty) ∧ zv = hC w h T x y tx ty ∧ cV σ' (if hC w h T x y tx ty = 0 then (w, h, (T, S, F, P, O, nf, df, nl, lg), (s, re, fo, ra, tu, we, sh), H, ht, K, tl, tb, fa, r1, r2) else (w, h, (dHo (dR x y tx x (ty + 1)) (-1) T, dHo (dR x y tx x (ty + 1)) 0 S, dHo (dR x y tx x (ty + 1)) 0 F, dHo (dR x y tx x (ty + 1)) (-1) P, dHo (dR x y tx x (ty + 1)) (-1) O, nf, df, nl, lg), (s, re, fo, ra, tu, we, sh), pH (T, S, F, P, O, nf, df, nl, lg) H, ht, K, tl, tb, fa, r1, r2)) ∧ cF σ σ')) (fun E n' σ' => n ≤ n' ∧ ((E = eN ∧ ¬ (sIn w h x y = true ∧ sIn w h tx ty = true) ∧ cV σ' (bN (w, h, (T, S, F, P, O, nf, df, nl, lg), (s, re, fo, ra, tu, we, sh), H, ht, K, tl, tb, fa, r1, r2))) ∨ (E = eA ∧ (sIn w h x y = true ∧ sIn w h tx ty = true) ∧ ¬ (x ≤ tx ∧ y ≤ ty) ∧ cV σ' (bA (w, h, (T, S, F, P, O, nf, df, nl, lg), (s, re, fo, ra, tu, we, sh), H, ht, K, tl, tb, fa, r1, r2)))) ∧ cF σ σ') (rmA 8 4 24)) (SC g) n σ 0 0 0 [(0, yR g 0), (1, yI x), (2, yI y), (3, yI tx), (4, yI ty)] []
  refine y_aload_n (pc := 0) hF dX10_hole_0 0 rfl ?_
  refine y_iload_n (pc := 1) hF dX10_hole_1 1 rfl ?_
  refine y_iload_n (pc := 2) hF dX10_hole_2 2 rfl ?_
  refine y_contX (cells' := 0 + 1) (slots' := 0 + 6) hX (y_rVX (pc := 3) hX (tX10_demandDot hlt hn w h T S F P O hA x y (by omega) (by omega)) dX10_hole_3 (by omega) rfl rfl rfl w_752 qX10_demandDot rfl ⟨Nat.le_of_ble_eq_true rfl, Nat.le_of_ble_eq_true rfl⟩ ⟨Nat.le_of_ble_eq_true rfl, Nat.le_of_ble_eq_true rfl⟩ (Nat.le_of_ble_eq_true rfl) rfl) rfl rfl ⟨Nat.le_of_ble_eq_true rfl, Nat.le_of_ble_eq_true rfl⟩ (fun E n' σ' zx => ⟨zx.2.1, Or.inl ⟨zx.1, by rw [zx.2.2.1]; simp, by rw [zx.2.2.2]; exact hV.bN⟩, by rw [zx.2.2.2]; exact cF_N⟩) (fun r3 n' σ3 zp3 => ?_)
  obtain ⟨zr3, zp3⟩ := zp3
  subst zr3
  obtain ⟨zn3, zs3, zb3⟩ := zp3
  have zs3 := zs3.symm
  subst zs3
  have zn3 := zn3.symm
  subst zn3
  skip
  show yV X0 g 8 (yQX X0 g (SC g) (yPi (fun zv n' σ' => n ≤ n' ∧ ((sIn w h x y = true ∧ sIn w h tx ty = true) ∧ x ≤ tx ∧ y ≤ ty) ∧ zv = hC w h T x y tx ty ∧ cV σ' (if hC w h T x y tx ty = 0 then (w, h, (T, S, F, P, O, nf, df, nl, lg), (s, re, fo, ra, tu, we, sh), H, ht, K, tl, tb, fa, r1, r2) else (w, h, (dHo (dR x y tx x (ty + 1)) (-1) T, dHo (dR x y tx x (ty + 1)) 0 S, dHo (dR x y tx x (ty + 1)) 0 F, dHo (dR x y tx x (ty + 1)) (-1) P, dHo (dR x y tx x (ty + 1)) (-1) O, nf, df, nl, lg), (s, re, fo, ra, tu, we, sh), pH (T, S, F, P, O, nf, df, nl, lg) H, ht, K, tl, tb, fa, r1, r2)) ∧ cF σ σ')) (fun E n' σ' => n ≤ n' ∧ ((E = eN ∧ ¬ (sIn w h x y = true ∧ sIn w h tx ty = true) ∧ cV σ' (bN (w, h, (T, S, F, P, O, nf, df, nl, lg), (s, re, fo, ra, tu, we, sh), H, ht, K, tl, tb, fa, r1, r2))) ∨ (E = eA ∧ (sIn w h x y = true ∧ sIn w h tx ty = true) ∧ ¬ (x ≤ tx ∧ y ≤ ty) ∧ cV σ' (bA (w, h, (T, S, F, P, O, nf, df, nl, lg), (s, re, fo, ra, tu, we, sh), H, ht, K, tl, tb, fa, r1, r2)))) ∧ cF σ σ') (rmA 8 4 24)) (SC g) n σ (0 + 1) (0 + 6) 6 [(0, yR g 0), (1, yI x), (2, yI y), (3, yI tx), (4, yI ty)] []
  refine y_aload_n (pc := 6) hF dX10_hole_6 0 rfl ?_
  refine y_iload_n (pc := 7) hF dX10_hole_7 3 rfl ?_
  refine y_iload (pc := 8) hF dX10_hole_8 4 rfl ?_
  refine y_contX (cells' := 0 + 1 + 1) (slots' := 0 + 6 + 6) hX (y_rVX (pc := 10) hX (tX10_demandDot hlt hn w h T S F P O hA tx ty (by omega) (by omega)) dX10_hole_10 (by omega) rfl rfl rfl w_752 qX10_demandDot rfl ⟨Nat.le_of_ble_eq_true rfl, Nat.le_of_ble_eq_true rfl⟩ ⟨Nat.le_of_ble_eq_true rfl, Nat.le_of_ble_eq_true rfl⟩ (Nat.le_of_ble_eq_true rfl) rfl) rfl rfl ⟨Nat.le_of_ble_eq_true rfl, Nat.le_of_ble_eq_true rfl⟩ (fun E n' σ' zx => ⟨zx.2.1, Or.inl ⟨zx.1, by rw [zx.2.2.1]; simp, by rw [zx.2.2.2]; exact hV.bN⟩, by rw [zx.2.2.2]; exact cF_N⟩) (fun r10 n' σ10 zp10 => ?_)
  obtain ⟨zr10, zp10⟩ := zp10
  subst zr10
  obtain ⟨zn10, zs10, zb10⟩ := zp10
  have zs10 := zs10.symm
  subst zs10
  have zn10 := zn10.symm
  subst zn10
  skip
  show yV X0 g 8 (yQX X0 g (SC g) (yPi (fun zv n' σ' => n ≤ n' ∧ ((sIn w h x y = true ∧ sIn w h tx ty = true) ∧ x ≤ tx ∧ y ≤ ty) ∧ zv = hC w h T x y tx ty ∧ cV σ' (if hC w h T x y tx ty = 0 then (w, h, (T, S, F, P, O, nf, df, nl, lg), (s, re, fo, ra, tu, we, sh), H, ht, K, tl, tb, fa, r1, r2) else (w, h, (dHo (dR x y tx x (ty + 1)) (-1) T, dHo (dR x y tx x (ty + 1)) 0 S, dHo (dR x y tx x (ty + 1)) 0 F, dHo (dR x y tx x (ty + 1)) (-1) P, dHo (dR x y tx x (ty + 1)) (-1) O, nf, df, nl, lg), (s, re, fo, ra, tu, we, sh), pH (T, S, F, P, O, nf, df, nl, lg) H, ht, K, tl, tb, fa, r1, r2)) ∧ cF σ σ')) (fun E n' σ' => n ≤ n' ∧ ((E = eN ∧ ¬ (sIn w h x y = true ∧ sIn w h tx ty = true) ∧ cV σ' (bN (w, h, (T, S, F, P, O, nf, df, nl, lg), (s, re, fo, ra, tu, we, sh), H, ht, K, tl, tb, fa, r1, r2))) ∨ (E = eA ∧ (sIn w h x y = true ∧ sIn w h tx ty = true) ∧ ¬ (x ≤ tx ∧ y ≤ ty) ∧ cV σ' (bA (w, h, (T, S, F, P, O, nf, df, nl, lg), (s, re, fo, ra, tu, we, sh), H, ht, K, tl, tb, fa, r1, r2)))) ∧ cF σ σ') (rmA 8 4 24)) (SC g) n σ (0 + 1 + 1) (0 + 6 + 6) 13 [(0, yR g 0), (1, yI x), (2, yI y), (3, yI tx), (4, yI ty)] []
  have zJ30 : ∀ (zb : Bool), (zb = decide (x ≤ tx ∧ y ≤ ty)) → yV X0 g 8 (yQX X0 g (SC g) (yPi (fun zv n' σ' => n ≤ n' ∧ ((sIn w h x y = true ∧ sIn w h tx ty = true) ∧ x ≤ tx ∧ y ≤ ty) ∧ zv = hC w h T x y tx ty ∧ cV σ' (if hC w h T x y tx ty = 0 then (w, h, (T, S, F, P, O, nf, df, nl, lg), (s, re, fo, ra, tu, we, sh), H, ht, K, tl, tb, fa, r1, r2) else (w, h, (dHo (dR x y tx x (ty + 1)) (-1) T, dHo (dR x y tx x (ty + 1)) 0 S, dHo (dR x y tx x (ty + 1)) 0 F, dHo (dR x y tx x (ty + 1)) (-1) P, dHo (dR x y tx x (ty + 1)) (-1) O, nf, df, nl, lg), (s, re, fo, ra, tu, we, sh), pH (T, S, F, P, O, nf, df, nl, lg) H, ht, K, tl, tb, fa, r1, r2)) ∧ cF σ σ')) (fun E n' σ' => n ≤ n' ∧ ((E = eN ∧ ¬ (sIn w h x y = true ∧ sIn w h tx ty = true) ∧ cV σ' (bN (w, h, (T, S, F, P, O, nf, df, nl, lg), (s, re, fo, ra, tu, we, sh), H, ht, K, tl, tb, fa, r1, r2))) ∨ (E = eA ∧ (sIn w h x y = true ∧ sIn w h tx ty = true) ∧ ¬ (x ≤ tx ∧ y ≤ ty) ∧ cV σ' (bA (w, h, (T, S, F, P, O, nf, df, nl, lg), (s, re, fo, ra, tu, we, sh), H, ht, K, tl, tb, fa, r1, r2)))) ∧ cF σ σ') (rmA 8 4 24)) (SC g) n σ (0 + 1 + 1) (0 + 6 + 6) 30 [(0, yR g 0), (1, yI x), (2, yI y), (3, yI tx), (4, yI ty)] [yI (bi zb), yR g 0] := by
    intro zb  zhb
    refine y_contX (cells' := 0 + 1 + 1 + 1) (slots' := 0 + 6 + 6 + 6) hX (y_rVX (pc := 30) hX (tX10_demand hlt hn zb) dX10_hole_30 (by omega) rfl rfl rfl w_611 qX10_demand rfl ⟨Nat.le_of_ble_eq_true rfl, Nat.le_of_ble_eq_true rfl⟩ ⟨Nat.le_of_ble_eq_true rfl, Nat.le_of_ble_eq_true rfl⟩ (Nat.le_of_ble_eq_true rfl) rfl) rfl rfl ⟨Nat.le_of_ble_eq_true rfl, Nat.le_of_ble_eq_true rfl⟩ (fun E n' σ' zx => ⟨zx.2.1, Or.inr ⟨zx.1, ⟨zb3, zb10⟩, by have zq := zx.2.2.1; rw [zhb] at zq; simpa using zq, by rw [zx.2.2.2]; exact hV.bA⟩, by rw [zx.2.2.2]; exact cF_N⟩) (fun r30 n' σ30 zp30 => ?_)
    obtain ⟨zr30, zp30⟩ := zp30
    subst zr30
    obtain ⟨zn30, zs30, zb30⟩ := zp30
    have zs30 := zs30.symm
    subst zs30
    have zn30 := zn30.symm
    subst zn30
    skip
    show yV X0 g 8 (yQX X0 g (SC g) (yPi (fun zv n' σ' => n ≤ n' ∧ ((sIn w h x y = true ∧ sIn w h tx ty = true) ∧ x ≤ tx ∧ y ≤ ty) ∧ zv = hC w h T x y tx ty ∧ cV σ' (if hC w h T x y tx ty = 0 then (w, h, (T, S, F, P, O, nf, df, nl, lg), (s, re, fo, ra, tu, we, sh), H, ht, K, tl, tb, fa, r1, r2) else (w, h, (dHo (dR x y tx x (ty + 1)) (-1) T, dHo (dR x y tx x (ty + 1)) 0 S, dHo (dR x y tx x (ty + 1)) 0 F, dHo (dR x y tx x (ty + 1)) (-1) P, dHo (dR x y tx x (ty + 1)) (-1) O, nf, df, nl, lg), (s, re, fo, ra, tu, we, sh), pH (T, S, F, P, O, nf, df, nl, lg) H, ht, K, tl, tb, fa, r1, r2)) ∧ cF σ σ')) (fun E n' σ' => n ≤ n' ∧ ((E = eN ∧ ¬ (sIn w h x y = true ∧ sIn w h tx ty = true) ∧ cV σ' (bN (w, h, (T, S, F, P, O, nf, df, nl, lg), (s, re, fo, ra, tu, we, sh), H, ht, K, tl, tb, fa, r1, r2))) ∨ (E = eA ∧ (sIn w h x y = true ∧ sIn w h tx ty = true) ∧ ¬ (x ≤ tx ∧ y ≤ ty) ∧ cV σ' (bA (w, h, (T, S, F, P, O, nf, df, nl, lg), (s, re, fo, ra, tu, we, sh), H, ht, K, tl, tb, fa, r1, r2)))) ∧ cF σ σ') (rmA 8 4 24)) (SC g) n σ (0 + 1 + 1 + 1) (0 + 6 + 6 + 6) 33 [(0, yR g 0), (1, yI x), (2, yI y), (3, yI tx), (4, yI ty)] []
    have zok : (sIn w h x y = true ∧ sIn w h tx ty = true) ∧ x ≤ tx ∧ y ≤ ty := ⟨⟨zb3, zb10⟩, by have zq := zb30; rw [zhb] at zq; simpa using zq⟩
    have zi := sIn_iff.mp zb3
    have zj := sIn_iff.mp zb10
    refine y_iconst (pc := 33) hF dX10_hole_33 ?_
    refine y_istore (pc := 34) (lv' := [(0, yR g 0), (1, yI x), (2, yI y), (3, yI tx), (4, yI ty), (5, yI 0)]) hF dX10_hole_34 (by decide) rfl rfl ?_
    refine y_iload_n (pc := 36) hF dX10_hole_36 2 rfl ?_
    refine y_istore (pc := 37) (lv' := [(0, yR g 0), (1, yI x), (2, yI y), (3, yI tx), (4, yI ty), (5, yI 0), (6, yI y)]) hF dX10_hole_37 (by decide) rfl rfl ?_
    have zL39 : ∀ (N : Nat) (j c : Int), N = (ty + 1 - j).toNat → ((y ≤ j ∧ j ≤ ty + 1) ∧ (0 ≤ c ∧ c ≤ 20 * (j - y)) ∧ c = fr (fun c j => fr (fun c i => c + bi (sKn w h T i j)) x (tx + 1 - x).toNat c) y (j - y).toNat 0) → yV X0 g 8 (yQX X0 g (SC g) (yPi (fun zv n' σ' => n ≤ n' ∧ ((sIn w h x y = true ∧ sIn w h tx ty = true) ∧ x ≤ tx ∧ y ≤ ty) ∧ zv = hC w h T x y tx ty ∧ cV σ' (if hC w h T x y tx ty = 0 then (w, h, (T, S, F, P, O, nf, df, nl, lg), (s, re, fo, ra, tu, we, sh), H, ht, K, tl, tb, fa, r1, r2) else (w, h, (dHo (dR x y tx x (ty + 1)) (-1) T, dHo (dR x y tx x (ty + 1)) 0 S, dHo (dR x y tx x (ty + 1)) 0 F, dHo (dR x y tx x (ty + 1)) (-1) P, dHo (dR x y tx x (ty + 1)) (-1) O, nf, df, nl, lg), (s, re, fo, ra, tu, we, sh), pH (T, S, F, P, O, nf, df, nl, lg) H, ht, K, tl, tb, fa, r1, r2)) ∧ cF σ σ')) (fun E n' σ' => n ≤ n' ∧ ((E = eN ∧ ¬ (sIn w h x y = true ∧ sIn w h tx ty = true) ∧ cV σ' (bN (w, h, (T, S, F, P, O, nf, df, nl, lg), (s, re, fo, ra, tu, we, sh), H, ht, K, tl, tb, fa, r1, r2))) ∨ (E = eA ∧ (sIn w h x y = true ∧ sIn w h tx ty = true) ∧ ¬ (x ≤ tx ∧ y ≤ ty) ∧ cV σ' (bA (w, h, (T, S, F, P, O, nf, df, nl, lg), (s, re, fo, ra, tu, we, sh), H, ht, K, tl, tb, fa, r1, r2)))) ∧ cF σ σ') (rmA 8 4 24)) (SC g) n σ (0 + 1 + 1 + 1) (0 + 6 + 6 + 6) 39 [(0, yR g 0), (1, yI x), (2, yI y), (3, yI tx), (4, yI ty), (5, yI c), (6, yI j)] [] := by
      intro N
      induction N using Nat.strongRecOn with
      | ind N zh39 =>
        intro j c  zN39 zI39
        refine y_iload (pc := 39) hF dX10_hole_39 6 rfl ?_
        refine y_iload (pc := 41) hF dX10_hole_41 4 rfl ?_
        refine y_icmp_gt (pc := 43) hF dX10_hole_43 91 rfl (by omega) (by omega) (fun zc43 => ?_) (fun zc43 => ?_)
        · skip
          have zct : c = hC w h T x y tx ty := by rw [zI39.2.2, show j = ty + 1 by omega]; rfl
          refine y_iload (pc := 91) hF dX10_hole_91 5 rfl ?_
          refine y_if_ne (pc := 93) hF dX10_hole_93 98 rfl (by omega) (fun zc93 => ?_) (fun zc93 => ?_)
          · skip
            refine y_aload_n (pc := 98) hF dX10_hole_98 0 rfl ?_
            refine y_get (pc := 99) (ci := 10) hF dX10_hole_99 (by omega) rfl rfl rfl iX10 4 (by decide) w_491 rfl ?_
            refine y_aload_n (pc := 102) hF dX10_hole_102 0 rfl ?_
            refine y_get (pc := 103) (ci := 10) hF dX10_hole_103 (by omega) rfl rfl rfl iX10 2 (by decide) w_489 rfl ?_
            refine y_aload_n (pc := 106) hF dX10_hole_106 0 rfl ?_
            refine y_get (pc := 107) (ci := 10) hF dX10_hole_107 (by omega) rfl rfl rfl iX10 3 (by decide) w_490 rfl ?_
            refine y_cv (y_rV (pc := 110) hF (tX1_prepare 5 11 w h T S F P O nf df nl lg pic_5 jou_11 hA hJ hn hd (H.length : Int) hd1 hd2 hdr hdl (by omega) (by omega)) dX10_hole_110 (by omega) rfl rfl rfl w_785 qX1_prepare rfl ⟨Nat.le_of_ble_eq_true rfl, Nat.le_of_ble_eq_true rfl⟩ ⟨Nat.le_of_ble_eq_true rfl, Nat.le_of_ble_eq_true rfl⟩ (Nat.le_of_ble_eq_true rfl) rfl) rfl rfl (fun n' σ110 zp110 => ?_)
            obtain ⟨zn110, zp110⟩ := zp110
            have zn110 := zn110.symm
            subst zn110
            have zVp := cV_prep hV hd1 hdr zp110.1
            have zA_σ110 := zVp.1.1
            have zd1 : σ110 13 1 = hd := by rw [zp110.1 13 (by omega)]; exact hd1
            have zd2 : σ110 13 2 = (H.length : Int) := by rw [zp110.1 13 (by omega)]; exact hd2
            refine y_aload_n (pc := 113) hF dX10_hole_113 0 rfl ?_
            refine y_get (pc := 114) (ci := 10) hF dX10_hole_114 (by omega) rfl rfl rfl iX10 4 (by decide) w_491 rfl ?_
            refine y_iload (pc := 117) hF dX10_hole_117 5 rfl ?_
            refine y_ci (y_rV (pc := 119) hF (tX1_commitIfAny hn hd (H.length : Int) zd1 zd2 hdr hdl c (by omega)) dX10_hole_119 (by omega) rfl rfl rfl w_789 qX1_commitIfAny rfl ⟨Nat.le_of_ble_eq_true rfl, Nat.le_of_ble_eq_true rfl⟩ ⟨Nat.le_of_ble_eq_true rfl, Nat.le_of_ble_eq_true rfl⟩ (Nat.le_of_ble_eq_true rfl) rfl) rfl rfl (fun r119 n' σ119 zp119 => ?_)
            obtain ⟨zn119, zv119, zp119⟩ := zp119
            have zn119 := zn119.symm
            subst zn119
            rw [zv119]
            rw [if_pos (show (0 : Int) < c by omega)] at zp119
            have zVq := cV_push zVp zd1 zp110.2 zp119
            have zA_σ119 := zVq.1.1.1
            have zJ9 := zVq.1.1.2
            refine y_pop (pc := 122) hF dX10_hole_122 rfl ?_
            refine y_iload_n (pc := 123) hF dX10_hole_123 2 rfl ?_
            refine y_istore (pc := 124) (lv' := [(0, yR g 0), (1, yI x), (2, yI y), (3, yI tx), (4, yI ty), (5, yI c), (6, yI y)]) hF dX10_hole_124 (by decide) rfl rfl ?_
            have zL126 : ∀ (N : Nat) (τ : yM) (j : Int), N = (ty + 1 - j).toNat → (fc 5 10 σ119 τ ∧ (y ≤ j ∧ j ≤ ty + 1) ∧ rC τ 5 w h (dHo (dR x y tx x j) (-1) T) (dHo (dR x y tx x j) 0 S) (dHo (dR x y tx x j) 0 F) (dHo (dR x y tx x j) (-1) P) (dHo (dR x y tx x j) (-1) O)) → yV X0 g 8 (yQX X0 g (SC g) (yPi (fun zv n' σ' => n ≤ n' ∧ ((sIn w h x y = true ∧ sIn w h tx ty = true) ∧ x ≤ tx ∧ y ≤ ty) ∧ zv = hC w h T x y tx ty ∧ cV σ' (if hC w h T x y tx ty = 0 then (w, h, (T, S, F, P, O, nf, df, nl, lg), (s, re, fo, ra, tu, we, sh), H, ht, K, tl, tb, fa, r1, r2) else (w, h, (dHo (dR x y tx x (ty + 1)) (-1) T, dHo (dR x y tx x (ty + 1)) 0 S, dHo (dR x y tx x (ty + 1)) 0 F, dHo (dR x y tx x (ty + 1)) (-1) P, dHo (dR x y tx x (ty + 1)) (-1) O, nf, df, nl, lg), (s, re, fo, ra, tu, we, sh), pH (T, S, F, P, O, nf, df, nl, lg) H, ht, K, tl, tb, fa, r1, r2)) ∧ cF σ σ')) (fun E n' σ' => n ≤ n' ∧ ((E = eN ∧ ¬ (sIn w h x y = true ∧ sIn w h tx ty = true) ∧ cV σ' (bN (w, h, (T, S, F, P, O, nf, df, nl, lg), (s, re, fo, ra, tu, we, sh), H, ht, K, tl, tb, fa, r1, r2))) ∨ (E = eA ∧ (sIn w h x y = true ∧ sIn w h tx ty = true) ∧ ¬ (x ≤ tx ∧ y ≤ ty) ∧ cV σ' (bA (w, h, (T, S, F, P, O, nf, df, nl, lg), (s, re, fo, ra, tu, we, sh), H, ht, K, tl, tb, fa, r1, r2)))) ∧ cF σ σ') (rmA 8 4 24)) (SC g) n τ (0 + 1 + 1 + 1) (0 + 6 + 6 + 6) 126 [(0, yR g 0), (1, yI x), (2, yI y), (3, yI tx), (4, yI ty), (5, yI c), (6, yI j)] [] := by
              intro N
              induction N using Nat.strongRecOn with
              | ind N zh126 =>
                intro τ  j  zN126 zI126
                refine y_iload (pc := 126) hF dX10_hole_126 6 rfl ?_
                refine y_iload (pc := 128) hF dX10_hole_128 4 rfl ?_
                refine y_icmp_gt (pc := 130) hF dX10_hole_130 173 rfl (by omega) (by omega) (fun zc130 => ?_) (fun zc130 => ?_)
                · skip
                  refine y_iload (pc := 173) hF dX10_hole_173 5 rfl ?_
                  exact y_retX (y_iret (pc := 175) hF dX10_hole_175 (Nat.le_of_ble_eq_true rfl) (Nat.le_of_ble_eq_true rfl) ⟨_, rfl, Nat.le_refl _, zok, zct, by rw [if_neg (by omega)]; have zq := zI126.2.2; rw [show j = ty + 1 by omega] at zq; exact cV_pic zVq.1 (fun c a b => zI126.1 c (by omega)) ⟨zq, zJ9.fr (zI126.1 11 (by omega)) (zI126.1 12 (by omega))⟩ (zVq.1.T.fr (zI126.1 127 (by omega))), ((zp110.1.cF (by omega)).tr zVq.2).tr (zI126.1.cF (by omega))⟩)
                · skip
                  refine y_iload_n (pc := 133) hF dX10_hole_133 1 rfl ?_
                  refine y_istore (pc := 134) (lv' := [(0, yR g 0), (1, yI x), (2, yI y), (3, yI tx), (4, yI ty), (5, yI c), (6, yI j), (7, yI x)]) hF dX10_hole_134 (by decide) rfl rfl ?_
                  have zL136 : ∀ (N : Nat) (υ : yM) (i : Int), N = (tx + 1 - i).toNat → (fc 5 10 σ119 υ ∧ (x ≤ i ∧ i ≤ tx + 1) ∧ rC υ 5 w h (dHo (dR x y tx i j) (-1) T) (dHo (dR x y tx i j) 0 S) (dHo (dR x y tx i j) 0 F) (dHo (dR x y tx i j) (-1) P) (dHo (dR x y tx i j) (-1) O)) → yV X0 g 8 (yQX X0 g (SC g) (yPi (fun zv n' σ' => n ≤ n' ∧ ((sIn w h x y = true ∧ sIn w h tx ty = true) ∧ x ≤ tx ∧ y ≤ ty) ∧ zv = hC w h T x y tx ty ∧ cV σ' (if hC w h T x y tx ty = 0 then (w, h, (T, S, F, P, O, nf, df, nl, lg), (s, re, fo, ra, tu, we, sh), H, ht, K, tl, tb, fa, r1, r2) else (w, h, (dHo (dR x y tx x (ty + 1)) (-1) T, dHo (dR x y tx x (ty + 1)) 0 S, dHo (dR x y tx x (ty + 1)) 0 F, dHo (dR x y tx x (ty + 1)) (-1) P, dHo (dR x y tx x (ty + 1)) (-1) O, nf, df, nl, lg), (s, re, fo, ra, tu, we, sh), pH (T, S, F, P, O, nf, df, nl, lg) H, ht, K, tl, tb, fa, r1, r2)) ∧ cF σ σ')) (fun E n' σ' => n ≤ n' ∧ ((E = eN ∧ ¬ (sIn w h x y = true ∧ sIn w h tx ty = true) ∧ cV σ' (bN (w, h, (T, S, F, P, O, nf, df, nl, lg), (s, re, fo, ra, tu, we, sh), H, ht, K, tl, tb, fa, r1, r2))) ∨ (E = eA ∧ (sIn w h x y = true ∧ sIn w h tx ty = true) ∧ ¬ (x ≤ tx ∧ y ≤ ty) ∧ cV σ' (bA (w, h, (T, S, F, P, O, nf, df, nl, lg), (s, re, fo, ra, tu, we, sh), H, ht, K, tl, tb, fa, r1, r2)))) ∧ cF σ σ') (rmA 8 4 24)) (SC g) n υ (0 + 1 + 1 + 1) (0 + 6 + 6 + 6) 136 [(0, yR g 0), (1, yI x), (2, yI y), (3, yI tx), (4, yI ty), (5, yI c), (6, yI j), (7, yI i)] [] := by
                    intro N
                    induction N using Nat.strongRecOn with
                    | ind N zh136 =>
                      intro υ  i  zN136 zI136
                      refine y_iload (pc := 136) hF dX10_hole_136 7 rfl ?_
                      refine y_iload_n (pc := 138) hF dX10_hole_138 3 rfl ?_
                      refine y_icmp_gt (pc := 139) hF dX10_hole_139 167 rfl (by omega) (by omega) (fun zc139 => ?_) (fun zc139 => ?_)
                      · skip
                        refine y_iinc (pc := 167) (lv' := [(0, yR g 0), (1, yI x), (2, yI y), (3, yI tx), (4, yI ty), (5, yI c), (6, yI (j + 1)), (7, yI i)]) hF dX10_hole_167 6 rfl (by decide) rfl rfl ?_
                        refine y_goto (pc := 170) hF dX10_hole_170 126 rfl ?_
                        refine y_sub [0, 1, 2, 3, 4, 5, 6] rfl ?_
                        exact zh126 _ (by omega) υ (j + 1) rfl ⟨zI136.1, by omega, by have zq := zI136.2.2; rw [dR_row (show i = tx + 1 by omega) zI126.2.1.1] at zq; exact zq⟩
                      · skip
                        have zin : sIn w h i j = true := sIn_iff.mpr (by omega)
                        have zx := y_ix (w := w) (h := h) (x := i) (y := j) ⟨hw1, hw2⟩ ⟨hw3, hw4⟩ (by omega) (by omega)
                        refine y_aload_n (pc := 142) hF dX10_hole_142 0 rfl ?_
                        refine y_get (pc := 143) (ci := 10) hF dX10_hole_143 (by omega) rfl rfl rfl iX10 2 (by decide) w_489 rfl ?_
                        refine y_aload_n (pc := 146) hF dX10_hole_146 0 rfl ?_
                        refine y_get (pc := 147) (ci := 10) hF dX10_hole_147 (by omega) rfl rfl rfl iX10 2 (by decide) w_489 rfl ?_
                        refine y_iload (pc := 150) hF dX10_hole_150 7 rfl ?_
                        refine y_iload (pc := 152) hF dX10_hole_152 6 rfl ?_
                        have zz154 := y_rV (pc := 154) hF (tX4_at (n := n) (σ := υ) 5 w h (dHo (dR x y tx i j) (-1) T) (dHo (dR x y tx i j) 0 S) (dHo (dR x y tx i j) 0 F) (dHo (dR x y tx i j) (-1) P) (dHo (dR x y tx i j) (-1) O) hn pic_5 zI136.2.2 i j) dX10_hole_154 (by have := pic_5.1; omega) (pic_5.2 g).1 rfl rfl w_794 qX4_at rfl ⟨Nat.le_of_ble_eq_true rfl, Nat.le_of_ble_eq_true rfl⟩ ⟨Nat.le_of_ble_eq_true rfl, Nat.le_of_ble_eq_true rfl⟩ (Nat.le_of_ble_eq_true rfl) rfl (rest := [yR g 5]) (cells := 0 + 1 + 1 + 1) (slots := 0 + 6 + 6 + 6) (lv := [(0, yR g 0), (1, yI x), (2, yI y), (3, yI tx), (4, yI ty), (5, yI c), (6, yI j), (7, yI i)])
                        refine y_cp (zz154) ?_
                        refine y_iconst (pc := 157) hF dX10_hole_157 ?_
                        refine y_cv (y_rV (pc := 158) hF (tX4_give 5 hn pic_5 (j * w + i) (-1) (by omega) (by omega)) dX10_hole_158 (by have := pic_5.1; omega) (pic_5.2 g).1 rfl rfl w_798 qX4_give rfl ⟨Nat.le_of_ble_eq_true rfl, Nat.le_of_ble_eq_true rfl⟩ ⟨Nat.le_of_ble_eq_true rfl, Nat.le_of_ble_eq_true rfl⟩ (Nat.le_of_ble_eq_true rfl) rfl) rfl rfl (fun n' σ' zp158 => ?_)
                        obtain ⟨zn158, rfl⟩ := zp158
                        have zn158 := zn158.symm
                        subst zn158
                        refine y_iinc (pc := 161) (lv' := [(0, yR g 0), (1, yI x), (2, yI y), (3, yI tx), (4, yI ty), (5, yI c), (6, yI j), (7, yI (i + 1))]) hF dX10_hole_161 7 rfl (by decide) rfl rfl ?_
                        refine y_goto (pc := 164) hF dX10_hole_164 136 rfl ?_
                        exact zh136 _ (by omega) (gv υ 5 (j * w + i) (-1)) (i + 1) rfl ⟨fun c a => by rw [show gv υ 5 (j * w + i) (-1) c = υ c from funext fun q => gv_o (by omega)]; exact zI136.1 c a, by omega, by have zq := rC_give (t := -1) zI136.2.2 zin (by omega); rw [if_pos rfl, dHo_up ⟨zI136.2.1.1, by omega⟩ zI126.2.1.1, dHo_up ⟨zI136.2.1.1, by omega⟩ zI126.2.1.1, dHo_up ⟨zI136.2.1.1, by omega⟩ zI126.2.1.1, dHo_up ⟨zI136.2.1.1, by omega⟩ zI126.2.1.1, dHo_up ⟨zI136.2.1.1, by omega⟩ zI126.2.1.1] at zq; exact zq⟩
                  exact zL136 _ τ (x) rfl ⟨zI126.1, by omega, zI126.2.2⟩
            exact zL126 _ σ119 (y) rfl ⟨fun c _ => rfl, by omega, by simp only [dR_0]; exact zA_σ119⟩
          · skip
            refine y_iconst (pc := 96) hF dX10_hole_96 ?_
            exact y_retX (y_iret (pc := 97) hF dX10_hole_97 (Nat.le_of_ble_eq_true rfl) (Nat.le_of_ble_eq_true rfl) ⟨_, rfl, Nat.le_refl _, zok, by rw [← zct]; omega, by rw [if_pos (by omega)]; exact hV, cF.rf σ⟩)
        · skip
          refine y_iload_n (pc := 46) hF dX10_hole_46 1 rfl ?_
          refine y_istore (pc := 47) (lv' := [(0, yR g 0), (1, yI x), (2, yI y), (3, yI tx), (4, yI ty), (5, yI c), (6, yI j), (7, yI x)]) hF dX10_hole_47 (by decide) rfl rfl ?_
          have zL49 : ∀ (N : Nat) (i c1 : Int), N = (tx + 1 - i).toNat → ((x ≤ i ∧ i ≤ tx + 1) ∧ (0 ≤ c1 ∧ c1 ≤ c + (i - x)) ∧ c1 = fr (fun c i => c + bi (sKn w h T i j)) x (i - x).toNat c) → yV X0 g 8 (yQX X0 g (SC g) (yPi (fun zv n' σ' => n ≤ n' ∧ ((sIn w h x y = true ∧ sIn w h tx ty = true) ∧ x ≤ tx ∧ y ≤ ty) ∧ zv = hC w h T x y tx ty ∧ cV σ' (if hC w h T x y tx ty = 0 then (w, h, (T, S, F, P, O, nf, df, nl, lg), (s, re, fo, ra, tu, we, sh), H, ht, K, tl, tb, fa, r1, r2) else (w, h, (dHo (dR x y tx x (ty + 1)) (-1) T, dHo (dR x y tx x (ty + 1)) 0 S, dHo (dR x y tx x (ty + 1)) 0 F, dHo (dR x y tx x (ty + 1)) (-1) P, dHo (dR x y tx x (ty + 1)) (-1) O, nf, df, nl, lg), (s, re, fo, ra, tu, we, sh), pH (T, S, F, P, O, nf, df, nl, lg) H, ht, K, tl, tb, fa, r1, r2)) ∧ cF σ σ')) (fun E n' σ' => n ≤ n' ∧ ((E = eN ∧ ¬ (sIn w h x y = true ∧ sIn w h tx ty = true) ∧ cV σ' (bN (w, h, (T, S, F, P, O, nf, df, nl, lg), (s, re, fo, ra, tu, we, sh), H, ht, K, tl, tb, fa, r1, r2))) ∨ (E = eA ∧ (sIn w h x y = true ∧ sIn w h tx ty = true) ∧ ¬ (x ≤ tx ∧ y ≤ ty) ∧ cV σ' (bA (w, h, (T, S, F, P, O, nf, df, nl, lg), (s, re, fo, ra, tu, we, sh), H, ht, K, tl, tb, fa, r1, r2)))) ∧ cF σ σ') (rmA 8 4 24)) (SC g) n σ (0 + 1 + 1 + 1) (0 + 6 + 6 + 6) 49 [(0, yR g 0), (1, yI x), (2, yI y), (3, yI tx), (4, yI ty), (5, yI c1), (6, yI j), (7, yI i)] [] := by
            intro N
            induction N using Nat.strongRecOn with
            | ind N zh49 =>
              intro i c1  zN49 zI49
              refine y_iload (pc := 49) hF dX10_hole_49 7 rfl ?_
              refine y_iload_n (pc := 51) hF dX10_hole_51 3 rfl ?_
              refine y_icmp_gt (pc := 52) hF dX10_hole_52 85 rfl (by omega) (by omega) (fun zc52 => ?_) (fun zc52 => ?_)
              · skip
                refine y_iinc (pc := 85) (lv' := [(0, yR g 0), (1, yI x), (2, yI y), (3, yI tx), (4, yI ty), (5, yI c1), (6, yI (j + 1)), (7, yI i)]) hF dX10_hole_85 6 rfl (by decide) rfl rfl ?_
                refine y_goto (pc := 88) hF dX10_hole_88 39 rfl ?_
                refine y_sub [0, 1, 2, 3, 4, 5, 6] rfl ?_
                exact zh39 _ (by omega) (j + 1) (c1) rfl ⟨by omega, by omega, by rw [fr_up' _ _ zI39.1.1, ← zI39.2.2, zI49.2.2, show i = tx + 1 by omega]⟩
              · skip
                refine y_iload (pc := 55) hF dX10_hole_55 5 rfl ?_
                refine y_aload_n (pc := 57) hF dX10_hole_57 0 rfl ?_
                refine y_get (pc := 58) (ci := 10) hF dX10_hole_58 (by omega) rfl rfl rfl iX10 2 (by decide) w_489 rfl ?_
                refine y_iload (pc := 61) hF dX10_hole_61 7 rfl ?_
                refine y_iload (pc := 63) hF dX10_hole_63 6 rfl ?_
                have zz65 := y_rV (pc := 65) hF (tX4_isKnown (n := n) (σ := σ) 5 w h T S F P O hn pic_5 hA i j (by omega) (by omega)) dX10_hole_65 (by have := pic_5.1; omega) (pic_5.2 g).1 rfl rfl w_780 qX4_isKnown rfl ⟨Nat.le_of_ble_eq_true rfl, Nat.le_of_ble_eq_true rfl⟩ ⟨Nat.le_of_ble_eq_true rfl, Nat.le_of_ble_eq_true rfl⟩ (Nat.le_of_ble_eq_true rfl) rfl (rest := [yI c1]) (cells := 0 + 1 + 1 + 1) (slots := 0 + 6 + 6 + 6) (lv := [(0, yR g 0), (1, yI x), (2, yI y), (3, yI tx), (4, yI ty), (5, yI c1), (6, yI j), (7, yI i)])
                refine y_cp (zz65) ?_
                refine y_t_if_eq (pc := 68) hF dX10_hole_68 dX10_hole_71 dX10_hole_72 dX10_hole_75 bi_r ?_
                rw [show (if (bi (sKn w h T i j)) = 0 then 0 else 1) = bi (sKn w h T i j) from bi_t]
                refine y_iadd (pc := 76) hF dX10_hole_76 ?_
                refine y_istore (pc := 77) (lv' := [(0, yR g 0), (1, yI x), (2, yI y), (3, yI tx), (4, yI ty), (5, yI (c1 + (bi (sKn w h T i j)))), (6, yI j), (7, yI i)]) hF dX10_hole_77 (by decide) rfl rfl ?_
                refine y_iinc (pc := 79) (lv' := [(0, yR g 0), (1, yI x), (2, yI y), (3, yI tx), (4, yI ty), (5, yI (c1 + (bi (sKn w h T i j)))), (6, yI j), (7, yI (i + 1))]) hF dX10_hole_79 7 rfl (by decide) rfl rfl ?_
                refine y_goto (pc := 82) hF dX10_hole_82 49 rfl ?_
                exact zh49 _ (by omega) (i + 1) (c1 + (bi (sKn w h T i j))) rfl ⟨by omega, by have := @bi_01 (sKn w h T i j); omega, by rw [fr_up' _ _ zI49.1.1, ← zI49.2.2]⟩
          exact zL49 _ (x) (c) rfl ⟨by omega, by omega, (fr_no _ _ _).symm⟩
    exact zL39 _ (y) (0) rfl ⟨by omega, by omega, (fr_no _ _ _).symm⟩
  refine y_aload_n (pc := 13) hF dX10_hole_13 0 rfl ?_
  refine y_iload_n (pc := 14) hF dX10_hole_14 3 rfl ?_
  refine y_iload_n (pc := 15) hF dX10_hole_15 1 rfl ?_
  refine y_icmp_lt (pc := 16) hF dX10_hole_16 29 rfl (by omega) (by omega) (fun zc16 => ?_) (fun zc16 => ?_)
  · skip
    refine y_iconst (pc := 29) hF dX10_hole_29 ?_
    exact zJ30 false (by simp; omega)
  · skip
    refine y_iload (pc := 19) hF dX10_hole_19 4 rfl ?_
    refine y_iload_n (pc := 21) hF dX10_hole_21 2 rfl ?_
    refine y_icmp_lt (pc := 22) hF dX10_hole_22 29 rfl (by omega) (by omega) (fun zc22 => ?_) (fun zc22 => ?_)
    · skip
      refine y_iconst (pc := 29) hF dX10_hole_29 ?_
      exact zJ30 false (by simp; omega)
    · skip
      refine y_iconst (pc := 25) hF dX10_hole_25 ?_
      refine y_goto (pc := 26) hF dX10_hole_26 30 rfl ?_
      exact zJ30 true (by simp; omega)
