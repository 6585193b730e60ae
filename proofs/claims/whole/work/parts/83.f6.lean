theorem dX10_set_0 : decode cX10_set 0 = .ok (.aload_n 0, 1) := by decide +kernel
theorem dX10_set_1 : decode cX10_set 1 = .ok (.aload_n 0, 1) := by decide +kernel
theorem dX10_set_2 : decode cX10_set 2 = .ok (.getfield 19, 3) := by decide +kernel
theorem dX10_set_5 : decode cX10_set 5 = .ok (.iload_n 1, 1) := by decide +kernel
theorem dX10_set_6 : decode cX10_set 6 = .ok (.iload_n 2, 1) := by decide +kernel
theorem dX10_set_7 : decode cX10_set 7 = .ok (.invokevirtual 145, 3) := by decide +kernel
theorem dX10_set_10 : decode cX10_set 10 = .ok (.invokevirtual 110, 3) := by decide +kernel
theorem dX10_set_13 : decode cX10_set 13 = .ok (.aload_n 0, 1) := by decide +kernel
theorem dX10_set_14 : decode cX10_set 14 = .ok (.getfield 19, 3) := by decide +kernel
theorem dX10_set_17 : decode cX10_set 17 = .ok (.iload_n 1, 1) := by decide +kernel
theorem dX10_set_18 : decode cX10_set 18 = .ok (.invokevirtual 149, 3) := by decide +kernel
theorem dX10_set_21 : decode cX10_set 21 = .ok (.istore_n 3, 1) := by decide +kernel
theorem dX10_set_22 : decode cX10_set 22 = .ok (.aload_n 0, 1) := by decide +kernel
theorem dX10_set_23 : decode cX10_set 23 = .ok (.getfield 19, 3) := by decide +kernel
theorem dX10_set_26 : decode cX10_set 26 = .ok (.iload_n 1, 1) := by decide +kernel
theorem dX10_set_27 : decode cX10_set 27 = .ok (.iload_n 2, 1) := by decide +kernel
theorem dX10_set_28 : decode cX10_set 28 = .ok (.invokevirtual 152, 3) := by decide +kernel
theorem dX10_set_31 : decode cX10_set 31 = .ok (.iload_n 3, 1) := by decide +kernel
theorem dX10_set_32 : decode cX10_set 32 = .ok (.ireturn, 1) := by decide +kernel
set_option maxHeartbeats 4000000 in
set_option maxRecDepth 100000 in
theorem tX10_set {l : Launch} {g : yG} {n : Nat} {σ : yM} (hlt : l.stackTraces = false) (hn : 172 ≤ n) (w h : Int) (T S F P O : Int → Int → Int) (nf df nl : Int) (lg : Int → Int → Int) (s re fo ra tu we sh : Int) (H : List aX) (ht : Bool) (K : Int → Int → Int) (tl : Int) (tb : Int → Int) (fa r1 r2 N : Int) (hV : cV σ (w, h, (T, S, F, P, O, nf, df, nl, lg), (s, re, fo, ra, tu, we, sh), H, ht, K, tl, tb, fa, r1, r2)) (hW : aW N (w, h, (T, S, F, P, O, nf, df, nl, lg), (s, re, fo, ra, tu, we, sh), H, ht, K, tl, tb, fa, r1, r2)) (a v : Int) (ha : -2147483648 ≤ a ∧ a < 2147483648) (hv : -2147483648 ≤ v ∧ v < 2147483648) : yMX l g yX10_set cX10_set 4 (some .int) (rmA 8 4 24) [yR g 0, yI a, yI v] (SC g) n σ (SC g) (yPi (fun zv n' σ' => n ≤ n' ∧ (sAl a v = true) ∧ zv = sV s re fo ra tu we sh a ∧ cV σ' (w, h, (T, S, F, P, O, nf, df, nl, lg), ((if a = 0 then v else s), (if a = 1 then v else re), (if a = 2 then v else fo), (if a = 3 then v else ra), (if a = 4 then v else tu), (if a = 5 then v else we), (if a = 6 then v else sh)), H, ht, K, tl, tb, fa, r1, r2) ∧ cF σ σ')) (fun E n' σ' => E = eA ∧ n ≤ n' ∧ ¬ (sAl a v = true) ∧ cV σ' (bA (w, h, (T, S, F, P, O, nf, df, nl, lg), (s, re, fo, ra, tu, we, sh), H, ht, K, tl, tb, fa, r1, r2)) ∧ cF σ σ') := by
  obtain ⟨⟨hA, hJ⟩, hS, hH, ⟨hb1, hb2⟩, ⟨ht1, ht2⟩, hfa, hr1, hr2, hT⟩ := id hV
  obtain ⟨hw1, hw2, hw3, hw4⟩ := id hA.1.1
  obtain ⟨hs1, hs2, hs3, hs4, hs5, hs6, hs7⟩ := id hS.2
  have z128 : 128 < n := by omega
  have z129 : 129 < n := by omega
  have z130 : 130 < n := by omega
  refine y_startX (by decide) (Nat.le_of_ble_eq_true rfl) (fun X0 hX => ?_)
  have hF := hX.1
  show yV X0 g 4 (yQX X0 g (SC g) (yPi (fun zv n' σ' => n ≤ n' ∧ (sAl a v = true) ∧ zv = sV s re fo ra tu we sh a ∧ cV σ' (w, h, (T, S, F, P, O, nf, df, nl, lg), ((if a = 0 then v else s), (if a = 1 then v else re), (if a = 2 then v else fo), (if a = 3 then v else ra), (if a = 4 then v else tu), (if a = 5 then v else we), (if a = 6 then v else sh)), H, ht, K, tl, tb, fa, r1, r2) ∧ cF σ σ')) (fun E n' σ' => E = eA ∧ n ≤ n' ∧ ¬ (sAl a v = true) ∧ cV σ' (bA (w, h, (T, S, F, P, O, nf, df, nl, lg), (s, re, fo, ra, tu, we, sh), H, ht, K, tl, tb, fa, r1, r2)) ∧ cF σ σ') (rmA 8 4 24)) (SC g) n σ 0 0 0 [(0, yR g 0), (1, yI a), (2, yI v)] []
  refine y_aload_n (pc := 0) hF dX10_set_0 0 rfl ?_
  refine y_aload_n (pc := 1) hF dX10_set_1 0 rfl ?_
  refine y_get (pc := 2) (ci := 10) hF dX10_set_2 (by omega) rfl rfl rfl iX10 1 (by decide) w_488 rfl ?_
  refine y_iload_n (pc := 5) hF dX10_set_5 1 rfl ?_
  refine y_iload_n (pc := 6) hF dX10_set_6 2 rfl ?_
  have zz7 := y_rV (pc := 7) hF (tX7_allows (n := n) (σ := σ) 4 a v ha hv) dX10_set_7 (by omega) rfl rfl rfl w_728 qX7_allows rfl ⟨Nat.le_of_ble_eq_true rfl, Nat.le_of_ble_eq_true rfl⟩ ⟨Nat.le_of_ble_eq_true rfl, Nat.le_of_ble_eq_true rfl⟩ (Nat.le_of_ble_eq_true rfl) rfl (rest := [yR g 0]) (cells := 0) (slots := 0) (lv := [(0, yR g 0), (1, yI a), (2, yI v)])
  refine y_cp (zz7) ?_
  refine y_contX (cells' := 0 + 1) (slots' := 0 + 6) hX (y_rVX (pc := 10) hX (tX10_demand hlt hn (sAl a v)) dX10_set_10 (by omega) rfl rfl rfl w_611 qX10_demand rfl ⟨Nat.le_of_ble_eq_true rfl, Nat.le_of_ble_eq_true rfl⟩ ⟨Nat.le_of_ble_eq_true rfl, Nat.le_of_ble_eq_true rfl⟩ (Nat.le_of_ble_eq_true rfl) rfl) rfl rfl ⟨Nat.le_of_ble_eq_true rfl, Nat.le_of_ble_eq_true rfl⟩ (fun E n' σ' zx => ⟨zx.1, zx.2.1, by rw [zx.2.2.1]; decide, by rw [zx.2.2.2]; exact hV.bA, by rw [zx.2.2.2]; exact cF_N⟩) (fun r10 n' σ10 zp10 => ?_)
  obtain ⟨zr10, zp10⟩ := zp10
  subst zr10
  obtain ⟨zn10, zs10, zb10⟩ := zp10
  have zs10 := zs10.symm
  subst zs10
  have zn10 := zn10.symm
  subst zn10
  skip
  show yV X0 g 4 (yQX X0 g (SC g) (yPi (fun zv n' σ' => n ≤ n' ∧ (sAl a v = true) ∧ zv = sV s re fo ra tu we sh a ∧ cV σ' (w, h, (T, S, F, P, O, nf, df, nl, lg), ((if a = 0 then v else s), (if a = 1 then v else re), (if a = 2 then v else fo), (if a = 3 then v else ra), (if a = 4 then v else tu), (if a = 5 then v else we), (if a = 6 then v else sh)), H, ht, K, tl, tb, fa, r1, r2) ∧ cF σ σ')) (fun E n' σ' => E = eA ∧ n ≤ n' ∧ ¬ (sAl a v = true) ∧ cV σ' (bA (w, h, (T, S, F, P, O, nf, df, nl, lg), (s, re, fo, ra, tu, we, sh), H, ht, K, tl, tb, fa, r1, r2)) ∧ cF σ σ') (rmA 8 4 24)) (SC g) n σ (0 + 1) (0 + 6) 13 [(0, yR g 0), (1, yI a), (2, yI v)] []
  have za : 0 ≤ a ∧ a < 7 := by have zq := zb10; simp only [sAl, Bool.and_eq_true, decide_eq_true_eq] at zq; omega
  refine y_aload_n (pc := 13) hF dX10_set_13 0 rfl ?_
  refine y_get (pc := 14) (ci := 10) hF dX10_set_14 (by omega) rfl rfl rfl iX10 1 (by decide) w_488 rfl ?_
  refine y_iload_n (pc := 17) hF dX10_set_17 1 rfl ?_
  have zz18 := y_rV (pc := 18) hF (tX7_value (n := n) (σ := σ) 4 s re fo ra tu we sh hn set_4 hS a za) dX10_set_18 (by omega) rfl rfl rfl w_736 qX7_value rfl ⟨Nat.le_of_ble_eq_true rfl, Nat.le_of_ble_eq_true rfl⟩ ⟨Nat.le_of_ble_eq_true rfl, Nat.le_of_ble_eq_true rfl⟩ (Nat.le_of_ble_eq_true rfl) rfl (rest := []) (cells := 0 + 1) (slots := 0 + 6) (lv := [(0, yR g 0), (1, yI a), (2, yI v)])
  refine y_cp (zz18) ?_
  refine y_istore_n (pc := 21) (lv' := [(0, yR g 0), (1, yI a), (2, yI v), (3, yI (sV s re fo ra tu we sh a))]) hF dX10_set_21 (by decide) rfl rfl ?_
  refine y_aload_n (pc := 22) hF dX10_set_22 0 rfl ?_
  refine y_get (pc := 23) (ci := 10) hF dX10_set_23 (by omega) rfl rfl rfl iX10 1 (by decide) w_488 rfl ?_
  refine y_iload_n (pc := 26) hF dX10_set_26 1 rfl ?_
  refine y_iload_n (pc := 27) hF dX10_set_27 2 rfl ?_
  refine y_cv (y_rV (pc := 28) hF (tX7_change 4 hn set_4 a v za) dX10_set_28 (by omega) rfl rfl rfl w_740 qX7_change rfl ⟨Nat.le_of_ble_eq_true rfl, Nat.le_of_ble_eq_true rfl⟩ ⟨Nat.le_of_ble_eq_true rfl, Nat.le_of_ble_eq_true rfl⟩ (Nat.le_of_ble_eq_true rfl) rfl) rfl rfl (fun n' σ' zp28 => ?_)
  obtain ⟨zn28, rfl⟩ := zp28
  have zn28 := zn28.symm
  subst zn28
  refine y_iload_n (pc := 31) hF dX10_set_31 3 rfl ?_
  exact y_retX (y_iret (pc := 32) hF dX10_set_32 (Nat.le_of_ble_eq_true rfl) (Nat.le_of_ble_eq_true rfl) ⟨_, rfl, Nat.le_refl _, zb10, rfl, cV_set hV zb10, fun c hc => yset_n (by omega)⟩)

theorem dX10_paint_0 : decode cX10_paint 0 = .ok (.aload_n 0, 1) := by decide +kernel
theorem dX10_paint_1 : decode cX10_paint 1 = .ok (.iload_n 1, 1) := by decide +kernel
theorem dX10_paint_2 : decode cX10_paint 2 = .ok (.iload_n 2, 1) := by decide +kernel
theorem dX10_paint_3 : decode cX10_paint 3 = .ok (.invokevirtual 156, 3) := by decide +kernel
theorem dX10_paint_6 : decode cX10_paint 6 = .ok (.aload_n 0, 1) := by decide +kernel
theorem dX10_paint_7 : decode cX10_paint 7 = .ok (.iload_n 3, 1) := by decide +kernel
theorem dX10_paint_8 : decode cX10_paint 8 = .ok (.ifCond .lt 14, 3) := by decide +kernel
theorem dX10_paint_11 : decode cX10_paint 11 = .ok (.iload_n 3, 1) := by decide +kernel
theorem dX10_paint_12 : decode cX10_paint 12 = .ok (.sipush 255, 3) := by decide +kernel
theorem dX10_paint_15 : decode cX10_paint 15 = .ok (.if_icmp .gt 7, 3) := by decide +kernel
theorem dX10_paint_18 : decode cX10_paint 18 = .ok (.iconst 1, 1) := by decide +kernel
theorem dX10_paint_19 : decode cX10_paint 19 = .ok (.goto 4, 3) := by decide +kernel
theorem dX10_paint_22 : decode cX10_paint 22 = .ok (.iconst 0, 1) := by decide +kernel
theorem dX10_paint_23 : decode cX10_paint 23 = .ok (.invokevirtual 110, 3) := by decide +kernel
theorem dX10_paint_26 : decode cX10_paint 26 = .ok (.aload_n 0, 1) := by decide +kernel
theorem dX10_paint_27 : decode cX10_paint 27 = .ok (.getfield 26, 3) := by decide +kernel
theorem dX10_paint_30 : decode cX10_paint 30 = .ok (.iload_n 1, 1) := by decide +kernel
theorem dX10_paint_31 : decode cX10_paint 31 = .ok (.iload_n 2, 1) := by decide +kernel
theorem dX10_paint_32 : decode cX10_paint 32 = .ok (.invokevirtual 169, 3) := by decide +kernel
theorem dX10_paint_35 : decode cX10_paint 35 = .ok (.istore 4, 2) := by decide +kernel
theorem dX10_paint_37 : decode cX10_paint 37 = .ok (.aload_n 0, 1) := by decide +kernel
theorem dX10_paint_38 : decode cX10_paint 38 = .ok (.getfield 26, 3) := by decide +kernel
theorem dX10_paint_41 : decode cX10_paint 41 = .ok (.getfield 176, 3) := by decide +kernel
theorem dX10_paint_44 : decode cX10_paint 44 = .ok (.iload 4, 2) := by decide +kernel
theorem dX10_paint_46 : decode cX10_paint 46 = .ok (.iaload, 1) := by decide +kernel
theorem dX10_paint_47 : decode cX10_paint 47 = .ok (.istore 5, 2) := by decide +kernel
theorem dX10_paint_49 : decode cX10_paint 49 = .ok (.aload_n 0, 1) := by decide +kernel
theorem dX10_paint_50 : decode cX10_paint 50 = .ok (.getfield 40, 3) := by decide +kernel
theorem dX10_paint_53 : decode cX10_paint 53 = .ok (.aload_n 0, 1) := by decide +kernel
theorem dX10_paint_54 : decode cX10_paint 54 = .ok (.getfield 26, 3) := by decide +kernel
theorem dX10_paint_57 : decode cX10_paint 57 = .ok (.aload_n 0, 1) := by decide +kernel
theorem dX10_paint_58 : decode cX10_paint 58 = .ok (.getfield 33, 3) := by decide +kernel
theorem dX10_paint_61 : decode cX10_paint 61 = .ok (.invokevirtual 162, 3) := by decide +kernel
theorem dX10_paint_64 : decode cX10_paint 64 = .ok (.aload_n 0, 1) := by decide +kernel
theorem dX10_paint_65 : decode cX10_paint 65 = .ok (.getfield 40, 3) := by decide +kernel
theorem dX10_paint_68 : decode cX10_paint 68 = .ok (.iconst 1, 1) := by decide +kernel
theorem dX10_paint_69 : decode cX10_paint 69 = .ok (.invokevirtual 166, 3) := by decide +kernel
theorem dX10_paint_72 : decode cX10_paint 72 = .ok (.pop, 1) := by decide +kernel
theorem dX10_paint_73 : decode cX10_paint 73 = .ok (.aload_n 0, 1) := by decide +kernel
theorem dX10_paint_74 : decode cX10_paint 74 = .ok (.getfield 26, 3) := by decide +kernel
theorem dX10_paint_77 : decode cX10_paint 77 = .ok (.iload 4, 2) := by decide +kernel
theorem dX10_paint_79 : decode cX10_paint 79 = .ok (.iload_n 3, 1) := by decide +kernel
theorem dX10_paint_80 : decode cX10_paint 80 = .ok (.invokevirtual 173, 3) := by decide +kernel
theorem dX10_paint_83 : decode cX10_paint 83 = .ok (.iload 5, 2) := by decide +kernel
theorem dX10_paint_85 : decode cX10_paint 85 = .ok (.ireturn, 1) := by decide +kernel
set_option maxHeartbeats 4000000 in
set_option maxRecDepth 100000 in
theorem tX10_paint {l : Launch} {g : yG} {n : Nat} {σ : yM} (hlt : l.stackTraces = false) (hn : 172 ≤ n) (w h : Int) (T S F P O : Int → Int → Int) (nf df nl : Int) (lg : Int → Int → Int) (s re fo ra tu we sh : Int) (H : List aX) (ht : Bool) (K : Int → Int → Int) (tl : Int) (tb : Int → Int) (fa r1 r2 N : Int) (hV : cV σ (w, h, (T, S, F, P, O, nf, df, nl, lg), (s, re, fo, ra, tu, we, sh), H, ht, K, tl, tb, fa, r1, r2)) (hW : aW N (w, h, (T, S, F, P, O, nf, df, nl, lg), (s, re, fo, ra, tu, we, sh), H, ht, K, tl, tb, fa, r1, r2)) (x y e_ : Int) (hx : -2147483648 ≤ x ∧ x < 2147483648) (hy : -2147483648 ≤ y ∧ y < 2147483648) (he_ : -2147483648 ≤ e_ ∧ e_ < 2147483648) : yMX l g yX10_paint cX10_paint 6 (some .int) (rmA 8 4 24) [yR g 0, yI x, yI y, yI e_] (SC g) n σ (SC g) (yPi (fun zv n' σ' => n ≤ n' ∧ ((sIn w h x y = true) ∧ 0 ≤ e_ ∧ e_ ≤ 255) ∧ zv = T x y ∧ cV σ' (w, h, (lup T x y e_, lup S x y (if e_ = -1 then 0 else 1000), lup F x y 0, lup P x y (-1), lup O x y (-1), nf, df, nl, lg), (s, re, fo, ra, tu, we, sh), pH (T, S, F, P, O, nf, df, nl, lg) H, ht, K, tl, tb, fa, r1, r2) ∧ cF σ σ')) (fun E n' σ' => n ≤ n' ∧ ((E = eN ∧ ¬ (sIn w h x y = true) ∧ cV σ' (bN (w, h, (T, S, F, P, O, nf, df, nl, lg), (s, re, fo, ra, tu, we, sh), H, ht, K, tl, tb, fa, r1, r2))) ∨ (E = eA ∧ (sIn w h x y = true) ∧ ¬ (0 ≤ e_ ∧ e_ ≤ 255) ∧ cV σ' (bA (w, h, (T, S, F, P, O, nf, df, nl, lg), (s, re, fo, ra, tu, we, sh), H, ht, K, tl, tb, fa, r1, r2)))) ∧ cF σ σ') := by
  obtain ⟨⟨hA, hJ⟩, hS, hH, ⟨hb1, hb2⟩, ⟨ht1, ht2⟩, hfa, hr1, hr2, hT⟩ := id hV
  obtain ⟨hw1, hw2, hw3, hw4⟩ := id hA.1.1
  obtain ⟨hs1, hs2, hs3, hs4, hs5, hs6, hs7⟩ := id hS.2
  have z128 : 128 < n := by omega
  have z129 : 129 < n := by omega
  have z130 : 130 < n := by omega
  obtain ⟨hd, hd1, hdr, hd2, hd3, hd4⟩ := id hH
  have hdl : 0 ≤ (H.length : Int) ∧ (H.length : Int) ≤ 10 := by omega
  refine y_startX (by decide) (Nat.le_of_ble_eq_true rfl) (fun X0 hX => ?_)
  have hF := hX.1
  show yV X0 g 6 (yQX X0 g (SC g) (yPi (fun zv n' σ' => n ≤ n' ∧ ((sIn w h x y = true) ∧ 0 ≤ e_ ∧ e_ ≤ 255) ∧ zv = T x y ∧ cV σ' (w, h, (lup T x y e_, lup S x y (if e_ = -1 then 0 else 1000), lup F x y 0, lup P x y (-1), lup O x y (-1), nf, df, nl, lg), (s, re, fo, ra, tu, we, sh), pH (T, S, F, P, O, nf, df, nl, lg) H, ht, K, tl, tb, fa, r1, r2) ∧ cF σ σ')) (fun E n' σ' => n ≤ n' ∧ ((E = eN ∧ ¬ (sIn w h x y = true) ∧ cV σ' (bN (w, h, (T, S, F, P, O, nf, df, nl, lg), (s, re, fo, ra, tu, we, sh), H, ht, K, tl, tb, fa, r1, r2))) ∨ (E = eA ∧ (sIn w h x y = true) ∧ ¬ (0 ≤ e_ ∧ e_ ≤ 255) ∧ cV σ' (bA (w, h, (T, S, F, P, O, nf, df, nl, lg), (s, re, fo, ra, tu, we, sh), H, ht, K, tl, tb, fa, r1, r2)))) ∧ cF σ σ') (rmA 8 4 24)) (SC g) n σ 0 0 0 [(0, yR g 0), (1, yI x), (2, yI y), (3, yI e_)] []
  refine y_aload_n (pc := 0) hF dX10_paint_0 0 rfl ?_
  refine y_iload_n (pc := 1) hF dX10_paint_1 1 rfl ?_
  refine y_iload_n (pc := 2) hF dX10_paint_2 2 rfl ?_
  refine y_contX (cells' := 0 + 1) (slots' := 0 + 6) hX (y_rVX (pc := 3) hX (tX10_demandDot hlt hn w h T S F P O hA x y (by omega) (by omega)) dX10_paint_3 (by omega) rfl rfl rfl w_752 qX10_demandDot rfl ⟨Nat.le_of_ble_eq_true rfl, Nat.le_of_ble_eq_true rfl⟩ ⟨Nat.le_of_ble_eq_true rfl, Nat.le_of_ble_eq_true rfl⟩ (Nat.le_of_ble_eq_true rfl) rfl) rfl rfl ⟨Nat.le_of_ble_eq_true rfl, Nat.le_of_ble_eq_true rfl⟩ (fun E n' σ' zx => ⟨zx.2.1, Or.inl ⟨zx.1, by rw [zx.2.2.1]; decide, by rw [zx.2.2.2]; exact hV.bN⟩, by rw [zx.2.2.2]; exact cF_N⟩) (fun r3 n' σ3 zp3 => ?_)
  obtain ⟨zr3, zp3⟩ := zp3
  subst zr3
  obtain ⟨zn3, zs3, zb3⟩ := zp3
  have zs3 := zs3.symm
  subst zs3
  have zn3 := zn3.symm
  subst zn3
  skip
  show yV X0 g 6 (yQX X0 g (SC g) (yPi (fun zv n' σ' => n ≤ n' ∧ ((sIn w h x y = true) ∧ 0 ≤ e_ ∧ e_ ≤ 255) ∧ zv = T x y ∧ cV σ' (w, h, (lup T x y e_, lup S x y (if e_ = -1 then 0 else 1000), lup F x y 0, lup P x y (-1), lup O x y (-1), nf, df, nl, lg), (s, re, fo, ra, tu, we, sh), pH (T, S, F, P, O, nf, df, nl, lg) H, ht, K, tl, tb, fa, r1, r2) ∧ cF σ σ')) (fun E n' σ' => n ≤ n' ∧ ((E = eN ∧ ¬ (sIn w h x y = true) ∧ cV σ' (bN (w, h, (T, S, F, P, O, nf, df, nl, lg), (s, re, fo, ra, tu, we, sh), H, ht, K, tl, tb, fa, r1, r2))) ∨ (E = eA ∧ (sIn w h x y = true) ∧ ¬ (0 ≤ e_ ∧ e_ ≤ 255) ∧ cV σ' (bA (w, h, (T, S, F, P, O, nf, df, nl, lg), (s, re, fo, ra, tu, we, sh), H, ht, K, tl, tb, fa, r1, r2)))) ∧ cF σ σ') (rmA 8 4 24)) (SC g) n σ (0 + 1) (0 + 6) 6 [(0, yR g 0), (1, yI x), (2, yI y), (3, yI e_)] []
  have zJ23 : ∀ (zb : Bool), (zb = decide (0 ≤ e_ ∧ e_ ≤ 255)) → yV X0 g 6 (yQX X0 g (SC g) (yPi (fun zv n' σ' => n ≤ n' ∧ ((sIn w h x y = true) ∧ 0 ≤ e_ ∧ e_ ≤ 255) ∧ zv = T x y ∧ cV σ' (w, h, (lup T x y e_, lup S x y (if e_ = -1 then 0 else 1000), lup F x y 0, lup P x y (-1), lup O x y (-1), nf, df, nl, lg), (s, re, fo, ra, tu, we, sh), pH (T, S, F, P, O, nf, df, nl, lg) H, ht, K, tl, tb, fa, r1, r2) ∧ cF σ σ')) (fun E n' σ' => n ≤ n' ∧ ((E = eN ∧ ¬ (sIn w h x y = true) ∧ cV σ' (bN (w, h, (T, S, F, P, O, nf, df, nl, lg), (s, re, fo, ra, tu, we, sh), H, ht, K, tl, tb, fa, r1, r2))) ∨ (E = eA ∧ (sIn w h x y = true) ∧ ¬ (0 ≤ e_ ∧ e_ ≤ 255) ∧ cV σ' (bA (w, h, (T, S, F, P, O, nf, df, nl, lg), (s, re, fo, ra, tu, we, sh), H, ht, K, tl, tb, fa, r1, r2)))) ∧ cF σ σ') (rmA 8 4 24)) (SC g) n σ (0 + 1) (0 + 6) 23 [(0, yR g 0), (1, yI x), (2, yI y), (3, yI e_)] [yI (bi zb), yR g 0] := by
    intro zb  zhb
    refine y_contX (cells' := 0 + 1 + 1) (slots' := 0 + 6 + 6) hX (y_rVX (pc := 23) hX (tX10_demand hlt hn zb) dX10_paint_23 (by omega) rfl rfl rfl w_611 qX10_demand rfl ⟨Nat.le_of_ble_eq_true rfl, Nat.le_of_ble_eq_true rfl⟩ ⟨Nat.le_of_ble_eq_true rfl, Nat.le_of_ble_eq_true rfl⟩ (Nat.le_of_ble_eq_true rfl) rfl) rfl rfl ⟨Nat.le_of_ble_eq_true rfl, Nat.le_of_ble_eq_true rfl⟩ (fun E n' σ' zx => ⟨zx.2.1, Or.inr ⟨zx.1, zb3, by have zq := zx.2.2.1; rw [zhb] at zq; simpa using zq, by rw [zx.2.2.2]; exact hV.bA⟩, by rw [zx.2.2.2]; exact cF_N⟩) (fun r23 n' σ23 zp23 => ?_)
    obtain ⟨zr23, zp23⟩ := zp23
    subst zr23
    obtain ⟨zn23, zs23, zb23⟩ := zp23
    have zs23 := zs23.symm
    subst zs23
    have zn23 := zn23.symm
    subst zn23
    skip
    show yV X0 g 6 (yQX X0 g (SC g) (yPi (fun zv n' σ' => n ≤ n' ∧ ((sIn w h x y = true) ∧ 0 ≤ e_ ∧ e_ ≤ 255) ∧ zv = T x y ∧ cV σ' (w, h, (lup T x y e_, lup S x y (if e_ = -1 then 0 else 1000), lup F x y 0, lup P x y (-1), lup O x y (-1), nf, df, nl, lg), (s, re, fo, ra, tu, we, sh), pH (T, S, F, P, O, nf, df, nl, lg) H, ht, K, tl, tb, fa, r1, r2) ∧ cF σ σ')) (fun E n' σ' => n ≤ n' ∧ ((E = eN ∧ ¬ (sIn w h x y = true) ∧ cV σ' (bN (w, h, (T, S, F, P, O, nf, df, nl, lg), (s, re, fo, ra, tu, we, sh), H, ht, K, tl, tb, fa, r1, r2))) ∨ (E = eA ∧ (sIn w h x y = true) ∧ ¬ (0 ≤ e_ ∧ e_ ≤ 255) ∧ cV σ' (bA (w, h, (T, S, F, P, O, nf, df, nl, lg), (s, re, fo, ra, tu, we, sh), H, ht, K, tl, tb, fa, r1, r2)))) ∧ cF σ σ') (rmA 8 4 24)) (SC g) n σ (0 + 1 + 1) (0 + 6 + 6) 26 [(0, yR g 0), (1, yI x), (2, yI y), (3, yI e_)] []
    have zok : (sIn w h x y = true) ∧ 0 ≤ e_ ∧ e_ ≤ 255 := ⟨zb3, by have zq := zb23; rw [zhb] at zq; simpa using zq⟩
    have zi := sIn_iff.mp zb3
    have zx := y_ix (w := w) (h := h) (x := x) (y := y) ⟨hw1, hw2⟩ ⟨hw3, hw4⟩ (by omega) (by omega)
    refine y_aload_n (pc := 26) hF dX10_paint_26 0 rfl ?_
    refine y_get (pc := 27) (ci := 10) hF dX10_paint_27 (by omega) rfl rfl rfl iX10 2 (by decide) w_489 rfl ?_
    refine y_iload_n (pc := 30) hF dX10_paint_30 1 rfl ?_
    refine y_iload_n (pc := 31) hF dX10_paint_31 2 rfl ?_
    have zz32 := y_rV (pc := 32) hF (tX4_at (n := n) (σ := σ) 5 w h T S F P O hn pic_5 hA x y) dX10_paint_32 (by have := pic_5.1; omega) (pic_5.2 g).1 rfl rfl w_794 qX4_at rfl ⟨Nat.le_of_ble_eq_true rfl, Nat.le_of_ble_eq_true rfl⟩ ⟨Nat.le_of_ble_eq_true rfl, Nat.le_of_ble_eq_true rfl⟩ (Nat.le_of_ble_eq_true rfl) rfl (rest := []) (cells := 0 + 1 + 1) (slots := 0 + 6 + 6) (lv := [(0, yR g 0), (1, yI x), (2, yI y), (3, yI e_)])
    refine y_cp (zz32) ?_
    refine y_istore (pc := 35) (lv' := [(0, yR g 0), (1, yI x), (2, yI y), (3, yI e_), (4, yI (y * w + x))]) hF dX10_paint_35 (by decide) rfl rfl ?_
    refine y_aload_n (pc := 37) hF dX10_paint_37 0 rfl ?_
    refine y_get (pc := 38) (ci := 10) hF dX10_paint_38 (by omega) rfl rfl rfl iX10 2 (by decide) w_489 rfl ?_
    refine y_getN (pc := 41) (ci := 4) hF dX10_paint_41 (by have := pic_5.1; omega) (pic_5.2 g).1 rfl rfl iX4 2 (by decide) w_223 rfl ?_
    refine y_iload (pc := 44) hF dX10_paint_44 4 rfl ?_
    refine y_iaload (pc := 46) hF dX10_paint_46 (by have := pic_5.1; omega) (pic_5.2 g).2.1 ⟨by omega, by show _ < (400 : Int); omega⟩ (by decide) ?_
    rw [show σ (5 + 1) (y * w + x) = T x y from (hA.2.2.2 x y zi.1 zi.2.1 zi.2.2.1 zi.2.2.2).1]
    refine y_istore (pc := 47) (lv' := [(0, yR g 0), (1, yI x), (2, yI y), (3, yI e_), (4, yI (y * w + x)), (5, yI (T x y))]) hF dX10_paint_47 (by decide) rfl rfl ?_
    refine y_aload_n (pc := 49) hF dX10_paint_49 0 rfl ?_
    refine y_get (pc := 50) (ci := 10) hF dX10_paint_50 (by omega) rfl rfl rfl iX10 4 (by decide) w_491 rfl ?_
    refine y_aload_n (pc := 53) hF dX10_paint_53 0 rfl ?_
    refine y_get (pc := 54) (ci := 10) hF dX10_paint_54 (by omega) rfl rfl rfl iX10 2 (by decide) w_489 rfl ?_
    refine y_aload_n (pc := 57) hF dX10_paint_57 0 rfl ?_
    refine y_get (pc := 58) (ci := 10) hF dX10_paint_58 (by omega) rfl rfl rfl iX10 3 (by decide) w_490 rfl ?_
    refine y_cv (y_rV (pc := 61) hF (tX1_prepare 5 11 w h T S F P O nf df nl lg pic_5 jou_11 hA hJ hn hd (H.length : Int) hd1 hd2 hdr hdl (by omega) (by omega)) dX10_paint_61 (by omega) rfl rfl rfl w_785 qX1_prepare rfl ⟨Nat.le_of_ble_eq_true rfl, Nat.le_of_ble_eq_true rfl⟩ ⟨Nat.le_of_ble_eq_true rfl, Nat.le_of_ble_eq_true rfl⟩ (Nat.le_of_ble_eq_true rfl) rfl) rfl rfl (fun n' σ61 zp61 => ?_)
    obtain ⟨zn61, zp61⟩ := zp61
    have zn61 := zn61.symm
    subst zn61
    have zVp := cV_prep hV hd1 hdr zp61.1
    have zA_σ61 := zVp.1.1
    have zd1 : σ61 13 1 = hd := by rw [zp61.1 13 (by omega)]; exact hd1
    have zd2 : σ61 13 2 = (H.length : Int) := by rw [zp61.1 13 (by omega)]; exact hd2
    refine y_aload_n (pc := 64) hF dX10_paint_64 0 rfl ?_
    refine y_get (pc := 65) (ci := 10) hF dX10_paint_65 (by omega) rfl rfl rfl iX10 4 (by decide) w_491 rfl ?_
    refine y_iconst (pc := 68) hF dX10_paint_68 ?_
    refine y_ci (y_rV (pc := 69) hF (tX1_commitIfAny hn hd (H.length : Int) zd1 zd2 hdr hdl 1 (by decide)) dX10_paint_69 (by omega) rfl rfl rfl w_789 qX1_commitIfAny rfl ⟨Nat.le_of_ble_eq_true rfl, Nat.le_of_ble_eq_true rfl⟩ ⟨Nat.le_of_ble_eq_true rfl, Nat.le_of_ble_eq_true rfl⟩ (Nat.le_of_ble_eq_true rfl) rfl) rfl rfl (fun r69 n' σ69 zp69 => ?_)
    obtain ⟨zn69, zv69, zp69⟩ := zp69
    have zn69 := zn69.symm
    subst zn69
    subst zv69
    have zVq := cV_push zVp zd1 zp61.2 zp69
    have zA_σ69 := zVq.1.1.1
    refine y_pop (pc := 72) hF dX10_paint_72 rfl ?_
    have zJ69 := zVq.1.1.2
    refine y_aload_n (pc := 73) hF dX10_paint_73 0 rfl ?_
    refine y_get (pc := 74) (ci := 10) hF dX10_paint_74 (by omega) rfl rfl rfl iX10 2 (by decide) w_489 rfl ?_
    refine y_iload (pc := 77) hF dX10_paint_77 4 rfl ?_
    refine y_iload_n (pc := 79) hF dX10_paint_79 3 rfl ?_
    refine y_cv (y_rV (pc := 80) hF (tX4_give 5 hn pic_5 (y * w + x) e_ (by omega) (by omega)) dX10_paint_80 (by have := pic_5.1; omega) (pic_5.2 g).1 rfl rfl w_798 qX4_give rfl ⟨Nat.le_of_ble_eq_true rfl, Nat.le_of_ble_eq_true rfl⟩ ⟨Nat.le_of_ble_eq_true rfl, Nat.le_of_ble_eq_true rfl⟩ (Nat.le_of_ble_eq_true rfl) rfl) rfl rfl (fun n' σ' zp80 => ?_)
    obtain ⟨zn80, rfl⟩ := zp80
    have zn80 := zn80.symm
    subst zn80
    refine y_iload (pc := 83) hF dX10_paint_83 5 rfl ?_
    exact y_retX (y_iret (pc := 85) hF dX10_paint_85 (Nat.le_of_ble_eq_true rfl) (Nat.le_of_ble_eq_true rfl) ⟨_, rfl, Nat.le_refl _, zok, rfl, cV_pic zVq.1 (fun c a b => funext fun j => gv_o (by omega)) ⟨rC_give zA_σ69 zb3 (by omega), zJ69.fr (funext fun j => gv_o (by omega)) (funext fun j => gv_o (by omega))⟩ (zVq.1.T.fr (funext fun j => gv_o (by omega))), ((zp61.1.cF (by omega)).tr zVq.2).tr (fun c a => funext fun j => gv_o (by omega))⟩)
  refine y_aload_n (pc := 6) hF dX10_paint_6 0 rfl ?_
  refine y_iload_n (pc := 7) hF dX10_paint_7 3 rfl ?_
  refine y_if_lt (pc := 8) hF dX10_paint_8 22 rfl (by omega) (fun zc8 => ?_) (fun zc8 => ?_)
  · skip
    refine y_iconst (pc := 22) hF dX10_paint_22 ?_
    exact zJ23 false (by simp; omega)
  · skip
    refine y_iload_n (pc := 11) hF dX10_paint_11 3 rfl ?_
    refine y_sipush (pc := 12) hF dX10_paint_12 (by decide) ?_
    refine y_icmp_gt (pc := 15) hF dX10_paint_15 22 rfl (by omega) (by omega) (fun zc15 => ?_) (fun zc15 => ?_)
    · skip
      refine y_iconst (pc := 22) hF dX10_paint_22 ?_
      exact zJ23 false (by simp; omega)
    · skip
      refine y_iconst (pc := 18) hF dX10_paint_18 ?_
      refine y_goto (pc := 19) hF dX10_paint_19 23 rfl ?_
      exact zJ23 true (by simp; omega)

theorem dX10_keep_0 : decode cX10_keep 0 = .ok (.aload_n 0, 1) := by decide +kernel
theorem dX10_keep_1 : decode cX10_keep 1 = .ok (.getfield 44, 3) := by decide +kernel
theorem dX10_keep_4 : decode cX10_keep 4 = .ok (.aload_n 0, 1) := by decide +kernel
theorem dX10_keep_5 : decode cX10_keep 5 = .ok (.getfield 26, 3) := by decide +kernel
theorem dX10_keep_8 : decode cX10_keep 8 = .ok (.invokevirtual 177, 3) := by decide +kernel
theorem dX10_keep_11 : decode cX10_keep 11 = .ok (.aload_n 0, 1) := by decide +kernel
theorem dX10_keep_12 : decode cX10_keep 12 = .ok (.iconst 1, 1) := by decide +kernel
theorem dX10_keep_13 : decode cX10_keep 13 = .ok (.putfield 47, 3) := by decide +kernel
theorem dX10_keep_16 : decode cX10_keep 16 = .ok (.aload_n 0, 1) := by decide +kernel
theorem dX10_keep_17 : decode cX10_keep 17 = .ok (.getfield 26, 3) := by decide +kernel
theorem dX10_keep_20 : decode cX10_keep 20 = .ok (.invokevirtual 181, 3) := by decide +kernel
theorem dX10_keep_23 : decode cX10_keep 23 = .ok (.aload_n 0, 1) := by decide +kernel
theorem dX10_keep_24 : decode cX10_keep 24 = .ok (.getfield 26, 3) := by decide +kernel
theorem dX10_keep_27 : decode cX10_keep 27 = .ok (.invokevirtual 138, 3) := by decide +kernel
theorem dX10_keep_30 : decode cX10_keep 30 = .ok (.isub, 1) := by decide +kernel
theorem dX10_keep_31 : decode cX10_keep 31 = .ok (.ireturn, 1) := by decide +kernel
set_option maxHeartbeats 4000000 in
set_option maxRecDepth 100000 in
theorem tX10_keep {l : Launch} {g : yG} {n : Nat} {σ : yM} (hn : 172 ≤ n) (w h : Int) (T S F P O : Int → Int → Int) (nf df nl : Int) (lg : Int → Int → Int) (s re fo ra tu we sh : Int) (H : List aX) (ht : Bool) (K : Int → Int → Int) (tl : Int) (tb : Int → Int) (fa r1 r2 N : Int) (hV : cV σ (w, h, (T, S, F, P, O, nf, df, nl, lg), (s, re, fo, ra, tu, we, sh), H, ht, K, tl, tb, fa, r1, r2)) (hW : aW N (w, h, (T, S, F, P, O, nf, df, nl, lg), (s, re, fo, ra, tu, we, sh), H, ht, K, tl, tb, fa, r1, r2))  : yMet l g yX10_keep cX10_keep 1 (some .int) (rmL 3) [yR g 0] (SC g) n σ (SC g) (yPi (fun zv n' σ' => n ≤ n' ∧ (True) ∧ zv = w * h - nMi w h T ∧ cV σ' (w, h, (T, S, F, P, O, nf, df, nl, lg), (s, re, fo, ra, tu, we, sh), H, true, T, tl, tb, fa, r1, r2) ∧ cF σ σ')) := by
  obtain ⟨⟨hA, hJ⟩, hS, hH, ⟨hb1, hb2⟩, ⟨ht1, ht2⟩, hfa, hr1, hr2, hT⟩ := id hV
  obtain ⟨hw1, hw2, hw3, hw4⟩ := id hA.1.1
  obtain ⟨hs1, hs2, hs3, hs4, hs5, hs6, hs7⟩ := id hS.2
  have z128 : 128 < n := by omega
  have z129 : 129 < n := by omega
  have z130 : 130 < n := by omega
  refine y_start (by decide) (Nat.le_of_ble_eq_true rfl) (fun X0 hF => ?_)
  show yV X0 g 1 (yQ X0 g (SC g) (yPi (fun zv n' σ' => n ≤ n' ∧ (True) ∧ zv = w * h - nMi w h T ∧ cV σ' (w, h, (T, S, F, P, O, nf, df, nl, lg), (s, re, fo, ra, tu, we, sh), H, true, T, tl, tb, fa, r1, r2) ∧ cF σ σ')) (rmL 3)) (SC g) n σ 0 0 0 [(0, yR g 0)] []
  refine y_aload_n (pc := 0) hF dX10_keep_0 0 rfl ?_
  refine y_get (pc := 1) (ci := 10) hF dX10_keep_1 (by omega) rfl rfl rfl iX10 5 (by decide) w_492 rfl ?_
  refine y_aload_n (pc := 4) hF dX10_keep_4 0 rfl ?_
  refine y_get (pc := 5) (ci := 10) hF dX10_keep_5 (by omega) rfl rfl rfl iX10 2 (by decide) w_489 rfl ?_
  refine y_cv (y_rV (pc := 8) hF (tX4_copyFrom 114 5 w h T S F P O hn pic_114 pic_5 hA (by omega)) dX10_keep_8 (by omega) rfl rfl rfl w_556 qX4_copyFrom rfl ⟨Nat.le_of_ble_eq_true rfl, Nat.le_of_ble_eq_true rfl⟩ ⟨Nat.zero_le _, Nat.zero_le _⟩ (Nat.le_of_ble_eq_true rfl) rfl) rfl rfl (fun n' σ8 zp8 => ?_)
  obtain ⟨zn8, zp8⟩ := zp8
  have zn8 := zn8.symm
  subst zn8
  have zA_σ8 := hA.fc (by omega) zp8.1
  refine y_aload_n (pc := 11) hF dX10_keep_11 0 rfl ?_
  refine y_iconst (pc := 12) hF dX10_keep_12 ?_
  refine y_putf (pc := 13) (ci := 10) (σ' := yset σ8 0 6 1) (sch' := (SC g)) hF dX10_keep_13 (by omega) rfl rfl rfl iX10 6 (by decide) w_493 tyX10 tyX10_ok nmX10 rfl rfl (by rfl) (by rfl) (Nat.le_of_ble_eq_true rfl) rfl (y_ps rfl) (fun k' h => ⟨yset_n h, rfl⟩) ?_
  obtain ⟨τ1, hτ1⟩ : ∃ s, s = yset σ8 0 6 1 := ⟨_, rfl⟩
  rw [← hτ1]
  have zt1 : ∀ c : Nat, c ≠ 0 → τ1 c = σ8 c := fun c hc => by rw [hτ1, yset_n hc]
  have zA_τ1 := zA_σ8.fr (σ' := τ1) (fun c a b => zt1 c (by omega))
  have zK := zp8.2.fr (σ' := τ1) (fun c a b => zt1 c (by omega))
  refine y_aload_n (pc := 16) hF dX10_keep_16 0 rfl ?_
  refine y_get (pc := 17) (ci := 10) hF dX10_keep_17 (by omega) rfl rfl rfl iX10 2 (by decide) w_489 rfl ?_
  have zz20 := y_rV (pc := 20) hF (tX4_dots (n := n) (σ := τ1) 5 w h T S F P O hn pic_5 zA_τ1) dX10_keep_20 (by have := pic_5.1; omega) (pic_5.2 g).1 rfl rfl w_567 qX4_dots rfl ⟨Nat.le_of_ble_eq_true rfl, Nat.le_of_ble_eq_true rfl⟩ ⟨Nat.zero_le _, Nat.zero_le _⟩ (Nat.le_of_ble_eq_true rfl) rfl (rest := []) (cells := 0) (slots := 0) (lv := [(0, yR g 0)])
  refine y_cp (zz20) ?_
  refine y_aload_n (pc := 23) hF dX10_keep_23 0 rfl ?_
  refine y_get (pc := 24) (ci := 10) hF dX10_keep_24 (by omega) rfl rfl rfl iX10 2 (by decide) w_489 rfl ?_
  have zz27 := y_rV (pc := 27) hF (tX4_countMissing (n := n) (σ := τ1) 5 w h T S F P O hn pic_5 zA_τ1) dX10_keep_27 (by have := pic_5.1; omega) (pic_5.2 g).1 rfl rfl w_568 qX4_countMissing rfl ⟨Nat.le_of_ble_eq_true rfl, Nat.le_of_ble_eq_true rfl⟩ ⟨Nat.zero_le _, Nat.zero_le _⟩ (Nat.le_of_ble_eq_true rfl) rfl (rest := [yI (w * h)]) (cells := 0) (slots := 0) (lv := [(0, yR g 0)])
  refine y_cp (zz27) ?_
  refine y_isub (pc := 30) hF dX10_keep_30 ?_
  exact y_iret (pc := 31) hF dX10_keep_31 (Nat.zero_le _) (Nat.zero_le _) ⟨_, rfl, Nat.le_refl _, trivial, rfl, cV_keep hV (fun c a b => by rw [zt1 c a, zp8.1 c (by omega)]) (fun j a => by rw [hτ1, yset_o (by omega), zp8.1 0 (by omega)]) (by rw [hτ1, yset_e]) zK, fun c a => by rw [zt1 c (by omega), zp8.1 c (by omega)]⟩

theorem dX10_undo_0 : decode cX10_undo 0 = .ok (.aload_n 0, 1) := by decide +kernel
theorem dX10_undo_1 : decode cX10_undo 1 = .ok (.getfield 40, 3) := by decide +kernel
theorem dX10_undo_4 : decode cX10_undo 4 = .ok (.aload_n 0, 1) := by decide +kernel
theorem dX10_undo_5 : decode cX10_undo 5 = .ok (.getfield 26, 3) := by decide +kernel
theorem dX10_undo_8 : decode cX10_undo 8 = .ok (.aload_n 0, 1) := by decide +kernel
theorem dX10_undo_9 : decode cX10_undo 9 = .ok (.getfield 33, 3) := by decide +kernel
theorem dX10_undo_12 : decode cX10_undo 12 = .ok (.invokevirtual 188, 3) := by decide +kernel
theorem dX10_undo_15 : decode cX10_undo 15 = .ok (.ifCond .ne 5, 3) := by decide +kernel
theorem dX10_undo_18 : decode cX10_undo 18 = .ok (.iconst (-1), 1) := by decide +kernel
theorem dX10_undo_19 : decode cX10_undo 19 = .ok (.ireturn, 1) := by decide +kernel
theorem dX10_undo_20 : decode cX10_undo 20 = .ok (.aload_n 0, 1) := by decide +kernel
theorem dX10_undo_21 : decode cX10_undo 21 = .ok (.getfield 26, 3) := by decide +kernel
theorem dX10_undo_24 : decode cX10_undo 24 = .ok (.invokevirtual 138, 3) := by decide +kernel
theorem dX10_undo_27 : decode cX10_undo 27 = .ok (.ireturn, 1) := by decide +kernel
set_option maxHeartbeats 4000000 in
set_option maxRecDepth 100000 in
theorem tX10_undo {l : Launch} {g : yG} {n : Nat} {σ : yM} (hn : 172 ≤ n) (w h : Int) (T S F P O : Int → Int → Int) (nf df nl : Int) (lg : Int → Int → Int) (s re fo ra tu we sh : Int) (H : List aX) (ht : Bool) (K : Int → Int → Int) (tl : Int) (tb : Int → Int) (fa r1 r2 N : Int) (hV : cV σ (w, h, (T, S, F, P, O, nf, df, nl, lg), (s, re, fo, ra, tu, we, sh), H, ht, K, tl, tb, fa, r1, r2)) (hW : aW N (w, h, (T, S, F, P, O, nf, df, nl, lg), (s, re, fo, ra, tu, we, sh), H, ht, K, tl, tb, fa, r1, r2))  : yMet l g yX10_undo cX10_undo 1 (some .int) (rmL 4) [yR g 0] (SC g) n σ (SC g) (yPi (fun zv n' σ' => n ≤ n' ∧ (True) ∧ zv = (if (H.length : Int) = 0 then -1 else nMi w h (hdX (T, S, F, P, O, nf, df, nl, lg) H).1) ∧ cV σ' (if (H.length : Int) = 0 then (w, h, (T, S, F, P, O, nf, df, nl, lg), (s, re, fo, ra, tu, we, sh), H, ht, K, tl, tb, fa, r1, r2) else (w, h, (hdX (T, S, F, P, O, nf, df, nl, lg) H), (s, re, fo, ra, tu, we, sh), H.tail, ht, K, tl, tb, fa, r1, r2)) ∧ cF σ σ')) := by
  obtain ⟨⟨hA, hJ⟩, hS, hH, ⟨hb1, hb2⟩, ⟨ht1, ht2⟩, hfa, hr1, hr2, hT⟩ := id hV
  obtain ⟨hw1, hw2, hw3, hw4⟩ := id hA.1.1
  obtain ⟨hs1, hs2, hs3, hs4, hs5, hs6, hs7⟩ := id hS.2
  have z128 : 128 < n := by omega
  have z129 : 129 < n := by omega
  have z130 : 130 < n := by omega
  obtain ⟨hd, hd1, hdr, hd2, hd3, hd4⟩ := id hH
  have hdl : 0 ≤ (H.length : Int) ∧ (H.length : Int) ≤ 10 := by omega
  obtain ⟨X0_, hX0⟩ : ∃ X, X = (hdX (T, S, F, P, O, nf, df, nl, lg) H) := ⟨_, rfl⟩
  have hhd := fun hl => hH.head (X := (T, S, F, P, O, nf, df, nl, lg)) hd1 hl
  rw [← hX0] at hhd
  obtain ⟨T0, S0, F0, P0, O0, nf0, df0, nl0, lg0⟩ := X0_
  refine y_start (by decide) (Nat.le_of_ble_eq_true rfl) (fun X0 hF => ?_)
  show yV X0 g 1 (yQ X0 g (SC g) (yPi (fun zv n' σ' => n ≤ n' ∧ (True) ∧ zv = (if (H.length : Int) = 0 then -1 else nMi w h (hdX (T, S, F, P, O, nf, df, nl, lg) H).1) ∧ cV σ' (if (H.length : Int) = 0 then (w, h, (T, S, F, P, O, nf, df, nl, lg), (s, re, fo, ra, tu, we, sh), H, ht, K, tl, tb, fa, r1, r2) else (w, h, (hdX (T, S, F, P, O, nf, df, nl, lg) H), (s, re, fo, ra, tu, we, sh), H.tail, ht, K, tl, tb, fa, r1, r2)) ∧ cF σ σ')) (rmL 4)) (SC g) n σ 0 0 0 [(0, yR g 0)] []
  refine y_aload_n (pc := 0) hF dX10_undo_0 0 rfl ?_
  refine y_get (pc := 1) (ci := 10) hF dX10_undo_1 (by omega) rfl rfl rfl iX10 4 (by decide) w_491 rfl ?_
  refine y_aload_n (pc := 4) hF dX10_undo_4 0 rfl ?_
  refine y_get (pc := 5) (ci := 10) hF dX10_undo_5 (by omega) rfl rfl rfl iX10 2 (by decide) w_489 rfl ?_
  refine y_aload_n (pc := 8) hF dX10_undo_8 0 rfl ?_
  refine y_get (pc := 9) (ci := 10) hF dX10_undo_9 (by omega) rfl rfl rfl iX10 3 (by decide) w_490 rfl ?_
  refine y_ci (y_rV (pc := 12) hF (tX1_takeBack 5 11 w h T0 S0 F0 P0 O0 nf0 df0 nl0 lg0 pic_5 jou_11 hn hd (H.length : Int) hd1 hd2 hdr hdl (by omega) (by omega) (by omega) hhd) dX10_undo_12 (by omega) rfl rfl rfl w_576 qX1_takeBack rfl ⟨Nat.le_of_ble_eq_true rfl, Nat.le_of_ble_eq_true rfl⟩ ⟨Nat.zero_le _, Nat.zero_le _⟩ (Nat.le_of_ble_eq_true rfl) rfl) rfl rfl (fun r12 n' σ12 zp12 => ?_)
  obtain ⟨zn12, zp12⟩ := zp12
  have zn12 := zn12.symm
  subst zn12
  rcases zp12 with ⟨zl0, zv, zs⟩ | ⟨zl0, zv, zq1, zq2, zfr, zX⟩
  · subst zv; have zs := zs.symm; subst zs
    refine y_if_ne (pc := 15) hF dX10_undo_15 20 rfl (by decide) (fun zc15 => absurd zc15 (by decide)) (fun _ => ?_)
    refine y_iconst (pc := 18) hF dX10_undo_18 ?_
    exact y_iret (pc := 19) hF dX10_undo_19 (Nat.zero_le _) (Nat.zero_le _) ⟨_, rfl, Nat.le_refl _, trivial, by rw [if_pos zl0], by rw [if_pos zl0]; exact hV, cF.rf σ⟩
  · subst zv; have zB := zX.1; have zTu := hT.fr (zfr 127 (by omega) (by omega) (by omega)); have zVu : cV σ12 (w, h, (T0, S0, F0, P0, O0, nf0, df0, nl0, lg0), (s, re, fo, ra, tu, we, sh), H.tail, ht, K, tl, tb, fa, r1, r2) := ⟨zX, hS.fr (zfr 4 (by omega) (by omega) (by omega)), hH.pop hd1 zl0 zq1 zq2 (fun c a b => zfr c (by omega) (by omega) (by omega)), ⟨by rw [zfr 0 (by omega) (by omega) (by omega)]; exact hb1, fun q x y a b c d => by rw [zfr 115 (by omega) (by omega) (by omega)]; exact hb2 q x y a b c d⟩, ⟨by rw [zfr 1 (by omega) (by omega) (by omega)]; exact ht1, fun j a b => by rw [zfr 2 (by omega) (by omega) (by omega)]; exact ht2 j a b⟩, by rw [zfr 1 (by omega) (by omega) (by omega)]; exact hfa, by rw [zfr 0 (by omega) (by omega) (by omega)]; exact hr1, by rw [zfr 0 (by omega) (by omega) (by omega)]; exact hr2, zTu⟩
    refine y_if_ne (pc := 15) hF dX10_undo_15 20 rfl (by decide) (fun _ => ?_) (fun zc15 => absurd zc15 (by decide))
    refine y_aload_n (pc := 20) hF dX10_undo_20 0 rfl ?_
    refine y_get (pc := 21) (ci := 10) hF dX10_undo_21 (by omega) rfl rfl rfl iX10 2 (by decide) w_489 rfl ?_
    have zz24 := y_rV (pc := 24) hF (tX4_countMissing (n := n) (σ := σ12) 5 w h T0 S0 F0 P0 O0 hn pic_5 zB) dX10_undo_24 (by have := pic_5.1; omega) (pic_5.2 g).1 rfl rfl w_568 qX4_countMissing rfl ⟨Nat.le_of_ble_eq_true rfl, Nat.le_of_ble_eq_true rfl⟩ ⟨Nat.zero_le _, Nat.zero_le _⟩ (Nat.le_of_ble_eq_true rfl) rfl (rest := []) (cells := 0) (slots := 0) (lv := [(0, yR g 0)])
    refine y_cp (zz24) ?_
    exact y_iret (pc := 27) hF dX10_undo_27 (Nat.zero_le _) (Nat.zero_le _) ⟨_, rfl, Nat.le_refl _, trivial, by rw [if_neg (by omega), ← hX0]; rfl, by rw [if_neg (by omega), ← hX0]; exact zVu, fun c a => zfr c (by omega) (by omega) (by omega)⟩

theorem dX10_fill_0 : decode cX10_fill 0 = .ok (.aload_n 0, 1) := by decide +kernel
theorem dX10_fill_1 : decode cX10_fill 1 = .ok (.iload_n 1, 1) := by decide +kernel
theorem dX10_fill_2 : decode cX10_fill 2 = .ok (.iconst 1, 1) := by decide +kernel
theorem dX10_fill_3 : decode cX10_fill 3 = .ok (.if_icmp .lt 13, 3) := by decide +kernel
theorem dX10_fill_6 : decode cX10_fill 6 = .ok (.iload_n 1, 1) := by decide +kernel
theorem dX10_fill_7 : decode cX10_fill 7 = .ok (.bipush 60, 2) := by decide +kernel
theorem dX10_fill_9 : decode cX10_fill 9 = .ok (.if_icmp .gt 7, 3) := by decide +kernel
theorem dX10_fill_12 : decode cX10_fill 12 = .ok (.iconst 1, 1) := by decide +kernel
theorem dX10_fill_13 : decode cX10_fill 13 = .ok (.goto 4, 3) := by decide +kernel
theorem dX10_fill_16 : decode cX10_fill 16 = .ok (.iconst 0, 1) := by decide +kernel
theorem dX10_fill_17 : decode cX10_fill 17 = .ok (.invokevirtual 110, 3) := by decide +kernel
theorem dX10_fill_20 : decode cX10_fill 20 = .ok (.aload_n 0, 1) := by decide +kernel
theorem dX10_fill_21 : decode cX10_fill 21 = .ok (.getfield 40, 3) := by decide +kernel
theorem dX10_fill_24 : decode cX10_fill 24 = .ok (.aload_n 0, 1) := by decide +kernel
theorem dX10_fill_25 : decode cX10_fill 25 = .ok (.getfield 26, 3) := by decide +kernel
theorem dX10_fill_28 : decode cX10_fill 28 = .ok (.aload_n 0, 1) := by decide +kernel
theorem dX10_fill_29 : decode cX10_fill 29 = .ok (.getfield 33, 3) := by decide +kernel
theorem dX10_fill_32 : decode cX10_fill 32 = .ok (.invokevirtual 162, 3) := by decide +kernel
theorem dX10_fill_35 : decode cX10_fill 35 = .ok (.aload_n 0, 1) := by decide +kernel
theorem dX10_fill_36 : decode cX10_fill 36 = .ok (.getfield 40, 3) := by decide +kernel
theorem dX10_fill_39 : decode cX10_fill 39 = .ok (.aload_n 0, 1) := by decide +kernel
theorem dX10_fill_40 : decode cX10_fill 40 = .ok (.getfield 79, 3) := by decide +kernel
theorem dX10_fill_43 : decode cX10_fill 43 = .ok (.aload_n 0, 1) := by decide +kernel
theorem dX10_fill_44 : decode cX10_fill 44 = .ok (.getfield 26, 3) := by decide +kernel
theorem dX10_fill_47 : decode cX10_fill 47 = .ok (.aload_n 0, 1) := by decide +kernel
theorem dX10_fill_48 : decode cX10_fill 48 = .ok (.getfield 19, 3) := by decide +kernel
theorem dX10_fill_51 : decode cX10_fill 51 = .ok (.iconst 0, 1) := by decide +kernel
theorem dX10_fill_52 : decode cX10_fill 52 = .ok (.aload_n 0, 1) := by decide +kernel
theorem dX10_fill_53 : decode cX10_fill 53 = .ok (.getfield 33, 3) := by decide +kernel
theorem dX10_fill_56 : decode cX10_fill 56 = .ok (.iload_n 1, 1) := by decide +kernel
theorem dX10_fill_57 : decode cX10_fill 57 = .ok (.invokevirtual 184, 3) := by decide +kernel
theorem dX10_fill_60 : decode cX10_fill 60 = .ok (.invokevirtual 166, 3) := by decide +kernel
theorem dX10_fill_63 : decode cX10_fill 63 = .ok (.ireturn, 1) := by decide +kernel
set_option maxHeartbeats 4000000 in
set_option maxRecDepth 100000 in
theorem tX10_fill {l : Launch} {g : yG} {n : Nat} {σ : yM} (hlt : l.stackTraces = false) (hn : 172 ≤ n) (w h : Int) (T S F P O : Int → Int → Int) (nf df nl : Int) (lg : Int → Int → Int) (s re fo ra tu we sh : Int) (H : List aX) (ht : Bool) (K : Int → Int → Int) (tl : Int) (tb : Int → Int) (fa r1 r2 N : Int) (hV : cV σ (w, h, (T, S, F, P, O, nf, df, nl, lg), (s, re, fo, ra, tu, we, sh), H, ht, K, tl, tb, fa, r1, r2)) (hW : aW N (w, h, (T, S, F, P, O, nf, df, nl, lg), (s, re, fo, ra, tu, we, sh), H, ht, K, tl, tb, fa, r1, r2)) (hNb : N ≤ 400000000) (a : Int) (ha : -2147483648 ≤ a ∧ a < 2147483648) : yMX l g yX10_fill cX10_fill 2 (some .int) (rmA 8 4 24) [yR g 0, yI a] (SC g) n σ (SC g) (yPi (fun zv n' σ' => n ≤ n' ∧ (1 ≤ a ∧ a ≤ 60) ∧ zv = (((gR w h s re fo ra tu we sh 0 a.toNat (T, S, F, P, O, nf, df, nl, lg)).1 : Nat) : Int) ∧ cV σ' (w, h, (gR w h s re fo ra tu we sh 0 a.toNat (T, S, F, P, O, nf, df, nl, lg)).2, (s, re, fo, ra, tu, we, sh), (if 0 < (((gR w h s re fo ra tu we sh 0 a.toNat (T, S, F, P, O, nf, df, nl, lg)).1 : Nat) : Int) then pH (T, S, F, P, O, nf, df, nl, lg) H else H), ht, K, tl, tb, fa, r1, r2) ∧ cF σ σ')) (fun E n' σ' => E = eA ∧ n ≤ n' ∧ ¬ (1 ≤ a ∧ a ≤ 60) ∧ cV σ' (bA (w, h, (T, S, F, P, O, nf, df, nl, lg), (s, re, fo, ra, tu, we, sh), H, ht, K, tl, tb, fa, r1, r2)) ∧ cF σ σ') := by
  obtain ⟨⟨hA, hJ⟩, hS, hH, ⟨hb1, hb2⟩, ⟨ht1, ht2⟩, hfa, hr1, hr2, hT⟩ := id hV
  obtain ⟨hw1, hw2, hw3, hw4⟩ := id hA.1.1
  obtain ⟨hs1, hs2, hs3, hs4, hs5, hs6, hs7⟩ := id hS.2
  have z128 : 128 < n := by omega
  have z129 : 129 < n := by omega
  have z130 : 130 < n := by omega
  obtain ⟨hd, hd1, hdr, hd2, hd3, hd4⟩ := id hH
  have hdl : 0 ≤ (H.length : Int) ∧ (H.length : Int) ≤ 10 := by omega
  have znf : nf ≤ N := hW.1.1
  have zj4 := hJ.2.2.2.1
  refine y_startX (by decide) (Nat.le_of_ble_eq_true rfl) (fun X0 hX => ?_)
  have hF := hX.1
  show yV X0 g 2 (yQX X0 g (SC g) (yPi (fun zv n' σ' => n ≤ n' ∧ (1 ≤ a ∧ a ≤ 60) ∧ zv = (((gR w h s re fo ra tu we sh 0 a.toNat (T, S, F, P, O, nf, df, nl, lg)).1 : Nat) : Int) ∧ cV σ' (w, h, (gR w h s re fo ra tu we sh 0 a.toNat (T, S, F, P, O, nf, df, nl, lg)).2, (s, re, fo, ra, tu, we, sh), (if 0 < (((gR w h s re fo ra tu we sh 0 a.toNat (T, S, F, P, O, nf, df, nl, lg)).1 : Nat) : Int) then pH (T, S, F, P, O, nf, df, nl, lg) H else H), ht, K, tl, tb, fa, r1, r2) ∧ cF σ σ')) (fun E n' σ' => E = eA ∧ n ≤ n' ∧ ¬ (1 ≤ a ∧ a ≤ 60) ∧ cV σ' (bA (w, h, (T, S, F, P, O, nf, df, nl, lg), (s, re, fo, ra, tu, we, sh), H, ht, K, tl, tb, fa, r1, r2)) ∧ cF σ σ') (rmA 8 4 24)) (SC g) n σ 0 0 0 [(0, yR g 0), (1, yI a)] []
  have zJ17 : ∀ (zb : Bool), (zb = decide (1 ≤ a ∧ a ≤ 60)) → yV X0 g 2 (yQX X0 g (SC g) (yPi (fun zv n' σ' => n ≤ n' ∧ (1 ≤ a ∧ a ≤ 60) ∧ zv = (((gR w h s re fo ra tu we sh 0 a.toNat (T, S, F, P, O, nf, df, nl, lg)).1 : Nat) : Int) ∧ cV σ' (w, h, (gR w h s re fo ra tu we sh 0 a.toNat (T, S, F, P, O, nf, df, nl, lg)).2, (s, re, fo, ra, tu, we, sh), (if 0 < (((gR w h s re fo ra tu we sh 0 a.toNat (T, S, F, P, O, nf, df, nl, lg)).1 : Nat) : Int) then pH (T, S, F, P, O, nf, df, nl, lg) H else H), ht, K, tl, tb, fa, r1, r2) ∧ cF σ σ')) (fun E n' σ' => E = eA ∧ n ≤ n' ∧ ¬ (1 ≤ a ∧ a ≤ 60) ∧ cV σ' (bA (w, h, (T, S, F, P, O, nf, df, nl, lg), (s, re, fo, ra, tu, we, sh), H, ht, K, tl, tb, fa, r1, r2)) ∧ cF σ σ') (rmA 8 4 24)) (SC g) n σ 0 0 17 [(0, yR g 0), (1, yI a)] [yI (bi zb), yR g 0] := by
    intro zb  zhb
    refine y_contX (cells' := 0 + 1) (slots' := 0 + 6) hX (y_rVX (pc := 17) hX (tX10_demand hlt hn zb) dX10_fill_17 (by omega) rfl rfl rfl w_611 qX10_demand rfl ⟨Nat.le_of_ble_eq_true rfl, Nat.le_of_ble_eq_true rfl⟩ ⟨Nat.le_of_ble_eq_true rfl, Nat.le_of_ble_eq_true rfl⟩ (Nat.le_of_ble_eq_true rfl) rfl) rfl rfl ⟨Nat.le_of_ble_eq_true rfl, Nat.le_of_ble_eq_true rfl⟩ (fun E n' σ' zx => ⟨zx.1, zx.2.1, by have zq := zx.2.2.1; rw [zhb] at zq; simpa using zq, by rw [zx.2.2.2]; exact hV.bA, by rw [zx.2.2.2]; exact cF_N⟩) (fun r17 n' σ17 zp17 => ?_)
    obtain ⟨zr17, zp17⟩ := zp17
    subst zr17
    obtain ⟨zn17, zs17, zb17⟩ := zp17
    have zs17 := zs17.symm
    subst zs17
    have zn17 := zn17.symm
    subst zn17
    skip
    show yV X0 g 2 (yQX X0 g (SC g) (yPi (fun zv n' σ' => n ≤ n' ∧ (1 ≤ a ∧ a ≤ 60) ∧ zv = (((gR w h s re fo ra tu we sh 0 a.toNat (T, S, F, P, O, nf, df, nl, lg)).1 : Nat) : Int) ∧ cV σ' (w, h, (gR w h s re fo ra tu we sh 0 a.toNat (T, S, F, P, O, nf, df, nl, lg)).2, (s, re, fo, ra, tu, we, sh), (if 0 < (((gR w h s re fo ra tu we sh 0 a.toNat (T, S, F, P, O, nf, df, nl, lg)).1 : Nat) : Int) then pH (T, S, F, P, O, nf, df, nl, lg) H else H), ht, K, tl, tb, fa, r1, r2) ∧ cF σ σ')) (fun E n' σ' => E = eA ∧ n ≤ n' ∧ ¬ (1 ≤ a ∧ a ≤ 60) ∧ cV σ' (bA (w, h, (T, S, F, P, O, nf, df, nl, lg), (s, re, fo, ra, tu, we, sh), H, ht, K, tl, tb, fa, r1, r2)) ∧ cF σ σ') (rmA 8 4 24)) (SC g) n σ (0 + 1) (0 + 6) 20 [(0, yR g 0), (1, yI a)] []
    have zok : 1 ≤ a ∧ a ≤ 60 := by have zq := zb17; rw [zhb] at zq; simpa using zq
    refine y_aload_n (pc := 20) hF dX10_fill_20 0 rfl ?_
    refine y_get (pc := 21) (ci := 10) hF dX10_fill_21 (by omega) rfl rfl rfl iX10 4 (by decide) w_491 rfl ?_
    refine y_aload_n (pc := 24) hF dX10_fill_24 0 rfl ?_
    refine y_get (pc := 25) (ci := 10) hF dX10_fill_25 (by omega) rfl rfl rfl iX10 2 (by decide) w_489 rfl ?_
    refine y_aload_n (pc := 28) hF dX10_fill_28 0 rfl ?_
    refine y_get (pc := 29) (ci := 10) hF dX10_fill_29 (by omega) rfl rfl rfl iX10 3 (by decide) w_490 rfl ?_
    refine y_cv (y_rV (pc := 32) hF (tX1_prepare 5 11 w h T S F P O nf df nl lg pic_5 jou_11 hA hJ hn hd (H.length : Int) hd1 hd2 hdr hdl (by omega) (by omega)) dX10_fill_32 (by omega) rfl rfl rfl w_785 qX1_prepare rfl ⟨Nat.le_of_ble_eq_true rfl, Nat.le_of_ble_eq_true rfl⟩ ⟨Nat.le_of_ble_eq_true rfl, Nat.le_of_ble_eq_true rfl⟩ (Nat.le_of_ble_eq_true rfl) rfl) rfl rfl (fun n' σ32 zp32 => ?_)
    obtain ⟨zn32, zp32⟩ := zp32
    have zn32 := zn32.symm
    subst zn32
    have zVp := cV_prep hV hd1 hdr zp32.1
    have zA_σ32 := zVp.1.1
    have zd1 : σ32 13 1 = hd := by rw [zp32.1 13 (by omega)]; exact hd1
    have zd2 : σ32 13 2 = (H.length : Int) := by rw [zp32.1 13 (by omega)]; exact hd2
    have zS_σ32 := zVp.2.1
    have zJp := zVp.1.2
    have zTp := zVp.T
    refine y_aload_n (pc := 35) hF dX10_fill_35 0 rfl ?_
    refine y_get (pc := 36) (ci := 10) hF dX10_fill_36 (by omega) rfl rfl rfl iX10 4 (by decide) w_491 rfl ?_
    refine y_aload_n (pc := 39) hF dX10_fill_39 0 rfl ?_
    refine y_get (pc := 40) (ci := 10) hF dX10_fill_40 (by omega) rfl rfl rfl iX10 10 (by decide) w_497 rfl ?_
    refine y_aload_n (pc := 43) hF dX10_fill_43 0 rfl ?_
    refine y_get (pc := 44) (ci := 10) hF dX10_fill_44 (by omega) rfl rfl rfl iX10 2 (by decide) w_489 rfl ?_
    refine y_aload_n (pc := 47) hF dX10_fill_47 0 rfl ?_
    refine y_get (pc := 48) (ci := 10) hF dX10_fill_48 (by omega) rfl rfl rfl iX10 1 (by decide) w_488 rfl ?_
    refine y_iconst (pc := 51) hF dX10_fill_51 ?_
    refine y_aload_n (pc := 52) hF dX10_fill_52 0 rfl ?_
    refine y_get (pc := 53) (ci := 10) hF dX10_fill_53 (by omega) rfl rfl rfl iX10 3 (by decide) w_490 rfl ?_
    refine y_iload_n (pc := 56) hF dX10_fill_56 1 rfl ?_
    refine y_ci (y_rV (pc := 57) hF (tX0_run 5 4 w h T S F P O s re fo ra tu we sh hn pic_5 set_4 zA_σ32 zS_σ32 (by omega) (by omega) (by omega) 11 nf df nl lg jou_11 zJp (by omega) (by omega) (by omega) zTp (by omega) 0 (by omega) a (by omega)) dX10_fill_57 (by omega) rfl rfl rfl w_813 qX0_run rfl ⟨Nat.le_of_ble_eq_true rfl, Nat.le_of_ble_eq_true rfl⟩ ⟨Nat.le_of_ble_eq_true rfl, Nat.le_of_ble_eq_true rfl⟩ (Nat.le_of_ble_eq_true rfl) rfl) rfl rfl (fun r57 n' σ57 zp57 => ?_)
    obtain ⟨zn57, zv57, zp57⟩ := zp57
    have zn57 := zn57.symm
    subst zn57
    rw [zv57]
    have zfr := zp57.2.1
    have zVr := cV_pic zVp (fun c a b => zfr c (by omega) (by omega) (by omega)) zp57.2.2 zp57.1
    have zsn := (zp32.2).fr (σ' := σ57) (fun c a b => zfr c (by omega) (by omega) (by omega)) (fun c a b => zfr c (by omega) (by omega) (by omega))
    have zd1r : σ57 13 1 = hd := by rw [zfr 13 (by omega) (by omega) (by omega)]; exact zd1
    have zd2r : σ57 13 2 = (H.length : Int) := by rw [zfr 13 (by omega) (by omega) (by omega)]; exact zd2
    have zcb : 0 ≤ (((gR w h s re fo ra tu we sh 0 a.toNat (T, S, F, P, O, nf, df, nl, lg)).1 : Nat) : Int) ∧ (((gR w h s re fo ra tu we sh 0 a.toNat (T, S, F, P, O, nf, df, nl, lg)).1 : Nat) : Int) ≤ 100000 := by have := gR_cnt (w := w) (h := h) (s := s) (re := re) (fo := fo) (ra := ra) (tu := tu) (we := we) (sh := sh) (lv := 0) (most := a.toNat) (X := (T, S, F, P, O, nf, df, nl, lg)); omega
    refine y_ci (y_rV (pc := 60) hF (tX1_commitIfAny hn hd (H.length : Int) zd1r zd2r hdr hdl (((gR w h s re fo ra tu we sh 0 a.toNat (T, S, F, P, O, nf, df, nl, lg)).1 : Nat) : Int) zcb) dX10_fill_60 (by omega) rfl rfl rfl w_789 qX1_commitIfAny rfl ⟨Nat.le_of_ble_eq_true rfl, Nat.le_of_ble_eq_true rfl⟩ ⟨Nat.le_of_ble_eq_true rfl, Nat.le_of_ble_eq_true rfl⟩ (Nat.le_of_ble_eq_true rfl) rfl) rfl rfl (fun r60 n' σ60 zp60 => ?_)
    obtain ⟨zn60, zv60, zp60⟩ := zp60
    have zn60 := zn60.symm
    subst zn60
    subst zv60
    exact y_retX (y_iret (pc := 63) hF dX10_fill_63 (Nat.le_of_ble_eq_true rfl) (Nat.le_of_ble_eq_true rfl) ⟨_, rfl, Nat.le_refl _, zok, rfl, by rw [zp60]; split; exact (cV_push zVr zd1r zsn rfl).1; exact zVr, ((zp32.1.cF (by omega)).tr (fun c a => zfr c (by omega) (by omega) (by omega))).tr (by rw [zp60]; split; exact (cV_push zVr zd1r zsn rfl).2; exact cF.rf _)⟩)
  refine y_aload_n (pc := 0) hF dX10_fill_0 0 rfl ?_
  refine y_iload_n (pc := 1) hF dX10_fill_1 1 rfl ?_
  refine y_iconst (pc := 2) hF dX10_fill_2 ?_
  refine y_icmp_lt (pc := 3) hF dX10_fill_3 16 rfl (by omega) (by omega) (fun zc3 => ?_) (fun zc3 => ?_)
  · skip
    refine y_iconst (pc := 16) hF dX10_fill_16 ?_
    exact zJ17 false (by simp; omega)
  · skip
    refine y_iload_n (pc := 6) hF dX10_fill_6 1 rfl ?_
    refine y_bipush (pc := 7) hF dX10_fill_7 (by decide) ?_
    refine y_icmp_gt (pc := 9) hF dX10_fill_9 16 rfl (by omega) (by omega) (fun zc9 => ?_) (fun zc9 => ?_)
    · skip
      refine y_iconst (pc := 16) hF dX10_fill_16 ?_
      exact zJ17 false (by simp; omega)
    · skip
      refine y_iconst (pc := 12) hF dX10_fill_12 ?_
      refine y_goto (pc := 13) hF dX10_fill_13 17 rfl ?_
      exact zJ17 true (by simp; omega)

theorem dX10_guide_0 : decode cX10_guide 0 = .ok (.aload_n 0, 1) := by decide +kernel
theorem dX10_guide_1 : decode cX10_guide 1 = .ok (.iload_n 1, 1) := by decide +kernel
theorem dX10_guide_2 : decode cX10_guide 2 = .ok (.iconst 1, 1) := by decide +kernel
theorem dX10_guide_3 : decode cX10_guide 3 = .ok (.if_icmp .eq 8, 3) := by decide +kernel
theorem dX10_guide_6 : decode cX10_guide 6 = .ok (.iload_n 1, 1) := by decide +kernel
theorem dX10_guide_7 : decode cX10_guide 7 = .ok (.iconst 2, 1) := by decide +kernel
theorem dX10_guide_8 : decode cX10_guide 8 = .ok (.if_icmp .ne 7, 3) := by decide +kernel
theorem dX10_guide_11 : decode cX10_guide 11 = .ok (.iconst 1, 1) := by decide +kernel
theorem dX10_guide_12 : decode cX10_guide 12 = .ok (.goto 4, 3) := by decide +kernel
theorem dX10_guide_15 : decode cX10_guide 15 = .ok (.iconst 0, 1) := by decide +kernel
theorem dX10_guide_16 : decode cX10_guide 16 = .ok (.invokevirtual 110, 3) := by decide +kernel
theorem dX10_guide_19 : decode cX10_guide 19 = .ok (.aload_n 0, 1) := by decide +kernel
theorem dX10_guide_20 : decode cX10_guide 20 = .ok (.getfield 40, 3) := by decide +kernel
theorem dX10_guide_23 : decode cX10_guide 23 = .ok (.aload_n 0, 1) := by decide +kernel
theorem dX10_guide_24 : decode cX10_guide 24 = .ok (.getfield 26, 3) := by decide +kernel
theorem dX10_guide_27 : decode cX10_guide 27 = .ok (.aload_n 0, 1) := by decide +kernel
theorem dX10_guide_28 : decode cX10_guide 28 = .ok (.getfield 33, 3) := by decide +kernel
theorem dX10_guide_31 : decode cX10_guide 31 = .ok (.invokevirtual 162, 3) := by decide +kernel
theorem dX10_guide_34 : decode cX10_guide 34 = .ok (.aload_n 0, 1) := by decide +kernel
theorem dX10_guide_35 : decode cX10_guide 35 = .ok (.getfield 40, 3) := by decide +kernel
theorem dX10_guide_38 : decode cX10_guide 38 = .ok (.aload_n 0, 1) := by decide +kernel
theorem dX10_guide_39 : decode cX10_guide 39 = .ok (.getfield 79, 3) := by decide +kernel
theorem dX10_guide_42 : decode cX10_guide 42 = .ok (.aload_n 0, 1) := by decide +kernel
theorem dX10_guide_43 : decode cX10_guide 43 = .ok (.getfield 26, 3) := by decide +kernel
theorem dX10_guide_46 : decode cX10_guide 46 = .ok (.aload_n 0, 1) := by decide +kernel
theorem dX10_guide_47 : decode cX10_guide 47 = .ok (.getfield 19, 3) := by decide +kernel
theorem dX10_guide_50 : decode cX10_guide 50 = .ok (.iload_n 1, 1) := by decide +kernel
theorem dX10_guide_51 : decode cX10_guide 51 = .ok (.aload_n 0, 1) := by decide +kernel
theorem dX10_guide_52 : decode cX10_guide 52 = .ok (.getfield 33, 3) := by decide +kernel
theorem dX10_guide_55 : decode cX10_guide 55 = .ok (.sipush 400, 3) := by decide +kernel
theorem dX10_guide_58 : decode cX10_guide 58 = .ok (.invokevirtual 184, 3) := by decide +kernel
theorem dX10_guide_61 : decode cX10_guide 61 = .ok (.invokevirtual 166, 3) := by decide +kernel
theorem dX10_guide_64 : decode cX10_guide 64 = .ok (.ireturn, 1) := by decide +kernel
set_option maxHeartbeats 4000000 in
set_option maxRecDepth 100000 in
theorem tX10_guide {l : Launch} {g : yG} {n : Nat} {σ : yM} (hlt : l.stackTraces = false) (hn : 172 ≤ n) (w h : Int) (T S F P O : Int → Int → Int) (nf df nl : Int) (lg : Int → Int → Int) (s re fo ra tu we sh : Int) (H : List aX) (ht : Bool) (K : Int → Int → Int) (tl : Int) (tb : Int → Int) (fa r1 r2 N : Int) (hV : cV σ (w, h, (T, S, F, P, O, nf, df, nl, lg), (s, re, fo, ra, tu, we, sh), H, ht, K, tl, tb, fa, r1, r2)) (hW : aW N (w, h, (T, S, F, P, O, nf, df, nl, lg), (s, re, fo, ra, tu, we, sh), H, ht, K, tl, tb, fa, r1, r2)) (hNb : N ≤ 400000000) (a : Int) (ha : -2147483648 ≤ a ∧ a < 2147483648) : yMX l g yX10_guide cX10_guide 2 (some .int) (rmA 8 4 24) [yR g 0, yI a] (SC g) n σ (SC g) (yPi (fun zv n' σ' => n ≤ n' ∧ (a = 1 ∨ a = 2) ∧ zv = (((gR w h s re fo ra tu we sh a (400 : Int).toNat (T, S, F, P, O, nf, df, nl, lg)).1 : Nat) : Int) ∧ cV σ' (w, h, (gR w h s re fo ra tu we sh a (400 : Int).toNat (T, S, F, P, O, nf, df, nl, lg)).2, (s, re, fo, ra, tu, we, sh), (if 0 < (((gR w h s re fo ra tu we sh a (400 : Int).toNat (T, S, F, P, O, nf, df, nl, lg)).1 : Nat) : Int) then pH (T, S, F, P, O, nf, df, nl, lg) H else H), ht, K, tl, tb, fa, r1, r2) ∧ cF σ σ')) (fun E n' σ' => E = eA ∧ n ≤ n' ∧ ¬ (a = 1 ∨ a = 2) ∧ cV σ' (bA (w, h, (T, S, F, P, O, nf, df, nl, lg), (s, re, fo, ra, tu, we, sh), H, ht, K, tl, tb, fa, r1, r2)) ∧ cF σ σ') := by
  obtain ⟨⟨hA, hJ⟩, hS, hH, ⟨hb1, hb2⟩, ⟨ht1, ht2⟩, hfa, hr1, hr2, hT⟩ := id hV
  obtain ⟨hw1, hw2, hw3, hw4⟩ := id hA.1.1
  obtain ⟨hs1, hs2, hs3, hs4, hs5, hs6, hs7⟩ := id hS.2
  have z128 : 128 < n := by omega
  have z129 : 129 < n := by omega
  have z130 : 130 < n := by omega
  obtain ⟨hd, hd1, hdr, hd2, hd3, hd4⟩ := id hH
  have hdl : 0 ≤ (H.length : Int) ∧ (H.length : Int) ≤ 10 := by omega
  have znf : nf ≤ N := hW.1.1
  have zj4 := hJ.2.2.2.1
  refine y_startX (by decide) (Nat.le_of_ble_eq_true rfl) (fun X0 hX => ?_)
  have hF := hX.1
  show yV X0 g 2 (yQX X0 g (SC g) (yPi (fun zv n' σ' => n ≤ n' ∧ (a = 1 ∨ a = 2) ∧ zv = (((gR w h s re fo ra tu we sh a (400 : Int).toNat (T, S, F, P, O, nf, df, nl, lg)).1 : Nat) : Int) ∧ cV σ' (w, h, (gR w h s re fo ra tu we sh a (400 : Int).toNat (T, S, F, P, O, nf, df, nl, lg)).2, (s, re, fo, ra, tu, we, sh), (if 0 < (((gR w h s re fo ra tu we sh a (400 : Int).toNat (T, S, F, P, O, nf, df, nl, lg)).1 : Nat) : Int) then pH (T, S, F, P, O, nf, df, nl, lg) H else H), ht, K, tl, tb, fa, r1, r2) ∧ cF σ σ')) (fun E n' σ' => E = eA ∧ n ≤ n' ∧ ¬ (a = 1 ∨ a = 2) ∧ cV σ' (bA (w, h, (T, S, F, P, O, nf, df, nl, lg), (s, re, fo, ra, tu, we, sh), H, ht, K, tl, tb, fa, r1, r2)) ∧ cF σ σ') (rmA 8 4 24)) (SC g) n σ 0 0 0 [(0, yR g 0), (1, yI a)] []
  have zJ16 : ∀ (zb : Bool), (zb = decide (a = 1 ∨ a = 2)) → yV X0 g 2 (yQX X0 g (SC g) (yPi (fun zv n' σ' => n ≤ n' ∧ (a = 1 ∨ a = 2) ∧ zv = (((gR w h s re fo ra tu we sh a (400 : Int).toNat (T, S, F, P, O, nf, df, nl, lg)).1 : Nat) : Int) ∧ cV σ' (w, h, (gR w h s re fo ra tu we sh a (400 : Int).toNat (T, S, F, P, O, nf, df, nl, lg)).2, (s, re, fo, ra, tu, we, sh), (if 0 < (((gR w h s re fo ra tu we sh a (400 : Int).toNat (T, S, F, P, O, nf, df, nl, lg)).1 : Nat) : Int) then pH (T, S, F, P, O, nf, df, nl, lg) H else H), ht, K, tl, tb, fa, r1, r2) ∧ cF σ σ')) (fun E n' σ' => E = eA ∧ n ≤ n' ∧ ¬ (a = 1 ∨ a = 2) ∧ cV σ' (bA (w, h, (T, S, F, P, O, nf, df, nl, lg), (s, re, fo, ra, tu, we, sh), H, ht, K, tl, tb, fa, r1, r2)) ∧ cF σ σ') (rmA 8 4 24)) (SC g) n σ 0 0 16 [(0, yR g 0), (1, yI a)] [yI (bi zb), yR g 0] := by
    intro zb  zhb
    refine y_contX (cells' := 0 + 1) (slots' := 0 + 6) hX (y_rVX (pc := 16) hX (tX10_demand hlt hn zb) dX10_guide_16 (by omega) rfl rfl rfl w_611 qX10_demand rfl ⟨Nat.le_of_ble_eq_true rfl, Nat.le_of_ble_eq_true rfl⟩ ⟨Nat.le_of_ble_eq_true rfl, Nat.le_of_ble_eq_true rfl⟩ (Nat.le_of_ble_eq_true rfl) rfl) rfl rfl ⟨Nat.le_of_ble_eq_true rfl, Nat.le_of_ble_eq_true rfl⟩ (fun E n' σ' zx => ⟨zx.1, zx.2.1, by have zq := zx.2.2.1; rw [zhb] at zq; simpa using zq, by rw [zx.2.2.2]; exact hV.bA, by rw [zx.2.2.2]; exact cF_N⟩) (fun r16 n' σ16 zp16 => ?_)
    obtain ⟨zr16, zp16⟩ := zp16
    subst zr16
    obtain ⟨zn16, zs16, zb16⟩ := zp16
    have zs16 := zs16.symm
    subst zs16
    have zn16 := zn16.symm
    subst zn16
    skip
    show yV X0 g 2 (yQX X0 g (SC g) (yPi (fun zv n' σ' => n ≤ n' ∧ (a = 1 ∨ a = 2) ∧ zv = (((gR w h s re fo ra tu we sh a (400 : Int).toNat (T, S, F, P, O, nf, df, nl, lg)).1 : Nat) : Int) ∧ cV σ' (w, h, (gR w h s re fo ra tu we sh a (400 : Int).toNat (T, S, F, P, O, nf, df, nl, lg)).2, (s, re, fo, ra, tu, we, sh), (if 0 < (((gR w h s re fo ra tu we sh a (400 : Int).toNat (T, S, F, P, O, nf, df, nl, lg)).1 : Nat) : Int) then pH (T, S, F, P, O, nf, df, nl, lg) H else H), ht, K, tl, tb, fa, r1, r2) ∧ cF σ σ')) (fun E n' σ' => E = eA ∧ n ≤ n' ∧ ¬ (a = 1 ∨ a = 2) ∧ cV σ' (bA (w, h, (T, S, F, P, O, nf, df, nl, lg), (s, re, fo, ra, tu, we, sh), H, ht, K, tl, tb, fa, r1, r2)) ∧ cF σ σ') (rmA 8 4 24)) (SC g) n σ (0 + 1) (0 + 6) 19 [(0, yR g 0), (1, yI a)] []
    have zok : a = 1 ∨ a = 2 := by have zq := zb16; rw [zhb] at zq; simpa using zq
    refine y_aload_n (pc := 19) hF dX10_guide_19 0 rfl ?_
    refine y_get (pc := 20) (ci := 10) hF dX10_guide_20 (by omega) rfl rfl rfl iX10 4 (by decide) w_491 rfl ?_
    refine y_aload_n (pc := 23) hF dX10_guide_23 0 rfl ?_
    refine y_get (pc := 24) (ci := 10) hF dX10_guide_24 (by omega) rfl rfl rfl iX10 2 (by decide) w_489 rfl ?_
    refine y_aload_n (pc := 27) hF dX10_guide_27 0 rfl ?_
    refine y_get (pc := 28) (ci := 10) hF dX10_guide_28 (by omega) rfl rfl rfl iX10 3 (by decide) w_490 rfl ?_
    refine y_cv (y_rV (pc := 31) hF (tX1_prepare 5 11 w h T S F P O nf df nl lg pic_5 jou_11 hA hJ hn hd (H.length : Int) hd1 hd2 hdr hdl (by omega) (by omega)) dX10_guide_31 (by omega) rfl rfl rfl w_785 qX1_prepare rfl ⟨Nat.le_of_ble_eq_true rfl, Nat.le_of_ble_eq_true rfl⟩ ⟨Nat.le_of_ble_eq_true rfl, Nat.le_of_ble_eq_true rfl⟩ (Nat.le_of_ble_eq_true rfl) rfl) rfl rfl (fun n' σ31 zp31 => ?_)
    obtain ⟨zn31, zp31⟩ := zp31
    have zn31 := zn31.symm
    subst zn31
    have zVp := cV_prep hV hd1 hdr zp31.1
    have zA_σ31 := zVp.1.1
    have zd1 : σ31 13 1 = hd := by rw [zp31.1 13 (by omega)]; exact hd1
    have zd2 : σ31 13 2 = (H.length : Int) := by rw [zp31.1 13 (by omega)]; exact hd2
    have zS_σ31 := zVp.2.1
    have zJp := zVp.1.2
    have zTp := zVp.T
    refine y_aload_n (pc := 34) hF dX10_guide_34 0 rfl ?_
    refine y_get (pc := 35) (ci := 10) hF dX10_guide_35 (by omega) rfl rfl rfl iX10 4 (by decide) w_491 rfl ?_
    refine y_aload_n (pc := 38) hF dX10_guide_38 0 rfl ?_
    refine y_get (pc := 39) (ci := 10) hF dX10_guide_39 (by omega) rfl rfl rfl iX10 10 (by decide) w_497 rfl ?_
    refine y_aload_n (pc := 42) hF dX10_guide_42 0 rfl ?_
    refine y_get (pc := 43) (ci := 10) hF dX10_guide_43 (by omega) rfl rfl rfl iX10 2 (by decide) w_489 rfl ?_
    refine y_aload_n (pc := 46) hF dX10_guide_46 0 rfl ?_
    refine y_get (pc := 47) (ci := 10) hF dX10_guide_47 (by omega) rfl rfl rfl iX10 1 (by decide) w_488 rfl ?_
    refine y_iload_n (pc := 50) hF dX10_guide_50 1 rfl ?_
    refine y_aload_n (pc := 51) hF dX10_guide_51 0 rfl ?_
    refine y_get (pc := 52) (ci := 10) hF dX10_guide_52 (by omega) rfl rfl rfl iX10 3 (by decide) w_490 rfl ?_
    refine y_sipush (pc := 55) hF dX10_guide_55 (by decide) ?_
    refine y_ci (y_rV (pc := 58) hF (tX0_run 5 4 w h T S F P O s re fo ra tu we sh hn pic_5 set_4 zA_σ31 zS_σ31 (by omega) (by omega) (by omega) 11 nf df nl lg jou_11 zJp (by omega) (by omega) (by omega) zTp (by omega) a (by omega) (400 : Int) (by omega)) dX10_guide_58 (by omega) rfl rfl rfl w_813 qX0_run rfl ⟨Nat.le_of_ble_eq_true rfl, Nat.le_of_ble_eq_true rfl⟩ ⟨Nat.le_of_ble_eq_true rfl, Nat.le_of_ble_eq_true rfl⟩ (Nat.le_of_ble_eq_true rfl) rfl) rfl rfl (fun r58 n' σ58 zp58 => ?_)
    obtain ⟨zn58, zv58, zp58⟩ := zp58
    have zn58 := zn58.symm
    subst zn58
    rw [zv58]
    have zfr := zp58.2.1
    have zVr := cV_pic zVp (fun c a b => zfr c (by omega) (by omega) (by omega)) zp58.2.2 zp58.1
    have zsn := (zp31.2).fr (σ' := σ58) (fun c a b => zfr c (by omega) (by omega) (by omega)) (fun c a b => zfr c (by omega) (by omega) (by omega))
    have zd1r : σ58 13 1 = hd := by rw [zfr 13 (by omega) (by omega) (by omega)]; exact zd1
    have zd2r : σ58 13 2 = (H.length : Int) := by rw [zfr 13 (by omega) (by omega) (by omega)]; exact zd2
    have zcb : 0 ≤ (((gR w h s re fo ra tu we sh a (400 : Int).toNat (T, S, F, P, O, nf, df, nl, lg)).1 : Nat) : Int) ∧ (((gR w h s re fo ra tu we sh a (400 : Int).toNat (T, S, F, P, O, nf, df, nl, lg)).1 : Nat) : Int) ≤ 100000 := by have := gR_cnt (w := w) (h := h) (s := s) (re := re) (fo := fo) (ra := ra) (tu := tu) (we := we) (sh := sh) (lv := a) (most := (400 : Int).toNat) (X := (T, S, F, P, O, nf, df, nl, lg)); omega
    refine y_ci (y_rV (pc := 61) hF (tX1_commitIfAny hn hd (H.length : Int) zd1r zd2r hdr hdl (((gR w h s re fo ra tu we sh a (400 : Int).toNat (T, S, F, P, O, nf, df, nl, lg)).1 : Nat) : Int) zcb) dX10_guide_61 (by omega) rfl rfl rfl w_789 qX1_commitIfAny rfl ⟨Nat.le_of_ble_eq_true rfl, Nat.le_of_ble_eq_true rfl⟩ ⟨Nat.le_of_ble_eq_true rfl, Nat.le_of_ble_eq_true rfl⟩ (Nat.le_of_ble_eq_true rfl) rfl) rfl rfl (fun r61 n' σ61 zp61 => ?_)
    obtain ⟨zn61, zv61, zp61⟩ := zp61
    have zn61 := zn61.symm
    subst zn61
    subst zv61
    exact y_retX (y_iret (pc := 64) hF dX10_guide_64 (Nat.le_of_ble_eq_true rfl) (Nat.le_of_ble_eq_true rfl) ⟨_, rfl, Nat.le_refl _, zok, rfl, by rw [zp61]; split; exact (cV_push zVr zd1r zsn rfl).1; exact zVr, ((zp31.1.cF (by omega)).tr (fun c a => zfr c (by omega) (by omega) (by omega))).tr (by rw [zp61]; split; exact (cV_push zVr zd1r zsn rfl).2; exact cF.rf _)⟩)
  refine y_aload_n (pc := 0) hF dX10_guide_0 0 rfl ?_
  refine y_iload_n (pc := 1) hF dX10_guide_1 1 rfl ?_
  refine y_iconst (pc := 2) hF dX10_guide_2 ?_
  refine y_icmp_eq (pc := 3) hF dX10_guide_3 11 rfl (by omega) (by omega) (fun zc3 => ?_) (fun zc3 => ?_)
  · skip
    refine y_iconst (pc := 11) hF dX10_guide_11 ?_
    refine y_goto (pc := 12) hF dX10_guide_12 16 rfl ?_
    exact zJ16 true (by simp; omega)
  · skip
    refine y_iload_n (pc := 6) hF dX10_guide_6 1 rfl ?_
    refine y_iconst (pc := 7) hF dX10_guide_7 ?_
    refine y_icmp_ne (pc := 8) hF dX10_guide_8 15 rfl (by omega) (by omega) (fun zc8 => ?_) (fun zc8 => ?_)
    · skip
      refine y_iconst (pc := 15) hF dX10_guide_15 ?_
      exact zJ16 false (by simp; omega)
    · skip
      refine y_iconst (pc := 11) hF dX10_guide_11 ?_
      refine y_goto (pc := 12) hF dX10_guide_12 16 rfl ?_
      exact zJ16 true (by simp; omega)
