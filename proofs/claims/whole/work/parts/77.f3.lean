theorem dX10_rank_0 : decode cX10_rank 0 = .ok (.aload_n 0, 1) := by decide +kernel
theorem dX10_rank_1 : decode cX10_rank 1 = .ok (.iload_n 1, 1) := by decide +kernel
theorem dX10_rank_2 : decode cX10_rank 2 = .ok (.iload_n 2, 1) := by decide +kernel
theorem dX10_rank_3 : decode cX10_rank 3 = .ok (.invokevirtual 156, 3) := by decide +kernel
theorem dX10_rank_6 : decode cX10_rank 6 = .ok (.aload_n 0, 1) := by decide +kernel
theorem dX10_rank_7 : decode cX10_rank 7 = .ok (.iload_n 3, 1) := by decide +kernel
theorem dX10_rank_8 : decode cX10_rank 8 = .ok (.ifCond .lt 13, 3) := by decide +kernel
theorem dX10_rank_11 : decode cX10_rank 11 = .ok (.iload_n 3, 1) := by decide +kernel
theorem dX10_rank_12 : decode cX10_rank 12 = .ok (.bipush 6, 2) := by decide +kernel
theorem dX10_rank_14 : decode cX10_rank 14 = .ok (.if_icmp .gt 7, 3) := by decide +kernel
theorem dX10_rank_17 : decode cX10_rank 17 = .ok (.iconst 1, 1) := by decide +kernel
theorem dX10_rank_18 : decode cX10_rank 18 = .ok (.goto 4, 3) := by decide +kernel
theorem dX10_rank_21 : decode cX10_rank 21 = .ok (.iconst 0, 1) := by decide +kernel
theorem dX10_rank_22 : decode cX10_rank 22 = .ok (.invokevirtual 110, 3) := by decide +kernel
theorem dX10_rank_25 : decode cX10_rank 25 = .ok (.aload_n 0, 1) := by decide +kernel
theorem dX10_rank_26 : decode cX10_rank 26 = .ok (.getfield 26, 3) := by decide +kernel
theorem dX10_rank_29 : decode cX10_rank 29 = .ok (.iload_n 1, 1) := by decide +kernel
theorem dX10_rank_30 : decode cX10_rank 30 = .ok (.iload_n 2, 1) := by decide +kernel
theorem dX10_rank_31 : decode cX10_rank 31 = .ok (.invokevirtual 257, 3) := by decide +kernel
theorem dX10_rank_34 : decode cX10_rank 34 = .ok (.ifCond .ne 5, 3) := by decide +kernel
theorem dX10_rank_37 : decode cX10_rank 37 = .ok (.iconst 0, 1) := by decide +kernel
theorem dX10_rank_38 : decode cX10_rank 38 = .ok (.ireturn, 1) := by decide +kernel
theorem dX10_rank_39 : decode cX10_rank 39 = .ok (.aload_n 0, 1) := by decide +kernel
theorem dX10_rank_40 : decode cX10_rank 40 = .ok (.getfield 54, 3) := by decide +kernel
theorem dX10_rank_43 : decode cX10_rank 43 = .ok (.aload_n 0, 1) := by decide +kernel
theorem dX10_rank_44 : decode cX10_rank 44 = .ok (.getfield 26, 3) := by decide +kernel
theorem dX10_rank_47 : decode cX10_rank 47 = .ok (.aload_n 0, 1) := by decide +kernel
theorem dX10_rank_48 : decode cX10_rank 48 = .ok (.getfield 19, 3) := by decide +kernel
theorem dX10_rank_51 : decode cX10_rank 51 = .ok (.iload_n 1, 1) := by decide +kernel
theorem dX10_rank_52 : decode cX10_rank 52 = .ok (.iload_n 2, 1) := by decide +kernel
theorem dX10_rank_53 : decode cX10_rank 53 = .ok (.invokevirtual 260, 3) := by decide +kernel
theorem dX10_rank_56 : decode cX10_rank 56 = .ok (.iload_n 3, 1) := by decide +kernel
theorem dX10_rank_57 : decode cX10_rank 57 = .ok (.tableswitch 87 0 5 #[39, 47, 55, 63, 71, 79], 39) := by decide +kernel
theorem dX10_rank_96 : decode cX10_rank 96 = .ok (.aload_n 0, 1) := by decide +kernel
theorem dX10_rank_97 : decode cX10_rank 97 = .ok (.getfield 54, 3) := by decide +kernel
theorem dX10_rank_100 : decode cX10_rank 100 = .ok (.getfield 264, 3) := by decide +kernel
theorem dX10_rank_103 : decode cX10_rank 103 = .ok (.ireturn, 1) := by decide +kernel
theorem dX10_rank_104 : decode cX10_rank 104 = .ok (.aload_n 0, 1) := by decide +kernel
theorem dX10_rank_105 : decode cX10_rank 105 = .ok (.getfield 54, 3) := by decide +kernel
theorem dX10_rank_108 : decode cX10_rank 108 = .ok (.getfield 267, 3) := by decide +kernel
theorem dX10_rank_111 : decode cX10_rank 111 = .ok (.ireturn, 1) := by decide +kernel
theorem dX10_rank_112 : decode cX10_rank 112 = .ok (.aload_n 0, 1) := by decide +kernel
theorem dX10_rank_113 : decode cX10_rank 113 = .ok (.getfield 54, 3) := by decide +kernel
theorem dX10_rank_116 : decode cX10_rank 116 = .ok (.getfield 270, 3) := by decide +kernel
theorem dX10_rank_119 : decode cX10_rank 119 = .ok (.ireturn, 1) := by decide +kernel
theorem dX10_rank_120 : decode cX10_rank 120 = .ok (.aload_n 0, 1) := by decide +kernel
theorem dX10_rank_121 : decode cX10_rank 121 = .ok (.getfield 54, 3) := by decide +kernel
theorem dX10_rank_124 : decode cX10_rank 124 = .ok (.getfield 273, 3) := by decide +kernel
theorem dX10_rank_127 : decode cX10_rank 127 = .ok (.ireturn, 1) := by decide +kernel
theorem dX10_rank_128 : decode cX10_rank 128 = .ok (.aload_n 0, 1) := by decide +kernel
theorem dX10_rank_129 : decode cX10_rank 129 = .ok (.getfield 54, 3) := by decide +kernel
theorem dX10_rank_132 : decode cX10_rank 132 = .ok (.getfield 276, 3) := by decide +kernel
theorem dX10_rank_135 : decode cX10_rank 135 = .ok (.ireturn, 1) := by decide +kernel
theorem dX10_rank_136 : decode cX10_rank 136 = .ok (.aload_n 0, 1) := by decide +kernel
theorem dX10_rank_137 : decode cX10_rank 137 = .ok (.getfield 54, 3) := by decide +kernel
theorem dX10_rank_140 : decode cX10_rank 140 = .ok (.getfield 279, 3) := by decide +kernel
theorem dX10_rank_143 : decode cX10_rank 143 = .ok (.ireturn, 1) := by decide +kernel
theorem dX10_rank_144 : decode cX10_rank 144 = .ok (.aload_n 0, 1) := by decide +kernel
theorem dX10_rank_145 : decode cX10_rank 145 = .ok (.getfield 54, 3) := by decide +kernel
theorem dX10_rank_148 : decode cX10_rank 148 = .ok (.getfield 282, 3) := by decide +kernel
theorem dX10_rank_151 : decode cX10_rank 151 = .ok (.ireturn, 1) := by decide +kernel
set_option maxHeartbeats 4000000 in
set_option maxRecDepth 100000 in
theorem tX10_rank {l : Launch} {g : yG} {n : Nat} {σ : yM} (hlt : l.stackTraces = false) (hn : 172 ≤ n) (w h : Int) (T S F P O : Int → Int → Int) (nf df nl : Int) (lg : Int → Int → Int) (s re fo ra tu we sh : Int) (H : List aX) (ht : Bool) (K : Int → Int → Int) (tl : Int) (tb : Int → Int) (fa r1 r2 N : Int) (hV : cV σ (w, h, (T, S, F, P, O, nf, df, nl, lg), (s, re, fo, ra, tu, we, sh), H, ht, K, tl, tb, fa, r1, r2)) (hW : aW N (w, h, (T, S, F, P, O, nf, df, nl, lg), (s, re, fo, ra, tu, we, sh), H, ht, K, tl, tb, fa, r1, r2)) (x y a : Int) (hx : -2147483648 ≤ x ∧ x < 2147483648) (hy : -2147483648 ≤ y ∧ y < 2147483648) (ha : -2147483648 ≤ a ∧ a < 2147483648) : yMX l g yX10_rank cX10_rank 4 (some .int) (rmA 8 4 24) [yR g 0, yI x, yI y, yI a] (SC g) n σ (SC g) (yPi (fun v n' σ' => n ≤ n' ∧ (sIn w h x y = true ∧ 0 ≤ a ∧ a ≤ 6) ∧ v = rV w h T S s ra x y a ∧ cV σ' (w, h, (T, S, F, P, O, nf, df, nl, lg), (s, re, fo, ra, tu, we, sh), H, ht, K, tl, tb, fa, r1, r2) ∧ cF σ σ')) (fun E n' σ' => n ≤ n' ∧ ((E = eN ∧ ¬ (sIn w h x y = true) ∧ cV σ' (bN (w, h, (T, S, F, P, O, nf, df, nl, lg), (s, re, fo, ra, tu, we, sh), H, ht, K, tl, tb, fa, r1, r2))) ∨ (E = eA ∧ (sIn w h x y = true) ∧ ¬ (0 ≤ a ∧ a ≤ 6) ∧ cV σ' (bA (w, h, (T, S, F, P, O, nf, df, nl, lg), (s, re, fo, ra, tu, we, sh), H, ht, K, tl, tb, fa, r1, r2)))) ∧ cF σ σ') := by
  obtain ⟨⟨hA, hJ⟩, hS, hH, ⟨hb1, hb2⟩, ⟨ht1, ht2⟩, hfa, hr1, hr2, hT⟩ := id hV
  obtain ⟨hw1, hw2, hw3, hw4⟩ := id hA.1.1
  obtain ⟨hs1, hs2, hs3, hs4, hs5, hs6, hs7⟩ := id hS.2
  have z128 : 128 < n := by omega
  have z129 : 129 < n := by omega
  have z130 : 130 < n := by omega
  refine y_startX (by decide) (Nat.le_of_ble_eq_true rfl) (fun X0 hX => ?_)
  have hF := hX.1
  show yV X0 g 4 (yQX X0 g (SC g) (yPi (fun v n' σ' => n ≤ n' ∧ (sIn w h x y = true ∧ 0 ≤ a ∧ a ≤ 6) ∧ v = rV w h T S s ra x y a ∧ cV σ' (w, h, (T, S, F, P, O, nf, df, nl, lg), (s, re, fo, ra, tu, we, sh), H, ht, K, tl, tb, fa, r1, r2) ∧ cF σ σ')) (fun E n' σ' => n ≤ n' ∧ ((E = eN ∧ ¬ (sIn w h x y = true) ∧ cV σ' (bN (w, h, (T, S, F, P, O, nf, df, nl, lg), (s, re, fo, ra, tu, we, sh), H, ht, K, tl, tb, fa, r1, r2))) ∨ (E = eA ∧ (sIn w h x y = true) ∧ ¬ (0 ≤ a ∧ a ≤ 6) ∧ cV σ' (bA (w, h, (T, S, F, P, O, nf, df, nl, lg), (s, re, fo, ra, tu, we, sh), H, ht, K, tl, tb, fa, r1, r2)))) ∧ cF σ σ') (rmA 8 4 24)) (SC g) n σ 0 0 0 [(0, yR g 0), (1, yI x), (2, yI y), (3, yI a)] []
  refine y_aload_n (pc := 0) hF dX10_rank_0 0 rfl ?_
  refine y_iload_n (pc := 1) hF dX10_rank_1 1 rfl ?_
  refine y_iload_n (pc := 2) hF dX10_rank_2 2 rfl ?_
  refine y_contX (cells' := 0 + 1) (slots' := 0 + 6) hX (y_rVX (pc := 3) hX (tX10_demandDot hlt hn w h T S F P O hA x y (by omega) (by omega)) dX10_rank_3 (by omega) rfl rfl rfl w_752 qX10_demandDot rfl ⟨Nat.le_of_ble_eq_true rfl, Nat.le_of_ble_eq_true rfl⟩ ⟨Nat.le_of_ble_eq_true rfl, Nat.le_of_ble_eq_true rfl⟩ (Nat.le_of_ble_eq_true rfl) rfl) rfl rfl ⟨Nat.le_of_ble_eq_true rfl, Nat.le_of_ble_eq_true rfl⟩ (fun E n' σ' zx => ⟨zx.2.1, Or.inl ⟨zx.1, by rw [zx.2.2.1]; decide, by rw [zx.2.2.2]; exact hV.bN⟩, by rw [zx.2.2.2]; exact cF_N⟩) (fun r3 n' σ3 zp3 => ?_)
  obtain ⟨zr3, zp3⟩ := zp3
  subst zr3
  obtain ⟨zn3, zs3, zb3⟩ := zp3
  have zs3 := zs3.symm
  subst zs3
  have zn3 := zn3.symm
  subst zn3
  skip
  show yV X0 g 4 (yQX X0 g (SC g) (yPi (fun v n' σ' => n ≤ n' ∧ (sIn w h x y = true ∧ 0 ≤ a ∧ a ≤ 6) ∧ v = rV w h T S s ra x y a ∧ cV σ' (w, h, (T, S, F, P, O, nf, df, nl, lg), (s, re, fo, ra, tu, we, sh), H, ht, K, tl, tb, fa, r1, r2) ∧ cF σ σ')) (fun E n' σ' => n ≤ n' ∧ ((E = eN ∧ ¬ (sIn w h x y = true) ∧ cV σ' (bN (w, h, (T, S, F, P, O, nf, df, nl, lg), (s, re, fo, ra, tu, we, sh), H, ht, K, tl, tb, fa, r1, r2))) ∨ (E = eA ∧ (sIn w h x y = true) ∧ ¬ (0 ≤ a ∧ a ≤ 6) ∧ cV σ' (bA (w, h, (T, S, F, P, O, nf, df, nl, lg), (s, re, fo, ra, tu, we, sh), H, ht, K, tl, tb, fa, r1, r2)))) ∧ cF σ σ') (rmA 8 4 24)) (SC g) n σ (0 + 1) (0 + 6) 6 [(0, yR g 0), (1, yI x), (2, yI y), (3, yI a)] []
  have zJ22 : ∀ (zb : Bool), (zb = decide (0 ≤ a ∧ a ≤ 6)) → yV X0 g 4 (yQX X0 g (SC g) (yPi (fun v n' σ' => n ≤ n' ∧ (sIn w h x y = true ∧ 0 ≤ a ∧ a ≤ 6) ∧ v = rV w h T S s ra x y a ∧ cV σ' (w, h, (T, S, F, P, O, nf, df, nl, lg), (s, re, fo, ra, tu, we, sh), H, ht, K, tl, tb, fa, r1, r2) ∧ cF σ σ')) (fun E n' σ' => n ≤ n' ∧ ((E = eN ∧ ¬ (sIn w h x y = true) ∧ cV σ' (bN (w, h, (T, S, F, P, O, nf, df, nl, lg), (s, re, fo, ra, tu, we, sh), H, ht, K, tl, tb, fa, r1, r2))) ∨ (E = eA ∧ (sIn w h x y = true) ∧ ¬ (0 ≤ a ∧ a ≤ 6) ∧ cV σ' (bA (w, h, (T, S, F, P, O, nf, df, nl, lg), (s, re, fo, ra, tu, we, sh), H, ht, K, tl, tb, fa, r1, r2)))) ∧ cF σ σ') (rmA 8 4 24)) (SC g) n σ (0 + 1) (0 + 6) 22 [(0, yR g 0), (1, yI x), (2, yI y), (3, yI a)] [yI (bi zb), yR g 0] := by
    intro zb  zhb
    refine y_contX (cells' := 0 + 1 + 1) (slots' := 0 + 6 + 6) hX (y_rVX (pc := 22) hX (tX10_demand hlt hn zb) dX10_rank_22 (by omega) rfl rfl rfl w_611 qX10_demand rfl ⟨Nat.le_of_ble_eq_true rfl, Nat.le_of_ble_eq_true rfl⟩ ⟨Nat.le_of_ble_eq_true rfl, Nat.le_of_ble_eq_true rfl⟩ (Nat.le_of_ble_eq_true rfl) rfl) rfl rfl ⟨Nat.le_of_ble_eq_true rfl, Nat.le_of_ble_eq_true rfl⟩ (fun E n' σ' zx => ⟨zx.2.1, Or.inr ⟨zx.1, zb3, by have zq := zx.2.2.1; rw [zhb] at zq; simpa using zq, by rw [zx.2.2.2]; exact hV.bA⟩, by rw [zx.2.2.2]; exact cF_N⟩) (fun r22 n' σ22 zp22 => ?_)
    obtain ⟨zr22, zp22⟩ := zp22
    subst zr22
    obtain ⟨zn22, zs22, zb22⟩ := zp22
    have zs22 := zs22.symm
    subst zs22
    have zn22 := zn22.symm
    subst zn22
    skip
    show yV X0 g 4 (yQX X0 g (SC g) (yPi (fun v n' σ' => n ≤ n' ∧ (sIn w h x y = true ∧ 0 ≤ a ∧ a ≤ 6) ∧ v = rV w h T S s ra x y a ∧ cV σ' (w, h, (T, S, F, P, O, nf, df, nl, lg), (s, re, fo, ra, tu, we, sh), H, ht, K, tl, tb, fa, r1, r2) ∧ cF σ σ')) (fun E n' σ' => n ≤ n' ∧ ((E = eN ∧ ¬ (sIn w h x y = true) ∧ cV σ' (bN (w, h, (T, S, F, P, O, nf, df, nl, lg), (s, re, fo, ra, tu, we, sh), H, ht, K, tl, tb, fa, r1, r2))) ∨ (E = eA ∧ (sIn w h x y = true) ∧ ¬ (0 ≤ a ∧ a ≤ 6) ∧ cV σ' (bA (w, h, (T, S, F, P, O, nf, df, nl, lg), (s, re, fo, ra, tu, we, sh), H, ht, K, tl, tb, fa, r1, r2)))) ∧ cF σ σ') (rmA 8 4 24)) (SC g) n σ (0 + 1 + 1) (0 + 6 + 6) 25 [(0, yR g 0), (1, yI x), (2, yI y), (3, yI a)] []
    have zok : (sIn w h x y = true) ∧ 0 ≤ a ∧ a ≤ 6 := ⟨zb3, by have zq := zb22; rw [zhb] at zq; simpa using zq⟩
    refine y_aload_n (pc := 25) hF dX10_rank_25 0 rfl ?_
    refine y_get (pc := 26) (ci := 10) hF dX10_rank_26 (by omega) rfl rfl rfl iX10 2 (by decide) w_489 rfl ?_
    refine y_iload_n (pc := 29) hF dX10_rank_29 1 rfl ?_
    refine y_iload_n (pc := 30) hF dX10_rank_30 2 rfl ?_
    have zz31 := y_rV (pc := 31) hF (tX4_isMissing (n := n) (σ := σ) 5 w h T S F P O hn pic_5 hA x y (by omega) (by omega)) dX10_rank_31 (by have := pic_5.1; omega) (pic_5.2 g).1 rfl rfl w_1033 qX4_isMissing rfl ⟨Nat.le_of_ble_eq_true rfl, Nat.le_of_ble_eq_true rfl⟩ ⟨Nat.le_of_ble_eq_true rfl, Nat.le_of_ble_eq_true rfl⟩ (Nat.le_of_ble_eq_true rfl) rfl (rest := []) (cells := 0 + 1 + 1) (slots := 0 + 6 + 6) (lv := [(0, yR g 0), (1, yI x), (2, yI y), (3, yI a)])
    refine y_cp (zz31) ?_
    refine y_if_ne (pc := 34) hF dX10_rank_34 39 rfl bi_r (fun zc34 => ?_) (fun zc34 => ?_)
    · replace zc34 := bi_n0.mp zc34
      refine y_aload_n (pc := 39) hF dX10_rank_39 0 rfl ?_
      refine y_get (pc := 40) (ci := 10) hF dX10_rank_40 (by omega) rfl rfl rfl iX10 7 (by decide) w_494 rfl ?_
      refine y_aload_n (pc := 43) hF dX10_rank_43 0 rfl ?_
      refine y_get (pc := 44) (ci := 10) hF dX10_rank_44 (by omega) rfl rfl rfl iX10 2 (by decide) w_489 rfl ?_
      refine y_aload_n (pc := 47) hF dX10_rank_47 0 rfl ?_
      refine y_get (pc := 48) (ci := 10) hF dX10_rank_48 (by omega) rfl rfl rfl iX10 1 (by decide) w_488 rfl ?_
      refine y_iload_n (pc := 51) hF dX10_rank_51 1 rfl ?_
      refine y_iload_n (pc := 52) hF dX10_rank_52 2 rfl ?_
      refine y_cv (y_rV (pc := 53) hF (tX5_measure 5 4 w h T S F P O s re fo ra tu we sh hn pic_5 set_4 hA hS (by omega) (by omega) x y zb3) dX10_rank_53 (by omega) rfl rfl rfl w_1034 qX5_measure rfl ⟨Nat.le_of_ble_eq_true rfl, Nat.le_of_ble_eq_true rfl⟩ ⟨Nat.le_of_ble_eq_true rfl, Nat.le_of_ble_eq_true rfl⟩ (Nat.le_of_ble_eq_true rfl) rfl) rfl rfl (fun n' σ53 zp53 => ?_)
      obtain ⟨zn53, zp53⟩ := zp53
      have zn53 := zn53.symm
      subst zn53
      have zV := hV.scr zp53.1.fc (by omega) (hT.fr (zp53.1.fc 127 (by omega)))
      obtain ⟨zk0, zk1, zk2, zk3, zk4, zk5, zk6⟩ := zp53.2
      refine y_iload_n (pc := 56) hF dX10_rank_56 3 rfl ?_
      rcases Decidable.em (a = 0) with zw57_0 | zw57_0
      · refine y_tswI (pc := 57) hF dX10_rank_57 (off := 39) 0 zw57_0 (by decide) rfl 96 rfl ?_
        refine y_aload_n (pc := 96) hF dX10_rank_96 0 rfl ?_
        refine y_get (pc := 97) (ci := 10) hF dX10_rank_97 (by omega) rfl rfl rfl iX10 7 (by decide) w_494 rfl ?_
        refine y_getN (pc := 100) (ci := 5) hF dX10_rank_100 (by omega) rfl rfl rfl iX5 0 (by decide) w_315 rfl ?_
        rw [show σ53 120 0 = sSd w h S s x y from zk0]
        exact y_retX (y_iret (pc := 103) hF dX10_rank_103 (Nat.le_of_ble_eq_true rfl) (Nat.le_of_ble_eq_true rfl) ⟨_, rfl, Nat.le_refl _, zok, by unfold rV; simp [zc34, zw57_0], zV, zp53.1.fc.cF (by omega)⟩)
      rcases Decidable.em (a = 1) with zw57_1 | zw57_1
      · refine y_tswI (pc := 57) hF dX10_rank_57 (off := 47) 1 zw57_1 (by decide) rfl 104 rfl ?_
        refine y_aload_n (pc := 104) hF dX10_rank_104 0 rfl ?_
        refine y_get (pc := 105) (ci := 10) hF dX10_rank_105 (by omega) rfl rfl rfl iX10 7 (by decide) w_494 rfl ?_
        refine y_getN (pc := 108) (ci := 5) hF dX10_rank_108 (by omega) rfl rfl rfl iX5 1 (by decide) w_317 rfl ?_
        rw [show σ53 120 1 = (sSl w h T s x y).1 from zk1]
        exact y_retX (y_iret (pc := 111) hF dX10_rank_111 (Nat.le_of_ble_eq_true rfl) (Nat.le_of_ble_eq_true rfl) ⟨_, rfl, Nat.le_refl _, zok, by unfold rV; simp [zc34, zw57_1], zV, zp53.1.fc.cF (by omega)⟩)
      rcases Decidable.em (a = 2) with zw57_2 | zw57_2
      · refine y_tswI (pc := 57) hF dX10_rank_57 (off := 55) 2 zw57_2 (by decide) rfl 112 rfl ?_
        refine y_aload_n (pc := 112) hF dX10_rank_112 0 rfl ?_
        refine y_get (pc := 113) (ci := 10) hF dX10_rank_113 (by omega) rfl rfl rfl iX10 7 (by decide) w_494 rfl ?_
        refine y_getN (pc := 116) (ci := 5) hF dX10_rank_116 (by omega) rfl rfl rfl iX5 2 (by decide) w_319 rfl ?_
        rw [show σ53 120 2 = (sSl w h T s x y).2 from zk2]
        exact y_retX (y_iret (pc := 119) hF dX10_rank_119 (Nat.le_of_ble_eq_true rfl) (Nat.le_of_ble_eq_true rfl) ⟨_, rfl, Nat.le_refl _, zok, by unfold rV; simp [zc34, zw57_2], zV, zp53.1.fc.cF (by omega)⟩)
      rcases Decidable.em (a = 3) with zw57_3 | zw57_3
      · refine y_tswI (pc := 57) hF dX10_rank_57 (off := 63) 3 zw57_3 (by decide) rfl 120 rfl ?_
        refine y_aload_n (pc := 120) hF dX10_rank_120 0 rfl ?_
        refine y_get (pc := 121) (ci := 10) hF dX10_rank_121 (by omega) rfl rfl rfl iX10 7 (by decide) w_494 rfl ?_
        refine y_getN (pc := 124) (ci := 5) hF dX10_rank_124 (by omega) rfl rfl rfl iX5 3 (by decide) w_321 rfl ?_
        rw [show σ53 120 3 = sOx w h T x y from zk3]
        exact y_retX (y_iret (pc := 127) hF dX10_rank_127 (Nat.le_of_ble_eq_true rfl) (Nat.le_of_ble_eq_true rfl) ⟨_, rfl, Nat.le_refl _, zok, by unfold rV; simp [zc34, zw57_3], zV, zp53.1.fc.cF (by omega)⟩)
      rcases Decidable.em (a = 4) with zw57_4 | zw57_4
      · refine y_tswI (pc := 57) hF dX10_rank_57 (off := 71) 4 zw57_4 (by decide) rfl 128 rfl ?_
        refine y_aload_n (pc := 128) hF dX10_rank_128 0 rfl ?_
        refine y_get (pc := 129) (ci := 10) hF dX10_rank_129 (by omega) rfl rfl rfl iX10 7 (by decide) w_494 rfl ?_
        refine y_getN (pc := 132) (ci := 5) hF dX10_rank_132 (by omega) rfl rfl rfl iX5 4 (by decide) w_323 rfl ?_
        rw [show σ53 120 4 = sOy w h T x y from zk4]
        exact y_retX (y_iret (pc := 135) hF dX10_rank_135 (Nat.le_of_ble_eq_true rfl) (Nat.le_of_ble_eq_true rfl) ⟨_, rfl, Nat.le_refl _, zok, by unfold rV; simp [zc34, zw57_4], zV, zp53.1.fc.cF (by omega)⟩)
      rcases Decidable.em (a = 5) with zw57_5 | zw57_5
      · refine y_tswI (pc := 57) hF dX10_rank_57 (off := 79) 5 zw57_5 (by decide) rfl 136 rfl ?_
        refine y_aload_n (pc := 136) hF dX10_rank_136 0 rfl ?_
        refine y_get (pc := 137) (ci := 10) hF dX10_rank_137 (by omega) rfl rfl rfl iX10 7 (by decide) w_494 rfl ?_
        refine y_getN (pc := 140) (ci := 5) hF dX10_rank_140 (by omega) rfl rfl rfl iX5 5 (by decide) w_325 rfl ?_
        rw [show σ53 120 5 = sFl w h T s x y from zk5]
        exact y_retX (y_iret (pc := 143) hF dX10_rank_143 (Nat.le_of_ble_eq_true rfl) (Nat.le_of_ble_eq_true rfl) ⟨_, rfl, Nat.le_refl _, zok, by unfold rV; simp [zc34, zw57_5], zV, zp53.1.fc.cF (by omega)⟩)
      refine y_tswO (pc := 57) hF dX10_rank_57 (by omega) (by omega) 144 rfl ?_
      refine y_aload_n (pc := 144) hF dX10_rank_144 0 rfl ?_
      refine y_get (pc := 145) (ci := 10) hF dX10_rank_145 (by omega) rfl rfl rfl iX10 7 (by decide) w_494 rfl ?_
      refine y_getN (pc := 148) (ci := 5) hF dX10_rank_148 (by omega) rfl rfl rfl iX5 6 (by decide) w_327 rfl ?_
      rw [show σ53 120 6 = sRk w h T S s ra x y from zk6]
      exact y_retX (y_iret (pc := 151) hF dX10_rank_151 (Nat.le_of_ble_eq_true rfl) (Nat.le_of_ble_eq_true rfl) ⟨_, rfl, Nat.le_refl _, zok, by unfold rV; simp [zc34, show a = 6 by omega], zV, zp53.1.fc.cF (by omega)⟩)
    · replace zc34 := bi_0.mp zc34
      refine y_iconst (pc := 37) hF dX10_rank_37 ?_
      exact y_retX (y_iret (pc := 38) hF dX10_rank_38 (Nat.le_of_ble_eq_true rfl) (Nat.le_of_ble_eq_true rfl) ⟨_, rfl, Nat.le_refl _, zok, by unfold rV; simp [zc34], hV, cF.rf σ⟩)
  refine y_aload_n (pc := 6) hF dX10_rank_6 0 rfl ?_
  refine y_iload_n (pc := 7) hF dX10_rank_7 3 rfl ?_
  refine y_if_lt (pc := 8) hF dX10_rank_8 21 rfl (by omega) (fun zc8 => ?_) (fun zc8 => ?_)
  · skip
    refine y_iconst (pc := 21) hF dX10_rank_21 ?_
    exact zJ22 false (by simp; omega)
  · skip
    refine y_iload_n (pc := 11) hF dX10_rank_11 3 rfl ?_
    refine y_bipush (pc := 12) hF dX10_rank_12 (by decide) ?_
    refine y_icmp_gt (pc := 14) hF dX10_rank_14 21 rfl (by omega) (by omega) (fun zc14 => ?_) (fun zc14 => ?_)
    · skip
      refine y_iconst (pc := 21) hF dX10_rank_21 ?_
      exact zJ22 false (by simp; omega)
    · skip
      refine y_iconst (pc := 17) hF dX10_rank_17 ?_
      refine y_goto (pc := 18) hF dX10_rank_18 22 rfl ?_
      exact zJ22 true (by simp; omega)

theorem dX10_search_0 : decode cX10_search 0 = .ok (.aload_n 0, 1) := by decide +kernel
theorem dX10_search_1 : decode cX10_search 1 = .ok (.iload_n 1, 1) := by decide +kernel
theorem dX10_search_2 : decode cX10_search 2 = .ok (.iload_n 2, 1) := by decide +kernel
theorem dX10_search_3 : decode cX10_search 3 = .ok (.invokevirtual 156, 3) := by decide +kernel
theorem dX10_search_6 : decode cX10_search 6 = .ok (.aload_n 0, 1) := by decide +kernel
theorem dX10_search_7 : decode cX10_search 7 = .ok (.iload_n 3, 1) := by decide +kernel
theorem dX10_search_8 : decode cX10_search 8 = .ok (.ifCond .lt 13, 3) := by decide +kernel
theorem dX10_search_11 : decode cX10_search 11 = .ok (.iload_n 3, 1) := by decide +kernel
theorem dX10_search_12 : decode cX10_search 12 = .ok (.bipush 8, 2) := by decide +kernel
theorem dX10_search_14 : decode cX10_search 14 = .ok (.if_icmp .gt 7, 3) := by decide +kernel
theorem dX10_search_17 : decode cX10_search 17 = .ok (.iconst 1, 1) := by decide +kernel
theorem dX10_search_18 : decode cX10_search 18 = .ok (.goto 4, 3) := by decide +kernel
theorem dX10_search_21 : decode cX10_search 21 = .ok (.iconst 0, 1) := by decide +kernel
theorem dX10_search_22 : decode cX10_search 22 = .ok (.invokevirtual 110, 3) := by decide +kernel
theorem dX10_search_25 : decode cX10_search 25 = .ok (.aload_n 0, 1) := by decide +kernel
theorem dX10_search_26 : decode cX10_search 26 = .ok (.getfield 63, 3) := by decide +kernel
theorem dX10_search_29 : decode cX10_search 29 = .ok (.aload_n 0, 1) := by decide +kernel
theorem dX10_search_30 : decode cX10_search 30 = .ok (.getfield 26, 3) := by decide +kernel
theorem dX10_search_33 : decode cX10_search 33 = .ok (.aload_n 0, 1) := by decide +kernel
theorem dX10_search_34 : decode cX10_search 34 = .ok (.getfield 19, 3) := by decide +kernel
theorem dX10_search_37 : decode cX10_search 37 = .ok (.iload_n 1, 1) := by decide +kernel
theorem dX10_search_38 : decode cX10_search 38 = .ok (.iload_n 2, 1) := by decide +kernel
theorem dX10_search_39 : decode cX10_search 39 = .ok (.invokevirtual 297, 3) := by decide +kernel
theorem dX10_search_42 : decode cX10_search 42 = .ok (.aload_n 0, 1) := by decide +kernel
theorem dX10_search_43 : decode cX10_search 43 = .ok (.getfield 63, 3) := by decide +kernel
theorem dX10_search_46 : decode cX10_search 46 = .ok (.invokevirtual 300, 3) := by decide +kernel
theorem dX10_search_49 : decode cX10_search 49 = .ok (.iload_n 3, 1) := by decide +kernel
theorem dX10_search_50 : decode cX10_search 50 = .ok (.tableswitch 124 0 7 #[46, 61, 76, 84, 92, 100, 108, 116], 46) := by decide +kernel
theorem dX10_search_96 : decode cX10_search 96 = .ok (.aload_n 0, 1) := by decide +kernel
theorem dX10_search_97 : decode cX10_search 97 = .ok (.getfield 26, 3) := by decide +kernel
theorem dX10_search_100 : decode cX10_search 100 = .ok (.aload_n 0, 1) := by decide +kernel
theorem dX10_search_101 : decode cX10_search 101 = .ok (.getfield 63, 3) := by decide +kernel
theorem dX10_search_104 : decode cX10_search 104 = .ok (.getfield 303, 3) := by decide +kernel
theorem dX10_search_107 : decode cX10_search 107 = .ok (.invokevirtual 242, 3) := by decide +kernel
theorem dX10_search_110 : decode cX10_search 110 = .ok (.ireturn, 1) := by decide +kernel
theorem dX10_search_111 : decode cX10_search 111 = .ok (.aload_n 0, 1) := by decide +kernel
theorem dX10_search_112 : decode cX10_search 112 = .ok (.getfield 26, 3) := by decide +kernel
theorem dX10_search_115 : decode cX10_search 115 = .ok (.aload_n 0, 1) := by decide +kernel
theorem dX10_search_116 : decode cX10_search 116 = .ok (.getfield 63, 3) := by decide +kernel
theorem dX10_search_119 : decode cX10_search 119 = .ok (.getfield 303, 3) := by decide +kernel
theorem dX10_search_122 : decode cX10_search 122 = .ok (.invokevirtual 245, 3) := by decide +kernel
theorem dX10_search_125 : decode cX10_search 125 = .ok (.ireturn, 1) := by decide +kernel
theorem dX10_search_126 : decode cX10_search 126 = .ok (.aload_n 0, 1) := by decide +kernel
theorem dX10_search_127 : decode cX10_search 127 = .ok (.getfield 63, 3) := by decide +kernel
theorem dX10_search_130 : decode cX10_search 130 = .ok (.getfield 306, 3) := by decide +kernel
theorem dX10_search_133 : decode cX10_search 133 = .ok (.ireturn, 1) := by decide +kernel
theorem dX10_search_134 : decode cX10_search 134 = .ok (.aload_n 0, 1) := by decide +kernel
theorem dX10_search_135 : decode cX10_search 135 = .ok (.getfield 63, 3) := by decide +kernel
theorem dX10_search_138 : decode cX10_search 138 = .ok (.getfield 312, 3) := by decide +kernel
theorem dX10_search_141 : decode cX10_search 141 = .ok (.ireturn, 1) := by decide +kernel
theorem dX10_search_142 : decode cX10_search 142 = .ok (.aload_n 0, 1) := by decide +kernel
theorem dX10_search_143 : decode cX10_search 143 = .ok (.getfield 63, 3) := by decide +kernel
theorem dX10_search_146 : decode cX10_search 146 = .ok (.getfield 315, 3) := by decide +kernel
theorem dX10_search_149 : decode cX10_search 149 = .ok (.ireturn, 1) := by decide +kernel
theorem dX10_search_150 : decode cX10_search 150 = .ok (.aload_n 0, 1) := by decide +kernel
theorem dX10_search_151 : decode cX10_search 151 = .ok (.getfield 63, 3) := by decide +kernel
theorem dX10_search_154 : decode cX10_search 154 = .ok (.getfield 318, 3) := by decide +kernel
theorem dX10_search_157 : decode cX10_search 157 = .ok (.ireturn, 1) := by decide +kernel
theorem dX10_search_158 : decode cX10_search 158 = .ok (.aload_n 0, 1) := by decide +kernel
theorem dX10_search_159 : decode cX10_search 159 = .ok (.getfield 63, 3) := by decide +kernel
theorem dX10_search_162 : decode cX10_search 162 = .ok (.getfield 321, 3) := by decide +kernel
theorem dX10_search_165 : decode cX10_search 165 = .ok (.ireturn, 1) := by decide +kernel
theorem dX10_search_166 : decode cX10_search 166 = .ok (.aload_n 0, 1) := by decide +kernel
theorem dX10_search_167 : decode cX10_search 167 = .ok (.getfield 63, 3) := by decide +kernel
theorem dX10_search_170 : decode cX10_search 170 = .ok (.getfield 309, 3) := by decide +kernel
theorem dX10_search_173 : decode cX10_search 173 = .ok (.ireturn, 1) := by decide +kernel
theorem dX10_search_174 : decode cX10_search 174 = .ok (.aload_n 0, 1) := by decide +kernel
theorem dX10_search_175 : decode cX10_search 175 = .ok (.getfield 63, 3) := by decide +kernel
theorem dX10_search_178 : decode cX10_search 178 = .ok (.getfield 324, 3) := by decide +kernel
theorem dX10_search_181 : decode cX10_search 181 = .ok (.ireturn, 1) := by decide +kernel
set_option maxHeartbeats 4000000 in
set_option maxRecDepth 100000 in
theorem tX10_search {l : Launch} {g : yG} {n : Nat} {σ : yM} (hlt : l.stackTraces = false) (hn : 172 ≤ n) (w h : Int) (T S F P O : Int → Int → Int) (nf df nl : Int) (lg : Int → Int → Int) (s re fo ra tu we sh : Int) (H : List aX) (ht : Bool) (K : Int → Int → Int) (tl : Int) (tb : Int → Int) (fa r1 r2 N : Int) (hV : cV σ (w, h, (T, S, F, P, O, nf, df, nl, lg), (s, re, fo, ra, tu, we, sh), H, ht, K, tl, tb, fa, r1, r2)) (hW : aW N (w, h, (T, S, F, P, O, nf, df, nl, lg), (s, re, fo, ra, tu, we, sh), H, ht, K, tl, tb, fa, r1, r2)) (x y a : Int) (hx : -2147483648 ≤ x ∧ x < 2147483648) (hy : -2147483648 ≤ y ∧ y < 2147483648) (ha : -2147483648 ≤ a ∧ a < 2147483648) : yMX l g yX10_search cX10_search 4 (some .int) (rmA 8 4 24) [yR g 0, yI x, yI y, yI a] (SC g) n σ (SC g) (yPi (fun v n' σ' => n ≤ n' ∧ (sIn w h x y = true ∧ 0 ≤ a ∧ a ≤ 8) ∧ v = qV (sSe w h T S F s fo tu we sh x y re) a ∧ cV σ' (w, h, (T, S, F, P, O, nf, df, nl, lg), (s, re, fo, ra, tu, we, sh), H, ht, K, tl, tb, fa, r1, r2) ∧ cF σ σ')) (fun E n' σ' => n ≤ n' ∧ ((E = eN ∧ ¬ (sIn w h x y = true) ∧ cV σ' (bN (w, h, (T, S, F, P, O, nf, df, nl, lg), (s, re, fo, ra, tu, we, sh), H, ht, K, tl, tb, fa, r1, r2))) ∨ (E = eA ∧ (sIn w h x y = true) ∧ ¬ (0 ≤ a ∧ a ≤ 8) ∧ cV σ' (bA (w, h, (T, S, F, P, O, nf, df, nl, lg), (s, re, fo, ra, tu, we, sh), H, ht, K, tl, tb, fa, r1, r2)))) ∧ cF σ σ') := by
  obtain ⟨⟨hA, hJ⟩, hS, hH, ⟨hb1, hb2⟩, ⟨ht1, ht2⟩, hfa, hr1, hr2, hT⟩ := id hV
  obtain ⟨hw1, hw2, hw3, hw4⟩ := id hA.1.1
  obtain ⟨hs1, hs2, hs3, hs4, hs5, hs6, hs7⟩ := id hS.2
  have z128 : 128 < n := by omega
  have z129 : 129 < n := by omega
  have z130 : 130 < n := by omega
  refine y_startX (by decide) (Nat.le_of_ble_eq_true rfl) (fun X0 hX => ?_)
  have hF := hX.1
  show yV X0 g 4 (yQX X0 g (SC g) (yPi (fun v n' σ' => n ≤ n' ∧ (sIn w h x y = true ∧ 0 ≤ a ∧ a ≤ 8) ∧ v = qV (sSe w h T S F s fo tu we sh x y re) a ∧ cV σ' (w, h, (T, S, F, P, O, nf, df, nl, lg), (s, re, fo, ra, tu, we, sh), H, ht, K, tl, tb, fa, r1, r2) ∧ cF σ σ')) (fun E n' σ' => n ≤ n' ∧ ((E = eN ∧ ¬ (sIn w h x y = true) ∧ cV σ' (bN (w, h, (T, S, F, P, O, nf, df, nl, lg), (s, re, fo, ra, tu, we, sh), H, ht, K, tl, tb, fa, r1, r2))) ∨ (E = eA ∧ (sIn w h x y = true) ∧ ¬ (0 ≤ a ∧ a ≤ 8) ∧ cV σ' (bA (w, h, (T, S, F, P, O, nf, df, nl, lg), (s, re, fo, ra, tu, we, sh), H, ht, K, tl, tb, fa, r1, r2)))) ∧ cF σ σ') (rmA 8 4 24)) (SC g) n σ 0 0 0 [(0, yR g 0), (1, yI x), (2, yI y), (3, yI a)] []
  refine y_aload_n (pc := 0) hF dX10_search_0 0 rfl ?_
  refine y_iload_n (pc := 1) hF dX10_search_1 1 rfl ?_
  refine y_iload_n (pc := 2) hF dX10_search_2 2 rfl ?_
  refine y_contX (cells' := 0 + 1) (slots' := 0 + 6) hX (y_rVX (pc := 3) hX (tX10_demandDot hlt hn w h T S F P O hA x y (by omega) (by omega)) dX10_search_3 (by omega) rfl rfl rfl w_752 qX10_demandDot rfl ⟨Nat.le_of_ble_eq_true rfl, Nat.le_of_ble_eq_true rfl⟩ ⟨Nat.le_of_ble_eq_true rfl, Nat.le_of_ble_eq_true rfl⟩ (Nat.le_of_ble_eq_true rfl) rfl) rfl rfl ⟨Nat.le_of_ble_eq_true rfl, Nat.le_of_ble_eq_true rfl⟩ (fun E n' σ' zx => ⟨zx.2.1, Or.inl ⟨zx.1, by rw [zx.2.2.1]; decide, by rw [zx.2.2.2]; exact hV.bN⟩, by rw [zx.2.2.2]; exact cF_N⟩) (fun r3 n' σ3 zp3 => ?_)
  obtain ⟨zr3, zp3⟩ := zp3
  subst zr3
  obtain ⟨zn3, zs3, zb3⟩ := zp3
  have zs3 := zs3.symm
  subst zs3
  have zn3 := zn3.symm
  subst zn3
  skip
  show yV X0 g 4 (yQX X0 g (SC g) (yPi (fun v n' σ' => n ≤ n' ∧ (sIn w h x y = true ∧ 0 ≤ a ∧ a ≤ 8) ∧ v = qV (sSe w h T S F s fo tu we sh x y re) a ∧ cV σ' (w, h, (T, S, F, P, O, nf, df, nl, lg), (s, re, fo, ra, tu, we, sh), H, ht, K, tl, tb, fa, r1, r2) ∧ cF σ σ')) (fun E n' σ' => n ≤ n' ∧ ((E = eN ∧ ¬ (sIn w h x y = true) ∧ cV σ' (bN (w, h, (T, S, F, P, O, nf, df, nl, lg), (s, re, fo, ra, tu, we, sh), H, ht, K, tl, tb, fa, r1, r2))) ∨ (E = eA ∧ (sIn w h x y = true) ∧ ¬ (0 ≤ a ∧ a ≤ 8) ∧ cV σ' (bA (w, h, (T, S, F, P, O, nf, df, nl, lg), (s, re, fo, ra, tu, we, sh), H, ht, K, tl, tb, fa, r1, r2)))) ∧ cF σ σ') (rmA 8 4 24)) (SC g) n σ (0 + 1) (0 + 6) 6 [(0, yR g 0), (1, yI x), (2, yI y), (3, yI a)] []
  have zJ22 : ∀ (zb : Bool), (zb = decide (0 ≤ a ∧ a ≤ 8)) → yV X0 g 4 (yQX X0 g (SC g) (yPi (fun v n' σ' => n ≤ n' ∧ (sIn w h x y = true ∧ 0 ≤ a ∧ a ≤ 8) ∧ v = qV (sSe w h T S F s fo tu we sh x y re) a ∧ cV σ' (w, h, (T, S, F, P, O, nf, df, nl, lg), (s, re, fo, ra, tu, we, sh), H, ht, K, tl, tb, fa, r1, r2) ∧ cF σ σ')) (fun E n' σ' => n ≤ n' ∧ ((E = eN ∧ ¬ (sIn w h x y = true) ∧ cV σ' (bN (w, h, (T, S, F, P, O, nf, df, nl, lg), (s, re, fo, ra, tu, we, sh), H, ht, K, tl, tb, fa, r1, r2))) ∨ (E = eA ∧ (sIn w h x y = true) ∧ ¬ (0 ≤ a ∧ a ≤ 8) ∧ cV σ' (bA (w, h, (T, S, F, P, O, nf, df, nl, lg), (s, re, fo, ra, tu, we, sh), H, ht, K, tl, tb, fa, r1, r2)))) ∧ cF σ σ') (rmA 8 4 24)) (SC g) n σ (0 + 1) (0 + 6) 22 [(0, yR g 0), (1, yI x), (2, yI y), (3, yI a)] [yI (bi zb), yR g 0] := by
    intro zb  zhb
    refine y_contX (cells' := 0 + 1 + 1) (slots' := 0 + 6 + 6) hX (y_rVX (pc := 22) hX (tX10_demand hlt hn zb) dX10_search_22 (by omega) rfl rfl rfl w_611 qX10_demand rfl ⟨Nat.le_of_ble_eq_true rfl, Nat.le_of_ble_eq_true rfl⟩ ⟨Nat.le_of_ble_eq_true rfl, Nat.le_of_ble_eq_true rfl⟩ (Nat.le_of_ble_eq_true rfl) rfl) rfl rfl ⟨Nat.le_of_ble_eq_true rfl, Nat.le_of_ble_eq_true rfl⟩ (fun E n' σ' zx => ⟨zx.2.1, Or.inr ⟨zx.1, zb3, by have zq := zx.2.2.1; rw [zhb] at zq; simpa using zq, by rw [zx.2.2.2]; exact hV.bA⟩, by rw [zx.2.2.2]; exact cF_N⟩) (fun r22 n' σ22 zp22 => ?_)
    obtain ⟨zr22, zp22⟩ := zp22
    subst zr22
    obtain ⟨zn22, zs22, zb22⟩ := zp22
    have zs22 := zs22.symm
    subst zs22
    have zn22 := zn22.symm
    subst zn22
    skip
    show yV X0 g 4 (yQX X0 g (SC g) (yPi (fun v n' σ' => n ≤ n' ∧ (sIn w h x y = true ∧ 0 ≤ a ∧ a ≤ 8) ∧ v = qV (sSe w h T S F s fo tu we sh x y re) a ∧ cV σ' (w, h, (T, S, F, P, O, nf, df, nl, lg), (s, re, fo, ra, tu, we, sh), H, ht, K, tl, tb, fa, r1, r2) ∧ cF σ σ')) (fun E n' σ' => n ≤ n' ∧ ((E = eN ∧ ¬ (sIn w h x y = true) ∧ cV σ' (bN (w, h, (T, S, F, P, O, nf, df, nl, lg), (s, re, fo, ra, tu, we, sh), H, ht, K, tl, tb, fa, r1, r2))) ∨ (E = eA ∧ (sIn w h x y = true) ∧ ¬ (0 ≤ a ∧ a ≤ 8) ∧ cV σ' (bA (w, h, (T, S, F, P, O, nf, df, nl, lg), (s, re, fo, ra, tu, we, sh), H, ht, K, tl, tb, fa, r1, r2)))) ∧ cF σ σ') (rmA 8 4 24)) (SC g) n σ (0 + 1 + 1) (0 + 6 + 6) 25 [(0, yR g 0), (1, yI x), (2, yI y), (3, yI a)] []
    have zok : (sIn w h x y = true) ∧ 0 ≤ a ∧ a ≤ 8 := ⟨zb3, by have zq := zb22; rw [zhb] at zq; simpa using zq⟩
    refine y_aload_n (pc := 25) hF dX10_search_25 0 rfl ?_
    refine y_get (pc := 26) (ci := 10) hF dX10_search_26 (by omega) rfl rfl rfl iX10 8 (by decide) w_495 rfl ?_
    refine y_aload_n (pc := 29) hF dX10_search_29 0 rfl ?_
    refine y_get (pc := 30) (ci := 10) hF dX10_search_30 (by omega) rfl rfl rfl iX10 2 (by decide) w_489 rfl ?_
    refine y_aload_n (pc := 33) hF dX10_search_33 0 rfl ?_
    refine y_get (pc := 34) (ci := 10) hF dX10_search_34 (by omega) rfl rfl rfl iX10 1 (by decide) w_488 rfl ?_
    refine y_iload_n (pc := 37) hF dX10_search_37 1 rfl ?_
    refine y_iload_n (pc := 38) hF dX10_search_38 2 rfl ?_
    refine y_cv (y_rV (pc := 39) hF (tX6_aim 5 4 w h T S F P O s re fo ra tu we sh hn pic_5 set_4 hA hS (by omega) (by omega) hT x y zb3) dX10_search_39 (by omega) rfl rfl rfl w_1048 qX6_aim rfl ⟨Nat.le_of_ble_eq_true rfl, Nat.le_of_ble_eq_true rfl⟩ ⟨Nat.le_of_ble_eq_true rfl, Nat.le_of_ble_eq_true rfl⟩ (Nat.le_of_ble_eq_true rfl) rfl) rfl rfl (fun n' σ39 zp39 => ?_)
    obtain ⟨zn39, zp39⟩ := zp39
    have zn39 := zn39.symm
    subst zn39
    have zA_σ39 := hA.fc (by omega) zp39.1
    have zS_σ39 := hS.fc (by omega) zp39.1
    refine y_aload_n (pc := 42) hF dX10_search_42 0 rfl ?_
    refine y_get (pc := 43) (ci := 10) hF dX10_search_43 (by omega) rfl rfl rfl iX10 8 (by decide) w_495 rfl ?_
    refine y_cv (y_rV (pc := 46) hF (tX6_scanInReach 5 4 w h T S F P O s re fo ra tu we sh hn pic_5 set_4 zA_σ39 zS_σ39 (by omega) (by omega) x y zp39.2.1.1 zb3 zp39.2.1.2.2.1 zp39.2.1.2.2.2 q0 zp39.2.2 (qOk_q0 _ _ _ _) (by decide)) dX10_search_46 (by omega) rfl rfl rfl w_1049 qX6_scanInReach rfl ⟨Nat.le_of_ble_eq_true rfl, Nat.le_of_ble_eq_true rfl⟩ ⟨Nat.le_of_ble_eq_true rfl, Nat.le_of_ble_eq_true rfl⟩ (Nat.le_of_ble_eq_true rfl) rfl) rfl rfl (fun n' σ46 zp46 => ?_)
    obtain ⟨zn46, zp46⟩ := zp46
    have zn46 := zn46.symm
    subst zn46
    have zA_σ46 := zA_σ39.fc (by omega) zp46.1.fc
    have zS_σ46 := zS_σ39.fc (by omega) zp46.1.fc
    have zfs : fc 123 127 σ σ46 := zp39.1.tr (zp46.1.fc.wk (by omega) (by omega))
    have zTs : rT σ46 := zp39.2.1.2.1.fr (zp46.1.fc 127 (by omega))
    obtain ⟨q, hq⟩ : ∃ q, q = fr2 (scF w h T S F s fo tu we sh x y re) 0 w.toNat 0 h.toNat q0 := ⟨_, rfl⟩
    rw [← hq] at zp46
    obtain ⟨bx, by_, bw, bs, bd, so, sk, sp, lo⟩ := q
    obtain ⟨zf1, ⟨zq12, zq13, zq14, zq15, zq16, zq17, zq18, zq19⟩, zqo⟩ := zp46
    have zqd := zqo.d
    have zqx := b_xy hw1 zqd
    have zqr := b_r ⟨hw1, hw2⟩ ⟨hw3, hw4⟩ zqd
    have zse : sSe w h T S F s fo tu we sh x y re = (bx, by_, bw, bs, bd, so, sk, sp, lo) := hq.symm
    have zV := hV.scr zfs (by omega) zTs
    refine y_iload_n (pc := 49) hF dX10_search_49 3 rfl ?_
    rcases Decidable.em (a = 0) with zw50_0 | zw50_0
    · refine y_tswI (pc := 50) hF dX10_search_50 (off := 46) 0 zw50_0 (by decide) rfl 96 rfl ?_
      refine y_aload_n (pc := 96) hF dX10_search_96 0 rfl ?_
      refine y_get (pc := 97) (ci := 10) hF dX10_search_97 (by omega) rfl rfl rfl iX10 2 (by decide) w_489 rfl ?_
      refine y_aload_n (pc := 100) hF dX10_search_100 0 rfl ?_
      refine y_get (pc := 101) (ci := 10) hF dX10_search_101 (by omega) rfl rfl rfl iX10 8 (by decide) w_495 rfl ?_
      refine y_getN (pc := 104) (ci := 6) hF dX10_search_104 (by omega) rfl rfl rfl iX6 12 (by decide) w_381 rfl ?_
      rw [show σ46 123 12 = (if bx = -1 then -1 else by_ * w + bx) from zq12]
      have zz107 := y_rV (pc := 107) hF (tX4_xOf (n := n) (σ := σ46) 5 w h T S F P O hn pic_5 zA_σ46 (if bx = -1 then -1 else by_ * w + bx) zqr) dX10_search_107 (by have := pic_5.1; omega) (pic_5.2 g).1 rfl rfl w_994 qX4_xOf rfl ⟨Nat.le_of_ble_eq_true rfl, Nat.le_of_ble_eq_true rfl⟩ ⟨Nat.le_of_ble_eq_true rfl, Nat.le_of_ble_eq_true rfl⟩ (Nat.le_of_ble_eq_true rfl) rfl (rest := []) (cells := 0 + 1 + 1) (slots := 0 + 6 + 6) (lv := [(0, yR g 0), (1, yI x), (2, yI y), (3, yI a)])
      refine y_cp (zz107) ?_
      rw [show cx w (if bx = -1 then -1 else by_ * w + bx) = bx from zqx.1]
      exact y_retX (y_iret (pc := 110) hF dX10_search_110 (Nat.le_of_ble_eq_true rfl) (Nat.le_of_ble_eq_true rfl) ⟨_, rfl, Nat.le_refl _, zok, by rw [zse]; unfold qV; simp [zw50_0], zV, zfs.cF (by omega)⟩)
    rcases Decidable.em (a = 1) with zw50_1 | zw50_1
    · refine y_tswI (pc := 50) hF dX10_search_50 (off := 61) 1 zw50_1 (by decide) rfl 111 rfl ?_
      refine y_aload_n (pc := 111) hF dX10_search_111 0 rfl ?_
      refine y_get (pc := 112) (ci := 10) hF dX10_search_112 (by omega) rfl rfl rfl iX10 2 (by decide) w_489 rfl ?_
      refine y_aload_n (pc := 115) hF dX10_search_115 0 rfl ?_
      refine y_get (pc := 116) (ci := 10) hF dX10_search_116 (by omega) rfl rfl rfl iX10 8 (by decide) w_495 rfl ?_
      refine y_getN (pc := 119) (ci := 6) hF dX10_search_119 (by omega) rfl rfl rfl iX6 12 (by decide) w_381 rfl ?_
      rw [show σ46 123 12 = (if bx = -1 then -1 else by_ * w + bx) from zq12]
      have zz122 := y_rV (pc := 122) hF (tX4_yOf (n := n) (σ := σ46) 5 w h T S F P O hn pic_5 zA_σ46 (if bx = -1 then -1 else by_ * w + bx) zqr) dX10_search_122 (by have := pic_5.1; omega) (pic_5.2 g).1 rfl rfl w_995 qX4_yOf rfl ⟨Nat.le_of_ble_eq_true rfl, Nat.le_of_ble_eq_true rfl⟩ ⟨Nat.le_of_ble_eq_true rfl, Nat.le_of_ble_eq_true rfl⟩ (Nat.le_of_ble_eq_true rfl) rfl (rest := []) (cells := 0 + 1 + 1) (slots := 0 + 6 + 6) (lv := [(0, yR g 0), (1, yI x), (2, yI y), (3, yI a)])
      refine y_cp (zz122) ?_
      rw [show cy w (if bx = -1 then -1 else by_ * w + bx) = by_ from zqx.2]
      exact y_retX (y_iret (pc := 125) hF dX10_search_125 (Nat.le_of_ble_eq_true rfl) (Nat.le_of_ble_eq_true rfl) ⟨_, rfl, Nat.le_refl _, zok, by rw [zse]; unfold qV; simp [zw50_1], zV, zfs.cF (by omega)⟩)
    rcases Decidable.em (a = 2) with zw50_2 | zw50_2
    · refine y_tswI (pc := 50) hF dX10_search_50 (off := 76) 2 zw50_2 (by decide) rfl 126 rfl ?_
      refine y_aload_n (pc := 126) hF dX10_search_126 0 rfl ?_
      refine y_get (pc := 127) (ci := 10) hF dX10_search_127 (by omega) rfl rfl rfl iX10 8 (by decide) w_495 rfl ?_
      refine y_getN (pc := 130) (ci := 6) hF dX10_search_130 (by omega) rfl rfl rfl iX6 14 (by decide) w_388 rfl ?_
      rw [show σ46 123 14 = bd from zq14]
      exact y_retX (y_iret (pc := 133) hF dX10_search_133 (Nat.le_of_ble_eq_true rfl) (Nat.le_of_ble_eq_true rfl) ⟨_, rfl, Nat.le_refl _, zok, by rw [zse]; unfold qV; simp [zw50_2], zV, zfs.cF (by omega)⟩)
    rcases Decidable.em (a = 3) with zw50_3 | zw50_3
    · refine y_tswI (pc := 50) hF dX10_search_50 (off := 84) 3 zw50_3 (by decide) rfl 134 rfl ?_
      refine y_aload_n (pc := 134) hF dX10_search_134 0 rfl ?_
      refine y_get (pc := 135) (ci := 10) hF dX10_search_135 (by omega) rfl rfl rfl iX10 8 (by decide) w_495 rfl ?_
      refine y_getN (pc := 138) (ci := 6) hF dX10_search_138 (by omega) rfl rfl rfl iX6 16 (by decide) w_394 rfl ?_
      rw [show σ46 123 16 = so from zq16]
      exact y_retX (y_iret (pc := 141) hF dX10_search_141 (Nat.le_of_ble_eq_true rfl) (Nat.le_of_ble_eq_true rfl) ⟨_, rfl, Nat.le_refl _, zok, by rw [zse]; unfold qV; simp [zw50_3], zV, zfs.cF (by omega)⟩)
    rcases Decidable.em (a = 4) with zw50_4 | zw50_4
    · refine y_tswI (pc := 50) hF dX10_search_50 (off := 92) 4 zw50_4 (by decide) rfl 142 rfl ?_
      refine y_aload_n (pc := 142) hF dX10_search_142 0 rfl ?_
      refine y_get (pc := 143) (ci := 10) hF dX10_search_143 (by omega) rfl rfl rfl iX10 8 (by decide) w_495 rfl ?_
      refine y_getN (pc := 146) (ci := 6) hF dX10_search_146 (by omega) rfl rfl rfl iX6 17 (by decide) w_396 rfl ?_
      rw [show σ46 123 17 = sk from zq17]
      exact y_retX (y_iret (pc := 149) hF dX10_search_149 (Nat.le_of_ble_eq_true rfl) (Nat.le_of_ble_eq_true rfl) ⟨_, rfl, Nat.le_refl _, zok, by rw [zse]; unfold qV; simp [zw50_4], zV, zfs.cF (by omega)⟩)
    rcases Decidable.em (a = 5) with zw50_5 | zw50_5
    · refine y_tswI (pc := 50) hF dX10_search_50 (off := 100) 5 zw50_5 (by decide) rfl 150 rfl ?_
      refine y_aload_n (pc := 150) hF dX10_search_150 0 rfl ?_
      refine y_get (pc := 151) (ci := 10) hF dX10_search_151 (by omega) rfl rfl rfl iX10 8 (by decide) w_495 rfl ?_
      refine y_getN (pc := 154) (ci := 6) hF dX10_search_154 (by omega) rfl rfl rfl iX6 18 (by decide) w_398 rfl ?_
      rw [show σ46 123 18 = sp from zq18]
      exact y_retX (y_iret (pc := 157) hF dX10_search_157 (Nat.le_of_ble_eq_true rfl) (Nat.le_of_ble_eq_true rfl) ⟨_, rfl, Nat.le_refl _, zok, by rw [zse]; unfold qV; simp [zw50_5], zV, zfs.cF (by omega)⟩)
    rcases Decidable.em (a = 6) with zw50_6 | zw50_6
    · refine y_tswI (pc := 50) hF dX10_search_50 (off := 108) 6 zw50_6 (by decide) rfl 158 rfl ?_
      refine y_aload_n (pc := 158) hF dX10_search_158 0 rfl ?_
      refine y_get (pc := 159) (ci := 10) hF dX10_search_159 (by omega) rfl rfl rfl iX10 8 (by decide) w_495 rfl ?_
      refine y_getN (pc := 162) (ci := 6) hF dX10_search_162 (by omega) rfl rfl rfl iX6 19 (by decide) w_400 rfl ?_
      rw [show σ46 123 19 = lo from zq19]
      exact y_retX (y_iret (pc := 165) hF dX10_search_165 (Nat.le_of_ble_eq_true rfl) (Nat.le_of_ble_eq_true rfl) ⟨_, rfl, Nat.le_refl _, zok, by rw [zse]; unfold qV; simp [zw50_6], zV, zfs.cF (by omega)⟩)
    rcases Decidable.em (a = 7) with zw50_7 | zw50_7
    · refine y_tswI (pc := 50) hF dX10_search_50 (off := 116) 7 zw50_7 (by decide) rfl 166 rfl ?_
      refine y_aload_n (pc := 166) hF dX10_search_166 0 rfl ?_
      refine y_get (pc := 167) (ci := 10) hF dX10_search_167 (by omega) rfl rfl rfl iX10 8 (by decide) w_495 rfl ?_
      refine y_getN (pc := 170) (ci := 6) hF dX10_search_170 (by omega) rfl rfl rfl iX6 13 (by decide) w_385 rfl ?_
      rw [show σ46 123 13 = bw from zq13]
      exact y_retX (y_iret (pc := 173) hF dX10_search_173 (Nat.le_of_ble_eq_true rfl) (Nat.le_of_ble_eq_true rfl) ⟨_, rfl, Nat.le_refl _, zok, by rw [zse]; unfold qV; simp [zw50_7], zV, zfs.cF (by omega)⟩)
    refine y_tswO (pc := 50) hF dX10_search_50 (by omega) (by omega) 174 rfl ?_
    refine y_aload_n (pc := 174) hF dX10_search_174 0 rfl ?_
    refine y_get (pc := 175) (ci := 10) hF dX10_search_175 (by omega) rfl rfl rfl iX10 8 (by decide) w_495 rfl ?_
    refine y_getN (pc := 178) (ci := 6) hF dX10_search_178 (by omega) rfl rfl rfl iX6 15 (by decide) w_392 rfl ?_
    rw [show σ46 123 15 = bs from zq15]
    exact y_retX (y_iret (pc := 181) hF dX10_search_181 (Nat.le_of_ble_eq_true rfl) (Nat.le_of_ble_eq_true rfl) ⟨_, rfl, Nat.le_refl _, zok, by rw [zse]; unfold qV; simp [show a = 8 by omega], zV, zfs.cF (by omega)⟩)
  refine y_aload_n (pc := 6) hF dX10_search_6 0 rfl ?_
  refine y_iload_n (pc := 7) hF dX10_search_7 3 rfl ?_
  refine y_if_lt (pc := 8) hF dX10_search_8 21 rfl (by omega) (fun zc8 => ?_) (fun zc8 => ?_)
  · skip
    refine y_iconst (pc := 21) hF dX10_search_21 ?_
    exact zJ22 false (by simp; omega)
  · skip
    refine y_iload_n (pc := 11) hF dX10_search_11 3 rfl ?_
    refine y_bipush (pc := 12) hF dX10_search_12 (by decide) ?_
    refine y_icmp_gt (pc := 14) hF dX10_search_14 21 rfl (by omega) (by omega) (fun zc14 => ?_) (fun zc14 => ?_)
    · skip
      refine y_iconst (pc := 21) hF dX10_search_21 ?_
      exact zJ22 false (by simp; omega)
    · skip
      refine y_iconst (pc := 17) hF dX10_search_17 ?_
      refine y_goto (pc := 18) hF dX10_search_18 22 rfl ?_
      exact zJ22 true (by simp; omega)

theorem dX10_frontAnswer_0 : decode cX10_frontAnswer 0 = .ok (.aload_n 0, 1) := by decide +kernel
theorem dX10_frontAnswer_1 : decode cX10_frontAnswer 1 = .ok (.getfield 54, 3) := by decide +kernel
theorem dX10_frontAnswer_4 : decode cX10_frontAnswer 4 = .ok (.getfield 291, 3) := by decide +kernel
theorem dX10_frontAnswer_7 : decode cX10_frontAnswer 7 = .ok (.iload_n 1, 1) := by decide +kernel
theorem dX10_frontAnswer_8 : decode cX10_frontAnswer 8 = .ok (.iaload, 1) := by decide +kernel
theorem dX10_frontAnswer_9 : decode cX10_frontAnswer 9 = .ok (.istore_n 3, 1) := by decide +kernel
theorem dX10_frontAnswer_10 : decode cX10_frontAnswer 10 = .ok (.iload_n 2, 1) := by decide +kernel
theorem dX10_frontAnswer_11 : decode cX10_frontAnswer 11 = .ok (.lookupswitch 43 #[(0, 25), (1, 34)], 25) := by decide +kernel
theorem dX10_frontAnswer_36 : decode cX10_frontAnswer 36 = .ok (.aload_n 0, 1) := by decide +kernel
theorem dX10_frontAnswer_37 : decode cX10_frontAnswer 37 = .ok (.getfield 26, 3) := by decide +kernel
theorem dX10_frontAnswer_40 : decode cX10_frontAnswer 40 = .ok (.iload_n 3, 1) := by decide +kernel
theorem dX10_frontAnswer_41 : decode cX10_frontAnswer 41 = .ok (.invokevirtual 242, 3) := by decide +kernel
theorem dX10_frontAnswer_44 : decode cX10_frontAnswer 44 = .ok (.ireturn, 1) := by decide +kernel
theorem dX10_frontAnswer_45 : decode cX10_frontAnswer 45 = .ok (.aload_n 0, 1) := by decide +kernel
theorem dX10_frontAnswer_46 : decode cX10_frontAnswer 46 = .ok (.getfield 26, 3) := by decide +kernel
theorem dX10_frontAnswer_49 : decode cX10_frontAnswer 49 = .ok (.iload_n 3, 1) := by decide +kernel
theorem dX10_frontAnswer_50 : decode cX10_frontAnswer 50 = .ok (.invokevirtual 245, 3) := by decide +kernel
theorem dX10_frontAnswer_53 : decode cX10_frontAnswer 53 = .ok (.ireturn, 1) := by decide +kernel
theorem dX10_frontAnswer_54 : decode cX10_frontAnswer 54 = .ok (.aload_n 0, 1) := by decide +kernel
theorem dX10_frontAnswer_55 : decode cX10_frontAnswer 55 = .ok (.getfield 54, 3) := by decide +kernel
theorem dX10_frontAnswer_58 : decode cX10_frontAnswer 58 = .ok (.getfield 433, 3) := by decide +kernel
theorem dX10_frontAnswer_61 : decode cX10_frontAnswer 61 = .ok (.iload_n 1, 1) := by decide +kernel
theorem dX10_frontAnswer_62 : decode cX10_frontAnswer 62 = .ok (.iaload, 1) := by decide +kernel
theorem dX10_frontAnswer_63 : decode cX10_frontAnswer 63 = .ok (.ireturn, 1) := by decide +kernel
set_option maxHeartbeats 4000000 in
set_option maxRecDepth 100000 in
theorem tX10_frontAnswer {l : Launch} {g : yG} {n : Nat} {σ : yM} (hn : 172 ≤ n) (w h : Int) (T S F P O : Int → Int → Int) (s re fo ra tu we sh : Int) (hA : rC σ 5 w h T S F P O) (hF0 : rF σ (sFt w h T S s ra)) (p a : Int) (hp : 0 ≤ p ∧ p < (sFt w h T S s ra).length) (ha : -2147483648 ≤ a ∧ a < 2147483648) : yMet l g yX10_frontAnswer cX10_frontAnswer 4 (some .int) (rmL 2) [yR g 0, yI p, yI a] (SC g) n σ (SC g) (yPp (if a = 0 then (gk (sFt w h T S s ra) p).1 % w else if a = 1 then (gk (sFt w h T S s ra) p).1 / w else (gk (sFt w h T S s ra) p).2) n σ) := by
  obtain ⟨hw1, hw2, hw3, hw4⟩ := id hA.1.1
  have zft := sFt_at hA.1 (s := s) (ra := ra) hp.1 hp.2
  have zfl := hF0.2.1
  have zp4 : 0 ≤ p ∧ p < (400 : Int) := by omega
  have zff := hF0.2.2 p hp.1 hp.2
  have zri : -2147483648 ≤ (gk (sFt w h T S s ra) p).1 ∧ (gk (sFt w h T S s ra) p).1 < 2147483648 := by omega
  refine y_start (by decide) (Nat.le_of_ble_eq_true rfl) (fun X0 hF => ?_)
  show yV X0 g 4 (yQ X0 g (SC g) (yPp (if a = 0 then (gk (sFt w h T S s ra) p).1 % w else if a = 1 then (gk (sFt w h T S s ra) p).1 / w else (gk (sFt w h T S s ra) p).2) n σ) (rmL 2)) (SC g) n σ 0 0 0 [(0, yR g 0), (1, yI p), (2, yI a)] []
  refine y_aload_n (pc := 0) hF dX10_frontAnswer_0 0 rfl ?_
  refine y_get (pc := 1) (ci := 10) hF dX10_frontAnswer_1 (by omega) rfl rfl rfl iX10 7 (by decide) w_494 rfl ?_
  refine y_getN (pc := 4) (ci := 5) hF dX10_frontAnswer_4 (by omega) rfl rfl rfl iX5 7 (by decide) w_330 rfl ?_
  refine y_iload_n (pc := 7) hF dX10_frontAnswer_7 1 rfl ?_
  refine y_iaload (pc := 8) hF dX10_frontAnswer_8 (by omega) rfl zp4 (by decide) ?_
  rw [show σ 121 p = (gk (sFt w h T S s ra) p).1 from zff.1]
  refine y_istore_n (pc := 9) (lv' := [(0, yR g 0), (1, yI p), (2, yI a), (3, yI ((gk (sFt w h T S s ra) p).1))]) hF dX10_frontAnswer_9 (by decide) rfl rfl ?_
  refine y_iload_n (pc := 10) hF dX10_frontAnswer_10 2 rfl ?_
  rcases Decidable.em (a = 0) with zw11_0 | zw11_0
  · refine y_lsw (pc := 11) hF dX10_frontAnswer_11 (by decide) ha (off := 25) (by rw [zw11_0]; rfl) 36 rfl ?_
    refine y_aload_n (pc := 36) hF dX10_frontAnswer_36 0 rfl ?_
    refine y_get (pc := 37) (ci := 10) hF dX10_frontAnswer_37 (by omega) rfl rfl rfl iX10 2 (by decide) w_489 rfl ?_
    refine y_iload_n (pc := 40) hF dX10_frontAnswer_40 3 rfl ?_
    have zz41 := y_rV (pc := 41) hF (tX4_xOf (n := n) (σ := σ) 5 w h T S F P O hn pic_5 hA ((gk (sFt w h T S s ra) p).1) zri) dX10_frontAnswer_41 (by have := pic_5.1; omega) (pic_5.2 g).1 rfl rfl w_994 qX4_xOf rfl ⟨Nat.le_of_ble_eq_true rfl, Nat.le_of_ble_eq_true rfl⟩ ⟨Nat.zero_le _, Nat.zero_le _⟩ (Nat.le_of_ble_eq_true rfl) rfl (rest := []) (cells := 0) (slots := 0) (lv := [(0, yR g 0), (1, yI p), (2, yI a), (3, yI ((gk (sFt w h T S s ra) p).1))])
    refine y_cp (zz41) ?_
    rw [show cx w ((gk (sFt w h T S s ra) p).1) = (gk (sFt w h T S s ra) p).1 % w from (by unfold cx; rw [if_neg (by omega)])]
    exact y_iret (pc := 44) hF dX10_frontAnswer_44 (Nat.zero_le _) (Nat.zero_le _) ⟨_, rfl, by simp [zw11_0], rfl, rfl⟩
  rcases Decidable.em (a = 1) with zw11_1 | zw11_1
  · refine y_lsw (pc := 11) hF dX10_frontAnswer_11 (by decide) ha (off := 34) (by rw [zw11_1]; rfl) 45 rfl ?_
    refine y_aload_n (pc := 45) hF dX10_frontAnswer_45 0 rfl ?_
    refine y_get (pc := 46) (ci := 10) hF dX10_frontAnswer_46 (by omega) rfl rfl rfl iX10 2 (by decide) w_489 rfl ?_
    refine y_iload_n (pc := 49) hF dX10_frontAnswer_49 3 rfl ?_
    have zz50 := y_rV (pc := 50) hF (tX4_yOf (n := n) (σ := σ) 5 w h T S F P O hn pic_5 hA ((gk (sFt w h T S s ra) p).1) zri) dX10_frontAnswer_50 (by have := pic_5.1; omega) (pic_5.2 g).1 rfl rfl w_995 qX4_yOf rfl ⟨Nat.le_of_ble_eq_true rfl, Nat.le_of_ble_eq_true rfl⟩ ⟨Nat.zero_le _, Nat.zero_le _⟩ (Nat.le_of_ble_eq_true rfl) rfl (rest := []) (cells := 0) (slots := 0) (lv := [(0, yR g 0), (1, yI p), (2, yI a), (3, yI ((gk (sFt w h T S s ra) p).1))])
    refine y_cp (zz50) ?_
    rw [show cy w ((gk (sFt w h T S s ra) p).1) = (gk (sFt w h T S s ra) p).1 / w from (by unfold cy; rw [if_neg (by omega)])]
    exact y_iret (pc := 53) hF dX10_frontAnswer_53 (Nat.zero_le _) (Nat.zero_le _) ⟨_, rfl, by simp [zw11_1], rfl, rfl⟩
  refine y_lsw (pc := 11) hF dX10_frontAnswer_11 (by decide) ha (off := 43) (by simp [Op.lookupswitch.offset, zw11_0, Ne.symm zw11_0, zw11_1, Ne.symm zw11_1]) 54 rfl ?_
  refine y_aload_n (pc := 54) hF dX10_frontAnswer_54 0 rfl ?_
  refine y_get (pc := 55) (ci := 10) hF dX10_frontAnswer_55 (by omega) rfl rfl rfl iX10 7 (by decide) w_494 rfl ?_
  refine y_getN (pc := 58) (ci := 5) hF dX10_frontAnswer_58 (by omega) rfl rfl rfl iX5 8 (by decide) w_332 rfl ?_
  refine y_iload_n (pc := 61) hF dX10_frontAnswer_61 1 rfl ?_
  refine y_iaload (pc := 62) hF dX10_frontAnswer_62 (by omega) rfl zp4 (by decide) ?_
  rw [show σ 122 p = (gk (sFt w h T S s ra) p).2 from zff.2]
  exact y_iret (pc := 63) hF dX10_frontAnswer_63 (Nat.zero_le _) (Nat.zero_le _) ⟨_, rfl, by rw [if_neg zw11_0, if_neg zw11_1], rfl, rfl⟩

theorem dX10_next_0 : decode cX10_next 0 = .ok (.aload_n 0, 1) := by decide +kernel
theorem dX10_next_1 : decode cX10_next 1 = .ok (.iload_n 1, 1) := by decide +kernel
theorem dX10_next_2 : decode cX10_next 2 = .ok (.ifCond .lt 13, 3) := by decide +kernel
theorem dX10_next_5 : decode cX10_next 5 = .ok (.iload_n 1, 1) := by decide +kernel
theorem dX10_next_6 : decode cX10_next 6 = .ok (.bipush 6, 2) := by decide +kernel
theorem dX10_next_8 : decode cX10_next 8 = .ok (.if_icmp .gt 7, 3) := by decide +kernel
theorem dX10_next_11 : decode cX10_next 11 = .ok (.iconst 1, 1) := by decide +kernel
theorem dX10_next_12 : decode cX10_next 12 = .ok (.goto 4, 3) := by decide +kernel
theorem dX10_next_15 : decode cX10_next 15 = .ok (.iconst 0, 1) := by decide +kernel
theorem dX10_next_16 : decode cX10_next 16 = .ok (.invokevirtual 110, 3) := by decide +kernel
theorem dX10_next_19 : decode cX10_next 19 = .ok (.aload_n 0, 1) := by decide +kernel
theorem dX10_next_20 : decode cX10_next 20 = .ok (.getfield 54, 3) := by decide +kernel
theorem dX10_next_23 : decode cX10_next 23 = .ok (.aload_n 0, 1) := by decide +kernel
theorem dX10_next_24 : decode cX10_next 24 = .ok (.getfield 26, 3) := by decide +kernel
theorem dX10_next_27 : decode cX10_next 27 = .ok (.aload_n 0, 1) := by decide +kernel
theorem dX10_next_28 : decode cX10_next 28 = .ok (.getfield 19, 3) := by decide +kernel
theorem dX10_next_31 : decode cX10_next 31 = .ok (.invokevirtual 285, 3) := by decide +kernel
theorem dX10_next_34 : decode cX10_next 34 = .ok (.aload_n 0, 1) := by decide +kernel
theorem dX10_next_35 : decode cX10_next 35 = .ok (.getfield 54, 3) := by decide +kernel
theorem dX10_next_38 : decode cX10_next 38 = .ok (.invokevirtual 288, 3) := by decide +kernel
theorem dX10_next_41 : decode cX10_next 41 = .ok (.istore_n 2, 1) := by decide +kernel
theorem dX10_next_42 : decode cX10_next 42 = .ok (.iload_n 2, 1) := by decide +kernel
theorem dX10_next_43 : decode cX10_next 43 = .ok (.iconst (-1), 1) := by decide +kernel
theorem dX10_next_44 : decode cX10_next 44 = .ok (.if_icmp .ne 5, 3) := by decide +kernel
theorem dX10_next_47 : decode cX10_next 47 = .ok (.iconst (-1), 1) := by decide +kernel
theorem dX10_next_48 : decode cX10_next 48 = .ok (.ireturn, 1) := by decide +kernel
theorem dX10_next_49 : decode cX10_next 49 = .ok (.aload_n 0, 1) := by decide +kernel
theorem dX10_next_50 : decode cX10_next 50 = .ok (.getfield 54, 3) := by decide +kernel
theorem dX10_next_53 : decode cX10_next 53 = .ok (.getfield 291, 3) := by decide +kernel
theorem dX10_next_56 : decode cX10_next 56 = .ok (.iload_n 2, 1) := by decide +kernel
theorem dX10_next_57 : decode cX10_next 57 = .ok (.iaload, 1) := by decide +kernel
theorem dX10_next_58 : decode cX10_next 58 = .ok (.istore_n 3, 1) := by decide +kernel
theorem dX10_next_59 : decode cX10_next 59 = .ok (.iload_n 1, 1) := by decide +kernel
theorem dX10_next_60 : decode cX10_next 60 = .ok (.iconst 3, 1) := by decide +kernel
theorem dX10_next_61 : decode cX10_next 61 = .ok (.if_icmp .ge 10, 3) := by decide +kernel
theorem dX10_next_64 : decode cX10_next 64 = .ok (.aload_n 0, 1) := by decide +kernel
theorem dX10_next_65 : decode cX10_next 65 = .ok (.iload_n 2, 1) := by decide +kernel
theorem dX10_next_66 : decode cX10_next 66 = .ok (.iload_n 1, 1) := by decide +kernel
theorem dX10_next_67 : decode cX10_next 67 = .ok (.invokevirtual 294, 3) := by decide +kernel
theorem dX10_next_70 : decode cX10_next 70 = .ok (.ireturn, 1) := by decide +kernel
theorem dX10_next_71 : decode cX10_next 71 = .ok (.aload_n 0, 1) := by decide +kernel
theorem dX10_next_72 : decode cX10_next 72 = .ok (.getfield 63, 3) := by decide +kernel
theorem dX10_next_75 : decode cX10_next 75 = .ok (.aload_n 0, 1) := by decide +kernel
theorem dX10_next_76 : decode cX10_next 76 = .ok (.getfield 26, 3) := by decide +kernel
theorem dX10_next_79 : decode cX10_next 79 = .ok (.aload_n 0, 1) := by decide +kernel
theorem dX10_next_80 : decode cX10_next 80 = .ok (.getfield 19, 3) := by decide +kernel
theorem dX10_next_83 : decode cX10_next 83 = .ok (.aload_n 0, 1) := by decide +kernel
theorem dX10_next_84 : decode cX10_next 84 = .ok (.getfield 26, 3) := by decide +kernel
theorem dX10_next_87 : decode cX10_next 87 = .ok (.iload_n 3, 1) := by decide +kernel
theorem dX10_next_88 : decode cX10_next 88 = .ok (.invokevirtual 242, 3) := by decide +kernel
theorem dX10_next_91 : decode cX10_next 91 = .ok (.aload_n 0, 1) := by decide +kernel
theorem dX10_next_92 : decode cX10_next 92 = .ok (.getfield 26, 3) := by decide +kernel
theorem dX10_next_95 : decode cX10_next 95 = .ok (.iload_n 3, 1) := by decide +kernel
theorem dX10_next_96 : decode cX10_next 96 = .ok (.invokevirtual 245, 3) := by decide +kernel
theorem dX10_next_99 : decode cX10_next 99 = .ok (.invokevirtual 297, 3) := by decide +kernel
theorem dX10_next_102 : decode cX10_next 102 = .ok (.aload_n 0, 1) := by decide +kernel
theorem dX10_next_103 : decode cX10_next 103 = .ok (.getfield 63, 3) := by decide +kernel
theorem dX10_next_106 : decode cX10_next 106 = .ok (.invokevirtual 300, 3) := by decide +kernel
theorem dX10_next_109 : decode cX10_next 109 = .ok (.iload_n 1, 1) := by decide +kernel
theorem dX10_next_110 : decode cX10_next 110 = .ok (.tableswitch 64 3 5 #[26, 41, 56], 26) := by decide +kernel
theorem dX10_next_136 : decode cX10_next 136 = .ok (.aload_n 0, 1) := by decide +kernel
theorem dX10_next_137 : decode cX10_next 137 = .ok (.getfield 26, 3) := by decide +kernel
theorem dX10_next_140 : decode cX10_next 140 = .ok (.aload_n 0, 1) := by decide +kernel
theorem dX10_next_141 : decode cX10_next 141 = .ok (.getfield 63, 3) := by decide +kernel
theorem dX10_next_144 : decode cX10_next 144 = .ok (.getfield 303, 3) := by decide +kernel
theorem dX10_next_147 : decode cX10_next 147 = .ok (.invokevirtual 242, 3) := by decide +kernel
theorem dX10_next_150 : decode cX10_next 150 = .ok (.ireturn, 1) := by decide +kernel
theorem dX10_next_151 : decode cX10_next 151 = .ok (.aload_n 0, 1) := by decide +kernel
theorem dX10_next_152 : decode cX10_next 152 = .ok (.getfield 26, 3) := by decide +kernel
theorem dX10_next_155 : decode cX10_next 155 = .ok (.aload_n 0, 1) := by decide +kernel
theorem dX10_next_156 : decode cX10_next 156 = .ok (.getfield 63, 3) := by decide +kernel
theorem dX10_next_159 : decode cX10_next 159 = .ok (.getfield 303, 3) := by decide +kernel
theorem dX10_next_162 : decode cX10_next 162 = .ok (.invokevirtual 245, 3) := by decide +kernel
theorem dX10_next_165 : decode cX10_next 165 = .ok (.ireturn, 1) := by decide +kernel
theorem dX10_next_166 : decode cX10_next 166 = .ok (.aload_n 0, 1) := by decide +kernel
theorem dX10_next_167 : decode cX10_next 167 = .ok (.getfield 63, 3) := by decide +kernel
theorem dX10_next_170 : decode cX10_next 170 = .ok (.getfield 306, 3) := by decide +kernel
theorem dX10_next_173 : decode cX10_next 173 = .ok (.ireturn, 1) := by decide +kernel
theorem dX10_next_174 : decode cX10_next 174 = .ok (.aload_n 0, 1) := by decide +kernel
theorem dX10_next_175 : decode cX10_next 175 = .ok (.getfield 63, 3) := by decide +kernel
theorem dX10_next_178 : decode cX10_next 178 = .ok (.getfield 309, 3) := by decide +kernel
theorem dX10_next_181 : decode cX10_next 181 = .ok (.ireturn, 1) := by decide +kernel
set_option maxHeartbeats 4000000 in
set_option maxRecDepth 100000 in
theorem tX10_next {l : Launch} {g : yG} {n : Nat} {σ : yM} (hlt : l.stackTraces = false) (hn : 172 ≤ n) (w h : Int) (T S F P O : Int → Int → Int) (nf df nl : Int) (lg : Int → Int → Int) (s re fo ra tu we sh : Int) (H : List aX) (ht : Bool) (K : Int → Int → Int) (tl : Int) (tb : Int → Int) (fa r1 r2 N : Int) (hV : cV σ (w, h, (T, S, F, P, O, nf, df, nl, lg), (s, re, fo, ra, tu, we, sh), H, ht, K, tl, tb, fa, r1, r2)) (hW : aW N (w, h, (T, S, F, P, O, nf, df, nl, lg), (s, re, fo, ra, tu, we, sh), H, ht, K, tl, tb, fa, r1, r2)) (a : Int) (ha : -2147483648 ≤ a ∧ a < 2147483648) : yMX l g yX10_next cX10_next 4 (some .int) (rmA 8 4 24) [yR g 0, yI a] (SC g) n σ (SC g) (yPi (fun v n' σ' => n ≤ n' ∧ (0 ≤ a ∧ a ≤ 6) ∧ v = nV w h T S F s re fo ra tu we sh a ∧ cV σ' (w, h, (T, S, F, P, O, nf, df, nl, lg), (s, re, fo, ra, tu, we, sh), H, ht, K, tl, tb, fa, r1, r2) ∧ cF σ σ')) (fun E n' σ' => E = eA ∧ n ≤ n' ∧ ¬ (0 ≤ a ∧ a ≤ 6) ∧ cV σ' (bA (w, h, (T, S, F, P, O, nf, df, nl, lg), (s, re, fo, ra, tu, we, sh), H, ht, K, tl, tb, fa, r1, r2)) ∧ cF σ σ') := by
  obtain ⟨⟨hA, hJ⟩, hS, hH, ⟨hb1, hb2⟩, ⟨ht1, ht2⟩, hfa, hr1, hr2, hT⟩ := id hV
  obtain ⟨hw1, hw2, hw3, hw4⟩ := id hA.1.1
  obtain ⟨hs1, hs2, hs3, hs4, hs5, hs6, hs7⟩ := id hS.2
  have z128 : 128 < n := by omega
  have z129 : 129 < n := by omega
  have z130 : 130 < n := by omega
  have zrk : ∀ x y : Int, 0 ≤ x → x < w → 0 ≤ y → y < h → -1 < sRk w h T S s ra x y := fun x y a b c d => (sRk_pos hA.1 ⟨by omega, hs1.2⟩ a b c d).1
  have zgr : ∀ i : Int, 0 ≤ i → i < (sFt w h T S s ra).length → -2147483648 ≤ (gk (sFt w h T S s ra) i).2 ∧ (gk (sFt w h T S s ra) i).2 < 2147483648 := fun i a b => by have := sFt_rk hA.1 (s := s) (ra := ra) ⟨by omega, hs1.2⟩ a b; omega
  have zfl := sFt_len (w := w) (h := h) (T := T) (S := S) (s := s) (ra := ra) ⟨hw1, hw2⟩ ⟨hw3, hw4⟩
  have zfx0 := fm_nx' zrk
  have zfr : -2147483648 ≤ fm (sFt w h T S s ra) ∧ fm (sFt w h T S s ra) < 2147483648 := by have := fm_in' (sFt w h T S s ra); omega
  refine y_startX (by decide) (Nat.le_of_ble_eq_true rfl) (fun X0 hX => ?_)
  have hF := hX.1
  show yV X0 g 4 (yQX X0 g (SC g) (yPi (fun v n' σ' => n ≤ n' ∧ (0 ≤ a ∧ a ≤ 6) ∧ v = nV w h T S F s re fo ra tu we sh a ∧ cV σ' (w, h, (T, S, F, P, O, nf, df, nl, lg), (s, re, fo, ra, tu, we, sh), H, ht, K, tl, tb, fa, r1, r2) ∧ cF σ σ')) (fun E n' σ' => E = eA ∧ n ≤ n' ∧ ¬ (0 ≤ a ∧ a ≤ 6) ∧ cV σ' (bA (w, h, (T, S, F, P, O, nf, df, nl, lg), (s, re, fo, ra, tu, we, sh), H, ht, K, tl, tb, fa, r1, r2)) ∧ cF σ σ') (rmA 8 4 24)) (SC g) n σ 0 0 0 [(0, yR g 0), (1, yI a)] []
  have zJ16 : ∀ (zb : Bool), (zb = decide (0 ≤ a ∧ a ≤ 6)) → yV X0 g 4 (yQX X0 g (SC g) (yPi (fun v n' σ' => n ≤ n' ∧ (0 ≤ a ∧ a ≤ 6) ∧ v = nV w h T S F s re fo ra tu we sh a ∧ cV σ' (w, h, (T, S, F, P, O, nf, df, nl, lg), (s, re, fo, ra, tu, we, sh), H, ht, K, tl, tb, fa, r1, r2) ∧ cF σ σ')) (fun E n' σ' => E = eA ∧ n ≤ n' ∧ ¬ (0 ≤ a ∧ a ≤ 6) ∧ cV σ' (bA (w, h, (T, S, F, P, O, nf, df, nl, lg), (s, re, fo, ra, tu, we, sh), H, ht, K, tl, tb, fa, r1, r2)) ∧ cF σ σ') (rmA 8 4 24)) (SC g) n σ 0 0 16 [(0, yR g 0), (1, yI a)] [yI (bi zb), yR g 0] := by
    intro zb  zhb
    refine y_contX (cells' := 0 + 1) (slots' := 0 + 6) hX (y_rVX (pc := 16) hX (tX10_demand hlt hn zb) dX10_next_16 (by omega) rfl rfl rfl w_611 qX10_demand rfl ⟨Nat.le_of_ble_eq_true rfl, Nat.le_of_ble_eq_true rfl⟩ ⟨Nat.le_of_ble_eq_true rfl, Nat.le_of_ble_eq_true rfl⟩ (Nat.le_of_ble_eq_true rfl) rfl) rfl rfl ⟨Nat.le_of_ble_eq_true rfl, Nat.le_of_ble_eq_true rfl⟩ (fun E n' σ' zx => ⟨zx.1, zx.2.1, by have zq := zx.2.2.1; rw [zhb] at zq; simpa using zq, by rw [zx.2.2.2]; exact hV.bA, by rw [zx.2.2.2]; exact cF_N⟩) (fun r16 n' σ16 zp16 => ?_)
    obtain ⟨zr16, zp16⟩ := zp16
    subst zr16
    obtain ⟨zn16, zs16, zb16⟩ := zp16
    have zs16 := zs16.symm
    subst zs16
    have zn16 := zn16.symm
    subst zn16
    skip
    show yV X0 g 4 (yQX X0 g (SC g) (yPi (fun v n' σ' => n ≤ n' ∧ (0 ≤ a ∧ a ≤ 6) ∧ v = nV w h T S F s re fo ra tu we sh a ∧ cV σ' (w, h, (T, S, F, P, O, nf, df, nl, lg), (s, re, fo, ra, tu, we, sh), H, ht, K, tl, tb, fa, r1, r2) ∧ cF σ σ')) (fun E n' σ' => E = eA ∧ n ≤ n' ∧ ¬ (0 ≤ a ∧ a ≤ 6) ∧ cV σ' (bA (w, h, (T, S, F, P, O, nf, df, nl, lg), (s, re, fo, ra, tu, we, sh), H, ht, K, tl, tb, fa, r1, r2)) ∧ cF σ σ') (rmA 8 4 24)) (SC g) n σ (0 + 1) (0 + 6) 19 [(0, yR g 0), (1, yI a)] []
    have zok : 0 ≤ a ∧ a ≤ 6 := by have zq := zb16; rw [zhb] at zq; simpa using zq
    refine y_aload_n (pc := 19) hF dX10_next_19 0 rfl ?_
    refine y_get (pc := 20) (ci := 10) hF dX10_next_20 (by omega) rfl rfl rfl iX10 7 (by decide) w_494 rfl ?_
    refine y_aload_n (pc := 23) hF dX10_next_23 0 rfl ?_
    refine y_get (pc := 24) (ci := 10) hF dX10_next_24 (by omega) rfl rfl rfl iX10 2 (by decide) w_489 rfl ?_
    refine y_aload_n (pc := 27) hF dX10_next_27 0 rfl ?_
    refine y_get (pc := 28) (ci := 10) hF dX10_next_28 (by omega) rfl rfl rfl iX10 1 (by decide) w_488 rfl ?_
    refine y_cv (y_rV (pc := 31) hF (tX5_lineUp 5 4 w h T S F P O s re fo ra tu we sh hn pic_5 set_4 hA hS (by omega) (by omega)) dX10_next_31 (by omega) rfl rfl rfl w_1042 qX5_lineUp rfl ⟨Nat.le_of_ble_eq_true rfl, Nat.le_of_ble_eq_true rfl⟩ ⟨Nat.le_of_ble_eq_true rfl, Nat.le_of_ble_eq_true rfl⟩ (Nat.le_of_ble_eq_true rfl) rfl) rfl rfl (fun n' σ31 zp31 => ?_)
    obtain ⟨zn31, zp31⟩ := zp31
    have zn31 := zn31.symm
    subst zn31
    have zA_σ31 := hA.fc (by omega) zp31.1
    have zS_σ31 := hS.fc (by omega) zp31.1
    have zT_σ31 := hT.fr (zp31.1 127 (by omega))
    have zV1 := hV.scr zp31.1 (by omega) zT_σ31
    refine y_aload_n (pc := 34) hF dX10_next_34 0 rfl ?_
    refine y_get (pc := 35) (ci := 10) hF dX10_next_35 (by omega) rfl rfl rfl iX10 7 (by decide) w_494 rfl ?_
    have zz38 := y_rV (pc := 38) hF (tX5_foremost (n := n) (σ := σ31) (sFt w h T S s ra) hn zp31.2 zgr) dX10_next_38 (by omega) rfl rfl rfl w_1043 qX5_foremost rfl ⟨Nat.le_of_ble_eq_true rfl, Nat.le_of_ble_eq_true rfl⟩ ⟨Nat.le_of_ble_eq_true rfl, Nat.le_of_ble_eq_true rfl⟩ (Nat.le_of_ble_eq_true rfl) rfl (rest := []) (cells := 0 + 1) (slots := 0 + 6) (lv := [(0, yR g 0), (1, yI a)])
    refine y_cp (zz38) ?_
    refine y_istore_n (pc := 41) (lv' := [(0, yR g 0), (1, yI a), (2, yI (fm (sFt w h T S s ra)))]) hF dX10_next_41 (by decide) rfl rfl ?_
    refine y_iload_n (pc := 42) hF dX10_next_42 2 rfl ?_
    refine y_iconst (pc := 43) hF dX10_next_43 ?_
    refine y_icmp_ne (pc := 44) hF dX10_next_44 49 rfl zfr (by decide) (fun zc44 => ?_) (fun zc44 => ?_)
    · skip
      have zfx := zfx0.resolve_left (fun ze => zc44 ze.1)
      obtain ⟨x, hxe⟩ : ∃ v, v = (sNx w h T S s ra).1 := ⟨_, rfl⟩
      obtain ⟨y, hye⟩ : ∃ v, v = (sNx w h T S s ra).2.1 := ⟨_, rfl⟩
      rw [← hxe, ← hye] at zfx
      have zx : x ≠ -1 := by omega
      have zin : sIn w h x y = true := sIn_iff.mpr (by omega)
      have zix := y_ix (w := w) (h := h) (x := x) (y := y) ⟨hw1, hw2⟩ ⟨hw3, hw4⟩ (by omega) (by omega)
      have zdm := y_dm (w := w) (y := y) (x := x) (by omega)
      have zri : -2147483648 ≤ y * w + x ∧ y * w + x < 2147483648 := by omega
      have zfd : σ31 121 (fm (sFt w h T S s ra)) = y * w + x := by rw [(zp31.2.2.2 _ zfx.1 zfx.2.1).1, zfx.2.2.2.2]
      refine y_aload_n (pc := 49) hF dX10_next_49 0 rfl ?_
      refine y_get (pc := 50) (ci := 10) hF dX10_next_50 (by omega) rfl rfl rfl iX10 7 (by decide) w_494 rfl ?_
      refine y_getN (pc := 53) (ci := 5) hF dX10_next_53 (by omega) rfl rfl rfl iX5 7 (by decide) w_330 rfl ?_
      refine y_iload_n (pc := 56) hF dX10_next_56 2 rfl ?_
      refine y_iaload (pc := 57) hF dX10_next_57 (by omega) rfl ⟨zfx.1, by show _ < (400 : Int); omega⟩ (by decide) ?_
      rw [show σ31 121 (fm (sFt w h T S s ra)) = y * w + x from zfd]
      refine y_istore_n (pc := 58) (lv' := [(0, yR g 0), (1, yI a), (2, yI (fm (sFt w h T S s ra))), (3, yI (y * w + x))]) hF dX10_next_58 (by decide) rfl rfl ?_
      refine y_iload_n (pc := 59) hF dX10_next_59 1 rfl ?_
      refine y_iconst (pc := 60) hF dX10_next_60 ?_
      refine y_icmp_ge (pc := 61) hF dX10_next_61 71 rfl (by omega) (by omega) (fun zc61 => ?_) (fun zc61 => ?_)
      · skip
        refine y_aload_n (pc := 71) hF dX10_next_71 0 rfl ?_
        refine y_get (pc := 72) (ci := 10) hF dX10_next_72 (by omega) rfl rfl rfl iX10 8 (by decide) w_495 rfl ?_
        refine y_aload_n (pc := 75) hF dX10_next_75 0 rfl ?_
        refine y_get (pc := 76) (ci := 10) hF dX10_next_76 (by omega) rfl rfl rfl iX10 2 (by decide) w_489 rfl ?_
        refine y_aload_n (pc := 79) hF dX10_next_79 0 rfl ?_
        refine y_get (pc := 80) (ci := 10) hF dX10_next_80 (by omega) rfl rfl rfl iX10 1 (by decide) w_488 rfl ?_
        refine y_aload_n (pc := 83) hF dX10_next_83 0 rfl ?_
        refine y_get (pc := 84) (ci := 10) hF dX10_next_84 (by omega) rfl rfl rfl iX10 2 (by decide) w_489 rfl ?_
        refine y_iload_n (pc := 87) hF dX10_next_87 3 rfl ?_
        have zz88 := y_rV (pc := 88) hF (tX4_xOf (n := n) (σ := σ31) 5 w h T S F P O hn pic_5 zA_σ31 (y * w + x) zri) dX10_next_88 (by have := pic_5.1; omega) (pic_5.2 g).1 rfl rfl w_994 qX4_xOf rfl ⟨Nat.le_of_ble_eq_true rfl, Nat.le_of_ble_eq_true rfl⟩ ⟨Nat.le_of_ble_eq_true rfl, Nat.le_of_ble_eq_true rfl⟩ (Nat.le_of_ble_eq_true rfl) rfl (rest := [yR g 4, yR g 5, yR g 123]) (cells := 0 + 1) (slots := 0 + 6) (lv := [(0, yR g 0), (1, yI a), (2, yI (fm (sFt w h T S s ra))), (3, yI (y * w + x))])
        refine y_cp (zz88) ?_
        rw [show cx w (y * w + x) = x from (by unfold cx; rw [if_neg (by omega), zdm.1])]
        refine y_aload_n (pc := 91) hF dX10_next_91 0 rfl ?_
        refine y_get (pc := 92) (ci := 10) hF dX10_next_92 (by omega) rfl rfl rfl iX10 2 (by decide) w_489 rfl ?_
        refine y_iload_n (pc := 95) hF dX10_next_95 3 rfl ?_
        have zz96 := y_rV (pc := 96) hF (tX4_yOf (n := n) (σ := σ31) 5 w h T S F P O hn pic_5 zA_σ31 (y * w + x) zri) dX10_next_96 (by have := pic_5.1; omega) (pic_5.2 g).1 rfl rfl w_995 qX4_yOf rfl ⟨Nat.le_of_ble_eq_true rfl, Nat.le_of_ble_eq_true rfl⟩ ⟨Nat.le_of_ble_eq_true rfl, Nat.le_of_ble_eq_true rfl⟩ (Nat.le_of_ble_eq_true rfl) rfl (rest := [yI x, yR g 4, yR g 5, yR g 123]) (cells := 0 + 1) (slots := 0 + 6) (lv := [(0, yR g 0), (1, yI a), (2, yI (fm (sFt w h T S s ra))), (3, yI (y * w + x))])
        refine y_cp (zz96) ?_
        rw [show cy w (y * w + x) = y from (by unfold cy; rw [if_neg (by omega), zdm.2])]
        refine y_cv (y_rV (pc := 99) hF (tX6_aim 5 4 w h T S F P O s re fo ra tu we sh hn pic_5 set_4 zA_σ31 zS_σ31 (by omega) (by omega) zT_σ31 x y zin) dX10_next_99 (by omega) rfl rfl rfl w_1048 qX6_aim rfl ⟨Nat.le_of_ble_eq_true rfl, Nat.le_of_ble_eq_true rfl⟩ ⟨Nat.le_of_ble_eq_true rfl, Nat.le_of_ble_eq_true rfl⟩ (Nat.le_of_ble_eq_true rfl) rfl) rfl rfl (fun n' σ99 zp99 => ?_)
        obtain ⟨zn99, zp99⟩ := zp99
        have zn99 := zn99.symm
        subst zn99
        have zA_σ99 := zA_σ31.fc (by omega) zp99.1
        have zS_σ99 := zS_σ31.fc (by omega) zp99.1
        refine y_aload_n (pc := 102) hF dX10_next_102 0 rfl ?_
        refine y_get (pc := 103) (ci := 10) hF dX10_next_103 (by omega) rfl rfl rfl iX10 8 (by decide) w_495 rfl ?_
        refine y_cv (y_rV (pc := 106) hF (tX6_scanInReach 5 4 w h T S F P O s re fo ra tu we sh hn pic_5 set_4 zA_σ99 zS_σ99 (by omega) (by omega) x y zp99.2.1.1 zin zp99.2.1.2.2.1 zp99.2.1.2.2.2 q0 zp99.2.2 (qOk_q0 _ _ _ _) (by decide)) dX10_next_106 (by omega) rfl rfl rfl w_1049 qX6_scanInReach rfl ⟨Nat.le_of_ble_eq_true rfl, Nat.le_of_ble_eq_true rfl⟩ ⟨Nat.le_of_ble_eq_true rfl, Nat.le_of_ble_eq_true rfl⟩ (Nat.le_of_ble_eq_true rfl) rfl) rfl rfl (fun n' σ106 zp106 => ?_)
        obtain ⟨zn106, zp106⟩ := zp106
        have zn106 := zn106.symm
        subst zn106
        have zA_σ106 := zA_σ99.fc (by omega) zp106.1.fc
        have zS_σ106 := zS_σ99.fc (by omega) zp106.1.fc
        have zfs : fc 123 127 σ31 σ106 := zp99.1.tr (zp106.1.fc.wk (by omega) (by omega))
        have zTs : rT σ106 := zp99.2.1.2.1.fr (zp106.1.fc 127 (by omega))
        obtain ⟨q, hq⟩ : ∃ q, q = fr2 (scF w h T S F s fo tu we sh x y re) 0 w.toNat 0 h.toNat q0 := ⟨_, rfl⟩
        rw [← hq] at zp106
        obtain ⟨bx, by_, bw, bs, bd, so, sk, sp, lo⟩ := q
        obtain ⟨zf1, ⟨zq12, zq13, zq14, zq15, zq16, zq17, zq18, zq19⟩, zqo⟩ := zp106
        have zqd := zqo.d
        have zqx := b_xy hw1 zqd
        have zqr := b_r ⟨hw1, hw2⟩ ⟨hw3, hw4⟩ zqd
        have zse : sSe w h T S F s fo tu we sh x y re = (bx, by_, bw, bs, bd, so, sk, sp, lo) := hq.symm
        have zV := zV1.scr zfs (by omega) zTs
        refine y_iload_n (pc := 109) hF dX10_next_109 1 rfl ?_
        rcases Decidable.em (a = 3) with zw110_3 | zw110_3
        · refine y_tswI (pc := 110) hF dX10_next_110 (off := 26) 3 zw110_3 (by decide) rfl 136 rfl ?_
          refine y_aload_n (pc := 136) hF dX10_next_136 0 rfl ?_
          refine y_get (pc := 137) (ci := 10) hF dX10_next_137 (by omega) rfl rfl rfl iX10 2 (by decide) w_489 rfl ?_
          refine y_aload_n (pc := 140) hF dX10_next_140 0 rfl ?_
          refine y_get (pc := 141) (ci := 10) hF dX10_next_141 (by omega) rfl rfl rfl iX10 8 (by decide) w_495 rfl ?_
          refine y_getN (pc := 144) (ci := 6) hF dX10_next_144 (by omega) rfl rfl rfl iX6 12 (by decide) w_381 rfl ?_
          rw [show σ106 123 12 = (if bx = -1 then -1 else by_ * w + bx) from zq12]
          have zz147 := y_rV (pc := 147) hF (tX4_xOf (n := n) (σ := σ106) 5 w h T S F P O hn pic_5 zA_σ106 (if bx = -1 then -1 else by_ * w + bx) zqr) dX10_next_147 (by have := pic_5.1; omega) (pic_5.2 g).1 rfl rfl w_994 qX4_xOf rfl ⟨Nat.le_of_ble_eq_true rfl, Nat.le_of_ble_eq_true rfl⟩ ⟨Nat.le_of_ble_eq_true rfl, Nat.le_of_ble_eq_true rfl⟩ (Nat.le_of_ble_eq_true rfl) rfl (rest := []) (cells := 0 + 1) (slots := 0 + 6) (lv := [(0, yR g 0), (1, yI a), (2, yI (fm (sFt w h T S s ra))), (3, yI (y * w + x))])
          refine y_cp (zz147) ?_
          rw [show cx w (if bx = -1 then -1 else by_ * w + bx) = bx from zqx.1]
          exact y_retX (y_iret (pc := 150) hF dX10_next_150 (Nat.le_of_ble_eq_true rfl) (Nat.le_of_ble_eq_true rfl) ⟨_, rfl, Nat.le_refl _, zok, by unfold nV; rw [← hxe, ← hye, if_neg zx, zse]; unfold qV; simp [zw110_3], zV, (zp31.1.cF (by omega)).tr (zfs.cF (by omega))⟩)
        rcases Decidable.em (a = 4) with zw110_4 | zw110_4
        · refine y_tswI (pc := 110) hF dX10_next_110 (off := 41) 4 zw110_4 (by decide) rfl 151 rfl ?_
          refine y_aload_n (pc := 151) hF dX10_next_151 0 rfl ?_
          refine y_get (pc := 152) (ci := 10) hF dX10_next_152 (by omega) rfl rfl rfl iX10 2 (by decide) w_489 rfl ?_
          refine y_aload_n (pc := 155) hF dX10_next_155 0 rfl ?_
          refine y_get (pc := 156) (ci := 10) hF dX10_next_156 (by omega) rfl rfl rfl iX10 8 (by decide) w_495 rfl ?_
          refine y_getN (pc := 159) (ci := 6) hF dX10_next_159 (by omega) rfl rfl rfl iX6 12 (by decide) w_381 rfl ?_
          rw [show σ106 123 12 = (if bx = -1 then -1 else by_ * w + bx) from zq12]
          have zz162 := y_rV (pc := 162) hF (tX4_yOf (n := n) (σ := σ106) 5 w h T S F P O hn pic_5 zA_σ106 (if bx = -1 then -1 else by_ * w + bx) zqr) dX10_next_162 (by have := pic_5.1; omega) (pic_5.2 g).1 rfl rfl w_995 qX4_yOf rfl ⟨Nat.le_of_ble_eq_true rfl, Nat.le_of_ble_eq_true rfl⟩ ⟨Nat.le_of_ble_eq_true rfl, Nat.le_of_ble_eq_true rfl⟩ (Nat.le_of_ble_eq_true rfl) rfl (rest := []) (cells := 0 + 1) (slots := 0 + 6) (lv := [(0, yR g 0), (1, yI a), (2, yI (fm (sFt w h T S s ra))), (3, yI (y * w + x))])
          refine y_cp (zz162) ?_
          rw [show cy w (if bx = -1 then -1 else by_ * w + bx) = by_ from zqx.2]
          exact y_retX (y_iret (pc := 165) hF dX10_next_165 (Nat.le_of_ble_eq_true rfl) (Nat.le_of_ble_eq_true rfl) ⟨_, rfl, Nat.le_refl _, zok, by unfold nV; rw [← hxe, ← hye, if_neg zx, zse]; unfold qV; simp [zw110_4], zV, (zp31.1.cF (by omega)).tr (zfs.cF (by omega))⟩)
        rcases Decidable.em (a = 5) with zw110_5 | zw110_5
        · refine y_tswI (pc := 110) hF dX10_next_110 (off := 56) 5 zw110_5 (by decide) rfl 166 rfl ?_
          refine y_aload_n (pc := 166) hF dX10_next_166 0 rfl ?_
          refine y_get (pc := 167) (ci := 10) hF dX10_next_167 (by omega) rfl rfl rfl iX10 8 (by decide) w_495 rfl ?_
          refine y_getN (pc := 170) (ci := 6) hF dX10_next_170 (by omega) rfl rfl rfl iX6 14 (by decide) w_388 rfl ?_
          rw [show σ106 123 14 = bd from zq14]
          exact y_retX (y_iret (pc := 173) hF dX10_next_173 (Nat.le_of_ble_eq_true rfl) (Nat.le_of_ble_eq_true rfl) ⟨_, rfl, Nat.le_refl _, zok, by unfold nV; rw [← hxe, ← hye, if_neg zx, zse]; unfold qV; simp [zw110_5], zV, (zp31.1.cF (by omega)).tr (zfs.cF (by omega))⟩)
        refine y_tswO (pc := 110) hF dX10_next_110 (by omega) (by omega) 174 rfl ?_
        refine y_aload_n (pc := 174) hF dX10_next_174 0 rfl ?_
        refine y_get (pc := 175) (ci := 10) hF dX10_next_175 (by omega) rfl rfl rfl iX10 8 (by decide) w_495 rfl ?_
        refine y_getN (pc := 178) (ci := 6) hF dX10_next_178 (by omega) rfl rfl rfl iX6 13 (by decide) w_385 rfl ?_
        rw [show σ106 123 13 = bw from zq13]
        exact y_retX (y_iret (pc := 181) hF dX10_next_181 (Nat.le_of_ble_eq_true rfl) (Nat.le_of_ble_eq_true rfl) ⟨_, rfl, Nat.le_refl _, zok, by unfold nV; rw [← hxe, ← hye, if_neg zx, zse]; unfold qV; simp [show a = 6 by omega], zV, (zp31.1.cF (by omega)).tr (zfs.cF (by omega))⟩)
      · skip
        refine y_aload_n (pc := 64) hF dX10_next_64 0 rfl ?_
        refine y_iload_n (pc := 65) hF dX10_next_65 2 rfl ?_
        refine y_iload_n (pc := 66) hF dX10_next_66 1 rfl ?_
        have zz67 := y_rV (pc := 67) hF (tX10_frontAnswer (n := n) (σ := σ31) hn w h T S F P O s re fo ra tu we sh zA_σ31 zp31.2 (fm (sFt w h T S s ra)) a ⟨zfx.1, zfx.2.1⟩ ha) dX10_next_67 (by omega) rfl rfl rfl w_1044 qX10_frontAnswer rfl ⟨Nat.le_of_ble_eq_true rfl, Nat.le_of_ble_eq_true rfl⟩ ⟨Nat.le_of_ble_eq_true rfl, Nat.le_of_ble_eq_true rfl⟩ (Nat.le_of_ble_eq_true rfl) rfl (rest := []) (cells := 0 + 1) (slots := 0 + 6) (lv := [(0, yR g 0), (1, yI a), (2, yI (fm (sFt w h T S s ra))), (3, yI (y * w + x))])
        refine y_cp (zz67) ?_
        exact y_retX (y_iret (pc := 70) hF dX10_next_70 (Nat.le_of_ble_eq_true rfl) (Nat.le_of_ble_eq_true rfl) ⟨_, rfl, Nat.le_refl _, zok, by unfold nV; rw [zfx.2.2.2.2, ← hxe, ← hye, if_neg zx, zdm.1, zdm.2]; rcases (show a = 0 ∨ a = 1 ∨ a = 2 by omega) with ze | ze | ze <;> simp [ze], zV1, zp31.1.cF (by omega)⟩)
    · skip
      refine y_iconst (pc := 47) hF dX10_next_47 ?_
      exact y_retX (y_iret (pc := 48) hF dX10_next_48 (Nat.le_of_ble_eq_true rfl) (Nat.le_of_ble_eq_true rfl) ⟨_, rfl, Nat.le_refl _, zok, by unfold nV; rw [if_pos (by rcases zfx0 with ze | ze; exact ze.2; omega)], zV1, zp31.1.cF (by omega)⟩)
  refine y_aload_n (pc := 0) hF dX10_next_0 0 rfl ?_
  refine y_iload_n (pc := 1) hF dX10_next_1 1 rfl ?_
  refine y_if_lt (pc := 2) hF dX10_next_2 15 rfl (by omega) (fun zc2 => ?_) (fun zc2 => ?_)
  · skip
    refine y_iconst (pc := 15) hF dX10_next_15 ?_
    exact zJ16 false (by simp; omega)
  · skip
    refine y_iload_n (pc := 5) hF dX10_next_5 1 rfl ?_
    refine y_bipush (pc := 6) hF dX10_next_6 (by decide) ?_
    refine y_icmp_gt (pc := 8) hF dX10_next_8 15 rfl (by omega) (by omega) (fun zc8 => ?_) (fun zc8 => ?_)
    · skip
      refine y_iconst (pc := 15) hF dX10_next_15 ?_
      exact zJ16 false (by simp; omega)
    · skip
      refine y_iconst (pc := 11) hF dX10_next_11 ?_
      refine y_goto (pc := 12) hF dX10_next_12 16 rfl ?_
      exact zJ16 true (by simp; omega)

theorem dX10_front_0 : decode cX10_front 0 = .ok (.aload_n 0, 1) := by decide +kernel
theorem dX10_front_1 : decode cX10_front 1 = .ok (.iload_n 2, 1) := by decide +kernel
theorem dX10_front_2 : decode cX10_front 2 = .ok (.ifCond .lt 12, 3) := by decide +kernel
theorem dX10_front_5 : decode cX10_front 5 = .ok (.iload_n 2, 1) := by decide +kernel
theorem dX10_front_6 : decode cX10_front 6 = .ok (.iconst 2, 1) := by decide +kernel
theorem dX10_front_7 : decode cX10_front 7 = .ok (.if_icmp .gt 7, 3) := by decide +kernel
theorem dX10_front_10 : decode cX10_front 10 = .ok (.iconst 1, 1) := by decide +kernel
theorem dX10_front_11 : decode cX10_front 11 = .ok (.goto 4, 3) := by decide +kernel
theorem dX10_front_14 : decode cX10_front 14 = .ok (.iconst 0, 1) := by decide +kernel
theorem dX10_front_15 : decode cX10_front 15 = .ok (.invokevirtual 110, 3) := by decide +kernel
theorem dX10_front_18 : decode cX10_front 18 = .ok (.aload_n 0, 1) := by decide +kernel
theorem dX10_front_19 : decode cX10_front 19 = .ok (.getfield 54, 3) := by decide +kernel
theorem dX10_front_22 : decode cX10_front 22 = .ok (.aload_n 0, 1) := by decide +kernel
theorem dX10_front_23 : decode cX10_front 23 = .ok (.getfield 26, 3) := by decide +kernel
theorem dX10_front_26 : decode cX10_front 26 = .ok (.aload_n 0, 1) := by decide +kernel
theorem dX10_front_27 : decode cX10_front 27 = .ok (.getfield 19, 3) := by decide +kernel
theorem dX10_front_30 : decode cX10_front 30 = .ok (.invokevirtual 285, 3) := by decide +kernel
theorem dX10_front_33 : decode cX10_front 33 = .ok (.aload_n 0, 1) := by decide +kernel
theorem dX10_front_34 : decode cX10_front 34 = .ok (.getfield 54, 3) := by decide +kernel
theorem dX10_front_37 : decode cX10_front 37 = .ok (.iload_n 1, 1) := by decide +kernel
theorem dX10_front_38 : decode cX10_front 38 = .ok (.invokevirtual 344, 3) := by decide +kernel
theorem dX10_front_41 : decode cX10_front 41 = .ok (.istore_n 3, 1) := by decide +kernel
theorem dX10_front_42 : decode cX10_front 42 = .ok (.iload_n 3, 1) := by decide +kernel
theorem dX10_front_43 : decode cX10_front 43 = .ok (.iconst (-1), 1) := by decide +kernel
theorem dX10_front_44 : decode cX10_front 44 = .ok (.if_icmp .ne 7, 3) := by decide +kernel
theorem dX10_front_47 : decode cX10_front 47 = .ok (.iconst (-1), 1) := by decide +kernel
theorem dX10_front_48 : decode cX10_front 48 = .ok (.goto 9, 3) := by decide +kernel
theorem dX10_front_51 : decode cX10_front 51 = .ok (.aload_n 0, 1) := by decide +kernel
theorem dX10_front_52 : decode cX10_front 52 = .ok (.iload_n 3, 1) := by decide +kernel
theorem dX10_front_53 : decode cX10_front 53 = .ok (.iload_n 2, 1) := by decide +kernel
theorem dX10_front_54 : decode cX10_front 54 = .ok (.invokevirtual 294, 3) := by decide +kernel
theorem dX10_front_57 : decode cX10_front 57 = .ok (.ireturn, 1) := by decide +kernel
set_option maxHeartbeats 4000000 in
set_option maxRecDepth 100000 in
theorem tX10_front {l : Launch} {g : yG} {n : Nat} {σ : yM} (hlt : l.stackTraces = false) (hn : 172 ≤ n) (w h : Int) (T S F P O : Int → Int → Int) (nf df nl : Int) (lg : Int → Int → Int) (s re fo ra tu we sh : Int) (H : List aX) (ht : Bool) (K : Int → Int → Int) (tl : Int) (tb : Int → Int) (fa r1 r2 N : Int) (hV : cV σ (w, h, (T, S, F, P, O, nf, df, nl, lg), (s, re, fo, ra, tu, we, sh), H, ht, K, tl, tb, fa, r1, r2)) (hW : aW N (w, h, (T, S, F, P, O, nf, df, nl, lg), (s, re, fo, ra, tu, we, sh), H, ht, K, tl, tb, fa, r1, r2)) (k a : Int) (hk : -2147483648 ≤ k ∧ k < 2147483648) (ha : -2147483648 ≤ a ∧ a < 2147483648) : yMX l g yX10_front cX10_front 4 (some .int) (rmA 8 4 24) [yR g 0, yI k, yI a] (SC g) n σ (SC g) (yPi (fun v n' σ' => n ≤ n' ∧ (0 ≤ a ∧ a ≤ 2) ∧ v = ftV w h T S s ra k a ∧ cV σ' (w, h, (T, S, F, P, O, nf, df, nl, lg), (s, re, fo, ra, tu, we, sh), H, ht, K, tl, tb, fa, r1, r2) ∧ cF σ σ')) (fun E n' σ' => E = eA ∧ n ≤ n' ∧ ¬ (0 ≤ a ∧ a ≤ 2) ∧ cV σ' (bA (w, h, (T, S, F, P, O, nf, df, nl, lg), (s, re, fo, ra, tu, we, sh), H, ht, K, tl, tb, fa, r1, r2)) ∧ cF σ σ') := by
  obtain ⟨⟨hA, hJ⟩, hS, hH, ⟨hb1, hb2⟩, ⟨ht1, ht2⟩, hfa, hr1, hr2, hT⟩ := id hV
  obtain ⟨hw1, hw2, hw3, hw4⟩ := id hA.1.1
  obtain ⟨hs1, hs2, hs3, hs4, hs5, hs6, hs7⟩ := id hS.2
  have z128 : 128 < n := by omega
  have z129 : 129 < n := by omega
  have z130 : 130 < n := by omega
  have zrk : ∀ x y : Int, 0 ≤ x → x < w → 0 ≤ y → y < h → -1 < sRk w h T S s ra x y := fun x y a b c d => (sRk_pos hA.1 ⟨by omega, hs1.2⟩ a b c d).1
  have zgr : ∀ i : Int, 0 ≤ i → i < (sFt w h T S s ra).length → -2147483648 ≤ (gk (sFt w h T S s ra) i).2 ∧ (gk (sFt w h T S s ra) i).2 < 2147483648 := fun i a b => by have := sFt_rk hA.1 (s := s) (ra := ra) ⟨by omega, hs1.2⟩ a b; omega
  have zfl := sFt_len (w := w) (h := h) (T := T) (S := S) (s := s) (ra := ra) ⟨hw1, hw2⟩ ⟨hw3, hw4⟩
  have zpi := sPo_in (sFt w h T S s ra) k
  have zpr : -2147483648 ≤ (sPo (sFt w h T S s ra) k) ∧ (sPo (sFt w h T S s ra) k) < 2147483648 := by omega
  refine y_startX (by decide) (Nat.le_of_ble_eq_true rfl) (fun X0 hX => ?_)
  have hF := hX.1
  show yV X0 g 4 (yQX X0 g (SC g) (yPi (fun v n' σ' => n ≤ n' ∧ (0 ≤ a ∧ a ≤ 2) ∧ v = ftV w h T S s ra k a ∧ cV σ' (w, h, (T, S, F, P, O, nf, df, nl, lg), (s, re, fo, ra, tu, we, sh), H, ht, K, tl, tb, fa, r1, r2) ∧ cF σ σ')) (fun E n' σ' => E = eA ∧ n ≤ n' ∧ ¬ (0 ≤ a ∧ a ≤ 2) ∧ cV σ' (bA (w, h, (T, S, F, P, O, nf, df, nl, lg), (s, re, fo, ra, tu, we, sh), H, ht, K, tl, tb, fa, r1, r2)) ∧ cF σ σ') (rmA 8 4 24)) (SC g) n σ 0 0 0 [(0, yR g 0), (1, yI k), (2, yI a)] []
  have zJ15 : ∀ (zb : Bool), (zb = decide (0 ≤ a ∧ a ≤ 2)) → yV X0 g 4 (yQX X0 g (SC g) (yPi (fun v n' σ' => n ≤ n' ∧ (0 ≤ a ∧ a ≤ 2) ∧ v = ftV w h T S s ra k a ∧ cV σ' (w, h, (T, S, F, P, O, nf, df, nl, lg), (s, re, fo, ra, tu, we, sh), H, ht, K, tl, tb, fa, r1, r2) ∧ cF σ σ')) (fun E n' σ' => E = eA ∧ n ≤ n' ∧ ¬ (0 ≤ a ∧ a ≤ 2) ∧ cV σ' (bA (w, h, (T, S, F, P, O, nf, df, nl, lg), (s, re, fo, ra, tu, we, sh), H, ht, K, tl, tb, fa, r1, r2)) ∧ cF σ σ') (rmA 8 4 24)) (SC g) n σ 0 0 15 [(0, yR g 0), (1, yI k), (2, yI a)] [yI (bi zb), yR g 0] := by
    intro zb  zhb
    refine y_contX (cells' := 0 + 1) (slots' := 0 + 6) hX (y_rVX (pc := 15) hX (tX10_demand hlt hn zb) dX10_front_15 (by omega) rfl rfl rfl w_611 qX10_demand rfl ⟨Nat.le_of_ble_eq_true rfl, Nat.le_of_ble_eq_true rfl⟩ ⟨Nat.le_of_ble_eq_true rfl, Nat.le_of_ble_eq_true rfl⟩ (Nat.le_of_ble_eq_true rfl) rfl) rfl rfl ⟨Nat.le_of_ble_eq_true rfl, Nat.le_of_ble_eq_true rfl⟩ (fun E n' σ' zx => ⟨zx.1, zx.2.1, by have zq := zx.2.2.1; rw [zhb] at zq; simpa using zq, by rw [zx.2.2.2]; exact hV.bA, by rw [zx.2.2.2]; exact cF_N⟩) (fun r15 n' σ15 zp15 => ?_)
    obtain ⟨zr15, zp15⟩ := zp15
    subst zr15
    obtain ⟨zn15, zs15, zb15⟩ := zp15
    have zs15 := zs15.symm
    subst zs15
    have zn15 := zn15.symm
    subst zn15
    skip
    show yV X0 g 4 (yQX X0 g (SC g) (yPi (fun v n' σ' => n ≤ n' ∧ (0 ≤ a ∧ a ≤ 2) ∧ v = ftV w h T S s ra k a ∧ cV σ' (w, h, (T, S, F, P, O, nf, df, nl, lg), (s, re, fo, ra, tu, we, sh), H, ht, K, tl, tb, fa, r1, r2) ∧ cF σ σ')) (fun E n' σ' => E = eA ∧ n ≤ n' ∧ ¬ (0 ≤ a ∧ a ≤ 2) ∧ cV σ' (bA (w, h, (T, S, F, P, O, nf, df, nl, lg), (s, re, fo, ra, tu, we, sh), H, ht, K, tl, tb, fa, r1, r2)) ∧ cF σ σ') (rmA 8 4 24)) (SC g) n σ (0 + 1) (0 + 6) 18 [(0, yR g 0), (1, yI k), (2, yI a)] []
    have zok : 0 ≤ a ∧ a ≤ 2 := by have zq := zb15; rw [zhb] at zq; simpa using zq
    refine y_aload_n (pc := 18) hF dX10_front_18 0 rfl ?_
    refine y_get (pc := 19) (ci := 10) hF dX10_front_19 (by omega) rfl rfl rfl iX10 7 (by decide) w_494 rfl ?_
    refine y_aload_n (pc := 22) hF dX10_front_22 0 rfl ?_
    refine y_get (pc := 23) (ci := 10) hF dX10_front_23 (by omega) rfl rfl rfl iX10 2 (by decide) w_489 rfl ?_
    refine y_aload_n (pc := 26) hF dX10_front_26 0 rfl ?_
    refine y_get (pc := 27) (ci := 10) hF dX10_front_27 (by omega) rfl rfl rfl iX10 1 (by decide) w_488 rfl ?_
    refine y_cv (y_rV (pc := 30) hF (tX5_lineUp 5 4 w h T S F P O s re fo ra tu we sh hn pic_5 set_4 hA hS (by omega) (by omega)) dX10_front_30 (by omega) rfl rfl rfl w_1042 qX5_lineUp rfl ⟨Nat.le_of_ble_eq_true rfl, Nat.le_of_ble_eq_true rfl⟩ ⟨Nat.le_of_ble_eq_true rfl, Nat.le_of_ble_eq_true rfl⟩ (Nat.le_of_ble_eq_true rfl) rfl) rfl rfl (fun n' σ30 zp30 => ?_)
    obtain ⟨zn30, zp30⟩ := zp30
    have zn30 := zn30.symm
    subst zn30
    have zA_σ30 := hA.fc (by omega) zp30.1
    have zS_σ30 := hS.fc (by omega) zp30.1
    have zT_σ30 := hT.fr (zp30.1 127 (by omega))
    have zV1 := hV.scr zp30.1 (by omega) zT_σ30
    refine y_aload_n (pc := 33) hF dX10_front_33 0 rfl ?_
    refine y_get (pc := 34) (ci := 10) hF dX10_front_34 (by omega) rfl rfl rfl iX10 7 (by decide) w_494 rfl ?_
    refine y_iload_n (pc := 37) hF dX10_front_37 1 rfl ?_
    have zz38 := y_rV (pc := 38) hF (tX5_placeOf (n := n) (σ := σ30) (sFt w h T S s ra) hn zp30.2 zgr k hk) dX10_front_38 (by omega) rfl rfl rfl w_1080 qX5_placeOf rfl ⟨Nat.le_of_ble_eq_true rfl, Nat.le_of_ble_eq_true rfl⟩ ⟨Nat.le_of_ble_eq_true rfl, Nat.le_of_ble_eq_true rfl⟩ (Nat.le_of_ble_eq_true rfl) rfl (rest := []) (cells := 0 + 1) (slots := 0 + 6) (lv := [(0, yR g 0), (1, yI k), (2, yI a)])
    refine y_cp (zz38) ?_
    refine y_istore_n (pc := 41) (lv' := [(0, yR g 0), (1, yI k), (2, yI a), (3, yI (sPo (sFt w h T S s ra) k))]) hF dX10_front_41 (by decide) rfl rfl ?_
    refine y_iload_n (pc := 42) hF dX10_front_42 3 rfl ?_
    refine y_iconst (pc := 43) hF dX10_front_43 ?_
    refine y_icmp_ne (pc := 44) hF dX10_front_44 51 rfl zpr (by decide) (fun zc44 => ?_) (fun zc44 => ?_)
    · skip
      refine y_aload_n (pc := 51) hF dX10_front_51 0 rfl ?_
      refine y_iload_n (pc := 52) hF dX10_front_52 3 rfl ?_
      refine y_iload_n (pc := 53) hF dX10_front_53 2 rfl ?_
      have zz54 := y_rV (pc := 54) hF (tX10_frontAnswer (n := n) (σ := σ30) hn w h T S F P O s re fo ra tu we sh zA_σ30 zp30.2 (sPo (sFt w h T S s ra) k) a (by omega) ha) dX10_front_54 (by omega) rfl rfl rfl w_1044 qX10_frontAnswer rfl ⟨Nat.le_of_ble_eq_true rfl, Nat.le_of_ble_eq_true rfl⟩ ⟨Nat.le_of_ble_eq_true rfl, Nat.le_of_ble_eq_true rfl⟩ (Nat.le_of_ble_eq_true rfl) rfl (rest := []) (cells := 0 + 1) (slots := 0 + 6) (lv := [(0, yR g 0), (1, yI k), (2, yI a), (3, yI (sPo (sFt w h T S s ra) k))])
      refine y_cp (zz54) ?_
      exact y_retX (y_iret (pc := 57) hF dX10_front_57 (Nat.le_of_ble_eq_true rfl) (Nat.le_of_ble_eq_true rfl) ⟨_, rfl, Nat.le_refl _, zok, by unfold ftV; rw [if_neg zc44], zV1, zp30.1.cF (by omega)⟩)
    · skip
      refine y_iconst (pc := 47) hF dX10_front_47 ?_
      refine y_goto (pc := 48) hF dX10_front_48 57 rfl ?_
      exact y_retX (y_iret (pc := 57) hF dX10_front_57 (Nat.le_of_ble_eq_true rfl) (Nat.le_of_ble_eq_true rfl) ⟨_, rfl, Nat.le_refl _, zok, by unfold ftV; rw [if_pos zc44], zV1, zp30.1.cF (by omega)⟩)
  refine y_aload_n (pc := 0) hF dX10_front_0 0 rfl ?_
  refine y_iload_n (pc := 1) hF dX10_front_1 2 rfl ?_
  refine y_if_lt (pc := 2) hF dX10_front_2 14 rfl (by omega) (fun zc2 => ?_) (fun zc2 => ?_)
  · skip
    refine y_iconst (pc := 14) hF dX10_front_14 ?_
    exact zJ15 false (by simp; omega)
  · skip
    refine y_iload_n (pc := 5) hF dX10_front_5 2 rfl ?_
    refine y_iconst (pc := 6) hF dX10_front_6 ?_
    refine y_icmp_gt (pc := 7) hF dX10_front_7 14 rfl (by omega) (by omega) (fun zc7 => ?_) (fun zc7 => ?_)
    · skip
      refine y_iconst (pc := 14) hF dX10_front_14 ?_
      exact zJ15 false (by simp; omega)
    · skip
      refine y_iconst (pc := 10) hF dX10_front_10 ?_
      refine y_goto (pc := 11) hF dX10_front_11 15 rfl ?_
      exact zJ15 true (by simp; omega)

theorem dX10_log_0 : decode cX10_log 0 = .ok (.iload_n 1, 1) := by decide +kernel
theorem dX10_log_1 : decode cX10_log 1 = .ok (.ifCond .lt 14, 3) := by decide +kernel
theorem dX10_log_4 : decode cX10_log 4 = .ok (.iload_n 1, 1) := by decide +kernel
theorem dX10_log_5 : decode cX10_log 5 = .ok (.aload_n 0, 1) := by decide +kernel
theorem dX10_log_6 : decode cX10_log 6 = .ok (.getfield 33, 3) := by decide +kernel
theorem dX10_log_9 : decode cX10_log 9 = .ok (.invokevirtual 362, 3) := by decide +kernel
theorem dX10_log_12 : decode cX10_log 12 = .ok (.if_icmp .lt 7, 3) := by decide +kernel
theorem dX10_log_15 : decode cX10_log 15 = .ok (.aload_n 0, 1) := by decide +kernel
theorem dX10_log_16 : decode cX10_log 16 = .ok (.invokevirtual 365, 3) := by decide +kernel
theorem dX10_log_19 : decode cX10_log 19 = .ok (.aload_n 0, 1) := by decide +kernel
theorem dX10_log_20 : decode cX10_log 20 = .ok (.iload_n 2, 1) := by decide +kernel
theorem dX10_log_21 : decode cX10_log 21 = .ok (.ifCond .lt 13, 3) := by decide +kernel
theorem dX10_log_24 : decode cX10_log 24 = .ok (.iload_n 2, 1) := by decide +kernel
theorem dX10_log_25 : decode cX10_log 25 = .ok (.bipush 9, 2) := by decide +kernel
theorem dX10_log_27 : decode cX10_log 27 = .ok (.if_icmp .ge 7, 3) := by decide +kernel
theorem dX10_log_30 : decode cX10_log 30 = .ok (.iconst 1, 1) := by decide +kernel
theorem dX10_log_31 : decode cX10_log 31 = .ok (.goto 4, 3) := by decide +kernel
theorem dX10_log_34 : decode cX10_log 34 = .ok (.iconst 0, 1) := by decide +kernel
theorem dX10_log_35 : decode cX10_log 35 = .ok (.invokevirtual 110, 3) := by decide +kernel
theorem dX10_log_38 : decode cX10_log 38 = .ok (.aload_n 0, 1) := by decide +kernel
theorem dX10_log_39 : decode cX10_log 39 = .ok (.getfield 33, 3) := by decide +kernel
theorem dX10_log_42 : decode cX10_log 42 = .ok (.iload_n 1, 1) := by decide +kernel
theorem dX10_log_43 : decode cX10_log 43 = .ok (.iload_n 2, 1) := by decide +kernel
theorem dX10_log_44 : decode cX10_log 44 = .ok (.invokevirtual 368, 3) := by decide +kernel
theorem dX10_log_47 : decode cX10_log 47 = .ok (.ireturn, 1) := by decide +kernel
set_option maxHeartbeats 4000000 in
set_option maxRecDepth 100000 in
theorem tX10_log {l : Launch} {g : yG} {n : Nat} {σ : yM} (hlt : l.stackTraces = false) (hn : 172 ≤ n) (w h : Int) (T S F P O : Int → Int → Int) (nf df nl : Int) (lg : Int → Int → Int) (s re fo ra tu we sh : Int) (H : List aX) (ht : Bool) (K : Int → Int → Int) (tl : Int) (tb : Int → Int) (fa r1 r2 N : Int) (hV : cV σ (w, h, (T, S, F, P, O, nf, df, nl, lg), (s, re, fo, ra, tu, we, sh), H, ht, K, tl, tb, fa, r1, r2)) (hW : aW N (w, h, (T, S, F, P, O, nf, df, nl, lg), (s, re, fo, ra, tu, we, sh), H, ht, K, tl, tb, fa, r1, r2)) (k a : Int) (hk : -2147483648 ≤ k ∧ k < 2147483648) (ha : -2147483648 ≤ a ∧ a < 2147483648) : yMX l g yX10_log cX10_log 3 (some .int) (rmA 8 4 24) [yR g 0, yI k, yI a] (SC g) n σ (SC g) (yPi (fun v n' σ' => n ≤ n' ∧ ((0 ≤ k ∧ k < nl) ∧ 0 ≤ a ∧ a ≤ 8) ∧ v = lg k a ∧ cV σ' (w, h, (T, S, F, P, O, nf, df, nl, lg), (s, re, fo, ra, tu, we, sh), H, ht, K, tl, tb, fa, r1, r2) ∧ cF σ σ')) (fun E n' σ' => n ≤ n' ∧ ((E = eN ∧ ¬ (0 ≤ k ∧ k < nl) ∧ cV σ' (bN (w, h, (T, S, F, P, O, nf, df, nl, lg), (s, re, fo, ra, tu, we, sh), H, ht, K, tl, tb, fa, r1, r2))) ∨ (E = eA ∧ (0 ≤ k ∧ k < nl) ∧ ¬ (0 ≤ a ∧ a ≤ 8) ∧ cV σ' (bA (w, h, (T, S, F, P, O, nf, df, nl, lg), (s, re, fo, ra, tu, we, sh), H, ht, K, tl, tb, fa, r1, r2)))) ∧ cF σ σ') := by
  obtain ⟨⟨hA, hJ⟩, hS, hH, ⟨hb1, hb2⟩, ⟨ht1, ht2⟩, hfa, hr1, hr2, hT⟩ := id hV
  obtain ⟨hw1, hw2, hw3, hw4⟩ := id hA.1.1
  obtain ⟨hs1, hs2, hs3, hs4, hs5, hs6, hs7⟩ := id hS.2
  have z128 : 128 < n := by omega
  have z129 : 129 < n := by omega
  have z130 : 130 < n := by omega
  have zj3 := hJ.2.2.1
  have zj4 := hJ.2.2.2.1
  refine y_startX (by decide) (Nat.le_of_ble_eq_true rfl) (fun X0 hX => ?_)
  have hF := hX.1
  show yV X0 g 3 (yQX X0 g (SC g) (yPi (fun v n' σ' => n ≤ n' ∧ ((0 ≤ k ∧ k < nl) ∧ 0 ≤ a ∧ a ≤ 8) ∧ v = lg k a ∧ cV σ' (w, h, (T, S, F, P, O, nf, df, nl, lg), (s, re, fo, ra, tu, we, sh), H, ht, K, tl, tb, fa, r1, r2) ∧ cF σ σ')) (fun E n' σ' => n ≤ n' ∧ ((E = eN ∧ ¬ (0 ≤ k ∧ k < nl) ∧ cV σ' (bN (w, h, (T, S, F, P, O, nf, df, nl, lg), (s, re, fo, ra, tu, we, sh), H, ht, K, tl, tb, fa, r1, r2))) ∨ (E = eA ∧ (0 ≤ k ∧ k < nl) ∧ ¬ (0 ≤ a ∧ a ≤ 8) ∧ cV σ' (bA (w, h, (T, S, F, P, O, nf, df, nl, lg), (s, re, fo, ra, tu, we, sh), H, ht, K, tl, tb, fa, r1, r2)))) ∧ cF σ σ') (rmA 8 4 24)) (SC g) n σ 0 0 0 [(0, yR g 0), (1, yI k), (2, yI a)] []
  refine y_iload_n (pc := 0) hF dX10_log_0 1 rfl ?_
  refine y_if_lt (pc := 1) hF dX10_log_1 15 rfl (by omega) (fun zc1 => ?_) (fun zc1 => ?_)
  · skip
    refine y_aload_n (pc := 15) hF dX10_log_15 0 rfl ?_
    exact y_contX hX (y_rVX (pc := 16) hX (tX10_refuseNoSuch hlt hn) dX10_log_16 (by omega) rfl rfl rfl w_760 qX10_refuseNoSuch rfl ⟨Nat.le_of_ble_eq_true rfl, Nat.le_of_ble_eq_true rfl⟩ ⟨Nat.le_of_ble_eq_true rfl, Nat.le_of_ble_eq_true rfl⟩ (Nat.le_of_ble_eq_true rfl) rfl) rfl rfl ⟨Nat.le_of_ble_eq_true rfl, Nat.le_of_ble_eq_true rfl⟩ (fun E n' σ' zx => ⟨zx.2.1, Or.inl ⟨zx.1, by omega, by rw [zx.2.2]; exact hV.bN⟩, by rw [zx.2.2]; exact cF_N⟩) (fun r n' σ' zp => absurd zp id)
  · skip
    refine y_iload_n (pc := 4) hF dX10_log_4 1 rfl ?_
    refine y_aload_n (pc := 5) hF dX10_log_5 0 rfl ?_
    refine y_get (pc := 6) (ci := 10) hF dX10_log_6 (by omega) rfl rfl rfl iX10 3 (by decide) w_490 rfl ?_
    have zz9 := y_rV (pc := 9) hF (tX2_kept (n := n) (σ := σ) 11 nf df nl lg hn jou_11 hJ) dX10_log_9 (by omega) rfl rfl rfl w_1116 qX2_kept rfl ⟨Nat.le_of_ble_eq_true rfl, Nat.le_of_ble_eq_true rfl⟩ ⟨Nat.le_of_ble_eq_true rfl, Nat.le_of_ble_eq_true rfl⟩ (Nat.le_of_ble_eq_true rfl) rfl (rest := [yI k]) (cells := 0) (slots := 0) (lv := [(0, yR g 0), (1, yI k), (2, yI a)])
    refine y_cp (zz9) ?_
    refine y_icmp_lt (pc := 12) hF dX10_log_12 19 rfl (by omega) (by omega) (fun zc12 => ?_) (fun zc12 => ?_)
    · skip
      have zokn : 0 ≤ k ∧ k < nl := by omega
      have zJ35 : ∀ (zb : Bool), (zb = decide (0 ≤ a ∧ a ≤ 8)) → yV X0 g 3 (yQX X0 g (SC g) (yPi (fun v n' σ' => n ≤ n' ∧ ((0 ≤ k ∧ k < nl) ∧ 0 ≤ a ∧ a ≤ 8) ∧ v = lg k a ∧ cV σ' (w, h, (T, S, F, P, O, nf, df, nl, lg), (s, re, fo, ra, tu, we, sh), H, ht, K, tl, tb, fa, r1, r2) ∧ cF σ σ')) (fun E n' σ' => n ≤ n' ∧ ((E = eN ∧ ¬ (0 ≤ k ∧ k < nl) ∧ cV σ' (bN (w, h, (T, S, F, P, O, nf, df, nl, lg), (s, re, fo, ra, tu, we, sh), H, ht, K, tl, tb, fa, r1, r2))) ∨ (E = eA ∧ (0 ≤ k ∧ k < nl) ∧ ¬ (0 ≤ a ∧ a ≤ 8) ∧ cV σ' (bA (w, h, (T, S, F, P, O, nf, df, nl, lg), (s, re, fo, ra, tu, we, sh), H, ht, K, tl, tb, fa, r1, r2)))) ∧ cF σ σ') (rmA 8 4 24)) (SC g) n σ 0 0 35 [(0, yR g 0), (1, yI k), (2, yI a)] [yI (bi zb), yR g 0] := by
        intro zb  zhb
        refine y_contX (cells' := 0 + 1) (slots' := 0 + 6) hX (y_rVX (pc := 35) hX (tX10_demand hlt hn zb) dX10_log_35 (by omega) rfl rfl rfl w_611 qX10_demand rfl ⟨Nat.le_of_ble_eq_true rfl, Nat.le_of_ble_eq_true rfl⟩ ⟨Nat.le_of_ble_eq_true rfl, Nat.le_of_ble_eq_true rfl⟩ (Nat.le_of_ble_eq_true rfl) rfl) rfl rfl ⟨Nat.le_of_ble_eq_true rfl, Nat.le_of_ble_eq_true rfl⟩ (fun E n' σ' zx => ⟨zx.2.1, Or.inr ⟨zx.1, zokn, by have zq := zx.2.2.1; rw [zhb] at zq; simpa using zq, by rw [zx.2.2.2]; exact hV.bA⟩, by rw [zx.2.2.2]; exact cF_N⟩) (fun r35 n' σ35 zp35 => ?_)
        obtain ⟨zr35, zp35⟩ := zp35
        subst zr35
        obtain ⟨zn35, zs35, zb35⟩ := zp35
        have zs35 := zs35.symm
        subst zs35
        have zn35 := zn35.symm
        subst zn35
        skip
        show yV X0 g 3 (yQX X0 g (SC g) (yPi (fun v n' σ' => n ≤ n' ∧ ((0 ≤ k ∧ k < nl) ∧ 0 ≤ a ∧ a ≤ 8) ∧ v = lg k a ∧ cV σ' (w, h, (T, S, F, P, O, nf, df, nl, lg), (s, re, fo, ra, tu, we, sh), H, ht, K, tl, tb, fa, r1, r2) ∧ cF σ σ')) (fun E n' σ' => n ≤ n' ∧ ((E = eN ∧ ¬ (0 ≤ k ∧ k < nl) ∧ cV σ' (bN (w, h, (T, S, F, P, O, nf, df, nl, lg), (s, re, fo, ra, tu, we, sh), H, ht, K, tl, tb, fa, r1, r2))) ∨ (E = eA ∧ (0 ≤ k ∧ k < nl) ∧ ¬ (0 ≤ a ∧ a ≤ 8) ∧ cV σ' (bA (w, h, (T, S, F, P, O, nf, df, nl, lg), (s, re, fo, ra, tu, we, sh), H, ht, K, tl, tb, fa, r1, r2)))) ∧ cF σ σ') (rmA 8 4 24)) (SC g) n σ (0 + 1) (0 + 6) 38 [(0, yR g 0), (1, yI k), (2, yI a)] []
        have zok : (0 ≤ k ∧ k < nl) ∧ 0 ≤ a ∧ a ≤ 8 := ⟨zokn, by have zq := zb35; rw [zhb] at zq; simpa using zq⟩
        refine y_aload_n (pc := 38) hF dX10_log_38 0 rfl ?_
        refine y_get (pc := 39) (ci := 10) hF dX10_log_39 (by omega) rfl rfl rfl iX10 3 (by decide) w_490 rfl ?_
        refine y_iload_n (pc := 42) hF dX10_log_42 1 rfl ?_
        refine y_iload_n (pc := 43) hF dX10_log_43 2 rfl ?_
        have zz44 := y_rV (pc := 44) hF (tX2_entry (n := n) (σ := σ) 11 nf df nl lg hn jou_11 hJ k a zok.1 (by omega)) dX10_log_44 (by omega) rfl rfl rfl w_1121 qX2_entry rfl ⟨Nat.le_of_ble_eq_true rfl, Nat.le_of_ble_eq_true rfl⟩ ⟨Nat.le_of_ble_eq_true rfl, Nat.le_of_ble_eq_true rfl⟩ (Nat.le_of_ble_eq_true rfl) rfl (rest := []) (cells := 0 + 1) (slots := 0 + 6) (lv := [(0, yR g 0), (1, yI k), (2, yI a)])
        refine y_cp (zz44) ?_
        exact y_retX (y_iret (pc := 47) hF dX10_log_47 (Nat.le_of_ble_eq_true rfl) (Nat.le_of_ble_eq_true rfl) ⟨_, rfl, Nat.le_refl _, zok, rfl, hV, cF.rf σ⟩)
      refine y_aload_n (pc := 19) hF dX10_log_19 0 rfl ?_
      refine y_iload_n (pc := 20) hF dX10_log_20 2 rfl ?_
      refine y_if_lt (pc := 21) hF dX10_log_21 34 rfl (by omega) (fun zc21 => ?_) (fun zc21 => ?_)
      · skip
        refine y_iconst (pc := 34) hF dX10_log_34 ?_
        exact zJ35 false (by simp; omega)
      · skip
        refine y_iload_n (pc := 24) hF dX10_log_24 2 rfl ?_
        refine y_bipush (pc := 25) hF dX10_log_25 (by decide) ?_
        refine y_icmp_ge (pc := 27) hF dX10_log_27 34 rfl (by omega) (by omega) (fun zc27 => ?_) (fun zc27 => ?_)
        · skip
          refine y_iconst (pc := 34) hF dX10_log_34 ?_
          exact zJ35 false (by simp; omega)
        · skip
          refine y_iconst (pc := 30) hF dX10_log_30 ?_
          refine y_goto (pc := 31) hF dX10_log_31 35 rfl ?_
          exact zJ35 true (by simp; omega)
    · skip
      refine y_aload_n (pc := 15) hF dX10_log_15 0 rfl ?_
      exact y_contX hX (y_rVX (pc := 16) hX (tX10_refuseNoSuch hlt hn) dX10_log_16 (by omega) rfl rfl rfl w_760 qX10_refuseNoSuch rfl ⟨Nat.le_of_ble_eq_true rfl, Nat.le_of_ble_eq_true rfl⟩ ⟨Nat.le_of_ble_eq_true rfl, Nat.le_of_ble_eq_true rfl⟩ (Nat.le_of_ble_eq_true rfl) rfl) rfl rfl ⟨Nat.le_of_ble_eq_true rfl, Nat.le_of_ble_eq_true rfl⟩ (fun E n' σ' zx => ⟨zx.2.1, Or.inl ⟨zx.1, by omega, by rw [zx.2.2]; exact hV.bN⟩, by rw [zx.2.2]; exact cF_N⟩) (fun r n' σ' zp => absurd zp id)
