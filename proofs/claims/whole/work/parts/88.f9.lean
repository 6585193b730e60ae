theorem dX10_tune_0 : decode cX10_tune 0 = .ok (.aload_n 0, 1) := by decide +kernel
theorem dX10_tune_1 : decode cX10_tune 1 = .ok (.iload_n 1, 1) := by decide +kernel
theorem dX10_tune_2 : decode cX10_tune 2 = .ok (.ifCond .lt 12, 3) := by decide +kernel
theorem dX10_tune_5 : decode cX10_tune 5 = .ok (.iload_n 1, 1) := by decide +kernel
theorem dX10_tune_6 : decode cX10_tune 6 = .ok (.iconst 2, 1) := by decide +kernel
theorem dX10_tune_7 : decode cX10_tune 7 = .ok (.if_icmp .gt 7, 3) := by decide +kernel
theorem dX10_tune_10 : decode cX10_tune 10 = .ok (.iconst 1, 1) := by decide +kernel
theorem dX10_tune_11 : decode cX10_tune 11 = .ok (.goto 4, 3) := by decide +kernel
theorem dX10_tune_14 : decode cX10_tune 14 = .ok (.iconst 0, 1) := by decide +kernel
theorem dX10_tune_15 : decode cX10_tune 15 = .ok (.invokevirtual 110, 3) := by decide +kernel
theorem dX10_tune_18 : decode cX10_tune 18 = .ok (.iconst 0, 1) := by decide +kernel
theorem dX10_tune_19 : decode cX10_tune 19 = .ok (.istore_n 2, 1) := by decide +kernel
theorem dX10_tune_20 : decode cX10_tune 20 = .ok (.iconst 0, 1) := by decide +kernel
theorem dX10_tune_21 : decode cX10_tune 21 = .ok (.istore_n 3, 1) := by decide +kernel
theorem dX10_tune_22 : decode cX10_tune 22 = .ok (.iconst 0, 1) := by decide +kernel
theorem dX10_tune_23 : decode cX10_tune 23 = .ok (.istore 4, 2) := by decide +kernel
theorem dX10_tune_25 : decode cX10_tune 25 = .ok (.iconst 1, 1) := by decide +kernel
theorem dX10_tune_26 : decode cX10_tune 26 = .ok (.istore 5, 2) := by decide +kernel
theorem dX10_tune_28 : decode cX10_tune 28 = .ok (.iload 5, 2) := by decide +kernel
theorem dX10_tune_30 : decode cX10_tune 30 = .ok (.iconst 3, 1) := by decide +kernel
theorem dX10_tune_31 : decode cX10_tune 31 = .ok (.if_icmp .gt 109, 3) := by decide +kernel
theorem dX10_tune_34 : decode cX10_tune 34 = .ok (.aload_n 0, 1) := by decide +kernel
theorem dX10_tune_35 : decode cX10_tune 35 = .ok (.invokevirtual 384, 3) := by decide +kernel
theorem dX10_tune_38 : decode cX10_tune 38 = .ok (.aload_n 0, 1) := by decide +kernel
theorem dX10_tune_39 : decode cX10_tune 39 = .ok (.getfield 83, 3) := by decide +kernel
theorem dX10_tune_42 : decode cX10_tune 42 = .ok (.iload 5, 2) := by decide +kernel
theorem dX10_tune_44 : decode cX10_tune 44 = .ok (.putfield 208, 3) := by decide +kernel
theorem dX10_tune_47 : decode cX10_tune 47 = .ok (.aload_n 0, 1) := by decide +kernel
theorem dX10_tune_48 : decode cX10_tune 48 = .ok (.getfield 79, 3) := by decide +kernel
theorem dX10_tune_51 : decode cX10_tune 51 = .ok (.aload_n 0, 1) := by decide +kernel
theorem dX10_tune_52 : decode cX10_tune 52 = .ok (.getfield 86, 3) := by decide +kernel
theorem dX10_tune_55 : decode cX10_tune 55 = .ok (.aload_n 0, 1) := by decide +kernel
theorem dX10_tune_56 : decode cX10_tune 56 = .ok (.getfield 83, 3) := by decide +kernel
theorem dX10_tune_59 : decode cX10_tune 59 = .ok (.iconst 0, 1) := by decide +kernel
theorem dX10_tune_60 : decode cX10_tune 60 = .ok (.aload_n 0, 1) := by decide +kernel
theorem dX10_tune_61 : decode cX10_tune 61 = .ok (.getfield 89, 3) := by decide +kernel
theorem dX10_tune_64 : decode cX10_tune 64 = .ok (.sipush 400, 3) := by decide +kernel
theorem dX10_tune_67 : decode cX10_tune 67 = .ok (.invokevirtual 184, 3) := by decide +kernel
theorem dX10_tune_70 : decode cX10_tune 70 = .ok (.pop, 1) := by decide +kernel
theorem dX10_tune_71 : decode cX10_tune 71 = .ok (.aload_n 0, 1) := by decide +kernel
theorem dX10_tune_72 : decode cX10_tune 72 = .ok (.getfield 86, 3) := by decide +kernel
theorem dX10_tune_75 : decode cX10_tune 75 = .ok (.invokevirtual 138, 3) := by decide +kernel
theorem dX10_tune_78 : decode cX10_tune 78 = .ok (.istore 6, 2) := by decide +kernel
theorem dX10_tune_80 : decode cX10_tune 80 = .ok (.aload_n 0, 1) := by decide +kernel
theorem dX10_tune_81 : decode cX10_tune 81 = .ok (.getfield 47, 3) := by decide +kernel
theorem dX10_tune_84 : decode cX10_tune 84 = .ok (.ifCond .eq 14, 3) := by decide +kernel
theorem dX10_tune_87 : decode cX10_tune 87 = .ok (.aload_n 0, 1) := by decide +kernel
theorem dX10_tune_88 : decode cX10_tune 88 = .ok (.aload_n 0, 1) := by decide +kernel
theorem dX10_tune_89 : decode cX10_tune 89 = .ok (.getfield 86, 3) := by decide +kernel
theorem dX10_tune_92 : decode cX10_tune 92 = .ok (.invokevirtual 387, 3) := by decide +kernel
theorem dX10_tune_95 : decode cX10_tune 95 = .ok (.goto 4, 3) := by decide +kernel
theorem dX10_tune_98 : decode cX10_tune 98 = .ok (.iconst 0, 1) := by decide +kernel
theorem dX10_tune_99 : decode cX10_tune 99 = .ok (.istore 7, 2) := by decide +kernel
theorem dX10_tune_101 : decode cX10_tune 101 = .ok (.iload_n 2, 1) := by decide +kernel
theorem dX10_tune_102 : decode cX10_tune 102 = .ok (.ifCond .eq 22, 3) := by decide +kernel
theorem dX10_tune_105 : decode cX10_tune 105 = .ok (.iload 6, 2) := by decide +kernel
theorem dX10_tune_107 : decode cX10_tune 107 = .ok (.iload_n 3, 1) := by decide +kernel
theorem dX10_tune_108 : decode cX10_tune 108 = .ok (.if_icmp .lt 16, 3) := by decide +kernel
theorem dX10_tune_111 : decode cX10_tune 111 = .ok (.iload 6, 2) := by decide +kernel
theorem dX10_tune_113 : decode cX10_tune 113 = .ok (.iload_n 3, 1) := by decide +kernel
theorem dX10_tune_114 : decode cX10_tune 114 = .ok (.if_icmp .ne 20, 3) := by decide +kernel
theorem dX10_tune_117 : decode cX10_tune 117 = .ok (.iload 7, 2) := by decide +kernel
theorem dX10_tune_119 : decode cX10_tune 119 = .ok (.iload 4, 2) := by decide +kernel
theorem dX10_tune_121 : decode cX10_tune 121 = .ok (.if_icmp .ge 13, 3) := by decide +kernel
theorem dX10_tune_124 : decode cX10_tune 124 = .ok (.iload 5, 2) := by decide +kernel
theorem dX10_tune_126 : decode cX10_tune 126 = .ok (.istore_n 2, 1) := by decide +kernel
theorem dX10_tune_127 : decode cX10_tune 127 = .ok (.iload 6, 2) := by decide +kernel
theorem dX10_tune_129 : decode cX10_tune 129 = .ok (.istore_n 3, 1) := by decide +kernel
theorem dX10_tune_130 : decode cX10_tune 130 = .ok (.iload 7, 2) := by decide +kernel
theorem dX10_tune_132 : decode cX10_tune 132 = .ok (.istore 4, 2) := by decide +kernel
theorem dX10_tune_134 : decode cX10_tune 134 = .ok (.iinc 5 1, 3) := by decide +kernel
theorem dX10_tune_137 : decode cX10_tune 137 = .ok (.goto (-109), 3) := by decide +kernel
theorem dX10_tune_140 : decode cX10_tune 140 = .ok (.iload_n 1, 1) := by decide +kernel
theorem dX10_tune_141 : decode cX10_tune 141 = .ok (.lookupswitch 31 #[(0, 27), (1, 29)], 27) := by decide +kernel
theorem dX10_tune_168 : decode cX10_tune 168 = .ok (.iload_n 2, 1) := by decide +kernel
theorem dX10_tune_169 : decode cX10_tune 169 = .ok (.ireturn, 1) := by decide +kernel
theorem dX10_tune_170 : decode cX10_tune 170 = .ok (.iload_n 3, 1) := by decide +kernel
theorem dX10_tune_171 : decode cX10_tune 171 = .ok (.ireturn, 1) := by decide +kernel
theorem dX10_tune_172 : decode cX10_tune 172 = .ok (.iload 4, 2) := by decide +kernel
theorem dX10_tune_174 : decode cX10_tune 174 = .ok (.ireturn, 1) := by decide +kernel
set_option maxHeartbeats 4000000 in
set_option maxRecDepth 100000 in
theorem tX10_tune {l : Launch} {g : yG} {n : Nat} {σ : yM} (hlt : l.stackTraces = false) (hn : 172 ≤ n) (w h : Int) (T S F P O : Int → Int → Int) (nf df nl : Int) (lg : Int → Int → Int) (s re fo ra tu we sh : Int) (H : List aX) (ht : Bool) (K : Int → Int → Int) (tl : Int) (tb : Int → Int) (fa r1 r2 N : Int) (hV : cV σ (w, h, (T, S, F, P, O, nf, df, nl, lg), (s, re, fo, ra, tu, we, sh), H, ht, K, tl, tb, fa, r1, r2)) (hW : aW N (w, h, (T, S, F, P, O, nf, df, nl, lg), (s, re, fo, ra, tu, we, sh), H, ht, K, tl, tb, fa, r1, r2)) (a : Int) (ha : -2147483648 ≤ a ∧ a < 2147483648) : yMX l g yX10_tune cX10_tune 8 (some .int) (rmA 8 4 24) [yR g 0, yI a] (SC g) n σ (SC g) (yPi (fun zv n' σ' => n ≤ n' ∧ (0 ≤ a ∧ a ≤ 2) ∧ zv = tnV (tnQ w h T S F P O re fo ra tu we sh ht K 3) a ∧ cV σ' (w, h, (T, S, F, P, O, nf, df, nl, lg), (s, re, fo, ra, tu, we, sh), H, ht, K, tl, tb, fa, r1, r2) ∧ cF σ σ')) (fun E n' σ' => E = eA ∧ n ≤ n' ∧ ¬ (0 ≤ a ∧ a ≤ 2) ∧ cV σ' (bA (w, h, (T, S, F, P, O, nf, df, nl, lg), (s, re, fo, ra, tu, we, sh), H, ht, K, tl, tb, fa, r1, r2)) ∧ cF σ σ') := by
  obtain ⟨⟨hA, hJ⟩, hS, hH, ⟨hb1, hb2⟩, ⟨ht1, ht2⟩, hfa, hr1, hr2, hT⟩ := id hV
  obtain ⟨hw1, hw2, hw3, hw4⟩ := id hA.1.1
  obtain ⟨hs1, hs2, hs3, hs4, hs5, hs6, hs7⟩ := id hS.2
  have z128 : 128 < n := by omega
  have z129 : 129 < n := by omega
  have z130 : 130 < n := by omega
  obtain ⟨N0, hW0⟩ : ∃ q, aW q (w, h, (T, S, F, P, O, nf, df, nl, lg), (s, re, fo, ra, tu, we, sh), H, ht, K, tl, tb, fa, r1, r2) := ⟨_, hW⟩
  refine y_startX (by decide) (Nat.le_of_ble_eq_true rfl) (fun X0 hX => ?_)
  have hF := hX.1
  show yV X0 g 8 (yQX X0 g (SC g) (yPi (fun zv n' σ' => n ≤ n' ∧ (0 ≤ a ∧ a ≤ 2) ∧ zv = tnV (tnQ w h T S F P O re fo ra tu we sh ht K 3) a ∧ cV σ' (w, h, (T, S, F, P, O, nf, df, nl, lg), (s, re, fo, ra, tu, we, sh), H, ht, K, tl, tb, fa, r1, r2) ∧ cF σ σ')) (fun E n' σ' => E = eA ∧ n ≤ n' ∧ ¬ (0 ≤ a ∧ a ≤ 2) ∧ cV σ' (bA (w, h, (T, S, F, P, O, nf, df, nl, lg), (s, re, fo, ra, tu, we, sh), H, ht, K, tl, tb, fa, r1, r2)) ∧ cF σ σ') (rmA 8 4 24)) (SC g) n σ 0 0 0 [(0, yR g 0), (1, yI a)] []
  have zJ15 : ∀ (zb : Bool), (zb = decide (0 ≤ a ∧ a ≤ 2)) → yV X0 g 8 (yQX X0 g (SC g) (yPi (fun zv n' σ' => n ≤ n' ∧ (0 ≤ a ∧ a ≤ 2) ∧ zv = tnV (tnQ w h T S F P O re fo ra tu we sh ht K 3) a ∧ cV σ' (w, h, (T, S, F, P, O, nf, df, nl, lg), (s, re, fo, ra, tu, we, sh), H, ht, K, tl, tb, fa, r1, r2) ∧ cF σ σ')) (fun E n' σ' => E = eA ∧ n ≤ n' ∧ ¬ (0 ≤ a ∧ a ≤ 2) ∧ cV σ' (bA (w, h, (T, S, F, P, O, nf, df, nl, lg), (s, re, fo, ra, tu, we, sh), H, ht, K, tl, tb, fa, r1, r2)) ∧ cF σ σ') (rmA 8 4 24)) (SC g) n σ 0 0 15 [(0, yR g 0), (1, yI a)] [yI (bi zb), yR g 0] := by
    intro zb  zhb
    refine y_contX (cells' := 0 + 1) (slots' := 0 + 6) hX (y_rVX (pc := 15) hX (tX10_demand hlt hn zb) dX10_tune_15 (by omega) rfl rfl rfl w_611 qX10_demand rfl ⟨Nat.le_of_ble_eq_true rfl, Nat.le_of_ble_eq_true rfl⟩ ⟨Nat.le_of_ble_eq_true rfl, Nat.le_of_ble_eq_true rfl⟩ (Nat.le_of_ble_eq_true rfl) rfl) rfl rfl ⟨Nat.le_of_ble_eq_true rfl, Nat.le_of_ble_eq_true rfl⟩ (fun E n' σ' zx => ⟨zx.1, zx.2.1, by have zq := zx.2.2.1; rw [zhb] at zq; simpa using zq, by rw [zx.2.2.2]; exact hV.bA, by rw [zx.2.2.2]; exact cF_N⟩) (fun r15 n' σ15 zp15 => ?_)
    obtain ⟨zr15, zp15⟩ := zp15
    subst zr15
    obtain ⟨zn15, zs15, zb15⟩ := zp15
    have zs15 := zs15.symm
    subst zs15
    have zn15 := zn15.symm
    subst zn15
    skip
    show yV X0 g 8 (yQX X0 g (SC g) (yPi (fun zv n' σ' => n ≤ n' ∧ (0 ≤ a ∧ a ≤ 2) ∧ zv = tnV (tnQ w h T S F P O re fo ra tu we sh ht K 3) a ∧ cV σ' (w, h, (T, S, F, P, O, nf, df, nl, lg), (s, re, fo, ra, tu, we, sh), H, ht, K, tl, tb, fa, r1, r2) ∧ cF σ σ')) (fun E n' σ' => E = eA ∧ n ≤ n' ∧ ¬ (0 ≤ a ∧ a ≤ 2) ∧ cV σ' (bA (w, h, (T, S, F, P, O, nf, df, nl, lg), (s, re, fo, ra, tu, we, sh), H, ht, K, tl, tb, fa, r1, r2)) ∧ cF σ σ') (rmA 8 4 24)) (SC g) n σ (0 + 1) (0 + 6) 18 [(0, yR g 0), (1, yI a)] []
    have zok : 0 ≤ a ∧ a ≤ 2 := by have zq := zb15; rw [zhb] at zq; simpa using zq
    refine y_iconst (pc := 18) hF dX10_tune_18 ?_
    refine y_istore_n (pc := 19) (lv' := [(0, yR g 0), (1, yI a), (2, yI 0)]) hF dX10_tune_19 (by decide) rfl rfl ?_
    refine y_iconst (pc := 20) hF dX10_tune_20 ?_
    refine y_istore_n (pc := 21) (lv' := [(0, yR g 0), (1, yI a), (2, yI 0), (3, yI 0)]) hF dX10_tune_21 (by decide) rfl rfl ?_
    refine y_iconst (pc := 22) hF dX10_tune_22 ?_
    refine y_istore (pc := 23) (lv' := [(0, yR g 0), (1, yI a), (2, yI 0), (3, yI 0), (4, yI 0)]) hF dX10_tune_23 (by decide) rfl rfl ?_
    refine y_iconst (pc := 25) hF dX10_tune_25 ?_
    refine y_istore (pc := 26) (lv' := [(0, yR g 0), (1, yI a), (2, yI 0), (3, yI 0), (4, yI 0), (5, yI 1)]) hF dX10_tune_26 (by decide) rfl rfl ?_
    have zL28 : ∀ (N : Nat) (τ : yM) (k b m f : Int), N = (4 - k).toNat → ((fc 120 154 σ τ ∧ rT τ) ∧ (1 ≤ k ∧ k ≤ 4) ∧ ((0 ≤ b ∧ b ≤ 3) ∧ (0 ≤ m ∧ m ≤ 400) ∧ (0 ≤ f ∧ f ≤ 200000000)) ∧ (b, m, f) = tnQ w h T S F P O re fo ra tu we sh ht K (k - 1).toNat) → yV X0 g 8 (yQX X0 g (SC g) (yPi (fun zv n' σ' => n ≤ n' ∧ (0 ≤ a ∧ a ≤ 2) ∧ zv = tnV (tnQ w h T S F P O re fo ra tu we sh ht K 3) a ∧ cV σ' (w, h, (T, S, F, P, O, nf, df, nl, lg), (s, re, fo, ra, tu, we, sh), H, ht, K, tl, tb, fa, r1, r2) ∧ cF σ σ')) (fun E n' σ' => E = eA ∧ n ≤ n' ∧ ¬ (0 ≤ a ∧ a ≤ 2) ∧ cV σ' (bA (w, h, (T, S, F, P, O, nf, df, nl, lg), (s, re, fo, ra, tu, we, sh), H, ht, K, tl, tb, fa, r1, r2)) ∧ cF σ σ') (rmA 8 4 24)) (SC g) n τ (0 + 1) (0 + 6) 28 [(0, yR g 0), (1, yI a), (2, yI b), (3, yI m), (4, yI f), (5, yI k)] [] := by
      intro N
      induction N using Nat.strongRecOn with
      | ind N zh28 =>
        intro τ  k b m f  zN28 zI28
        refine y_iload (pc := 28) hF dX10_tune_28 5 rfl ?_
        refine y_iconst (pc := 30) hF dX10_tune_30 ?_
        refine y_icmp_gt (pc := 31) hF dX10_tune_31 140 rfl (by omega) (by omega) (fun zc31 => ?_) (fun zc31 => ?_)
        · skip
          have zq : (b, m, f) = tnQ w h T S F P O re fo ra tu we sh ht K 3 := by rw [zI28.2.2.2, show k = 4 by omega]; rfl
          have zVe := hV.scr zI28.1.1 (by omega) zI28.1.2
          refine y_iload_n (pc := 140) hF dX10_tune_140 1 rfl ?_
          rcases Decidable.em (a = 0) with zw141_0 | zw141_0
          · refine y_lsw (pc := 141) hF dX10_tune_141 (by decide) (by omega) (off := 27) (by rw [zw141_0]; rfl) 168 rfl ?_
            refine y_iload_n (pc := 168) hF dX10_tune_168 2 rfl ?_
            exact y_retX (y_iret (pc := 169) hF dX10_tune_169 (Nat.le_of_ble_eq_true rfl) (Nat.le_of_ble_eq_true rfl) ⟨_, rfl, Nat.le_refl _, zok, by rw [← zq]; unfold tnV; simp [zw141_0], zVe, zI28.1.1.cF (by omega)⟩)
          rcases Decidable.em (a = 1) with zw141_1 | zw141_1
          · refine y_lsw (pc := 141) hF dX10_tune_141 (by decide) (by omega) (off := 29) (by rw [zw141_1]; rfl) 170 rfl ?_
            refine y_iload_n (pc := 170) hF dX10_tune_170 3 rfl ?_
            exact y_retX (y_iret (pc := 171) hF dX10_tune_171 (Nat.le_of_ble_eq_true rfl) (Nat.le_of_ble_eq_true rfl) ⟨_, rfl, Nat.le_refl _, zok, by rw [← zq]; unfold tnV; simp [zw141_1], zVe, zI28.1.1.cF (by omega)⟩)
          refine y_lsw (pc := 141) hF dX10_tune_141 (by decide) (by omega) (off := 31) (by simp [Op.lookupswitch.offset, zw141_0, Ne.symm zw141_0, zw141_1, Ne.symm zw141_1]) 172 rfl ?_
          refine y_iload (pc := 172) hF dX10_tune_172 4 rfl ?_
          exact y_retX (y_iret (pc := 174) hF dX10_tune_174 (Nat.le_of_ble_eq_true rfl) (Nat.le_of_ble_eq_true rfl) ⟨_, rfl, Nat.le_refl _, zok, by rw [← zq]; unfold tnV; simp [show a = 2 by omega], zVe, zI28.1.1.cF (by omega)⟩)
        · skip
          have zVt := hV.scr zI28.1.1 (by omega) zI28.1.2
          obtain ⟨X1, hX1⟩ : ∃ X, X = (gR w h k re fo ra tu we sh 0 (400 : Int).toNat (x00 T S F P O)).2 := ⟨_, rfl⟩
          obtain ⟨T1, S1, F1, P1, O1, nf1, df1, nl1, lg1⟩ := X1
          refine y_aload_n (pc := 34) hF dX10_tune_34 0 rfl ?_
          refine y_cv (y_rV (pc := 35) hF (tX10_startTrial hn w h T S F P O nf df nl lg s re fo ra tu we sh H ht K tl tb fa r1 r2 N0 zVt hW0) dX10_tune_35 (by omega) rfl rfl rfl w_1141 qX10_startTrial rfl ⟨Nat.le_of_ble_eq_true rfl, Nat.le_of_ble_eq_true rfl⟩ ⟨Nat.le_of_ble_eq_true rfl, Nat.le_of_ble_eq_true rfl⟩ (Nat.le_of_ble_eq_true rfl) rfl) rfl rfl (fun n' σ35 zp35 => ?_)
          obtain ⟨zn35, zp35⟩ := zp35
          have zn35 := zn35.symm
          subst zn35
          have zTs := zVt.T.fr (zp35.1 127 (by omega))
          refine y_aload_n (pc := 38) hF dX10_tune_38 0 rfl ?_
          refine y_get (pc := 39) (ci := 10) hF dX10_tune_39 (by omega) rfl rfl rfl iX10 11 (by decide) w_498 rfl ?_
          refine y_iload (pc := 42) hF dX10_tune_42 5 rfl ?_
          refine y_putfN (pc := 44) (ci := 7) (σ' := yset σ35 146 0 k) (sch' := (SC g)) hF dX10_tune_44 (by omega) rfl rfl rfl iX7 0 (by decide) w_167 tyX7 tyX7_ok nmX7 rfl rfl (by rfl) rfl (Nat.le_of_ble_eq_true rfl) rfl (y_ps rfl) (fun k' h => ⟨yset_n h, rfl⟩) ?_
          obtain ⟨τ1, hτ1⟩ : ∃ s, s = yset σ35 146 0 k := ⟨_, rfl⟩
          rw [← hτ1]
          have zt9 : ∀ c : Nat, c ≠ 146 → τ1 c = σ35 c := fun c hc => by rw [hτ1, yset_n hc]
          have z9 : fc 146 154 τ τ1 := fun c a => by rw [zt9 c (by omega)]; exact zp35.1 c (by omega)
          have zA9 := zp35.2.2.1.fr (σ' := τ1) (fun c a b => zt9 c (by omega))
          have zJ9 := zp35.2.2.2.fr (σ' := τ1) (zt9 153 (by omega)) (zt9 154 (by omega))
          have zT9 := zTs.fr (σ' := τ1) (zt9 127 (by omega))
          have zS9 : rS τ1 146 k re fo ra tu we sh := by rw [hτ1]; have zq := rS_set (a := 0) (v := k) zp35.2.1 (by have zy : ys 2 0 = 1 ∧ ys 3 0 = 3 := (by decide); simp only [sAl, Bool.and_eq_true, decide_eq_true_eq]; omega); simpa using zq
          refine y_aload_n (pc := 47) hF dX10_tune_47 0 rfl ?_
          refine y_get (pc := 48) (ci := 10) hF dX10_tune_48 (by omega) rfl rfl rfl iX10 10 (by decide) w_497 rfl ?_
          refine y_aload_n (pc := 51) hF dX10_tune_51 0 rfl ?_
          refine y_get (pc := 52) (ci := 10) hF dX10_tune_52 (by omega) rfl rfl rfl iX10 12 (by decide) w_499 rfl ?_
          refine y_aload_n (pc := 55) hF dX10_tune_55 0 rfl ?_
          refine y_get (pc := 56) (ci := 10) hF dX10_tune_56 (by omega) rfl rfl rfl iX10 11 (by decide) w_498 rfl ?_
          refine y_iconst (pc := 59) hF dX10_tune_59 ?_
          refine y_aload_n (pc := 60) hF dX10_tune_60 0 rfl ?_
          refine y_get (pc := 61) (ci := 10) hF dX10_tune_61 (by omega) rfl rfl rfl iX10 13 (by decide) w_500 rfl ?_
          refine y_sipush (pc := 64) hF dX10_tune_64 (by decide) ?_
          refine y_ci (y_rV (pc := 67) hF (tX0_run 147 146 w h T S F P O k re fo ra tu we sh hn pic_147 set_146 zA9 zS9 (by omega) (by omega) (by omega) 153 0 0 0 (fun _ _ => 0) jou_153 zJ9 (by omega) (by omega) (by omega) zT9 (by omega) 0 (by omega) 400 (by omega)) dX10_tune_67 (by omega) rfl rfl rfl w_813 qX0_run rfl ⟨Nat.le_of_ble_eq_true rfl, Nat.le_of_ble_eq_true rfl⟩ ⟨Nat.le_of_ble_eq_true rfl, Nat.le_of_ble_eq_true rfl⟩ (Nat.le_of_ble_eq_true rfl) rfl) rfl rfl (fun r67 n' σ67 zp67 => ?_)
          obtain ⟨zn67, zv67, zp67⟩ := zp67
          have zn67 := zn67.symm
          subst zn67
          rw [zv67]
          have zf := fG.trial z9 zp67.2.1
          have zV1 := zVt.scr zf (by omega) zp67.1
          have zX1 : rXc σ67 147 153 w h (T1, S1, F1, P1, O1, nf1, df1, nl1, lg1) := by have zq := zp67.2.2; rw [show (gR w h k re fo ra tu we sh 0 (400 : Int).toNat (T, S, F, P, O, 0, 0, 0, (fun _ _ => 0))).2 = _ from hX1.symm] at zq; exact zq
          have zA1 := zX1.1
          have zJ1 := zX1.2
          have zg : fc 120 154 σ σ67 := fun c a => by rw [zf c a]; exact zI28.1.1 c a
          refine y_pop (pc := 70) hF dX10_tune_70 rfl ?_
          have zmi : sCt w h (fun x y => decide (T1 x y = -1)) = nMi w h T1 := rfl
          have zmb := sCt_bd ⟨hw1, hw2⟩ ⟨hw3, hw4⟩ (fun x y => decide (T1 x y = -1))
          have zwh := y_wh ⟨hw1, hw2⟩ ⟨hw3, hw4⟩
          refine y_aload_n (pc := 71) hF dX10_tune_71 0 rfl ?_
          refine y_get (pc := 72) (ci := 10) hF dX10_tune_72 (by omega) rfl rfl rfl iX10 12 (by decide) w_499 rfl ?_
          have zz75 := y_rV (pc := 75) hF (tX4_countMissing (n := n) (σ := σ67) 147 w h T1 S1 F1 P1 O1 hn pic_147 zA1) dX10_tune_75 (by have := pic_147.1; omega) (pic_147.2 g).1 rfl rfl w_568 qX4_countMissing rfl ⟨Nat.le_of_ble_eq_true rfl, Nat.le_of_ble_eq_true rfl⟩ ⟨Nat.le_of_ble_eq_true rfl, Nat.le_of_ble_eq_true rfl⟩ (Nat.le_of_ble_eq_true rfl) rfl (rest := []) (cells := 0 + 1) (slots := 0 + 6) (lv := [(0, yR g 0), (1, yI a), (2, yI b), (3, yI m), (4, yI f), (5, yI k)])
          refine y_cp (zz75) ?_
          refine y_istore (pc := 78) (lv' := [(0, yR g 0), (1, yI a), (2, yI b), (3, yI m), (4, yI f), (5, yI k), (6, yI (sCt w h (fun x y => decide (T1 x y = -1))))]) hF dX10_tune_78 (by decide) rfl rfl ?_
          refine y_aload_n (pc := 80) hF dX10_tune_80 0 rfl ?_
          refine y_get (pc := 81) (ci := 10) hF dX10_tune_81 (by omega) rfl rfl rfl iX10 6 (by decide) w_493 rfl ?_
          rw [show σ67 0 6 = bi ht from (by rw [zg 0 (by omega)]; exact hb1)]
          refine y_if_eq (pc := 84) hF dX10_tune_84 98 rfl bi_r (fun zc84 => ?_) (fun zc84 => ?_)
          · replace zc84 := bi_0.mp zc84
            have zhf : ht = false := by simpa [bi] using zc84
            refine y_iconst (pc := 98) hF dX10_tune_98 ?_
            refine y_istore (pc := 99) (lv' := [(0, yR g 0), (1, yI a), (2, yI b), (3, yI m), (4, yI f), (5, yI k), (6, yI (sCt w h (fun x y => decide (T1 x y = -1)))), (7, yI 0)]) hF dX10_tune_99 (by decide) rfl rfl ?_
            refine y_iload_n (pc := 101) hF dX10_tune_101 2 rfl ?_
            refine y_if_eq (pc := 102) hF dX10_tune_102 124 rfl (by omega) (fun zc102 => ?_) (fun zc102 => ?_)
            · skip
              refine y_iload (pc := 124) hF dX10_tune_124 5 rfl ?_
              refine y_istore_n (pc := 126) (lv' := [(0, yR g 0), (1, yI a), (2, yI k), (3, yI m), (4, yI f), (5, yI k), (6, yI (sCt w h (fun x y => decide (T1 x y = -1)))), (7, yI 0)]) hF dX10_tune_126 (by decide) rfl rfl ?_
              refine y_iload (pc := 127) hF dX10_tune_127 6 rfl ?_
              refine y_istore_n (pc := 129) (lv' := [(0, yR g 0), (1, yI a), (2, yI k), (3, yI (sCt w h (fun x y => decide (T1 x y = -1)))), (4, yI f), (5, yI k), (6, yI (sCt w h (fun x y => decide (T1 x y = -1)))), (7, yI 0)]) hF dX10_tune_129 (by decide) rfl rfl ?_
              refine y_iload (pc := 130) hF dX10_tune_130 7 rfl ?_
              refine y_istore (pc := 132) (lv' := [(0, yR g 0), (1, yI a), (2, yI k), (3, yI (sCt w h (fun x y => decide (T1 x y = -1)))), (4, yI 0), (5, yI k), (6, yI (sCt w h (fun x y => decide (T1 x y = -1)))), (7, yI 0)]) hF dX10_tune_132 (by decide) rfl rfl ?_
              refine y_iinc (pc := 134) (lv' := [(0, yR g 0), (1, yI a), (2, yI k), (3, yI (sCt w h (fun x y => decide (T1 x y = -1)))), (4, yI 0), (5, yI (k + 1)), (6, yI (sCt w h (fun x y => decide (T1 x y = -1)))), (7, yI 0)]) hF dX10_tune_134 5 rfl (by decide) rfl rfl ?_
              refine y_goto (pc := 137) hF dX10_tune_137 28 rfl ?_
              refine y_sub [0, 1, 2, 3, 4, 5] rfl ?_
              exact zh28 _ (by omega) σ67 (k + 1) (k) (sCt w h (fun x y => decide (T1 x y = -1))) (0) rfl ⟨⟨zg, zV1.T⟩, by omega, by omega, by unfold tnQ; rw [fr_up' _ _ zI28.2.1.1]; show _ = tnG w h ht K (gR w h k re fo ra tu we sh 0 (400 : Int).toNat (x00 T S F P O)).2 (tnQ w h T S F P O re fo ra tu we sh ht K  (k - 1).toNat) k; rw [← zI28.2.2.2, ← hX1]; unfold tnG; simp only [zhf, if_true, if_false, Bool.false_eq_true]; rw [if_pos (by omega)]; rfl⟩
            · skip
              refine y_iload (pc := 105) hF dX10_tune_105 6 rfl ?_
              refine y_iload_n (pc := 107) hF dX10_tune_107 3 rfl ?_
              refine y_icmp_lt (pc := 108) hF dX10_tune_108 124 rfl (by omega) (by omega) (fun zc108 => ?_) (fun zc108 => ?_)
              · skip
                refine y_iload (pc := 124) hF dX10_tune_124 5 rfl ?_
                refine y_istore_n (pc := 126) (lv' := [(0, yR g 0), (1, yI a), (2, yI k), (3, yI m), (4, yI f), (5, yI k), (6, yI (sCt w h (fun x y => decide (T1 x y = -1)))), (7, yI 0)]) hF dX10_tune_126 (by decide) rfl rfl ?_
                refine y_iload (pc := 127) hF dX10_tune_127 6 rfl ?_
                refine y_istore_n (pc := 129) (lv' := [(0, yR g 0), (1, yI a), (2, yI k), (3, yI (sCt w h (fun x y => decide (T1 x y = -1)))), (4, yI f), (5, yI k), (6, yI (sCt w h (fun x y => decide (T1 x y = -1)))), (7, yI 0)]) hF dX10_tune_129 (by decide) rfl rfl ?_
                refine y_iload (pc := 130) hF dX10_tune_130 7 rfl ?_
                refine y_istore (pc := 132) (lv' := [(0, yR g 0), (1, yI a), (2, yI k), (3, yI (sCt w h (fun x y => decide (T1 x y = -1)))), (4, yI 0), (5, yI k), (6, yI (sCt w h (fun x y => decide (T1 x y = -1)))), (7, yI 0)]) hF dX10_tune_132 (by decide) rfl rfl ?_
                refine y_iinc (pc := 134) (lv' := [(0, yR g 0), (1, yI a), (2, yI k), (3, yI (sCt w h (fun x y => decide (T1 x y = -1)))), (4, yI 0), (5, yI (k + 1)), (6, yI (sCt w h (fun x y => decide (T1 x y = -1)))), (7, yI 0)]) hF dX10_tune_134 5 rfl (by decide) rfl rfl ?_
                refine y_goto (pc := 137) hF dX10_tune_137 28 rfl ?_
                refine y_sub [0, 1, 2, 3, 4, 5] rfl ?_
                exact zh28 _ (by omega) σ67 (k + 1) (k) (sCt w h (fun x y => decide (T1 x y = -1))) (0) rfl ⟨⟨zg, zV1.T⟩, by omega, by omega, by unfold tnQ; rw [fr_up' _ _ zI28.2.1.1]; show _ = tnG w h ht K (gR w h k re fo ra tu we sh 0 (400 : Int).toNat (x00 T S F P O)).2 (tnQ w h T S F P O re fo ra tu we sh ht K  (k - 1).toNat) k; rw [← zI28.2.2.2, ← hX1]; unfold tnG; simp only [zhf, if_true, if_false, Bool.false_eq_true]; rw [if_pos (by omega)]; rfl⟩
              · skip
                refine y_iload (pc := 111) hF dX10_tune_111 6 rfl ?_
                refine y_iload_n (pc := 113) hF dX10_tune_113 3 rfl ?_
                refine y_icmp_ne (pc := 114) hF dX10_tune_114 134 rfl (by omega) (by omega) (fun zc114 => ?_) (fun zc114 => ?_)
                · skip
                  refine y_iinc (pc := 134) (lv' := [(0, yR g 0), (1, yI a), (2, yI b), (3, yI m), (4, yI f), (5, yI (k + 1)), (6, yI (sCt w h (fun x y => decide (T1 x y = -1)))), (7, yI 0)]) hF dX10_tune_134 5 rfl (by decide) rfl rfl ?_
                  refine y_goto (pc := 137) hF dX10_tune_137 28 rfl ?_
                  refine y_sub [0, 1, 2, 3, 4, 5] rfl ?_
                  exact zh28 _ (by omega) σ67 (k + 1) (b) (m) (f) rfl ⟨⟨zg, zV1.T⟩, by omega, by omega, by unfold tnQ; rw [fr_up' _ _ zI28.2.1.1]; show _ = tnG w h ht K (gR w h k re fo ra tu we sh 0 (400 : Int).toNat (x00 T S F P O)).2 (tnQ w h T S F P O re fo ra tu we sh ht K  (k - 1).toNat) k; rw [← zI28.2.2.2, ← hX1]; unfold tnG; simp only [zhf, if_true, if_false, Bool.false_eq_true]; rw [if_neg (by omega)]⟩
                · skip
                  refine y_iload (pc := 117) hF dX10_tune_117 7 rfl ?_
                  refine y_iload (pc := 119) hF dX10_tune_119 4 rfl ?_
                  refine y_icmp_ge (pc := 121) hF dX10_tune_121 134 rfl (by omega) (by omega) (fun zc121 => ?_) (fun zc121 => ?_)
                  · skip
                    refine y_iinc (pc := 134) (lv' := [(0, yR g 0), (1, yI a), (2, yI b), (3, yI m), (4, yI f), (5, yI (k + 1)), (6, yI (sCt w h (fun x y => decide (T1 x y = -1)))), (7, yI 0)]) hF dX10_tune_134 5 rfl (by decide) rfl rfl ?_
                    refine y_goto (pc := 137) hF dX10_tune_137 28 rfl ?_
                    refine y_sub [0, 1, 2, 3, 4, 5] rfl ?_
                    exact zh28 _ (by omega) σ67 (k + 1) (b) (m) (f) rfl ⟨⟨zg, zV1.T⟩, by omega, by omega, by unfold tnQ; rw [fr_up' _ _ zI28.2.1.1]; show _ = tnG w h ht K (gR w h k re fo ra tu we sh 0 (400 : Int).toNat (x00 T S F P O)).2 (tnQ w h T S F P O re fo ra tu we sh ht K  (k - 1).toNat) k; rw [← zI28.2.2.2, ← hX1]; unfold tnG; simp only [zhf, if_true, if_false, Bool.false_eq_true]; rw [if_neg (by omega)]⟩
                  · skip
                    refine y_iload (pc := 124) hF dX10_tune_124 5 rfl ?_
                    refine y_istore_n (pc := 126) (lv' := [(0, yR g 0), (1, yI a), (2, yI k), (3, yI m), (4, yI f), (5, yI k), (6, yI (sCt w h (fun x y => decide (T1 x y = -1)))), (7, yI 0)]) hF dX10_tune_126 (by decide) rfl rfl ?_
                    refine y_iload (pc := 127) hF dX10_tune_127 6 rfl ?_
                    refine y_istore_n (pc := 129) (lv' := [(0, yR g 0), (1, yI a), (2, yI k), (3, yI (sCt w h (fun x y => decide (T1 x y = -1)))), (4, yI f), (5, yI k), (6, yI (sCt w h (fun x y => decide (T1 x y = -1)))), (7, yI 0)]) hF dX10_tune_129 (by decide) rfl rfl ?_
                    refine y_iload (pc := 130) hF dX10_tune_130 7 rfl ?_
                    refine y_istore (pc := 132) (lv' := [(0, yR g 0), (1, yI a), (2, yI k), (3, yI (sCt w h (fun x y => decide (T1 x y = -1)))), (4, yI 0), (5, yI k), (6, yI (sCt w h (fun x y => decide (T1 x y = -1)))), (7, yI 0)]) hF dX10_tune_132 (by decide) rfl rfl ?_
                    refine y_iinc (pc := 134) (lv' := [(0, yR g 0), (1, yI a), (2, yI k), (3, yI (sCt w h (fun x y => decide (T1 x y = -1)))), (4, yI 0), (5, yI (k + 1)), (6, yI (sCt w h (fun x y => decide (T1 x y = -1)))), (7, yI 0)]) hF dX10_tune_134 5 rfl (by decide) rfl rfl ?_
                    refine y_goto (pc := 137) hF dX10_tune_137 28 rfl ?_
                    refine y_sub [0, 1, 2, 3, 4, 5] rfl ?_
                    exact zh28 _ (by omega) σ67 (k + 1) (k) (sCt w h (fun x y => decide (T1 x y = -1))) (0) rfl ⟨⟨zg, zV1.T⟩, by omega, by omega, by unfold tnQ; rw [fr_up' _ _ zI28.2.1.1]; show _ = tnG w h ht K (gR w h k re fo ra tu we sh 0 (400 : Int).toNat (x00 T S F P O)).2 (tnQ w h T S F P O re fo ra tu we sh ht K  (k - 1).toNat) k; rw [← zI28.2.2.2, ← hX1]; unfold tnG; simp only [zhf, if_true, if_false, Bool.false_eq_true]; rw [if_pos (by omega)]; rfl⟩
          · replace zc84 := bi_n0.mp zc84
            have zht : ht = true := by simpa [bi] using zc84
            have zfb := sFw_bd (F := F1) ⟨hw1, hw2⟩ ⟨hw3, hw4⟩ (fun x y a b c d => (zA1.1.2 x y a b c d).1) (hW0.2.2.1 zht)
            refine y_aload_n (pc := 87) hF dX10_tune_87 0 rfl ?_
            refine y_aload_n (pc := 88) hF dX10_tune_88 0 rfl ?_
            refine y_get (pc := 89) (ci := 10) hF dX10_tune_89 (by omega) rfl rfl rfl iX10 12 (by decide) w_499 rfl ?_
            have zz92 := y_rV (pc := 92) hF (tX10_flawOf (n := n) (σ := σ67) hn 147 w h T1 S1 F1 P1 O1 pic_147 zA1 K (fun x y a b c d => by rw [zg 115 (by omega)]; exact hb2 zht x y a b c d) (hW0.2.2.1 zht)) dX10_tune_92 (by omega) rfl rfl rfl w_590 qX10_flawOf rfl ⟨Nat.le_of_ble_eq_true rfl, Nat.le_of_ble_eq_true rfl⟩ ⟨Nat.le_of_ble_eq_true rfl, Nat.le_of_ble_eq_true rfl⟩ (Nat.le_of_ble_eq_true rfl) rfl (rest := []) (cells := 0 + 1) (slots := 0 + 6) (lv := [(0, yR g 0), (1, yI a), (2, yI b), (3, yI m), (4, yI f), (5, yI k), (6, yI (sCt w h (fun x y => decide (T1 x y = -1))))])
            refine y_cp (zz92) ?_
            refine y_goto (pc := 95) hF dX10_tune_95 99 rfl ?_
            refine y_istore (pc := 99) (lv' := [(0, yR g 0), (1, yI a), (2, yI b), (3, yI m), (4, yI f), (5, yI k), (6, yI (sCt w h (fun x y => decide (T1 x y = -1)))), (7, yI (sFw w h T1 F1 K))]) hF dX10_tune_99 (by decide) rfl rfl ?_
            refine y_iload_n (pc := 101) hF dX10_tune_101 2 rfl ?_
            refine y_if_eq (pc := 102) hF dX10_tune_102 124 rfl (by omega) (fun zc102 => ?_) (fun zc102 => ?_)
            · skip
              refine y_iload (pc := 124) hF dX10_tune_124 5 rfl ?_
              refine y_istore_n (pc := 126) (lv' := [(0, yR g 0), (1, yI a), (2, yI k), (3, yI m), (4, yI f), (5, yI k), (6, yI (sCt w h (fun x y => decide (T1 x y = -1)))), (7, yI (sFw w h T1 F1 K))]) hF dX10_tune_126 (by decide) rfl rfl ?_
              refine y_iload (pc := 127) hF dX10_tune_127 6 rfl ?_
              refine y_istore_n (pc := 129) (lv' := [(0, yR g 0), (1, yI a), (2, yI k), (3, yI (sCt w h (fun x y => decide (T1 x y = -1)))), (4, yI f), (5, yI k), (6, yI (sCt w h (fun x y => decide (T1 x y = -1)))), (7, yI (sFw w h T1 F1 K))]) hF dX10_tune_129 (by decide) rfl rfl ?_
              refine y_iload (pc := 130) hF dX10_tune_130 7 rfl ?_
              refine y_istore (pc := 132) (lv' := [(0, yR g 0), (1, yI a), (2, yI k), (3, yI (sCt w h (fun x y => decide (T1 x y = -1)))), (4, yI (sFw w h T1 F1 K)), (5, yI k), (6, yI (sCt w h (fun x y => decide (T1 x y = -1)))), (7, yI (sFw w h T1 F1 K))]) hF dX10_tune_132 (by decide) rfl rfl ?_
              refine y_iinc (pc := 134) (lv' := [(0, yR g 0), (1, yI a), (2, yI k), (3, yI (sCt w h (fun x y => decide (T1 x y = -1)))), (4, yI (sFw w h T1 F1 K)), (5, yI (k + 1)), (6, yI (sCt w h (fun x y => decide (T1 x y = -1)))), (7, yI (sFw w h T1 F1 K))]) hF dX10_tune_134 5 rfl (by decide) rfl rfl ?_
              refine y_goto (pc := 137) hF dX10_tune_137 28 rfl ?_
              refine y_sub [0, 1, 2, 3, 4, 5] rfl ?_
              exact zh28 _ (by omega) σ67 (k + 1) (k) (sCt w h (fun x y => decide (T1 x y = -1))) (sFw w h T1 F1 K) rfl ⟨⟨zg, zV1.T⟩, by omega, by omega, by unfold tnQ; rw [fr_up' _ _ zI28.2.1.1]; show _ = tnG w h ht K (gR w h k re fo ra tu we sh 0 (400 : Int).toNat (x00 T S F P O)).2 (tnQ w h T S F P O re fo ra tu we sh ht K  (k - 1).toNat) k; rw [← zI28.2.2.2, ← hX1]; unfold tnG; simp only [zht, if_true, if_false, Bool.false_eq_true]; rw [if_pos (by omega)]; rfl⟩
            · skip
              refine y_iload (pc := 105) hF dX10_tune_105 6 rfl ?_
              refine y_iload_n (pc := 107) hF dX10_tune_107 3 rfl ?_
              refine y_icmp_lt (pc := 108) hF dX10_tune_108 124 rfl (by omega) (by omega) (fun zc108 => ?_) (fun zc108 => ?_)
              · skip
                refine y_iload (pc := 124) hF dX10_tune_124 5 rfl ?_
                refine y_istore_n (pc := 126) (lv' := [(0, yR g 0), (1, yI a), (2, yI k), (3, yI m), (4, yI f), (5, yI k), (6, yI (sCt w h (fun x y => decide (T1 x y = -1)))), (7, yI (sFw w h T1 F1 K))]) hF dX10_tune_126 (by decide) rfl rfl ?_
                refine y_iload (pc := 127) hF dX10_tune_127 6 rfl ?_
                refine y_istore_n (pc := 129) (lv' := [(0, yR g 0), (1, yI a), (2, yI k), (3, yI (sCt w h (fun x y => decide (T1 x y = -1)))), (4, yI f), (5, yI k), (6, yI (sCt w h (fun x y => decide (T1 x y = -1)))), (7, yI (sFw w h T1 F1 K))]) hF dX10_tune_129 (by decide) rfl rfl ?_
                refine y_iload (pc := 130) hF dX10_tune_130 7 rfl ?_
                refine y_istore (pc := 132) (lv' := [(0, yR g 0), (1, yI a), (2, yI k), (3, yI (sCt w h (fun x y => decide (T1 x y = -1)))), (4, yI (sFw w h T1 F1 K)), (5, yI k), (6, yI (sCt w h (fun x y => decide (T1 x y = -1)))), (7, yI (sFw w h T1 F1 K))]) hF dX10_tune_132 (by decide) rfl rfl ?_
                refine y_iinc (pc := 134) (lv' := [(0, yR g 0), (1, yI a), (2, yI k), (3, yI (sCt w h (fun x y => decide (T1 x y = -1)))), (4, yI (sFw w h T1 F1 K)), (5, yI (k + 1)), (6, yI (sCt w h (fun x y => decide (T1 x y = -1)))), (7, yI (sFw w h T1 F1 K))]) hF dX10_tune_134 5 rfl (by decide) rfl rfl ?_
                refine y_goto (pc := 137) hF dX10_tune_137 28 rfl ?_
                refine y_sub [0, 1, 2, 3, 4, 5] rfl ?_
                exact zh28 _ (by omega) σ67 (k + 1) (k) (sCt w h (fun x y => decide (T1 x y = -1))) (sFw w h T1 F1 K) rfl ⟨⟨zg, zV1.T⟩, by omega, by omega, by unfold tnQ; rw [fr_up' _ _ zI28.2.1.1]; show _ = tnG w h ht K (gR w h k re fo ra tu we sh 0 (400 : Int).toNat (x00 T S F P O)).2 (tnQ w h T S F P O re fo ra tu we sh ht K  (k - 1).toNat) k; rw [← zI28.2.2.2, ← hX1]; unfold tnG; simp only [zht, if_true, if_false, Bool.false_eq_true]; rw [if_pos (by omega)]; rfl⟩
              · skip
                refine y_iload (pc := 111) hF dX10_tune_111 6 rfl ?_
                refine y_iload_n (pc := 113) hF dX10_tune_113 3 rfl ?_
                refine y_icmp_ne (pc := 114) hF dX10_tune_114 134 rfl (by omega) (by omega) (fun zc114 => ?_) (fun zc114 => ?_)
                · skip
                  refine y_iinc (pc := 134) (lv' := [(0, yR g 0), (1, yI a), (2, yI b), (3, yI m), (4, yI f), (5, yI (k + 1)), (6, yI (sCt w h (fun x y => decide (T1 x y = -1)))), (7, yI (sFw w h T1 F1 K))]) hF dX10_tune_134 5 rfl (by decide) rfl rfl ?_
                  refine y_goto (pc := 137) hF dX10_tune_137 28 rfl ?_
                  refine y_sub [0, 1, 2, 3, 4, 5] rfl ?_
                  exact zh28 _ (by omega) σ67 (k + 1) (b) (m) (f) rfl ⟨⟨zg, zV1.T⟩, by omega, by omega, by unfold tnQ; rw [fr_up' _ _ zI28.2.1.1]; show _ = tnG w h ht K (gR w h k re fo ra tu we sh 0 (400 : Int).toNat (x00 T S F P O)).2 (tnQ w h T S F P O re fo ra tu we sh ht K  (k - 1).toNat) k; rw [← zI28.2.2.2, ← hX1]; unfold tnG; simp only [zht, if_true, if_false, Bool.false_eq_true]; rw [if_neg (by omega)]⟩
                · skip
                  refine y_iload (pc := 117) hF dX10_tune_117 7 rfl ?_
                  refine y_iload (pc := 119) hF dX10_tune_119 4 rfl ?_
                  refine y_icmp_ge (pc := 121) hF dX10_tune_121 134 rfl (by omega) (by omega) (fun zc121 => ?_) (fun zc121 => ?_)
                  · skip
                    refine y_iinc (pc := 134) (lv' := [(0, yR g 0), (1, yI a), (2, yI b), (3, yI m), (4, yI f), (5, yI (k + 1)), (6, yI (sCt w h (fun x y => decide (T1 x y = -1)))), (7, yI (sFw w h T1 F1 K))]) hF dX10_tune_134 5 rfl (by decide) rfl rfl ?_
                    refine y_goto (pc := 137) hF dX10_tune_137 28 rfl ?_
                    refine y_sub [0, 1, 2, 3, 4, 5] rfl ?_
                    exact zh28 _ (by omega) σ67 (k + 1) (b) (m) (f) rfl ⟨⟨zg, zV1.T⟩, by omega, by omega, by unfold tnQ; rw [fr_up' _ _ zI28.2.1.1]; show _ = tnG w h ht K (gR w h k re fo ra tu we sh 0 (400 : Int).toNat (x00 T S F P O)).2 (tnQ w h T S F P O re fo ra tu we sh ht K  (k - 1).toNat) k; rw [← zI28.2.2.2, ← hX1]; unfold tnG; simp only [zht, if_true, if_false, Bool.false_eq_true]; rw [if_neg (by omega)]⟩
                  · skip
                    refine y_iload (pc := 124) hF dX10_tune_124 5 rfl ?_
                    refine y_istore_n (pc := 126) (lv' := [(0, yR g 0), (1, yI a), (2, yI k), (3, yI m), (4, yI f), (5, yI k), (6, yI (sCt w h (fun x y => decide (T1 x y = -1)))), (7, yI (sFw w h T1 F1 K))]) hF dX10_tune_126 (by decide) rfl rfl ?_
                    refine y_iload (pc := 127) hF dX10_tune_127 6 rfl ?_
                    refine y_istore_n (pc := 129) (lv' := [(0, yR g 0), (1, yI a), (2, yI k), (3, yI (sCt w h (fun x y => decide (T1 x y = -1)))), (4, yI f), (5, yI k), (6, yI (sCt w h (fun x y => decide (T1 x y = -1)))), (7, yI (sFw w h T1 F1 K))]) hF dX10_tune_129 (by decide) rfl rfl ?_
                    refine y_iload (pc := 130) hF dX10_tune_130 7 rfl ?_
                    refine y_istore (pc := 132) (lv' := [(0, yR g 0), (1, yI a), (2, yI k), (3, yI (sCt w h (fun x y => decide (T1 x y = -1)))), (4, yI (sFw w h T1 F1 K)), (5, yI k), (6, yI (sCt w h (fun x y => decide (T1 x y = -1)))), (7, yI (sFw w h T1 F1 K))]) hF dX10_tune_132 (by decide) rfl rfl ?_
                    refine y_iinc (pc := 134) (lv' := [(0, yR g 0), (1, yI a), (2, yI k), (3, yI (sCt w h (fun x y => decide (T1 x y = -1)))), (4, yI (sFw w h T1 F1 K)), (5, yI (k + 1)), (6, yI (sCt w h (fun x y => decide (T1 x y = -1)))), (7, yI (sFw w h T1 F1 K))]) hF dX10_tune_134 5 rfl (by decide) rfl rfl ?_
                    refine y_goto (pc := 137) hF dX10_tune_137 28 rfl ?_
                    refine y_sub [0, 1, 2, 3, 4, 5] rfl ?_
                    exact zh28 _ (by omega) σ67 (k + 1) (k) (sCt w h (fun x y => decide (T1 x y = -1))) (sFw w h T1 F1 K) rfl ⟨⟨zg, zV1.T⟩, by omega, by omega, by unfold tnQ; rw [fr_up' _ _ zI28.2.1.1]; show _ = tnG w h ht K (gR w h k re fo ra tu we sh 0 (400 : Int).toNat (x00 T S F P O)).2 (tnQ w h T S F P O re fo ra tu we sh ht K  (k - 1).toNat) k; rw [← zI28.2.2.2, ← hX1]; unfold tnG; simp only [zht, if_true, if_false, Bool.false_eq_true]; rw [if_pos (by omega)]; rfl⟩
    exact zL28 _ σ (1) (0) (0) (0) rfl ⟨⟨fun c _ => rfl, hT⟩, by omega, by omega, rfl⟩
  refine y_aload_n (pc := 0) hF dX10_tune_0 0 rfl ?_
  refine y_iload_n (pc := 1) hF dX10_tune_1 1 rfl ?_
  refine y_if_lt (pc := 2) hF dX10_tune_2 14 rfl (by omega) (fun zc2 => ?_) (fun zc2 => ?_)
  · skip
    refine y_iconst (pc := 14) hF dX10_tune_14 ?_
    exact zJ15 false (decide_eq_false (by omega)).symm
  · skip
    refine y_iload_n (pc := 5) hF dX10_tune_5 1 rfl ?_
    refine y_iconst (pc := 6) hF dX10_tune_6 ?_
    refine y_icmp_gt (pc := 7) hF dX10_tune_7 14 rfl (by omega) (by omega) (fun zc7 => ?_) (fun zc7 => ?_)
    · skip
      refine y_iconst (pc := 14) hF dX10_tune_14 ?_
      exact zJ15 false (decide_eq_false (by omega)).symm
    · skip
      refine y_iconst (pc := 10) hF dX10_tune_10 ?_
      refine y_goto (pc := 11) hF dX10_tune_11 15 rfl ?_
      exact zJ15 true (decide_eq_true (by omega)).symm

theorem dX10_turning_0 : decode cX10_turning 0 = .ok (.aload_n 0, 1) := by decide +kernel
theorem dX10_turning_1 : decode cX10_turning 1 = .ok (.iload_n 1, 1) := by decide +kernel
theorem dX10_turning_2 : decode cX10_turning 2 = .ok (.ifCond .eq 8, 3) := by decide +kernel
theorem dX10_turning_5 : decode cX10_turning 5 = .ok (.iload_n 1, 1) := by decide +kernel
theorem dX10_turning_6 : decode cX10_turning 6 = .ok (.iconst 1, 1) := by decide +kernel
theorem dX10_turning_7 : decode cX10_turning 7 = .ok (.if_icmp .ne 7, 3) := by decide +kernel
theorem dX10_turning_10 : decode cX10_turning 10 = .ok (.iconst 1, 1) := by decide +kernel
theorem dX10_turning_11 : decode cX10_turning 11 = .ok (.goto 4, 3) := by decide +kernel
theorem dX10_turning_14 : decode cX10_turning 14 = .ok (.iconst 0, 1) := by decide +kernel
theorem dX10_turning_15 : decode cX10_turning 15 = .ok (.invokevirtual 110, 3) := by decide +kernel
theorem dX10_turning_18 : decode cX10_turning 18 = .ok (.iconst (-1), 1) := by decide +kernel
theorem dX10_turning_19 : decode cX10_turning 19 = .ok (.istore_n 2, 1) := by decide +kernel
theorem dX10_turning_20 : decode cX10_turning 20 = .ok (.lconst 0, 1) := by decide +kernel
theorem dX10_turning_21 : decode cX10_turning 21 = .ok (.lstore_n 3, 1) := by decide +kernel
theorem dX10_turning_22 : decode cX10_turning 22 = .ok (.iconst 0, 1) := by decide +kernel
theorem dX10_turning_23 : decode cX10_turning 23 = .ok (.istore 5, 2) := by decide +kernel
theorem dX10_turning_25 : decode cX10_turning 25 = .ok (.iload 5, 2) := by decide +kernel
theorem dX10_turning_27 : decode cX10_turning 27 = .ok (.iconst 3, 1) := by decide +kernel
theorem dX10_turning_28 : decode cX10_turning 28 = .ok (.if_icmp .gt 74, 3) := by decide +kernel
theorem dX10_turning_31 : decode cX10_turning 31 = .ok (.aload_n 0, 1) := by decide +kernel
theorem dX10_turning_32 : decode cX10_turning 32 = .ok (.invokevirtual 384, 3) := by decide +kernel
theorem dX10_turning_35 : decode cX10_turning 35 = .ok (.aload_n 0, 1) := by decide +kernel
theorem dX10_turning_36 : decode cX10_turning 36 = .ok (.getfield 83, 3) := by decide +kernel
theorem dX10_turning_39 : decode cX10_turning 39 = .ok (.iload 5, 2) := by decide +kernel
theorem dX10_turning_41 : decode cX10_turning 41 = .ok (.putfield 224, 3) := by decide +kernel
theorem dX10_turning_44 : decode cX10_turning 44 = .ok (.aload_n 0, 1) := by decide +kernel
theorem dX10_turning_45 : decode cX10_turning 45 = .ok (.getfield 79, 3) := by decide +kernel
theorem dX10_turning_48 : decode cX10_turning 48 = .ok (.aload_n 0, 1) := by decide +kernel
theorem dX10_turning_49 : decode cX10_turning 49 = .ok (.getfield 86, 3) := by decide +kernel
theorem dX10_turning_52 : decode cX10_turning 52 = .ok (.aload_n 0, 1) := by decide +kernel
theorem dX10_turning_53 : decode cX10_turning 53 = .ok (.getfield 83, 3) := by decide +kernel
theorem dX10_turning_56 : decode cX10_turning 56 = .ok (.iconst 0, 1) := by decide +kernel
theorem dX10_turning_57 : decode cX10_turning 57 = .ok (.aload_n 0, 1) := by decide +kernel
theorem dX10_turning_58 : decode cX10_turning 58 = .ok (.getfield 89, 3) := by decide +kernel
theorem dX10_turning_61 : decode cX10_turning 61 = .ok (.sipush 400, 3) := by decide +kernel
theorem dX10_turning_64 : decode cX10_turning 64 = .ok (.invokevirtual 184, 3) := by decide +kernel
theorem dX10_turning_67 : decode cX10_turning 67 = .ok (.pop, 1) := by decide +kernel
theorem dX10_turning_68 : decode cX10_turning 68 = .ok (.iload_n 2, 1) := by decide +kernel
theorem dX10_turning_69 : decode cX10_turning 69 = .ok (.iconst (-1), 1) := by decide +kernel
theorem dX10_turning_70 : decode cX10_turning 70 = .ok (.if_icmp .eq 15, 3) := by decide +kernel
theorem dX10_turning_73 : decode cX10_turning 73 = .ok (.aload_n 0, 1) := by decide +kernel
theorem dX10_turning_74 : decode cX10_turning 74 = .ok (.getfield 89, 3) := by decide +kernel
theorem dX10_turning_77 : decode cX10_turning 77 = .ok (.getfield 220, 3) := by decide +kernel
theorem dX10_turning_80 : decode cX10_turning 80 = .ok (.lload_n 3, 1) := by decide +kernel
theorem dX10_turning_81 : decode cX10_turning 81 = .ok (.lcmp, 1) := by decide +kernel
theorem dX10_turning_82 : decode cX10_turning 82 = .ok (.ifCond .ge 14, 3) := by decide +kernel
theorem dX10_turning_85 : decode cX10_turning 85 = .ok (.iload 5, 2) := by decide +kernel
theorem dX10_turning_87 : decode cX10_turning 87 = .ok (.istore_n 2, 1) := by decide +kernel
theorem dX10_turning_88 : decode cX10_turning 88 = .ok (.aload_n 0, 1) := by decide +kernel
theorem dX10_turning_89 : decode cX10_turning 89 = .ok (.getfield 89, 3) := by decide +kernel
theorem dX10_turning_92 : decode cX10_turning 92 = .ok (.getfield 220, 3) := by decide +kernel
theorem dX10_turning_95 : decode cX10_turning 95 = .ok (.lstore_n 3, 1) := by decide +kernel
theorem dX10_turning_96 : decode cX10_turning 96 = .ok (.iinc 5 1, 3) := by decide +kernel
theorem dX10_turning_99 : decode cX10_turning 99 = .ok (.goto (-74), 3) := by decide +kernel
theorem dX10_turning_102 : decode cX10_turning 102 = .ok (.iload_n 1, 1) := by decide +kernel
theorem dX10_turning_103 : decode cX10_turning 103 = .ok (.ifCond .ne 7, 3) := by decide +kernel
theorem dX10_turning_106 : decode cX10_turning 106 = .ok (.iload_n 2, 1) := by decide +kernel
theorem dX10_turning_107 : decode cX10_turning 107 = .ok (.goto 5, 3) := by decide +kernel
theorem dX10_turning_110 : decode cX10_turning 110 = .ok (.lload_n 3, 1) := by decide +kernel
theorem dX10_turning_111 : decode cX10_turning 111 = .ok (.l2i, 1) := by decide +kernel
theorem dX10_turning_112 : decode cX10_turning 112 = .ok (.ireturn, 1) := by decide +kernel
set_option maxHeartbeats 4000000 in
set_option maxRecDepth 100000 in
theorem tX10_turning {l : Launch} {g : yG} {n : Nat} {σ : yM} (hlt : l.stackTraces = false) (hn : 172 ≤ n) (w h : Int) (T S F P O : Int → Int → Int) (nf df nl : Int) (lg : Int → Int → Int) (s re fo ra tu we sh : Int) (H : List aX) (ht : Bool) (K : Int → Int → Int) (tl : Int) (tb : Int → Int) (fa r1 r2 N : Int) (hV : cV σ (w, h, (T, S, F, P, O, nf, df, nl, lg), (s, re, fo, ra, tu, we, sh), H, ht, K, tl, tb, fa, r1, r2)) (hW : aW N (w, h, (T, S, F, P, O, nf, df, nl, lg), (s, re, fo, ra, tu, we, sh), H, ht, K, tl, tb, fa, r1, r2)) (a : Int) (ha : -2147483648 ≤ a ∧ a < 2147483648) : yMX l g yX10_turning cX10_turning 6 (some .int) (rmA 8 4 24) [yR g 0, yI a] (SC g) n σ (SC g) (yPi (fun zv n' σ' => n ≤ n' ∧ (a = 0 ∨ a = 1) ∧ zv = trV (trQ w h T S F P O s re fo ra we sh 4) a ∧ cV σ' (w, h, (T, S, F, P, O, nf, df, nl, lg), (s, re, fo, ra, tu, we, sh), H, ht, K, tl, tb, fa, r1, r2) ∧ cF σ σ')) (fun E n' σ' => E = eA ∧ n ≤ n' ∧ ¬ (a = 0 ∨ a = 1) ∧ cV σ' (bA (w, h, (T, S, F, P, O, nf, df, nl, lg), (s, re, fo, ra, tu, we, sh), H, ht, K, tl, tb, fa, r1, r2)) ∧ cF σ σ') := by
  obtain ⟨⟨hA, hJ⟩, hS, hH, ⟨hb1, hb2⟩, ⟨ht1, ht2⟩, hfa, hr1, hr2, hT⟩ := id hV
  obtain ⟨hw1, hw2, hw3, hw4⟩ := id hA.1.1
  obtain ⟨hs1, hs2, hs3, hs4, hs5, hs6, hs7⟩ := id hS.2
  have z128 : 128 < n := by omega
  have z129 : 129 < n := by omega
  have z130 : 130 < n := by omega
  obtain ⟨N0, hW0⟩ : ∃ q, aW q (w, h, (T, S, F, P, O, nf, df, nl, lg), (s, re, fo, ra, tu, we, sh), H, ht, K, tl, tb, fa, r1, r2) := ⟨_, hW⟩
  refine y_startX (by decide) (Nat.le_of_ble_eq_true rfl) (fun X0 hX => ?_)
  have hF := hX.1
  show yV X0 g 6 (yQX X0 g (SC g) (yPi (fun zv n' σ' => n ≤ n' ∧ (a = 0 ∨ a = 1) ∧ zv = trV (trQ w h T S F P O s re fo ra we sh 4) a ∧ cV σ' (w, h, (T, S, F, P, O, nf, df, nl, lg), (s, re, fo, ra, tu, we, sh), H, ht, K, tl, tb, fa, r1, r2) ∧ cF σ σ')) (fun E n' σ' => E = eA ∧ n ≤ n' ∧ ¬ (a = 0 ∨ a = 1) ∧ cV σ' (bA (w, h, (T, S, F, P, O, nf, df, nl, lg), (s, re, fo, ra, tu, we, sh), H, ht, K, tl, tb, fa, r1, r2)) ∧ cF σ σ') (rmA 8 4 24)) (SC g) n σ 0 0 0 [(0, yR g 0), (1, yI a)] []
  have zJ15 : ∀ (zb : Bool), (zb = decide (a = 0 ∨ a = 1)) → yV X0 g 6 (yQX X0 g (SC g) (yPi (fun zv n' σ' => n ≤ n' ∧ (a = 0 ∨ a = 1) ∧ zv = trV (trQ w h T S F P O s re fo ra we sh 4) a ∧ cV σ' (w, h, (T, S, F, P, O, nf, df, nl, lg), (s, re, fo, ra, tu, we, sh), H, ht, K, tl, tb, fa, r1, r2) ∧ cF σ σ')) (fun E n' σ' => E = eA ∧ n ≤ n' ∧ ¬ (a = 0 ∨ a = 1) ∧ cV σ' (bA (w, h, (T, S, F, P, O, nf, df, nl, lg), (s, re, fo, ra, tu, we, sh), H, ht, K, tl, tb, fa, r1, r2)) ∧ cF σ σ') (rmA 8 4 24)) (SC g) n σ 0 0 15 [(0, yR g 0), (1, yI a)] [yI (bi zb), yR g 0] := by
    intro zb  zhb
    refine y_contX (cells' := 0 + 1) (slots' := 0 + 6) hX (y_rVX (pc := 15) hX (tX10_demand hlt hn zb) dX10_turning_15 (by omega) rfl rfl rfl w_611 qX10_demand rfl ⟨Nat.le_of_ble_eq_true rfl, Nat.le_of_ble_eq_true rfl⟩ ⟨Nat.le_of_ble_eq_true rfl, Nat.le_of_ble_eq_true rfl⟩ (Nat.le_of_ble_eq_true rfl) rfl) rfl rfl ⟨Nat.le_of_ble_eq_true rfl, Nat.le_of_ble_eq_true rfl⟩ (fun E n' σ' zx => ⟨zx.1, zx.2.1, by have zq := zx.2.2.1; rw [zhb] at zq; simpa using zq, by rw [zx.2.2.2]; exact hV.bA, by rw [zx.2.2.2]; exact cF_N⟩) (fun r15 n' σ15 zp15 => ?_)
    obtain ⟨zr15, zp15⟩ := zp15
    subst zr15
    obtain ⟨zn15, zs15, zb15⟩ := zp15
    have zs15 := zs15.symm
    subst zs15
    have zn15 := zn15.symm
    subst zn15
    skip
    show yV X0 g 6 (yQX X0 g (SC g) (yPi (fun zv n' σ' => n ≤ n' ∧ (a = 0 ∨ a = 1) ∧ zv = trV (trQ w h T S F P O s re fo ra we sh 4) a ∧ cV σ' (w, h, (T, S, F, P, O, nf, df, nl, lg), (s, re, fo, ra, tu, we, sh), H, ht, K, tl, tb, fa, r1, r2) ∧ cF σ σ')) (fun E n' σ' => E = eA ∧ n ≤ n' ∧ ¬ (a = 0 ∨ a = 1) ∧ cV σ' (bA (w, h, (T, S, F, P, O, nf, df, nl, lg), (s, re, fo, ra, tu, we, sh), H, ht, K, tl, tb, fa, r1, r2)) ∧ cF σ σ') (rmA 8 4 24)) (SC g) n σ (0 + 1) (0 + 6) 18 [(0, yR g 0), (1, yI a)] []
    have zok : a = 0 ∨ a = 1 := by have zq := zb15; rw [zhb] at zq; simpa using zq
    refine y_iconst (pc := 18) hF dX10_turning_18 ?_
    refine y_istore_n (pc := 19) (lv' := [(0, yR g 0), (1, yI a), (2, yI (-1))]) hF dX10_turning_19 (by decide) rfl rfl ?_
    refine y_lconst (pc := 20) (v := 0) hF dX10_turning_20 rfl ?_
    refine y_lstore_n (pc := 21) (lv' := [(0, yR g 0), (1, yI a), (2, yI (-1)), (3, yJ 0)]) hF dX10_turning_21 (by decide) rfl rfl rfl ?_
    refine y_iconst (pc := 22) hF dX10_turning_22 ?_
    refine y_istore (pc := 23) (lv' := [(0, yR g 0), (1, yI a), (2, yI (-1)), (3, yJ 0), (5, yI 0)]) hF dX10_turning_23 (by decide) rfl rfl ?_
    have zL25 : ∀ (N : Nat) (τ : yM) (k b : Int) (f : Int), N = (4 - k).toNat → ((fc 120 154 σ τ ∧ rT τ) ∧ (0 ≤ k ∧ k ≤ 4) ∧ ((-1 ≤ b ∧ b ≤ 3) ∧ (0 ≤ f ∧ f ≤ 30000000000)) ∧ (b, f) = trQ w h T S F P O s re fo ra we sh k.toNat) → yV X0 g 6 (yQX X0 g (SC g) (yPi (fun zv n' σ' => n ≤ n' ∧ (a = 0 ∨ a = 1) ∧ zv = trV (trQ w h T S F P O s re fo ra we sh 4) a ∧ cV σ' (w, h, (T, S, F, P, O, nf, df, nl, lg), (s, re, fo, ra, tu, we, sh), H, ht, K, tl, tb, fa, r1, r2) ∧ cF σ σ')) (fun E n' σ' => E = eA ∧ n ≤ n' ∧ ¬ (a = 0 ∨ a = 1) ∧ cV σ' (bA (w, h, (T, S, F, P, O, nf, df, nl, lg), (s, re, fo, ra, tu, we, sh), H, ht, K, tl, tb, fa, r1, r2)) ∧ cF σ σ') (rmA 8 4 24)) (SC g) n τ (0 + 1) (0 + 6) 25 [(0, yR g 0), (1, yI a), (2, yI b), (3, yJ f), (5, yI k)] [] := by
      intro N
      induction N using Nat.strongRecOn with
      | ind N zh25 =>
        intro τ  k b  f  zN25 zI25
        refine y_iload (pc := 25) hF dX10_turning_25 4 rfl ?_
        refine y_iconst (pc := 27) hF dX10_turning_27 ?_
        refine y_icmp_gt (pc := 28) hF dX10_turning_28 102 rfl (by omega) (by omega) (fun zc28 => ?_) (fun zc28 => ?_)
        · skip
          have zq : (b, f) = trQ w h T S F P O s re fo ra we sh 4 := by rw [zI25.2.2.2, show k = 4 by omega]; rfl
          have zVe := hV.scr zI25.1.1 (by omega) zI25.1.2
          refine y_iload_n (pc := 102) hF dX10_turning_102 1 rfl ?_
          refine y_if_ne (pc := 103) hF dX10_turning_103 110 rfl (by omega) (fun zc103 => ?_) (fun zc103 => ?_)
          · skip
            refine y_lload_n (pc := 110) hF dX10_turning_110 3 rfl ?_
            refine y_l2i (pc := 111) hF dX10_turning_111 ?_
            exact y_retX (y_iret (pc := 112) hF dX10_turning_112 (Nat.le_of_ble_eq_true rfl) (Nat.le_of_ble_eq_true rfl) ⟨_, rfl, Nat.le_refl _, zok, by rw [← zq]; unfold trV; rw [if_neg zc103], zVe, zI25.1.1.cF (by omega)⟩)
          · skip
            refine y_iload_n (pc := 106) hF dX10_turning_106 2 rfl ?_
            refine y_goto (pc := 107) hF dX10_turning_107 112 rfl ?_
            exact y_retX (y_iret (pc := 112) hF dX10_turning_112 (Nat.le_of_ble_eq_true rfl) (Nat.le_of_ble_eq_true rfl) ⟨_, rfl, Nat.le_refl _, zok, by rw [← zq]; unfold trV; rw [if_pos zc103], zVe, zI25.1.1.cF (by omega)⟩)
        · skip
          have zVt := hV.scr zI25.1.1 (by omega) zI25.1.2
          obtain ⟨X1, hX1⟩ : ∃ X, X = (gR w h s re fo ra k we sh 0 (400 : Int).toNat (x00 T S F P O)).2 := ⟨_, rfl⟩
          obtain ⟨T1, S1, F1, P1, O1, nf1, df1, nl1, lg1⟩ := X1
          have zdb := (gR_df (re := re) (fo := fo) (ra := ra) (we := we) (sh := sh) (lv := 0) (tu := k) (s := s) (by omega) (by omega) hA.1).2
          rw [← hX1] at zdb
          simp only [xDf] at zdb
          refine y_aload_n (pc := 31) hF dX10_turning_31 0 rfl ?_
          refine y_cv (y_rV (pc := 32) hF (tX10_startTrial hn w h T S F P O nf df nl lg s re fo ra tu we sh H ht K tl tb fa r1 r2 N0 zVt hW0) dX10_turning_32 (by omega) rfl rfl rfl w_1141 qX10_startTrial rfl ⟨Nat.le_of_ble_eq_true rfl, Nat.le_of_ble_eq_true rfl⟩ ⟨Nat.le_of_ble_eq_true rfl, Nat.le_of_ble_eq_true rfl⟩ (Nat.le_of_ble_eq_true rfl) rfl) rfl rfl (fun n' σ32 zp32 => ?_)
          obtain ⟨zn32, zp32⟩ := zp32
          have zn32 := zn32.symm
          subst zn32
          have zTs := zVt.T.fr (zp32.1 127 (by omega))
          refine y_aload_n (pc := 35) hF dX10_turning_35 0 rfl ?_
          refine y_get (pc := 36) (ci := 10) hF dX10_turning_36 (by omega) rfl rfl rfl iX10 11 (by decide) w_498 rfl ?_
          refine y_iload (pc := 39) hF dX10_turning_39 4 rfl ?_
          refine y_putfN (pc := 41) (ci := 7) (σ' := yset σ32 146 4 k) (sch' := (SC g)) hF dX10_turning_41 (by omega) rfl rfl rfl iX7 4 (by decide) w_179 tyX7 tyX7_ok nmX7 rfl rfl (by rfl) rfl (Nat.le_of_ble_eq_true rfl) rfl (y_ps rfl) (fun k' h => ⟨yset_n h, rfl⟩) ?_
          obtain ⟨τ1, hτ1⟩ : ∃ s, s = yset σ32 146 4 k := ⟨_, rfl⟩
          rw [← hτ1]
          have zt9 : ∀ c : Nat, c ≠ 146 → τ1 c = σ32 c := fun c hc => by rw [hτ1, yset_n hc]
          have z9 : fc 146 154 τ τ1 := fun c a => by rw [zt9 c (by omega)]; exact zp32.1 c (by omega)
          have zA9 := zp32.2.2.1.fr (σ' := τ1) (fun c a b => zt9 c (by omega))
          have zJ9 := zp32.2.2.2.fr (σ' := τ1) (zt9 153 (by omega)) (zt9 154 (by omega))
          have zT9 := zTs.fr (σ' := τ1) (zt9 127 (by omega))
          have zS9 : rS τ1 146 s re fo ra k we sh := by rw [hτ1]; have zq := rS_set (a := 4) (v := k) zp32.2.1 (by have zy : ys 2 4 = 0 ∧ ys 3 4 = 3 := (by decide); simp only [sAl, Bool.and_eq_true, decide_eq_true_eq]; omega); simpa using zq
          refine y_aload_n (pc := 44) hF dX10_turning_44 0 rfl ?_
          refine y_get (pc := 45) (ci := 10) hF dX10_turning_45 (by omega) rfl rfl rfl iX10 10 (by decide) w_497 rfl ?_
          refine y_aload_n (pc := 48) hF dX10_turning_48 0 rfl ?_
          refine y_get (pc := 49) (ci := 10) hF dX10_turning_49 (by omega) rfl rfl rfl iX10 12 (by decide) w_499 rfl ?_
          refine y_aload_n (pc := 52) hF dX10_turning_52 0 rfl ?_
          refine y_get (pc := 53) (ci := 10) hF dX10_turning_53 (by omega) rfl rfl rfl iX10 11 (by decide) w_498 rfl ?_
          refine y_iconst (pc := 56) hF dX10_turning_56 ?_
          refine y_aload_n (pc := 57) hF dX10_turning_57 0 rfl ?_
          refine y_get (pc := 58) (ci := 10) hF dX10_turning_58 (by omega) rfl rfl rfl iX10 13 (by decide) w_500 rfl ?_
          refine y_sipush (pc := 61) hF dX10_turning_61 (by decide) ?_
          refine y_ci (y_rV (pc := 64) hF (tX0_run 147 146 w h T S F P O s re fo ra k we sh hn pic_147 set_146 zA9 zS9 (by omega) (by omega) (by omega) 153 0 0 0 (fun _ _ => 0) jou_153 zJ9 (by omega) (by omega) (by omega) zT9 (by omega) 0 (by omega) 400 (by omega)) dX10_turning_64 (by omega) rfl rfl rfl w_813 qX0_run rfl ⟨Nat.le_of_ble_eq_true rfl, Nat.le_of_ble_eq_true rfl⟩ ⟨Nat.le_of_ble_eq_true rfl, Nat.le_of_ble_eq_true rfl⟩ (Nat.le_of_ble_eq_true rfl) rfl) rfl rfl (fun r64 n' σ64 zp64 => ?_)
          obtain ⟨zn64, zv64, zp64⟩ := zp64
          have zn64 := zn64.symm
          subst zn64
          rw [zv64]
          have zf := fG.trial z9 zp64.2.1
          have zV1 := zVt.scr zf (by omega) zp64.1
          have zX1 : rXc σ64 147 153 w h (T1, S1, F1, P1, O1, nf1, df1, nl1, lg1) := by have zq := zp64.2.2; rw [show (gR w h s re fo ra k we sh 0 (400 : Int).toNat (T, S, F, P, O, 0, 0, 0, (fun _ _ => 0))).2 = _ from hX1.symm] at zq; exact zq
          have zA1 := zX1.1
          have zJ1 := zX1.2
          have zg : fc 120 154 σ σ64 := fun c a => by rw [zf c a]; exact zI25.1.1 c a
          have zJd := zJ1.2.1
          refine y_pop (pc := 67) hF dX10_turning_67 rfl ?_
          refine y_iload_n (pc := 68) hF dX10_turning_68 2 rfl ?_
          refine y_iconst (pc := 69) hF dX10_turning_69 ?_
          refine y_icmp_eq (pc := 70) hF dX10_turning_70 85 rfl (by omega) (by omega) (fun zc70 => ?_) (fun zc70 => ?_)
          · skip
            refine y_iload (pc := 85) hF dX10_turning_85 4 rfl ?_
            refine y_istore_n (pc := 87) (lv' := [(0, yR g 0), (1, yI a), (2, yI k), (3, yJ f), (5, yI k)]) hF dX10_turning_87 (by decide) rfl rfl ?_
            refine y_aload_n (pc := 88) hF dX10_turning_88 0 rfl ?_
            refine y_get (pc := 89) (ci := 10) hF dX10_turning_89 (by omega) rfl rfl rfl iX10 13 (by decide) w_500 rfl ?_
            refine y_getN (pc := 92) (ci := 2) hF dX10_turning_92 (by omega) rfl rfl rfl iX2 1 (by decide) w_261 rfl ?_
            rw [show σ64 153 1 = df1 from zJd]
            refine y_lstore_n (pc := 95) (lv' := [(0, yR g 0), (1, yI a), (2, yI k), (3, yJ df1), (5, yI k)]) hF dX10_turning_95 (by decide) rfl rfl rfl ?_
            refine y_iinc (pc := 96) (lv' := [(0, yR g 0), (1, yI a), (2, yI k), (3, yJ df1), (5, yI (k + 1))]) hF dX10_turning_96 4 rfl (by decide) rfl rfl ?_
            refine y_goto (pc := 99) hF dX10_turning_99 25 rfl ?_
            exact zh25 _ (by omega) σ64 (k + 1) (k) (df1) rfl ⟨⟨zg, zV1.T⟩, by omega, by omega, by unfold trQ; rw [fr_up _ _ _ _ zI25.2.1.1, Int.zero_add]; show _ = trG (gR w h s re fo ra k we sh 0 (400 : Int).toNat (x00 T S F P O)).2 (trQ w h T S F P O s re fo ra we sh  k.toNat) k; rw [← zI25.2.2.2, ← hX1]; exact (trG_1 (R := (T1, S1, F1, P1, O1, nf1, df1, nl1, lg1)) (q := (b, f)) (show b = -1 ∨ df1 < f by omega)).symm⟩
          · skip
            refine y_aload_n (pc := 73) hF dX10_turning_73 0 rfl ?_
            refine y_get (pc := 74) (ci := 10) hF dX10_turning_74 (by omega) rfl rfl rfl iX10 13 (by decide) w_500 rfl ?_
            refine y_getN (pc := 77) (ci := 2) hF dX10_turning_77 (by omega) rfl rfl rfl iX2 1 (by decide) w_261 rfl ?_
            rw [show σ64 153 1 = df1 from zJd]
            refine y_lload_n (pc := 80) hF dX10_turning_80 3 rfl ?_
            refine y_lcmp (pc := 81) hF dX10_turning_81 (by omega) (by omega) ?_
            refine y_if_ge (pc := 82) hF dX10_turning_82 96 rfl ycmp_r (fun zc82 => ?_) (fun zc82 => ?_)
            · skip
              refine y_iinc (pc := 96) (lv' := [(0, yR g 0), (1, yI a), (2, yI b), (3, yJ f), (5, yI (k + 1))]) hF dX10_turning_96 4 rfl (by decide) rfl rfl ?_
              refine y_goto (pc := 99) hF dX10_turning_99 25 rfl ?_
              exact zh25 _ (by omega) σ64 (k + 1) (b) (f) rfl ⟨⟨zg, zV1.T⟩, by omega, by omega, by unfold trQ; rw [fr_up _ _ _ _ zI25.2.1.1, Int.zero_add]; show _ = trG (gR w h s re fo ra k we sh 0 (400 : Int).toNat (x00 T S F P O)).2 (trQ w h T S F P O s re fo ra we sh  k.toNat) k; rw [← zI25.2.2.2, ← hX1]; exact (trG_0 (R := (T1, S1, F1, P1, O1, nf1, df1, nl1, lg1)) (q := (b, f)) (show ¬ (b = -1 ∨ df1 < f) by have zl := ycmp_ge zc82; omega)).symm⟩
            · skip
              refine y_iload (pc := 85) hF dX10_turning_85 4 rfl ?_
              refine y_istore_n (pc := 87) (lv' := [(0, yR g 0), (1, yI a), (2, yI k), (3, yJ f), (5, yI k)]) hF dX10_turning_87 (by decide) rfl rfl ?_
              refine y_aload_n (pc := 88) hF dX10_turning_88 0 rfl ?_
              refine y_get (pc := 89) (ci := 10) hF dX10_turning_89 (by omega) rfl rfl rfl iX10 13 (by decide) w_500 rfl ?_
              refine y_getN (pc := 92) (ci := 2) hF dX10_turning_92 (by omega) rfl rfl rfl iX2 1 (by decide) w_261 rfl ?_
              rw [show σ64 153 1 = df1 from zJd]
              refine y_lstore_n (pc := 95) (lv' := [(0, yR g 0), (1, yI a), (2, yI k), (3, yJ df1), (5, yI k)]) hF dX10_turning_95 (by decide) rfl rfl rfl ?_
              refine y_iinc (pc := 96) (lv' := [(0, yR g 0), (1, yI a), (2, yI k), (3, yJ df1), (5, yI (k + 1))]) hF dX10_turning_96 4 rfl (by decide) rfl rfl ?_
              refine y_goto (pc := 99) hF dX10_turning_99 25 rfl ?_
              exact zh25 _ (by omega) σ64 (k + 1) (k) (df1) rfl ⟨⟨zg, zV1.T⟩, by omega, by omega, by unfold trQ; rw [fr_up _ _ _ _ zI25.2.1.1, Int.zero_add]; show _ = trG (gR w h s re fo ra k we sh 0 (400 : Int).toNat (x00 T S F P O)).2 (trQ w h T S F P O s re fo ra we sh  k.toNat) k; rw [← zI25.2.2.2, ← hX1]; exact (trG_1 (R := (T1, S1, F1, P1, O1, nf1, df1, nl1, lg1)) (q := (b, f)) (show b = -1 ∨ df1 < f by have zl := ycmp_lt zc82; omega)).symm⟩
    exact zL25 _ σ (0) (-1) (0) rfl ⟨⟨fun c _ => rfl, hT⟩, by omega, by omega, rfl⟩
  refine y_aload_n (pc := 0) hF dX10_turning_0 0 rfl ?_
  refine y_iload_n (pc := 1) hF dX10_turning_1 1 rfl ?_
  refine y_if_eq (pc := 2) hF dX10_turning_2 10 rfl (by omega) (fun zc2 => ?_) (fun zc2 => ?_)
  · skip
    refine y_iconst (pc := 10) hF dX10_turning_10 ?_
    refine y_goto (pc := 11) hF dX10_turning_11 15 rfl ?_
    exact zJ15 true (decide_eq_true (by omega)).symm
  · skip
    refine y_iload_n (pc := 5) hF dX10_turning_5 1 rfl ?_
    refine y_iconst (pc := 6) hF dX10_turning_6 ?_
    refine y_icmp_ne (pc := 7) hF dX10_turning_7 14 rfl (by omega) (by omega) (fun zc7 => ?_) (fun zc7 => ?_)
    · skip
      refine y_iconst (pc := 14) hF dX10_turning_14 ?_
      exact zJ15 false (decide_eq_false (by omega)).symm
    · skip
      refine y_iconst (pc := 10) hF dX10_turning_10 ?_
      refine y_goto (pc := 11) hF dX10_turning_11 15 rfl ?_
      exact zJ15 true (decide_eq_true (by omega)).symm
