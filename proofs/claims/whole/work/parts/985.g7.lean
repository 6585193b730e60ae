theorem dX10_text_0 : decode cX10_text 0 = .ok (.aload_n 0, 1) := by decide +kernel
theorem dX10_text_1 : decode cX10_text 1 = .ok (.iload_n 1, 1) := by decide +kernel
theorem dX10_text_2 : decode cX10_text 2 = .ok (.ifCond .lt 18, 3) := by decide +kernel
theorem dX10_text_5 : decode cX10_text 5 = .ok (.iload_n 1, 1) := by decide +kernel
theorem dX10_text_6 : decode cX10_text 6 = .ok (.aload_n 0, 1) := by decide +kernel
theorem dX10_text_7 : decode cX10_text 7 = .ok (.getfield 12, 3) := by decide +kernel
theorem dX10_text_10 : decode cX10_text 10 = .ok (.getfield 107, 3) := by decide +kernel
theorem dX10_text_13 : decode cX10_text 13 = .ok (.if_icmp .gt 7, 3) := by decide +kernel
theorem dX10_text_16 : decode cX10_text 16 = .ok (.iconst 1, 1) := by decide +kernel
theorem dX10_text_17 : decode cX10_text 17 = .ok (.goto 4, 3) := by decide +kernel
theorem dX10_text_20 : decode cX10_text 20 = .ok (.iconst 0, 1) := by decide +kernel
theorem dX10_text_21 : decode cX10_text 21 = .ok (.invokevirtual 110, 3) := by decide +kernel
theorem dX10_text_24 : decode cX10_text 24 = .ok (.aload_n 0, 1) := by decide +kernel
theorem dX10_text_25 : decode cX10_text 25 = .ok (.getfield 12, 3) := by decide +kernel
theorem dX10_text_28 : decode cX10_text 28 = .ok (.iload_n 1, 1) := by decide +kernel
theorem dX10_text_29 : decode cX10_text 29 = .ok (.invokevirtual 114, 3) := by decide +kernel
theorem dX10_text_32 : decode cX10_text 32 = .ok (.istore_n 2, 1) := by decide +kernel
theorem dX10_text_33 : decode cX10_text 33 = .ok (.aload_n 0, 1) := by decide +kernel
theorem dX10_text_34 : decode cX10_text 34 = .ok (.getfield 12, 3) := by decide +kernel
theorem dX10_text_37 : decode cX10_text 37 = .ok (.iconst 0, 1) := by decide +kernel
theorem dX10_text_38 : decode cX10_text 38 = .ok (.putfield 107, 3) := by decide +kernel
theorem dX10_text_41 : decode cX10_text 41 = .ok (.iload_n 2, 1) := by decide +kernel
theorem dX10_text_42 : decode cX10_text 42 = .ok (.ifCond .eq 8, 3) := by decide +kernel
theorem dX10_text_45 : decode cX10_text 45 = .ok (.iload_n 2, 1) := by decide +kernel
theorem dX10_text_46 : decode cX10_text 46 = .ok (.bipush 10, 2) := by decide +kernel
theorem dX10_text_48 : decode cX10_text 48 = .ok (.isub, 1) := by decide +kernel
theorem dX10_text_49 : decode cX10_text 49 = .ok (.ireturn, 1) := by decide +kernel
theorem dX10_text_50 : decode cX10_text 50 = .ok (.aload_n 0, 1) := by decide +kernel
theorem dX10_text_51 : decode cX10_text 51 = .ok (.getfield 12, 3) := by decide +kernel
theorem dX10_text_54 : decode cX10_text 54 = .ok (.getfield 118, 3) := by decide +kernel
theorem dX10_text_57 : decode cX10_text 57 = .ok (.aload_n 0, 1) := by decide +kernel
theorem dX10_text_58 : decode cX10_text 58 = .ok (.getfield 26, 3) := by decide +kernel
theorem dX10_text_61 : decode cX10_text 61 = .ok (.getfield 121, 3) := by decide +kernel
theorem dX10_text_64 : decode cX10_text 64 = .ok (.if_icmp .ne 20, 3) := by decide +kernel
theorem dX10_text_67 : decode cX10_text 67 = .ok (.aload_n 0, 1) := by decide +kernel
theorem dX10_text_68 : decode cX10_text 68 = .ok (.getfield 12, 3) := by decide +kernel
theorem dX10_text_71 : decode cX10_text 71 = .ok (.getfield 122, 3) := by decide +kernel
theorem dX10_text_74 : decode cX10_text 74 = .ok (.aload_n 0, 1) := by decide +kernel
theorem dX10_text_75 : decode cX10_text 75 = .ok (.getfield 26, 3) := by decide +kernel
theorem dX10_text_78 : decode cX10_text 78 = .ok (.getfield 125, 3) := by decide +kernel
theorem dX10_text_81 : decode cX10_text 81 = .ok (.if_icmp .eq 8, 3) := by decide +kernel
theorem dX10_text_84 : decode cX10_text 84 = .ok (.aload_n 0, 1) := by decide +kernel
theorem dX10_text_85 : decode cX10_text 85 = .ok (.iconst 0, 1) := by decide +kernel
theorem dX10_text_86 : decode cX10_text 86 = .ok (.putfield 47, 3) := by decide +kernel
theorem dX10_text_89 : decode cX10_text 89 = .ok (.aload_n 0, 1) := by decide +kernel
theorem dX10_text_90 : decode cX10_text 90 = .ok (.getfield 26, 3) := by decide +kernel
theorem dX10_text_93 : decode cX10_text 93 = .ok (.aload_n 0, 1) := by decide +kernel
theorem dX10_text_94 : decode cX10_text 94 = .ok (.getfield 12, 3) := by decide +kernel
theorem dX10_text_97 : decode cX10_text 97 = .ok (.getfield 126, 3) := by decide +kernel
theorem dX10_text_100 : decode cX10_text 100 = .ok (.aload_n 0, 1) := by decide +kernel
theorem dX10_text_101 : decode cX10_text 101 = .ok (.getfield 12, 3) := by decide +kernel
theorem dX10_text_104 : decode cX10_text 104 = .ok (.getfield 118, 3) := by decide +kernel
theorem dX10_text_107 : decode cX10_text 107 = .ok (.aload_n 0, 1) := by decide +kernel
theorem dX10_text_108 : decode cX10_text 108 = .ok (.getfield 12, 3) := by decide +kernel
theorem dX10_text_111 : decode cX10_text 111 = .ok (.getfield 122, 3) := by decide +kernel
theorem dX10_text_114 : decode cX10_text 114 = .ok (.invokevirtual 130, 3) := by decide +kernel
theorem dX10_text_117 : decode cX10_text 117 = .ok (.aload_n 0, 1) := by decide +kernel
theorem dX10_text_118 : decode cX10_text 118 = .ok (.getfield 33, 3) := by decide +kernel
theorem dX10_text_121 : decode cX10_text 121 = .ok (.invokevirtual 134, 3) := by decide +kernel
theorem dX10_text_124 : decode cX10_text 124 = .ok (.aload_n 0, 1) := by decide +kernel
theorem dX10_text_125 : decode cX10_text 125 = .ok (.getfield 40, 3) := by decide +kernel
theorem dX10_text_128 : decode cX10_text 128 = .ok (.invokevirtual 137, 3) := by decide +kernel
theorem dX10_text_131 : decode cX10_text 131 = .ok (.aload_n 0, 1) := by decide +kernel
theorem dX10_text_132 : decode cX10_text 132 = .ok (.getfield 26, 3) := by decide +kernel
theorem dX10_text_135 : decode cX10_text 135 = .ok (.invokevirtual 138, 3) := by decide +kernel
theorem dX10_text_138 : decode cX10_text 138 = .ok (.ireturn, 1) := by decide +kernel
set_option maxHeartbeats 4000000 in
set_option maxRecDepth 100000 in
theorem tX10_text {l : Launch} {g : yG} {n : Nat} {σ : yM} (hlt : l.stackTraces = false) (hn : 172 ≤ n) (w h : Int) (T S F P O : Int → Int → Int) (nf df nl : Int) (lg : Int → Int → Int) (s re fo ra tu we sh : Int) (H : List aX) (ht : Bool) (K : Int → Int → Int) (tl : Int) (tb : Int → Int) (fa r1 r2 N : Int) (hV : cV σ (w, h, (T, S, F, P, O, nf, df, nl, lg), (s, re, fo, ra, tu, we, sh), H, ht, K, tl, tb, fa, r1, r2)) (hW : aW N (w, h, (T, S, F, P, O, nf, df, nl, lg), (s, re, fo, ra, tu, we, sh), H, ht, K, tl, tb, fa, r1, r2)) (a : Int) (ha : -2147483648 ≤ a ∧ a < 2147483648) : yMX l g yX10_text cX10_text 3 (some .int) (rmA 8 4 24) [yR g 0, yI a] (SC g) n σ (SC g) (yPi (fun zv n' σ' => n ≤ n' ∧ (0 ≤ a ∧ a ≤ tl) ∧ zv = txV (txP tb a) ∧ cV σ' (if (txP tb a).1 = 0 then ((txP tb a).2.2.1, (txP tb a).2.2.2.1, txX (txP tb a).2.2.2.2, (s, re, fo, ra, tu, we, sh), [], (ht && decide ((txP tb a).2.2.1 = w) && decide ((txP tb a).2.2.2.1 = h)), K, 0, tb, (txP tb a).2.1, r1, r2) else (w, h, (T, S, F, P, O, nf, df, nl, lg), (s, re, fo, ra, tu, we, sh), H, ht, K, 0, tb, (txP tb a).2.1, r1, r2)) ∧ cF σ σ')) (fun E n' σ' => E = eA ∧ n ≤ n' ∧ ¬ (0 ≤ a ∧ a ≤ tl) ∧ cV σ' (bA (w, h, (T, S, F, P, O, nf, df, nl, lg), (s, re, fo, ra, tu, we, sh), H, ht, K, tl, tb, fa, r1, r2)) ∧ cF σ σ') := by
  obtain ⟨⟨hA, hJ⟩, hS, hH, ⟨hb1, hb2⟩, ⟨ht1, ht2⟩, hfa, hr1, hr2, hT⟩ := id hV
  obtain ⟨hw1, hw2, hw3, hw4⟩ := id hA.1.1
  obtain ⟨hs1, hs2, hs3, hs4, hs5, hs6, hs7⟩ := id hS.2
  have z128 : 128 < n := by omega
  have z129 : 129 < n := by omega
  have z130 : 130 < n := by omega
  have ztl := hW.2.2.2.1
  refine y_startX (by decide) (Nat.le_of_ble_eq_true rfl) (fun X0 hX => ?_)
  have hF := hX.1
  show yV X0 g 3 (yQX X0 g (SC g) (yPi (fun zv n' σ' => n ≤ n' ∧ (0 ≤ a ∧ a ≤ tl) ∧ zv = txV (txP tb a) ∧ cV σ' (if (txP tb a).1 = 0 then ((txP tb a).2.2.1, (txP tb a).2.2.2.1, txX (txP tb a).2.2.2.2, (s, re, fo, ra, tu, we, sh), [], (ht && decide ((txP tb a).2.2.1 = w) && decide ((txP tb a).2.2.2.1 = h)), K, 0, tb, (txP tb a).2.1, r1, r2) else (w, h, (T, S, F, P, O, nf, df, nl, lg), (s, re, fo, ra, tu, we, sh), H, ht, K, 0, tb, (txP tb a).2.1, r1, r2)) ∧ cF σ σ')) (fun E n' σ' => E = eA ∧ n ≤ n' ∧ ¬ (0 ≤ a ∧ a ≤ tl) ∧ cV σ' (bA (w, h, (T, S, F, P, O, nf, df, nl, lg), (s, re, fo, ra, tu, we, sh), H, ht, K, tl, tb, fa, r1, r2)) ∧ cF σ σ') (rmA 8 4 24)) (SC g) n σ 0 0 0 [(0, yR g 0), (1, yI a)] []
  have zJ21 : ∀ (zb : Bool), (zb = decide (0 ≤ a ∧ a ≤ tl)) → yV X0 g 3 (yQX X0 g (SC g) (yPi (fun zv n' σ' => n ≤ n' ∧ (0 ≤ a ∧ a ≤ tl) ∧ zv = txV (txP tb a) ∧ cV σ' (if (txP tb a).1 = 0 then ((txP tb a).2.2.1, (txP tb a).2.2.2.1, txX (txP tb a).2.2.2.2, (s, re, fo, ra, tu, we, sh), [], (ht && decide ((txP tb a).2.2.1 = w) && decide ((txP tb a).2.2.2.1 = h)), K, 0, tb, (txP tb a).2.1, r1, r2) else (w, h, (T, S, F, P, O, nf, df, nl, lg), (s, re, fo, ra, tu, we, sh), H, ht, K, 0, tb, (txP tb a).2.1, r1, r2)) ∧ cF σ σ')) (fun E n' σ' => E = eA ∧ n ≤ n' ∧ ¬ (0 ≤ a ∧ a ≤ tl) ∧ cV σ' (bA (w, h, (T, S, F, P, O, nf, df, nl, lg), (s, re, fo, ra, tu, we, sh), H, ht, K, tl, tb, fa, r1, r2)) ∧ cF σ σ') (rmA 8 4 24)) (SC g) n σ 0 0 21 [(0, yR g 0), (1, yI a)] [yI (bi zb), yR g 0] := by
    intro zb  zhb
    refine y_contX (cells' := 0 + 1) (slots' := 0 + 6) hX (y_rVX (pc := 21) hX (tX10_demand hlt hn zb) dX10_text_21 (by omega) rfl rfl rfl w_611 qX10_demand rfl ⟨Nat.le_of_ble_eq_true rfl, Nat.le_of_ble_eq_true rfl⟩ ⟨Nat.le_of_ble_eq_true rfl, Nat.le_of_ble_eq_true rfl⟩ (Nat.le_of_ble_eq_true rfl) rfl) rfl rfl ⟨Nat.le_of_ble_eq_true rfl, Nat.le_of_ble_eq_true rfl⟩ (fun E n' σ' zx => ⟨zx.1, zx.2.1, by have zq := zx.2.2.1; rw [zhb] at zq; simpa using zq, by rw [zx.2.2.2]; exact hV.bA, by rw [zx.2.2.2]; exact cF_N⟩) (fun r21 n' σ21 zp21 => ?_)
    obtain ⟨zr21, zp21⟩ := zp21
    subst zr21
    obtain ⟨zn21, zs21, zb21⟩ := zp21
    have zs21 := zs21.symm
    subst zs21
    have zn21 := zn21.symm
    subst zn21
    skip
    show yV X0 g 3 (yQX X0 g (SC g) (yPi (fun zv n' σ' => n ≤ n' ∧ (0 ≤ a ∧ a ≤ tl) ∧ zv = txV (txP tb a) ∧ cV σ' (if (txP tb a).1 = 0 then ((txP tb a).2.2.1, (txP tb a).2.2.2.1, txX (txP tb a).2.2.2.2, (s, re, fo, ra, tu, we, sh), [], (ht && decide ((txP tb a).2.2.1 = w) && decide ((txP tb a).2.2.2.1 = h)), K, 0, tb, (txP tb a).2.1, r1, r2) else (w, h, (T, S, F, P, O, nf, df, nl, lg), (s, re, fo, ra, tu, we, sh), H, ht, K, 0, tb, (txP tb a).2.1, r1, r2)) ∧ cF σ σ')) (fun E n' σ' => E = eA ∧ n ≤ n' ∧ ¬ (0 ≤ a ∧ a ≤ tl) ∧ cV σ' (bA (w, h, (T, S, F, P, O, nf, df, nl, lg), (s, re, fo, ra, tu, we, sh), H, ht, K, tl, tb, fa, r1, r2)) ∧ cF σ σ') (rmA 8 4 24)) (SC g) n σ (0 + 1) (0 + 6) 24 [(0, yR g 0), (1, yI a)] []
    have zok : 0 ≤ a ∧ a ≤ tl := by have zq := zb21; rw [zhb] at zq; simpa using zq
    obtain ⟨R_, hR⟩ : ∃ r, r = txP tb a := ⟨_, rfl⟩
    obtain ⟨rf, rfp, rW, rH, rM⟩ := R_
    refine y_aload_n (pc := 24) hF dX10_text_24 0 rfl ?_
    refine y_get (pc := 25) (ci := 10) hF dX10_text_25 (by omega) rfl rfl rfl iX10 0 (by decide) w_487 rfl ?_
    refine y_iload_n (pc := 28) hF dX10_text_28 1 rfl ?_
    refine y_ci (y_rV (pc := 29) hF (tX9_parse hn tb a (by omega) hW.2.2.2.2.1 (fun j b c => ht2 j b (by omega)) rf rfp rW rH rM hR) dX10_text_29 (by omega) rfl rfl rfl w_682 qX9_parse rfl ⟨Nat.le_of_ble_eq_true rfl, Nat.le_of_ble_eq_true rfl⟩ ⟨Nat.le_of_ble_eq_true rfl, Nat.le_of_ble_eq_true rfl⟩ (Nat.le_of_ble_eq_true rfl) rfl) rfl rfl (fun r29 n' σ29 zp29 => ?_)
    obtain ⟨zn29, zv29, zp29⟩ := zp29
    have zn29 := zn29.symm
    subst zn29
    rw [zv29]
    refine y_istore_n (pc := 32) (lv' := [(0, yR g 0), (1, yI a), (2, yI rf)]) hF dX10_text_32 (by decide) rfl rfl ?_
    refine y_aload_n (pc := 33) hF dX10_text_33 0 rfl ?_
    refine y_get (pc := 34) (ci := 10) hF dX10_text_34 (by omega) rfl rfl rfl iX10 0 (by decide) w_487 rfl ?_
    refine y_iconst (pc := 37) hF dX10_text_37 ?_
    refine y_putfN (pc := 38) (ci := 9) (σ' := yset σ29 1 1 0) (sch' := (SC g)) hF dX10_text_38 (by omega) rfl rfl rfl iX9 1 (by decide) w_122 tyX9 tyX9_ok nmX9 rfl rfl (by rfl) (by rfl) (Nat.le_of_ble_eq_true rfl) rfl (y_ps rfl) (fun k' h => ⟨yset_n h, rfl⟩) ?_
    obtain ⟨τ1, hτ1⟩ : ∃ s, s = yset σ29 1 1 0 := ⟨_, rfl⟩
    rw [← hτ1]
    have z1n : ∀ c : Nat, c ≠ 1 → c ≠ 3 → τ1 c = σ c := fun c h1 h3 => by rw [hτ1, yset_n h1]; exact zp29.1.1 c h1 h3
    have z1t : τ1 1 1 = 0 ∧ τ1 1 5 = rfp := ⟨by rw [hτ1, yset_e], by rw [hτ1, yset_o (by omega)]; exact zp29.2.1⟩
    have zrr : -2147483648 ≤ rf ∧ rf < 2147483648 := by rw [show rf = (txP tb a).1 by rw [← hR]]; exact txP_r hW.2.2.2.2.1 (by omega)
    refine y_iload_n (pc := 41) hF dX10_text_41 2 rfl ?_
    refine y_if_eq (pc := 42) hF dX10_text_42 50 rfl zrr (fun zc42 => ?_) (fun zc42 => ?_)
    · skip
      have zt3 := zp29.2.2 (by omega)
      have zw_τ1 : τ1 1 3 = rW ∧ τ1 1 4 = rH := by rw [hτ1, yset_o (by omega), yset_o (by omega)]; exact ⟨zt3.1, zt3.2.1⟩
      have zA_τ1 := hA.fr (σ' := τ1) (fun c a b => z1n c (by omega) (by omega))
      refine y_aload_n (pc := 50) hF dX10_text_50 0 rfl ?_
      refine y_get (pc := 51) (ci := 10) hF dX10_text_51 (by omega) rfl rfl rfl iX10 0 (by decide) w_487 rfl ?_
      refine y_getN (pc := 54) (ci := 9) hF dX10_text_54 (by omega) rfl rfl rfl iX9 3 (by decide) w_126 rfl ?_
      rw [show τ1 1 3 = rW from zw_τ1.1]
      refine y_aload_n (pc := 57) hF dX10_text_57 0 rfl ?_
      refine y_get (pc := 58) (ci := 10) hF dX10_text_58 (by omega) rfl rfl rfl iX10 2 (by decide) w_489 rfl ?_
      refine y_getN (pc := 61) (ci := 4) hF dX10_text_61 (by have := pic_5.1; omega) (pic_5.2 g).1 rfl rfl iX4 0 (by decide) w_213 rfl ?_
      rw [show τ1 5 0 = w from zA_τ1.2.1]
      refine y_icmp_ne (pc := 64) hF dX10_text_64 84 rfl (by omega) (by omega) (fun zc64 => ?_) (fun zc64 => ?_)
      · skip
        refine y_aload_n (pc := 84) hF dX10_text_84 0 rfl ?_
        refine y_iconst (pc := 85) hF dX10_text_85 ?_
        refine y_putf (pc := 86) (ci := 10) (σ' := yset τ1 0 6 0) (sch' := (SC g)) hF dX10_text_86 (by omega) rfl rfl rfl iX10 6 (by decide) w_493 tyX10 tyX10_ok nmX10 rfl rfl (by rfl) (by rfl) (Nat.le_of_ble_eq_true rfl) rfl (y_ps rfl) (fun k' h => ⟨yset_n h, rfl⟩) ?_
        obtain ⟨τ2, hτ2⟩ : ∃ s, s = yset τ1 0 6 0 := ⟨_, rfl⟩
        rw [← hτ2]
        have zt0 : τ2 0 6 = bi (ht && decide (rW = w) && decide (rH = h)) := by { rw [hτ2, yset_e]; rw [show (ht && decide (rW = w) && decide (rH = h)) = false by rw [Bool.eq_false_iff]; simp only [ne_eq, Bool.and_eq_true, decide_eq_true_eq]; omega]; rfl }; have z2n : ∀ c : Nat, c ≠ 0 → τ2 c = τ1 c := fun c hc => (by rw [hτ2, yset_n hc]); have zw_τ2 : τ2 1 3 = rW ∧ τ2 1 4 = rH := by { rw [z2n 1 (by omega)]; exact zw_τ1 }; have z20 : ∀ j : Int, j ≠ 6 → τ2 0 j = σ 0 j := fun j hj => (by rw [hτ2, yset_o (fun _ => hj), z1n 0 (by omega) (by omega)]); have zN : ∀ q : Int, 0 ≤ q → q < rW * rH → τ2 3 q = rM (q % rW) (q / rW) := fun q h1 h2 => (by { have zd := y_de (w := rW) (h := rH) (by omega) h1 h2; have zq := (zt3.2.2.2 (q % rW) (q / rW) zd.2.1 zd.2.2.1 zd.2.2.2.1 zd.2.2.2.2).1; rw [zd.1] at zq; rw [z2n 3 (by omega), hτ1, yset_n (by omega)]; exact zq }); have zNr : ∀ x y : Int, 0 ≤ x → x < rW → 0 ≤ y → y < rH → -1 ≤ rM x y ∧ rM x y ≤ 255 := fun x y h1 h2 h3 h4 => (zt3.2.2.2 x y h1 h2 h3 h4).2
        refine y_aload_n (pc := 89) hF dX10_text_89 0 rfl ?_
        refine y_get (pc := 90) (ci := 10) hF dX10_text_90 (by omega) rfl rfl rfl iX10 2 (by decide) w_489 rfl ?_
        refine y_aload_n (pc := 93) hF dX10_text_93 0 rfl ?_
        refine y_get (pc := 94) (ci := 10) hF dX10_text_94 (by omega) rfl rfl rfl iX10 0 (by decide) w_487 rfl ?_
        refine y_getN (pc := 97) (ci := 9) hF dX10_text_97 (by omega) rfl rfl rfl iX9 2 (by decide) w_124 rfl ?_
        refine y_aload_n (pc := 100) hF dX10_text_100 0 rfl ?_
        refine y_get (pc := 101) (ci := 10) hF dX10_text_101 (by omega) rfl rfl rfl iX10 0 (by decide) w_487 rfl ?_
        refine y_getN (pc := 104) (ci := 9) hF dX10_text_104 (by omega) rfl rfl rfl iX9 3 (by decide) w_126 rfl ?_
        rw [show τ2 1 3 = rW from zw_τ2.1]
        refine y_aload_n (pc := 107) hF dX10_text_107 0 rfl ?_
        refine y_get (pc := 108) (ci := 10) hF dX10_text_108 (by omega) rfl rfl rfl iX10 0 (by decide) w_487 rfl ?_
        refine y_getN (pc := 111) (ci := 9) hF dX10_text_111 (by omega) rfl rfl rfl iX9 4 (by decide) w_128 rfl ?_
        rw [show τ2 1 4 = rH from zw_τ2.2]
        refine y_cv (y_rV (pc := 114) hF (tX4_load 5 rW rH rM hn pic_5 (by omega) (by omega) zN zNr) dX10_text_114 (by have := pic_5.1; omega) (pic_5.2 g).1 rfl rfl w_705 qX4_load rfl ⟨Nat.le_of_ble_eq_true rfl, Nat.le_of_ble_eq_true rfl⟩ ⟨Nat.le_of_ble_eq_true rfl, Nat.le_of_ble_eq_true rfl⟩ (Nat.le_of_ble_eq_true rfl) rfl) rfl rfl (fun n' σ114 zp114 => ?_)
        obtain ⟨zn114, zp114⟩ := zp114
        have zn114 := zn114.symm
        subst zn114
        have zn4 : ∀ c : Nat, c = 4 ∨ 13 < c → σ114 c = σ c := fun c hc => by rw [zp114.1 c (by omega), z2n c (by omega)]; exact z1n c (by omega) (by omega)
        have z40 : ∀ j : Int, j ≠ 6 → σ114 0 j = σ 0 j := fun j hj => by rw [zp114.1 0 (by omega)]; exact z20 j hj
        have z46 : σ114 0 6 = bi (ht && decide (rW = w) && decide (rH = h)) := by rw [zp114.1 0 (by omega)]; exact zt0
        have z41 : σ114 1 1 = 0 ∧ σ114 1 5 = rfp := by rw [zp114.1 1 (by omega), z2n 1 (by omega)]; exact z1t
        have z43 : σ114 13 = σ 13 := by rw [zp114.1 13 (by omega), z2n 13 (by omega)]; exact z1n 13 (by omega) (by omega)
        refine y_aload_n (pc := 117) hF dX10_text_117 0 rfl ?_
        refine y_get (pc := 118) (ci := 10) hF dX10_text_118 (by omega) rfl rfl rfl iX10 3 (by decide) w_490 rfl ?_
        refine y_cv (y_rV (pc := 121) hF (tX2_clear 11 hn jou_11) dX10_text_121 (by omega) rfl rfl rfl w_713 qX2_clear rfl ⟨Nat.le_of_ble_eq_true rfl, Nat.le_of_ble_eq_true rfl⟩ ⟨Nat.le_of_ble_eq_true rfl, Nat.le_of_ble_eq_true rfl⟩ (Nat.le_of_ble_eq_true rfl) rfl) rfl rfl (fun n' σ' zp121 => ?_)
        obtain ⟨zn121, rfl⟩ := zp121
        have zn121 := zn121.symm
        subst zn121
        obtain ⟨τ3, hτ3⟩ : ∃ s, s = yset (yset σ114 11 0 0) 11 1 0 := ⟨_, rfl⟩
        rw [← hτ3]
        refine y_aload_n (pc := 124) hF dX10_text_124 0 rfl ?_
        refine y_get (pc := 125) (ci := 10) hF dX10_text_125 (by omega) rfl rfl rfl iX10 4 (by decide) w_491 rfl ?_
        refine y_cv (y_rV (pc := 128) hF (tX1_clear hn) dX10_text_128 (by omega) rfl rfl rfl w_717 qX1_clear rfl ⟨Nat.le_of_ble_eq_true rfl, Nat.le_of_ble_eq_true rfl⟩ ⟨Nat.le_of_ble_eq_true rfl, Nat.le_of_ble_eq_true rfl⟩ (Nat.le_of_ble_eq_true rfl) rfl) rfl rfl (fun n' σ' zp128 => ?_)
        obtain ⟨zn128, rfl⟩ := zp128
        have zn128 := zn128.symm
        subst zn128
        obtain ⟨τ4, hτ4⟩ : ∃ s, s = yset τ3 13 2 0 := ⟨_, rfl⟩
        rw [← hτ4]
        have z3n : ∀ c : Nat, c ≠ 11 → c ≠ 13 → τ4 c = σ114 c := fun c h1 h2 => by rw [hτ4, yset_n h2, hτ3, yset_n h1, yset_n h1]
        have zA4 := zp114.2.fr (σ' := τ4) (fun c a b => z3n c (by omega) (by omega))
        have zJ4 : rJ τ4 11 0 0 0 (fun _ _ => 0) := rJ.zero (by rw [hτ4, yset_n (by omega), hτ3, yset_o (by omega), yset_e]) (by rw [hτ4, yset_n (by omega), hτ3, yset_e])
        refine y_aload_n (pc := 131) hF dX10_text_131 0 rfl ?_
        refine y_get (pc := 132) (ci := 10) hF dX10_text_132 (by omega) rfl rfl rfl iX10 2 (by decide) w_489 rfl ?_
        have zz135 := y_rV (pc := 135) hF (tX4_countMissing (n := n) (σ := τ4) 5 rW rH rM (hS_ rM) (fun _ _ => 0) (fun _ _ => -1) (fun _ _ => -1) hn pic_5 zA4) dX10_text_135 (by have := pic_5.1; omega) (pic_5.2 g).1 rfl rfl w_568 qX4_countMissing rfl ⟨Nat.le_of_ble_eq_true rfl, Nat.le_of_ble_eq_true rfl⟩ ⟨Nat.le_of_ble_eq_true rfl, Nat.le_of_ble_eq_true rfl⟩ (Nat.le_of_ble_eq_true rfl) rfl (rest := []) (cells := 0 + 1) (slots := 0 + 6) (lv := [(0, yR g 0), (1, yI a), (2, yI rf)])
        refine y_cp (zz135) ?_
        exact y_retX (y_iret (pc := 138) hF dX10_text_138 (Nat.le_of_ble_eq_true rfl) (Nat.le_of_ble_eq_true rfl) ⟨_, rfl, Nat.le_refl _, zok, by rw [← hR]; exact (if_pos (show rf = 0 by omega)).symm, by rw [← hR, if_pos (show rf = 0 by omega)]; exact cV_text hV (fun c hc => by rw [z3n c (by omega) (by omega)]; exact zn4 c hc) (fun j hj => by rw [z3n 0 (by omega) (by omega)]; exact z40 j hj) (by rw [z3n 0 (by omega) (by omega)]; exact z46) (fun ze => by simp only [Bool.and_eq_true, decide_eq_true_eq] at ze; exact ⟨ze.1.1, ze.1.2, ze.2⟩) (by rw [hτ4, yset_o (by omega), hτ3, yset_n (by omega), yset_n (by omega), z43]) (by rw [hτ4, yset_e]) ⟨zA4, zJ4⟩ (by rw [z3n 1 (by omega) (by omega)]; exact z41.1) (by rw [z3n 1 (by omega) (by omega)]; exact z41.2), fun c hc => by rw [z3n c (by omega) (by omega)]; exact zn4 c (by omega)⟩)
      · skip
        refine y_aload_n (pc := 67) hF dX10_text_67 0 rfl ?_
        refine y_get (pc := 68) (ci := 10) hF dX10_text_68 (by omega) rfl rfl rfl iX10 0 (by decide) w_487 rfl ?_
        refine y_getN (pc := 71) (ci := 9) hF dX10_text_71 (by omega) rfl rfl rfl iX9 4 (by decide) w_128 rfl ?_
        rw [show τ1 1 4 = rH from zw_τ1.2]
        refine y_aload_n (pc := 74) hF dX10_text_74 0 rfl ?_
        refine y_get (pc := 75) (ci := 10) hF dX10_text_75 (by omega) rfl rfl rfl iX10 2 (by decide) w_489 rfl ?_
        refine y_getN (pc := 78) (ci := 4) hF dX10_text_78 (by have := pic_5.1; omega) (pic_5.2 g).1 rfl rfl iX4 1 (by decide) w_217 rfl ?_
        rw [show τ1 5 1 = h from zA_τ1.2.2.1]
        refine y_icmp_eq (pc := 81) hF dX10_text_81 89 rfl (by omega) (by omega) (fun zc81 => ?_) (fun zc81 => ?_)
        · skip
          have zt0 : τ1 0 6 = bi (ht && decide (rW = w) && decide (rH = h)) := by { rw [z1n 0 (by omega) (by omega), hb1, show (ht && decide (rW = w) && decide (rH = h)) = ht by rw [show decide (rW = w) = true from decide_eq_true (by omega), show decide (rH = h) = true from decide_eq_true (by omega)]; simp] }; have z2n : ∀ c : Nat, c ≠ 0 → τ1 c = τ1 c := fun c hc => rfl; have z20 : ∀ j : Int, j ≠ 6 → τ1 0 j = σ 0 j := fun j hj => (by rw [z1n 0 (by omega) (by omega)]); have zN : ∀ q : Int, 0 ≤ q → q < rW * rH → τ1 3 q = rM (q % rW) (q / rW) := fun q h1 h2 => (by { have zd := y_de (w := rW) (h := rH) (by omega) h1 h2; have zq := (zt3.2.2.2 (q % rW) (q / rW) zd.2.1 zd.2.2.1 zd.2.2.2.1 zd.2.2.2.2).1; rw [zd.1] at zq; rw [z2n 3 (by omega), hτ1, yset_n (by omega)]; exact zq }); have zNr : ∀ x y : Int, 0 ≤ x → x < rW → 0 ≤ y → y < rH → -1 ≤ rM x y ∧ rM x y ≤ 255 := fun x y h1 h2 h3 h4 => (zt3.2.2.2 x y h1 h2 h3 h4).2
          refine y_aload_n (pc := 89) hF dX10_text_89 0 rfl ?_
          refine y_get (pc := 90) (ci := 10) hF dX10_text_90 (by omega) rfl rfl rfl iX10 2 (by decide) w_489 rfl ?_
          refine y_aload_n (pc := 93) hF dX10_text_93 0 rfl ?_
          refine y_get (pc := 94) (ci := 10) hF dX10_text_94 (by omega) rfl rfl rfl iX10 0 (by decide) w_487 rfl ?_
          refine y_getN (pc := 97) (ci := 9) hF dX10_text_97 (by omega) rfl rfl rfl iX9 2 (by decide) w_124 rfl ?_
          refine y_aload_n (pc := 100) hF dX10_text_100 0 rfl ?_
          refine y_get (pc := 101) (ci := 10) hF dX10_text_101 (by omega) rfl rfl rfl iX10 0 (by decide) w_487 rfl ?_
          refine y_getN (pc := 104) (ci := 9) hF dX10_text_104 (by omega) rfl rfl rfl iX9 3 (by decide) w_126 rfl ?_
          rw [show τ1 1 3 = rW from zw_τ1.1]
          refine y_aload_n (pc := 107) hF dX10_text_107 0 rfl ?_
          refine y_get (pc := 108) (ci := 10) hF dX10_text_108 (by omega) rfl rfl rfl iX10 0 (by decide) w_487 rfl ?_
          refine y_getN (pc := 111) (ci := 9) hF dX10_text_111 (by omega) rfl rfl rfl iX9 4 (by decide) w_128 rfl ?_
          rw [show τ1 1 4 = rH from zw_τ1.2]
          refine y_cv (y_rV (pc := 114) hF (tX4_load 5 rW rH rM hn pic_5 (by omega) (by omega) zN zNr) dX10_text_114 (by have := pic_5.1; omega) (pic_5.2 g).1 rfl rfl w_705 qX4_load rfl ⟨Nat.le_of_ble_eq_true rfl, Nat.le_of_ble_eq_true rfl⟩ ⟨Nat.le_of_ble_eq_true rfl, Nat.le_of_ble_eq_true rfl⟩ (Nat.le_of_ble_eq_true rfl) rfl) rfl rfl (fun n' σ114 zp114 => ?_)
          obtain ⟨zn114, zp114⟩ := zp114
          have zn114 := zn114.symm
          subst zn114
          have zn4 : ∀ c : Nat, c = 4 ∨ 13 < c → σ114 c = σ c := fun c hc => by rw [zp114.1 c (by omega), z2n c (by omega)]; exact z1n c (by omega) (by omega)
          have z40 : ∀ j : Int, j ≠ 6 → σ114 0 j = σ 0 j := fun j hj => by rw [zp114.1 0 (by omega)]; exact z20 j hj
          have z46 : σ114 0 6 = bi (ht && decide (rW = w) && decide (rH = h)) := by rw [zp114.1 0 (by omega)]; exact zt0
          have z41 : σ114 1 1 = 0 ∧ σ114 1 5 = rfp := by rw [zp114.1 1 (by omega), z2n 1 (by omega)]; exact z1t
          have z43 : σ114 13 = σ 13 := by rw [zp114.1 13 (by omega), z2n 13 (by omega)]; exact z1n 13 (by omega) (by omega)
          refine y_aload_n (pc := 117) hF dX10_text_117 0 rfl ?_
          refine y_get (pc := 118) (ci := 10) hF dX10_text_118 (by omega) rfl rfl rfl iX10 3 (by decide) w_490 rfl ?_
          refine y_cv (y_rV (pc := 121) hF (tX2_clear 11 hn jou_11) dX10_text_121 (by omega) rfl rfl rfl w_713 qX2_clear rfl ⟨Nat.le_of_ble_eq_true rfl, Nat.le_of_ble_eq_true rfl⟩ ⟨Nat.le_of_ble_eq_true rfl, Nat.le_of_ble_eq_true rfl⟩ (Nat.le_of_ble_eq_true rfl) rfl) rfl rfl (fun n' σ' zp121 => ?_)
          obtain ⟨zn121, rfl⟩ := zp121
          have zn121 := zn121.symm
          subst zn121
          obtain ⟨τ3, hτ3⟩ : ∃ s, s = yset (yset σ114 11 0 0) 11 1 0 := ⟨_, rfl⟩
          rw [← hτ3]
          refine y_aload_n (pc := 124) hF dX10_text_124 0 rfl ?_
          refine y_get (pc := 125) (ci := 10) hF dX10_text_125 (by omega) rfl rfl rfl iX10 4 (by decide) w_491 rfl ?_
          refine y_cv (y_rV (pc := 128) hF (tX1_clear hn) dX10_text_128 (by omega) rfl rfl rfl w_717 qX1_clear rfl ⟨Nat.le_of_ble_eq_true rfl, Nat.le_of_ble_eq_true rfl⟩ ⟨Nat.le_of_ble_eq_true rfl, Nat.le_of_ble_eq_true rfl⟩ (Nat.le_of_ble_eq_true rfl) rfl) rfl rfl (fun n' σ' zp128 => ?_)
          obtain ⟨zn128, rfl⟩ := zp128
          have zn128 := zn128.symm
          subst zn128
          obtain ⟨τ4, hτ4⟩ : ∃ s, s = yset τ3 13 2 0 := ⟨_, rfl⟩
          rw [← hτ4]
          have z3n : ∀ c : Nat, c ≠ 11 → c ≠ 13 → τ4 c = σ114 c := fun c h1 h2 => by rw [hτ4, yset_n h2, hτ3, yset_n h1, yset_n h1]
          have zA4 := zp114.2.fr (σ' := τ4) (fun c a b => z3n c (by omega) (by omega))
          have zJ4 : rJ τ4 11 0 0 0 (fun _ _ => 0) := rJ.zero (by rw [hτ4, yset_n (by omega), hτ3, yset_o (by omega), yset_e]) (by rw [hτ4, yset_n (by omega), hτ3, yset_e])
          refine y_aload_n (pc := 131) hF dX10_text_131 0 rfl ?_
          refine y_get (pc := 132) (ci := 10) hF dX10_text_132 (by omega) rfl rfl rfl iX10 2 (by decide) w_489 rfl ?_
          have zz135 := y_rV (pc := 135) hF (tX4_countMissing (n := n) (σ := τ4) 5 rW rH rM (hS_ rM) (fun _ _ => 0) (fun _ _ => -1) (fun _ _ => -1) hn pic_5 zA4) dX10_text_135 (by have := pic_5.1; omega) (pic_5.2 g).1 rfl rfl w_568 qX4_countMissing rfl ⟨Nat.le_of_ble_eq_true rfl, Nat.le_of_ble_eq_true rfl⟩ ⟨Nat.le_of_ble_eq_true rfl, Nat.le_of_ble_eq_true rfl⟩ (Nat.le_of_ble_eq_true rfl) rfl (rest := []) (cells := 0 + 1) (slots := 0 + 6) (lv := [(0, yR g 0), (1, yI a), (2, yI rf)])
          refine y_cp (zz135) ?_
          exact y_retX (y_iret (pc := 138) hF dX10_text_138 (Nat.le_of_ble_eq_true rfl) (Nat.le_of_ble_eq_true rfl) ⟨_, rfl, Nat.le_refl _, zok, by rw [← hR]; exact (if_pos (show rf = 0 by omega)).symm, by rw [← hR, if_pos (show rf = 0 by omega)]; exact cV_text hV (fun c hc => by rw [z3n c (by omega) (by omega)]; exact zn4 c hc) (fun j hj => by rw [z3n 0 (by omega) (by omega)]; exact z40 j hj) (by rw [z3n 0 (by omega) (by omega)]; exact z46) (fun ze => by simp only [Bool.and_eq_true, decide_eq_true_eq] at ze; exact ⟨ze.1.1, ze.1.2, ze.2⟩) (by rw [hτ4, yset_o (by omega), hτ3, yset_n (by omega), yset_n (by omega), z43]) (by rw [hτ4, yset_e]) ⟨zA4, zJ4⟩ (by rw [z3n 1 (by omega) (by omega)]; exact z41.1) (by rw [z3n 1 (by omega) (by omega)]; exact z41.2), fun c hc => by rw [z3n c (by omega) (by omega)]; exact zn4 c (by omega)⟩)
        · skip
          refine y_aload_n (pc := 84) hF dX10_text_84 0 rfl ?_
          refine y_iconst (pc := 85) hF dX10_text_85 ?_
          refine y_putf (pc := 86) (ci := 10) (σ' := yset τ1 0 6 0) (sch' := (SC g)) hF dX10_text_86 (by omega) rfl rfl rfl iX10 6 (by decide) w_493 tyX10 tyX10_ok nmX10 rfl rfl (by rfl) (by rfl) (Nat.le_of_ble_eq_true rfl) rfl (y_ps rfl) (fun k' h => ⟨yset_n h, rfl⟩) ?_
          obtain ⟨τ2, hτ2⟩ : ∃ s, s = yset τ1 0 6 0 := ⟨_, rfl⟩
          rw [← hτ2]
          have zt0 : τ2 0 6 = bi (ht && decide (rW = w) && decide (rH = h)) := by { rw [hτ2, yset_e]; rw [show (ht && decide (rW = w) && decide (rH = h)) = false by rw [Bool.eq_false_iff]; simp only [ne_eq, Bool.and_eq_true, decide_eq_true_eq]; omega]; rfl }; have z2n : ∀ c : Nat, c ≠ 0 → τ2 c = τ1 c := fun c hc => (by rw [hτ2, yset_n hc]); have zw_τ2 : τ2 1 3 = rW ∧ τ2 1 4 = rH := by { rw [z2n 1 (by omega)]; exact zw_τ1 }; have z20 : ∀ j : Int, j ≠ 6 → τ2 0 j = σ 0 j := fun j hj => (by rw [hτ2, yset_o (fun _ => hj), z1n 0 (by omega) (by omega)]); have zN : ∀ q : Int, 0 ≤ q → q < rW * rH → τ2 3 q = rM (q % rW) (q / rW) := fun q h1 h2 => (by { have zd := y_de (w := rW) (h := rH) (by omega) h1 h2; have zq := (zt3.2.2.2 (q % rW) (q / rW) zd.2.1 zd.2.2.1 zd.2.2.2.1 zd.2.2.2.2).1; rw [zd.1] at zq; rw [z2n 3 (by omega), hτ1, yset_n (by omega)]; exact zq }); have zNr : ∀ x y : Int, 0 ≤ x → x < rW → 0 ≤ y → y < rH → -1 ≤ rM x y ∧ rM x y ≤ 255 := fun x y h1 h2 h3 h4 => (zt3.2.2.2 x y h1 h2 h3 h4).2
          refine y_aload_n (pc := 89) hF dX10_text_89 0 rfl ?_
          refine y_get (pc := 90) (ci := 10) hF dX10_text_90 (by omega) rfl rfl rfl iX10 2 (by decide) w_489 rfl ?_
          refine y_aload_n (pc := 93) hF dX10_text_93 0 rfl ?_
          refine y_get (pc := 94) (ci := 10) hF dX10_text_94 (by omega) rfl rfl rfl iX10 0 (by decide) w_487 rfl ?_
          refine y_getN (pc := 97) (ci := 9) hF dX10_text_97 (by omega) rfl rfl rfl iX9 2 (by decide) w_124 rfl ?_
          refine y_aload_n (pc := 100) hF dX10_text_100 0 rfl ?_
          refine y_get (pc := 101) (ci := 10) hF dX10_text_101 (by omega) rfl rfl rfl iX10 0 (by decide) w_487 rfl ?_
          refine y_getN (pc := 104) (ci := 9) hF dX10_text_104 (by omega) rfl rfl rfl iX9 3 (by decide) w_126 rfl ?_
          rw [show τ2 1 3 = rW from zw_τ2.1]
          refine y_aload_n (pc := 107) hF dX10_text_107 0 rfl ?_
          refine y_get (pc := 108) (ci := 10) hF dX10_text_108 (by omega) rfl rfl rfl iX10 0 (by decide) w_487 rfl ?_
          refine y_getN (pc := 111) (ci := 9) hF dX10_text_111 (by omega) rfl rfl rfl iX9 4 (by decide) w_128 rfl ?_
          rw [show τ2 1 4 = rH from zw_τ2.2]
          refine y_cv (y_rV (pc := 114) hF (tX4_load 5 rW rH rM hn pic_5 (by omega) (by omega) zN zNr) dX10_text_114 (by have := pic_5.1; omega) (pic_5.2 g).1 rfl rfl w_705 qX4_load rfl ⟨Nat.le_of_ble_eq_true rfl, Nat.le_of_ble_eq_true rfl⟩ ⟨Nat.le_of_ble_eq_true rfl, Nat.le_of_ble_eq_true rfl⟩ (Nat.le_of_ble_eq_true rfl) rfl) rfl rfl (fun n' σ114 zp114 => ?_)
          obtain ⟨zn114, zp114⟩ := zp114
          have zn114 := zn114.symm
          subst zn114
          have zn4 : ∀ c : Nat, c = 4 ∨ 13 < c → σ114 c = σ c := fun c hc => by rw [zp114.1 c (by omega), z2n c (by omega)]; exact z1n c (by omega) (by omega)
          have z40 : ∀ j : Int, j ≠ 6 → σ114 0 j = σ 0 j := fun j hj => by rw [zp114.1 0 (by omega)]; exact z20 j hj
          have z46 : σ114 0 6 = bi (ht && decide (rW = w) && decide (rH = h)) := by rw [zp114.1 0 (by omega)]; exact zt0
          have z41 : σ114 1 1 = 0 ∧ σ114 1 5 = rfp := by rw [zp114.1 1 (by omega), z2n 1 (by omega)]; exact z1t
          have z43 : σ114 13 = σ 13 := by rw [zp114.1 13 (by omega), z2n 13 (by omega)]; exact z1n 13 (by omega) (by omega)
          refine y_aload_n (pc := 117) hF dX10_text_117 0 rfl ?_
          refine y_get (pc := 118) (ci := 10) hF dX10_text_118 (by omega) rfl rfl rfl iX10 3 (by decide) w_490 rfl ?_
          refine y_cv (y_rV (pc := 121) hF (tX2_clear 11 hn jou_11) dX10_text_121 (by omega) rfl rfl rfl w_713 qX2_clear rfl ⟨Nat.le_of_ble_eq_true rfl, Nat.le_of_ble_eq_true rfl⟩ ⟨Nat.le_of_ble_eq_true rfl, Nat.le_of_ble_eq_true rfl⟩ (Nat.le_of_ble_eq_true rfl) rfl) rfl rfl (fun n' σ' zp121 => ?_)
          obtain ⟨zn121, rfl⟩ := zp121
          have zn121 := zn121.symm
          subst zn121
          obtain ⟨τ3, hτ3⟩ : ∃ s, s = yset (yset σ114 11 0 0) 11 1 0 := ⟨_, rfl⟩
          rw [← hτ3]
          refine y_aload_n (pc := 124) hF dX10_text_124 0 rfl ?_
          refine y_get (pc := 125) (ci := 10) hF dX10_text_125 (by omega) rfl rfl rfl iX10 4 (by decide) w_491 rfl ?_
          refine y_cv (y_rV (pc := 128) hF (tX1_clear hn) dX10_text_128 (by omega) rfl rfl rfl w_717 qX1_clear rfl ⟨Nat.le_of_ble_eq_true rfl, Nat.le_of_ble_eq_true rfl⟩ ⟨Nat.le_of_ble_eq_true rfl, Nat.le_of_ble_eq_true rfl⟩ (Nat.le_of_ble_eq_true rfl) rfl) rfl rfl (fun n' σ' zp128 => ?_)
          obtain ⟨zn128, rfl⟩ := zp128
          have zn128 := zn128.symm
          subst zn128
          obtain ⟨τ4, hτ4⟩ : ∃ s, s = yset τ3 13 2 0 := ⟨_, rfl⟩
          rw [← hτ4]
          have z3n : ∀ c : Nat, c ≠ 11 → c ≠ 13 → τ4 c = σ114 c := fun c h1 h2 => by rw [hτ4, yset_n h2, hτ3, yset_n h1, yset_n h1]
          have zA4 := zp114.2.fr (σ' := τ4) (fun c a b => z3n c (by omega) (by omega))
          have zJ4 : rJ τ4 11 0 0 0 (fun _ _ => 0) := rJ.zero (by rw [hτ4, yset_n (by omega), hτ3, yset_o (by omega), yset_e]) (by rw [hτ4, yset_n (by omega), hτ3, yset_e])
          refine y_aload_n (pc := 131) hF dX10_text_131 0 rfl ?_
          refine y_get (pc := 132) (ci := 10) hF dX10_text_132 (by omega) rfl rfl rfl iX10 2 (by decide) w_489 rfl ?_
          have zz135 := y_rV (pc := 135) hF (tX4_countMissing (n := n) (σ := τ4) 5 rW rH rM (hS_ rM) (fun _ _ => 0) (fun _ _ => -1) (fun _ _ => -1) hn pic_5 zA4) dX10_text_135 (by have := pic_5.1; omega) (pic_5.2 g).1 rfl rfl w_568 qX4_countMissing rfl ⟨Nat.le_of_ble_eq_true rfl, Nat.le_of_ble_eq_true rfl⟩ ⟨Nat.le_of_ble_eq_true rfl, Nat.le_of_ble_eq_true rfl⟩ (Nat.le_of_ble_eq_true rfl) rfl (rest := []) (cells := 0 + 1) (slots := 0 + 6) (lv := [(0, yR g 0), (1, yI a), (2, yI rf)])
          refine y_cp (zz135) ?_
          exact y_retX (y_iret (pc := 138) hF dX10_text_138 (Nat.le_of_ble_eq_true rfl) (Nat.le_of_ble_eq_true rfl) ⟨_, rfl, Nat.le_refl _, zok, by rw [← hR]; exact (if_pos (show rf = 0 by omega)).symm, by rw [← hR, if_pos (show rf = 0 by omega)]; exact cV_text hV (fun c hc => by rw [z3n c (by omega) (by omega)]; exact zn4 c hc) (fun j hj => by rw [z3n 0 (by omega) (by omega)]; exact z40 j hj) (by rw [z3n 0 (by omega) (by omega)]; exact z46) (fun ze => by simp only [Bool.and_eq_true, decide_eq_true_eq] at ze; exact ⟨ze.1.1, ze.1.2, ze.2⟩) (by rw [hτ4, yset_o (by omega), hτ3, yset_n (by omega), yset_n (by omega), z43]) (by rw [hτ4, yset_e]) ⟨zA4, zJ4⟩ (by rw [z3n 1 (by omega) (by omega)]; exact z41.1) (by rw [z3n 1 (by omega) (by omega)]; exact z41.2), fun c hc => by rw [z3n c (by omega) (by omega)]; exact zn4 c (by omega)⟩)
    · skip
      refine y_iload_n (pc := 45) hF dX10_text_45 2 rfl ?_
      refine y_bipush (pc := 46) hF dX10_text_46 (by decide) ?_
      refine y_isub (pc := 48) hF dX10_text_48 ?_
      exact y_retX (y_iret (pc := 49) hF dX10_text_49 (Nat.le_of_ble_eq_true rfl) (Nat.le_of_ble_eq_true rfl) ⟨_, rfl, Nat.le_refl _, zok, by rw [← hR]; exact (if_neg (show ¬ rf = 0 by omega)).symm, by rw [← hR, if_neg (show ¬ rf = 0 by omega)]; exact cV_fail hV z1n z1t.1 z1t.2, fun c hc => z1n c (by omega) (by omega)⟩)
  refine y_aload_n (pc := 0) hF dX10_text_0 0 rfl ?_
  refine y_iload_n (pc := 1) hF dX10_text_1 1 rfl ?_
  refine y_if_lt (pc := 2) hF dX10_text_2 20 rfl (by omega) (fun zc2 => ?_) (fun zc2 => ?_)
  · skip
    refine y_iconst (pc := 20) hF dX10_text_20 ?_
    exact zJ21 false (decide_eq_false (by omega)).symm
  · skip
    refine y_iload_n (pc := 5) hF dX10_text_5 1 rfl ?_
    refine y_aload_n (pc := 6) hF dX10_text_6 0 rfl ?_
    refine y_get (pc := 7) (ci := 10) hF dX10_text_7 (by omega) rfl rfl rfl iX10 0 (by decide) w_487 rfl ?_
    refine y_getN (pc := 10) (ci := 9) hF dX10_text_10 (by omega) rfl rfl rfl iX9 1 (by decide) w_122 rfl ?_
    rw [show σ 1 1 = tl from ht1]
    refine y_icmp_gt (pc := 13) hF dX10_text_13 20 rfl (by omega) (by omega) (fun zc13 => ?_) (fun zc13 => ?_)
    · skip
      refine y_iconst (pc := 20) hF dX10_text_20 ?_
      exact zJ21 false (decide_eq_false (by omega)).symm
    · skip
      refine y_iconst (pc := 16) hF dX10_text_16 ?_
      refine y_goto (pc := 17) hF dX10_text_17 21 rfl ?_
      exact zJ21 true (decide_eq_true (by omega)).symm
