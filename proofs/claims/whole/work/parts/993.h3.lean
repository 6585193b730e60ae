theorem dX11_flaw_0 : decode cX11_flaw 0 = .ok (.aload_n 0, 1) := by decide +kernel
theorem dX11_flaw_1 : decode cX11_flaw 1 = .ok (.iconst 0, 1) := by decide +kernel
theorem dX11_flaw_2 : decode cX11_flaw 2 = .ok (.putfield 1, 3) := by decide +kernel
theorem dX11_flaw_5 : decode cX11_flaw 5 = .ok (.aload_n 0, 1) := by decide +kernel
theorem dX11_flaw_6 : decode cX11_flaw 6 = .ok (.getfield 297, 3) := by decide +kernel
theorem dX11_flaw_9 : decode cX11_flaw 9 = .ok (.ifCond .eq 10, 3) := by decide +kernel
theorem dX11_flaw_12 : decode cX11_flaw 12 = .ok (.aload_n 0, 1) := by decide +kernel
theorem dX11_flaw_13 : decode cX11_flaw 13 = .ok (.invokevirtual 354, 3) := by decide +kernel
theorem dX11_flaw_16 : decode cX11_flaw 16 = .ok (.goto 4, 3) := by decide +kernel
theorem dX11_flaw_19 : decode cX11_flaw 19 = .ok (.iconst (-1), 1) := by decide +kernel
theorem dX11_flaw_20 : decode cX11_flaw 20 = .ok (.ireturn, 1) := by decide +kernel
set_option maxHeartbeats 4000000 in
set_option maxRecDepth 100000 in
theorem tX11_flaw {l : Launch} {g : yG} {n : Nat} {σ : yM} (hn : 172 ≤ n) (w h : Int) (T S F P O : Int → Int → Int) (nf df nl : Int) (lg : Int → Int → Int) (s re fo ra tu we sh : Int) (H : List aX) (ht : Bool) (K : Int → Int → Int) (tl : Int) (tb : Int → Int) (fa r1 r2 N : Int) (hV : mV σ (w, h, (T, S, F, P, O, nf, df, nl, lg), (s, re, fo, ra, tu, we, sh), H, ht, K, tl, tb, fa, r1, r2)) (hW : aW N (w, h, (T, S, F, P, O, nf, df, nl, lg), (s, re, fo, ra, tu, we, sh), H, ht, K, tl, tb, fa, r1, r2))  : yMet l g yX11_flaw cX11_flaw 1 (some .int) (rmL 4) [yR g 155] (SC g) n σ (SC g) (yPi (fun zv n' σ' => n ≤ n' ∧ (zv = (if ht = true then sFw w h T F K else -1) ∧ mO σ σ' (w, h, (T, S, F, P, O, nf, df, nl, lg), (s, re, fo, ra, tu, we, sh), H, ht, K, tl, tb, fa, r1, r2) 0))) := by
  obtain ⟨⟨hA, hL⟩, hS, hH, ⟨hb1, hb2⟩, ⟨ht1, ht2⟩, hfa, hr1, hr2⟩ := id hV
  obtain ⟨hw1, hw2, hw3, hw4⟩ := id hA.1.1
  obtain ⟨hs1, hs2, hs3, hs4, hs5, hs6, hs7⟩ := id hS.2
  have hz : (0 : Nat) < 3 := by omega
  refine y_start (by decide) (Nat.le_of_ble_eq_true rfl) (fun X0 hF => ?_)
  show yV X0 g 1 (yQ X0 g (SC g) (yPi (fun zv n' σ' => n ≤ n' ∧ (zv = (if ht = true then sFw w h T F K else -1) ∧ mO σ σ' (w, h, (T, S, F, P, O, nf, df, nl, lg), (s, re, fo, ra, tu, we, sh), H, ht, K, tl, tb, fa, r1, r2) 0))) (rmL 4)) (SC g) n σ 0 0 0 [(0, yR g 155)] []
  refine y_aload_n (pc := 0) hF dX11_flaw_0 0 rfl ?_
  refine y_iconst (pc := 1) hF dX11_flaw_1 ?_
  refine y_putf (pc := 2) (ci := 11) (σ' := yset σ 155 0 0) (sch' := (SC g)) hF dX11_flaw_2 (by omega) rfl rfl rfl iX11 0 (by decide) w_1247 tyX11 tyX11_ok nmX11 rfl rfl rfl rfl (Nat.le_of_ble_eq_true rfl) rfl (y_ps rfl) (fun k' h => ⟨yset_n h, rfl⟩) ?_
  obtain ⟨σ0, hσ0⟩ : ∃ s, s = yset σ 155 0 0 := ⟨_, rfl⟩
  rw [← hσ0]
  have zO_σ0 := hV.t0 hσ0
  obtain ⟨⟨zA_σ0, zL_σ0⟩, zS_σ0, zH_σ0, ⟨zb1_σ0, zb2_σ0⟩, ⟨zt1_σ0, zt2_σ0⟩, zfa_σ0, zr1_σ0, zr2_σ0⟩ := id zO_σ0.2.2
  refine y_aload_n (pc := 5) hF dX11_flaw_5 0 rfl ?_
  refine y_get (pc := 6) (ci := 11) hF dX11_flaw_6 (by omega) rfl rfl rfl iX11 9 (by decide) w_1256 rfl ?_
  rw [show σ0 155 9 = bi ht from zb1_σ0]
  refine y_if_eq (pc := 9) hF dX11_flaw_9 19 rfl bi_r (fun zc9 => ?_) (fun zc9 => ?_)
  · replace zc9 := bi_0.mp zc9
    refine y_iconst (pc := 19) hF dX11_flaw_19 ?_
    exact y_iret (pc := 20) hF dX11_flaw_20 (Nat.zero_le _) (Nat.zero_le _) ⟨_, rfl, Nat.le_refl _, by rw [if_neg (by rw [zc9]; decide)], zO_σ0⟩
  · replace zc9 := bi_n0.mp zc9
    have zhK : ∀ x y : Int, 0 ≤ x → x < w → 0 ≤ y → y < h → σ0 165 (20 * y + x) = K x y ∧ -1 ≤ K x y ∧ K x y ≤ 255 := fun x y a b c d => ⟨zb2_σ0 zc9 x y a b c d, hW.2.2.1 zc9 x y a b c d⟩
    refine y_aload_n (pc := 12) hF dX11_flaw_12 0 rfl ?_
    have zz13 := y_rV (pc := 13) hF (tX11_flawNow (n := n) (σ := σ0) w h T S F P O hn zA_σ0 K zhK) dX11_flaw_13 (by omega) rfl rfl rfl w_1699 qX11_flawNow rfl ⟨Nat.le_of_ble_eq_true rfl, Nat.le_of_ble_eq_true rfl⟩ ⟨Nat.zero_le _, Nat.zero_le _⟩ (Nat.le_of_ble_eq_true rfl) rfl (rest := []) (cells := 0) (slots := 0) (lv := [(0, yR g 155)])
    refine y_cp (zz13) ?_
    refine y_goto (pc := 16) hF dX11_flaw_16 20 rfl ?_
    exact y_iret (pc := 20) hF dX11_flaw_20 (Nat.zero_le _) (Nat.zero_le _) ⟨_, rfl, Nat.le_refl _, by rw [if_pos zc9], zO_σ0⟩

theorem dX11_lent_0 : decode cX11_lent 0 = .ok (.aload_n 0, 1) := by decide +kernel
theorem dX11_lent_1 : decode cX11_lent 1 = .ok (.iconst 0, 1) := by decide +kernel
theorem dX11_lent_2 : decode cX11_lent 2 = .ok (.putfield 1, 3) := by decide +kernel
theorem dX11_lent_5 : decode cX11_lent 5 = .ok (.aload_n 0, 1) := by decide +kernel
theorem dX11_lent_6 : decode cX11_lent 6 = .ok (.iload_n 1, 1) := by decide +kernel
theorem dX11_lent_7 : decode cX11_lent 7 = .ok (.iload_n 2, 1) := by decide +kernel
theorem dX11_lent_8 : decode cX11_lent 8 = .ok (.invokevirtual 307, 3) := by decide +kernel
theorem dX11_lent_11 : decode cX11_lent 11 = .ok (.ifCond .ne 5, 3) := by decide +kernel
theorem dX11_lent_14 : decode cX11_lent 14 = .ok (.iconst 0, 1) := by decide +kernel
theorem dX11_lent_15 : decode cX11_lent 15 = .ok (.ireturn, 1) := by decide +kernel
theorem dX11_lent_16 : decode cX11_lent 16 = .ok (.iconst 0, 1) := by decide +kernel
theorem dX11_lent_17 : decode cX11_lent 17 = .ok (.istore_n 3, 1) := by decide +kernel
theorem dX11_lent_18 : decode cX11_lent 18 = .ok (.iconst 0, 1) := by decide +kernel
theorem dX11_lent_19 : decode cX11_lent 19 = .ok (.istore 4, 2) := by decide +kernel
theorem dX11_lent_21 : decode cX11_lent 21 = .ok (.iload 4, 2) := by decide +kernel
theorem dX11_lent_23 : decode cX11_lent 23 = .ok (.aload_n 0, 1) := by decide +kernel
theorem dX11_lent_24 : decode cX11_lent 24 = .ok (.getfield 25, 3) := by decide +kernel
theorem dX11_lent_27 : decode cX11_lent 27 = .ok (.iconst 0, 1) := by decide +kernel
theorem dX11_lent_28 : decode cX11_lent 28 = .ok (.iaload, 1) := by decide +kernel
theorem dX11_lent_29 : decode cX11_lent 29 = .ok (.if_icmp .ge 94, 3) := by decide +kernel
theorem dX11_lent_32 : decode cX11_lent 32 = .ok (.iconst 0, 1) := by decide +kernel
theorem dX11_lent_33 : decode cX11_lent 33 = .ok (.istore 5, 2) := by decide +kernel
theorem dX11_lent_35 : decode cX11_lent 35 = .ok (.iload 5, 2) := by decide +kernel
theorem dX11_lent_37 : decode cX11_lent 37 = .ok (.aload_n 0, 1) := by decide +kernel
theorem dX11_lent_38 : decode cX11_lent 38 = .ok (.getfield 22, 3) := by decide +kernel
theorem dX11_lent_41 : decode cX11_lent 41 = .ok (.iconst 0, 1) := by decide +kernel
theorem dX11_lent_42 : decode cX11_lent 42 = .ok (.iaload, 1) := by decide +kernel
theorem dX11_lent_43 : decode cX11_lent 43 = .ok (.if_icmp .ge 74, 3) := by decide +kernel
theorem dX11_lent_46 : decode cX11_lent 46 = .ok (.aload_n 0, 1) := by decide +kernel
theorem dX11_lent_47 : decode cX11_lent 47 = .ok (.getfield 19, 3) := by decide +kernel
theorem dX11_lent_50 : decode cX11_lent 50 = .ok (.iconst 0, 1) := by decide +kernel
theorem dX11_lent_51 : decode cX11_lent 51 = .ok (.aaload, 1) := by decide +kernel
theorem dX11_lent_52 : decode cX11_lent 52 = .ok (.sipush 1600, 3) := by decide +kernel
theorem dX11_lent_55 : decode cX11_lent 55 = .ok (.iload 5, 2) := by decide +kernel
theorem dX11_lent_57 : decode cX11_lent 57 = .ok (.iload 4, 2) := by decide +kernel
theorem dX11_lent_59 : decode cX11_lent 59 = .ok (.invokestatic 56, 3) := by decide +kernel
theorem dX11_lent_62 : decode cX11_lent 62 = .ok (.iadd, 1) := by decide +kernel
theorem dX11_lent_63 : decode cX11_lent 63 = .ok (.iaload, 1) := by decide +kernel
theorem dX11_lent_64 : decode cX11_lent 64 = .ok (.istore 6, 2) := by decide +kernel
theorem dX11_lent_66 : decode cX11_lent 66 = .ok (.iload_n 3, 1) := by decide +kernel
theorem dX11_lent_67 : decode cX11_lent 67 = .ok (.aload_n 0, 1) := by decide +kernel
theorem dX11_lent_68 : decode cX11_lent 68 = .ok (.iconst 0, 1) := by decide +kernel
theorem dX11_lent_69 : decode cX11_lent 69 = .ok (.iload 5, 2) := by decide +kernel
theorem dX11_lent_71 : decode cX11_lent 71 = .ok (.iload 4, 2) := by decide +kernel
theorem dX11_lent_73 : decode cX11_lent 73 = .ok (.invokevirtual 127, 3) := by decide +kernel
theorem dX11_lent_76 : decode cX11_lent 76 = .ok (.ifCond .eq 32, 3) := by decide +kernel
theorem dX11_lent_79 : decode cX11_lent 79 = .ok (.aload_n 0, 1) := by decide +kernel
theorem dX11_lent_80 : decode cX11_lent 80 = .ok (.iload_n 1, 1) := by decide +kernel
theorem dX11_lent_81 : decode cX11_lent 81 = .ok (.iload_n 2, 1) := by decide +kernel
theorem dX11_lent_82 : decode cX11_lent 82 = .ok (.iload 6, 2) := by decide +kernel
theorem dX11_lent_84 : decode cX11_lent 84 = .ok (.invokestatic 344, 3) := by decide +kernel
theorem dX11_lent_87 : decode cX11_lent 87 = .ok (.iload 6, 2) := by decide +kernel
theorem dX11_lent_89 : decode cX11_lent 89 = .ok (.invokestatic 347, 3) := by decide +kernel
theorem dX11_lent_92 : decode cX11_lent 92 = .ok (.aload_n 0, 1) := by decide +kernel
theorem dX11_lent_93 : decode cX11_lent 93 = .ok (.getfield 37, 3) := by decide +kernel
theorem dX11_lent_96 : decode cX11_lent 96 = .ok (.iconst 0, 1) := by decide +kernel
theorem dX11_lent_97 : decode cX11_lent 97 = .ok (.iaload, 1) := by decide +kernel
theorem dX11_lent_98 : decode cX11_lent 98 = .ok (.invokevirtual 188, 3) := by decide +kernel
theorem dX11_lent_101 : decode cX11_lent 101 = .ok (.ifCond .eq 7, 3) := by decide +kernel
theorem dX11_lent_104 : decode cX11_lent 104 = .ok (.iconst 1, 1) := by decide +kernel
theorem dX11_lent_105 : decode cX11_lent 105 = .ok (.goto 4, 3) := by decide +kernel
theorem dX11_lent_108 : decode cX11_lent 108 = .ok (.iconst 0, 1) := by decide +kernel
theorem dX11_lent_109 : decode cX11_lent 109 = .ok (.iadd, 1) := by decide +kernel
theorem dX11_lent_110 : decode cX11_lent 110 = .ok (.istore_n 3, 1) := by decide +kernel
theorem dX11_lent_111 : decode cX11_lent 111 = .ok (.iinc 5 1, 3) := by decide +kernel
theorem dX11_lent_114 : decode cX11_lent 114 = .ok (.goto (-79), 3) := by decide +kernel
theorem dX11_lent_117 : decode cX11_lent 117 = .ok (.iinc 4 1, 3) := by decide +kernel
theorem dX11_lent_120 : decode cX11_lent 120 = .ok (.goto (-99), 3) := by decide +kernel
theorem dX11_lent_123 : decode cX11_lent 123 = .ok (.iload_n 3, 1) := by decide +kernel
theorem dX11_lent_124 : decode cX11_lent 124 = .ok (.ireturn, 1) := by decide +kernel
set_option maxHeartbeats 4000000 in
set_option maxRecDepth 100000 in
theorem tX11_lent {l : Launch} {g : yG} {n : Nat} {σ : yM} (hn : 172 ≤ n) (w h : Int) (T S F P O : Int → Int → Int) (nf df nl : Int) (lg : Int → Int → Int) (s re fo ra tu we sh : Int) (H : List aX) (ht : Bool) (K : Int → Int → Int) (tl : Int) (tb : Int → Int) (fa r1 r2 N : Int) (hV : mV σ (w, h, (T, S, F, P, O, nf, df, nl, lg), (s, re, fo, ra, tu, we, sh), H, ht, K, tl, tb, fa, r1, r2)) (hW : aW N (w, h, (T, S, F, P, O, nf, df, nl, lg), (s, re, fo, ra, tu, we, sh), H, ht, K, tl, tb, fa, r1, r2)) (x y : Int) (hx : -2147483648 ≤ x ∧ x < 2147483648) (hy : -2147483648 ≤ y ∧ y < 2147483648) : yMet l g yX11_lent cX11_lent 7 (some .int) (rmL 4) [yR g 155, yI x, yI y] (SC g) n σ (SC g) (yPi (fun zv n' σ' => n ≤ n' ∧ (((sIn w h x y = true) ∧ zv = lnV w h O s x y ∧ mO σ σ' (w, h, (T, S, F, P, O, nf, df, nl, lg), (s, re, fo, ra, tu, we, sh), H, ht, K, tl, tb, fa, r1, r2) 0) ∨ (¬ (sIn w h x y = true) ∧ mO σ σ' (bN (w, h, (T, S, F, P, O, nf, df, nl, lg), (s, re, fo, ra, tu, we, sh), H, ht, K, tl, tb, fa, r1, r2)) 1)))) := by
  obtain ⟨⟨hA, hL⟩, hS, hH, ⟨hb1, hb2⟩, ⟨ht1, ht2⟩, hfa, hr1, hr2⟩ := id hV
  obtain ⟨hw1, hw2, hw3, hw4⟩ := id hA.1.1
  obtain ⟨hs1, hs2, hs3, hs4, hs5, hs6, hs7⟩ := id hS.2
  have hz : (0 : Nat) < 3 := by omega
  refine y_start (by decide) (Nat.le_of_ble_eq_true rfl) (fun X0 hF => ?_)
  show yV X0 g 7 (yQ X0 g (SC g) (yPi (fun zv n' σ' => n ≤ n' ∧ (((sIn w h x y = true) ∧ zv = lnV w h O s x y ∧ mO σ σ' (w, h, (T, S, F, P, O, nf, df, nl, lg), (s, re, fo, ra, tu, we, sh), H, ht, K, tl, tb, fa, r1, r2) 0) ∨ (¬ (sIn w h x y = true) ∧ mO σ σ' (bN (w, h, (T, S, F, P, O, nf, df, nl, lg), (s, re, fo, ra, tu, we, sh), H, ht, K, tl, tb, fa, r1, r2)) 1)))) (rmL 4)) (SC g) n σ 0 0 0 [(0, yR g 155), (1, yI x), (2, yI y)] []
  refine y_aload_n (pc := 0) hF dX11_lent_0 0 rfl ?_
  refine y_iconst (pc := 1) hF dX11_lent_1 ?_
  refine y_putf (pc := 2) (ci := 11) (σ' := yset σ 155 0 0) (sch' := (SC g)) hF dX11_lent_2 (by omega) rfl rfl rfl iX11 0 (by decide) w_1247 tyX11 tyX11_ok nmX11 rfl rfl rfl rfl (Nat.le_of_ble_eq_true rfl) rfl (y_ps rfl) (fun k' h => ⟨yset_n h, rfl⟩) ?_
  obtain ⟨σ0, hσ0⟩ : ∃ s, s = yset σ 155 0 0 := ⟨_, rfl⟩
  rw [← hσ0]
  have zO_σ0 := hV.t0 hσ0
  obtain ⟨⟨zA_σ0, zL_σ0⟩, zS_σ0, zH_σ0, ⟨zb1_σ0, zb2_σ0⟩, ⟨zt1_σ0, zt2_σ0⟩, zfa_σ0, zr1_σ0, zr2_σ0⟩ := id zO_σ0.2.2
  refine y_aload_n (pc := 5) hF dX11_lent_5 0 rfl ?_
  refine y_iload_n (pc := 6) hF dX11_lent_6 1 rfl ?_
  refine y_iload_n (pc := 7) hF dX11_lent_7 2 rfl ?_
  refine y_ci (y_rV (pc := 8) hF (tX11_isThere w h T S F P O hn zA_σ0 zO_σ0.2.1 x y hx hy) dX11_lent_8 (by omega) rfl rfl rfl w_1468 qX11_isThere rfl ⟨Nat.le_of_ble_eq_true rfl, Nat.le_of_ble_eq_true rfl⟩ ⟨Nat.zero_le _, Nat.zero_le _⟩ (Nat.le_of_ble_eq_true rfl) rfl) rfl rfl (fun r8 n' σ8 zp8 => ?_)
  obtain ⟨zn8, zp8⟩ := zp8
  have zn8 := zn8.symm
  subst zn8
  rcases zp8 with ⟨zb8, zv8, zs8⟩ | ⟨zb8, zv8, zs8⟩
  · subst zv8; have zs8 := zs8.symm; subst zs8
    refine y_if_ne (pc := 11) hF dX11_lent_11 16 rfl (by decide) (fun _ => ?_) (fun zc11 => absurd zc11 (by decide))
    have zi := sIn_iff.mp zb8
    refine y_iconst (pc := 16) hF dX11_lent_16 ?_
    refine y_istore_n (pc := 17) (lv' := [(0, yR g 155), (1, yI x), (2, yI y), (3, yI 0)]) hF dX11_lent_17 (by decide) rfl rfl ?_
    refine y_iconst (pc := 18) hF dX11_lent_18 ?_
    refine y_istore (pc := 19) (lv' := [(0, yR g 155), (1, yI x), (2, yI y), (3, yI 0), (4, yI 0)]) hF dX11_lent_19 (by decide) rfl rfl ?_
    have zL21 : ∀ (N : Nat) (j c : Int), N = (h - j).toNat → ((0 ≤ j ∧ j ≤ h) ∧ c = fr (fun q j => fr (fun q i => q + bi (decide (0 ≤ O i j) && sNr x y (mx (O i j)) (my (O i j)) s)) 0 w.toNat q) 0 j.toNat 0) → yV X0 g 7 (yQ X0 g (SC g) (yPi (fun zv n' σ' => n ≤ n' ∧ (((sIn w h x y = true) ∧ zv = lnV w h O s x y ∧ mO σ σ' (w, h, (T, S, F, P, O, nf, df, nl, lg), (s, re, fo, ra, tu, we, sh), H, ht, K, tl, tb, fa, r1, r2) 0) ∨ (¬ (sIn w h x y = true) ∧ mO σ σ' (bN (w, h, (T, S, F, P, O, nf, df, nl, lg), (s, re, fo, ra, tu, we, sh), H, ht, K, tl, tb, fa, r1, r2)) 1)))) (rmL 4)) (SC g) n σ0 0 0 21 [(0, yR g 155), (1, yI x), (2, yI y), (3, yI c), (4, yI j)] [] := by
      intro N
      induction N using Nat.strongRecOn with
      | ind N zh21 =>
        intro j c  zN21 zI21
        refine y_iload (pc := 21) hF dX11_lent_21 4 rfl ?_
        refine y_aload_n (pc := 23) hF dX11_lent_23 0 rfl ?_
        refine y_get (pc := 24) (ci := 11) hF dX11_lent_24 (by omega) rfl rfl rfl iX11 4 (by decide) w_1251 rfl ?_
        refine y_iconst (pc := 27) hF dX11_lent_27 ?_
        refine y_iaload (pc := 28) hF dX11_lent_28 (by omega) rfl (by omega) (by decide) ?_
        rw [show σ0 162 0 = h from zA_σ0.2.2.1]
        refine y_icmp_ge (pc := 29) hF dX11_lent_29 123 rfl (by omega) (by omega) (fun zc29 => ?_) (fun zc29 => ?_)
        · skip
          refine y_iload_n (pc := 123) hF dX11_lent_123 3 rfl ?_
          exact y_iret (pc := 124) hF dX11_lent_124 (Nat.zero_le _) (Nat.zero_le _) ⟨_, rfl, Nat.le_refl _, Or.inl ⟨zb8, (by rw [zI21.2]; unfold lnV sCt fr2; rw [show j.toNat = h.toNat by omega]), zO_σ0⟩⟩
        · skip
          refine y_iconst (pc := 32) hF dX11_lent_32 ?_
          refine y_istore (pc := 33) (lv' := [(0, yR g 155), (1, yI x), (2, yI y), (3, yI c), (4, yI j), (5, yI 0)]) hF dX11_lent_33 (by decide) rfl rfl ?_
          have zL35 : ∀ (N : Nat) (i c2 : Int), N = (w - i).toNat → ((0 ≤ i ∧ i ≤ w) ∧ c2 = fr (fun q i => q + bi (decide (0 ≤ O i j) && sNr x y (mx (O i j)) (my (O i j)) s)) 0 i.toNat c) → yV X0 g 7 (yQ X0 g (SC g) (yPi (fun zv n' σ' => n ≤ n' ∧ (((sIn w h x y = true) ∧ zv = lnV w h O s x y ∧ mO σ σ' (w, h, (T, S, F, P, O, nf, df, nl, lg), (s, re, fo, ra, tu, we, sh), H, ht, K, tl, tb, fa, r1, r2) 0) ∨ (¬ (sIn w h x y = true) ∧ mO σ σ' (bN (w, h, (T, S, F, P, O, nf, df, nl, lg), (s, re, fo, ra, tu, we, sh), H, ht, K, tl, tb, fa, r1, r2)) 1)))) (rmL 4)) (SC g) n σ0 0 0 35 [(0, yR g 155), (1, yI x), (2, yI y), (3, yI c2), (4, yI j), (5, yI i)] [] := by
            intro N
            induction N using Nat.strongRecOn with
            | ind N zh35 =>
              intro i c2  zN35 zI35
              refine y_iload (pc := 35) hF dX11_lent_35 5 rfl ?_
              refine y_aload_n (pc := 37) hF dX11_lent_37 0 rfl ?_
              refine y_get (pc := 38) (ci := 11) hF dX11_lent_38 (by omega) rfl rfl rfl iX11 3 (by decide) w_1250 rfl ?_
              refine y_iconst (pc := 41) hF dX11_lent_41 ?_
              refine y_iaload (pc := 42) hF dX11_lent_42 (by omega) rfl (by omega) (by decide) ?_
              rw [show σ0 161 0 = w from zA_σ0.2.1]
              refine y_icmp_ge (pc := 43) hF dX11_lent_43 117 rfl (by omega) (by omega) (fun zc43 => ?_) (fun zc43 => ?_)
              · skip
                refine y_iinc (pc := 117) (lv' := [(0, yR g 155), (1, yI x), (2, yI y), (3, yI c2), (4, yI (j + 1)), (5, yI i)]) hF dX11_lent_117 4 rfl (by decide) rfl rfl ?_
                refine y_goto (pc := 120) hF dX11_lent_120 21 rfl ?_
                refine y_sub [0, 1, 2, 3, 4] rfl ?_
                exact zh21 _ (by omega) (j + 1) (c2) rfl ⟨by omega, by rw [fr_up _ _ _ _ zI21.1.1, ← zI21.2, zI35.2, Int.zero_add, show i.toNat = w.toNat by omega]⟩
              · skip
                have zin : sIn w h i j = true := sIn_iff.mpr (by omega)
                have zm := zA_σ0.2.2.2 i j (by omega) (by omega) (by omega) (by omega)
                have zt := zA_σ0.1.2 i j (by omega) (by omega) (by omega) (by omega)
                have zco : O i j = -1 ∨ (0 ≤ O i j ∧ O i j < 400) := by have zk := zt.2.2.2.2.1; unfold cOk at zk; omega
                have zmr : (-1 ≤ mx (O i j) ∧ mx (O i j) ≤ 20) ∧ (-1 ≤ my (O i j) ∧ my (O i j) ≤ 20) := by unfold mx my; split <;> omega
                refine y_aload_n (pc := 46) hF dX11_lent_46 0 rfl ?_
                refine y_get (pc := 47) (ci := 11) hF dX11_lent_47 (by omega) rfl rfl rfl iX11 2 (by decide) w_1249 rfl ?_
                refine y_iconst (pc := 50) hF dX11_lent_50 ?_
                refine y_aaM0 (pc := 51) hF dX11_lent_51 hn rfl ?_
                refine y_sipush (pc := 52) hF dX11_lent_52 (by decide) ?_
                refine y_iload (pc := 55) hF dX11_lent_55 5 rfl ?_
                refine y_iload (pc := 57) hF dX11_lent_57 4 rfl ?_
                have zz59 := y_rS (pc := 59) (As := [yI i, yI j]) (kk := 0) hF (tX11_at (n := n) (σ := σ0) i j) dX11_lent_59 w_1236 qX11_at rfl ⟨Nat.le_of_ble_eq_true rfl, Nat.le_of_ble_eq_true rfl⟩ ⟨Nat.zero_le _, Nat.zero_le _⟩ (Nat.le_of_ble_eq_true rfl) rfl (rest := [yI 1600, yR g 158]) (cells := 0) (slots := 0) (lv := [(0, yR g 155), (1, yI x), (2, yI y), (3, yI c2), (4, yI j), (5, yI i)])
                refine y_cp (zz59) ?_
                refine y_iadd (pc := 62) hF dX11_lent_62 ?_
                refine y_iaload (pc := 63) hF dX11_lent_63 (by omega) rfl ⟨by omega, by show _ < (2273 : Int); omega⟩ (by decide) ?_
                rw [show σ0 158 (1600 + (20 * j + i)) = O i j from zm.2.2.2.2]
                refine y_istore (pc := 64) (lv' := [(0, yR g 155), (1, yI x), (2, yI y), (3, yI c2), (4, yI j), (5, yI i), (6, yI (O i j))]) hF dX11_lent_64 (by decide) rfl rfl ?_
                have zJ109 : ∀ (zq : Int), (zq = bi (decide (0 ≤ O i j) && sNr x y (mx (O i j)) (my (O i j)) s)) → yV X0 g 7 (yQ X0 g (SC g) (yPi (fun zv n' σ' => n ≤ n' ∧ (((sIn w h x y = true) ∧ zv = lnV w h O s x y ∧ mO σ σ' (w, h, (T, S, F, P, O, nf, df, nl, lg), (s, re, fo, ra, tu, we, sh), H, ht, K, tl, tb, fa, r1, r2) 0) ∨ (¬ (sIn w h x y = true) ∧ mO σ σ' (bN (w, h, (T, S, F, P, O, nf, df, nl, lg), (s, re, fo, ra, tu, we, sh), H, ht, K, tl, tb, fa, r1, r2)) 1)))) (rmL 4)) (SC g) n σ0 0 0 109 [(0, yR g 155), (1, yI x), (2, yI y), (3, yI c2), (4, yI j), (5, yI i), (6, yI (O i j))] [yI zq, yI c2] := by
                  intro zq  zln
                  refine y_iadd (pc := 109) hF dX11_lent_109 ?_
                  refine y_istore_n (pc := 110) (lv' := [(0, yR g 155), (1, yI x), (2, yI y), (3, yI (c2 + zq)), (4, yI j), (5, yI i), (6, yI (O i j))]) hF dX11_lent_110 (by decide) rfl rfl ?_
                  refine y_iinc (pc := 111) (lv' := [(0, yR g 155), (1, yI x), (2, yI y), (3, yI (c2 + zq)), (4, yI j), (5, yI (i + 1)), (6, yI (O i j))]) hF dX11_lent_111 5 rfl (by decide) rfl rfl ?_
                  refine y_goto (pc := 114) hF dX11_lent_114 35 rfl ?_
                  refine y_sub [0, 1, 2, 3, 4, 5] rfl ?_
                  exact zh35 _ (by omega) (i + 1) (c2 + zq) rfl ⟨by omega, by rw [fr_up _ _ _ _ zI35.1.1, ← zI35.2, Int.zero_add, zln]⟩
                refine y_iload_n (pc := 66) hF dX11_lent_66 3 rfl ?_
                refine y_aload_n (pc := 67) hF dX11_lent_67 0 rfl ?_
                refine y_iconst (pc := 68) hF dX11_lent_68 ?_
                refine y_iload (pc := 69) hF dX11_lent_69 5 rfl ?_
                refine y_iload (pc := 71) hF dX11_lent_71 4 rfl ?_
                have zz73 := y_rV (pc := 73) hF (tX11_isFilled (n := n) (σ := σ0) 0 w h T S F P O hn (by omega) zA_σ0 i j zin) dX11_lent_73 (by omega) rfl rfl rfl w_1545 qX11_isFilled rfl ⟨Nat.le_of_ble_eq_true rfl, Nat.le_of_ble_eq_true rfl⟩ ⟨Nat.zero_le _, Nat.zero_le _⟩ (Nat.le_of_ble_eq_true rfl) rfl (rest := [yI c2]) (cells := 0) (slots := 0) (lv := [(0, yR g 155), (1, yI x), (2, yI y), (3, yI c2), (4, yI j), (5, yI i), (6, yI (O i j))])
                refine y_cp (zz73) ?_
                refine y_if_eq (pc := 76) hF dX11_lent_76 108 rfl bi_r (fun zc76 => ?_) (fun zc76 => ?_)
                · replace zc76 := bi_0.mp zc76
                  have zoo : ¬ 0 ≤ O i j := fun ze => absurd (zt.2.2.2.2.2.2.mpr ze) (by simpa using zc76)
                  refine y_iconst (pc := 108) hF dX11_lent_108 ?_
                  exact zJ109 0 (by rw [show decide (0 ≤ O i j) = false by simpa using zoo, Bool.false_and]; rfl)
                · replace zc76 := bi_n0.mp zc76
                  have zoo : 0 ≤ O i j := zt.2.2.2.2.2.2.mp (by simpa using zc76)
                  refine y_aload_n (pc := 79) hF dX11_lent_79 0 rfl ?_
                  refine y_iload_n (pc := 80) hF dX11_lent_80 1 rfl ?_
                  refine y_iload_n (pc := 81) hF dX11_lent_81 2 rfl ?_
                  refine y_iload (pc := 82) hF dX11_lent_82 6 rfl ?_
                  have zz84 := y_rS (pc := 84) (As := [yI (O i j)]) (kk := 0) hF (tX11_xOf (n := n) (σ := σ0) (O i j) (by omega)) dX11_lent_84 w_1657 qX11_xOf rfl ⟨Nat.le_of_ble_eq_true rfl, Nat.le_of_ble_eq_true rfl⟩ ⟨Nat.zero_le _, Nat.zero_le _⟩ (Nat.le_of_ble_eq_true rfl) rfl (rest := [yI y, yI x, yR g 155, yI c2]) (cells := 0) (slots := 0) (lv := [(0, yR g 155), (1, yI x), (2, yI y), (3, yI c2), (4, yI j), (5, yI i), (6, yI (O i j))])
                  refine y_cp (zz84) ?_
                  refine y_iload (pc := 87) hF dX11_lent_87 6 rfl ?_
                  have zz89 := y_rS (pc := 89) (As := [yI (O i j)]) (kk := 0) hF (tX11_yOf (n := n) (σ := σ0) (O i j) (by omega)) dX11_lent_89 w_1660 qX11_yOf rfl ⟨Nat.le_of_ble_eq_true rfl, Nat.le_of_ble_eq_true rfl⟩ ⟨Nat.zero_le _, Nat.zero_le _⟩ (Nat.le_of_ble_eq_true rfl) rfl (rest := [yI (mx (O i j)), yI y, yI x, yR g 155, yI c2]) (cells := 0) (slots := 0) (lv := [(0, yR g 155), (1, yI x), (2, yI y), (3, yI c2), (4, yI j), (5, yI i), (6, yI (O i j))])
                  refine y_cp (zz89) ?_
                  refine y_aload_n (pc := 92) hF dX11_lent_92 0 rfl ?_
                  refine y_get (pc := 93) (ci := 11) hF dX11_lent_93 (by omega) rfl rfl rfl iX11 10 (by decide) w_1257 rfl ?_
                  refine y_iconst (pc := 96) hF dX11_lent_96 ?_
                  refine y_iaload (pc := 97) hF dX11_lent_97 (by omega) rfl (by omega) (by decide) ?_
                  rw [show σ0 166 0 = s from zS_σ0.1.1]
                  have zz98 := y_rV (pc := 98) hF (tX11_isNear (n := n) (σ := σ0) x y (mx (O i j)) (my (O i j)) s (by omega) (by omega) (by omega) (by omega) (by omega)) dX11_lent_98 (by omega) rfl rfl rfl w_1580 qX11_isNear rfl ⟨Nat.le_of_ble_eq_true rfl, Nat.le_of_ble_eq_true rfl⟩ ⟨Nat.zero_le _, Nat.zero_le _⟩ (Nat.le_of_ble_eq_true rfl) rfl (rest := [yI c2]) (cells := 0) (slots := 0) (lv := [(0, yR g 155), (1, yI x), (2, yI y), (3, yI c2), (4, yI j), (5, yI i), (6, yI (O i j))])
                  refine y_cp (zz98) ?_
                  refine y_if_eq (pc := 101) hF dX11_lent_101 108 rfl bi_r (fun zc101 => ?_) (fun zc101 => ?_)
                  · replace zc101 := bi_0.mp zc101
                    skip
                    refine y_iconst (pc := 108) hF dX11_lent_108 ?_
                    exact zJ109 0 (by rw [zc101, Bool.and_false]; rfl)
                  · replace zc101 := bi_n0.mp zc101
                    refine y_iconst (pc := 104) hF dX11_lent_104 ?_
                    refine y_goto (pc := 105) hF dX11_lent_105 109 rfl ?_
                    exact zJ109 1 (by rw [show decide (0 ≤ O i j) = true by simpa using zoo, zc101]; rfl)
          exact zL35 _ (0) (c) rfl ⟨by omega, rfl⟩
    exact zL21 _ (0) (0) rfl ⟨by omega, rfl⟩
  · subst zv8; subst zs8
    refine y_if_ne (pc := 11) hF dX11_lent_11 16 rfl (by decide) (fun zc11 => absurd zc11 (by decide)) (fun _ => ?_)
    refine y_iconst (pc := 14) hF dX11_lent_14 ?_
    exact y_iret (pc := 15) hF dX11_lent_15 (Nat.zero_le _) (Nat.zero_le _) ⟨_, rfl, Nat.le_refl _, Or.inr ⟨(by rw [zb8]; decide), zO_σ0.bN 1⟩⟩

theorem dX11_print_0 : decode cX11_print 0 = .ok (.aload_n 0, 1) := by decide +kernel
theorem dX11_print_1 : decode cX11_print 1 = .ok (.iconst 0, 1) := by decide +kernel
theorem dX11_print_2 : decode cX11_print 2 = .ok (.putfield 1, 3) := by decide +kernel
theorem dX11_print_5 : decode cX11_print 5 = .ok (.lconst 0, 1) := by decide +kernel
theorem dX11_print_6 : decode cX11_print 6 = .ok (.lstore_n 1, 1) := by decide +kernel
theorem dX11_print_7 : decode cX11_print 7 = .ok (.iconst 0, 1) := by decide +kernel
theorem dX11_print_8 : decode cX11_print 8 = .ok (.istore_n 3, 1) := by decide +kernel
theorem dX11_print_9 : decode cX11_print 9 = .ok (.iload_n 3, 1) := by decide +kernel
theorem dX11_print_10 : decode cX11_print 10 = .ok (.aload_n 0, 1) := by decide +kernel
theorem dX11_print_11 : decode cX11_print 11 = .ok (.getfield 25, 3) := by decide +kernel
theorem dX11_print_14 : decode cX11_print 14 = .ok (.iconst 0, 1) := by decide +kernel
theorem dX11_print_15 : decode cX11_print 15 = .ok (.iaload, 1) := by decide +kernel
theorem dX11_print_16 : decode cX11_print 16 = .ok (.if_icmp .ge 45, 3) := by decide +kernel
theorem dX11_print_19 : decode cX11_print 19 = .ok (.iconst 0, 1) := by decide +kernel
theorem dX11_print_20 : decode cX11_print 20 = .ok (.istore 4, 2) := by decide +kernel
theorem dX11_print_22 : decode cX11_print 22 = .ok (.iload 4, 2) := by decide +kernel
theorem dX11_print_24 : decode cX11_print 24 = .ok (.aload_n 0, 1) := by decide +kernel
theorem dX11_print_25 : decode cX11_print 25 = .ok (.getfield 22, 3) := by decide +kernel
theorem dX11_print_28 : decode cX11_print 28 = .ok (.iconst 0, 1) := by decide +kernel
theorem dX11_print_29 : decode cX11_print 29 = .ok (.iaload, 1) := by decide +kernel
theorem dX11_print_30 : decode cX11_print 30 = .ok (.if_icmp .ge 25, 3) := by decide +kernel
theorem dX11_print_33 : decode cX11_print 33 = .ok (.ldc2_w 376, 3) := by decide +kernel
theorem dX11_print_36 : decode cX11_print 36 = .ok (.lload_n 1, 1) := by decide +kernel
theorem dX11_print_37 : decode cX11_print 37 = .ok (.lmul, 1) := by decide +kernel
theorem dX11_print_38 : decode cX11_print 38 = .ok (.aload_n 0, 1) := by decide +kernel
theorem dX11_print_39 : decode cX11_print 39 = .ok (.iconst 0, 1) := by decide +kernel
theorem dX11_print_40 : decode cX11_print 40 = .ok (.iload 4, 2) := by decide +kernel
theorem dX11_print_42 : decode cX11_print 42 = .ok (.iload_n 3, 1) := by decide +kernel
theorem dX11_print_43 : decode cX11_print 43 = .ok (.invokevirtual 87, 3) := by decide +kernel
theorem dX11_print_46 : decode cX11_print 46 = .ok (.i2l, 1) := by decide +kernel
theorem dX11_print_47 : decode cX11_print 47 = .ok (.ladd, 1) := by decide +kernel
theorem dX11_print_48 : decode cX11_print 48 = .ok (.lstore_n 1, 1) := by decide +kernel
theorem dX11_print_49 : decode cX11_print 49 = .ok (.iinc 4 1, 3) := by decide +kernel
theorem dX11_print_52 : decode cX11_print 52 = .ok (.goto (-30), 3) := by decide +kernel
theorem dX11_print_55 : decode cX11_print 55 = .ok (.iinc 3 1, 3) := by decide +kernel
theorem dX11_print_58 : decode cX11_print 58 = .ok (.goto (-49), 3) := by decide +kernel
theorem dX11_print_61 : decode cX11_print 61 = .ok (.lload_n 1, 1) := by decide +kernel
theorem dX11_print_62 : decode cX11_print 62 = .ok (.lreturn, 1) := by decide +kernel
set_option maxHeartbeats 4000000 in
set_option maxRecDepth 100000 in
theorem tX11_print {l : Launch} {g : yG} {n : Nat} {σ : yM} (hn : 172 ≤ n) (w h : Int) (T S F P O : Int → Int → Int) (nf df nl : Int) (lg : Int → Int → Int) (s re fo ra tu we sh : Int) (H : List aX) (ht : Bool) (K : Int → Int → Int) (tl : Int) (tb : Int → Int) (fa r1 r2 N : Int) (hV : mV σ (w, h, (T, S, F, P, O, nf, df, nl, lg), (s, re, fo, ra, tu, we, sh), H, ht, K, tl, tb, fa, r1, r2)) (hW : aW N (w, h, (T, S, F, P, O, nf, df, nl, lg), (s, re, fo, ra, tu, we, sh), H, ht, K, tl, tb, fa, r1, r2))  : yMet l g yX11_print cX11_print 5 (some .long) (rmL 3) [yR g 155] (SC g) n σ (SC g) (yPl (fun zv n' σ' => zv = pV w h T ∧ n ≤ n' ∧ mO σ σ' (w, h, (T, S, F, P, O, nf, df, nl, lg), (s, re, fo, ra, tu, we, sh), H, ht, K, tl, tb, fa, r1, r2) 0)) := by
  obtain ⟨⟨hA, hL⟩, hS, hH, ⟨hb1, hb2⟩, ⟨ht1, ht2⟩, hfa, hr1, hr2⟩ := id hV
  obtain ⟨hw1, hw2, hw3, hw4⟩ := id hA.1.1
  obtain ⟨hs1, hs2, hs3, hs4, hs5, hs6, hs7⟩ := id hS.2
  have hz : (0 : Nat) < 3 := by omega
  refine y_start (by decide) (Nat.le_of_ble_eq_true rfl) (fun X0 hF => ?_)
  show yV X0 g 5 (yQ X0 g (SC g) (yPl (fun zv n' σ' => zv = pV w h T ∧ n ≤ n' ∧ mO σ σ' (w, h, (T, S, F, P, O, nf, df, nl, lg), (s, re, fo, ra, tu, we, sh), H, ht, K, tl, tb, fa, r1, r2) 0)) (rmL 3)) (SC g) n σ 0 0 0 [(0, yR g 155)] []
  refine y_aload_n (pc := 0) hF dX11_print_0 0 rfl ?_
  refine y_iconst (pc := 1) hF dX11_print_1 ?_
  refine y_putf (pc := 2) (ci := 11) (σ' := yset σ 155 0 0) (sch' := (SC g)) hF dX11_print_2 (by omega) rfl rfl rfl iX11 0 (by decide) w_1247 tyX11 tyX11_ok nmX11 rfl rfl rfl rfl (Nat.le_of_ble_eq_true rfl) rfl (y_ps rfl) (fun k' h => ⟨yset_n h, rfl⟩) ?_
  obtain ⟨σ0, hσ0⟩ : ∃ s, s = yset σ 155 0 0 := ⟨_, rfl⟩
  rw [← hσ0]
  have zO_σ0 := hV.t0 hσ0
  obtain ⟨⟨zA_σ0, zL_σ0⟩, zS_σ0, zH_σ0, ⟨zb1_σ0, zb2_σ0⟩, ⟨zt1_σ0, zt2_σ0⟩, zfa_σ0, zr1_σ0, zr2_σ0⟩ := id zO_σ0.2.2
  refine y_lconst (pc := 5) (v := 0) hF dX11_print_5 rfl ?_
  refine y_lstore_n (pc := 6) (lv' := [(0, yR g 155), (1, yJ 0)]) hF dX11_print_6 (by decide) rfl rfl rfl ?_
  refine y_iconst (pc := 7) hF dX11_print_7 ?_
  refine y_istore_n (pc := 8) (lv' := [(0, yR g 155), (1, yJ 0), (3, yI 0)]) hF dX11_print_8 (by decide) rfl rfl ?_
  have zL9 : ∀ (N : Nat) (y c : Int), N = (h - y).toNat → ((0 ≤ y ∧ y ≤ h) ∧ c = fr (fun q y => fr (fun q x => 31 * q + T x y) 0 w.toNat q) 0 y.toNat 0) → yV X0 g 5 (yQ X0 g (SC g) (yPl (fun zv n' σ' => zv = pV w h T ∧ n ≤ n' ∧ mO σ σ' (w, h, (T, S, F, P, O, nf, df, nl, lg), (s, re, fo, ra, tu, we, sh), H, ht, K, tl, tb, fa, r1, r2) 0)) (rmL 3)) (SC g) n σ0 0 0 9 [(0, yR g 155), (1, yJ c), (3, yI y)] [] := by
    intro N
    induction N using Nat.strongRecOn with
    | ind N zh9 =>
      intro y c  zN9 zI9
      refine y_iload_n (pc := 9) hF dX11_print_9 2 rfl ?_
      refine y_aload_n (pc := 10) hF dX11_print_10 0 rfl ?_
      refine y_get (pc := 11) (ci := 11) hF dX11_print_11 (by omega) rfl rfl rfl iX11 4 (by decide) w_1251 rfl ?_
      refine y_iconst (pc := 14) hF dX11_print_14 ?_
      refine y_iaload (pc := 15) hF dX11_print_15 (by omega) rfl (by omega) (by decide) ?_
      rw [show σ0 162 0 = h from zA_σ0.2.2.1]
      refine y_icmp_ge (pc := 16) hF dX11_print_16 61 rfl (by omega) (by omega) (fun zc16 => ?_) (fun zc16 => ?_)
      · skip
        refine y_lload_n (pc := 61) hF dX11_print_61 1 rfl ?_
        exact y_lret (pc := 62) hF dX11_print_62 (Nat.zero_le _) (Nat.zero_le _) ⟨_, rfl, by rw [zI9.2]; unfold pV fr2; rw [show y.toNat = h.toNat by omega], Nat.le_refl _, zO_σ0⟩
      · skip
        refine y_iconst (pc := 19) hF dX11_print_19 ?_
        refine y_istore (pc := 20) (lv' := [(0, yR g 155), (1, yJ c), (3, yI y), (4, yI 0)]) hF dX11_print_20 (by decide) rfl rfl ?_
        have zL22 : ∀ (N : Nat) (x c2 : Int), N = (w - x).toNat → ((0 ≤ x ∧ x ≤ w) ∧ c2 = fr (fun q x => 31 * q + T x y) 0 x.toNat c) → yV X0 g 5 (yQ X0 g (SC g) (yPl (fun zv n' σ' => zv = pV w h T ∧ n ≤ n' ∧ mO σ σ' (w, h, (T, S, F, P, O, nf, df, nl, lg), (s, re, fo, ra, tu, we, sh), H, ht, K, tl, tb, fa, r1, r2) 0)) (rmL 3)) (SC g) n σ0 0 0 22 [(0, yR g 155), (1, yJ c2), (3, yI y), (4, yI x)] [] := by
          intro N
          induction N using Nat.strongRecOn with
          | ind N zh22 =>
            intro x c2  zN22 zI22
            refine y_iload (pc := 22) hF dX11_print_22 3 rfl ?_
            refine y_aload_n (pc := 24) hF dX11_print_24 0 rfl ?_
            refine y_get (pc := 25) (ci := 11) hF dX11_print_25 (by omega) rfl rfl rfl iX11 3 (by decide) w_1250 rfl ?_
            refine y_iconst (pc := 28) hF dX11_print_28 ?_
            refine y_iaload (pc := 29) hF dX11_print_29 (by omega) rfl (by omega) (by decide) ?_
            rw [show σ0 161 0 = w from zA_σ0.2.1]
            refine y_icmp_ge (pc := 30) hF dX11_print_30 55 rfl (by omega) (by omega) (fun zc30 => ?_) (fun zc30 => ?_)
            · skip
              refine y_iinc (pc := 55) (lv' := [(0, yR g 155), (1, yJ c2), (3, yI (y + 1)), (4, yI x)]) hF dX11_print_55 2 rfl (by decide) rfl rfl ?_
              refine y_goto (pc := 58) hF dX11_print_58 9 rfl ?_
              refine y_sub [0, 1, 2] rfl ?_
              exact zh9 _ (by omega) (y + 1) (c2) rfl ⟨by omega, by rw [fr_up _ _ _ _ zI9.1.1, ← zI9.2, zI22.2, Int.zero_add, show x.toNat = w.toNat by omega]⟩
            · skip
              have zin : sIn w h x y = true := sIn_iff.mpr (by omega)
              have ztb := hA.1.T x y zin
              refine y_ldc2 (pc := 33) (v := 31) hF dX11_print_33 wk_1752 ?_
              refine y_lload_n (pc := 36) hF dX11_print_36 1 rfl ?_
              refine y_lmul (pc := 37) hF dX11_print_37 ?_
              refine y_aload_n (pc := 38) hF dX11_print_38 0 rfl ?_
              refine y_iconst (pc := 39) hF dX11_print_39 ?_
              refine y_iload (pc := 40) hF dX11_print_40 3 rfl ?_
              refine y_iload_n (pc := 42) hF dX11_print_42 2 rfl ?_
              have zz43 := y_rV (pc := 43) hF (tX11_toneOf (n := n) (σ := σ0) 0 w h T S F P O hn (by omega) zA_σ0 x y zin) dX11_print_43 (by omega) rfl rfl rfl w_1472 qX11_toneOf rfl ⟨Nat.le_of_ble_eq_true rfl, Nat.le_of_ble_eq_true rfl⟩ ⟨Nat.zero_le _, Nat.zero_le _⟩ (Nat.le_of_ble_eq_true rfl) rfl (rest := [yJ (31 * c2)]) (cells := 0) (slots := 0) (lv := [(0, yR g 155), (1, yJ c2), (3, yI y), (4, yI x)])
              refine y_cp (zz43) ?_
              refine y_i2l (pc := 46) hF dX11_print_46 (by omega) ?_
              refine y_ladd (pc := 47) hF dX11_print_47 ?_
              refine y_lstore_n (pc := 48) (lv' := [(0, yR g 155), (1, yJ ((31 * c2) + (T x y))), (3, yI y), (4, yI x)]) hF dX11_print_48 (by decide) rfl rfl rfl ?_
              refine y_iinc (pc := 49) (lv' := [(0, yR g 155), (1, yJ ((31 * c2) + (T x y))), (3, yI y), (4, yI (x + 1))]) hF dX11_print_49 3 rfl (by decide) rfl rfl ?_
              refine y_goto (pc := 52) hF dX11_print_52 22 rfl ?_
              exact zh22 _ (by omega) (x + 1) ((31 * c2) + (T x y)) rfl ⟨by omega, by rw [fr_up _ _ _ _ zI22.1.1, ← zI22.2, Int.zero_add]⟩
        exact zL22 _ (0) (c) rfl ⟨by omega, rfl⟩
  exact zL9 _ (0) (0) rfl ⟨by omega, rfl⟩

theorem dX11_favourite_0 : decode cX11_favourite 0 = .ok (.aload_n 0, 1) := by decide +kernel
theorem dX11_favourite_1 : decode cX11_favourite 1 = .ok (.iconst 0, 1) := by decide +kernel
theorem dX11_favourite_2 : decode cX11_favourite 2 = .ok (.putfield 1, 3) := by decide +kernel
theorem dX11_favourite_5 : decode cX11_favourite 5 = .ok (.aload_n 0, 1) := by decide +kernel
theorem dX11_favourite_6 : decode cX11_favourite 6 = .ok (.iload_n 1, 1) := by decide +kernel
theorem dX11_favourite_7 : decode cX11_favourite 7 = .ok (.iconst 0, 1) := by decide +kernel
theorem dX11_favourite_8 : decode cX11_favourite 8 = .ok (.iconst 1, 1) := by decide +kernel
theorem dX11_favourite_9 : decode cX11_favourite 9 = .ok (.invokestatic 68, 3) := by decide +kernel
theorem dX11_favourite_12 : decode cX11_favourite 12 = .ok (.iconst 1, 1) := by decide +kernel
theorem dX11_favourite_13 : decode cX11_favourite 13 = .ok (.iconst 1, 1) := by decide +kernel
theorem dX11_favourite_14 : decode cX11_favourite 14 = .ok (.invokevirtual 284, 3) := by decide +kernel
theorem dX11_favourite_17 : decode cX11_favourite 17 = .ok (.ifCond .ne 5, 3) := by decide +kernel
theorem dX11_favourite_20 : decode cX11_favourite 20 = .ok (.iconst 0, 1) := by decide +kernel
theorem dX11_favourite_21 : decode cX11_favourite 21 = .ok (.ireturn, 1) := by decide +kernel
theorem dX11_favourite_22 : decode cX11_favourite 22 = .ok (.iconst (-1), 1) := by decide +kernel
theorem dX11_favourite_23 : decode cX11_favourite 23 = .ok (.istore_n 2, 1) := by decide +kernel
theorem dX11_favourite_24 : decode cX11_favourite 24 = .ok (.iconst 0, 1) := by decide +kernel
theorem dX11_favourite_25 : decode cX11_favourite 25 = .ok (.istore_n 3, 1) := by decide +kernel
theorem dX11_favourite_26 : decode cX11_favourite 26 = .ok (.iconst 0, 1) := by decide +kernel
theorem dX11_favourite_27 : decode cX11_favourite 27 = .ok (.istore 4, 2) := by decide +kernel
theorem dX11_favourite_29 : decode cX11_favourite 29 = .ok (.iload 4, 2) := by decide +kernel
theorem dX11_favourite_31 : decode cX11_favourite 31 = .ok (.bipush 8, 2) := by decide +kernel
theorem dX11_favourite_33 : decode cX11_favourite 33 = .ok (.if_icmp .ge 85, 3) := by decide +kernel
theorem dX11_favourite_36 : decode cX11_favourite 36 = .ok (.iconst 0, 1) := by decide +kernel
theorem dX11_favourite_37 : decode cX11_favourite 37 = .ok (.istore 5, 2) := by decide +kernel
theorem dX11_favourite_39 : decode cX11_favourite 39 = .ok (.iconst 0, 1) := by decide +kernel
theorem dX11_favourite_40 : decode cX11_favourite 40 = .ok (.istore 6, 2) := by decide +kernel
theorem dX11_favourite_42 : decode cX11_favourite 42 = .ok (.iload 6, 2) := by decide +kernel
theorem dX11_favourite_44 : decode cX11_favourite 44 = .ok (.aload_n 0, 1) := by decide +kernel
theorem dX11_favourite_45 : decode cX11_favourite 45 = .ok (.getfield 19, 3) := by decide +kernel
theorem dX11_favourite_48 : decode cX11_favourite 48 = .ok (.iconst 0, 1) := by decide +kernel
theorem dX11_favourite_49 : decode cX11_favourite 49 = .ok (.aaload, 1) := by decide +kernel
theorem dX11_favourite_50 : decode cX11_favourite 50 = .ok (.sipush 2002, 3) := by decide +kernel
theorem dX11_favourite_53 : decode cX11_favourite 53 = .ok (.iaload, 1) := by decide +kernel
theorem dX11_favourite_54 : decode cX11_favourite 54 = .ok (.if_icmp .ge 43, 3) := by decide +kernel
theorem dX11_favourite_57 : decode cX11_favourite 57 = .ok (.iload 5, 2) := by decide +kernel
theorem dX11_favourite_59 : decode cX11_favourite 59 = .ok (.aload_n 0, 1) := by decide +kernel
theorem dX11_favourite_60 : decode cX11_favourite 60 = .ok (.getfield 19, 3) := by decide +kernel
theorem dX11_favourite_63 : decode cX11_favourite 63 = .ok (.iconst 0, 1) := by decide +kernel
theorem dX11_favourite_64 : decode cX11_favourite 64 = .ok (.aaload, 1) := by decide +kernel
theorem dX11_favourite_65 : decode cX11_favourite 65 = .ok (.sipush 2003, 3) := by decide +kernel
theorem dX11_favourite_68 : decode cX11_favourite 68 = .ok (.bipush 9, 2) := by decide +kernel
theorem dX11_favourite_70 : decode cX11_favourite 70 = .ok (.iload 6, 2) := by decide +kernel
theorem dX11_favourite_72 : decode cX11_favourite 72 = .ok (.imul, 1) := by decide +kernel
theorem dX11_favourite_73 : decode cX11_favourite 73 = .ok (.iadd, 1) := by decide +kernel
theorem dX11_favourite_74 : decode cX11_favourite 74 = .ok (.bipush 7, 2) := by decide +kernel
theorem dX11_favourite_76 : decode cX11_favourite 76 = .ok (.iadd, 1) := by decide +kernel
theorem dX11_favourite_77 : decode cX11_favourite 77 = .ok (.iaload, 1) := by decide +kernel
theorem dX11_favourite_78 : decode cX11_favourite 78 = .ok (.iload 4, 2) := by decide +kernel
theorem dX11_favourite_80 : decode cX11_favourite 80 = .ok (.if_icmp .ne 7, 3) := by decide +kernel
theorem dX11_favourite_83 : decode cX11_favourite 83 = .ok (.iconst 1, 1) := by decide +kernel
theorem dX11_favourite_84 : decode cX11_favourite 84 = .ok (.goto 4, 3) := by decide +kernel
theorem dX11_favourite_87 : decode cX11_favourite 87 = .ok (.iconst 0, 1) := by decide +kernel
theorem dX11_favourite_88 : decode cX11_favourite 88 = .ok (.iadd, 1) := by decide +kernel
theorem dX11_favourite_89 : decode cX11_favourite 89 = .ok (.istore 5, 2) := by decide +kernel
theorem dX11_favourite_91 : decode cX11_favourite 91 = .ok (.iinc 6 1, 3) := by decide +kernel
theorem dX11_favourite_94 : decode cX11_favourite 94 = .ok (.goto (-52), 3) := by decide +kernel
theorem dX11_favourite_97 : decode cX11_favourite 97 = .ok (.iload 5, 2) := by decide +kernel
theorem dX11_favourite_99 : decode cX11_favourite 99 = .ok (.iload_n 3, 1) := by decide +kernel
theorem dX11_favourite_100 : decode cX11_favourite 100 = .ok (.if_icmp .gt 6, 3) := by decide +kernel
theorem dX11_favourite_103 : decode cX11_favourite 103 = .ok (.goto 9, 3) := by decide +kernel
theorem dX11_favourite_106 : decode cX11_favourite 106 = .ok (.iload 4, 2) := by decide +kernel
theorem dX11_favourite_108 : decode cX11_favourite 108 = .ok (.istore_n 2, 1) := by decide +kernel
theorem dX11_favourite_109 : decode cX11_favourite 109 = .ok (.iload 5, 2) := by decide +kernel
theorem dX11_favourite_111 : decode cX11_favourite 111 = .ok (.istore_n 3, 1) := by decide +kernel
theorem dX11_favourite_112 : decode cX11_favourite 112 = .ok (.iinc 4 1, 3) := by decide +kernel
theorem dX11_favourite_115 : decode cX11_favourite 115 = .ok (.goto (-86), 3) := by decide +kernel
theorem dX11_favourite_118 : decode cX11_favourite 118 = .ok (.iload_n 1, 1) := by decide +kernel
theorem dX11_favourite_119 : decode cX11_favourite 119 = .ok (.ifCond .ne 7, 3) := by decide +kernel
theorem dX11_favourite_122 : decode cX11_favourite 122 = .ok (.iload_n 2, 1) := by decide +kernel
theorem dX11_favourite_123 : decode cX11_favourite 123 = .ok (.goto 4, 3) := by decide +kernel
theorem dX11_favourite_126 : decode cX11_favourite 126 = .ok (.iload_n 3, 1) := by decide +kernel
theorem dX11_favourite_127 : decode cX11_favourite 127 = .ok (.ireturn, 1) := by decide +kernel
set_option maxHeartbeats 4000000 in
set_option maxRecDepth 100000 in
theorem tX11_favourite {l : Launch} {g : yG} {n : Nat} {σ : yM} (hn : 172 ≤ n) (w h : Int) (T S F P O : Int → Int → Int) (nf df nl : Int) (lg : Int → Int → Int) (s re fo ra tu we sh : Int) (H : List aX) (ht : Bool) (K : Int → Int → Int) (tl : Int) (tb : Int → Int) (fa r1 r2 N : Int) (hV : mV σ (w, h, (T, S, F, P, O, nf, df, nl, lg), (s, re, fo, ra, tu, we, sh), H, ht, K, tl, tb, fa, r1, r2)) (hW : aW N (w, h, (T, S, F, P, O, nf, df, nl, lg), (s, re, fo, ra, tu, we, sh), H, ht, K, tl, tb, fa, r1, r2)) (a : Int) (ha : -2147483648 ≤ a ∧ a < 2147483648) : yMet l g yX11_favourite cX11_favourite 7 (some .int) (rmL 2) [yR g 155, yI a] (SC g) n σ (SC g) (yPi (fun zv n' σ' => n ≤ n' ∧ (((a = 0 ∨ a = 1) ∧ zv = (if a = 0 then (fvQ nl lg).1 else (fvQ nl lg).2) ∧ mO σ σ' (w, h, (T, S, F, P, O, nf, df, nl, lg), (s, re, fo, ra, tu, we, sh), H, ht, K, tl, tb, fa, r1, r2) 0) ∨ (¬ (a = 0 ∨ a = 1) ∧ mO σ σ' (bA (w, h, (T, S, F, P, O, nf, df, nl, lg), (s, re, fo, ra, tu, we, sh), H, ht, K, tl, tb, fa, r1, r2)) 1)))) := by
  obtain ⟨⟨hA, hL⟩, hS, hH, ⟨hb1, hb2⟩, ⟨ht1, ht2⟩, hfa, hr1, hr2⟩ := id hV
  obtain ⟨hw1, hw2, hw3, hw4⟩ := id hA.1.1
  obtain ⟨hs1, hs2, hs3, hs4, hs5, hs6, hs7⟩ := id hS.2
  have hz : (0 : Nat) < 3 := by omega
  refine y_start (by decide) (Nat.le_of_ble_eq_true rfl) (fun X0 hF => ?_)
  show yV X0 g 7 (yQ X0 g (SC g) (yPi (fun zv n' σ' => n ≤ n' ∧ (((a = 0 ∨ a = 1) ∧ zv = (if a = 0 then (fvQ nl lg).1 else (fvQ nl lg).2) ∧ mO σ σ' (w, h, (T, S, F, P, O, nf, df, nl, lg), (s, re, fo, ra, tu, we, sh), H, ht, K, tl, tb, fa, r1, r2) 0) ∨ (¬ (a = 0 ∨ a = 1) ∧ mO σ σ' (bA (w, h, (T, S, F, P, O, nf, df, nl, lg), (s, re, fo, ra, tu, we, sh), H, ht, K, tl, tb, fa, r1, r2)) 1)))) (rmL 2)) (SC g) n σ 0 0 0 [(0, yR g 155), (1, yI a)] []
  refine y_aload_n (pc := 0) hF dX11_favourite_0 0 rfl ?_
  refine y_iconst (pc := 1) hF dX11_favourite_1 ?_
  refine y_putf (pc := 2) (ci := 11) (σ' := yset σ 155 0 0) (sch' := (SC g)) hF dX11_favourite_2 (by omega) rfl rfl rfl iX11 0 (by decide) w_1247 tyX11 tyX11_ok nmX11 rfl rfl rfl rfl (Nat.le_of_ble_eq_true rfl) rfl (y_ps rfl) (fun k' h => ⟨yset_n h, rfl⟩) ?_
  obtain ⟨σ0, hσ0⟩ : ∃ s, s = yset σ 155 0 0 := ⟨_, rfl⟩
  rw [← hσ0]
  have zO_σ0 := hV.t0 hσ0
  obtain ⟨⟨zA_σ0, zL_σ0⟩, zS_σ0, zH_σ0, ⟨zb1_σ0, zb2_σ0⟩, ⟨zt1_σ0, zt2_σ0⟩, zfa_σ0, zr1_σ0, zr2_σ0⟩ := id zO_σ0.2.2
  refine y_aload_n (pc := 5) hF dX11_favourite_5 0 rfl ?_
  refine y_iload_n (pc := 6) hF dX11_favourite_6 1 rfl ?_
  refine y_iconst (pc := 7) hF dX11_favourite_7 ?_
  refine y_iconst (pc := 8) hF dX11_favourite_8 ?_
  have zz9 := y_rS (pc := 9) (As := [yI a, yI 0, yI 1]) (kk := 0) hF (tX11_within (n := n) (σ := σ0) a 0 1 (by omega) (by omega) (by omega)) dX11_favourite_9 w_1392 qX11_within rfl ⟨Nat.le_of_ble_eq_true rfl, Nat.le_of_ble_eq_true rfl⟩ ⟨Nat.zero_le _, Nat.zero_le _⟩ (Nat.le_of_ble_eq_true rfl) rfl (rest := [yR g 155]) (cells := 0) (slots := 0) (lv := [(0, yR g 155), (1, yI a)])
  refine y_cp (zz9) ?_
  refine y_iconst (pc := 12) hF dX11_favourite_12 ?_
  refine y_iconst (pc := 13) hF dX11_favourite_13 ?_
  refine y_ci (y_rV (pc := 14) hF (tX11_isFine hn zO_σ0.2.1 (decide (0 ≤ a) && decide (a ≤ 1)) 1 1 (by decide) (by decide)) dX11_favourite_14 (by omega) rfl rfl rfl w_1395 qX11_isFine rfl ⟨Nat.le_of_ble_eq_true rfl, Nat.le_of_ble_eq_true rfl⟩ ⟨Nat.zero_le _, Nat.zero_le _⟩ (Nat.le_of_ble_eq_true rfl) rfl) rfl rfl (fun r14 n' σ14 zp14 => ?_)
  obtain ⟨zn14, zp14⟩ := zp14
  have zn14 := zn14.symm
  subst zn14
  rcases zp14 with ⟨zb14, zv14, zs14⟩ | ⟨zb14, zv14, zs14⟩
  · subst zv14; have zs14 := zs14.symm; subst zs14
    refine y_if_ne (pc := 17) hF dX11_favourite_17 22 rfl (by decide) (fun _ => ?_) (fun zc17 => absurd zc17 (by decide))
    simp at zb14
    have znl := zL_σ0.2.2.2.2.1
    refine y_iconst (pc := 22) hF dX11_favourite_22 ?_
    refine y_istore_n (pc := 23) (lv' := [(0, yR g 155), (1, yI a), (2, yI (-1))]) hF dX11_favourite_23 (by decide) rfl rfl ?_
    refine y_iconst (pc := 24) hF dX11_favourite_24 ?_
    refine y_istore_n (pc := 25) (lv' := [(0, yR g 155), (1, yI a), (2, yI (-1)), (3, yI 0)]) hF dX11_favourite_25 (by decide) rfl rfl ?_
    refine y_iconst (pc := 26) hF dX11_favourite_26 ?_
    refine y_istore (pc := 27) (lv' := [(0, yR g 155), (1, yI a), (2, yI (-1)), (3, yI 0), (4, yI 0)]) hF dX11_favourite_27 (by decide) rfl rfl ?_
    have zL29 : ∀ (N : Nat) (way b m : Int), N = (8 - way).toNat → ((0 ≤ way ∧ way ≤ 8) ∧ (0 ≤ m ∧ m ≤ 30) ∧ (b, m) = fr (fvF nl lg) 0 way.toNat (-1, 0)) → yV X0 g 7 (yQ X0 g (SC g) (yPi (fun zv n' σ' => n ≤ n' ∧ (((a = 0 ∨ a = 1) ∧ zv = (if a = 0 then (fvQ nl lg).1 else (fvQ nl lg).2) ∧ mO σ σ' (w, h, (T, S, F, P, O, nf, df, nl, lg), (s, re, fo, ra, tu, we, sh), H, ht, K, tl, tb, fa, r1, r2) 0) ∨ (¬ (a = 0 ∨ a = 1) ∧ mO σ σ' (bA (w, h, (T, S, F, P, O, nf, df, nl, lg), (s, re, fo, ra, tu, we, sh), H, ht, K, tl, tb, fa, r1, r2)) 1)))) (rmL 2)) (SC g) n σ0 0 0 29 [(0, yR g 155), (1, yI a), (2, yI b), (3, yI m), (4, yI way)] [] := by
      intro N
      induction N using Nat.strongRecOn with
      | ind N zh29 =>
        intro way b m  zN29 zI29
        refine y_iload (pc := 29) hF dX11_favourite_29 4 rfl ?_
        refine y_bipush (pc := 31) hF dX11_favourite_31 (by decide) ?_
        refine y_icmp_ge (pc := 33) hF dX11_favourite_33 118 rfl (by omega) (by omega) (fun zc33 => ?_) (fun zc33 => ?_)
        · skip
          refine y_iload_n (pc := 118) hF dX11_favourite_118 1 rfl ?_
          refine y_if_ne (pc := 119) hF dX11_favourite_119 126 rfl (by omega) (fun zc119 => ?_) (fun zc119 => ?_)
          · skip
            refine y_iload_n (pc := 126) hF dX11_favourite_126 3 rfl ?_
            exact y_iret (pc := 127) hF dX11_favourite_127 (Nat.zero_le _) (Nat.zero_le _) ⟨_, rfl, Nat.le_refl _, Or.inl ⟨(by omega), (by rw [show fvQ nl lg = (b, m) by rw [zI29.2.2]; unfold fvQ; rw [show way.toNat = 8 by omega]]; rw [if_neg zc119]), zO_σ0⟩⟩
          · skip
            refine y_iload_n (pc := 122) hF dX11_favourite_122 2 rfl ?_
            refine y_goto (pc := 123) hF dX11_favourite_123 127 rfl ?_
            exact y_iret (pc := 127) hF dX11_favourite_127 (Nat.zero_le _) (Nat.zero_le _) ⟨_, rfl, Nat.le_refl _, Or.inl ⟨(by omega), (by rw [show fvQ nl lg = (b, m) by rw [zI29.2.2]; unfold fvQ; rw [show way.toNat = 8 by omega]]; rw [if_pos zc119]), zO_σ0⟩⟩
        · skip
          refine y_iconst (pc := 36) hF dX11_favourite_36 ?_
          refine y_istore (pc := 37) (lv' := [(0, yR g 155), (1, yI a), (2, yI b), (3, yI m), (4, yI way), (5, yI 0)]) hF dX11_favourite_37 (by decide) rfl rfl ?_
          refine y_iconst (pc := 39) hF dX11_favourite_39 ?_
          refine y_istore (pc := 40) (lv' := [(0, yR g 155), (1, yI a), (2, yI b), (3, yI m), (4, yI way), (5, yI 0), (6, yI 0)]) hF dX11_favourite_40 (by decide) rfl rfl ?_
          have zL42 : ∀ (N : Nat) (k c2 : Int), N = (nl - k).toNat → ((0 ≤ k ∧ k ≤ nl) ∧ c2 = fr (fun q i => q + bi (decide (lg i 7 = way))) 0 k.toNat 0) → yV X0 g 7 (yQ X0 g (SC g) (yPi (fun zv n' σ' => n ≤ n' ∧ (((a = 0 ∨ a = 1) ∧ zv = (if a = 0 then (fvQ nl lg).1 else (fvQ nl lg).2) ∧ mO σ σ' (w, h, (T, S, F, P, O, nf, df, nl, lg), (s, re, fo, ra, tu, we, sh), H, ht, K, tl, tb, fa, r1, r2) 0) ∨ (¬ (a = 0 ∨ a = 1) ∧ mO σ σ' (bA (w, h, (T, S, F, P, O, nf, df, nl, lg), (s, re, fo, ra, tu, we, sh), H, ht, K, tl, tb, fa, r1, r2)) 1)))) (rmL 2)) (SC g) n σ0 0 0 42 [(0, yR g 155), (1, yI a), (2, yI b), (3, yI m), (4, yI way), (5, yI c2), (6, yI k)] [] := by
            intro N
            induction N using Nat.strongRecOn with
            | ind N zh42 =>
              intro k c2  zN42 zI42
              have zcb := sWy_bd (nl := k) (lg := lg) (way := way) zI42.1.1
              have zcb2 : 0 ≤ c2 ∧ c2 ≤ k := by rw [zI42.2]; exact zcb
              refine y_iload (pc := 42) hF dX11_favourite_42 6 rfl ?_
              refine y_aload_n (pc := 44) hF dX11_favourite_44 0 rfl ?_
              refine y_get (pc := 45) (ci := 11) hF dX11_favourite_45 (by omega) rfl rfl rfl iX11 2 (by decide) w_1249 rfl ?_
              refine y_iconst (pc := 48) hF dX11_favourite_48 ?_
              refine y_aaM0 (pc := 49) hF dX11_favourite_49 hn rfl ?_
              refine y_sipush (pc := 50) hF dX11_favourite_50 (by decide) ?_
              refine y_iaload (pc := 53) hF dX11_favourite_53 (by omega) rfl (by omega) (by decide) ?_
              rw [show σ0 158 2002 = nl from zL_σ0.2.2.1]
              refine y_icmp_ge (pc := 54) hF dX11_favourite_54 97 rfl (by omega) (by omega) (fun zc54 => ?_) (fun zc54 => ?_)
              · skip
                have zwy : c2 = sWy nl lg way := by rw [zI42.2]; unfold sWy; rw [show k.toNat = nl.toNat by omega]
                refine y_iload (pc := 97) hF dX11_favourite_97 5 rfl ?_
                refine y_iload_n (pc := 99) hF dX11_favourite_99 3 rfl ?_
                refine y_icmp_gt (pc := 100) hF dX11_favourite_100 106 rfl (by omega) (by omega) (fun zc100 => ?_) (fun zc100 => ?_)
                · skip
                  refine y_iload (pc := 106) hF dX11_favourite_106 4 rfl ?_
                  refine y_istore_n (pc := 108) (lv' := [(0, yR g 155), (1, yI a), (2, yI way), (3, yI m), (4, yI way), (5, yI c2), (6, yI k)]) hF dX11_favourite_108 (by decide) rfl rfl ?_
                  refine y_iload (pc := 109) hF dX11_favourite_109 5 rfl ?_
                  refine y_istore_n (pc := 111) (lv' := [(0, yR g 155), (1, yI a), (2, yI way), (3, yI c2), (4, yI way), (5, yI c2), (6, yI k)]) hF dX11_favourite_111 (by decide) rfl rfl ?_
                  refine y_iinc (pc := 112) (lv' := [(0, yR g 155), (1, yI a), (2, yI way), (3, yI c2), (4, yI (way + 1)), (5, yI c2), (6, yI k)]) hF dX11_favourite_112 4 rfl (by decide) rfl rfl ?_
                  refine y_goto (pc := 115) hF dX11_favourite_115 29 rfl ?_
                  refine y_sub [0, 1, 2, 3, 4] rfl ?_
                  exact zh29 _ (by omega) (way + 1) (way) (c2) rfl ⟨by omega, by omega, by rw [fr_up _ _ _ _ zI29.1.1, ← zI29.2.2, Int.zero_add]; unfold fvF; simp only; rw [if_pos (by omega), ← zwy]⟩
                · skip
                  refine y_goto (pc := 103) hF dX11_favourite_103 112 rfl ?_
                  refine y_iinc (pc := 112) (lv' := [(0, yR g 155), (1, yI a), (2, yI b), (3, yI m), (4, yI (way + 1)), (5, yI c2), (6, yI k)]) hF dX11_favourite_112 4 rfl (by decide) rfl rfl ?_
                  refine y_goto (pc := 115) hF dX11_favourite_115 29 rfl ?_
                  refine y_sub [0, 1, 2, 3, 4] rfl ?_
                  exact zh29 _ (by omega) (way + 1) (b) (m) rfl ⟨by omega, by omega, by rw [fr_up _ _ _ _ zI29.1.1, ← zI29.2.2, Int.zero_add]; unfold fvF; simp only; rw [if_neg (by omega)]⟩
              · skip
                have zlg := zL_σ0.2.2.2.2.2 k 7 (by omega) (by omega) (by omega) (by omega)
                have zl7 : 0 ≤ lg k 7 ∧ lg k 7 ≤ 7 := hW.1.2 k (by omega) (by show k < nl; omega)
                refine y_iload (pc := 57) hF dX11_favourite_57 5 rfl ?_
                refine y_aload_n (pc := 59) hF dX11_favourite_59 0 rfl ?_
                refine y_get (pc := 60) (ci := 11) hF dX11_favourite_60 (by omega) rfl rfl rfl iX11 2 (by decide) w_1249 rfl ?_
                refine y_iconst (pc := 63) hF dX11_favourite_63 ?_
                refine y_aaM0 (pc := 64) hF dX11_favourite_64 hn rfl ?_
                refine y_sipush (pc := 65) hF dX11_favourite_65 (by decide) ?_
                refine y_bipush (pc := 68) hF dX11_favourite_68 (by decide) ?_
                refine y_iload (pc := 70) hF dX11_favourite_70 6 rfl ?_
                refine y_imul (pc := 72) hF dX11_favourite_72 ?_
                refine y_iadd (pc := 73) hF dX11_favourite_73 ?_
                refine y_bipush (pc := 74) hF dX11_favourite_74 (by decide) ?_
                refine y_iadd (pc := 76) hF dX11_favourite_76 ?_
                refine y_iaload (pc := 77) hF dX11_favourite_77 (by omega) rfl ⟨by omega, by show _ < (2273 : Int); omega⟩ (by decide) ?_
                rw [show σ0 158 ((2003 + (9 * k)) + 7) = lg k 7 from (by rw [show 2003 + 9 * k + 7 = 2003 + (9 * k + 7) by omega]; exact zlg)]
                refine y_iload (pc := 78) hF dX11_favourite_78 4 rfl ?_
                refine y_t_icmp_ne (pc := 80) hF dX11_favourite_80 dX11_favourite_83 dX11_favourite_84 dX11_favourite_87 (by omega) (by omega) ?_
                rw [show (if (lg k 7) ≠ way then 0 else 1) = bi (decide (lg k 7 = way)) from (by by_cases zq : lg k 7 = way; (rw [if_neg (by omega), show decide (lg k 7 = way) = true by simpa using zq]; rfl); (rw [if_pos zq, show decide (lg k 7 = way) = false by simpa using zq]; rfl))]
                refine y_iadd (pc := 88) hF dX11_favourite_88 ?_
                refine y_istore (pc := 89) (lv' := [(0, yR g 155), (1, yI a), (2, yI b), (3, yI m), (4, yI way), (5, yI (c2 + (bi (decide (lg k 7 = way))))), (6, yI k)]) hF dX11_favourite_89 (by decide) rfl rfl ?_
                refine y_iinc (pc := 91) (lv' := [(0, yR g 155), (1, yI a), (2, yI b), (3, yI m), (4, yI way), (5, yI (c2 + (bi (decide (lg k 7 = way))))), (6, yI (k + 1))]) hF dX11_favourite_91 6 rfl (by decide) rfl rfl ?_
                refine y_goto (pc := 94) hF dX11_favourite_94 42 rfl ?_
                exact zh42 _ (by omega) (k + 1) (c2 + (bi (decide (lg k 7 = way)))) rfl ⟨by omega, by rw [fr_up _ _ _ _ zI42.1.1, ← zI42.2, Int.zero_add]⟩
          exact zL42 _ (0) (0) rfl ⟨by omega, rfl⟩
    exact zL29 _ (0) (-1) (0) rfl ⟨by omega, by omega, rfl⟩
  · subst zv14; subst zs14
    refine y_if_ne (pc := 17) hF dX11_favourite_17 22 rfl (by decide) (fun zc17 => absurd zc17 (by decide)) (fun _ => ?_)
    refine y_iconst (pc := 20) hF dX11_favourite_20 ?_
    exact y_iret (pc := 21) hF dX11_favourite_21 (Nat.zero_le _) (Nat.zero_le _) ⟨_, rfl, Nat.le_refl _, Or.inr ⟨(fun ze => by simp at zb14; omega), zO_σ0.bA 1⟩⟩

theorem dX11_seams_0 : decode cX11_seams 0 = .ok (.aload_n 0, 1) := by decide +kernel
theorem dX11_seams_1 : decode cX11_seams 1 = .ok (.iconst 0, 1) := by decide +kernel
theorem dX11_seams_2 : decode cX11_seams 2 = .ok (.putfield 1, 3) := by decide +kernel
theorem dX11_seams_5 : decode cX11_seams 5 = .ok (.aload_n 0, 1) := by decide +kernel
theorem dX11_seams_6 : decode cX11_seams 6 = .ok (.iload_n 1, 1) := by decide +kernel
theorem dX11_seams_7 : decode cX11_seams 7 = .ok (.iconst 0, 1) := by decide +kernel
theorem dX11_seams_8 : decode cX11_seams 8 = .ok (.iconst 2, 1) := by decide +kernel
theorem dX11_seams_9 : decode cX11_seams 9 = .ok (.invokestatic 68, 3) := by decide +kernel
theorem dX11_seams_12 : decode cX11_seams 12 = .ok (.iconst 1, 1) := by decide +kernel
theorem dX11_seams_13 : decode cX11_seams 13 = .ok (.iconst 1, 1) := by decide +kernel
theorem dX11_seams_14 : decode cX11_seams 14 = .ok (.invokevirtual 284, 3) := by decide +kernel
theorem dX11_seams_17 : decode cX11_seams 17 = .ok (.ifCond .ne 5, 3) := by decide +kernel
theorem dX11_seams_20 : decode cX11_seams 20 = .ok (.iconst 0, 1) := by decide +kernel
theorem dX11_seams_21 : decode cX11_seams 21 = .ok (.ireturn, 1) := by decide +kernel
theorem dX11_seams_22 : decode cX11_seams 22 = .ok (.aload_n 0, 1) := by decide +kernel
theorem dX11_seams_23 : decode cX11_seams 23 = .ok (.iconst 0, 1) := by decide +kernel
theorem dX11_seams_24 : decode cX11_seams 24 = .ok (.putfield 364, 3) := by decide +kernel
theorem dX11_seams_27 : decode cX11_seams 27 = .ok (.aload_n 0, 1) := by decide +kernel
theorem dX11_seams_28 : decode cX11_seams 28 = .ok (.iconst 0, 1) := by decide +kernel
theorem dX11_seams_29 : decode cX11_seams 29 = .ok (.putfield 367, 3) := by decide +kernel
theorem dX11_seams_32 : decode cX11_seams 32 = .ok (.aload_n 0, 1) := by decide +kernel
theorem dX11_seams_33 : decode cX11_seams 33 = .ok (.iconst 0, 1) := by decide +kernel
theorem dX11_seams_34 : decode cX11_seams 34 = .ok (.putfield 370, 3) := by decide +kernel
theorem dX11_seams_37 : decode cX11_seams 37 = .ok (.iconst 0, 1) := by decide +kernel
theorem dX11_seams_38 : decode cX11_seams 38 = .ok (.istore_n 2, 1) := by decide +kernel
theorem dX11_seams_39 : decode cX11_seams 39 = .ok (.iload_n 2, 1) := by decide +kernel
theorem dX11_seams_40 : decode cX11_seams 40 = .ok (.aload_n 0, 1) := by decide +kernel
theorem dX11_seams_41 : decode cX11_seams 41 = .ok (.getfield 25, 3) := by decide +kernel
theorem dX11_seams_44 : decode cX11_seams 44 = .ok (.iconst 0, 1) := by decide +kernel
theorem dX11_seams_45 : decode cX11_seams 45 = .ok (.iaload, 1) := by decide +kernel
theorem dX11_seams_46 : decode cX11_seams 46 = .ok (.if_icmp .ge 47, 3) := by decide +kernel
theorem dX11_seams_49 : decode cX11_seams 49 = .ok (.iconst 0, 1) := by decide +kernel
theorem dX11_seams_50 : decode cX11_seams 50 = .ok (.istore_n 3, 1) := by decide +kernel
theorem dX11_seams_51 : decode cX11_seams 51 = .ok (.iload_n 3, 1) := by decide +kernel
theorem dX11_seams_52 : decode cX11_seams 52 = .ok (.aload_n 0, 1) := by decide +kernel
theorem dX11_seams_53 : decode cX11_seams 53 = .ok (.getfield 22, 3) := by decide +kernel
theorem dX11_seams_56 : decode cX11_seams 56 = .ok (.iconst 0, 1) := by decide +kernel
theorem dX11_seams_57 : decode cX11_seams 57 = .ok (.iaload, 1) := by decide +kernel
theorem dX11_seams_58 : decode cX11_seams 58 = .ok (.if_icmp .ge 29, 3) := by decide +kernel
theorem dX11_seams_61 : decode cX11_seams 61 = .ok (.aload_n 0, 1) := by decide +kernel
theorem dX11_seams_62 : decode cX11_seams 62 = .ok (.iload_n 3, 1) := by decide +kernel
theorem dX11_seams_63 : decode cX11_seams 63 = .ok (.iload_n 2, 1) := by decide +kernel
theorem dX11_seams_64 : decode cX11_seams 64 = .ok (.iload_n 3, 1) := by decide +kernel
theorem dX11_seams_65 : decode cX11_seams 65 = .ok (.iconst 1, 1) := by decide +kernel
theorem dX11_seams_66 : decode cX11_seams 66 = .ok (.iadd, 1) := by decide +kernel
theorem dX11_seams_67 : decode cX11_seams 67 = .ok (.iload_n 2, 1) := by decide +kernel
theorem dX11_seams_68 : decode cX11_seams 68 = .ok (.invokevirtual 373, 3) := by decide +kernel
theorem dX11_seams_71 : decode cX11_seams 71 = .ok (.aload_n 0, 1) := by decide +kernel
theorem dX11_seams_72 : decode cX11_seams 72 = .ok (.iload_n 3, 1) := by decide +kernel
theorem dX11_seams_73 : decode cX11_seams 73 = .ok (.iload_n 2, 1) := by decide +kernel
theorem dX11_seams_74 : decode cX11_seams 74 = .ok (.iload_n 3, 1) := by decide +kernel
theorem dX11_seams_75 : decode cX11_seams 75 = .ok (.iload_n 2, 1) := by decide +kernel
theorem dX11_seams_76 : decode cX11_seams 76 = .ok (.iconst 1, 1) := by decide +kernel
theorem dX11_seams_77 : decode cX11_seams 77 = .ok (.iadd, 1) := by decide +kernel
theorem dX11_seams_78 : decode cX11_seams 78 = .ok (.invokevirtual 373, 3) := by decide +kernel
theorem dX11_seams_81 : decode cX11_seams 81 = .ok (.iinc 3 1, 3) := by decide +kernel
theorem dX11_seams_84 : decode cX11_seams 84 = .ok (.goto (-33), 3) := by decide +kernel
theorem dX11_seams_87 : decode cX11_seams 87 = .ok (.iinc 2 1, 3) := by decide +kernel
theorem dX11_seams_90 : decode cX11_seams 90 = .ok (.goto (-51), 3) := by decide +kernel
theorem dX11_seams_93 : decode cX11_seams 93 = .ok (.iload_n 1, 1) := by decide +kernel
theorem dX11_seams_94 : decode cX11_seams 94 = .ok (.ifCond .ne 10, 3) := by decide +kernel
theorem dX11_seams_97 : decode cX11_seams 97 = .ok (.aload_n 0, 1) := by decide +kernel
theorem dX11_seams_98 : decode cX11_seams 98 = .ok (.getfield 364, 3) := by decide +kernel
theorem dX11_seams_101 : decode cX11_seams 101 = .ok (.goto 19, 3) := by decide +kernel
theorem dX11_seams_104 : decode cX11_seams 104 = .ok (.iload_n 1, 1) := by decide +kernel
theorem dX11_seams_105 : decode cX11_seams 105 = .ok (.iconst 1, 1) := by decide +kernel
theorem dX11_seams_106 : decode cX11_seams 106 = .ok (.if_icmp .ne 10, 3) := by decide +kernel
theorem dX11_seams_109 : decode cX11_seams 109 = .ok (.aload_n 0, 1) := by decide +kernel
theorem dX11_seams_110 : decode cX11_seams 110 = .ok (.getfield 367, 3) := by decide +kernel
theorem dX11_seams_113 : decode cX11_seams 113 = .ok (.goto 7, 3) := by decide +kernel
theorem dX11_seams_116 : decode cX11_seams 116 = .ok (.aload_n 0, 1) := by decide +kernel
theorem dX11_seams_117 : decode cX11_seams 117 = .ok (.getfield 370, 3) := by decide +kernel
theorem dX11_seams_120 : decode cX11_seams 120 = .ok (.ireturn, 1) := by decide +kernel
set_option maxHeartbeats 4000000 in
set_option maxRecDepth 100000 in
theorem tX11_seams {l : Launch} {g : yG} {n : Nat} {σ : yM} (hn : 172 ≤ n) (w h : Int) (T S F P O : Int → Int → Int) (nf df nl : Int) (lg : Int → Int → Int) (s re fo ra tu we sh : Int) (H : List aX) (ht : Bool) (K : Int → Int → Int) (tl : Int) (tb : Int → Int) (fa r1 r2 N : Int) (hV : mV σ (w, h, (T, S, F, P, O, nf, df, nl, lg), (s, re, fo, ra, tu, we, sh), H, ht, K, tl, tb, fa, r1, r2)) (hW : aW N (w, h, (T, S, F, P, O, nf, df, nl, lg), (s, re, fo, ra, tu, we, sh), H, ht, K, tl, tb, fa, r1, r2)) (a : Int) (ha : -2147483648 ≤ a ∧ a < 2147483648) : yMet l g yX11_seams cX11_seams 4 (some .int) (rmL 5) [yR g 155, yI a] (SC g) n σ (SC g) (yPi (fun zv n' σ' => n ≤ n' ∧ (((0 ≤ a ∧ a ≤ 2) ∧ zv = smV w h T F a ∧ mO σ σ' (w, h, (T, S, F, P, O, nf, df, nl, lg), (s, re, fo, ra, tu, we, sh), H, ht, K, tl, tb, fa, r1, r2) 0) ∨ (¬ (0 ≤ a ∧ a ≤ 2) ∧ mO σ σ' (bA (w, h, (T, S, F, P, O, nf, df, nl, lg), (s, re, fo, ra, tu, we, sh), H, ht, K, tl, tb, fa, r1, r2)) 1)))) := by
  obtain ⟨⟨hA, hL⟩, hS, hH, ⟨hb1, hb2⟩, ⟨ht1, ht2⟩, hfa, hr1, hr2⟩ := id hV
  obtain ⟨hw1, hw2, hw3, hw4⟩ := id hA.1.1
  obtain ⟨hs1, hs2, hs3, hs4, hs5, hs6, hs7⟩ := id hS.2
  have hz : (0 : Nat) < 3 := by omega
  refine y_start (by decide) (Nat.le_of_ble_eq_true rfl) (fun X0 hF => ?_)
  show yV X0 g 4 (yQ X0 g (SC g) (yPi (fun zv n' σ' => n ≤ n' ∧ (((0 ≤ a ∧ a ≤ 2) ∧ zv = smV w h T F a ∧ mO σ σ' (w, h, (T, S, F, P, O, nf, df, nl, lg), (s, re, fo, ra, tu, we, sh), H, ht, K, tl, tb, fa, r1, r2) 0) ∨ (¬ (0 ≤ a ∧ a ≤ 2) ∧ mO σ σ' (bA (w, h, (T, S, F, P, O, nf, df, nl, lg), (s, re, fo, ra, tu, we, sh), H, ht, K, tl, tb, fa, r1, r2)) 1)))) (rmL 5)) (SC g) n σ 0 0 0 [(0, yR g 155), (1, yI a)] []
  refine y_aload_n (pc := 0) hF dX11_seams_0 0 rfl ?_
  refine y_iconst (pc := 1) hF dX11_seams_1 ?_
  refine y_putf (pc := 2) (ci := 11) (σ' := yset σ 155 0 0) (sch' := (SC g)) hF dX11_seams_2 (by omega) rfl rfl rfl iX11 0 (by decide) w_1247 tyX11 tyX11_ok nmX11 rfl rfl rfl rfl (Nat.le_of_ble_eq_true rfl) rfl (y_ps rfl) (fun k' h => ⟨yset_n h, rfl⟩) ?_
  obtain ⟨σ0, hσ0⟩ : ∃ s, s = yset σ 155 0 0 := ⟨_, rfl⟩
  rw [← hσ0]
  have zO_σ0 := hV.t0 hσ0
  obtain ⟨⟨zA_σ0, zL_σ0⟩, zS_σ0, zH_σ0, ⟨zb1_σ0, zb2_σ0⟩, ⟨zt1_σ0, zt2_σ0⟩, zfa_σ0, zr1_σ0, zr2_σ0⟩ := id zO_σ0.2.2
  refine y_aload_n (pc := 5) hF dX11_seams_5 0 rfl ?_
  refine y_iload_n (pc := 6) hF dX11_seams_6 1 rfl ?_
  refine y_iconst (pc := 7) hF dX11_seams_7 ?_
  refine y_iconst (pc := 8) hF dX11_seams_8 ?_
  have zz9 := y_rS (pc := 9) (As := [yI a, yI 0, yI 2]) (kk := 0) hF (tX11_within (n := n) (σ := σ0) a 0 2 (by omega) (by omega) (by omega)) dX11_seams_9 w_1392 qX11_within rfl ⟨Nat.le_of_ble_eq_true rfl, Nat.le_of_ble_eq_true rfl⟩ ⟨Nat.zero_le _, Nat.zero_le _⟩ (Nat.le_of_ble_eq_true rfl) rfl (rest := [yR g 155]) (cells := 0) (slots := 0) (lv := [(0, yR g 155), (1, yI a)])
  refine y_cp (zz9) ?_
  refine y_iconst (pc := 12) hF dX11_seams_12 ?_
  refine y_iconst (pc := 13) hF dX11_seams_13 ?_
  refine y_ci (y_rV (pc := 14) hF (tX11_isFine hn zO_σ0.2.1 (decide (0 ≤ a) && decide (a ≤ 2)) 1 1 (by decide) (by decide)) dX11_seams_14 (by omega) rfl rfl rfl w_1395 qX11_isFine rfl ⟨Nat.le_of_ble_eq_true rfl, Nat.le_of_ble_eq_true rfl⟩ ⟨Nat.zero_le _, Nat.zero_le _⟩ (Nat.le_of_ble_eq_true rfl) rfl) rfl rfl (fun r14 n' σ14 zp14 => ?_)
  obtain ⟨zn14, zp14⟩ := zp14
  have zn14 := zn14.symm
  subst zn14
  rcases zp14 with ⟨zb14, zv14, zs14⟩ | ⟨zb14, zv14, zs14⟩
  · subst zv14; have zs14 := zs14.symm; subst zs14
    refine y_if_ne (pc := 17) hF dX11_seams_17 22 rfl (by decide) (fun _ => ?_) (fun zc17 => absurd zc17 (by decide))
    simp at zb14
    refine y_aload_n (pc := 22) hF dX11_seams_22 0 rfl ?_
    refine y_iconst (pc := 23) hF dX11_seams_23 ?_
    refine y_putf (pc := 24) (ci := 11) (σ' := yset σ0 155 41 0) (sch' := (SC g)) hF dX11_seams_24 (by omega) rfl rfl rfl iX11 41 (by decide) w_1288 tyX11 tyX11_ok nmX11 rfl rfl rfl rfl (Nat.le_of_ble_eq_true rfl) rfl (y_ps rfl) (fun k' h => ⟨yset_n h, rfl⟩) ?_
    obtain ⟨τ1, hτ1⟩ : ∃ s, s = yset σ0 155 41 0 := ⟨_, rfl⟩
    rw [← hτ1]
    refine y_aload_n (pc := 27) hF dX11_seams_27 0 rfl ?_
    refine y_iconst (pc := 28) hF dX11_seams_28 ?_
    refine y_putf (pc := 29) (ci := 11) (σ' := yset τ1 155 42 0) (sch' := (SC g)) hF dX11_seams_29 (by omega) rfl rfl rfl iX11 42 (by decide) w_1289 tyX11 tyX11_ok nmX11 rfl rfl rfl rfl (Nat.le_of_ble_eq_true rfl) rfl (y_ps rfl) (fun k' h => ⟨yset_n h, rfl⟩) ?_
    obtain ⟨τ2, hτ2⟩ : ∃ s, s = yset τ1 155 42 0 := ⟨_, rfl⟩
    rw [← hτ2]
    refine y_aload_n (pc := 32) hF dX11_seams_32 0 rfl ?_
    refine y_iconst (pc := 33) hF dX11_seams_33 ?_
    refine y_putf (pc := 34) (ci := 11) (σ' := yset τ2 155 43 0) (sch' := (SC g)) hF dX11_seams_34 (by omega) rfl rfl rfl iX11 43 (by decide) w_1290 tyX11 tyX11_ok nmX11 rfl rfl rfl rfl (Nat.le_of_ble_eq_true rfl) rfl (y_ps rfl) (fun k' h => ⟨yset_n h, rfl⟩) ?_
    obtain ⟨τ3, hτ3⟩ : ∃ s, s = yset τ2 155 43 0 := ⟨_, rfl⟩
    rw [← hτ3]
    have zk3 : fk 155 41 43 σ0 τ3 := by rw [hτ3, hτ2, hτ1]; exact (((fk.rf σ0).st (by omega)).st (by omega)).st (by omega)
    have zA_τ3 := zA_σ0.fR hz zk3
    refine y_iconst (pc := 37) hF dX11_seams_37 ?_
    refine y_istore_n (pc := 38) (lv' := [(0, yR g 155), (1, yI a), (2, yI 0)]) hF dX11_seams_38 (by decide) rfl rfl ?_
    have zL39 : ∀ (N : Nat) (υ : yM) (y : Int), N = (h - y).toNat → (fk 155 41 43 σ0 υ ∧ (0 ≤ y ∧ y ≤ h) ∧ (0 ≤ υ 155 43 ∧ υ 155 43 ≤ 1000) ∧ (υ 155 41, υ 155 42, υ 155 43) = fr (fun q y => fr (fun q x => smF w h T F q x y) 0 w.toNat q) 0 y.toNat (0, 0, 0)) → yV X0 g 4 (yQ X0 g (SC g) (yPi (fun zv n' σ' => n ≤ n' ∧ (((0 ≤ a ∧ a ≤ 2) ∧ zv = smV w h T F a ∧ mO σ σ' (w, h, (T, S, F, P, O, nf, df, nl, lg), (s, re, fo, ra, tu, we, sh), H, ht, K, tl, tb, fa, r1, r2) 0) ∨ (¬ (0 ≤ a ∧ a ≤ 2) ∧ mO σ σ' (bA (w, h, (T, S, F, P, O, nf, df, nl, lg), (s, re, fo, ra, tu, we, sh), H, ht, K, tl, tb, fa, r1, r2)) 1)))) (rmL 5)) (SC g) n υ 0 0 39 [(0, yR g 155), (1, yI a), (2, yI y)] [] := by
      intro N
      induction N using Nat.strongRecOn with
      | ind N zh39 =>
        intro υ  y  zN39 zI39
        have zA_υ := zA_σ0.fR hz zI39.1
        refine y_iload_n (pc := 39) hF dX11_seams_39 2 rfl ?_
        refine y_aload_n (pc := 40) hF dX11_seams_40 0 rfl ?_
        refine y_get (pc := 41) (ci := 11) hF dX11_seams_41 (by omega) rfl rfl rfl iX11 4 (by decide) w_1251 rfl ?_
        refine y_iconst (pc := 44) hF dX11_seams_44 ?_
        refine y_iaload (pc := 45) hF dX11_seams_45 (by omega) rfl (by omega) (by decide) ?_
        rw [show υ 162 0 = h from zA_υ.2.2.1]
        refine y_icmp_ge (pc := 46) hF dX11_seams_46 93 rfl (by omega) (by omega) (fun zc46 => ?_) (fun zc46 => ?_)
        · skip
          have zq : (υ 155 41, υ 155 42, υ 155 43) = sSm w h T F := by rw [zI39.2.2.2]; unfold sSm fr2; rw [show y.toNat = h.toNat by omega]
          refine y_iload_n (pc := 93) hF dX11_seams_93 1 rfl ?_
          refine y_if_ne (pc := 94) hF dX11_seams_94 104 rfl (by omega) (fun zc94 => ?_) (fun zc94 => ?_)
          · skip
            refine y_iload_n (pc := 104) hF dX11_seams_104 1 rfl ?_
            refine y_iconst (pc := 105) hF dX11_seams_105 ?_
            refine y_icmp_ne (pc := 106) hF dX11_seams_106 116 rfl (by omega) (by omega) (fun zc106 => ?_) (fun zc106 => ?_)
            · skip
              refine y_aload_n (pc := 116) hF dX11_seams_116 0 rfl ?_
              refine y_get (pc := 117) (ci := 11) hF dX11_seams_117 (by omega) rfl rfl rfl iX11 43 (by decide) w_1290 rfl ?_
              exact y_iret (pc := 120) hF dX11_seams_120 (Nat.zero_le _) (Nat.zero_le _) ⟨_, rfl, Nat.le_refl _, Or.inl ⟨(by omega), (by unfold smV; rw [← zq]; (repeat' split) <;> first | rfl | omega | (exfalso; omega)), (zO_σ0.fk zI39.1 (by omega) (by omega))⟩⟩
            · skip
              refine y_aload_n (pc := 109) hF dX11_seams_109 0 rfl ?_
              refine y_get (pc := 110) (ci := 11) hF dX11_seams_110 (by omega) rfl rfl rfl iX11 42 (by decide) w_1289 rfl ?_
              refine y_goto (pc := 113) hF dX11_seams_113 120 rfl ?_
              exact y_iret (pc := 120) hF dX11_seams_120 (Nat.zero_le _) (Nat.zero_le _) ⟨_, rfl, Nat.le_refl _, Or.inl ⟨(by omega), (by unfold smV; rw [← zq]; (repeat' split) <;> first | rfl | omega | (exfalso; omega)), (zO_σ0.fk zI39.1 (by omega) (by omega))⟩⟩
          · skip
            refine y_aload_n (pc := 97) hF dX11_seams_97 0 rfl ?_
            refine y_get (pc := 98) (ci := 11) hF dX11_seams_98 (by omega) rfl rfl rfl iX11 41 (by decide) w_1288 rfl ?_
            refine y_goto (pc := 101) hF dX11_seams_101 120 rfl ?_
            exact y_iret (pc := 120) hF dX11_seams_120 (Nat.zero_le _) (Nat.zero_le _) ⟨_, rfl, Nat.le_refl _, Or.inl ⟨(by omega), (by unfold smV; rw [← zq]; (repeat' split) <;> first | rfl | omega | (exfalso; omega)), (zO_σ0.fk zI39.1 (by omega) (by omega))⟩⟩
        · skip
          refine y_iconst (pc := 49) hF dX11_seams_49 ?_
          refine y_istore_n (pc := 50) (lv' := [(0, yR g 155), (1, yI a), (2, yI y), (3, yI 0)]) hF dX11_seams_50 (by decide) rfl rfl ?_
          have zL51 : ∀ (N : Nat) (κ : yM) (x : Int), N = (w - x).toNat → (fk 155 41 43 σ0 κ ∧ (0 ≤ x ∧ x ≤ w) ∧ (0 ≤ κ 155 43 ∧ κ 155 43 ≤ 1000) ∧ (κ 155 41, κ 155 42, κ 155 43) = fr (fun q x => smF w h T F q x y) 0 x.toNat (υ 155 41, υ 155 42, υ 155 43)) → yV X0 g 4 (yQ X0 g (SC g) (yPi (fun zv n' σ' => n ≤ n' ∧ (((0 ≤ a ∧ a ≤ 2) ∧ zv = smV w h T F a ∧ mO σ σ' (w, h, (T, S, F, P, O, nf, df, nl, lg), (s, re, fo, ra, tu, we, sh), H, ht, K, tl, tb, fa, r1, r2) 0) ∨ (¬ (0 ≤ a ∧ a ≤ 2) ∧ mO σ σ' (bA (w, h, (T, S, F, P, O, nf, df, nl, lg), (s, re, fo, ra, tu, we, sh), H, ht, K, tl, tb, fa, r1, r2)) 1)))) (rmL 5)) (SC g) n κ 0 0 51 [(0, yR g 155), (1, yI a), (2, yI y), (3, yI x)] [] := by
            intro N
            induction N using Nat.strongRecOn with
            | ind N zh51 =>
              intro κ  x  zN51 zI51
              have zA_κ := zA_σ0.fR hz zI51.1
              refine y_iload_n (pc := 51) hF dX11_seams_51 3 rfl ?_
              refine y_aload_n (pc := 52) hF dX11_seams_52 0 rfl ?_
              refine y_get (pc := 53) (ci := 11) hF dX11_seams_53 (by omega) rfl rfl rfl iX11 3 (by decide) w_1250 rfl ?_
              refine y_iconst (pc := 56) hF dX11_seams_56 ?_
              refine y_iaload (pc := 57) hF dX11_seams_57 (by omega) rfl (by omega) (by decide) ?_
              rw [show κ 161 0 = w from zA_κ.2.1]
              refine y_icmp_ge (pc := 58) hF dX11_seams_58 87 rfl (by omega) (by omega) (fun zc58 => ?_) (fun zc58 => ?_)
              · skip
                refine y_iinc (pc := 87) (lv' := [(0, yR g 155), (1, yI a), (2, yI (y + 1)), (3, yI x)]) hF dX11_seams_87 2 rfl (by decide) rfl rfl ?_
                refine y_goto (pc := 90) hF dX11_seams_90 39 rfl ?_
                refine y_sub [0, 1, 2] rfl ?_
                exact zh39 _ (by omega) κ (y + 1) rfl ⟨zI51.1, by omega, zI51.2.2.1, by rw [fr_up _ _ _ _ zI39.2.1.1, ← zI39.2.2.2, zI51.2.2.2, Int.zero_add, show x.toNat = w.toNat by omega]⟩
              · skip
                refine y_aload_n (pc := 61) hF dX11_seams_61 0 rfl ?_
                refine y_iload_n (pc := 62) hF dX11_seams_62 3 rfl ?_
                refine y_iload_n (pc := 63) hF dX11_seams_63 2 rfl ?_
                refine y_iload_n (pc := 64) hF dX11_seams_64 3 rfl ?_
                refine y_iconst (pc := 65) hF dX11_seams_65 ?_
                refine y_iadd (pc := 66) hF dX11_seams_66 ?_
                refine y_iload_n (pc := 67) hF dX11_seams_67 2 rfl ?_
                refine y_cv (y_rV (pc := 68) hF (tX11_joint w h T S F P O hn zA_κ x y (x + 1) y (by omega) (by omega) (by omega) (by omega) _ _ _ rfl rfl rfl zI51.2.2.1) dX11_seams_68 (by omega) rfl rfl rfl w_1736 qX11_joint rfl ⟨Nat.le_of_ble_eq_true rfl, Nat.le_of_ble_eq_true rfl⟩ ⟨Nat.zero_le _, Nat.zero_le _⟩ (Nat.le_of_ble_eq_true rfl) rfl) rfl rfl (fun n' σ68 zp68 => ?_)
                obtain ⟨zn68, zp68⟩ := zp68
                have zn68 := zn68.symm
                subst zn68
                have zA_σ68 := zA_κ.fR hz zp68.1
                have zb68 : 0 ≤ σ68 155 43 ∧ σ68 155 43 ≤ 1000 := by have zt := jtF_3 hA.1 (i := x + 1) (j := y) (x := x) (y := y) (q := (κ 155 41, κ 155 42, κ 155 43)) zI51.2.2.1; rw [← zp68.2] at zt; exact zt
                refine y_aload_n (pc := 71) hF dX11_seams_71 0 rfl ?_
                refine y_iload_n (pc := 72) hF dX11_seams_72 3 rfl ?_
                refine y_iload_n (pc := 73) hF dX11_seams_73 2 rfl ?_
                refine y_iload_n (pc := 74) hF dX11_seams_74 3 rfl ?_
                refine y_iload_n (pc := 75) hF dX11_seams_75 2 rfl ?_
                refine y_iconst (pc := 76) hF dX11_seams_76 ?_
                refine y_iadd (pc := 77) hF dX11_seams_77 ?_
                refine y_cv (y_rV (pc := 78) hF (tX11_joint w h T S F P O hn zA_σ68 x y x (y + 1) (by omega) (by omega) (by omega) (by omega) _ _ _ rfl rfl rfl zb68) dX11_seams_78 (by omega) rfl rfl rfl w_1736 qX11_joint rfl ⟨Nat.le_of_ble_eq_true rfl, Nat.le_of_ble_eq_true rfl⟩ ⟨Nat.zero_le _, Nat.zero_le _⟩ (Nat.le_of_ble_eq_true rfl) rfl) rfl rfl (fun n' σ78 zp78 => ?_)
                obtain ⟨zn78, zp78⟩ := zp78
                have zn78 := zn78.symm
                subst zn78
                refine y_iinc (pc := 81) (lv' := [(0, yR g 155), (1, yI a), (2, yI y), (3, yI (x + 1))]) hF dX11_seams_81 3 rfl (by decide) rfl rfl ?_
                refine y_goto (pc := 84) hF dX11_seams_84 51 rfl ?_
                exact zh51 _ (by omega) σ78 (x + 1) rfl ⟨(zI51.1.tr zp68.1).tr zp78.1, by omega, by have zt := jtF_3 hA.1 (i := x) (j := y + 1) (x := x) (y := y) (q := (σ68 155 41, σ68 155 42, σ68 155 43)) zb68; rw [← zp78.2] at zt; exact zt, by rw [fr_up _ _ _ _ zI51.2.1.1, ← zI51.2.2.2, Int.zero_add]; unfold smF; rw [← zp68.2]; exact zp78.2⟩
          exact zL51 _ υ (0) rfl ⟨zI39.1, by omega, zI39.2.2.1, rfl⟩
    exact zL39 _ τ3 (0) rfl ⟨zk3, by omega, by rw [hτ3, yset_e]; omega, by rw [hτ3, hτ2, hτ1]; simp [yset_ap]; rfl⟩
  · subst zv14; subst zs14
    refine y_if_ne (pc := 17) hF dX11_seams_17 22 rfl (by decide) (fun zc17 => absurd zc17 (by decide)) (fun _ => ?_)
    refine y_iconst (pc := 20) hF dX11_seams_20 ?_
    exact y_iret (pc := 21) hF dX11_seams_21 (Nat.zero_le _) (Nat.zero_le _) ⟨_, rfl, Nat.le_refl _, Or.inr ⟨(fun ze => by simp at zb14; omega), zO_σ0.bA 1⟩⟩

theorem dX11_isPart_0 : decode cX11_isPart 0 = .ok (.aload_n 0, 1) := by decide +kernel
theorem dX11_isPart_1 : decode cX11_isPart 1 = .ok (.invokevirtual 329, 3) := by decide +kernel
theorem dX11_isPart_4 : decode cX11_isPart 4 = .ok (.aload_n 0, 1) := by decide +kernel
theorem dX11_isPart_5 : decode cX11_isPart 5 = .ok (.iload_n 1, 1) := by decide +kernel
theorem dX11_isPart_6 : decode cX11_isPart 6 = .ok (.iconst 0, 1) := by decide +kernel
theorem dX11_isPart_7 : decode cX11_isPart 7 = .ok (.aload_n 0, 1) := by decide +kernel
theorem dX11_isPart_8 : decode cX11_isPart 8 = .ok (.getfield 323, 3) := by decide +kernel
theorem dX11_isPart_11 : decode cX11_isPart 11 = .ok (.iconst 1, 1) := by decide +kernel
theorem dX11_isPart_12 : decode cX11_isPart 12 = .ok (.isub, 1) := by decide +kernel
theorem dX11_isPart_13 : decode cX11_isPart 13 = .ok (.invokestatic 68, 3) := by decide +kernel
theorem dX11_isPart_16 : decode cX11_isPart 16 = .ok (.iconst 1, 1) := by decide +kernel
theorem dX11_isPart_17 : decode cX11_isPart 17 = .ok (.iconst 0, 1) := by decide +kernel
theorem dX11_isPart_18 : decode cX11_isPart 18 = .ok (.invokevirtual 284, 3) := by decide +kernel
theorem dX11_isPart_21 : decode cX11_isPart 21 = .ok (.ireturn, 1) := by decide +kernel
set_option maxHeartbeats 4000000 in
set_option maxRecDepth 100000 in
theorem tX11_isPart {l : Launch} {g : yG} {n : Nat} {σ : yM} (w h : Int) (T S F P O : Int → Int → Int) (hn : 172 ≤ n) (hA : rM σ 0 w h T S F P O) (ht : σ 155 0 = 0) (p : Int) (hp : -2147483648 ≤ p ∧ p < 2147483648) : yMet l g yX11_isPart cX11_isPart 2 (some .boolean) (rmL 6) [yR g 155, yI p] (SC g) n σ (SC g) (yPi (fun v n' σ' => n' = n ∧ ∃ τ : yM, fQ σ τ ∧ rPm τ w h (sPt w h T).1 ∧ (((0 ≤ p ∧ p < (sPt w h T).2) ∧ v = 1 ∧ σ' = τ) ∨ (¬ (0 ≤ p ∧ p < (sPt w h T).2) ∧ v = 0 ∧ σ' = yset (yset τ 155 0 1) 156 0 (τ 156 0 + 1))))) := by
  obtain ⟨hw1, hw2, hw3, hw4⟩ := id hA.1.1
  have hz : (0 : Nat) < 3 := by omega
  have zsp := sPt_bd (w := w) (h := h) (T := T) ⟨hw1, hw2⟩ ⟨hw3, hw4⟩
  refine y_start (by decide) (Nat.le_of_ble_eq_true rfl) (fun X0 hF => ?_)
  show yV X0 g 2 (yQ X0 g (SC g) (yPi (fun v n' σ' => n' = n ∧ ∃ τ : yM, fQ σ τ ∧ rPm τ w h (sPt w h T).1 ∧ (((0 ≤ p ∧ p < (sPt w h T).2) ∧ v = 1 ∧ σ' = τ) ∨ (¬ (0 ≤ p ∧ p < (sPt w h T).2) ∧ v = 0 ∧ σ' = yset (yset τ 155 0 1) 156 0 (τ 156 0 + 1))))) (rmL 6)) (SC g) n σ 0 0 0 [(0, yR g 155), (1, yI p)] []
  refine y_aload_n (pc := 0) hF dX11_isPart_0 0 rfl ?_
  refine y_cv (y_rV (pc := 1) hF (tX11_parts w h T S F P O hn hA) dX11_isPart_1 (by omega) rfl rfl rfl w_1625 qX11_parts rfl ⟨Nat.le_of_ble_eq_true rfl, Nat.le_of_ble_eq_true rfl⟩ ⟨Nat.zero_le _, Nat.zero_le _⟩ (Nat.le_of_ble_eq_true rfl) rfl) rfl rfl (fun n' σ1 zp1 => ?_)
  obtain ⟨zn1, zp1⟩ := zp1
  have zn1 := zn1.symm
  subst zn1
  refine y_aload_n (pc := 4) hF dX11_isPart_4 0 rfl ?_
  refine y_iload_n (pc := 5) hF dX11_isPart_5 1 rfl ?_
  refine y_iconst (pc := 6) hF dX11_isPart_6 ?_
  refine y_aload_n (pc := 7) hF dX11_isPart_7 0 rfl ?_
  refine y_get (pc := 8) (ci := 11) hF dX11_isPart_8 (by omega) rfl rfl rfl iX11 40 (by decide) w_1287 rfl ?_
  rw [show σ1 155 40 = (sPt w h T).2 from zp1.2.1]
  refine y_iconst (pc := 11) hF dX11_isPart_11 ?_
  refine y_isub (pc := 12) hF dX11_isPart_12 ?_
  have zz13 := y_rS (pc := 13) (As := [yI p, yI 0, yI (((sPt w h T).2) - 1)]) (kk := 0) hF (tX11_within (n := n) (σ := σ1) p 0 (((sPt w h T).2) - 1) (by omega) (by omega) (by omega)) dX11_isPart_13 w_1392 qX11_within rfl ⟨Nat.le_of_ble_eq_true rfl, Nat.le_of_ble_eq_true rfl⟩ ⟨Nat.zero_le _, Nat.zero_le _⟩ (Nat.le_of_ble_eq_true rfl) rfl (rest := [yR g 155]) (cells := 0) (slots := 0) (lv := [(0, yR g 155), (1, yI p)])
  refine y_cp (zz13) ?_
  refine y_iconst (pc := 16) hF dX11_isPart_16 ?_
  refine y_iconst (pc := 17) hF dX11_isPart_17 ?_
  refine y_ci (y_rV (pc := 18) hF (tX11_isFine hn (by rw [zp1.1 155 0 (by omega) (by omega) (by omega)]; exact ht) (decide (0 ≤ p) && decide (p ≤ (((sPt w h T).2) - 1))) 1 0 (by decide) (by decide)) dX11_isPart_18 (by omega) rfl rfl rfl w_1395 qX11_isFine rfl ⟨Nat.le_of_ble_eq_true rfl, Nat.le_of_ble_eq_true rfl⟩ ⟨Nat.zero_le _, Nat.zero_le _⟩ (Nat.le_of_ble_eq_true rfl) rfl) rfl rfl (fun r18 n' σ18 zp18 => ?_)
  obtain ⟨zn18, zp18⟩ := zp18
  have zn18 := zn18.symm
  subst zn18
  rcases zp18 with ⟨zb18, zv18, zs18⟩ | ⟨zb18, zv18, zs18⟩
  · subst zv18; have zs18 := zs18.symm; subst zs18
    exact y_zret (pc := 21) hF dX11_isPart_21 (by decide) (Nat.zero_le _) (Nat.zero_le _) ⟨_, rfl, rfl, _, zp1.1, zp1.2.2, Or.inl ⟨by simp at zb18; omega, rfl, rfl⟩⟩
  · subst zv18; subst zs18
    exact y_zret (pc := 21) hF dX11_isPart_21 (by decide) (Nat.zero_le _) (Nat.zero_le _) ⟨_, rfl, rfl, _, zp1.1, zp1.2.2, Or.inr ⟨by simp at zb18; omega, rfl, rfl⟩⟩

theorem dX11_part_0 : decode cX11_part 0 = .ok (.aload_n 0, 1) := by decide +kernel
theorem dX11_part_1 : decode cX11_part 1 = .ok (.iconst 0, 1) := by decide +kernel
theorem dX11_part_2 : decode cX11_part 2 = .ok (.putfield 1, 3) := by decide +kernel
theorem dX11_part_5 : decode cX11_part 5 = .ok (.aload_n 0, 1) := by decide +kernel
theorem dX11_part_6 : decode cX11_part 6 = .ok (.iload_n 1, 1) := by decide +kernel
theorem dX11_part_7 : decode cX11_part 7 = .ok (.invokevirtual 332, 3) := by decide +kernel
theorem dX11_part_10 : decode cX11_part 10 = .ok (.ifCond .eq 18, 3) := by decide +kernel
theorem dX11_part_13 : decode cX11_part 13 = .ok (.aload_n 0, 1) := by decide +kernel
theorem dX11_part_14 : decode cX11_part 14 = .ok (.iload_n 2, 1) := by decide +kernel
theorem dX11_part_15 : decode cX11_part 15 = .ok (.iconst 0, 1) := by decide +kernel
theorem dX11_part_16 : decode cX11_part 16 = .ok (.iconst 5, 1) := by decide +kernel
theorem dX11_part_17 : decode cX11_part 17 = .ok (.invokestatic 68, 3) := by decide +kernel
theorem dX11_part_20 : decode cX11_part 20 = .ok (.iconst 2, 1) := by decide +kernel
theorem dX11_part_21 : decode cX11_part 21 = .ok (.iconst 1, 1) := by decide +kernel
theorem dX11_part_22 : decode cX11_part 22 = .ok (.invokevirtual 284, 3) := by decide +kernel
theorem dX11_part_25 : decode cX11_part 25 = .ok (.ifCond .ne 5, 3) := by decide +kernel
theorem dX11_part_28 : decode cX11_part 28 = .ok (.iconst 0, 1) := by decide +kernel
theorem dX11_part_29 : decode cX11_part 29 = .ok (.ireturn, 1) := by decide +kernel
theorem dX11_part_30 : decode cX11_part 30 = .ok (.iconst 0, 1) := by decide +kernel
theorem dX11_part_31 : decode cX11_part 31 = .ok (.istore_n 3, 1) := by decide +kernel
theorem dX11_part_32 : decode cX11_part 32 = .ok (.iconst 0, 1) := by decide +kernel
theorem dX11_part_33 : decode cX11_part 33 = .ok (.istore 4, 2) := by decide +kernel
theorem dX11_part_35 : decode cX11_part 35 = .ok (.bipush 20, 2) := by decide +kernel
theorem dX11_part_37 : decode cX11_part 37 = .ok (.istore 5, 2) := by decide +kernel
theorem dX11_part_39 : decode cX11_part 39 = .ok (.bipush 20, 2) := by decide +kernel
theorem dX11_part_41 : decode cX11_part 41 = .ok (.istore 6, 2) := by decide +kernel
theorem dX11_part_43 : decode cX11_part 43 = .ok (.iconst (-1), 1) := by decide +kernel
theorem dX11_part_44 : decode cX11_part 44 = .ok (.istore 7, 2) := by decide +kernel
theorem dX11_part_46 : decode cX11_part 46 = .ok (.iconst (-1), 1) := by decide +kernel
theorem dX11_part_47 : decode cX11_part 47 = .ok (.istore 8, 2) := by decide +kernel
theorem dX11_part_49 : decode cX11_part 49 = .ok (.iconst 0, 1) := by decide +kernel
theorem dX11_part_50 : decode cX11_part 50 = .ok (.istore 9, 2) := by decide +kernel
theorem dX11_part_52 : decode cX11_part 52 = .ok (.iload 9, 2) := by decide +kernel
theorem dX11_part_54 : decode cX11_part 54 = .ok (.aload_n 0, 1) := by decide +kernel
theorem dX11_part_55 : decode cX11_part 55 = .ok (.getfield 25, 3) := by decide +kernel
theorem dX11_part_58 : decode cX11_part 58 = .ok (.iconst 0, 1) := by decide +kernel
theorem dX11_part_59 : decode cX11_part 59 = .ok (.iaload, 1) := by decide +kernel
theorem dX11_part_60 : decode cX11_part 60 = .ok (.if_icmp .ge 105, 3) := by decide +kernel
theorem dX11_part_63 : decode cX11_part 63 = .ok (.iconst 0, 1) := by decide +kernel
theorem dX11_part_64 : decode cX11_part 64 = .ok (.istore 10, 2) := by decide +kernel
theorem dX11_part_66 : decode cX11_part 66 = .ok (.iload 10, 2) := by decide +kernel
theorem dX11_part_68 : decode cX11_part 68 = .ok (.aload_n 0, 1) := by decide +kernel
theorem dX11_part_69 : decode cX11_part 69 = .ok (.getfield 22, 3) := by decide +kernel
theorem dX11_part_72 : decode cX11_part 72 = .ok (.iconst 0, 1) := by decide +kernel
theorem dX11_part_73 : decode cX11_part 73 = .ok (.iaload, 1) := by decide +kernel
theorem dX11_part_74 : decode cX11_part 74 = .ok (.if_icmp .ge 85, 3) := by decide +kernel
theorem dX11_part_77 : decode cX11_part 77 = .ok (.aload_n 0, 1) := by decide +kernel
theorem dX11_part_78 : decode cX11_part 78 = .ok (.iload 10, 2) := by decide +kernel
theorem dX11_part_80 : decode cX11_part 80 = .ok (.iload 9, 2) := by decide +kernel
theorem dX11_part_82 : decode cX11_part 82 = .ok (.iload_n 1, 1) := by decide +kernel
theorem dX11_part_83 : decode cX11_part 83 = .ok (.invokevirtual 335, 3) := by decide +kernel
theorem dX11_part_86 : decode cX11_part 86 = .ok (.ifCond .ne 6, 3) := by decide +kernel
theorem dX11_part_89 : decode cX11_part 89 = .ok (.goto 64, 3) := by decide +kernel
theorem dX11_part_92 : decode cX11_part 92 = .ok (.iinc 3 1, 3) := by decide +kernel
theorem dX11_part_95 : decode cX11_part 95 = .ok (.iload 4, 2) := by decide +kernel
theorem dX11_part_97 : decode cX11_part 97 = .ok (.aload_n 0, 1) := by decide +kernel
theorem dX11_part_98 : decode cX11_part 98 = .ok (.iconst 0, 1) := by decide +kernel
theorem dX11_part_99 : decode cX11_part 99 = .ok (.iload 10, 2) := by decide +kernel
theorem dX11_part_101 : decode cX11_part 101 = .ok (.iload 9, 2) := by decide +kernel
theorem dX11_part_103 : decode cX11_part 103 = .ok (.invokevirtual 121, 3) := by decide +kernel
theorem dX11_part_106 : decode cX11_part 106 = .ok (.ifCond .eq 7, 3) := by decide +kernel
theorem dX11_part_109 : decode cX11_part 109 = .ok (.iconst 1, 1) := by decide +kernel
theorem dX11_part_110 : decode cX11_part 110 = .ok (.goto 4, 3) := by decide +kernel
theorem dX11_part_113 : decode cX11_part 113 = .ok (.iconst 0, 1) := by decide +kernel
theorem dX11_part_114 : decode cX11_part 114 = .ok (.iadd, 1) := by decide +kernel
theorem dX11_part_115 : decode cX11_part 115 = .ok (.istore 4, 2) := by decide +kernel
theorem dX11_part_117 : decode cX11_part 117 = .ok (.iload 5, 2) := by decide +kernel
theorem dX11_part_119 : decode cX11_part 119 = .ok (.iload 10, 2) := by decide +kernel
theorem dX11_part_121 : decode cX11_part 121 = .ok (.invokestatic 216, 3) := by decide +kernel
theorem dX11_part_124 : decode cX11_part 124 = .ok (.istore 5, 2) := by decide +kernel
theorem dX11_part_126 : decode cX11_part 126 = .ok (.iload 6, 2) := by decide +kernel
theorem dX11_part_128 : decode cX11_part 128 = .ok (.iload 9, 2) := by decide +kernel
theorem dX11_part_130 : decode cX11_part 130 = .ok (.invokestatic 216, 3) := by decide +kernel
theorem dX11_part_133 : decode cX11_part 133 = .ok (.istore 6, 2) := by decide +kernel
theorem dX11_part_135 : decode cX11_part 135 = .ok (.iload 7, 2) := by decide +kernel
theorem dX11_part_137 : decode cX11_part 137 = .ok (.iload 10, 2) := by decide +kernel
theorem dX11_part_139 : decode cX11_part 139 = .ok (.invokestatic 219, 3) := by decide +kernel
theorem dX11_part_142 : decode cX11_part 142 = .ok (.istore 7, 2) := by decide +kernel
theorem dX11_part_144 : decode cX11_part 144 = .ok (.iload 8, 2) := by decide +kernel
theorem dX11_part_146 : decode cX11_part 146 = .ok (.iload 9, 2) := by decide +kernel
theorem dX11_part_148 : decode cX11_part 148 = .ok (.invokestatic 219, 3) := by decide +kernel
theorem dX11_part_151 : decode cX11_part 151 = .ok (.istore 8, 2) := by decide +kernel
theorem dX11_part_153 : decode cX11_part 153 = .ok (.iinc 10 1, 3) := by decide +kernel
theorem dX11_part_156 : decode cX11_part 156 = .ok (.goto (-90), 3) := by decide +kernel
theorem dX11_part_159 : decode cX11_part 159 = .ok (.iinc 9 1, 3) := by decide +kernel
theorem dX11_part_162 : decode cX11_part 162 = .ok (.goto (-110), 3) := by decide +kernel
theorem dX11_part_165 : decode cX11_part 165 = .ok (.iload_n 2, 1) := by decide +kernel
theorem dX11_part_166 : decode cX11_part 166 = .ok (.ifCond .ne 7, 3) := by decide +kernel
theorem dX11_part_169 : decode cX11_part 169 = .ok (.iload_n 3, 1) := by decide +kernel
theorem dX11_part_170 : decode cX11_part 170 = .ok (.goto 45, 3) := by decide +kernel
theorem dX11_part_173 : decode cX11_part 173 = .ok (.iload_n 2, 1) := by decide +kernel
theorem dX11_part_174 : decode cX11_part 174 = .ok (.iconst 1, 1) := by decide +kernel
theorem dX11_part_175 : decode cX11_part 175 = .ok (.if_icmp .ne 8, 3) := by decide +kernel
theorem dX11_part_178 : decode cX11_part 178 = .ok (.iload 5, 2) := by decide +kernel
theorem dX11_part_180 : decode cX11_part 180 = .ok (.goto 35, 3) := by decide +kernel
theorem dX11_part_183 : decode cX11_part 183 = .ok (.iload_n 2, 1) := by decide +kernel
theorem dX11_part_184 : decode cX11_part 184 = .ok (.iconst 2, 1) := by decide +kernel
theorem dX11_part_185 : decode cX11_part 185 = .ok (.if_icmp .ne 8, 3) := by decide +kernel
theorem dX11_part_188 : decode cX11_part 188 = .ok (.iload 6, 2) := by decide +kernel
theorem dX11_part_190 : decode cX11_part 190 = .ok (.goto 25, 3) := by decide +kernel
theorem dX11_part_193 : decode cX11_part 193 = .ok (.iload_n 2, 1) := by decide +kernel
theorem dX11_part_194 : decode cX11_part 194 = .ok (.iconst 3, 1) := by decide +kernel
theorem dX11_part_195 : decode cX11_part 195 = .ok (.if_icmp .ne 8, 3) := by decide +kernel
theorem dX11_part_198 : decode cX11_part 198 = .ok (.iload 7, 2) := by decide +kernel
theorem dX11_part_200 : decode cX11_part 200 = .ok (.goto 15, 3) := by decide +kernel
theorem dX11_part_203 : decode cX11_part 203 = .ok (.iload_n 2, 1) := by decide +kernel
theorem dX11_part_204 : decode cX11_part 204 = .ok (.iconst 4, 1) := by decide +kernel
theorem dX11_part_205 : decode cX11_part 205 = .ok (.if_icmp .ne 8, 3) := by decide +kernel
theorem dX11_part_208 : decode cX11_part 208 = .ok (.iload 8, 2) := by decide +kernel
theorem dX11_part_210 : decode cX11_part 210 = .ok (.goto 5, 3) := by decide +kernel
theorem dX11_part_213 : decode cX11_part 213 = .ok (.iload 4, 2) := by decide +kernel
theorem dX11_part_215 : decode cX11_part 215 = .ok (.ireturn, 1) := by decide +kernel
set_option maxHeartbeats 4000000 in
set_option maxRecDepth 100000 in
theorem tX11_part {l : Launch} {g : yG} {n : Nat} {σ : yM} (hn : 172 ≤ n) (w h : Int) (T S F P O : Int → Int → Int) (nf df nl : Int) (lg : Int → Int → Int) (s re fo ra tu we sh : Int) (H : List aX) (ht : Bool) (K : Int → Int → Int) (tl : Int) (tb : Int → Int) (fa r1 r2 N : Int) (hV : mV σ (w, h, (T, S, F, P, O, nf, df, nl, lg), (s, re, fo, ra, tu, we, sh), H, ht, K, tl, tb, fa, r1, r2)) (hW : aW N (w, h, (T, S, F, P, O, nf, df, nl, lg), (s, re, fo, ra, tu, we, sh), H, ht, K, tl, tb, fa, r1, r2)) (p a : Int) (hp : -2147483648 ≤ p ∧ p < 2147483648) (ha : -2147483648 ≤ a ∧ a < 2147483648) : yMet l g yX11_part cX11_part 11 (some .int) (rmL 7) [yR g 155, yI p, yI a] (SC g) n σ (SC g) (yPi (fun zv n' σ' => n ≤ n' ∧ (((0 ≤ p ∧ p < (sPt w h T).2) ∧ (0 ≤ a ∧ a ≤ 5) ∧ zv = paV (paQ w h T p) a ∧ mO σ σ' (w, h, (T, S, F, P, O, nf, df, nl, lg), (s, re, fo, ra, tu, we, sh), H, ht, K, tl, tb, fa, r1, r2) 0) ∨ (¬ (0 ≤ p ∧ p < (sPt w h T).2) ∧ mO σ σ' (bN (w, h, (T, S, F, P, O, nf, df, nl, lg), (s, re, fo, ra, tu, we, sh), H, ht, K, tl, tb, fa, r1, r2)) 1) ∨ ((0 ≤ p ∧ p < (sPt w h T).2) ∧ ¬ (0 ≤ a ∧ a ≤ 5) ∧ mO σ σ' (bA (w, h, (T, S, F, P, O, nf, df, nl, lg), (s, re, fo, ra, tu, we, sh), H, ht, K, tl, tb, fa, r1, r2)) 2)))) := by
  obtain ⟨⟨hA, hL⟩, hS, hH, ⟨hb1, hb2⟩, ⟨ht1, ht2⟩, hfa, hr1, hr2⟩ := id hV
  obtain ⟨hw1, hw2, hw3, hw4⟩ := id hA.1.1
  obtain ⟨hs1, hs2, hs3, hs4, hs5, hs6, hs7⟩ := id hS.2
  have hz : (0 : Nat) < 3 := by omega
  have zsp := sPt_bd (w := w) (h := h) (T := T) ⟨hw1, hw2⟩ ⟨hw3, hw4⟩
  refine y_start (by decide) (Nat.le_of_ble_eq_true rfl) (fun X0 hF => ?_)
  show yV X0 g 11 (yQ X0 g (SC g) (yPi (fun zv n' σ' => n ≤ n' ∧ (((0 ≤ p ∧ p < (sPt w h T).2) ∧ (0 ≤ a ∧ a ≤ 5) ∧ zv = paV (paQ w h T p) a ∧ mO σ σ' (w, h, (T, S, F, P, O, nf, df, nl, lg), (s, re, fo, ra, tu, we, sh), H, ht, K, tl, tb, fa, r1, r2) 0) ∨ (¬ (0 ≤ p ∧ p < (sPt w h T).2) ∧ mO σ σ' (bN (w, h, (T, S, F, P, O, nf, df, nl, lg), (s, re, fo, ra, tu, we, sh), H, ht, K, tl, tb, fa, r1, r2)) 1) ∨ ((0 ≤ p ∧ p < (sPt w h T).2) ∧ ¬ (0 ≤ a ∧ a ≤ 5) ∧ mO σ σ' (bA (w, h, (T, S, F, P, O, nf, df, nl, lg), (s, re, fo, ra, tu, we, sh), H, ht, K, tl, tb, fa, r1, r2)) 2)))) (rmL 7)) (SC g) n σ 0 0 0 [(0, yR g 155), (1, yI p), (2, yI a)] []
  refine y_aload_n (pc := 0) hF dX11_part_0 0 rfl ?_
  refine y_iconst (pc := 1) hF dX11_part_1 ?_
  refine y_putf (pc := 2) (ci := 11) (σ' := yset σ 155 0 0) (sch' := (SC g)) hF dX11_part_2 (by omega) rfl rfl rfl iX11 0 (by decide) w_1247 tyX11 tyX11_ok nmX11 rfl rfl rfl rfl (Nat.le_of_ble_eq_true rfl) rfl (y_ps rfl) (fun k' h => ⟨yset_n h, rfl⟩) ?_
  obtain ⟨σ0, hσ0⟩ : ∃ s, s = yset σ 155 0 0 := ⟨_, rfl⟩
  rw [← hσ0]
  have zO_σ0 := hV.t0 hσ0
  obtain ⟨⟨zA_σ0, zL_σ0⟩, zS_σ0, zH_σ0, ⟨zb1_σ0, zb2_σ0⟩, ⟨zt1_σ0, zt2_σ0⟩, zfa_σ0, zr1_σ0, zr2_σ0⟩ := id zO_σ0.2.2
  refine y_aload_n (pc := 5) hF dX11_part_5 0 rfl ?_
  refine y_iload_n (pc := 6) hF dX11_part_6 1 rfl ?_
  refine y_ci (y_rV (pc := 7) hF (tX11_isPart w h T S F P O hn zA_σ0 zO_σ0.2.1 p hp) dX11_part_7 (by omega) rfl rfl rfl w_1621 qX11_isPart rfl ⟨Nat.le_of_ble_eq_true rfl, Nat.le_of_ble_eq_true rfl⟩ ⟨Nat.zero_le _, Nat.zero_le _⟩ (Nat.le_of_ble_eq_true rfl) rfl) rfl rfl (fun r7 n' ς7 zp7 => ?_)
  obtain ⟨zn7, σ7, zf7, zl7, zp7⟩ := zp7
  have zn7 := zn7.symm
  subst zn7
  have zA_σ7 := zA_σ0.fQ (by omega) zf7
  have zO_σ7 := zO_σ0.fQ zf7
  rcases zp7 with ⟨zb7, zv7, zs7⟩ | ⟨zb7, zv7, zs7⟩
  · subst zv7; have zs7 := zs7.symm; subst zs7
    refine y_if_eq (pc := 10) hF dX11_part_10 28 rfl (by decide) (fun zc10 => absurd zc10 (by decide)) (fun _ => ?_)
    refine y_aload_n (pc := 13) hF dX11_part_13 0 rfl ?_
    refine y_iload_n (pc := 14) hF dX11_part_14 2 rfl ?_
    refine y_iconst (pc := 15) hF dX11_part_15 ?_
    refine y_iconst (pc := 16) hF dX11_part_16 ?_
    have zz17 := y_rS (pc := 17) (As := [yI a, yI 0, yI 5]) (kk := 0) hF (tX11_within (n := n) (σ := σ7) a 0 5 (by omega) (by omega) (by omega)) dX11_part_17 w_1392 qX11_within rfl ⟨Nat.le_of_ble_eq_true rfl, Nat.le_of_ble_eq_true rfl⟩ ⟨Nat.zero_le _, Nat.zero_le _⟩ (Nat.le_of_ble_eq_true rfl) rfl (rest := [yR g 155]) (cells := 0) (slots := 0) (lv := [(0, yR g 155), (1, yI p), (2, yI a)])
    refine y_cp (zz17) ?_
    refine y_iconst (pc := 20) hF dX11_part_20 ?_
    refine y_iconst (pc := 21) hF dX11_part_21 ?_
    refine y_ci (y_rV (pc := 22) hF (tX11_isFine hn zO_σ7.2.1 (decide (0 ≤ a) && decide (a ≤ 5)) 2 1 (by decide) (by decide)) dX11_part_22 (by omega) rfl rfl rfl w_1395 qX11_isFine rfl ⟨Nat.le_of_ble_eq_true rfl, Nat.le_of_ble_eq_true rfl⟩ ⟨Nat.zero_le _, Nat.zero_le _⟩ (Nat.le_of_ble_eq_true rfl) rfl) rfl rfl (fun r22 n' σ22 zp22 => ?_)
    obtain ⟨zn22, zp22⟩ := zp22
    have zn22 := zn22.symm
    subst zn22
    rcases zp22 with ⟨zb22, zv22, zs22⟩ | ⟨zb22, zv22, zs22⟩
    · subst zv22; have zs22 := zs22.symm; subst zs22
      refine y_if_ne (pc := 25) hF dX11_part_25 30 rfl (by decide) (fun _ => ?_) (fun zc25 => absurd zc25 (by decide))
      simp at zb22
      refine y_iconst (pc := 30) hF dX11_part_30 ?_
      refine y_istore_n (pc := 31) (lv' := [(0, yR g 155), (1, yI p), (2, yI a), (3, yI 0)]) hF dX11_part_31 (by decide) rfl rfl ?_
      refine y_iconst (pc := 32) hF dX11_part_32 ?_
      refine y_istore (pc := 33) (lv' := [(0, yR g 155), (1, yI p), (2, yI a), (3, yI 0), (4, yI 0)]) hF dX11_part_33 (by decide) rfl rfl ?_
      refine y_bipush (pc := 35) hF dX11_part_35 (by decide) ?_
      refine y_istore (pc := 37) (lv' := [(0, yR g 155), (1, yI p), (2, yI a), (3, yI 0), (4, yI 0), (5, yI 20)]) hF dX11_part_37 (by decide) rfl rfl ?_
      refine y_bipush (pc := 39) hF dX11_part_39 (by decide) ?_
      refine y_istore (pc := 41) (lv' := [(0, yR g 155), (1, yI p), (2, yI a), (3, yI 0), (4, yI 0), (5, yI 20), (6, yI 20)]) hF dX11_part_41 (by decide) rfl rfl ?_
      refine y_iconst (pc := 43) hF dX11_part_43 ?_
      refine y_istore (pc := 44) (lv' := [(0, yR g 155), (1, yI p), (2, yI a), (3, yI 0), (4, yI 0), (5, yI 20), (6, yI 20), (7, yI (-1))]) hF dX11_part_44 (by decide) rfl rfl ?_
      refine y_iconst (pc := 46) hF dX11_part_46 ?_
      refine y_istore (pc := 47) (lv' := [(0, yR g 155), (1, yI p), (2, yI a), (3, yI 0), (4, yI 0), (5, yI 20), (6, yI 20), (7, yI (-1)), (8, yI (-1))]) hF dX11_part_47 (by decide) rfl rfl ?_
      refine y_iconst (pc := 49) hF dX11_part_49 ?_
      refine y_istore (pc := 50) (lv' := [(0, yR g 155), (1, yI p), (2, yI a), (3, yI 0), (4, yI 0), (5, yI 20), (6, yI 20), (7, yI (-1)), (8, yI (-1)), (9, yI 0)]) hF dX11_part_50 (by decide) rfl rfl ?_
      have zL52 : ∀ (N : Nat) (y c1 c2 c3 c4 c5 c6 : Int), N = (h - y).toNat → ((0 ≤ y ∧ y ≤ h) ∧ ((-1 ≤ c3 ∧ c3 ≤ 20) ∧ (-1 ≤ c4 ∧ c4 ≤ 20) ∧ (-1 ≤ c5 ∧ c5 ≤ 20) ∧ (-1 ≤ c6 ∧ c6 ≤ 20)) ∧ (c1, c2, c3, c4, c5, c6) = fr (fun q y => fr (fun q x => paF w h T (sPt w h T).1 p q x y) 0 w.toNat q) 0 y.toNat (0, 0, 20, 20, -1, -1)) → yV X0 g 11 (yQ X0 g (SC g) (yPi (fun zv n' σ' => n ≤ n' ∧ (((0 ≤ p ∧ p < (sPt w h T).2) ∧ (0 ≤ a ∧ a ≤ 5) ∧ zv = paV (paQ w h T p) a ∧ mO σ σ' (w, h, (T, S, F, P, O, nf, df, nl, lg), (s, re, fo, ra, tu, we, sh), H, ht, K, tl, tb, fa, r1, r2) 0) ∨ (¬ (0 ≤ p ∧ p < (sPt w h T).2) ∧ mO σ σ' (bN (w, h, (T, S, F, P, O, nf, df, nl, lg), (s, re, fo, ra, tu, we, sh), H, ht, K, tl, tb, fa, r1, r2)) 1) ∨ ((0 ≤ p ∧ p < (sPt w h T).2) ∧ ¬ (0 ≤ a ∧ a ≤ 5) ∧ mO σ σ' (bA (w, h, (T, S, F, P, O, nf, df, nl, lg), (s, re, fo, ra, tu, we, sh), H, ht, K, tl, tb, fa, r1, r2)) 2)))) (rmL 7)) (SC g) n σ7 0 0 52 [(0, yR g 155), (1, yI p), (2, yI a), (3, yI c1), (4, yI c2), (5, yI c3), (6, yI c4), (7, yI c5), (8, yI c6), (9, yI y)] [] := by
        intro N
        induction N using Nat.strongRecOn with
        | ind N zh52 =>
          intro y c1 c2 c3 c4 c5 c6  zN52 zI52
          refine y_iload (pc := 52) hF dX11_part_52 9 rfl ?_
          refine y_aload_n (pc := 54) hF dX11_part_54 0 rfl ?_
          refine y_get (pc := 55) (ci := 11) hF dX11_part_55 (by omega) rfl rfl rfl iX11 4 (by decide) w_1251 rfl ?_
          refine y_iconst (pc := 58) hF dX11_part_58 ?_
          refine y_iaload (pc := 59) hF dX11_part_59 (by omega) rfl (by omega) (by decide) ?_
          rw [show σ7 162 0 = h from zA_σ7.2.2.1]
          refine y_icmp_ge (pc := 60) hF dX11_part_60 165 rfl (by omega) (by omega) (fun zc60 => ?_) (fun zc60 => ?_)
          · skip
            have zq : (c1, c2, c3, c4, c5, c6) = paQ w h T p := by rw [zI52.2.2]; unfold paQ fr2; rw [show y.toNat = h.toNat by omega]
            refine y_iload_n (pc := 165) hF dX11_part_165 2 rfl ?_
            refine y_if_ne (pc := 166) hF dX11_part_166 173 rfl (by omega) (fun zc166 => ?_) (fun zc166 => ?_)
            · skip
              refine y_iload_n (pc := 173) hF dX11_part_173 2 rfl ?_
              refine y_iconst (pc := 174) hF dX11_part_174 ?_
              refine y_icmp_ne (pc := 175) hF dX11_part_175 183 rfl (by omega) (by omega) (fun zc175 => ?_) (fun zc175 => ?_)
              · skip
                refine y_iload_n (pc := 183) hF dX11_part_183 2 rfl ?_
                refine y_iconst (pc := 184) hF dX11_part_184 ?_
                refine y_icmp_ne (pc := 185) hF dX11_part_185 193 rfl (by omega) (by omega) (fun zc185 => ?_) (fun zc185 => ?_)
                · skip
                  refine y_iload_n (pc := 193) hF dX11_part_193 2 rfl ?_
                  refine y_iconst (pc := 194) hF dX11_part_194 ?_
                  refine y_icmp_ne (pc := 195) hF dX11_part_195 203 rfl (by omega) (by omega) (fun zc195 => ?_) (fun zc195 => ?_)
                  · skip
                    refine y_iload_n (pc := 203) hF dX11_part_203 2 rfl ?_
                    refine y_iconst (pc := 204) hF dX11_part_204 ?_
                    refine y_icmp_ne (pc := 205) hF dX11_part_205 213 rfl (by omega) (by omega) (fun zc205 => ?_) (fun zc205 => ?_)
                    · skip
                      refine y_iload (pc := 213) hF dX11_part_213 4 rfl ?_
                      exact y_iret (pc := 215) hF dX11_part_215 (Nat.zero_le _) (Nat.zero_le _) ⟨_, rfl, Nat.le_refl _, Or.inl ⟨zb7, (by omega), (by rw [← zq]; unfold paV; simp only; (repeat' split) <;> first | rfl | omega | (exfalso; omega)), zO_σ7⟩⟩
                    · skip
                      refine y_iload (pc := 208) hF dX11_part_208 8 rfl ?_
                      refine y_goto (pc := 210) hF dX11_part_210 215 rfl ?_
                      exact y_iret (pc := 215) hF dX11_part_215 (Nat.zero_le _) (Nat.zero_le _) ⟨_, rfl, Nat.le_refl _, Or.inl ⟨zb7, (by omega), (by rw [← zq]; unfold paV; simp only; (repeat' split) <;> first | rfl | omega | (exfalso; omega)), zO_σ7⟩⟩
                  · skip
                    refine y_iload (pc := 198) hF dX11_part_198 7 rfl ?_
                    refine y_goto (pc := 200) hF dX11_part_200 215 rfl ?_
                    exact y_iret (pc := 215) hF dX11_part_215 (Nat.zero_le _) (Nat.zero_le _) ⟨_, rfl, Nat.le_refl _, Or.inl ⟨zb7, (by omega), (by rw [← zq]; unfold paV; simp only; (repeat' split) <;> first | rfl | omega | (exfalso; omega)), zO_σ7⟩⟩
                · skip
                  refine y_iload (pc := 188) hF dX11_part_188 6 rfl ?_
                  refine y_goto (pc := 190) hF dX11_part_190 215 rfl ?_
                  exact y_iret (pc := 215) hF dX11_part_215 (Nat.zero_le _) (Nat.zero_le _) ⟨_, rfl, Nat.le_refl _, Or.inl ⟨zb7, (by omega), (by rw [← zq]; unfold paV; simp only; (repeat' split) <;> first | rfl | omega | (exfalso; omega)), zO_σ7⟩⟩
              · skip
                refine y_iload (pc := 178) hF dX11_part_178 5 rfl ?_
                refine y_goto (pc := 180) hF dX11_part_180 215 rfl ?_
                exact y_iret (pc := 215) hF dX11_part_215 (Nat.zero_le _) (Nat.zero_le _) ⟨_, rfl, Nat.le_refl _, Or.inl ⟨zb7, (by omega), (by rw [← zq]; unfold paV; simp only; (repeat' split) <;> first | rfl | omega | (exfalso; omega)), zO_σ7⟩⟩
            · skip
              refine y_iload_n (pc := 169) hF dX11_part_169 3 rfl ?_
              refine y_goto (pc := 170) hF dX11_part_170 215 rfl ?_
              exact y_iret (pc := 215) hF dX11_part_215 (Nat.zero_le _) (Nat.zero_le _) ⟨_, rfl, Nat.le_refl _, Or.inl ⟨zb7, (by omega), (by rw [← zq]; unfold paV; simp only; (repeat' split) <;> first | rfl | omega | (exfalso; omega)), zO_σ7⟩⟩
          · skip
            refine y_iconst (pc := 63) hF dX11_part_63 ?_
            refine y_istore (pc := 64) (lv' := [(0, yR g 155), (1, yI p), (2, yI a), (3, yI c1), (4, yI c2), (5, yI c3), (6, yI c4), (7, yI c5), (8, yI c6), (9, yI y), (10, yI 0)]) hF dX11_part_64 (by decide) rfl rfl ?_
            have zL66 : ∀ (N : Nat) (x d1 d2 d3 d4 d5 d6 : Int), N = (w - x).toNat → ((0 ≤ x ∧ x ≤ w) ∧ ((-1 ≤ d3 ∧ d3 ≤ 20) ∧ (-1 ≤ d4 ∧ d4 ≤ 20) ∧ (-1 ≤ d5 ∧ d5 ≤ 20) ∧ (-1 ≤ d6 ∧ d6 ≤ 20)) ∧ (d1, d2, d3, d4, d5, d6) = fr (fun q x => paF w h T (sPt w h T).1 p q x y) 0 x.toNat (c1, c2, c3, c4, c5, c6)) → yV X0 g 11 (yQ X0 g (SC g) (yPi (fun zv n' σ' => n ≤ n' ∧ (((0 ≤ p ∧ p < (sPt w h T).2) ∧ (0 ≤ a ∧ a ≤ 5) ∧ zv = paV (paQ w h T p) a ∧ mO σ σ' (w, h, (T, S, F, P, O, nf, df, nl, lg), (s, re, fo, ra, tu, we, sh), H, ht, K, tl, tb, fa, r1, r2) 0) ∨ (¬ (0 ≤ p ∧ p < (sPt w h T).2) ∧ mO σ σ' (bN (w, h, (T, S, F, P, O, nf, df, nl, lg), (s, re, fo, ra, tu, we, sh), H, ht, K, tl, tb, fa, r1, r2)) 1) ∨ ((0 ≤ p ∧ p < (sPt w h T).2) ∧ ¬ (0 ≤ a ∧ a ≤ 5) ∧ mO σ σ' (bA (w, h, (T, S, F, P, O, nf, df, nl, lg), (s, re, fo, ra, tu, we, sh), H, ht, K, tl, tb, fa, r1, r2)) 2)))) (rmL 7)) (SC g) n σ7 0 0 66 [(0, yR g 155), (1, yI p), (2, yI a), (3, yI d1), (4, yI d2), (5, yI d3), (6, yI d4), (7, yI d5), (8, yI d6), (9, yI y), (10, yI x)] [] := by
              intro N
              induction N using Nat.strongRecOn with
              | ind N zh66 =>
                intro x d1 d2 d3 d4 d5 d6  zN66 zI66
                refine y_iload (pc := 66) hF dX11_part_66 10 rfl ?_
                refine y_aload_n (pc := 68) hF dX11_part_68 0 rfl ?_
                refine y_get (pc := 69) (ci := 11) hF dX11_part_69 (by omega) rfl rfl rfl iX11 3 (by decide) w_1250 rfl ?_
                refine y_iconst (pc := 72) hF dX11_part_72 ?_
                refine y_iaload (pc := 73) hF dX11_part_73 (by omega) rfl (by omega) (by decide) ?_
                rw [show σ7 161 0 = w from zA_σ7.2.1]
                refine y_icmp_ge (pc := 74) hF dX11_part_74 159 rfl (by omega) (by omega) (fun zc74 => ?_) (fun zc74 => ?_)
                · skip
                  refine y_iinc (pc := 159) (lv' := [(0, yR g 155), (1, yI p), (2, yI a), (3, yI d1), (4, yI d2), (5, yI d3), (6, yI d4), (7, yI d5), (8, yI d6), (9, yI (y + 1)), (10, yI x)]) hF dX11_part_159 9 rfl (by decide) rfl rfl ?_
                  refine y_goto (pc := 162) hF dX11_part_162 52 rfl ?_
                  refine y_sub [0, 1, 2, 3, 4, 5, 6, 7, 8, 9] rfl ?_
                  exact zh52 _ (by omega) (y + 1) (d1) (d2) (d3) (d4) (d5) (d6) rfl ⟨by omega, zI66.2.1, by rw [fr_up _ _ _ _ zI52.1.1, ← zI52.2.2, zI66.2.2, Int.zero_add, show x.toNat = w.toNat by omega]⟩
                · skip
                  have zin : sIn w h x y = true := sIn_iff.mpr (by omega)
                  refine y_aload_n (pc := 77) hF dX11_part_77 0 rfl ?_
                  refine y_iload (pc := 78) hF dX11_part_78 10 rfl ?_
                  refine y_iload (pc := 80) hF dX11_part_80 9 rfl ?_
                  refine y_iload_n (pc := 82) hF dX11_part_82 1 rfl ?_
                  have zz83 := y_rV (pc := 83) hF (tX11_isOf (n := n) (σ := σ7) w h T S F P O hn zA_σ7 (sPt w h T).1 zl7 (sPt_bd ⟨hw1, hw2⟩ ⟨hw3, hw4⟩).1 x y p (by omega) (by omega) (by omega)) dX11_part_83 (by omega) rfl rfl rfl w_1633 qX11_isOf rfl ⟨Nat.le_of_ble_eq_true rfl, Nat.le_of_ble_eq_true rfl⟩ ⟨Nat.zero_le _, Nat.zero_le _⟩ (Nat.le_of_ble_eq_true rfl) rfl (rest := []) (cells := 0) (slots := 0) (lv := [(0, yR g 155), (1, yI p), (2, yI a), (3, yI d1), (4, yI d2), (5, yI d3), (6, yI d4), (7, yI d5), (8, yI d6), (9, yI y), (10, yI x)])
                  refine y_cp (zz83) ?_
                  refine y_if_ne (pc := 86) hF dX11_part_86 92 rfl bi_r (fun zc86 => ?_) (fun zc86 => ?_)
                  · replace zc86 := bi_n0.mp zc86
                    refine y_iinc (pc := 92) (lv' := [(0, yR g 155), (1, yI p), (2, yI a), (3, yI (d1 + 1)), (4, yI d2), (5, yI d3), (6, yI d4), (7, yI d5), (8, yI d6), (9, yI y), (10, yI x)]) hF dX11_part_92 3 rfl (by decide) rfl rfl ?_
                    refine y_iload (pc := 95) hF dX11_part_95 4 rfl ?_
                    refine y_aload_n (pc := 97) hF dX11_part_97 0 rfl ?_
                    refine y_iconst (pc := 98) hF dX11_part_98 ?_
                    refine y_iload (pc := 99) hF dX11_part_99 10 rfl ?_
                    refine y_iload (pc := 101) hF dX11_part_101 9 rfl ?_
                    have zz103 := y_rV (pc := 103) hF (tX11_isFront (n := n) (σ := σ7) 0 w h T S F P O hn (by omega) zA_σ7 x y (by omega) (by omega)) dX11_part_103 (by omega) rfl rfl rfl w_1500 qX11_isFront rfl ⟨Nat.le_of_ble_eq_true rfl, Nat.le_of_ble_eq_true rfl⟩ ⟨Nat.zero_le _, Nat.zero_le _⟩ (Nat.le_of_ble_eq_true rfl) rfl (rest := [yI d2]) (cells := 0) (slots := 0) (lv := [(0, yR g 155), (1, yI p), (2, yI a), (3, yI (d1 + 1)), (4, yI d2), (5, yI d3), (6, yI d4), (7, yI d5), (8, yI d6), (9, yI y), (10, yI x)])
                    refine y_cp (zz103) ?_
                    refine y_t_if_eq (pc := 106) hF dX11_part_106 dX11_part_109 dX11_part_110 dX11_part_113 bi_r ?_
                    rw [show (if (bi (sFr w h T x y)) = 0 then 0 else 1) = bi (sFr w h T x y) from bi_t]
                    refine y_iadd (pc := 114) hF dX11_part_114 ?_
                    refine y_istore (pc := 115) (lv' := [(0, yR g 155), (1, yI p), (2, yI a), (3, yI (d1 + 1)), (4, yI (d2 + (bi (sFr w h T x y)))), (5, yI d3), (6, yI d4), (7, yI d5), (8, yI d6), (9, yI y), (10, yI x)]) hF dX11_part_115 (by decide) rfl rfl ?_
                    refine y_iload (pc := 117) hF dX11_part_117 5 rfl ?_
                    refine y_iload (pc := 119) hF dX11_part_119 10 rfl ?_
                    refine y_mmin (pc := 121) hF dX11_part_121 w_1415 w_699 w_103 w_700 (Nat.le_of_ble_eq_true rfl) (Nat.le_of_ble_eq_true rfl) ⟨Nat.zero_le _, Nat.zero_le _⟩ (by omega) (by omega) ?_
                    refine y_istore (pc := 124) (lv' := [(0, yR g 155), (1, yI p), (2, yI a), (3, yI (d1 + 1)), (4, yI (d2 + (bi (sFr w h T x y)))), (5, yI (min d3 x)), (6, yI d4), (7, yI d5), (8, yI d6), (9, yI y), (10, yI x)]) hF dX11_part_124 (by decide) rfl rfl ?_
                    refine y_iload (pc := 126) hF dX11_part_126 6 rfl ?_
                    refine y_iload (pc := 128) hF dX11_part_128 9 rfl ?_
                    refine y_mmin (pc := 130) hF dX11_part_130 w_1415 w_699 w_103 w_700 (Nat.le_of_ble_eq_true rfl) (Nat.le_of_ble_eq_true rfl) ⟨Nat.zero_le _, Nat.zero_le _⟩ (by omega) (by omega) ?_
                    refine y_istore (pc := 133) (lv' := [(0, yR g 155), (1, yI p), (2, yI a), (3, yI (d1 + 1)), (4, yI (d2 + (bi (sFr w h T x y)))), (5, yI (min d3 x)), (6, yI (min d4 y)), (7, yI d5), (8, yI d6), (9, yI y), (10, yI x)]) hF dX11_part_133 (by decide) rfl rfl ?_
                    refine y_iload (pc := 135) hF dX11_part_135 7 rfl ?_
                    refine y_iload (pc := 137) hF dX11_part_137 10 rfl ?_
                    refine y_mmax (pc := 139) hF dX11_part_139 w_1588 w_876 w_103 w_877 (Nat.le_of_ble_eq_true rfl) (Nat.le_of_ble_eq_true rfl) ⟨Nat.zero_le _, Nat.zero_le _⟩ (by omega) (by omega) ?_
                    refine y_istore (pc := 142) (lv' := [(0, yR g 155), (1, yI p), (2, yI a), (3, yI (d1 + 1)), (4, yI (d2 + (bi (sFr w h T x y)))), (5, yI (min d3 x)), (6, yI (min d4 y)), (7, yI (max d5 x)), (8, yI d6), (9, yI y), (10, yI x)]) hF dX11_part_142 (by decide) rfl rfl ?_
                    refine y_iload (pc := 144) hF dX11_part_144 8 rfl ?_
                    refine y_iload (pc := 146) hF dX11_part_146 9 rfl ?_
                    refine y_mmax (pc := 148) hF dX11_part_148 w_1588 w_876 w_103 w_877 (Nat.le_of_ble_eq_true rfl) (Nat.le_of_ble_eq_true rfl) ⟨Nat.zero_le _, Nat.zero_le _⟩ (by omega) (by omega) ?_
                    refine y_istore (pc := 151) (lv' := [(0, yR g 155), (1, yI p), (2, yI a), (3, yI (d1 + 1)), (4, yI (d2 + (bi (sFr w h T x y)))), (5, yI (min d3 x)), (6, yI (min d4 y)), (7, yI (max d5 x)), (8, yI (max d6 y)), (9, yI y), (10, yI x)]) hF dX11_part_151 (by decide) rfl rfl ?_
                    refine y_iinc (pc := 153) (lv' := [(0, yR g 155), (1, yI p), (2, yI a), (3, yI (d1 + 1)), (4, yI (d2 + (bi (sFr w h T x y)))), (5, yI (min d3 x)), (6, yI (min d4 y)), (7, yI (max d5 x)), (8, yI (max d6 y)), (9, yI y), (10, yI (x + 1))]) hF dX11_part_153 10 rfl (by decide) rfl rfl ?_
                    refine y_goto (pc := 156) hF dX11_part_156 66 rfl ?_
                    exact zh66 _ (by omega) (x + 1) (d1 + 1) (d2 + (bi (sFr w h T x y))) (min d3 x) (min d4 y) (max d5 x) (max d6 y) rfl ⟨by omega, by omega, by rw [fr_up _ _ _ _ zI66.1.1, ← zI66.2.2, Int.zero_add]; unfold paF; simp only; rw [if_pos (by have zq := zc86; simp [isO, zin] at zq; exact zq)]⟩
                  · replace zc86 := bi_0.mp zc86
                    refine y_goto (pc := 89) hF dX11_part_89 153 rfl ?_
                    refine y_iinc (pc := 153) (lv' := [(0, yR g 155), (1, yI p), (2, yI a), (3, yI d1), (4, yI d2), (5, yI d3), (6, yI d4), (7, yI d5), (8, yI d6), (9, yI y), (10, yI (x + 1))]) hF dX11_part_153 10 rfl (by decide) rfl rfl ?_
                    refine y_goto (pc := 156) hF dX11_part_156 66 rfl ?_
                    exact zh66 _ (by omega) (x + 1) (d1) (d2) (d3) (d4) (d5) (d6) rfl ⟨by omega, by omega, by rw [fr_up _ _ _ _ zI66.1.1, ← zI66.2.2, Int.zero_add]; unfold paF; simp only; rw [if_neg (by have zq := zc86; simp [isO, zin] at zq; exact zq)]⟩
            exact zL66 _ (0) (c1) (c2) (c3) (c4) (c5) (c6) rfl ⟨by omega, zI52.2.1, rfl⟩
      exact zL52 _ (0) (0) (0) (20) (20) (-1) (-1) rfl ⟨by omega, by omega, rfl⟩
    · subst zv22; subst zs22
      refine y_if_ne (pc := 25) hF dX11_part_25 30 rfl (by decide) (fun zc25 => absurd zc25 (by decide)) (fun _ => ?_)
      refine y_iconst (pc := 28) hF dX11_part_28 ?_
      exact y_iret (pc := 29) hF dX11_part_29 (Nat.zero_le _) (Nat.zero_le _) ⟨_, rfl, Nat.le_refl _, Or.inr (Or.inr ⟨zb7, (fun ze => by simp at zb22; omega), zO_σ7.bA 2⟩)⟩
  · subst zv7; subst zs7
    refine y_if_eq (pc := 10) hF dX11_part_10 28 rfl (by decide) (fun _ => ?_) (fun zc10 => absurd zc10 (by decide))
    refine y_iconst (pc := 28) hF dX11_part_28 ?_
    exact y_iret (pc := 29) hF dX11_part_29 (Nat.zero_le _) (Nat.zero_le _) ⟨_, rfl, Nat.le_refl _, Or.inr (Or.inl ⟨zb7, zO_σ7.bN 1⟩)⟩

theorem dX11_ring_0 : decode cX11_ring 0 = .ok (.aload_n 0, 1) := by decide +kernel
theorem dX11_ring_1 : decode cX11_ring 1 = .ok (.iconst 0, 1) := by decide +kernel
theorem dX11_ring_2 : decode cX11_ring 2 = .ok (.putfield 1, 3) := by decide +kernel
theorem dX11_ring_5 : decode cX11_ring 5 = .ok (.aload_n 0, 1) := by decide +kernel
theorem dX11_ring_6 : decode cX11_ring 6 = .ok (.iload_n 1, 1) := by decide +kernel
theorem dX11_ring_7 : decode cX11_ring 7 = .ok (.invokevirtual 332, 3) := by decide +kernel
theorem dX11_ring_10 : decode cX11_ring 10 = .ok (.ifCond .eq 18, 3) := by decide +kernel
theorem dX11_ring_13 : decode cX11_ring 13 = .ok (.aload_n 0, 1) := by decide +kernel
theorem dX11_ring_14 : decode cX11_ring 14 = .ok (.iload_n 2, 1) := by decide +kernel
theorem dX11_ring_15 : decode cX11_ring 15 = .ok (.iconst 0, 1) := by decide +kernel
theorem dX11_ring_16 : decode cX11_ring 16 = .ok (.iconst 3, 1) := by decide +kernel
theorem dX11_ring_17 : decode cX11_ring 17 = .ok (.invokestatic 68, 3) := by decide +kernel
theorem dX11_ring_20 : decode cX11_ring 20 = .ok (.iconst 2, 1) := by decide +kernel
theorem dX11_ring_21 : decode cX11_ring 21 = .ok (.iconst 1, 1) := by decide +kernel
theorem dX11_ring_22 : decode cX11_ring 22 = .ok (.invokevirtual 284, 3) := by decide +kernel
theorem dX11_ring_25 : decode cX11_ring 25 = .ok (.ifCond .ne 5, 3) := by decide +kernel
theorem dX11_ring_28 : decode cX11_ring 28 = .ok (.iconst 0, 1) := by decide +kernel
theorem dX11_ring_29 : decode cX11_ring 29 = .ok (.ireturn, 1) := by decide +kernel
theorem dX11_ring_30 : decode cX11_ring 30 = .ok (.iconst 0, 1) := by decide +kernel
theorem dX11_ring_31 : decode cX11_ring 31 = .ok (.istore_n 3, 1) := by decide +kernel
theorem dX11_ring_32 : decode cX11_ring 32 = .ok (.iconst 0, 1) := by decide +kernel
theorem dX11_ring_33 : decode cX11_ring 33 = .ok (.istore 4, 2) := by decide +kernel
theorem dX11_ring_35 : decode cX11_ring 35 = .ok (.ldc 180, 2) := by decide +kernel
theorem dX11_ring_37 : decode cX11_ring 37 = .ok (.istore 5, 2) := by decide +kernel
theorem dX11_ring_39 : decode cX11_ring 39 = .ok (.iconst (-1), 1) := by decide +kernel
theorem dX11_ring_40 : decode cX11_ring 40 = .ok (.istore 6, 2) := by decide +kernel
theorem dX11_ring_42 : decode cX11_ring 42 = .ok (.iconst 0, 1) := by decide +kernel
theorem dX11_ring_43 : decode cX11_ring 43 = .ok (.istore 7, 2) := by decide +kernel
theorem dX11_ring_45 : decode cX11_ring 45 = .ok (.iload 7, 2) := by decide +kernel
theorem dX11_ring_47 : decode cX11_ring 47 = .ok (.aload_n 0, 1) := by decide +kernel
theorem dX11_ring_48 : decode cX11_ring 48 = .ok (.getfield 25, 3) := by decide +kernel
theorem dX11_ring_51 : decode cX11_ring 51 = .ok (.iconst 0, 1) := by decide +kernel
theorem dX11_ring_52 : decode cX11_ring 52 = .ok (.iaload, 1) := by decide +kernel
theorem dX11_ring_53 : decode cX11_ring 53 = .ok (.if_icmp .ge 149, 3) := by decide +kernel
theorem dX11_ring_56 : decode cX11_ring 56 = .ok (.iconst 0, 1) := by decide +kernel
theorem dX11_ring_57 : decode cX11_ring 57 = .ok (.istore 8, 2) := by decide +kernel
theorem dX11_ring_59 : decode cX11_ring 59 = .ok (.iload 8, 2) := by decide +kernel
theorem dX11_ring_61 : decode cX11_ring 61 = .ok (.aload_n 0, 1) := by decide +kernel
theorem dX11_ring_62 : decode cX11_ring 62 = .ok (.getfield 22, 3) := by decide +kernel
theorem dX11_ring_65 : decode cX11_ring 65 = .ok (.iconst 0, 1) := by decide +kernel
theorem dX11_ring_66 : decode cX11_ring 66 = .ok (.iaload, 1) := by decide +kernel
theorem dX11_ring_67 : decode cX11_ring 67 = .ok (.if_icmp .ge 129, 3) := by decide +kernel
theorem dX11_ring_70 : decode cX11_ring 70 = .ok (.aload_n 0, 1) := by decide +kernel
theorem dX11_ring_71 : decode cX11_ring 71 = .ok (.iconst 0, 1) := by decide +kernel
theorem dX11_ring_72 : decode cX11_ring 72 = .ok (.iload 8, 2) := by decide +kernel
theorem dX11_ring_74 : decode cX11_ring 74 = .ok (.iload 7, 2) := by decide +kernel
theorem dX11_ring_76 : decode cX11_ring 76 = .ok (.invokevirtual 78, 3) := by decide +kernel
theorem dX11_ring_79 : decode cX11_ring 79 = .ok (.ifCond .eq 111, 3) := by decide +kernel
theorem dX11_ring_82 : decode cX11_ring 82 = .ok (.aload_n 0, 1) := by decide +kernel
theorem dX11_ring_83 : decode cX11_ring 83 = .ok (.iload 8, 2) := by decide +kernel
theorem dX11_ring_85 : decode cX11_ring 85 = .ok (.iconst 1, 1) := by decide +kernel
theorem dX11_ring_86 : decode cX11_ring 86 = .ok (.isub, 1) := by decide +kernel
theorem dX11_ring_87 : decode cX11_ring 87 = .ok (.iload 7, 2) := by decide +kernel
theorem dX11_ring_89 : decode cX11_ring 89 = .ok (.iload_n 1, 1) := by decide +kernel
theorem dX11_ring_90 : decode cX11_ring 90 = .ok (.invokevirtual 335, 3) := by decide +kernel
theorem dX11_ring_93 : decode cX11_ring 93 = .ok (.ifCond .ne 48, 3) := by decide +kernel
theorem dX11_ring_96 : decode cX11_ring 96 = .ok (.aload_n 0, 1) := by decide +kernel
theorem dX11_ring_97 : decode cX11_ring 97 = .ok (.iload 8, 2) := by decide +kernel
theorem dX11_ring_99 : decode cX11_ring 99 = .ok (.iconst 1, 1) := by decide +kernel
theorem dX11_ring_100 : decode cX11_ring 100 = .ok (.iadd, 1) := by decide +kernel
theorem dX11_ring_101 : decode cX11_ring 101 = .ok (.iload 7, 2) := by decide +kernel
theorem dX11_ring_103 : decode cX11_ring 103 = .ok (.iload_n 1, 1) := by decide +kernel
theorem dX11_ring_104 : decode cX11_ring 104 = .ok (.invokevirtual 335, 3) := by decide +kernel
theorem dX11_ring_107 : decode cX11_ring 107 = .ok (.ifCond .ne 34, 3) := by decide +kernel
theorem dX11_ring_110 : decode cX11_ring 110 = .ok (.aload_n 0, 1) := by decide +kernel
theorem dX11_ring_111 : decode cX11_ring 111 = .ok (.iload 8, 2) := by decide +kernel
theorem dX11_ring_113 : decode cX11_ring 113 = .ok (.iload 7, 2) := by decide +kernel
theorem dX11_ring_115 : decode cX11_ring 115 = .ok (.iconst 1, 1) := by decide +kernel
theorem dX11_ring_116 : decode cX11_ring 116 = .ok (.isub, 1) := by decide +kernel
theorem dX11_ring_117 : decode cX11_ring 117 = .ok (.iload_n 1, 1) := by decide +kernel
theorem dX11_ring_118 : decode cX11_ring 118 = .ok (.invokevirtual 335, 3) := by decide +kernel
theorem dX11_ring_121 : decode cX11_ring 121 = .ok (.ifCond .ne 20, 3) := by decide +kernel
theorem dX11_ring_124 : decode cX11_ring 124 = .ok (.aload_n 0, 1) := by decide +kernel
theorem dX11_ring_125 : decode cX11_ring 125 = .ok (.iload 8, 2) := by decide +kernel
theorem dX11_ring_127 : decode cX11_ring 127 = .ok (.iload 7, 2) := by decide +kernel
theorem dX11_ring_129 : decode cX11_ring 129 = .ok (.iconst 1, 1) := by decide +kernel
theorem dX11_ring_130 : decode cX11_ring 130 = .ok (.iadd, 1) := by decide +kernel
theorem dX11_ring_131 : decode cX11_ring 131 = .ok (.iload_n 1, 1) := by decide +kernel
theorem dX11_ring_132 : decode cX11_ring 132 = .ok (.invokevirtual 335, 3) := by decide +kernel
theorem dX11_ring_135 : decode cX11_ring 135 = .ok (.ifCond .ne 6, 3) := by decide +kernel
theorem dX11_ring_138 : decode cX11_ring 138 = .ok (.goto 52, 3) := by decide +kernel
theorem dX11_ring_141 : decode cX11_ring 141 = .ok (.iinc 3 1, 3) := by decide +kernel
theorem dX11_ring_144 : decode cX11_ring 144 = .ok (.iload 4, 2) := by decide +kernel
theorem dX11_ring_146 : decode cX11_ring 146 = .ok (.aload_n 0, 1) := by decide +kernel
theorem dX11_ring_147 : decode cX11_ring 147 = .ok (.iconst 0, 1) := by decide +kernel
theorem dX11_ring_148 : decode cX11_ring 148 = .ok (.iload 8, 2) := by decide +kernel
theorem dX11_ring_150 : decode cX11_ring 150 = .ok (.iload 7, 2) := by decide +kernel
theorem dX11_ring_152 : decode cX11_ring 152 = .ok (.invokevirtual 87, 3) := by decide +kernel
theorem dX11_ring_155 : decode cX11_ring 155 = .ok (.iadd, 1) := by decide +kernel
theorem dX11_ring_156 : decode cX11_ring 156 = .ok (.istore 4, 2) := by decide +kernel
theorem dX11_ring_158 : decode cX11_ring 158 = .ok (.iload 5, 2) := by decide +kernel
theorem dX11_ring_160 : decode cX11_ring 160 = .ok (.aload_n 0, 1) := by decide +kernel
theorem dX11_ring_161 : decode cX11_ring 161 = .ok (.iconst 0, 1) := by decide +kernel
theorem dX11_ring_162 : decode cX11_ring 162 = .ok (.iload 8, 2) := by decide +kernel
theorem dX11_ring_164 : decode cX11_ring 164 = .ok (.iload 7, 2) := by decide +kernel
theorem dX11_ring_166 : decode cX11_ring 166 = .ok (.invokevirtual 87, 3) := by decide +kernel
theorem dX11_ring_169 : decode cX11_ring 169 = .ok (.invokestatic 216, 3) := by decide +kernel
theorem dX11_ring_172 : decode cX11_ring 172 = .ok (.istore 5, 2) := by decide +kernel
theorem dX11_ring_174 : decode cX11_ring 174 = .ok (.iload 6, 2) := by decide +kernel
theorem dX11_ring_176 : decode cX11_ring 176 = .ok (.aload_n 0, 1) := by decide +kernel
theorem dX11_ring_177 : decode cX11_ring 177 = .ok (.iconst 0, 1) := by decide +kernel
theorem dX11_ring_178 : decode cX11_ring 178 = .ok (.iload 8, 2) := by decide +kernel
theorem dX11_ring_180 : decode cX11_ring 180 = .ok (.iload 7, 2) := by decide +kernel
theorem dX11_ring_182 : decode cX11_ring 182 = .ok (.invokevirtual 87, 3) := by decide +kernel
theorem dX11_ring_185 : decode cX11_ring 185 = .ok (.invokestatic 219, 3) := by decide +kernel
theorem dX11_ring_188 : decode cX11_ring 188 = .ok (.istore 6, 2) := by decide +kernel
theorem dX11_ring_190 : decode cX11_ring 190 = .ok (.iinc 8 1, 3) := by decide +kernel
theorem dX11_ring_193 : decode cX11_ring 193 = .ok (.goto (-134), 3) := by decide +kernel
theorem dX11_ring_196 : decode cX11_ring 196 = .ok (.iinc 7 1, 3) := by decide +kernel
theorem dX11_ring_199 : decode cX11_ring 199 = .ok (.goto (-154), 3) := by decide +kernel
theorem dX11_ring_202 : decode cX11_ring 202 = .ok (.iload_n 2, 1) := by decide +kernel
theorem dX11_ring_203 : decode cX11_ring 203 = .ok (.ifCond .ne 5, 3) := by decide +kernel
theorem dX11_ring_206 : decode cX11_ring 206 = .ok (.iload_n 3, 1) := by decide +kernel
theorem dX11_ring_207 : decode cX11_ring 207 = .ok (.ireturn, 1) := by decide +kernel
theorem dX11_ring_208 : decode cX11_ring 208 = .ok (.iload_n 3, 1) := by decide +kernel
theorem dX11_ring_209 : decode cX11_ring 209 = .ok (.ifCond .ne 7, 3) := by decide +kernel
theorem dX11_ring_212 : decode cX11_ring 212 = .ok (.iconst (-1), 1) := by decide +kernel
theorem dX11_ring_213 : decode cX11_ring 213 = .ok (.goto 27, 3) := by decide +kernel
theorem dX11_ring_216 : decode cX11_ring 216 = .ok (.iload_n 2, 1) := by decide +kernel
theorem dX11_ring_217 : decode cX11_ring 217 = .ok (.iconst 1, 1) := by decide +kernel
theorem dX11_ring_218 : decode cX11_ring 218 = .ok (.if_icmp .ne 8, 3) := by decide +kernel
theorem dX11_ring_221 : decode cX11_ring 221 = .ok (.iload 5, 2) := by decide +kernel
theorem dX11_ring_223 : decode cX11_ring 223 = .ok (.goto 17, 3) := by decide +kernel
theorem dX11_ring_226 : decode cX11_ring 226 = .ok (.iload_n 2, 1) := by decide +kernel
theorem dX11_ring_227 : decode cX11_ring 227 = .ok (.iconst 2, 1) := by decide +kernel
theorem dX11_ring_228 : decode cX11_ring 228 = .ok (.if_icmp .ne 8, 3) := by decide +kernel
theorem dX11_ring_231 : decode cX11_ring 231 = .ok (.iload 6, 2) := by decide +kernel
theorem dX11_ring_233 : decode cX11_ring 233 = .ok (.goto 7, 3) := by decide +kernel
theorem dX11_ring_236 : decode cX11_ring 236 = .ok (.iload 4, 2) := by decide +kernel
theorem dX11_ring_238 : decode cX11_ring 238 = .ok (.iload_n 3, 1) := by decide +kernel
theorem dX11_ring_239 : decode cX11_ring 239 = .ok (.idiv, 1) := by decide +kernel
theorem dX11_ring_240 : decode cX11_ring 240 = .ok (.ireturn, 1) := by decide +kernel
set_option maxHeartbeats 4000000 in
set_option maxRecDepth 100000 in
theorem tX11_ring {l : Launch} {g : yG} {n : Nat} {σ : yM} (hn : 172 ≤ n) (w h : Int) (T S F P O : Int → Int → Int) (nf df nl : Int) (lg : Int → Int → Int) (s re fo ra tu we sh : Int) (H : List aX) (ht : Bool) (K : Int → Int → Int) (tl : Int) (tb : Int → Int) (fa r1 r2 N : Int) (hV : mV σ (w, h, (T, S, F, P, O, nf, df, nl, lg), (s, re, fo, ra, tu, we, sh), H, ht, K, tl, tb, fa, r1, r2)) (hW : aW N (w, h, (T, S, F, P, O, nf, df, nl, lg), (s, re, fo, ra, tu, we, sh), H, ht, K, tl, tb, fa, r1, r2)) (p a : Int) (hp : -2147483648 ≤ p ∧ p < 2147483648) (ha : -2147483648 ≤ a ∧ a < 2147483648) : yMet l g yX11_ring cX11_ring 9 (some .int) (rmL 7) [yR g 155, yI p, yI a] (SC g) n σ (SC g) (yPi (fun zv n' σ' => n ≤ n' ∧ (((0 ≤ p ∧ p < (sPt w h T).2) ∧ (0 ≤ a ∧ a ≤ 3) ∧ zv = rgV (rgQ w h T p) a ∧ mO σ σ' (w, h, (T, S, F, P, O, nf, df, nl, lg), (s, re, fo, ra, tu, we, sh), H, ht, K, tl, tb, fa, r1, r2) 0) ∨ (¬ (0 ≤ p ∧ p < (sPt w h T).2) ∧ mO σ σ' (bN (w, h, (T, S, F, P, O, nf, df, nl, lg), (s, re, fo, ra, tu, we, sh), H, ht, K, tl, tb, fa, r1, r2)) 1) ∨ ((0 ≤ p ∧ p < (sPt w h T).2) ∧ ¬ (0 ≤ a ∧ a ≤ 3) ∧ mO σ σ' (bA (w, h, (T, S, F, P, O, nf, df, nl, lg), (s, re, fo, ra, tu, we, sh), H, ht, K, tl, tb, fa, r1, r2)) 2)))) := by
  obtain ⟨⟨hA, hL⟩, hS, hH, ⟨hb1, hb2⟩, ⟨ht1, ht2⟩, hfa, hr1, hr2⟩ := id hV
  obtain ⟨hw1, hw2, hw3, hw4⟩ := id hA.1.1
  obtain ⟨hs1, hs2, hs3, hs4, hs5, hs6, hs7⟩ := id hS.2
  have hz : (0 : Nat) < 3 := by omega
  have zsp := sPt_bd (w := w) (h := h) (T := T) ⟨hw1, hw2⟩ ⟨hw3, hw4⟩
  refine y_start (by decide) (Nat.le_of_ble_eq_true rfl) (fun X0 hF => ?_)
  show yV X0 g 9 (yQ X0 g (SC g) (yPi (fun zv n' σ' => n ≤ n' ∧ (((0 ≤ p ∧ p < (sPt w h T).2) ∧ (0 ≤ a ∧ a ≤ 3) ∧ zv = rgV (rgQ w h T p) a ∧ mO σ σ' (w, h, (T, S, F, P, O, nf, df, nl, lg), (s, re, fo, ra, tu, we, sh), H, ht, K, tl, tb, fa, r1, r2) 0) ∨ (¬ (0 ≤ p ∧ p < (sPt w h T).2) ∧ mO σ σ' (bN (w, h, (T, S, F, P, O, nf, df, nl, lg), (s, re, fo, ra, tu, we, sh), H, ht, K, tl, tb, fa, r1, r2)) 1) ∨ ((0 ≤ p ∧ p < (sPt w h T).2) ∧ ¬ (0 ≤ a ∧ a ≤ 3) ∧ mO σ σ' (bA (w, h, (T, S, F, P, O, nf, df, nl, lg), (s, re, fo, ra, tu, we, sh), H, ht, K, tl, tb, fa, r1, r2)) 2)))) (rmL 7)) (SC g) n σ 0 0 0 [(0, yR g 155), (1, yI p), (2, yI a)] []
  refine y_aload_n (pc := 0) hF dX11_ring_0 0 rfl ?_
  refine y_iconst (pc := 1) hF dX11_ring_1 ?_
  refine y_putf (pc := 2) (ci := 11) (σ' := yset σ 155 0 0) (sch' := (SC g)) hF dX11_ring_2 (by omega) rfl rfl rfl iX11 0 (by decide) w_1247 tyX11 tyX11_ok nmX11 rfl rfl rfl rfl (Nat.le_of_ble_eq_true rfl) rfl (y_ps rfl) (fun k' h => ⟨yset_n h, rfl⟩) ?_
  obtain ⟨σ0, hσ0⟩ : ∃ s, s = yset σ 155 0 0 := ⟨_, rfl⟩
  rw [← hσ0]
  have zO_σ0 := hV.t0 hσ0
  obtain ⟨⟨zA_σ0, zL_σ0⟩, zS_σ0, zH_σ0, ⟨zb1_σ0, zb2_σ0⟩, ⟨zt1_σ0, zt2_σ0⟩, zfa_σ0, zr1_σ0, zr2_σ0⟩ := id zO_σ0.2.2
  refine y_aload_n (pc := 5) hF dX11_ring_5 0 rfl ?_
  refine y_iload_n (pc := 6) hF dX11_ring_6 1 rfl ?_
  refine y_ci (y_rV (pc := 7) hF (tX11_isPart w h T S F P O hn zA_σ0 zO_σ0.2.1 p hp) dX11_ring_7 (by omega) rfl rfl rfl w_1621 qX11_isPart rfl ⟨Nat.le_of_ble_eq_true rfl, Nat.le_of_ble_eq_true rfl⟩ ⟨Nat.zero_le _, Nat.zero_le _⟩ (Nat.le_of_ble_eq_true rfl) rfl) rfl rfl (fun r7 n' ς7 zp7 => ?_)
  obtain ⟨zn7, σ7, zf7, zl7, zp7⟩ := zp7
  have zn7 := zn7.symm
  subst zn7
  have zA_σ7 := zA_σ0.fQ (by omega) zf7
  have zO_σ7 := zO_σ0.fQ zf7
  rcases zp7 with ⟨zb7, zv7, zs7⟩ | ⟨zb7, zv7, zs7⟩
  · subst zv7; have zs7 := zs7.symm; subst zs7
    refine y_if_eq (pc := 10) hF dX11_ring_10 28 rfl (by decide) (fun zc10 => absurd zc10 (by decide)) (fun _ => ?_)
    refine y_aload_n (pc := 13) hF dX11_ring_13 0 rfl ?_
    refine y_iload_n (pc := 14) hF dX11_ring_14 2 rfl ?_
    refine y_iconst (pc := 15) hF dX11_ring_15 ?_
    refine y_iconst (pc := 16) hF dX11_ring_16 ?_
    have zz17 := y_rS (pc := 17) (As := [yI a, yI 0, yI 3]) (kk := 0) hF (tX11_within (n := n) (σ := σ7) a 0 3 (by omega) (by omega) (by omega)) dX11_ring_17 w_1392 qX11_within rfl ⟨Nat.le_of_ble_eq_true rfl, Nat.le_of_ble_eq_true rfl⟩ ⟨Nat.zero_le _, Nat.zero_le _⟩ (Nat.le_of_ble_eq_true rfl) rfl (rest := [yR g 155]) (cells := 0) (slots := 0) (lv := [(0, yR g 155), (1, yI p), (2, yI a)])
    refine y_cp (zz17) ?_
    refine y_iconst (pc := 20) hF dX11_ring_20 ?_
    refine y_iconst (pc := 21) hF dX11_ring_21 ?_
    refine y_ci (y_rV (pc := 22) hF (tX11_isFine hn zO_σ7.2.1 (decide (0 ≤ a) && decide (a ≤ 3)) 2 1 (by decide) (by decide)) dX11_ring_22 (by omega) rfl rfl rfl w_1395 qX11_isFine rfl ⟨Nat.le_of_ble_eq_true rfl, Nat.le_of_ble_eq_true rfl⟩ ⟨Nat.zero_le _, Nat.zero_le _⟩ (Nat.le_of_ble_eq_true rfl) rfl) rfl rfl (fun r22 n' σ22 zp22 => ?_)
    obtain ⟨zn22, zp22⟩ := zp22
    have zn22 := zn22.symm
    subst zn22
    rcases zp22 with ⟨zb22, zv22, zs22⟩ | ⟨zb22, zv22, zs22⟩
    · subst zv22; have zs22 := zs22.symm; subst zs22
      refine y_if_ne (pc := 25) hF dX11_ring_25 30 rfl (by decide) (fun _ => ?_) (fun zc25 => absurd zc25 (by decide))
      simp at zb22
      refine y_iconst (pc := 30) hF dX11_ring_30 ?_
      refine y_istore_n (pc := 31) (lv' := [(0, yR g 155), (1, yI p), (2, yI a), (3, yI 0)]) hF dX11_ring_31 (by decide) rfl rfl ?_
      refine y_iconst (pc := 32) hF dX11_ring_32 ?_
      refine y_istore (pc := 33) (lv' := [(0, yR g 155), (1, yI p), (2, yI a), (3, yI 0), (4, yI 0)]) hF dX11_ring_33 (by decide) rfl rfl ?_
      refine y_ldc (pc := 35) (v := 1000000000) hF dX11_ring_35 wk_1571 ?_
      refine y_istore (pc := 37) (lv' := [(0, yR g 155), (1, yI p), (2, yI a), (3, yI 0), (4, yI 0), (5, yI 1000000000)]) hF dX11_ring_37 (by decide) rfl rfl ?_
      refine y_iconst (pc := 39) hF dX11_ring_39 ?_
      refine y_istore (pc := 40) (lv' := [(0, yR g 155), (1, yI p), (2, yI a), (3, yI 0), (4, yI 0), (5, yI 1000000000), (6, yI (-1))]) hF dX11_ring_40 (by decide) rfl rfl ?_
      refine y_iconst (pc := 42) hF dX11_ring_42 ?_
      refine y_istore (pc := 43) (lv' := [(0, yR g 155), (1, yI p), (2, yI a), (3, yI 0), (4, yI 0), (5, yI 1000000000), (6, yI (-1)), (7, yI 0)]) hF dX11_ring_43 (by decide) rfl rfl ?_
      have zL45 : ∀ (N : Nat) (y c1 c2 c3 c4 : Int) (q : aG), N = (h - y).toNat → ((0 ≤ y ∧ y ≤ h) ∧ rgE c1 c2 c3 c4 q ∧ c1 ≤ 20 * y ∧ q = fr (fun q y => fr (fun q x => rgF w h T (sPt w h T).1 p q x y) 0 w.toNat q) 0 y.toNat (0, 255, 0, 0)) → yV X0 g 9 (yQ X0 g (SC g) (yPi (fun zv n' σ' => n ≤ n' ∧ (((0 ≤ p ∧ p < (sPt w h T).2) ∧ (0 ≤ a ∧ a ≤ 3) ∧ zv = rgV (rgQ w h T p) a ∧ mO σ σ' (w, h, (T, S, F, P, O, nf, df, nl, lg), (s, re, fo, ra, tu, we, sh), H, ht, K, tl, tb, fa, r1, r2) 0) ∨ (¬ (0 ≤ p ∧ p < (sPt w h T).2) ∧ mO σ σ' (bN (w, h, (T, S, F, P, O, nf, df, nl, lg), (s, re, fo, ra, tu, we, sh), H, ht, K, tl, tb, fa, r1, r2)) 1) ∨ ((0 ≤ p ∧ p < (sPt w h T).2) ∧ ¬ (0 ≤ a ∧ a ≤ 3) ∧ mO σ σ' (bA (w, h, (T, S, F, P, O, nf, df, nl, lg), (s, re, fo, ra, tu, we, sh), H, ht, K, tl, tb, fa, r1, r2)) 2)))) (rmL 7)) (SC g) n σ7 0 0 45 [(0, yR g 155), (1, yI p), (2, yI a), (3, yI c1), (4, yI c2), (5, yI c3), (6, yI c4), (7, yI y)] [] := by
        intro N
        induction N using Nat.strongRecOn with
        | ind N zh45 =>
          intro y c1 c2 c3 c4  q  zN45 zI45
          refine y_iload (pc := 45) hF dX11_ring_45 7 rfl ?_
          refine y_aload_n (pc := 47) hF dX11_ring_47 0 rfl ?_
          refine y_get (pc := 48) (ci := 11) hF dX11_ring_48 (by omega) rfl rfl rfl iX11 4 (by decide) w_1251 rfl ?_
          refine y_iconst (pc := 51) hF dX11_ring_51 ?_
          refine y_iaload (pc := 52) hF dX11_ring_52 (by omega) rfl (by omega) (by decide) ?_
          rw [show σ7 162 0 = h from zA_σ7.2.2.1]
          refine y_icmp_ge (pc := 53) hF dX11_ring_53 202 rfl (by omega) (by omega) (fun zc53 => ?_) (fun zc53 => ?_)
          · skip
            have zq : q = rgQ w h T p := by rw [zI45.2.2.2]; unfold rgQ fr2; rw [show y.toNat = h.toNat by omega]
            have zcc := zI45.2.1
            unfold rgE at zcc
            refine y_iload_n (pc := 202) hF dX11_ring_202 2 rfl ?_
            refine y_if_ne (pc := 203) hF dX11_ring_203 208 rfl (by omega) (fun zc203 => ?_) (fun zc203 => ?_)
            · skip
              refine y_iload_n (pc := 208) hF dX11_ring_208 3 rfl ?_
              refine y_if_ne (pc := 209) hF dX11_ring_209 216 rfl (by omega) (fun zc209 => ?_) (fun zc209 => ?_)
              · skip
                refine y_iload_n (pc := 216) hF dX11_ring_216 2 rfl ?_
                refine y_iconst (pc := 217) hF dX11_ring_217 ?_
                refine y_icmp_ne (pc := 218) hF dX11_ring_218 226 rfl (by omega) (by omega) (fun zc218 => ?_) (fun zc218 => ?_)
                · skip
                  refine y_iload_n (pc := 226) hF dX11_ring_226 2 rfl ?_
                  refine y_iconst (pc := 227) hF dX11_ring_227 ?_
                  refine y_icmp_ne (pc := 228) hF dX11_ring_228 236 rfl (by omega) (by omega) (fun zc228 => ?_) (fun zc228 => ?_)
                  · skip
                    refine y_iload (pc := 236) hF dX11_ring_236 4 rfl ?_
                    refine y_iload_n (pc := 238) hF dX11_ring_238 3 rfl ?_
                    refine y_idiv (pc := 239) hF dX11_ring_239 (by omega) (by omega) (by omega) ?_
                    exact y_iret (pc := 240) hF dX11_ring_240 (Nat.zero_le _) (Nat.zero_le _) ⟨_, rfl, Nat.le_refl _, Or.inl ⟨zb7, (by omega), (by rw [← zq, rgV_eq]; (repeat' split) <;> first | rfl | omega | (rw [zcc.1, zcc.2.1]) | (exfalso; omega)), zO_σ7⟩⟩
                  · skip
                    refine y_iload (pc := 231) hF dX11_ring_231 6 rfl ?_
                    refine y_goto (pc := 233) hF dX11_ring_233 240 rfl ?_
                    exact y_iret (pc := 240) hF dX11_ring_240 (Nat.zero_le _) (Nat.zero_le _) ⟨_, rfl, Nat.le_refl _, Or.inl ⟨zb7, (by omega), (by rw [← zq, rgV_eq]; (repeat' split) <;> first | rfl | omega | (rw [zcc.1, zcc.2.1]) | (exfalso; omega)), zO_σ7⟩⟩
                · skip
                  refine y_iload (pc := 221) hF dX11_ring_221 5 rfl ?_
                  refine y_goto (pc := 223) hF dX11_ring_223 240 rfl ?_
                  exact y_iret (pc := 240) hF dX11_ring_240 (Nat.zero_le _) (Nat.zero_le _) ⟨_, rfl, Nat.le_refl _, Or.inl ⟨zb7, (by omega), (by rw [← zq, rgV_eq]; (repeat' split) <;> first | rfl | omega | (rw [zcc.1, zcc.2.1]) | (exfalso; omega)), zO_σ7⟩⟩
              · skip
                refine y_iconst (pc := 212) hF dX11_ring_212 ?_
                refine y_goto (pc := 213) hF dX11_ring_213 240 rfl ?_
                exact y_iret (pc := 240) hF dX11_ring_240 (Nat.zero_le _) (Nat.zero_le _) ⟨_, rfl, Nat.le_refl _, Or.inl ⟨zb7, (by omega), (by rw [← zq, rgV_eq]; (repeat' split) <;> first | rfl | omega | (rw [zcc.1, zcc.2.1]) | (exfalso; omega)), zO_σ7⟩⟩
            · skip
              refine y_iload_n (pc := 206) hF dX11_ring_206 3 rfl ?_
              exact y_iret (pc := 207) hF dX11_ring_207 (Nat.zero_le _) (Nat.zero_le _) ⟨_, rfl, Nat.le_refl _, Or.inl ⟨zb7, (by omega), (by rw [← zq, rgV_eq]; (repeat' split) <;> first | rfl | omega | (rw [zcc.1, zcc.2.1]) | (exfalso; omega)), zO_σ7⟩⟩
          · skip
            refine y_iconst (pc := 56) hF dX11_ring_56 ?_
            refine y_istore (pc := 57) (lv' := [(0, yR g 155), (1, yI p), (2, yI a), (3, yI c1), (4, yI c2), (5, yI c3), (6, yI c4), (7, yI y), (8, yI 0)]) hF dX11_ring_57 (by decide) rfl rfl ?_
            have zL59 : ∀ (N : Nat) (x d1 d2 d3 d4 : Int) (r : aG), N = (w - x).toNat → ((0 ≤ x ∧ x ≤ w) ∧ rgE d1 d2 d3 d4 r ∧ d1 ≤ 20 * y + x ∧ r = fr (fun q x => rgF w h T (sPt w h T).1 p q x y) 0 x.toNat q) → yV X0 g 9 (yQ X0 g (SC g) (yPi (fun zv n' σ' => n ≤ n' ∧ (((0 ≤ p ∧ p < (sPt w h T).2) ∧ (0 ≤ a ∧ a ≤ 3) ∧ zv = rgV (rgQ w h T p) a ∧ mO σ σ' (w, h, (T, S, F, P, O, nf, df, nl, lg), (s, re, fo, ra, tu, we, sh), H, ht, K, tl, tb, fa, r1, r2) 0) ∨ (¬ (0 ≤ p ∧ p < (sPt w h T).2) ∧ mO σ σ' (bN (w, h, (T, S, F, P, O, nf, df, nl, lg), (s, re, fo, ra, tu, we, sh), H, ht, K, tl, tb, fa, r1, r2)) 1) ∨ ((0 ≤ p ∧ p < (sPt w h T).2) ∧ ¬ (0 ≤ a ∧ a ≤ 3) ∧ mO σ σ' (bA (w, h, (T, S, F, P, O, nf, df, nl, lg), (s, re, fo, ra, tu, we, sh), H, ht, K, tl, tb, fa, r1, r2)) 2)))) (rmL 7)) (SC g) n σ7 0 0 59 [(0, yR g 155), (1, yI p), (2, yI a), (3, yI d1), (4, yI d2), (5, yI d3), (6, yI d4), (7, yI y), (8, yI x)] [] := by
              intro N
              induction N using Nat.strongRecOn with
              | ind N zh59 =>
                intro x d1 d2 d3 d4  r  zN59 zI59
                have zrg := rgE_r zI59.2.1
                refine y_iload (pc := 59) hF dX11_ring_59 8 rfl ?_
                refine y_aload_n (pc := 61) hF dX11_ring_61 0 rfl ?_
                refine y_get (pc := 62) (ci := 11) hF dX11_ring_62 (by omega) rfl rfl rfl iX11 3 (by decide) w_1250 rfl ?_
                refine y_iconst (pc := 65) hF dX11_ring_65 ?_
                refine y_iaload (pc := 66) hF dX11_ring_66 (by omega) rfl (by omega) (by decide) ?_
                rw [show σ7 161 0 = w from zA_σ7.2.1]
                refine y_icmp_ge (pc := 67) hF dX11_ring_67 196 rfl (by omega) (by omega) (fun zc67 => ?_) (fun zc67 => ?_)
                · skip
                  refine y_iinc (pc := 196) (lv' := [(0, yR g 155), (1, yI p), (2, yI a), (3, yI d1), (4, yI d2), (5, yI d3), (6, yI d4), (7, yI (y + 1)), (8, yI x)]) hF dX11_ring_196 7 rfl (by decide) rfl rfl ?_
                  refine y_goto (pc := 199) hF dX11_ring_199 45 rfl ?_
                  refine y_sub [0, 1, 2, 3, 4, 5, 6, 7] rfl ?_
                  exact zh45 _ (by omega) (y + 1) (d1) (d2) (d3) (d4) r rfl ⟨by omega, zI59.2.1, by omega, by rw [fr_up _ _ _ _ zI45.1.1, ← zI45.2.2.2, zI59.2.2.2, Int.zero_add, show x.toNat = w.toNat by omega]⟩
                · skip
                  have zin : sIn w h x y = true := sIn_iff.mpr (by omega)
                  refine y_aload_n (pc := 70) hF dX11_ring_70 0 rfl ?_
                  refine y_iconst (pc := 71) hF dX11_ring_71 ?_
                  refine y_iload (pc := 72) hF dX11_ring_72 8 rfl ?_
                  refine y_iload (pc := 74) hF dX11_ring_74 7 rfl ?_
                  have zz76 := y_rV (pc := 76) hF (tX11_isKnown (n := n) (σ := σ7) 0 w h T S F P O hn (by omega) zA_σ7 x y (by omega) (by omega)) dX11_ring_76 (by omega) rfl rfl rfl w_1440 qX11_isKnown rfl ⟨Nat.le_of_ble_eq_true rfl, Nat.le_of_ble_eq_true rfl⟩ ⟨Nat.zero_le _, Nat.zero_le _⟩ (Nat.le_of_ble_eq_true rfl) rfl (rest := []) (cells := 0) (slots := 0) (lv := [(0, yR g 155), (1, yI p), (2, yI a), (3, yI d1), (4, yI d2), (5, yI d3), (6, yI d4), (7, yI y), (8, yI x)])
                  refine y_cp (zz76) ?_
                  refine y_if_eq (pc := 79) hF dX11_ring_79 190 rfl bi_r (fun zc79 => ?_) (fun zc79 => ?_)
                  · replace zc79 := bi_0.mp zc79
                    refine y_iinc (pc := 190) (lv' := [(0, yR g 155), (1, yI p), (2, yI a), (3, yI d1), (4, yI d2), (5, yI d3), (6, yI d4), (7, yI y), (8, yI (x + 1))]) hF dX11_ring_190 8 rfl (by decide) rfl rfl ?_
                    refine y_goto (pc := 193) hF dX11_ring_193 59 rfl ?_
                    exact zh59 _ (by omega) (x + 1) (d1) (d2) (d3) (d4) r rfl ⟨by omega, zI59.2.1, by omega, by rw [fr_up _ _ _ _ zI59.1.1, ← zI59.2.2.2, Int.zero_add]; unfold rgF; simp only; rw [if_neg (fun ze => by have zq := ze.1; simp [sKn, zin] at zc79; exact zq zc79)]⟩
                  · replace zc79 := bi_n0.mp zc79
                    have zJ141 : (isO w h (sPt w h T).1 (x - 1) y p = true ∨ isO w h (sPt w h T).1 (x + 1) y p = true ∨ isO w h (sPt w h T).1 x (y - 1) p = true ∨ isO w h (sPt w h T).1 x (y + 1) p = true) → yV X0 g 9 (yQ X0 g (SC g) (yPi (fun zv n' σ' => n ≤ n' ∧ (((0 ≤ p ∧ p < (sPt w h T).2) ∧ (0 ≤ a ∧ a ≤ 3) ∧ zv = rgV (rgQ w h T p) a ∧ mO σ σ' (w, h, (T, S, F, P, O, nf, df, nl, lg), (s, re, fo, ra, tu, we, sh), H, ht, K, tl, tb, fa, r1, r2) 0) ∨ (¬ (0 ≤ p ∧ p < (sPt w h T).2) ∧ mO σ σ' (bN (w, h, (T, S, F, P, O, nf, df, nl, lg), (s, re, fo, ra, tu, we, sh), H, ht, K, tl, tb, fa, r1, r2)) 1) ∨ ((0 ≤ p ∧ p < (sPt w h T).2) ∧ ¬ (0 ≤ a ∧ a ≤ 3) ∧ mO σ σ' (bA (w, h, (T, S, F, P, O, nf, df, nl, lg), (s, re, fo, ra, tu, we, sh), H, ht, K, tl, tb, fa, r1, r2)) 2)))) (rmL 7)) (SC g) n σ7 0 0 141 [(0, yR g 155), (1, yI p), (2, yI a), (3, yI d1), (4, yI d2), (5, yI d3), (6, yI d4), (7, yI y), (8, yI x)] [] := by
                      intro zor
                      have zor2 := zor
                      have ztk := sKn_T hA.1 zc79
                      have zbs : sBs w h (sPt w h T).1 x y p = true := by unfold sBs; rcases zor with zq | zq | zq | zq <;> simp [zq]
                      refine y_iinc (pc := 141) (lv' := [(0, yR g 155), (1, yI p), (2, yI a), (3, yI (d1 + 1)), (4, yI d2), (5, yI d3), (6, yI d4), (7, yI y), (8, yI x)]) hF dX11_ring_141 3 rfl (by decide) rfl rfl ?_
                      refine y_iload (pc := 144) hF dX11_ring_144 4 rfl ?_
                      refine y_aload_n (pc := 146) hF dX11_ring_146 0 rfl ?_
                      refine y_iconst (pc := 147) hF dX11_ring_147 ?_
                      refine y_iload (pc := 148) hF dX11_ring_148 8 rfl ?_
                      refine y_iload (pc := 150) hF dX11_ring_150 7 rfl ?_
                      have zz152 := y_rV (pc := 152) hF (tX11_toneOf (n := n) (σ := σ7) 0 w h T S F P O hn (by omega) zA_σ7 x y zin) dX11_ring_152 (by omega) rfl rfl rfl w_1472 qX11_toneOf rfl ⟨Nat.le_of_ble_eq_true rfl, Nat.le_of_ble_eq_true rfl⟩ ⟨Nat.zero_le _, Nat.zero_le _⟩ (Nat.le_of_ble_eq_true rfl) rfl (rest := [yI d2]) (cells := 0) (slots := 0) (lv := [(0, yR g 155), (1, yI p), (2, yI a), (3, yI (d1 + 1)), (4, yI d2), (5, yI d3), (6, yI d4), (7, yI y), (8, yI x)])
                      refine y_cp (zz152) ?_
                      refine y_iadd (pc := 155) hF dX11_ring_155 ?_
                      refine y_istore (pc := 156) (lv' := [(0, yR g 155), (1, yI p), (2, yI a), (3, yI (d1 + 1)), (4, yI (d2 + (T x y))), (5, yI d3), (6, yI d4), (7, yI y), (8, yI x)]) hF dX11_ring_156 (by decide) rfl rfl ?_
                      refine y_iload (pc := 158) hF dX11_ring_158 5 rfl ?_
                      refine y_aload_n (pc := 160) hF dX11_ring_160 0 rfl ?_
                      refine y_iconst (pc := 161) hF dX11_ring_161 ?_
                      refine y_iload (pc := 162) hF dX11_ring_162 8 rfl ?_
                      refine y_iload (pc := 164) hF dX11_ring_164 7 rfl ?_
                      have zz166 := y_rV (pc := 166) hF (tX11_toneOf (n := n) (σ := σ7) 0 w h T S F P O hn (by omega) zA_σ7 x y zin) dX11_ring_166 (by omega) rfl rfl rfl w_1472 qX11_toneOf rfl ⟨Nat.le_of_ble_eq_true rfl, Nat.le_of_ble_eq_true rfl⟩ ⟨Nat.zero_le _, Nat.zero_le _⟩ (Nat.le_of_ble_eq_true rfl) rfl (rest := [yI d3]) (cells := 0) (slots := 0) (lv := [(0, yR g 155), (1, yI p), (2, yI a), (3, yI (d1 + 1)), (4, yI (d2 + (T x y))), (5, yI d3), (6, yI d4), (7, yI y), (8, yI x)])
                      refine y_cp (zz166) ?_
                      refine y_mmin (pc := 169) hF dX11_ring_169 w_1415 w_699 w_103 w_700 (Nat.le_of_ble_eq_true rfl) (Nat.le_of_ble_eq_true rfl) ⟨Nat.zero_le _, Nat.zero_le _⟩ (by omega) (by omega) ?_
                      refine y_istore (pc := 172) (lv' := [(0, yR g 155), (1, yI p), (2, yI a), (3, yI (d1 + 1)), (4, yI (d2 + (T x y))), (5, yI (min d3 (T x y))), (6, yI d4), (7, yI y), (8, yI x)]) hF dX11_ring_172 (by decide) rfl rfl ?_
                      refine y_iload (pc := 174) hF dX11_ring_174 6 rfl ?_
                      refine y_aload_n (pc := 176) hF dX11_ring_176 0 rfl ?_
                      refine y_iconst (pc := 177) hF dX11_ring_177 ?_
                      refine y_iload (pc := 178) hF dX11_ring_178 8 rfl ?_
                      refine y_iload (pc := 180) hF dX11_ring_180 7 rfl ?_
                      have zz182 := y_rV (pc := 182) hF (tX11_toneOf (n := n) (σ := σ7) 0 w h T S F P O hn (by omega) zA_σ7 x y zin) dX11_ring_182 (by omega) rfl rfl rfl w_1472 qX11_toneOf rfl ⟨Nat.le_of_ble_eq_true rfl, Nat.le_of_ble_eq_true rfl⟩ ⟨Nat.zero_le _, Nat.zero_le _⟩ (Nat.le_of_ble_eq_true rfl) rfl (rest := [yI d4]) (cells := 0) (slots := 0) (lv := [(0, yR g 155), (1, yI p), (2, yI a), (3, yI (d1 + 1)), (4, yI (d2 + (T x y))), (5, yI (min d3 (T x y))), (6, yI d4), (7, yI y), (8, yI x)])
                      refine y_cp (zz182) ?_
                      refine y_mmax (pc := 185) hF dX11_ring_185 w_1588 w_876 w_103 w_877 (Nat.le_of_ble_eq_true rfl) (Nat.le_of_ble_eq_true rfl) ⟨Nat.zero_le _, Nat.zero_le _⟩ (by omega) (by omega) ?_
                      refine y_istore (pc := 188) (lv' := [(0, yR g 155), (1, yI p), (2, yI a), (3, yI (d1 + 1)), (4, yI (d2 + (T x y))), (5, yI (min d3 (T x y))), (6, yI (max d4 (T x y))), (7, yI y), (8, yI x)]) hF dX11_ring_188 (by decide) rfl rfl ?_
                      refine y_iinc (pc := 190) (lv' := [(0, yR g 155), (1, yI p), (2, yI a), (3, yI (d1 + 1)), (4, yI (d2 + (T x y))), (5, yI (min d3 (T x y))), (6, yI (max d4 (T x y))), (7, yI y), (8, yI (x + 1))]) hF dX11_ring_190 8 rfl (by decide) rfl rfl ?_
                      refine y_goto (pc := 193) hF dX11_ring_193 59 rfl ?_
                      exact zh59 _ (by omega) (x + 1) (d1 + 1) (d2 + (T x y)) (min d3 (T x y)) (max d4 (T x y)) (rgF w h T (sPt w h T).1 p r x y) rfl ⟨by omega, rgE_s zI59.2.1 (by omega) (by omega) zbs, by omega, by rw [fr_up _ _ _ _ zI59.1.1, ← zI59.2.2.2, Int.zero_add]⟩
                    refine y_aload_n (pc := 82) hF dX11_ring_82 0 rfl ?_
                    refine y_iload (pc := 83) hF dX11_ring_83 8 rfl ?_
                    refine y_iconst (pc := 85) hF dX11_ring_85 ?_
                    refine y_isub (pc := 86) hF dX11_ring_86 ?_
                    refine y_iload (pc := 87) hF dX11_ring_87 7 rfl ?_
                    refine y_iload_n (pc := 89) hF dX11_ring_89 1 rfl ?_
                    have zz90 := y_rV (pc := 90) hF (tX11_isOf (n := n) (σ := σ7) w h T S F P O hn zA_σ7 (sPt w h T).1 zl7 (sPt_bd ⟨hw1, hw2⟩ ⟨hw3, hw4⟩).1 (x - 1) y p (by omega) (by omega) (by omega)) dX11_ring_90 (by omega) rfl rfl rfl w_1633 qX11_isOf rfl ⟨Nat.le_of_ble_eq_true rfl, Nat.le_of_ble_eq_true rfl⟩ ⟨Nat.zero_le _, Nat.zero_le _⟩ (Nat.le_of_ble_eq_true rfl) rfl (rest := []) (cells := 0) (slots := 0) (lv := [(0, yR g 155), (1, yI p), (2, yI a), (3, yI d1), (4, yI d2), (5, yI d3), (6, yI d4), (7, yI y), (8, yI x)])
                    refine y_cp (zz90) ?_
                    refine y_if_ne (pc := 93) hF dX11_ring_93 141 rfl bi_r (fun zc93 => ?_) (fun zc93 => ?_)
                    · replace zc93 := bi_n0.mp zc93
                      exact zJ141  (by simp [*])
                    · replace zc93 := bi_0.mp zc93
                      refine y_aload_n (pc := 96) hF dX11_ring_96 0 rfl ?_
                      refine y_iload (pc := 97) hF dX11_ring_97 8 rfl ?_
                      refine y_iconst (pc := 99) hF dX11_ring_99 ?_
                      refine y_iadd (pc := 100) hF dX11_ring_100 ?_
                      refine y_iload (pc := 101) hF dX11_ring_101 7 rfl ?_
                      refine y_iload_n (pc := 103) hF dX11_ring_103 1 rfl ?_
                      have zz104 := y_rV (pc := 104) hF (tX11_isOf (n := n) (σ := σ7) w h T S F P O hn zA_σ7 (sPt w h T).1 zl7 (sPt_bd ⟨hw1, hw2⟩ ⟨hw3, hw4⟩).1 (x + 1) y p (by omega) (by omega) (by omega)) dX11_ring_104 (by omega) rfl rfl rfl w_1633 qX11_isOf rfl ⟨Nat.le_of_ble_eq_true rfl, Nat.le_of_ble_eq_true rfl⟩ ⟨Nat.zero_le _, Nat.zero_le _⟩ (Nat.le_of_ble_eq_true rfl) rfl (rest := []) (cells := 0) (slots := 0) (lv := [(0, yR g 155), (1, yI p), (2, yI a), (3, yI d1), (4, yI d2), (5, yI d3), (6, yI d4), (7, yI y), (8, yI x)])
                      refine y_cp (zz104) ?_
                      refine y_if_ne (pc := 107) hF dX11_ring_107 141 rfl bi_r (fun zc107 => ?_) (fun zc107 => ?_)
                      · replace zc107 := bi_n0.mp zc107
                        exact zJ141  (by simp [*])
                      · replace zc107 := bi_0.mp zc107
                        refine y_aload_n (pc := 110) hF dX11_ring_110 0 rfl ?_
                        refine y_iload (pc := 111) hF dX11_ring_111 8 rfl ?_
                        refine y_iload (pc := 113) hF dX11_ring_113 7 rfl ?_
                        refine y_iconst (pc := 115) hF dX11_ring_115 ?_
                        refine y_isub (pc := 116) hF dX11_ring_116 ?_
                        refine y_iload_n (pc := 117) hF dX11_ring_117 1 rfl ?_
                        have zz118 := y_rV (pc := 118) hF (tX11_isOf (n := n) (σ := σ7) w h T S F P O hn zA_σ7 (sPt w h T).1 zl7 (sPt_bd ⟨hw1, hw2⟩ ⟨hw3, hw4⟩).1 x (y - 1) p (by omega) (by omega) (by omega)) dX11_ring_118 (by omega) rfl rfl rfl w_1633 qX11_isOf rfl ⟨Nat.le_of_ble_eq_true rfl, Nat.le_of_ble_eq_true rfl⟩ ⟨Nat.zero_le _, Nat.zero_le _⟩ (Nat.le_of_ble_eq_true rfl) rfl (rest := []) (cells := 0) (slots := 0) (lv := [(0, yR g 155), (1, yI p), (2, yI a), (3, yI d1), (4, yI d2), (5, yI d3), (6, yI d4), (7, yI y), (8, yI x)])
                        refine y_cp (zz118) ?_
                        refine y_if_ne (pc := 121) hF dX11_ring_121 141 rfl bi_r (fun zc121 => ?_) (fun zc121 => ?_)
                        · replace zc121 := bi_n0.mp zc121
                          exact zJ141  (by simp [*])
                        · replace zc121 := bi_0.mp zc121
                          refine y_aload_n (pc := 124) hF dX11_ring_124 0 rfl ?_
                          refine y_iload (pc := 125) hF dX11_ring_125 8 rfl ?_
                          refine y_iload (pc := 127) hF dX11_ring_127 7 rfl ?_
                          refine y_iconst (pc := 129) hF dX11_ring_129 ?_
                          refine y_iadd (pc := 130) hF dX11_ring_130 ?_
                          refine y_iload_n (pc := 131) hF dX11_ring_131 1 rfl ?_
                          have zz132 := y_rV (pc := 132) hF (tX11_isOf (n := n) (σ := σ7) w h T S F P O hn zA_σ7 (sPt w h T).1 zl7 (sPt_bd ⟨hw1, hw2⟩ ⟨hw3, hw4⟩).1 x (y + 1) p (by omega) (by omega) (by omega)) dX11_ring_132 (by omega) rfl rfl rfl w_1633 qX11_isOf rfl ⟨Nat.le_of_ble_eq_true rfl, Nat.le_of_ble_eq_true rfl⟩ ⟨Nat.zero_le _, Nat.zero_le _⟩ (Nat.le_of_ble_eq_true rfl) rfl (rest := []) (cells := 0) (slots := 0) (lv := [(0, yR g 155), (1, yI p), (2, yI a), (3, yI d1), (4, yI d2), (5, yI d3), (6, yI d4), (7, yI y), (8, yI x)])
                          refine y_cp (zz132) ?_
                          refine y_if_ne (pc := 135) hF dX11_ring_135 141 rfl bi_r (fun zc135 => ?_) (fun zc135 => ?_)
                          · replace zc135 := bi_n0.mp zc135
                            exact zJ141  (by simp [*])
                          · replace zc135 := bi_0.mp zc135
                            refine y_goto (pc := 138) hF dX11_ring_138 190 rfl ?_
                            refine y_iinc (pc := 190) (lv' := [(0, yR g 155), (1, yI p), (2, yI a), (3, yI d1), (4, yI d2), (5, yI d3), (6, yI d4), (7, yI y), (8, yI (x + 1))]) hF dX11_ring_190 8 rfl (by decide) rfl rfl ?_
                            refine y_goto (pc := 193) hF dX11_ring_193 59 rfl ?_
                            exact zh59 _ (by omega) (x + 1) (d1) (d2) (d3) (d4) r rfl ⟨by omega, zI59.2.1, by omega, by rw [fr_up _ _ _ _ zI59.1.1, ← zI59.2.2.2, Int.zero_add]; unfold rgF; simp only; rw [if_neg (fun ze => by have zq := ze.2; unfold sBs at zq; simp [*] at zq)]⟩
            exact zL59 _ (0) (c1) (c2) (c3) (c4) q rfl ⟨by omega, zI45.2.1, by omega, rfl⟩
      exact zL45 _ (0) (0) (0) (1000000000) (-1) (0, 255, 0, 0) rfl ⟨by omega, rgE_0, by omega, rfl⟩
    · subst zv22; subst zs22
      refine y_if_ne (pc := 25) hF dX11_ring_25 30 rfl (by decide) (fun zc25 => absurd zc25 (by decide)) (fun _ => ?_)
      refine y_iconst (pc := 28) hF dX11_ring_28 ?_
      exact y_iret (pc := 29) hF dX11_ring_29 (Nat.zero_le _) (Nat.zero_le _) ⟨_, rfl, Nat.le_refl _, Or.inr (Or.inr ⟨zb7, (fun ze => by simp at zb22; omega), zO_σ7.bA 2⟩)⟩
  · subst zv7; subst zs7
    refine y_if_eq (pc := 10) hF dX11_ring_10 28 rfl (by decide) (fun _ => ?_) (fun zc10 => absurd zc10 (by decide))
    refine y_iconst (pc := 28) hF dX11_ring_28 ?_
    exact y_iret (pc := 29) hF dX11_ring_29 (Nat.zero_le _) (Nat.zero_le _) ⟨_, rfl, Nat.le_refl _, Or.inr (Or.inl ⟨zb7, zO_σ7.bN 1⟩)⟩
