theorem dX11_reach_0 : decode cX11_reach 0 = .ok (.aload_n 0, 1) := by decide +kernel
theorem dX11_reach_1 : decode cX11_reach 1 = .ok (.iconst 0, 1) := by decide +kernel
theorem dX11_reach_2 : decode cX11_reach 2 = .ok (.putfield 1, 3) := by decide +kernel
theorem dX11_reach_5 : decode cX11_reach 5 = .ok (.aload_n 0, 1) := by decide +kernel
theorem dX11_reach_6 : decode cX11_reach 6 = .ok (.iload_n 1, 1) := by decide +kernel
theorem dX11_reach_7 : decode cX11_reach 7 = .ok (.iload_n 2, 1) := by decide +kernel
theorem dX11_reach_8 : decode cX11_reach 8 = .ok (.invokevirtual 307, 3) := by decide +kernel
theorem dX11_reach_11 : decode cX11_reach 11 = .ok (.ifCond .eq 18, 3) := by decide +kernel
theorem dX11_reach_14 : decode cX11_reach 14 = .ok (.aload_n 0, 1) := by decide +kernel
theorem dX11_reach_15 : decode cX11_reach 15 = .ok (.iload_n 3, 1) := by decide +kernel
theorem dX11_reach_16 : decode cX11_reach 16 = .ok (.iconst 0, 1) := by decide +kernel
theorem dX11_reach_17 : decode cX11_reach 17 = .ok (.iconst 1, 1) := by decide +kernel
theorem dX11_reach_18 : decode cX11_reach 18 = .ok (.invokestatic 68, 3) := by decide +kernel
theorem dX11_reach_21 : decode cX11_reach 21 = .ok (.iconst 2, 1) := by decide +kernel
theorem dX11_reach_22 : decode cX11_reach 22 = .ok (.iconst 1, 1) := by decide +kernel
theorem dX11_reach_23 : decode cX11_reach 23 = .ok (.invokevirtual 284, 3) := by decide +kernel
theorem dX11_reach_26 : decode cX11_reach 26 = .ok (.ifCond .ne 5, 3) := by decide +kernel
theorem dX11_reach_29 : decode cX11_reach 29 = .ok (.iconst 0, 1) := by decide +kernel
theorem dX11_reach_30 : decode cX11_reach 30 = .ok (.ireturn, 1) := by decide +kernel
theorem dX11_reach_31 : decode cX11_reach 31 = .ok (.aload_n 0, 1) := by decide +kernel
theorem dX11_reach_32 : decode cX11_reach 32 = .ok (.iconst 0, 1) := by decide +kernel
theorem dX11_reach_33 : decode cX11_reach 33 = .ok (.iload_n 1, 1) := by decide +kernel
theorem dX11_reach_34 : decode cX11_reach 34 = .ok (.iload_n 2, 1) := by decide +kernel
theorem dX11_reach_35 : decode cX11_reach 35 = .ok (.bipush 20, 2) := by decide +kernel
theorem dX11_reach_37 : decode cX11_reach 37 = .ok (.invokevirtual 199, 3) := by decide +kernel
theorem dX11_reach_40 : decode cX11_reach 40 = .ok (.aload_n 0, 1) := by decide +kernel
theorem dX11_reach_41 : decode cX11_reach 41 = .ok (.getfield 152, 3) := by decide +kernel
theorem dX11_reach_44 : decode cX11_reach 44 = .ok (.istore 4, 2) := by decide +kernel
theorem dX11_reach_46 : decode cX11_reach 46 = .ok (.aload_n 0, 1) := by decide +kernel
theorem dX11_reach_47 : decode cX11_reach 47 = .ok (.getfield 155, 3) := by decide +kernel
theorem dX11_reach_50 : decode cX11_reach 50 = .ok (.istore 5, 2) := by decide +kernel
theorem dX11_reach_52 : decode cX11_reach 52 = .ok (.aload_n 0, 1) := by decide +kernel
theorem dX11_reach_53 : decode cX11_reach 53 = .ok (.getfield 158, 3) := by decide +kernel
theorem dX11_reach_56 : decode cX11_reach 56 = .ok (.istore 6, 2) := by decide +kernel
theorem dX11_reach_58 : decode cX11_reach 58 = .ok (.iload 4, 2) := by decide +kernel
theorem dX11_reach_60 : decode cX11_reach 60 = .ok (.iconst (-1), 1) := by decide +kernel
theorem dX11_reach_61 : decode cX11_reach 61 = .ok (.if_icmp .ne 5, 3) := by decide +kernel
theorem dX11_reach_64 : decode cX11_reach 64 = .ok (.iconst (-1), 1) := by decide +kernel
theorem dX11_reach_65 : decode cX11_reach 65 = .ok (.ireturn, 1) := by decide +kernel
theorem dX11_reach_66 : decode cX11_reach 66 = .ok (.iconst 1, 1) := by decide +kernel
theorem dX11_reach_67 : decode cX11_reach 67 = .ok (.istore 7, 2) := by decide +kernel
theorem dX11_reach_69 : decode cX11_reach 69 = .ok (.iload 7, 2) := by decide +kernel
theorem dX11_reach_71 : decode cX11_reach 71 = .ok (.bipush 20, 2) := by decide +kernel
theorem dX11_reach_73 : decode cX11_reach 73 = .ok (.if_icmp .gt 63, 3) := by decide +kernel
theorem dX11_reach_76 : decode cX11_reach 76 = .ok (.aload_n 0, 1) := by decide +kernel
theorem dX11_reach_77 : decode cX11_reach 77 = .ok (.iconst 0, 1) := by decide +kernel
theorem dX11_reach_78 : decode cX11_reach 78 = .ok (.iload_n 1, 1) := by decide +kernel
theorem dX11_reach_79 : decode cX11_reach 79 = .ok (.iload_n 2, 1) := by decide +kernel
theorem dX11_reach_80 : decode cX11_reach 80 = .ok (.iload 7, 2) := by decide +kernel
theorem dX11_reach_82 : decode cX11_reach 82 = .ok (.invokevirtual 199, 3) := by decide +kernel
theorem dX11_reach_85 : decode cX11_reach 85 = .ok (.iload_n 3, 1) := by decide +kernel
theorem dX11_reach_86 : decode cX11_reach 86 = .ok (.ifCond .ne 14, 3) := by decide +kernel
theorem dX11_reach_89 : decode cX11_reach 89 = .ok (.aload_n 0, 1) := by decide +kernel
theorem dX11_reach_90 : decode cX11_reach 90 = .ok (.getfield 152, 3) := by decide +kernel
theorem dX11_reach_93 : decode cX11_reach 93 = .ok (.iconst (-1), 1) := by decide +kernel
theorem dX11_reach_94 : decode cX11_reach 94 = .ok (.if_icmp .eq 36, 3) := by decide +kernel
theorem dX11_reach_97 : decode cX11_reach 97 = .ok (.goto 30, 3) := by decide +kernel
theorem dX11_reach_100 : decode cX11_reach 100 = .ok (.aload_n 0, 1) := by decide +kernel
theorem dX11_reach_101 : decode cX11_reach 101 = .ok (.getfield 152, 3) := by decide +kernel
theorem dX11_reach_104 : decode cX11_reach 104 = .ok (.iload 4, 2) := by decide +kernel
theorem dX11_reach_106 : decode cX11_reach 106 = .ok (.if_icmp .ne 24, 3) := by decide +kernel
theorem dX11_reach_109 : decode cX11_reach 109 = .ok (.aload_n 0, 1) := by decide +kernel
theorem dX11_reach_110 : decode cX11_reach 110 = .ok (.getfield 155, 3) := by decide +kernel
theorem dX11_reach_113 : decode cX11_reach 113 = .ok (.iload 5, 2) := by decide +kernel
theorem dX11_reach_115 : decode cX11_reach 115 = .ok (.if_icmp .ne 15, 3) := by decide +kernel
theorem dX11_reach_118 : decode cX11_reach 118 = .ok (.aload_n 0, 1) := by decide +kernel
theorem dX11_reach_119 : decode cX11_reach 119 = .ok (.getfield 158, 3) := by decide +kernel
theorem dX11_reach_122 : decode cX11_reach 122 = .ok (.iload 6, 2) := by decide +kernel
theorem dX11_reach_124 : decode cX11_reach 124 = .ok (.if_icmp .ne 6, 3) := by decide +kernel
theorem dX11_reach_127 : decode cX11_reach 127 = .ok (.iload 7, 2) := by decide +kernel
theorem dX11_reach_129 : decode cX11_reach 129 = .ok (.ireturn, 1) := by decide +kernel
theorem dX11_reach_130 : decode cX11_reach 130 = .ok (.iinc 7 1, 3) := by decide +kernel
theorem dX11_reach_133 : decode cX11_reach 133 = .ok (.goto (-64), 3) := by decide +kernel
theorem dX11_reach_136 : decode cX11_reach 136 = .ok (.iconst (-1), 1) := by decide +kernel
theorem dX11_reach_137 : decode cX11_reach 137 = .ok (.ireturn, 1) := by decide +kernel
set_option maxHeartbeats 4000000 in
set_option maxRecDepth 100000 in
theorem tX11_reach {l : Launch} {g : yG} {n : Nat} {σ : yM} (hn : 172 ≤ n) (w h : Int) (T S F P O : Int → Int → Int) (nf df nl : Int) (lg : Int → Int → Int) (s re fo ra tu we sh : Int) (H : List aX) (ht : Bool) (K : Int → Int → Int) (tl : Int) (tb : Int → Int) (fa r1 r2 N : Int) (hV : mV σ (w, h, (T, S, F, P, O, nf, df, nl, lg), (s, re, fo, ra, tu, we, sh), H, ht, K, tl, tb, fa, r1, r2)) (hW : aW N (w, h, (T, S, F, P, O, nf, df, nl, lg), (s, re, fo, ra, tu, we, sh), H, ht, K, tl, tb, fa, r1, r2)) (x y a : Int) (hx : -2147483648 ≤ x ∧ x < 2147483648) (hy : -2147483648 ≤ y ∧ y < 2147483648) (ha : -2147483648 ≤ a ∧ a < 2147483648) : yMet l g yX11_reach cX11_reach 8 (some .int) (rmL 7) [yR g 155, yI x, yI y, yI a] (SC g) n σ (SC g) (yPi (fun zv n' σ' => n ≤ n' ∧ (((sIn w h x y = true) ∧ (a = 0 ∨ a = 1) ∧ zv = reV w h T S F s fo tu we sh x y a ∧ mO σ σ' (w, h, (T, S, F, P, O, nf, df, nl, lg), (s, re, fo, ra, tu, we, sh), H, ht, K, tl, tb, fa, r1, r2) 0) ∨ (¬ (sIn w h x y = true) ∧ mO σ σ' (bN (w, h, (T, S, F, P, O, nf, df, nl, lg), (s, re, fo, ra, tu, we, sh), H, ht, K, tl, tb, fa, r1, r2)) 1) ∨ ((sIn w h x y = true) ∧ ¬ (a = 0 ∨ a = 1) ∧ mO σ σ' (bA (w, h, (T, S, F, P, O, nf, df, nl, lg), (s, re, fo, ra, tu, we, sh), H, ht, K, tl, tb, fa, r1, r2)) 2)))) := by
  obtain ⟨⟨hA, hL⟩, hS, hH, ⟨hb1, hb2⟩, ⟨ht1, ht2⟩, hfa, hr1, hr2⟩ := id hV
  obtain ⟨hw1, hw2, hw3, hw4⟩ := id hA.1.1
  obtain ⟨hs1, hs2, hs3, hs4, hs5, hs6, hs7⟩ := id hS.2
  have hz : (0 : Nat) < 3 := by omega
  refine y_start (by decide) (Nat.le_of_ble_eq_true rfl) (fun X0 hF => ?_)
  show yV X0 g 8 (yQ X0 g (SC g) (yPi (fun zv n' σ' => n ≤ n' ∧ (((sIn w h x y = true) ∧ (a = 0 ∨ a = 1) ∧ zv = reV w h T S F s fo tu we sh x y a ∧ mO σ σ' (w, h, (T, S, F, P, O, nf, df, nl, lg), (s, re, fo, ra, tu, we, sh), H, ht, K, tl, tb, fa, r1, r2) 0) ∨ (¬ (sIn w h x y = true) ∧ mO σ σ' (bN (w, h, (T, S, F, P, O, nf, df, nl, lg), (s, re, fo, ra, tu, we, sh), H, ht, K, tl, tb, fa, r1, r2)) 1) ∨ ((sIn w h x y = true) ∧ ¬ (a = 0 ∨ a = 1) ∧ mO σ σ' (bA (w, h, (T, S, F, P, O, nf, df, nl, lg), (s, re, fo, ra, tu, we, sh), H, ht, K, tl, tb, fa, r1, r2)) 2)))) (rmL 7)) (SC g) n σ 0 0 0 [(0, yR g 155), (1, yI x), (2, yI y), (3, yI a)] []
  refine y_aload_n (pc := 0) hF dX11_reach_0 0 rfl ?_
  refine y_iconst (pc := 1) hF dX11_reach_1 ?_
  refine y_putf (pc := 2) (ci := 11) (σ' := yset σ 155 0 0) (sch' := (SC g)) hF dX11_reach_2 (by omega) rfl rfl rfl iX11 0 (by decide) w_1247 tyX11 tyX11_ok nmX11 rfl rfl rfl rfl (Nat.le_of_ble_eq_true rfl) rfl (y_ps rfl) (fun k' h => ⟨yset_n h, rfl⟩) ?_
  obtain ⟨σ0, hσ0⟩ : ∃ s, s = yset σ 155 0 0 := ⟨_, rfl⟩
  rw [← hσ0]
  have zO_σ0 := hV.t0 hσ0
  obtain ⟨⟨zA_σ0, zL_σ0⟩, zS_σ0, zH_σ0, ⟨zb1_σ0, zb2_σ0⟩, ⟨zt1_σ0, zt2_σ0⟩, zfa_σ0, zr1_σ0, zr2_σ0⟩ := id zO_σ0.2.2
  refine y_aload_n (pc := 5) hF dX11_reach_5 0 rfl ?_
  refine y_iload_n (pc := 6) hF dX11_reach_6 1 rfl ?_
  refine y_iload_n (pc := 7) hF dX11_reach_7 2 rfl ?_
  refine y_ci (y_rV (pc := 8) hF (tX11_isThere w h T S F P O hn zA_σ0 zO_σ0.2.1 x y hx hy) dX11_reach_8 (by omega) rfl rfl rfl w_1468 qX11_isThere rfl ⟨Nat.le_of_ble_eq_true rfl, Nat.le_of_ble_eq_true rfl⟩ ⟨Nat.zero_le _, Nat.zero_le _⟩ (Nat.le_of_ble_eq_true rfl) rfl) rfl rfl (fun r8 n' σ8 zp8 => ?_)
  obtain ⟨zn8, zp8⟩ := zp8
  have zn8 := zn8.symm
  subst zn8
  rcases zp8 with ⟨zb8, zv8, zs8⟩ | ⟨zb8, zv8, zs8⟩
  · subst zv8; have zs8 := zs8.symm; subst zs8
    refine y_if_eq (pc := 11) hF dX11_reach_11 29 rfl (by decide) (fun zc11 => absurd zc11 (by decide)) (fun _ => ?_)
    refine y_aload_n (pc := 14) hF dX11_reach_14 0 rfl ?_
    refine y_iload_n (pc := 15) hF dX11_reach_15 3 rfl ?_
    refine y_iconst (pc := 16) hF dX11_reach_16 ?_
    refine y_iconst (pc := 17) hF dX11_reach_17 ?_
    have zz18 := y_rS (pc := 18) (As := [yI a, yI 0, yI 1]) (kk := 0) hF (tX11_within (n := n) (σ := σ0) a 0 1 (by omega) (by omega) (by omega)) dX11_reach_18 w_1392 qX11_within rfl ⟨Nat.le_of_ble_eq_true rfl, Nat.le_of_ble_eq_true rfl⟩ ⟨Nat.zero_le _, Nat.zero_le _⟩ (Nat.le_of_ble_eq_true rfl) rfl (rest := [yR g 155]) (cells := 0) (slots := 0) (lv := [(0, yR g 155), (1, yI x), (2, yI y), (3, yI a)])
    refine y_cp (zz18) ?_
    refine y_iconst (pc := 21) hF dX11_reach_21 ?_
    refine y_iconst (pc := 22) hF dX11_reach_22 ?_
    refine y_ci (y_rV (pc := 23) hF (tX11_isFine hn zO_σ0.2.1 (decide (0 ≤ a) && decide (a ≤ 1)) 2 1 (by decide) (by decide)) dX11_reach_23 (by omega) rfl rfl rfl w_1395 qX11_isFine rfl ⟨Nat.le_of_ble_eq_true rfl, Nat.le_of_ble_eq_true rfl⟩ ⟨Nat.zero_le _, Nat.zero_le _⟩ (Nat.le_of_ble_eq_true rfl) rfl) rfl rfl (fun r23 n' σ23 zp23 => ?_)
    obtain ⟨zn23, zp23⟩ := zp23
    have zn23 := zn23.symm
    subst zn23
    rcases zp23 with ⟨zb23, zv23, zs23⟩ | ⟨zb23, zv23, zs23⟩
    · subst zv23; have zs23 := zs23.symm; subst zs23
      refine y_if_ne (pc := 26) hF dX11_reach_26 31 rfl (by decide) (fun _ => ?_) (fun zc26 => absurd zc26 (by decide))
      simp at zb23
      have zlr := fun (r : Int) (hr : 1 ≤ r) => sSe_lr hA.1 (fo := fo) (we := we) (sh := sh) (r := r) ⟨by omega, hs1.2⟩ hs5 zb8 hr
      refine y_aload_n (pc := 31) hF dX11_reach_31 0 rfl ?_
      refine y_iconst (pc := 32) hF dX11_reach_32 ?_
      refine y_iload_n (pc := 33) hF dX11_reach_33 1 rfl ?_
      refine y_iload_n (pc := 34) hF dX11_reach_34 2 rfl ?_
      refine y_bipush (pc := 35) hF dX11_reach_35 (by decide) ?_
      refine y_cv (y_rV (pc := 37) hF (tX11_searches 0 w h T S F P O s re fo ra tu we sh hn (by omega) zA_σ0 zS_σ0 x y zb8 20 (by decide)) dX11_reach_37 (by omega) rfl rfl rfl w_1576 qX11_searches rfl ⟨Nat.le_of_ble_eq_true rfl, Nat.le_of_ble_eq_true rfl⟩ ⟨Nat.zero_le _, Nat.zero_le _⟩ (Nat.le_of_ble_eq_true rfl) rfl) rfl rfl (fun n' σ37 zp37 => ?_)
      obtain ⟨zn37, zp37⟩ := zp37
      have zn37 := zn37.symm
      subst zn37
      have zA_σ37 := zA_σ0.fR hz zp37.1
      have zS_σ37 := zS_σ0.fR (by omega) zp37.1
      have zO_σ37 := zO_σ0.fR zp37.1 (by omega) (by omega)
      have zL_σ37 := zO_σ37.2.2.1.2
      obtain ⟨Q37, hQ37⟩ : ∃ q, q = (sSe w h T S F s fo tu we sh x y 20) := ⟨_, rfl⟩
      rw [← hQ37] at zp37
      obtain ⟨bx, by_, bw, bs, bd, bo, bk, bp, blo⟩ := Q37
      have zqk37 := zp37.2.2
      rw [zp37.2.1] at zqk37
      have zt37 := zp37.2.1
      simp only [Prod.mk.injEq] at zt37
      have zrg37 : (-1 ≤ bx ∧ bx ≤ 20) ∧ (-1 ≤ by_ ∧ by_ ≤ 20) ∧ (-1 ≤ bw ∧ bw ≤ 7) := by { rcases zqk37.1 with zq | zq; (omega); (have zi := sIn_iff.mp zq.1; omega) }
      refine y_aload_n (pc := 40) hF dX11_reach_40 0 rfl ?_
      refine y_get (pc := 41) (ci := 11) hF dX11_reach_41 (by omega) rfl rfl rfl iX11 19 (by decide) w_1266 rfl ?_
      rw [show σ37 155 19 = bx from zt37.1]
      refine y_istore (pc := 44) (lv' := [(0, yR g 155), (1, yI x), (2, yI y), (3, yI a), (4, yI bx)]) hF dX11_reach_44 (by decide) rfl rfl ?_
      refine y_aload_n (pc := 46) hF dX11_reach_46 0 rfl ?_
      refine y_get (pc := 47) (ci := 11) hF dX11_reach_47 (by omega) rfl rfl rfl iX11 20 (by decide) w_1267 rfl ?_
      rw [show σ37 155 20 = by_ from zt37.2.1]
      refine y_istore (pc := 50) (lv' := [(0, yR g 155), (1, yI x), (2, yI y), (3, yI a), (4, yI bx), (5, yI by_)]) hF dX11_reach_50 (by decide) rfl rfl ?_
      refine y_aload_n (pc := 52) hF dX11_reach_52 0 rfl ?_
      refine y_get (pc := 53) (ci := 11) hF dX11_reach_53 (by omega) rfl rfl rfl iX11 21 (by decide) w_1268 rfl ?_
      rw [show σ37 155 21 = bw from zt37.2.2.1]
      refine y_istore (pc := 56) (lv' := [(0, yR g 155), (1, yI x), (2, yI y), (3, yI a), (4, yI bx), (5, yI by_), (6, yI bw)]) hF dX11_reach_56 (by decide) rfl rfl ?_
      refine y_iload (pc := 58) hF dX11_reach_58 4 rfl ?_
      refine y_iconst (pc := 60) hF dX11_reach_60 ?_
      refine y_icmp_ne (pc := 61) hF dX11_reach_61 66 rfl (by omega) (by omega) (fun zc61 => ?_) (fun zc61 => ?_)
      · skip
        have zin : sIn w h bx by_ = true := by { rcases zqk37.1 with zq | zq; (exact absurd zq.1 zc61); (exact zq.1) }
        have zri := fun (r : Int) => rr_iff (by have zt := sSe_rr hA.1 (fo := fo) (tu := tu) (we := we) (sh := sh) (r := r) ⟨by omega, hs1.2⟩ zb8; rw [← hQ37] at zt; exact zt) zc61
        refine y_iconst (pc := 66) hF dX11_reach_66 ?_
        refine y_istore (pc := 67) (lv' := [(0, yR g 155), (1, yI x), (2, yI y), (3, yI a), (4, yI bx), (5, yI by_), (6, yI bw), (7, yI 1)]) hF dX11_reach_67 (by decide) rfl rfl ?_
        have zL69 : ∀ (N : Nat) (τ : yM) (k : Int), N = (21 - k).toNat → (fR 16 26 σ0 τ ∧ (1 ≤ k ∧ k ≤ 21) ∧ ∀ r : Int, 1 ≤ r → r < k → ¬ (if a = 0 then (sSe w h T S F s fo tu we sh x y r).1 ≠ -1 else ((sSe w h T S F s fo tu we sh x y r).1 = bx ∧ (sSe w h T S F s fo tu we sh x y r).2.1 = by_ ∧ (sSe w h T S F s fo tu we sh x y r).2.2.1 = bw))) → yV X0 g 8 (yQ X0 g (SC g) (yPi (fun zv n' σ' => n ≤ n' ∧ (((sIn w h x y = true) ∧ (a = 0 ∨ a = 1) ∧ zv = reV w h T S F s fo tu we sh x y a ∧ mO σ σ' (w, h, (T, S, F, P, O, nf, df, nl, lg), (s, re, fo, ra, tu, we, sh), H, ht, K, tl, tb, fa, r1, r2) 0) ∨ (¬ (sIn w h x y = true) ∧ mO σ σ' (bN (w, h, (T, S, F, P, O, nf, df, nl, lg), (s, re, fo, ra, tu, we, sh), H, ht, K, tl, tb, fa, r1, r2)) 1) ∨ ((sIn w h x y = true) ∧ ¬ (a = 0 ∨ a = 1) ∧ mO σ σ' (bA (w, h, (T, S, F, P, O, nf, df, nl, lg), (s, re, fo, ra, tu, we, sh), H, ht, K, tl, tb, fa, r1, r2)) 2)))) (rmL 7)) (SC g) n τ 0 0 69 [(0, yR g 155), (1, yI x), (2, yI y), (3, yI a), (4, yI bx), (5, yI by_), (6, yI bw), (7, yI k)] [] := by
          intro N
          induction N using Nat.strongRecOn with
          | ind N zh69 =>
            intro τ  k  zN69 zI69
            have zA_τ := zA_σ0.fR hz zI69.1
            have zS_τ := zS_σ0.fR (by omega) zI69.1
            have zO_τ := zO_σ0.fR zI69.1 (by omega) (by omega)
            refine y_iload (pc := 69) hF dX11_reach_69 7 rfl ?_
            refine y_bipush (pc := 71) hF dX11_reach_71 (by decide) ?_
            refine y_icmp_gt (pc := 73) hF dX11_reach_73 136 rfl (by omega) (by omega) (fun zc73 => ?_) (fun zc73 => ?_)
            · skip
              refine y_iconst (pc := 136) hF dX11_reach_136 ?_
              exact y_iret (pc := 137) hF dX11_reach_137 (Nat.zero_le _) (Nat.zero_le _) ⟨_, rfl, Nat.le_refl _, Or.inl ⟨zb8, (by omega), (by exfalso; have zt := zI69.2.2 20 (by omega) (by omega); rw [← hQ37] at zt; split at zt; (exact zt zc61); (exact zt ⟨rfl, rfl, rfl⟩)), zO_τ⟩⟩
            · skip
              refine y_aload_n (pc := 76) hF dX11_reach_76 0 rfl ?_
              refine y_iconst (pc := 77) hF dX11_reach_77 ?_
              refine y_iload_n (pc := 78) hF dX11_reach_78 1 rfl ?_
              refine y_iload_n (pc := 79) hF dX11_reach_79 2 rfl ?_
              refine y_iload (pc := 80) hF dX11_reach_80 7 rfl ?_
              refine y_cv (y_rV (pc := 82) hF (tX11_searches 0 w h T S F P O s re fo ra tu we sh hn (by omega) zA_τ zS_τ x y zb8 k (by omega)) dX11_reach_82 (by omega) rfl rfl rfl w_1576 qX11_searches rfl ⟨Nat.le_of_ble_eq_true rfl, Nat.le_of_ble_eq_true rfl⟩ ⟨Nat.zero_le _, Nat.zero_le _⟩ (Nat.le_of_ble_eq_true rfl) rfl) rfl rfl (fun n' σ82 zp82 => ?_)
              obtain ⟨zn82, zp82⟩ := zp82
              have zn82 := zn82.symm
              subst zn82
              have zA_σ82 := zA_τ.fR hz zp82.1
              have zS_σ82 := zS_τ.fR (by omega) zp82.1
              have zO_σ82 := zO_τ.fR zp82.1 (by omega) (by omega)
              have zL_σ82 := zO_σ82.2.2.1.2
              obtain ⟨Q82, hQ82⟩ : ∃ q, q = (sSe w h T S F s fo tu we sh x y k) := ⟨_, rfl⟩
              rw [← hQ82] at zp82
              obtain ⟨cx, cy_, cw, cs, cd, co, ck, cp, clo⟩ := Q82
              have zqk82 := zp82.2.2
              rw [zp82.2.1] at zqk82
              have zt82 := zp82.2.1
              simp only [Prod.mk.injEq] at zt82
              have zrg82 : (-1 ≤ cx ∧ cx ≤ 20) ∧ (-1 ≤ cy_ ∧ cy_ ≤ 20) ∧ (-1 ≤ cw ∧ cw ≤ 7) := by { rcases zqk82.1 with zq | zq; (omega); (have zi := sIn_iff.mp zq.1; omega) }
              refine y_iload_n (pc := 85) hF dX11_reach_85 3 rfl ?_
              refine y_if_ne (pc := 86) hF dX11_reach_86 100 rfl (by omega) (fun zc86 => ?_) (fun zc86 => ?_)
              · skip
                refine y_aload_n (pc := 100) hF dX11_reach_100 0 rfl ?_
                refine y_get (pc := 101) (ci := 11) hF dX11_reach_101 (by omega) rfl rfl rfl iX11 19 (by decide) w_1266 rfl ?_
                rw [show σ82 155 19 = cx from zt82.1]
                refine y_iload (pc := 104) hF dX11_reach_104 4 rfl ?_
                refine y_icmp_ne (pc := 106) hF dX11_reach_106 130 rfl (by omega) (by omega) (fun zc106 => ?_) (fun zc106 => ?_)
                · skip
                  refine y_iinc (pc := 130) (lv' := [(0, yR g 155), (1, yI x), (2, yI y), (3, yI a), (4, yI bx), (5, yI by_), (6, yI bw), (7, yI (k + 1))]) hF dX11_reach_130 7 rfl (by decide) rfl rfl ?_
                  refine y_goto (pc := 133) hF dX11_reach_133 69 rfl ?_
                  exact zh69 _ (by omega) σ82 (k + 1) rfl ⟨zI69.1.tr zp82.1, by omega, fun r h1 h2 => by { rcases Decidable.em (r = k) with zr | zr; (rw [zr, ← hQ82, if_neg zc86]; exact fun ze => zc106 ze.1); (exact zI69.2.2 r h1 (by omega)) }⟩
                · skip
                  refine y_aload_n (pc := 109) hF dX11_reach_109 0 rfl ?_
                  refine y_get (pc := 110) (ci := 11) hF dX11_reach_110 (by omega) rfl rfl rfl iX11 20 (by decide) w_1267 rfl ?_
                  rw [show σ82 155 20 = cy_ from zt82.2.1]
                  refine y_iload (pc := 113) hF dX11_reach_113 5 rfl ?_
                  refine y_icmp_ne (pc := 115) hF dX11_reach_115 130 rfl (by omega) (by omega) (fun zc115 => ?_) (fun zc115 => ?_)
                  · skip
                    refine y_iinc (pc := 130) (lv' := [(0, yR g 155), (1, yI x), (2, yI y), (3, yI a), (4, yI bx), (5, yI by_), (6, yI bw), (7, yI (k + 1))]) hF dX11_reach_130 7 rfl (by decide) rfl rfl ?_
                    refine y_goto (pc := 133) hF dX11_reach_133 69 rfl ?_
                    exact zh69 _ (by omega) σ82 (k + 1) rfl ⟨zI69.1.tr zp82.1, by omega, fun r h1 h2 => by { rcases Decidable.em (r = k) with zr | zr; (rw [zr, ← hQ82, if_neg zc86]; exact fun ze => zc115 ze.2.1); (exact zI69.2.2 r h1 (by omega)) }⟩
                  · skip
                    refine y_aload_n (pc := 118) hF dX11_reach_118 0 rfl ?_
                    refine y_get (pc := 119) (ci := 11) hF dX11_reach_119 (by omega) rfl rfl rfl iX11 21 (by decide) w_1268 rfl ?_
                    rw [show σ82 155 21 = cw from zt82.2.2.1]
                    refine y_iload (pc := 122) hF dX11_reach_122 6 rfl ?_
                    refine y_icmp_ne (pc := 124) hF dX11_reach_124 130 rfl (by omega) (by omega) (fun zc124 => ?_) (fun zc124 => ?_)
                    · skip
                      refine y_iinc (pc := 130) (lv' := [(0, yR g 155), (1, yI x), (2, yI y), (3, yI a), (4, yI bx), (5, yI by_), (6, yI bw), (7, yI (k + 1))]) hF dX11_reach_130 7 rfl (by decide) rfl rfl ?_
                      refine y_goto (pc := 133) hF dX11_reach_133 69 rfl ?_
                      exact zh69 _ (by omega) σ82 (k + 1) rfl ⟨zI69.1.tr zp82.1, by omega, fun r h1 h2 => by { rcases Decidable.em (r = k) with zr | zr; (rw [zr, ← hQ82, if_neg zc86]; exact fun ze => zc124 ze.2.2); (exact zI69.2.2 r h1 (by omega)) }⟩
                    · skip
                      refine y_iload (pc := 127) hF dX11_reach_127 7 rfl ?_
                      exact y_iret (pc := 129) hF dX11_reach_129 (Nat.zero_le _) (Nat.zero_le _) ⟨_, rfl, Nat.le_refl _, Or.inl ⟨zb8, (by omega), (by unfold reV; rw [if_neg zc86, ← hQ37, if_neg zc61]; show k = rTo w x y (by_ * w + bx); rw [rTo_at zin]; have z1 := (zri k).mp (by rw [← hQ82]; exact ⟨zc106, zc115, zc124⟩); have zf : ∀ r : Int, sNr x y bx by_ r = true ↔ (((x - bx).natAbs : Int) ≤ r ∧ ((y - by_).natAbs : Int) ≤ r) := fun r => (by unfold sNr; simp only [Bool.and_eq_true, decide_eq_true_eq]); have z2 := (zf k).mp z1; rcases Decidable.em (k = 1) with zk | zk; (omega); (have zt := zI69.2.2 (k - 1) (by omega) (by omega); rw [if_neg zc86] at zt; have z3 : ¬ sNr x y bx by_ (k - 1) = true := fun ze => zt ((zri (k - 1)).mpr ze); rw [zf] at z3; omega)), zO_σ82⟩⟩
              · skip
                refine y_aload_n (pc := 89) hF dX11_reach_89 0 rfl ?_
                refine y_get (pc := 90) (ci := 11) hF dX11_reach_90 (by omega) rfl rfl rfl iX11 19 (by decide) w_1266 rfl ?_
                rw [show σ82 155 19 = cx from zt82.1]
                refine y_iconst (pc := 93) hF dX11_reach_93 ?_
                refine y_icmp_eq (pc := 94) hF dX11_reach_94 130 rfl (by omega) (by omega) (fun zc94 => ?_) (fun zc94 => ?_)
                · skip
                  refine y_iinc (pc := 130) (lv' := [(0, yR g 155), (1, yI x), (2, yI y), (3, yI a), (4, yI bx), (5, yI by_), (6, yI bw), (7, yI (k + 1))]) hF dX11_reach_130 7 rfl (by decide) rfl rfl ?_
                  refine y_goto (pc := 133) hF dX11_reach_133 69 rfl ?_
                  exact zh69 _ (by omega) σ82 (k + 1) rfl ⟨zI69.1.tr zp82.1, by omega, fun r h1 h2 => by { rcases Decidable.em (r = k) with zr | zr; (rw [zr, ← hQ82, if_pos zc86]; exact fun ze => ze zc94); (exact zI69.2.2 r h1 (by omega)) }⟩
                · skip
                  refine y_goto (pc := 97) hF dX11_reach_97 127 rfl ?_
                  refine y_iload (pc := 127) hF dX11_reach_127 7 rfl ?_
                  exact y_iret (pc := 129) hF dX11_reach_129 (Nat.zero_le _) (Nat.zero_le _) ⟨_, rfl, Nat.le_refl _, Or.inl ⟨zb8, (by omega), (by unfold reV; rw [if_pos zc86]; have zl := zlr k (by omega); rw [← hQ82] at zl; have z1 := zl.1.mp zc94; rcases Decidable.em (k = 1) with zk | zk; (omega); (have zt := zI69.2.2 (k - 1) (by omega) (by omega); rw [if_pos zc86] at zt; have z2 := (zlr (k - 1) (by omega)).1; by_cases zle : sLr w h T F s fo x y ≤ k - 1; (exact absurd (z2.mpr ⟨z1.1, zle⟩) zt); omega)), zO_σ82⟩⟩
        exact zL69 _ σ37 (1) rfl ⟨zp37.1, by omega, fun r h1 h2 => by omega⟩
      · skip
        refine y_iconst (pc := 64) hF dX11_reach_64 ?_
        exact y_iret (pc := 65) hF dX11_reach_65 (Nat.zero_le _) (Nat.zero_le _) ⟨_, rfl, Nat.le_refl _, Or.inl ⟨zb8, (by omega), (by unfold reV; rw [← hQ37]; have zl := zlr 20 (by omega); rw [← hQ37] at zl; split; (rcases zl.2 with zq | zq; (exact zq.symm); (exfalso; exact (zl.1.mpr ⟨by omega, by omega⟩) zc61)); (first | rfl | rw [if_pos zc61])), zO_σ37⟩⟩
    · subst zv23; subst zs23
      refine y_if_ne (pc := 26) hF dX11_reach_26 31 rfl (by decide) (fun zc26 => absurd zc26 (by decide)) (fun _ => ?_)
      refine y_iconst (pc := 29) hF dX11_reach_29 ?_
      exact y_iret (pc := 30) hF dX11_reach_30 (Nat.zero_le _) (Nat.zero_le _) ⟨_, rfl, Nat.le_refl _, Or.inr (Or.inr ⟨zb8, (fun ze => by simp at zb23; omega), zO_σ0.bA 2⟩)⟩
  · subst zv8; subst zs8
    refine y_if_eq (pc := 11) hF dX11_reach_11 29 rfl (by decide) (fun _ => ?_) (fun zc11 => absurd zc11 (by decide))
    refine y_iconst (pc := 29) hF dX11_reach_29 ?_
    exact y_iret (pc := 30) hF dX11_reach_30 (Nat.zero_le _) (Nat.zero_le _) ⟨_, rfl, Nat.le_refl _, Or.inr (Or.inl ⟨(by rw [zb8]; decide), zO_σ0.bN 1⟩)⟩
