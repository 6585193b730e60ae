theorem dX11_ahead_0 : decode cX11_ahead 0 = .ok (.aload_n 0, 1) := by decide +kernel
theorem dX11_ahead_1 : decode cX11_ahead 1 = .ok (.iconst 0, 1) := by decide +kernel
theorem dX11_ahead_2 : decode cX11_ahead 2 = .ok (.putfield 1, 3) := by decide +kernel
theorem dX11_ahead_5 : decode cX11_ahead 5 = .ok (.aload_n 0, 1) := by decide +kernel
theorem dX11_ahead_6 : decode cX11_ahead 6 = .ok (.iload_n 1, 1) := by decide +kernel
theorem dX11_ahead_7 : decode cX11_ahead 7 = .ok (.iconst 1, 1) := by decide +kernel
theorem dX11_ahead_8 : decode cX11_ahead 8 = .ok (.bipush 60, 2) := by decide +kernel
theorem dX11_ahead_10 : decode cX11_ahead 10 = .ok (.invokestatic 68, 3) := by decide +kernel
theorem dX11_ahead_13 : decode cX11_ahead 13 = .ok (.ifCond .eq 16, 3) := by decide +kernel
theorem dX11_ahead_16 : decode cX11_ahead 16 = .ok (.iload_n 2, 1) := by decide +kernel
theorem dX11_ahead_17 : decode cX11_ahead 17 = .ok (.iconst 0, 1) := by decide +kernel
theorem dX11_ahead_18 : decode cX11_ahead 18 = .ok (.iconst 4, 1) := by decide +kernel
theorem dX11_ahead_19 : decode cX11_ahead 19 = .ok (.invokestatic 68, 3) := by decide +kernel
theorem dX11_ahead_22 : decode cX11_ahead 22 = .ok (.ifCond .eq 7, 3) := by decide +kernel
theorem dX11_ahead_25 : decode cX11_ahead 25 = .ok (.iconst 1, 1) := by decide +kernel
theorem dX11_ahead_26 : decode cX11_ahead 26 = .ok (.goto 4, 3) := by decide +kernel
theorem dX11_ahead_29 : decode cX11_ahead 29 = .ok (.iconst 0, 1) := by decide +kernel
theorem dX11_ahead_30 : decode cX11_ahead 30 = .ok (.iconst 1, 1) := by decide +kernel
theorem dX11_ahead_31 : decode cX11_ahead 31 = .ok (.iconst 1, 1) := by decide +kernel
theorem dX11_ahead_32 : decode cX11_ahead 32 = .ok (.invokevirtual 284, 3) := by decide +kernel
theorem dX11_ahead_35 : decode cX11_ahead 35 = .ok (.ifCond .ne 5, 3) := by decide +kernel
theorem dX11_ahead_38 : decode cX11_ahead 38 = .ok (.iconst 0, 1) := by decide +kernel
theorem dX11_ahead_39 : decode cX11_ahead 39 = .ok (.ireturn, 1) := by decide +kernel
theorem dX11_ahead_40 : decode cX11_ahead 40 = .ok (.aload_n 0, 1) := by decide +kernel
theorem dX11_ahead_41 : decode cX11_ahead 41 = .ok (.invokevirtual 314, 3) := by decide +kernel
theorem dX11_ahead_44 : decode cX11_ahead 44 = .ok (.aload_n 0, 1) := by decide +kernel
theorem dX11_ahead_45 : decode cX11_ahead 45 = .ok (.iconst 0, 1) := by decide +kernel
theorem dX11_ahead_46 : decode cX11_ahead 46 = .ok (.iconst 0, 1) := by decide +kernel
theorem dX11_ahead_47 : decode cX11_ahead 47 = .ok (.iload_n 1, 1) := by decide +kernel
theorem dX11_ahead_48 : decode cX11_ahead 48 = .ok (.invokevirtual 235, 3) := by decide +kernel
theorem dX11_ahead_51 : decode cX11_ahead 51 = .ok (.istore_n 3, 1) := by decide +kernel
theorem dX11_ahead_52 : decode cX11_ahead 52 = .ok (.iload_n 2, 1) := by decide +kernel
theorem dX11_ahead_53 : decode cX11_ahead 53 = .ok (.ifCond .ne 10, 3) := by decide +kernel
theorem dX11_ahead_56 : decode cX11_ahead 56 = .ok (.aload_n 0, 1) := by decide +kernel
theorem dX11_ahead_57 : decode cX11_ahead 57 = .ok (.invokevirtual 294, 3) := by decide +kernel
theorem dX11_ahead_60 : decode cX11_ahead 60 = .ok (.goto 66, 3) := by decide +kernel
theorem dX11_ahead_63 : decode cX11_ahead 63 = .ok (.iload_n 2, 1) := by decide +kernel
theorem dX11_ahead_64 : decode cX11_ahead 64 = .ok (.iconst 1, 1) := by decide +kernel
theorem dX11_ahead_65 : decode cX11_ahead 65 = .ok (.if_icmp .ne 7, 3) := by decide +kernel
theorem dX11_ahead_68 : decode cX11_ahead 68 = .ok (.iload_n 3, 1) := by decide +kernel
theorem dX11_ahead_69 : decode cX11_ahead 69 = .ok (.goto 57, 3) := by decide +kernel
theorem dX11_ahead_72 : decode cX11_ahead 72 = .ok (.iload_n 2, 1) := by decide +kernel
theorem dX11_ahead_73 : decode cX11_ahead 73 = .ok (.iconst 2, 1) := by decide +kernel
theorem dX11_ahead_74 : decode cX11_ahead 74 = .ok (.if_icmp .ne 25, 3) := by decide +kernel
theorem dX11_ahead_77 : decode cX11_ahead 77 = .ok (.aload_n 0, 1) := by decide +kernel
theorem dX11_ahead_78 : decode cX11_ahead 78 = .ok (.getfield 19, 3) := by decide +kernel
theorem dX11_ahead_81 : decode cX11_ahead 81 = .ok (.iconst 0, 1) := by decide +kernel
theorem dX11_ahead_82 : decode cX11_ahead 82 = .ok (.aaload, 1) := by decide +kernel
theorem dX11_ahead_83 : decode cX11_ahead 83 = .ok (.sipush 2001, 3) := by decide +kernel
theorem dX11_ahead_86 : decode cX11_ahead 86 = .ok (.iaload, 1) := by decide +kernel
theorem dX11_ahead_87 : decode cX11_ahead 87 = .ok (.aload_n 0, 1) := by decide +kernel
theorem dX11_ahead_88 : decode cX11_ahead 88 = .ok (.getfield 28, 3) := by decide +kernel
theorem dX11_ahead_91 : decode cX11_ahead 91 = .ok (.sipush 2001, 3) := by decide +kernel
theorem dX11_ahead_94 : decode cX11_ahead 94 = .ok (.iaload, 1) := by decide +kernel
theorem dX11_ahead_95 : decode cX11_ahead 95 = .ok (.isub, 1) := by decide +kernel
theorem dX11_ahead_96 : decode cX11_ahead 96 = .ok (.goto 30, 3) := by decide +kernel
theorem dX11_ahead_99 : decode cX11_ahead 99 = .ok (.iload_n 2, 1) := by decide +kernel
theorem dX11_ahead_100 : decode cX11_ahead 100 = .ok (.iconst 3, 1) := by decide +kernel
theorem dX11_ahead_101 : decode cX11_ahead 101 = .ok (.if_icmp .ne 21, 3) := by decide +kernel
theorem dX11_ahead_104 : decode cX11_ahead 104 = .ok (.aload_n 0, 1) := by decide +kernel
theorem dX11_ahead_105 : decode cX11_ahead 105 = .ok (.getfield 297, 3) := by decide +kernel
theorem dX11_ahead_108 : decode cX11_ahead 108 = .ok (.ifCond .eq 10, 3) := by decide +kernel
theorem dX11_ahead_111 : decode cX11_ahead 111 = .ok (.aload_n 0, 1) := by decide +kernel
theorem dX11_ahead_112 : decode cX11_ahead 112 = .ok (.invokevirtual 354, 3) := by decide +kernel
theorem dX11_ahead_115 : decode cX11_ahead 115 = .ok (.goto 11, 3) := by decide +kernel
theorem dX11_ahead_118 : decode cX11_ahead 118 = .ok (.iconst (-1), 1) := by decide +kernel
theorem dX11_ahead_119 : decode cX11_ahead 119 = .ok (.goto 7, 3) := by decide +kernel
theorem dX11_ahead_122 : decode cX11_ahead 122 = .ok (.aload_n 0, 1) := by decide +kernel
theorem dX11_ahead_123 : decode cX11_ahead 123 = .ok (.invokevirtual 357, 3) := by decide +kernel
theorem dX11_ahead_126 : decode cX11_ahead 126 = .ok (.istore 4, 2) := by decide +kernel
theorem dX11_ahead_128 : decode cX11_ahead 128 = .ok (.aload_n 0, 1) := by decide +kernel
theorem dX11_ahead_129 : decode cX11_ahead 129 = .ok (.invokevirtual 360, 3) := by decide +kernel
theorem dX11_ahead_132 : decode cX11_ahead 132 = .ok (.iload 4, 2) := by decide +kernel
theorem dX11_ahead_134 : decode cX11_ahead 134 = .ok (.ireturn, 1) := by decide +kernel
set_option maxHeartbeats 4000000 in
set_option maxRecDepth 100000 in
theorem tX11_ahead {l : Launch} {g : yG} {n : Nat} {σ : yM} (hn : 172 ≤ n) (w h : Int) (T S F P O : Int → Int → Int) (nf df nl : Int) (lg : Int → Int → Int) (s re fo ra tu we sh : Int) (H : List aX) (ht : Bool) (K : Int → Int → Int) (tl : Int) (tb : Int → Int) (fa r1 r2 N : Int) (hV : mV σ (w, h, (T, S, F, P, O, nf, df, nl, lg), (s, re, fo, ra, tu, we, sh), H, ht, K, tl, tb, fa, r1, r2)) (hW : aW N (w, h, (T, S, F, P, O, nf, df, nl, lg), (s, re, fo, ra, tu, we, sh), H, ht, K, tl, tb, fa, r1, r2)) (a b : Int) (ha : -2147483648 ≤ a ∧ a < 2147483648) (hb : -2147483648 ≤ b ∧ b < 2147483648)(hNb : N ≤ 400000000)  : yMet l g yX11_ahead cX11_ahead 5 (some .int) (rmA 11 101 909) [yR g 155, yI a, yI b] (SC g) n σ (SC g) (yPi (fun zv n' σ' => n ≤ n' ∧ ((((1 ≤ a ∧ a ≤ 60) ∧ (0 ≤ b ∧ b ≤ 4)) ∧ zv = ahV w h ht K (gR w h s re fo ra tu we sh 0 a.toNat (x00 T S F P O)).2 b ∧ mO σ σ' (w, h, (T, S, F, P, O, nf, df, nl, lg), (s, re, fo, ra, tu, we, sh), H, ht, K, tl, tb, fa, r1, r2) 0) ∨ (¬ ((1 ≤ a ∧ a ≤ 60) ∧ (0 ≤ b ∧ b ≤ 4)) ∧ mO σ σ' (bA (w, h, (T, S, F, P, O, nf, df, nl, lg), (s, re, fo, ra, tu, we, sh), H, ht, K, tl, tb, fa, r1, r2)) 1)))) := by
  obtain ⟨⟨hA, hL⟩, hS, hH, ⟨hb1, hb2⟩, ⟨ht1, ht2⟩, hfa, hr1, hr2⟩ := id hV
  obtain ⟨hw1, hw2, hw3, hw4⟩ := id hA.1.1
  obtain ⟨hs1, hs2, hs3, hs4, hs5, hs6, hs7⟩ := id hS.2
  have hz : (0 : Nat) < 3 := by omega
  have hnf : nf < 800000000 := by have := hW.1.1; simp only [xNf] at this; omega
  have hnf0 : 0 ≤ nf := hL.2.2.2.1.1
  have hdl : 0 ≤ (H.length : Int) ∧ (H.length : Int) ≤ 10 := by have := hH.2.1; omega
  refine y_start (by decide) (Nat.le_of_ble_eq_true rfl) (fun X0 hF => ?_)
  show yV X0 g 5 (yQ X0 g (SC g) (yPi (fun zv n' σ' => n ≤ n' ∧ ((((1 ≤ a ∧ a ≤ 60) ∧ (0 ≤ b ∧ b ≤ 4)) ∧ zv = ahV w h ht K (gR w h s re fo ra tu we sh 0 a.toNat (x00 T S F P O)).2 b ∧ mO σ σ' (w, h, (T, S, F, P, O, nf, df, nl, lg), (s, re, fo, ra, tu, we, sh), H, ht, K, tl, tb, fa, r1, r2) 0) ∨ (¬ ((1 ≤ a ∧ a ≤ 60) ∧ (0 ≤ b ∧ b ≤ 4)) ∧ mO σ σ' (bA (w, h, (T, S, F, P, O, nf, df, nl, lg), (s, re, fo, ra, tu, we, sh), H, ht, K, tl, tb, fa, r1, r2)) 1)))) (rmA 11 101 909)) (SC g) n σ 0 0 0 [(0, yR g 155), (1, yI a), (2, yI b)] []
  refine y_aload_n (pc := 0) hF dX11_ahead_0 0 rfl ?_
  refine y_iconst (pc := 1) hF dX11_ahead_1 ?_
  refine y_putf (pc := 2) (ci := 11) (σ' := yset σ 155 0 0) (sch' := (SC g)) hF dX11_ahead_2 (by omega) rfl rfl rfl iX11 0 (by decide) w_1247 tyX11 tyX11_ok nmX11 rfl rfl rfl rfl (Nat.le_of_ble_eq_true rfl) rfl (y_ps rfl) (fun k' h => ⟨yset_n h, rfl⟩) ?_
  obtain ⟨σ0, hσ0⟩ : ∃ s, s = yset σ 155 0 0 := ⟨_, rfl⟩
  rw [← hσ0]
  have zO_σ0 := hV.t0 hσ0
  obtain ⟨⟨zA_σ0, zL_σ0⟩, zS_σ0, zH_σ0, ⟨zb1_σ0, zb2_σ0⟩, ⟨zt1_σ0, zt2_σ0⟩, zfa_σ0, zr1_σ0, zr2_σ0⟩ := id zO_σ0.2.2
  have zJ30 : ∀ (zb : Bool), (zb = decide ((1 ≤ a ∧ a ≤ 60) ∧ (0 ≤ b ∧ b ≤ 4))) → yV X0 g 5 (yQ X0 g (SC g) (yPi (fun zv n' σ' => n ≤ n' ∧ ((((1 ≤ a ∧ a ≤ 60) ∧ (0 ≤ b ∧ b ≤ 4)) ∧ zv = ahV w h ht K (gR w h s re fo ra tu we sh 0 a.toNat (x00 T S F P O)).2 b ∧ mO σ σ' (w, h, (T, S, F, P, O, nf, df, nl, lg), (s, re, fo, ra, tu, we, sh), H, ht, K, tl, tb, fa, r1, r2) 0) ∨ (¬ ((1 ≤ a ∧ a ≤ 60) ∧ (0 ≤ b ∧ b ≤ 4)) ∧ mO σ σ' (bA (w, h, (T, S, F, P, O, nf, df, nl, lg), (s, re, fo, ra, tu, we, sh), H, ht, K, tl, tb, fa, r1, r2)) 1)))) (rmA 11 101 909)) (SC g) n σ0 0 0 30 [(0, yR g 155), (1, yI a), (2, yI b)] [yI (bi zb), yR g 155] := by
    intro zb  zhb
    refine y_iconst (pc := 30) hF dX11_ahead_30 ?_
    refine y_iconst (pc := 31) hF dX11_ahead_31 ?_
    refine y_ci (y_rV (pc := 32) hF (tX11_isFine hn zO_σ0.2.1 zb 1 1 (by decide) (by decide)) dX11_ahead_32 (by omega) rfl rfl rfl w_1395 qX11_isFine rfl ⟨Nat.le_of_ble_eq_true rfl, Nat.le_of_ble_eq_true rfl⟩ ⟨Nat.le_of_ble_eq_true rfl, Nat.le_of_ble_eq_true rfl⟩ (Nat.le_of_ble_eq_true rfl) rfl) rfl rfl (fun r32 n' σ32 zp32 => ?_)
    obtain ⟨zn32, zp32⟩ := zp32
    have zn32 := zn32.symm
    subst zn32
    rcases zp32 with ⟨zb32, zv32, zs32⟩ | ⟨zb32, zv32, zs32⟩
    · subst zv32; have zs32 := zs32.symm; subst zs32
      refine y_if_ne (pc := 35) hF dX11_ahead_35 40 rfl (by decide) (fun _ => ?_) (fun zc35 => absurd zc35 (by decide))
      rw [zhb] at zb32
      have zok : (1 ≤ a ∧ a ≤ 60) ∧ (0 ≤ b ∧ b ≤ 4) := by simpa using zb32
      refine y_aload_n (pc := 40) hF dX11_ahead_40 0 rfl ?_
      refine y_cv (y_rV (pc := 41) hF (tX11_laysAside hn) dX11_ahead_41 (by omega) rfl rfl rfl w_1484 qX11_laysAside rfl ⟨Nat.le_of_ble_eq_true rfl, Nat.le_of_ble_eq_true rfl⟩ ⟨Nat.le_of_ble_eq_true rfl, Nat.le_of_ble_eq_true rfl⟩ (Nat.le_of_ble_eq_true rfl) rfl) rfl rfl (fun n' σ41 zp41 => ?_)
      obtain ⟨zn41, zp41⟩ := zp41
      have zn41 := zn41.symm
      subst zn41
      have zA_σ41 := zA_σ0.fr (zp41.1 _ (by omega)) (zp41.1 _ (by omega)) (fun i _ _ => by rw [zp41.1 _ (by omega)])
      have zL_σ41 : rL σ41 0 nf df nl lg := zL_σ0.hi (fun j _ => by rw [zp41.1 158 (by omega)])
      have zS_σ41 := zS_σ0.fr (zp41.1 166 (by omega))
      have zB41 : rB σ41 163 0 w h (T, S, F, P, O, nf, df, nl, lg) := (rX.b (X := (T, S, F, P, O, nf, df, nl, lg)) ⟨zA_σ0, zL_σ0⟩).cp (fun j a b => by rw [Int.zero_add]; exact zp41.2 j a b)
      have zy41 : gY σ0 σ41 := zp41.1.g (by omega)
      refine y_aload_n (pc := 44) hF dX11_ahead_44 0 rfl ?_
      refine y_iconst (pc := 45) hF dX11_ahead_45 ?_
      refine y_iconst (pc := 46) hF dX11_ahead_46 ?_
      refine y_iload_n (pc := 47) hF dX11_ahead_47 1 rfl ?_
      refine y_ci (cells' := 101) (slots' := 909) (y_rV (pc := 48) hF (tX11_fillsAll 0 w h T S F P O w h T S F P O s re fo ra tu we sh nf df nl lg false hn (by omega) zA_σ41 zL_σ41 hnf (fun ze => by cases ze) zS_σ41 a (by omega)) dX11_ahead_48 (by omega) rfl rfl rfl w_1488 qX11_fillsAll rfl ⟨Nat.le_of_ble_eq_true rfl, Nat.le_of_ble_eq_true rfl⟩ ⟨Nat.le_of_ble_eq_true rfl, Nat.le_of_ble_eq_true rfl⟩ (Nat.le_of_ble_eq_true rfl) rfl) rfl rfl (fun r48 n48 σ48 zp48 => ?_)
      obtain ⟨zv48, zn48, zl48, zx48, zz48⟩ := zp48
      rw [zv48]
      have hn : 172 ≤ n48 := by omega
      obtain ⟨R, hR⟩ : ∃ q, q = (gR w h s re fo ra tu we sh 0 a.toNat (T, S, F, P, O, nf, df, nl, lg)).2 := ⟨_, rfl⟩
      obtain ⟨R0, hR0⟩ : ∃ q, q = (gR w h s re fo ra tu we sh 0 a.toNat (x00 T S F P O)).2 := ⟨_, rfl⟩
      have zsm := gR_sim (w := w) (h := h) (s := s) (re := re) (fo := fo) (ra := ra) (tu := tu) (we := we) (sh := sh) (lv := 0) (n := a.toNat) (T := T) (S := S) (F := F) (P := P) (O := O) (nf := nf) (df := df) (nl := nl) (lg := lg) hnf0
      rw [← hR, ← hR0] at zsm
      have zXR : rX σ48 0 w h R := by rw [hR]; exact zx48
      obtain ⟨T1, S1, F1, P1, O1, nf1, df1, nl1, lg1⟩ := R
      have zT : T1 = R0.1 := zsm.2.1.1
      have zSs : S1 = R0.2.1 := zsm.2.1.2.1
      have zFs : ∀ i j, 0 < F1 i j ↔ 0 < R0.2.2.1 i j := zsm.2.1.2.2.1
      have zDf : df1 - df = xDf R0 := zsm.2.2.1
      have zkc := sKn_cnt (T := T1) (w := w) (h := h) (by omega) (by omega)
      have zyR : gY σ0 σ48 := zy41.tr (zz48.y (by omega)).g
      have zBR : rB σ48 163 0 w h (T, S, F, P, O, nf, df, nl, lg) := zB41.cp (fun j _ _ => by rw [zz48.cell (by omega) (by omega) (by omega)])
      have zHR : mH σ48 w h H := zH_σ0.fr (by rw [zz48 155 8 (by omega) (by omega) (by omega), zp41.1 155 (by omega)]) (by rw [zz48.cell (by omega) (by omega) (by omega), zp41.1 164 (by omega)])
      have zhKR : ht = true → ∀ x y : Int, 0 ≤ x → x < w → 0 ≤ y → y < h → σ48 165 (20 * y + x) = K x y ∧ -1 ≤ K x y ∧ K x y ≤ 255 := fun zq x y a b c d => ⟨by rw [zyR.cell (by omega) (by omega)]; exact zb2_σ0 zq x y a b c d, hW.2.2.1 zq x y a b c d⟩
      have zdA : σ48 163 2001 = df := by have zt := zBR.2.2; rw [Int.zero_add] at zt; exact zt.2.1
      refine y_istore_n (pc := 51) (lv' := [(0, yR g 155), (1, yI a), (2, yI b), (3, yI (((gR w h s re fo ra tu we sh 0 a.toNat (T, S, F, P, O, nf, df, nl, lg)).1 : Nat) : Int))]) hF dX11_ahead_51 (by decide) rfl rfl ?_
      refine y_iload_n (pc := 52) hF dX11_ahead_52 2 rfl ?_
      refine y_if_ne (pc := 53) hF dX11_ahead_53 63 rfl (by omega) (fun zc53 => ?_) (fun zc53 => ?_)
      · skip
        refine y_iload_n (pc := 63) hF dX11_ahead_63 2 rfl ?_
        refine y_iconst (pc := 64) hF dX11_ahead_64 ?_
        refine y_icmp_ne (pc := 65) hF dX11_ahead_65 72 rfl (by omega) (by omega) (fun zc65 => ?_) (fun zc65 => ?_)
        · skip
          refine y_iload_n (pc := 72) hF dX11_ahead_72 2 rfl ?_
          refine y_iconst (pc := 73) hF dX11_ahead_73 ?_
          refine y_icmp_ne (pc := 74) hF dX11_ahead_74 99 rfl (by omega) (by omega) (fun zc74 => ?_) (fun zc74 => ?_)
          · skip
            refine y_iload_n (pc := 99) hF dX11_ahead_99 2 rfl ?_
            refine y_iconst (pc := 100) hF dX11_ahead_100 ?_
            refine y_icmp_ne (pc := 101) hF dX11_ahead_101 122 rfl (by omega) (by omega) (fun zc101 => ?_) (fun zc101 => ?_)
            · skip
              refine y_aload_n (pc := 122) hF dX11_ahead_122 0 rfl ?_
              have zz123 := y_rV (pc := 123) hF (tX11_leastSure (n := n48) (σ := σ48) w h T1 S1 F1 P1 O1 hn zXR.1) dX11_ahead_123 (by omega) rfl rfl rfl w_1703 qX11_leastSure rfl ⟨Nat.le_of_ble_eq_true rfl, Nat.le_of_ble_eq_true rfl⟩ ⟨Nat.le_of_ble_eq_true rfl, Nat.le_of_ble_eq_true rfl⟩ (Nat.le_of_ble_eq_true rfl) rfl (rest := []) (cells := 101) (slots := 909) (lv := [(0, yR g 155), (1, yI a), (2, yI b), (3, yI (((gR w h s re fo ra tu we sh 0 a.toNat (T, S, F, P, O, nf, df, nl, lg)).1 : Nat) : Int))])
              refine y_cp (zz123) ?_
              refine y_istore (pc := 126) (lv' := [(0, yR g 155), (1, yI a), (2, yI b), (3, yI (((gR w h s re fo ra tu we sh 0 a.toNat (T, S, F, P, O, nf, df, nl, lg)).1 : Nat) : Int)), (4, yI (sLs w h S1 F1))]) hF dX11_ahead_126 (by decide) rfl rfl ?_
              refine y_aload_n (pc := 128) hF dX11_ahead_128 0 rfl ?_
              refine y_cv (y_rV (pc := 129) hF (tX11_laysBack hn) dX11_ahead_129 (by omega) rfl rfl rfl w_1707 qX11_laysBack rfl ⟨Nat.le_of_ble_eq_true rfl, Nat.le_of_ble_eq_true rfl⟩ ⟨Nat.le_of_ble_eq_true rfl, Nat.le_of_ble_eq_true rfl⟩ (Nat.le_of_ble_eq_true rfl) rfl) rfl rfl (fun n' σ129 zp129 => ?_)
              obtain ⟨zn129, zp129⟩ := zp129
              have zn129 := zn129.symm
              subst zn129
              have zXB : rX σ129 0 w h (T, S, F, P, O, nf, df, nl, lg) := (zBR.cp (σ' := σ129) (c' := 158) (o' := 0) (fun j a b => by rw [Int.zero_add]; exact zp129.2 j a b)).x (by rw [zp129.1 161 (by omega)]; exact zXR.1.2.1) (by rw [zp129.1 162 (by omega)]; exact zXR.1.2.2.1)
              have zOB := mO_run zO_σ0 (zyR.tr (zp129.1.g (by omega))) zXB (zHR.fr (by rw [zp129.1 155 (by omega)]) (zp129.1 164 (by omega)))
              refine y_iload (pc := 132) hF dX11_ahead_132 4 rfl ?_
              exact y_iret (pc := 134) hF dX11_ahead_134 (Nat.le_of_ble_eq_true rfl) (Nat.le_of_ble_eq_true rfl) ⟨_, rfl, by omega, Or.inl ⟨zok, (by rw [← hR0]; unfold ahV; rw [if_neg zc53, if_neg zc65, if_neg zc74, if_neg zc101, ← zSs, sLs_sim zFs]), zOB⟩⟩
            · skip
              refine y_aload_n (pc := 104) hF dX11_ahead_104 0 rfl ?_
              refine y_get (pc := 105) (ci := 11) hF dX11_ahead_105 (by omega) rfl rfl rfl iX11 9 (by decide) w_1256 rfl ?_
              rw [show σ48 155 9 = bi ht from (by rw [zyR.j5 (by omega)]; exact zb1_σ0)]
              refine y_if_eq (pc := 108) hF dX11_ahead_108 118 rfl bi_r (fun zc108 => ?_) (fun zc108 => ?_)
              · replace zc108 := bi_0.mp zc108
                refine y_iconst (pc := 118) hF dX11_ahead_118 ?_
                refine y_goto (pc := 119) hF dX11_ahead_119 126 rfl ?_
                refine y_istore (pc := 126) (lv' := [(0, yR g 155), (1, yI a), (2, yI b), (3, yI (((gR w h s re fo ra tu we sh 0 a.toNat (T, S, F, P, O, nf, df, nl, lg)).1 : Nat) : Int)), (4, yI (-1))]) hF dX11_ahead_126 (by decide) rfl rfl ?_
                refine y_aload_n (pc := 128) hF dX11_ahead_128 0 rfl ?_
                refine y_cv (y_rV (pc := 129) hF (tX11_laysBack hn) dX11_ahead_129 (by omega) rfl rfl rfl w_1707 qX11_laysBack rfl ⟨Nat.le_of_ble_eq_true rfl, Nat.le_of_ble_eq_true rfl⟩ ⟨Nat.le_of_ble_eq_true rfl, Nat.le_of_ble_eq_true rfl⟩ (Nat.le_of_ble_eq_true rfl) rfl) rfl rfl (fun n' σ129 zp129 => ?_)
                obtain ⟨zn129, zp129⟩ := zp129
                have zn129 := zn129.symm
                subst zn129
                have zXB : rX σ129 0 w h (T, S, F, P, O, nf, df, nl, lg) := (zBR.cp (σ' := σ129) (c' := 158) (o' := 0) (fun j a b => by rw [Int.zero_add]; exact zp129.2 j a b)).x (by rw [zp129.1 161 (by omega)]; exact zXR.1.2.1) (by rw [zp129.1 162 (by omega)]; exact zXR.1.2.2.1)
                have zOB := mO_run zO_σ0 (zyR.tr (zp129.1.g (by omega))) zXB (zHR.fr (by rw [zp129.1 155 (by omega)]) (zp129.1 164 (by omega)))
                refine y_iload (pc := 132) hF dX11_ahead_132 4 rfl ?_
                exact y_iret (pc := 134) hF dX11_ahead_134 (Nat.le_of_ble_eq_true rfl) (Nat.le_of_ble_eq_true rfl) ⟨_, rfl, by omega, Or.inl ⟨zok, (by rw [← hR0]; unfold ahV; rw [if_neg zc53, if_neg zc65, if_neg zc74, if_pos zc101, if_neg (by rw [zc108]; decide)]), zOB⟩⟩
              · replace zc108 := bi_n0.mp zc108
                refine y_aload_n (pc := 111) hF dX11_ahead_111 0 rfl ?_
                have zz112 := y_rV (pc := 112) hF (tX11_flawNow (n := n48) (σ := σ48) w h T1 S1 F1 P1 O1 hn zXR.1 K (zhKR zc108)) dX11_ahead_112 (by omega) rfl rfl rfl w_1699 qX11_flawNow rfl ⟨Nat.le_of_ble_eq_true rfl, Nat.le_of_ble_eq_true rfl⟩ ⟨Nat.le_of_ble_eq_true rfl, Nat.le_of_ble_eq_true rfl⟩ (Nat.le_of_ble_eq_true rfl) rfl (rest := []) (cells := 101) (slots := 909) (lv := [(0, yR g 155), (1, yI a), (2, yI b), (3, yI (((gR w h s re fo ra tu we sh 0 a.toNat (T, S, F, P, O, nf, df, nl, lg)).1 : Nat) : Int))])
                refine y_cp (zz112) ?_
                refine y_goto (pc := 115) hF dX11_ahead_115 126 rfl ?_
                refine y_istore (pc := 126) (lv' := [(0, yR g 155), (1, yI a), (2, yI b), (3, yI (((gR w h s re fo ra tu we sh 0 a.toNat (T, S, F, P, O, nf, df, nl, lg)).1 : Nat) : Int)), (4, yI (sFw w h T1 F1 K))]) hF dX11_ahead_126 (by decide) rfl rfl ?_
                refine y_aload_n (pc := 128) hF dX11_ahead_128 0 rfl ?_
                refine y_cv (y_rV (pc := 129) hF (tX11_laysBack hn) dX11_ahead_129 (by omega) rfl rfl rfl w_1707 qX11_laysBack rfl ⟨Nat.le_of_ble_eq_true rfl, Nat.le_of_ble_eq_true rfl⟩ ⟨Nat.le_of_ble_eq_true rfl, Nat.le_of_ble_eq_true rfl⟩ (Nat.le_of_ble_eq_true rfl) rfl) rfl rfl (fun n' σ129 zp129 => ?_)
                obtain ⟨zn129, zp129⟩ := zp129
                have zn129 := zn129.symm
                subst zn129
                have zXB : rX σ129 0 w h (T, S, F, P, O, nf, df, nl, lg) := (zBR.cp (σ' := σ129) (c' := 158) (o' := 0) (fun j a b => by rw [Int.zero_add]; exact zp129.2 j a b)).x (by rw [zp129.1 161 (by omega)]; exact zXR.1.2.1) (by rw [zp129.1 162 (by omega)]; exact zXR.1.2.2.1)
                have zOB := mO_run zO_σ0 (zyR.tr (zp129.1.g (by omega))) zXB (zHR.fr (by rw [zp129.1 155 (by omega)]) (zp129.1 164 (by omega)))
                refine y_iload (pc := 132) hF dX11_ahead_132 4 rfl ?_
                exact y_iret (pc := 134) hF dX11_ahead_134 (Nat.le_of_ble_eq_true rfl) (Nat.le_of_ble_eq_true rfl) ⟨_, rfl, by omega, Or.inl ⟨zok, (by rw [← hR0]; unfold ahV; rw [if_neg zc53, if_neg zc65, if_neg zc74, if_pos zc101, if_pos zc108, ← zT, sFw_sim zFs]), zOB⟩⟩
          · skip
            refine y_aload_n (pc := 77) hF dX11_ahead_77 0 rfl ?_
            refine y_get (pc := 78) (ci := 11) hF dX11_ahead_78 (by omega) rfl rfl rfl iX11 2 (by decide) w_1249 rfl ?_
            refine y_iconst (pc := 81) hF dX11_ahead_81 ?_
            refine y_aaM0 (pc := 82) hF dX11_ahead_82 hn rfl ?_
            refine y_sipush (pc := 83) hF dX11_ahead_83 (by decide) ?_
            refine y_iaload (pc := 86) hF dX11_ahead_86 (by omega) rfl (by omega) (by decide) ?_
            rw [show σ48 158 2001 = df1 from zXR.2.2.1]
            refine y_aload_n (pc := 87) hF dX11_ahead_87 0 rfl ?_
            refine y_get (pc := 88) (ci := 11) hF dX11_ahead_88 (by omega) rfl rfl rfl iX11 5 (by decide) w_1252 rfl ?_
            refine y_sipush (pc := 91) hF dX11_ahead_91 (by decide) ?_
            refine y_iaload (pc := 94) hF dX11_ahead_94 (by omega) rfl (by omega) (by decide) ?_
            rw [show σ48 163 2001 = df from zdA]
            refine y_isub (pc := 95) hF dX11_ahead_95 ?_
            refine y_goto (pc := 96) hF dX11_ahead_96 126 rfl ?_
            refine y_istore (pc := 126) (lv' := [(0, yR g 155), (1, yI a), (2, yI b), (3, yI (((gR w h s re fo ra tu we sh 0 a.toNat (T, S, F, P, O, nf, df, nl, lg)).1 : Nat) : Int)), (4, yI (df1 - df))]) hF dX11_ahead_126 (by decide) rfl rfl ?_
            refine y_aload_n (pc := 128) hF dX11_ahead_128 0 rfl ?_
            refine y_cv (y_rV (pc := 129) hF (tX11_laysBack hn) dX11_ahead_129 (by omega) rfl rfl rfl w_1707 qX11_laysBack rfl ⟨Nat.le_of_ble_eq_true rfl, Nat.le_of_ble_eq_true rfl⟩ ⟨Nat.le_of_ble_eq_true rfl, Nat.le_of_ble_eq_true rfl⟩ (Nat.le_of_ble_eq_true rfl) rfl) rfl rfl (fun n' σ129 zp129 => ?_)
            obtain ⟨zn129, zp129⟩ := zp129
            have zn129 := zn129.symm
            subst zn129
            have zXB : rX σ129 0 w h (T, S, F, P, O, nf, df, nl, lg) := (zBR.cp (σ' := σ129) (c' := 158) (o' := 0) (fun j a b => by rw [Int.zero_add]; exact zp129.2 j a b)).x (by rw [zp129.1 161 (by omega)]; exact zXR.1.2.1) (by rw [zp129.1 162 (by omega)]; exact zXR.1.2.2.1)
            have zOB := mO_run zO_σ0 (zyR.tr (zp129.1.g (by omega))) zXB (zHR.fr (by rw [zp129.1 155 (by omega)]) (zp129.1 164 (by omega)))
            refine y_iload (pc := 132) hF dX11_ahead_132 4 rfl ?_
            exact y_iret (pc := 134) hF dX11_ahead_134 (Nat.le_of_ble_eq_true rfl) (Nat.le_of_ble_eq_true rfl) ⟨_, rfl, by omega, Or.inl ⟨zok, (by rw [← hR0]; unfold ahV; rw [if_neg zc53, if_neg zc65, if_pos zc74, ← zDf]), zOB⟩⟩
        · skip
          refine y_iload_n (pc := 68) hF dX11_ahead_68 3 rfl ?_
          refine y_goto (pc := 69) hF dX11_ahead_69 126 rfl ?_
          refine y_istore (pc := 126) (lv' := [(0, yR g 155), (1, yI a), (2, yI b), (3, yI (((gR w h s re fo ra tu we sh 0 a.toNat (T, S, F, P, O, nf, df, nl, lg)).1 : Nat) : Int)), (4, yI (((gR w h s re fo ra tu we sh 0 a.toNat (T, S, F, P, O, nf, df, nl, lg)).1 : Nat) : Int))]) hF dX11_ahead_126 (by decide) rfl rfl ?_
          refine y_aload_n (pc := 128) hF dX11_ahead_128 0 rfl ?_
          refine y_cv (y_rV (pc := 129) hF (tX11_laysBack hn) dX11_ahead_129 (by omega) rfl rfl rfl w_1707 qX11_laysBack rfl ⟨Nat.le_of_ble_eq_true rfl, Nat.le_of_ble_eq_true rfl⟩ ⟨Nat.le_of_ble_eq_true rfl, Nat.le_of_ble_eq_true rfl⟩ (Nat.le_of_ble_eq_true rfl) rfl) rfl rfl (fun n' σ129 zp129 => ?_)
          obtain ⟨zn129, zp129⟩ := zp129
          have zn129 := zn129.symm
          subst zn129
          have zXB : rX σ129 0 w h (T, S, F, P, O, nf, df, nl, lg) := (zBR.cp (σ' := σ129) (c' := 158) (o' := 0) (fun j a b => by rw [Int.zero_add]; exact zp129.2 j a b)).x (by rw [zp129.1 161 (by omega)]; exact zXR.1.2.1) (by rw [zp129.1 162 (by omega)]; exact zXR.1.2.2.1)
          have zOB := mO_run zO_σ0 (zyR.tr (zp129.1.g (by omega))) zXB (zHR.fr (by rw [zp129.1 155 (by omega)]) (zp129.1 164 (by omega)))
          refine y_iload (pc := 132) hF dX11_ahead_132 4 rfl ?_
          exact y_iret (pc := 134) hF dX11_ahead_134 (Nat.le_of_ble_eq_true rfl) (Nat.le_of_ble_eq_true rfl) ⟨_, rfl, by omega, Or.inl ⟨zok, (by rw [← hR0]; unfold ahV; rw [if_neg zc53, if_pos zc65]; exact zsm.2.2.2.symm), zOB⟩⟩
      · skip
        refine y_aload_n (pc := 56) hF dX11_ahead_56 0 rfl ?_
        have zz57 := y_rV (pc := 57) hF (tX11_missingMany (n := n48) (σ := σ48) w h T1 S1 F1 P1 O1 hn zXR.1) dX11_ahead_57 (by omega) rfl rfl rfl w_1432 qX11_missingMany rfl ⟨Nat.le_of_ble_eq_true rfl, Nat.le_of_ble_eq_true rfl⟩ ⟨Nat.le_of_ble_eq_true rfl, Nat.le_of_ble_eq_true rfl⟩ (Nat.le_of_ble_eq_true rfl) rfl (rest := []) (cells := 101) (slots := 909) (lv := [(0, yR g 155), (1, yI a), (2, yI b), (3, yI (((gR w h s re fo ra tu we sh 0 a.toNat (T, S, F, P, O, nf, df, nl, lg)).1 : Nat) : Int))])
        refine y_cp (zz57) ?_
        refine y_goto (pc := 60) hF dX11_ahead_60 126 rfl ?_
        refine y_istore (pc := 126) (lv' := [(0, yR g 155), (1, yI a), (2, yI b), (3, yI (((gR w h s re fo ra tu we sh 0 a.toNat (T, S, F, P, O, nf, df, nl, lg)).1 : Nat) : Int)), (4, yI (w * h - sCt w h (fun x y => sKn w h T1 x y)))]) hF dX11_ahead_126 (by decide) rfl rfl ?_
        refine y_aload_n (pc := 128) hF dX11_ahead_128 0 rfl ?_
        refine y_cv (y_rV (pc := 129) hF (tX11_laysBack hn) dX11_ahead_129 (by omega) rfl rfl rfl w_1707 qX11_laysBack rfl ⟨Nat.le_of_ble_eq_true rfl, Nat.le_of_ble_eq_true rfl⟩ ⟨Nat.le_of_ble_eq_true rfl, Nat.le_of_ble_eq_true rfl⟩ (Nat.le_of_ble_eq_true rfl) rfl) rfl rfl (fun n' σ129 zp129 => ?_)
        obtain ⟨zn129, zp129⟩ := zp129
        have zn129 := zn129.symm
        subst zn129
        have zXB : rX σ129 0 w h (T, S, F, P, O, nf, df, nl, lg) := (zBR.cp (σ' := σ129) (c' := 158) (o' := 0) (fun j a b => by rw [Int.zero_add]; exact zp129.2 j a b)).x (by rw [zp129.1 161 (by omega)]; exact zXR.1.2.1) (by rw [zp129.1 162 (by omega)]; exact zXR.1.2.2.1)
        have zOB := mO_run zO_σ0 (zyR.tr (zp129.1.g (by omega))) zXB (zHR.fr (by rw [zp129.1 155 (by omega)]) (zp129.1 164 (by omega)))
        refine y_iload (pc := 132) hF dX11_ahead_132 4 rfl ?_
        exact y_iret (pc := 134) hF dX11_ahead_134 (Nat.le_of_ble_eq_true rfl) (Nat.le_of_ble_eq_true rfl) ⟨_, rfl, by omega, Or.inl ⟨zok, (by rw [← hR0]; unfold ahV; rw [if_pos zc53, ← zT]; omega), zOB⟩⟩
    · subst zv32; subst zs32
      refine y_if_ne (pc := 35) hF dX11_ahead_35 40 rfl (by decide) (fun zc35 => absurd zc35 (by decide)) (fun _ => ?_)
      refine y_iconst (pc := 38) hF dX11_ahead_38 ?_
      exact y_iret (pc := 39) hF dX11_ahead_39 (Nat.le_of_ble_eq_true rfl) (Nat.le_of_ble_eq_true rfl) ⟨_, rfl, Nat.le_refl _, Or.inr ⟨(by rw [zhb] at zb32; simpa using zb32), zO_σ0.bA 1⟩⟩
  refine y_aload_n (pc := 5) hF dX11_ahead_5 0 rfl ?_
  refine y_iload_n (pc := 6) hF dX11_ahead_6 1 rfl ?_
  refine y_iconst (pc := 7) hF dX11_ahead_7 ?_
  refine y_bipush (pc := 8) hF dX11_ahead_8 (by decide) ?_
  have zz10 := y_rS (pc := 10) (As := [yI a, yI 1, yI 60]) (kk := 0) hF (tX11_within (n := n) (σ := σ0) a 1 60 (by omega) (by omega) (by omega)) dX11_ahead_10 w_1392 qX11_within rfl ⟨Nat.le_of_ble_eq_true rfl, Nat.le_of_ble_eq_true rfl⟩ ⟨Nat.le_of_ble_eq_true rfl, Nat.le_of_ble_eq_true rfl⟩ (Nat.le_of_ble_eq_true rfl) rfl (rest := [yR g 155]) (cells := 0) (slots := 0) (lv := [(0, yR g 155), (1, yI a), (2, yI b)])
  refine y_cp (zz10) ?_
  refine y_if_eq (pc := 13) hF dX11_ahead_13 29 rfl bi_r (fun zc13 => ?_) (fun zc13 => ?_)
  · replace zc13 := bi_0.mp zc13
    refine y_iconst (pc := 29) hF dX11_ahead_29 ?_
    exact zJ30 false (by simp only [Bool.and_eq_true, Bool.and_eq_false_iff, decide_eq_true_eq, decide_eq_false_iff_not] at zc13; exact (decide_eq_false (by omega)).symm)
  · replace zc13 := bi_n0.mp zc13
    refine y_iload_n (pc := 16) hF dX11_ahead_16 2 rfl ?_
    refine y_iconst (pc := 17) hF dX11_ahead_17 ?_
    refine y_iconst (pc := 18) hF dX11_ahead_18 ?_
    have zz19 := y_rS (pc := 19) (As := [yI b, yI 0, yI 4]) (kk := 0) hF (tX11_within (n := n) (σ := σ0) b 0 4 (by omega) (by omega) (by omega)) dX11_ahead_19 w_1392 qX11_within rfl ⟨Nat.le_of_ble_eq_true rfl, Nat.le_of_ble_eq_true rfl⟩ ⟨Nat.le_of_ble_eq_true rfl, Nat.le_of_ble_eq_true rfl⟩ (Nat.le_of_ble_eq_true rfl) rfl (rest := [yR g 155]) (cells := 0) (slots := 0) (lv := [(0, yR g 155), (1, yI a), (2, yI b)])
    refine y_cp (zz19) ?_
    refine y_if_eq (pc := 22) hF dX11_ahead_22 29 rfl bi_r (fun zc22 => ?_) (fun zc22 => ?_)
    · replace zc22 := bi_0.mp zc22
      refine y_iconst (pc := 29) hF dX11_ahead_29 ?_
      exact zJ30 false (by simp only [Bool.and_eq_true, Bool.and_eq_false_iff, decide_eq_true_eq, decide_eq_false_iff_not] at zc13 zc22; exact (decide_eq_false (by omega)).symm)
    · replace zc22 := bi_n0.mp zc22
      refine y_iconst (pc := 25) hF dX11_ahead_25 ?_
      refine y_goto (pc := 26) hF dX11_ahead_26 30 rfl ?_
      exact zJ30 true (by simp only [Bool.and_eq_true, Bool.and_eq_false_iff, decide_eq_true_eq, decide_eq_false_iff_not] at zc13 zc22; exact (decide_eq_true (by omega)).symm)

theorem dX11_flawBy_0 : decode cX11_flawBy 0 = .ok (.aload_n 0, 1) := by decide +kernel
theorem dX11_flawBy_1 : decode cX11_flawBy 1 = .ok (.iconst 0, 1) := by decide +kernel
theorem dX11_flawBy_2 : decode cX11_flawBy 2 = .ok (.putfield 1, 3) := by decide +kernel
theorem dX11_flawBy_5 : decode cX11_flawBy 5 = .ok (.aload_n 0, 1) := by decide +kernel
theorem dX11_flawBy_6 : decode cX11_flawBy 6 = .ok (.iload_n 1, 1) := by decide +kernel
theorem dX11_flawBy_7 : decode cX11_flawBy 7 = .ok (.iconst 0, 1) := by decide +kernel
theorem dX11_flawBy_8 : decode cX11_flawBy 8 = .ok (.iconst 2, 1) := by decide +kernel
theorem dX11_flawBy_9 : decode cX11_flawBy 9 = .ok (.invokestatic 68, 3) := by decide +kernel
theorem dX11_flawBy_12 : decode cX11_flawBy 12 = .ok (.iconst 1, 1) := by decide +kernel
theorem dX11_flawBy_13 : decode cX11_flawBy 13 = .ok (.iconst 1, 1) := by decide +kernel
theorem dX11_flawBy_14 : decode cX11_flawBy 14 = .ok (.invokevirtual 284, 3) := by decide +kernel
theorem dX11_flawBy_17 : decode cX11_flawBy 17 = .ok (.ifCond .ne 5, 3) := by decide +kernel
theorem dX11_flawBy_20 : decode cX11_flawBy 20 = .ok (.iconst 0, 1) := by decide +kernel
theorem dX11_flawBy_21 : decode cX11_flawBy 21 = .ok (.ireturn, 1) := by decide +kernel
theorem dX11_flawBy_22 : decode cX11_flawBy 22 = .ok (.aload_n 0, 1) := by decide +kernel
theorem dX11_flawBy_23 : decode cX11_flawBy 23 = .ok (.getfield 297, 3) := by decide +kernel
theorem dX11_flawBy_26 : decode cX11_flawBy 26 = .ok (.ifCond .ne 7, 3) := by decide +kernel
theorem dX11_flawBy_29 : decode cX11_flawBy 29 = .ok (.ldc_w 363, 3) := by decide +kernel
theorem dX11_flawBy_32 : decode cX11_flawBy 32 = .ok (.ireturn, 1) := by decide +kernel
theorem dX11_flawBy_33 : decode cX11_flawBy 33 = .ok (.aload_n 0, 1) := by decide +kernel
theorem dX11_flawBy_34 : decode cX11_flawBy 34 = .ok (.invokevirtual 354, 3) := by decide +kernel
theorem dX11_flawBy_37 : decode cX11_flawBy 37 = .ok (.istore_n 2, 1) := by decide +kernel
theorem dX11_flawBy_38 : decode cX11_flawBy 38 = .ok (.aload_n 0, 1) := by decide +kernel
theorem dX11_flawBy_39 : decode cX11_flawBy 39 = .ok (.invokevirtual 314, 3) := by decide +kernel
theorem dX11_flawBy_42 : decode cX11_flawBy 42 = .ok (.aload_n 0, 1) := by decide +kernel
theorem dX11_flawBy_43 : decode cX11_flawBy 43 = .ok (.iload_n 1, 1) := by decide +kernel
theorem dX11_flawBy_44 : decode cX11_flawBy 44 = .ok (.invokevirtual 320, 3) := by decide +kernel
theorem dX11_flawBy_47 : decode cX11_flawBy 47 = .ok (.pop, 1) := by decide +kernel
theorem dX11_flawBy_48 : decode cX11_flawBy 48 = .ok (.aload_n 0, 1) := by decide +kernel
theorem dX11_flawBy_49 : decode cX11_flawBy 49 = .ok (.invokevirtual 354, 3) := by decide +kernel
theorem dX11_flawBy_52 : decode cX11_flawBy 52 = .ok (.iload_n 2, 1) := by decide +kernel
theorem dX11_flawBy_53 : decode cX11_flawBy 53 = .ok (.isub, 1) := by decide +kernel
theorem dX11_flawBy_54 : decode cX11_flawBy 54 = .ok (.istore_n 3, 1) := by decide +kernel
theorem dX11_flawBy_55 : decode cX11_flawBy 55 = .ok (.aload_n 0, 1) := by decide +kernel
theorem dX11_flawBy_56 : decode cX11_flawBy 56 = .ok (.invokevirtual 360, 3) := by decide +kernel
theorem dX11_flawBy_59 : decode cX11_flawBy 59 = .ok (.iload_n 3, 1) := by decide +kernel
theorem dX11_flawBy_60 : decode cX11_flawBy 60 = .ok (.ireturn, 1) := by decide +kernel
set_option maxHeartbeats 4000000 in
set_option maxRecDepth 100000 in
theorem tX11_flawBy {l : Launch} {g : yG} {n : Nat} {σ : yM} (hn : 172 ≤ n) (w h : Int) (T S F P O : Int → Int → Int) (nf df nl : Int) (lg : Int → Int → Int) (s re fo ra tu we sh : Int) (H : List aX) (ht : Bool) (K : Int → Int → Int) (tl : Int) (tb : Int → Int) (fa r1 r2 N : Int) (hV : mV σ (w, h, (T, S, F, P, O, nf, df, nl, lg), (s, re, fo, ra, tu, we, sh), H, ht, K, tl, tb, fa, r1, r2)) (hW : aW N (w, h, (T, S, F, P, O, nf, df, nl, lg), (s, re, fo, ra, tu, we, sh), H, ht, K, tl, tb, fa, r1, r2)) (a : Int) (ha : -2147483648 ≤ a ∧ a < 2147483648)(hNb : N ≤ 400000000)  : yMet l g yX11_flawBy cX11_flawBy 4 (some .int) (rmA 12 303 2727) [yR g 155, yI a] (SC g) n σ (SC g) (yPi (fun zv n' σ' => n ≤ n' ∧ (((0 ≤ a ∧ a ≤ 2) ∧ zv = fbV w h ht K T F (gR w h s re fo ra tu we sh a (400 : Int).toNat (x00 T S F P O)).2 ∧ mO σ σ' (w, h, (T, S, F, P, O, nf, df, nl, lg), (s, re, fo, ra, tu, we, sh), H, ht, K, tl, tb, fa, r1, r2) 0) ∨ (¬ (0 ≤ a ∧ a ≤ 2) ∧ mO σ σ' (bA (w, h, (T, S, F, P, O, nf, df, nl, lg), (s, re, fo, ra, tu, we, sh), H, ht, K, tl, tb, fa, r1, r2)) 1)))) := by
  obtain ⟨⟨hA, hL⟩, hS, hH, ⟨hb1, hb2⟩, ⟨ht1, ht2⟩, hfa, hr1, hr2⟩ := id hV
  obtain ⟨hw1, hw2, hw3, hw4⟩ := id hA.1.1
  obtain ⟨hs1, hs2, hs3, hs4, hs5, hs6, hs7⟩ := id hS.2
  have hz : (0 : Nat) < 3 := by omega
  have hnf : nf < 800000000 := by have := hW.1.1; simp only [xNf] at this; omega
  have hnf0 : 0 ≤ nf := hL.2.2.2.1.1
  have hdl : 0 ≤ (H.length : Int) ∧ (H.length : Int) ≤ 10 := by have := hH.2.1; omega
  refine y_start (by decide) (Nat.le_of_ble_eq_true rfl) (fun X0 hF => ?_)
  show yV X0 g 4 (yQ X0 g (SC g) (yPi (fun zv n' σ' => n ≤ n' ∧ (((0 ≤ a ∧ a ≤ 2) ∧ zv = fbV w h ht K T F (gR w h s re fo ra tu we sh a (400 : Int).toNat (x00 T S F P O)).2 ∧ mO σ σ' (w, h, (T, S, F, P, O, nf, df, nl, lg), (s, re, fo, ra, tu, we, sh), H, ht, K, tl, tb, fa, r1, r2) 0) ∨ (¬ (0 ≤ a ∧ a ≤ 2) ∧ mO σ σ' (bA (w, h, (T, S, F, P, O, nf, df, nl, lg), (s, re, fo, ra, tu, we, sh), H, ht, K, tl, tb, fa, r1, r2)) 1)))) (rmA 12 303 2727)) (SC g) n σ 0 0 0 [(0, yR g 155), (1, yI a)] []
  refine y_aload_n (pc := 0) hF dX11_flawBy_0 0 rfl ?_
  refine y_iconst (pc := 1) hF dX11_flawBy_1 ?_
  refine y_putf (pc := 2) (ci := 11) (σ' := yset σ 155 0 0) (sch' := (SC g)) hF dX11_flawBy_2 (by omega) rfl rfl rfl iX11 0 (by decide) w_1247 tyX11 tyX11_ok nmX11 rfl rfl rfl rfl (Nat.le_of_ble_eq_true rfl) rfl (y_ps rfl) (fun k' h => ⟨yset_n h, rfl⟩) ?_
  obtain ⟨σ0, hσ0⟩ : ∃ s, s = yset σ 155 0 0 := ⟨_, rfl⟩
  rw [← hσ0]
  have zO_σ0 := hV.t0 hσ0
  obtain ⟨⟨zA_σ0, zL_σ0⟩, zS_σ0, zH_σ0, ⟨zb1_σ0, zb2_σ0⟩, ⟨zt1_σ0, zt2_σ0⟩, zfa_σ0, zr1_σ0, zr2_σ0⟩ := id zO_σ0.2.2
  refine y_aload_n (pc := 5) hF dX11_flawBy_5 0 rfl ?_
  refine y_iload_n (pc := 6) hF dX11_flawBy_6 1 rfl ?_
  refine y_iconst (pc := 7) hF dX11_flawBy_7 ?_
  refine y_iconst (pc := 8) hF dX11_flawBy_8 ?_
  have zz9 := y_rS (pc := 9) (As := [yI a, yI 0, yI 2]) (kk := 0) hF (tX11_within (n := n) (σ := σ0) a 0 2 (by omega) (by omega) (by omega)) dX11_flawBy_9 w_1392 qX11_within rfl ⟨Nat.le_of_ble_eq_true rfl, Nat.le_of_ble_eq_true rfl⟩ ⟨Nat.le_of_ble_eq_true rfl, Nat.le_of_ble_eq_true rfl⟩ (Nat.le_of_ble_eq_true rfl) rfl (rest := [yR g 155]) (cells := 0) (slots := 0) (lv := [(0, yR g 155), (1, yI a)])
  refine y_cp (zz9) ?_
  refine y_iconst (pc := 12) hF dX11_flawBy_12 ?_
  refine y_iconst (pc := 13) hF dX11_flawBy_13 ?_
  refine y_ci (y_rV (pc := 14) hF (tX11_isFine hn zO_σ0.2.1 (decide (0 ≤ a) && decide (a ≤ 2)) 1 1 (by decide) (by decide)) dX11_flawBy_14 (by omega) rfl rfl rfl w_1395 qX11_isFine rfl ⟨Nat.le_of_ble_eq_true rfl, Nat.le_of_ble_eq_true rfl⟩ ⟨Nat.le_of_ble_eq_true rfl, Nat.le_of_ble_eq_true rfl⟩ (Nat.le_of_ble_eq_true rfl) rfl) rfl rfl (fun r14 n' σ14 zp14 => ?_)
  obtain ⟨zn14, zp14⟩ := zp14
  have zn14 := zn14.symm
  subst zn14
  rcases zp14 with ⟨zb14, zv14, zs14⟩ | ⟨zb14, zv14, zs14⟩
  · subst zv14; have zs14 := zs14.symm; subst zs14
    refine y_if_ne (pc := 17) hF dX11_flawBy_17 22 rfl (by decide) (fun _ => ?_) (fun zc17 => absurd zc17 (by decide))
    simp at zb14
    refine y_aload_n (pc := 22) hF dX11_flawBy_22 0 rfl ?_
    refine y_get (pc := 23) (ci := 11) hF dX11_flawBy_23 (by omega) rfl rfl rfl iX11 9 (by decide) w_1256 rfl ?_
    rw [show σ0 155 9 = bi ht from zb1_σ0]
    refine y_if_ne (pc := 26) hF dX11_flawBy_26 33 rfl bi_r (fun zc26 => ?_) (fun zc26 => ?_)
    · replace zc26 := bi_n0.mp zc26
      have zhK : ∀ x y : Int, 0 ≤ x → x < w → 0 ≤ y → y < h → σ0 165 (20 * y + x) = K x y ∧ -1 ≤ K x y ∧ K x y ≤ 255 := fun x y a b c d => ⟨zb2_σ0 zc26 x y a b c d, hW.2.2.1 zc26 x y a b c d⟩
      refine y_aload_n (pc := 33) hF dX11_flawBy_33 0 rfl ?_
      have zz34 := y_rV (pc := 34) hF (tX11_flawNow (n := n) (σ := σ0) w h T S F P O hn zA_σ0 K zhK) dX11_flawBy_34 (by omega) rfl rfl rfl w_1699 qX11_flawNow rfl ⟨Nat.le_of_ble_eq_true rfl, Nat.le_of_ble_eq_true rfl⟩ ⟨Nat.le_of_ble_eq_true rfl, Nat.le_of_ble_eq_true rfl⟩ (Nat.le_of_ble_eq_true rfl) rfl (rest := []) (cells := 0) (slots := 0) (lv := [(0, yR g 155), (1, yI a)])
      refine y_cp (zz34) ?_
      refine y_istore_n (pc := 37) (lv' := [(0, yR g 155), (1, yI a), (2, yI (sFw w h T F K))]) hF dX11_flawBy_37 (by decide) rfl rfl ?_
      refine y_aload_n (pc := 38) hF dX11_flawBy_38 0 rfl ?_
      refine y_cv (y_rV (pc := 39) hF (tX11_laysAside hn) dX11_flawBy_39 (by omega) rfl rfl rfl w_1484 qX11_laysAside rfl ⟨Nat.le_of_ble_eq_true rfl, Nat.le_of_ble_eq_true rfl⟩ ⟨Nat.le_of_ble_eq_true rfl, Nat.le_of_ble_eq_true rfl⟩ (Nat.le_of_ble_eq_true rfl) rfl) rfl rfl (fun n' σ39 zp39 => ?_)
      obtain ⟨zn39, zp39⟩ := zp39
      have zn39 := zn39.symm
      subst zn39
      have zA_σ39 := zA_σ0.fr (zp39.1 _ (by omega)) (zp39.1 _ (by omega)) (fun i _ _ => by rw [zp39.1 _ (by omega)])
      have zL_σ39 : rL σ39 0 nf df nl lg := zL_σ0.hi (fun j _ => by rw [zp39.1 158 (by omega)])
      have zS_σ39 := zS_σ0.fr (zp39.1 166 (by omega))
      have zB39 : rB σ39 163 0 w h (T, S, F, P, O, nf, df, nl, lg) := (rX.b (X := (T, S, F, P, O, nf, df, nl, lg)) ⟨zA_σ0, zL_σ0⟩).cp (fun j a b => by rw [Int.zero_add]; exact zp39.2 j a b)
      have zy39 : gY σ0 σ39 := zp39.1.g (by omega)
      refine y_aload_n (pc := 42) hF dX11_flawBy_42 0 rfl ?_
      refine y_iload_n (pc := 43) hF dX11_flawBy_43 1 rfl ?_
      refine y_ci (cells' := 303) (slots' := 2727) (y_rV (pc := 44) hF (tX11_guides w h T S F P O s re fo ra tu we sh nf df nl lg hn zA_σ39 zL_σ39 hnf zS_σ39 a (by omega)) dX11_flawBy_44 (by omega) rfl rfl rfl w_1601 qX11_guides rfl ⟨Nat.le_of_ble_eq_true rfl, Nat.le_of_ble_eq_true rfl⟩ ⟨Nat.le_of_ble_eq_true rfl, Nat.le_of_ble_eq_true rfl⟩ (Nat.le_of_ble_eq_true rfl) rfl) rfl rfl (fun r44 n44 σ44 zp44 => ?_)
      obtain ⟨zv44, zn44, zx44, zz44⟩ := zp44
      rw [zv44]
      have hn : 172 ≤ n44 := by omega
      obtain ⟨R, hR⟩ : ∃ q, q = (gR w h s re fo ra tu we sh a (400 : Int).toNat (T, S, F, P, O, nf, df, nl, lg)).2 := ⟨_, rfl⟩
      obtain ⟨R0, hR0⟩ : ∃ q, q = (gR w h s re fo ra tu we sh a (400 : Int).toNat (x00 T S F P O)).2 := ⟨_, rfl⟩
      have zsm := gR_sim (w := w) (h := h) (s := s) (re := re) (fo := fo) (ra := ra) (tu := tu) (we := we) (sh := sh) (lv := a) (n := (400 : Int).toNat) (T := T) (S := S) (F := F) (P := P) (O := O) (nf := nf) (df := df) (nl := nl) (lg := lg) hnf0
      rw [← hR, ← hR0] at zsm
      have zXR : rX σ44 0 w h R := by rw [hR]; exact zx44
      obtain ⟨T1, S1, F1, P1, O1, nf1, df1, nl1, lg1⟩ := R
      have zT : T1 = R0.1 := zsm.2.1.1
      have zSs : S1 = R0.2.1 := zsm.2.1.2.1
      have zFs : ∀ i j, 0 < F1 i j ↔ 0 < R0.2.2.1 i j := zsm.2.1.2.2.1
      have zDf : df1 - df = xDf R0 := zsm.2.2.1
      have zkc := sKn_cnt (T := T1) (w := w) (h := h) (by omega) (by omega)
      have zyR : gY σ0 σ44 := zy39.tr zz44.g
      have zBR : rB σ44 163 0 w h (T, S, F, P, O, nf, df, nl, lg) := zB39.cp (fun j _ _ => by rw [zz44.cell (by omega) (by omega)])
      have zHR : mH σ44 w h H := zH_σ0.fr (by rw [zz44 155 8 (by omega) (by omega) (by omega) (by omega), zp39.1 155 (by omega)]) (by rw [zz44.cell (by omega) (by omega), zp39.1 164 (by omega)])
      have zhKR : ht = true → ∀ x y : Int, 0 ≤ x → x < w → 0 ≤ y → y < h → σ44 165 (20 * y + x) = K x y ∧ -1 ≤ K x y ∧ K x y ≤ 255 := fun zq x y a b c d => ⟨by rw [zyR.cell (by omega) (by omega)]; exact zb2_σ0 zq x y a b c d, hW.2.2.1 zq x y a b c d⟩
      have zdA : σ44 163 2001 = df := by have zt := zBR.2.2; rw [Int.zero_add] at zt; exact zt.2.1
      refine y_pop (pc := 47) hF dX11_flawBy_47 rfl ?_
      refine y_aload_n (pc := 48) hF dX11_flawBy_48 0 rfl ?_
      have zz49 := y_rV (pc := 49) hF (tX11_flawNow (n := n44) (σ := σ44) w h T1 S1 F1 P1 O1 hn zXR.1 K (zhKR zc26)) dX11_flawBy_49 (by omega) rfl rfl rfl w_1699 qX11_flawNow rfl ⟨Nat.le_of_ble_eq_true rfl, Nat.le_of_ble_eq_true rfl⟩ ⟨Nat.le_of_ble_eq_true rfl, Nat.le_of_ble_eq_true rfl⟩ (Nat.le_of_ble_eq_true rfl) rfl (rest := []) (cells := 303) (slots := 2727) (lv := [(0, yR g 155), (1, yI a), (2, yI (sFw w h T F K))])
      refine y_cp (zz49) ?_
      refine y_iload_n (pc := 52) hF dX11_flawBy_52 2 rfl ?_
      refine y_isub (pc := 53) hF dX11_flawBy_53 ?_
      refine y_istore_n (pc := 54) (lv' := [(0, yR g 155), (1, yI a), (2, yI (sFw w h T F K)), (3, yI ((sFw w h T1 F1 K) - (sFw w h T F K)))]) hF dX11_flawBy_54 (by decide) rfl rfl ?_
      refine y_aload_n (pc := 55) hF dX11_flawBy_55 0 rfl ?_
      refine y_cv (y_rV (pc := 56) hF (tX11_laysBack hn) dX11_flawBy_56 (by omega) rfl rfl rfl w_1707 qX11_laysBack rfl ⟨Nat.le_of_ble_eq_true rfl, Nat.le_of_ble_eq_true rfl⟩ ⟨Nat.le_of_ble_eq_true rfl, Nat.le_of_ble_eq_true rfl⟩ (Nat.le_of_ble_eq_true rfl) rfl) rfl rfl (fun n' σ56 zp56 => ?_)
      obtain ⟨zn56, zp56⟩ := zp56
      have zn56 := zn56.symm
      subst zn56
      have zXB : rX σ56 0 w h (T, S, F, P, O, nf, df, nl, lg) := (zBR.cp (σ' := σ56) (c' := 158) (o' := 0) (fun j a b => by rw [Int.zero_add]; exact zp56.2 j a b)).x (by rw [zp56.1 161 (by omega)]; exact zXR.1.2.1) (by rw [zp56.1 162 (by omega)]; exact zXR.1.2.2.1)
      have zOB := mO_run zO_σ0 (zyR.tr (zp56.1.g (by omega))) zXB (zHR.fr (by rw [zp56.1 155 (by omega)]) (zp56.1 164 (by omega)))
      refine y_iload_n (pc := 59) hF dX11_flawBy_59 3 rfl ?_
      exact y_iret (pc := 60) hF dX11_flawBy_60 (Nat.le_of_ble_eq_true rfl) (Nat.le_of_ble_eq_true rfl) ⟨_, rfl, by omega, Or.inl ⟨(by omega), (by rw [← hR0]; unfold fbV; rw [if_pos zc26, ← zT, sFw_sim zFs]), zOB⟩⟩
    · replace zc26 := bi_0.mp zc26
      refine y_ldcw (pc := 29) (v := -1000000000) hF dX11_flawBy_29 wk_1719 ?_
      exact y_iret (pc := 32) hF dX11_flawBy_32 (Nat.le_of_ble_eq_true rfl) (Nat.le_of_ble_eq_true rfl) ⟨_, rfl, Nat.le_refl _, Or.inl ⟨(by omega), (by unfold fbV; rw [if_neg (by rw [zc26]; decide)]), zO_σ0⟩⟩
  · subst zv14; subst zs14
    refine y_if_ne (pc := 17) hF dX11_flawBy_17 22 rfl (by decide) (fun zc17 => absurd zc17 (by decide)) (fun _ => ?_)
    refine y_iconst (pc := 20) hF dX11_flawBy_20 ?_
    exact y_iret (pc := 21) hF dX11_flawBy_21 (Nat.le_of_ble_eq_true rfl) (Nat.le_of_ble_eq_true rfl) ⟨_, rfl, Nat.le_refl _, Or.inr ⟨(fun ze => by simp at zb14; omega), zO_σ0.bA 1⟩⟩

theorem dX11_half_0 : decode cX11_half 0 = .ok (.aload_n 0, 1) := by decide +kernel
theorem dX11_half_1 : decode cX11_half 1 = .ok (.iconst 0, 1) := by decide +kernel
theorem dX11_half_2 : decode cX11_half 2 = .ok (.putfield 1, 3) := by decide +kernel
theorem dX11_half_5 : decode cX11_half 5 = .ok (.aload_n 0, 1) := by decide +kernel
theorem dX11_half_6 : decode cX11_half 6 = .ok (.iload_n 1, 1) := by decide +kernel
theorem dX11_half_7 : decode cX11_half 7 = .ok (.iconst 1, 1) := by decide +kernel
theorem dX11_half_8 : decode cX11_half 8 = .ok (.iconst 2, 1) := by decide +kernel
theorem dX11_half_9 : decode cX11_half 9 = .ok (.invokestatic 68, 3) := by decide +kernel
theorem dX11_half_12 : decode cX11_half 12 = .ok (.iconst 1, 1) := by decide +kernel
theorem dX11_half_13 : decode cX11_half 13 = .ok (.iconst 1, 1) := by decide +kernel
theorem dX11_half_14 : decode cX11_half 14 = .ok (.invokevirtual 284, 3) := by decide +kernel
theorem dX11_half_17 : decode cX11_half 17 = .ok (.ifCond .ne 5, 3) := by decide +kernel
theorem dX11_half_20 : decode cX11_half 20 = .ok (.iconst 0, 1) := by decide +kernel
theorem dX11_half_21 : decode cX11_half 21 = .ok (.ireturn, 1) := by decide +kernel
theorem dX11_half_22 : decode cX11_half 22 = .ok (.aload_n 0, 1) := by decide +kernel
theorem dX11_half_23 : decode cX11_half 23 = .ok (.iconst 0, 1) := by decide +kernel
theorem dX11_half_24 : decode cX11_half 24 = .ok (.invokevirtual 232, 3) := by decide +kernel
theorem dX11_half_27 : decode cX11_half 27 = .ok (.ifCond .eq 20, 3) := by decide +kernel
theorem dX11_half_30 : decode cX11_half 30 = .ok (.iload_n 1, 1) := by decide +kernel
theorem dX11_half_31 : decode cX11_half 31 = .ok (.iconst 1, 1) := by decide +kernel
theorem dX11_half_32 : decode cX11_half 32 = .ok (.if_icmp .eq 11, 3) := by decide +kernel
theorem dX11_half_35 : decode cX11_half 35 = .ok (.aload_n 0, 1) := by decide +kernel
theorem dX11_half_36 : decode cX11_half 36 = .ok (.iconst 1, 1) := by decide +kernel
theorem dX11_half_37 : decode cX11_half 37 = .ok (.invokevirtual 232, 3) := by decide +kernel
theorem dX11_half_40 : decode cX11_half 40 = .ok (.ifCond .eq 7, 3) := by decide +kernel
theorem dX11_half_43 : decode cX11_half 43 = .ok (.iconst 1, 1) := by decide +kernel
theorem dX11_half_44 : decode cX11_half 44 = .ok (.goto 4, 3) := by decide +kernel
theorem dX11_half_47 : decode cX11_half 47 = .ok (.iconst 0, 1) := by decide +kernel
theorem dX11_half_48 : decode cX11_half 48 = .ok (.istore 4, 2) := by decide +kernel
theorem dX11_half_50 : decode cX11_half 50 = .ok (.iload 4, 2) := by decide +kernel
theorem dX11_half_52 : decode cX11_half 52 = .ok (.ifCond .eq 23, 3) := by decide +kernel
theorem dX11_half_55 : decode cX11_half 55 = .ok (.aload_n 0, 1) := by decide +kernel
theorem dX11_half_56 : decode cX11_half 56 = .ok (.iload_n 1, 1) := by decide +kernel
theorem dX11_half_57 : decode cX11_half 57 = .ok (.iload_n 2, 1) := by decide +kernel
theorem dX11_half_58 : decode cX11_half 58 = .ok (.iload_n 3, 1) := by decide +kernel
theorem dX11_half_59 : decode cX11_half 59 = .ok (.invokevirtual 72, 3) := by decide +kernel
theorem dX11_half_62 : decode cX11_half 62 = .ok (.ifCond .eq 13, 3) := by decide +kernel
theorem dX11_half_65 : decode cX11_half 65 = .ok (.aload_n 0, 1) := by decide +kernel
theorem dX11_half_66 : decode cX11_half 66 = .ok (.iload_n 1, 1) := by decide +kernel
theorem dX11_half_67 : decode cX11_half 67 = .ok (.iload_n 2, 1) := by decide +kernel
theorem dX11_half_68 : decode cX11_half 68 = .ok (.iload_n 3, 1) := by decide +kernel
theorem dX11_half_69 : decode cX11_half 69 = .ok (.invokevirtual 87, 3) := by decide +kernel
theorem dX11_half_72 : decode cX11_half 72 = .ok (.goto 5, 3) := by decide +kernel
theorem dX11_half_75 : decode cX11_half 75 = .ok (.bipush (-2), 2) := by decide +kernel
theorem dX11_half_77 : decode cX11_half 77 = .ok (.ireturn, 1) := by decide +kernel
set_option maxHeartbeats 4000000 in
set_option maxRecDepth 100000 in
theorem tX11_half {l : Launch} {g : yG} {n : Nat} {σ : yM} (hn : 172 ≤ n) (w h : Int) (T S F P O : Int → Int → Int) (nf df nl : Int) (lg : Int → Int → Int) (s re fo ra tu we sh : Int) (H : List aX) (ht : Bool) (K : Int → Int → Int) (tl : Int) (tb : Int → Int) (fa r1 r2 N : Int) (hV : mV σ (w, h, (T, S, F, P, O, nf, df, nl, lg), (s, re, fo, ra, tu, we, sh), H, ht, K, tl, tb, fa, r1, r2)) (hW : aW N (w, h, (T, S, F, P, O, nf, df, nl, lg), (s, re, fo, ra, tu, we, sh), H, ht, K, tl, tb, fa, r1, r2)) (a x y : Int) (ha : -2147483648 ≤ a ∧ a < 2147483648) (hx : -2147483648 ≤ x ∧ x < 2147483648) (hy : -2147483648 ≤ y ∧ y < 2147483648) : yMet l g yX11_half cX11_half 5 (some .int) (rmL 6) [yR g 155, yI a, yI x, yI y] (SC g) n σ (SC g) (yPi (fun zv n' σ' => n ≤ n' ∧ (((a = 1 ∨ a = 2) ∧ zv = hfV w h T a x y ∧ mO σ σ' (w, h, (T, S, F, P, O, nf, df, nl, lg), (s, re, fo, ra, tu, we, sh), H, ht, K, tl, tb, fa, r1, r2) 0) ∨ (¬ (a = 1 ∨ a = 2) ∧ mO σ σ' (bA (w, h, (T, S, F, P, O, nf, df, nl, lg), (s, re, fo, ra, tu, we, sh), H, ht, K, tl, tb, fa, r1, r2)) 1)))) := by
  obtain ⟨⟨hA, hL⟩, hS, hH, ⟨hb1, hb2⟩, ⟨ht1, ht2⟩, hfa, hr1, hr2⟩ := id hV
  obtain ⟨hw1, hw2, hw3, hw4⟩ := id hA.1.1
  obtain ⟨hs1, hs2, hs3, hs4, hs5, hs6, hs7⟩ := id hS.2
  have hz : (0 : Nat) < 3 := by omega
  refine y_start (by decide) (Nat.le_of_ble_eq_true rfl) (fun X0 hF => ?_)
  show yV X0 g 5 (yQ X0 g (SC g) (yPi (fun zv n' σ' => n ≤ n' ∧ (((a = 1 ∨ a = 2) ∧ zv = hfV w h T a x y ∧ mO σ σ' (w, h, (T, S, F, P, O, nf, df, nl, lg), (s, re, fo, ra, tu, we, sh), H, ht, K, tl, tb, fa, r1, r2) 0) ∨ (¬ (a = 1 ∨ a = 2) ∧ mO σ σ' (bA (w, h, (T, S, F, P, O, nf, df, nl, lg), (s, re, fo, ra, tu, we, sh), H, ht, K, tl, tb, fa, r1, r2)) 1)))) (rmL 6)) (SC g) n σ 0 0 0 [(0, yR g 155), (1, yI a), (2, yI x), (3, yI y)] []
  refine y_aload_n (pc := 0) hF dX11_half_0 0 rfl ?_
  refine y_iconst (pc := 1) hF dX11_half_1 ?_
  refine y_putf (pc := 2) (ci := 11) (σ' := yset σ 155 0 0) (sch' := (SC g)) hF dX11_half_2 (by omega) rfl rfl rfl iX11 0 (by decide) w_1247 tyX11 tyX11_ok nmX11 rfl rfl rfl rfl (Nat.le_of_ble_eq_true rfl) rfl (y_ps rfl) (fun k' h => ⟨yset_n h, rfl⟩) ?_
  obtain ⟨σ0, hσ0⟩ : ∃ s, s = yset σ 155 0 0 := ⟨_, rfl⟩
  rw [← hσ0]
  have zO_σ0 := hV.t0 hσ0
  obtain ⟨⟨zA_σ0, zL_σ0⟩, zS_σ0, zH_σ0, ⟨zb1_σ0, zb2_σ0⟩, ⟨zt1_σ0, zt2_σ0⟩, zfa_σ0, zr1_σ0, zr2_σ0⟩ := id zO_σ0.2.2
  refine y_aload_n (pc := 5) hF dX11_half_5 0 rfl ?_
  refine y_iload_n (pc := 6) hF dX11_half_6 1 rfl ?_
  refine y_iconst (pc := 7) hF dX11_half_7 ?_
  refine y_iconst (pc := 8) hF dX11_half_8 ?_
  have zz9 := y_rS (pc := 9) (As := [yI a, yI 1, yI 2]) (kk := 0) hF (tX11_within (n := n) (σ := σ0) a 1 2 (by omega) (by omega) (by omega)) dX11_half_9 w_1392 qX11_within rfl ⟨Nat.le_of_ble_eq_true rfl, Nat.le_of_ble_eq_true rfl⟩ ⟨Nat.zero_le _, Nat.zero_le _⟩ (Nat.le_of_ble_eq_true rfl) rfl (rest := [yR g 155]) (cells := 0) (slots := 0) (lv := [(0, yR g 155), (1, yI a), (2, yI x), (3, yI y)])
  refine y_cp (zz9) ?_
  refine y_iconst (pc := 12) hF dX11_half_12 ?_
  refine y_iconst (pc := 13) hF dX11_half_13 ?_
  refine y_ci (y_rV (pc := 14) hF (tX11_isFine hn zO_σ0.2.1 (decide (1 ≤ a) && decide (a ≤ 2)) 1 1 (by decide) (by decide)) dX11_half_14 (by omega) rfl rfl rfl w_1395 qX11_isFine rfl ⟨Nat.le_of_ble_eq_true rfl, Nat.le_of_ble_eq_true rfl⟩ ⟨Nat.zero_le _, Nat.zero_le _⟩ (Nat.le_of_ble_eq_true rfl) rfl) rfl rfl (fun r14 n' σ14 zp14 => ?_)
  obtain ⟨zn14, zp14⟩ := zp14
  have zn14 := zn14.symm
  subst zn14
  rcases zp14 with ⟨zb14, zv14, zs14⟩ | ⟨zb14, zv14, zs14⟩
  · subst zv14; have zs14 := zs14.symm; subst zs14
    refine y_if_ne (pc := 17) hF dX11_half_17 22 rfl (by decide) (fun _ => ?_) (fun zc17 => absurd zc17 (by decide))
    simp at zb14
    have zaa : a = 1 ∨ a = 2 := by omega
    refine y_aload_n (pc := 22) hF dX11_half_22 0 rfl ?_
    refine y_iconst (pc := 23) hF dX11_half_23 ?_
    rcases zaa with zq | zq
    · subst zq
      refine y_ci (y_rV (pc := 24) hF (tX11_halves 0 w h T S F P O hn (by omega) (by omega) zA_σ0 (fun _ _ => 0)) dX11_half_24 (by omega) rfl rfl rfl w_1605 qX11_halves rfl ⟨Nat.le_of_ble_eq_true rfl, Nat.le_of_ble_eq_true rfl⟩ ⟨Nat.zero_le _, Nat.zero_le _⟩ (Nat.le_of_ble_eq_true rfl) rfl) rfl rfl (fun r24 n' σ24 zp24 => ?_)
      obtain ⟨zn24, zw24, zh24, zf24, zv24, zx24⟩ := zp24
      have zn24 := zn24.symm
      subst zn24
      subst zv24
      have zO_σ24 := mO_fV (z := 0) zO_σ0 (by omega) zf24
      refine y_if_eq (pc := 27) hF dX11_half_27 47 rfl bi_r (fun zc27 => ?_) (fun zc27 => ?_)
      · replace zc27 := bi_0.mp zc27
        refine y_iconst (pc := 47) hF dX11_half_47 ?_
        refine y_istore (pc := 48) (lv' := [(0, yR g 155), (1, yI 1), (2, yI x), (3, yI y), (4, yI 0)]) hF dX11_half_48 (by decide) rfl rfl ?_
        refine y_iload (pc := 50) hF dX11_half_50 4 rfl ?_
        refine y_if_eq (pc := 52) hF dX11_half_52 75 rfl (by decide) (fun _ => ?_) (fun zc52 => absurd zc52 (by decide))
        refine y_bipush (pc := 75) hF dX11_half_75 (by decide) ?_
        exact y_iret (pc := 77) hF dX11_half_77 (Nat.zero_le _) (Nat.zero_le _) ⟨_, rfl, Nat.le_refl _, Or.inl ⟨(by omega), (by simp at zc27; have zn : nHf w h 1 = 0 := (by unfold nHf; rw [if_neg (fun ze => by omega)]); unfold hfV; rw [zn, if_pos (by decide)]), zO_σ24⟩⟩
      · replace zc27 := bi_n0.mp zc27
        have zc1 : 3 ≤ (w + 1) / 2 ∧ 3 ≤ (h + 1) / 2 := by simpa using zc27
        refine y_iload_n (pc := 30) hF dX11_half_30 1 rfl ?_
        refine y_iconst (pc := 31) hF dX11_half_31 ?_
        refine y_icmp_eq (pc := 32) hF dX11_half_32 43 rfl (by decide) (by decide) (fun _ => ?_) (fun zc32 => absurd zc32 (by decide))
        skip
        refine y_iconst (pc := 43) hF dX11_half_43 ?_
        refine y_goto (pc := 44) hF dX11_half_44 48 rfl ?_
        refine y_istore (pc := 48) (lv' := [(0, yR g 155), (1, yI 1), (2, yI x), (3, yI y), (4, yI 1)]) hF dX11_half_48 (by decide) rfl rfl ?_
        refine y_iload (pc := 50) hF dX11_half_50 4 rfl ?_
        refine y_if_eq (pc := 52) hF dX11_half_52 75 rfl (by decide) (fun zc52 => absurd zc52 (by decide)) (fun _ => ?_)
        obtain ⟨w1, ew1⟩ : ∃ q, q = ((w + 1) / 2) := ⟨_, rfl⟩
        obtain ⟨h1, eh1⟩ : ∃ q, q = ((h + 1) / 2) := ⟨_, rfl⟩
        obtain ⟨T1, eT1⟩ : ∃ q : Int → Int → Int, q = sHf w h T := ⟨_, rfl⟩
        obtain ⟨S1, eS1⟩ : ∃ q : Int → Int → Int, q = hS_ (sHf w h T) := ⟨_, rfl⟩
        obtain ⟨F1, eF1⟩ : ∃ q : Int → Int → Int, q = (fun (_ _ : Int) => (0 : Int)) := ⟨_, rfl⟩
        obtain ⟨P1, eP1⟩ : ∃ q : Int → Int → Int, q = (fun (_ _ : Int) => (-1 : Int)) := ⟨_, rfl⟩
        obtain ⟨O1, eO1⟩ : ∃ q : Int → Int → Int, q = (fun (_ _ : Int) => (-1 : Int)) := ⟨_, rfl⟩
        have zA1 : rM σ24 1 w1 h1 T1 S1 F1 P1 O1 := by rw [ew1, eh1, eT1, eS1, eF1, eP1, eO1]; exact (zx24 zc1).m
        refine y_aload_n (pc := 55) hF dX11_half_55 0 rfl ?_
        refine y_iload_n (pc := 56) hF dX11_half_56 1 rfl ?_
        refine y_iload_n (pc := 57) hF dX11_half_57 2 rfl ?_
        refine y_iload_n (pc := 58) hF dX11_half_58 3 rfl ?_
        have zz59 := y_rV (pc := 59) hF (tX11_has (n := n) (σ := σ24) 1 w1 h1 T1 S1 F1 P1 O1 hn (by omega) zA1 x y hx hy) dX11_half_59 (by omega) rfl rfl rfl w_1444 qX11_has rfl ⟨Nat.le_of_ble_eq_true rfl, Nat.le_of_ble_eq_true rfl⟩ ⟨Nat.zero_le _, Nat.zero_le _⟩ (Nat.le_of_ble_eq_true rfl) rfl (rest := []) (cells := 0) (slots := 0) (lv := [(0, yR g 155), (1, yI 1), (2, yI x), (3, yI y), (4, yI 1)])
        refine y_cp (zz59) ?_
        refine y_if_eq (pc := 62) hF dX11_half_62 75 rfl bi_r (fun zc62 => ?_) (fun zc62 => ?_)
        · replace zc62 := bi_0.mp zc62
          refine y_bipush (pc := 75) hF dX11_half_75 (by decide) ?_
          exact y_iret (pc := 77) hF dX11_half_77 (Nat.zero_le _) (Nat.zero_le _) ⟨_, rfl, Nat.le_refl _, Or.inl ⟨(by omega), (by have zn : nHf w h 1 = 1 := (by unfold nHf; rw [if_pos ⟨by omega, zc1⟩, if_neg (fun ze => by omega)]); unfold hfV; rw [zn, if_neg (by decide), if_pos rfl, if_neg (by rw [← ew1, ← eh1, zc62]; decide)]), zO_σ24⟩⟩
        · replace zc62 := bi_n0.mp zc62
          refine y_aload_n (pc := 65) hF dX11_half_65 0 rfl ?_
          refine y_iload_n (pc := 66) hF dX11_half_66 1 rfl ?_
          refine y_iload_n (pc := 67) hF dX11_half_67 2 rfl ?_
          refine y_iload_n (pc := 68) hF dX11_half_68 3 rfl ?_
          have zz69 := y_rV (pc := 69) hF (tX11_toneOf (n := n) (σ := σ24) 1 w1 h1 T1 S1 F1 P1 O1 hn (by omega) zA1 x y zc62) dX11_half_69 (by omega) rfl rfl rfl w_1472 qX11_toneOf rfl ⟨Nat.le_of_ble_eq_true rfl, Nat.le_of_ble_eq_true rfl⟩ ⟨Nat.zero_le _, Nat.zero_le _⟩ (Nat.le_of_ble_eq_true rfl) rfl (rest := []) (cells := 0) (slots := 0) (lv := [(0, yR g 155), (1, yI 1), (2, yI x), (3, yI y), (4, yI 1)])
          refine y_cp (zz69) ?_
          refine y_goto (pc := 72) hF dX11_half_72 77 rfl ?_
          exact y_iret (pc := 77) hF dX11_half_77 (Nat.zero_le _) (Nat.zero_le _) ⟨_, rfl, Nat.le_refl _, Or.inl ⟨(by omega), (by have zn : nHf w h 1 = 1 := (by unfold nHf; rw [if_pos ⟨by omega, zc1⟩, if_neg (fun ze => by omega)]); unfold hfV; rw [zn, if_neg (by decide), if_pos rfl, if_pos (by rw [← ew1, ← eh1]; exact zc62), eT1]), zO_σ24⟩⟩
    · subst zq
      refine y_ci (y_rV (pc := 24) hF (tX11_halves 0 w h T S F P O hn (by omega) (by omega) zA_σ0 (fun _ _ => 0)) dX11_half_24 (by omega) rfl rfl rfl w_1605 qX11_halves rfl ⟨Nat.le_of_ble_eq_true rfl, Nat.le_of_ble_eq_true rfl⟩ ⟨Nat.zero_le _, Nat.zero_le _⟩ (Nat.le_of_ble_eq_true rfl) rfl) rfl rfl (fun r24 n' σ24 zp24 => ?_)
      obtain ⟨zn24, zw24, zh24, zf24, zv24, zx24⟩ := zp24
      have zn24 := zn24.symm
      subst zn24
      subst zv24
      have zO_σ24 := mO_fV (z := 0) zO_σ0 (by omega) zf24
      refine y_if_eq (pc := 27) hF dX11_half_27 47 rfl bi_r (fun zc27 => ?_) (fun zc27 => ?_)
      · replace zc27 := bi_0.mp zc27
        refine y_iconst (pc := 47) hF dX11_half_47 ?_
        refine y_istore (pc := 48) (lv' := [(0, yR g 155), (1, yI 2), (2, yI x), (3, yI y), (4, yI 0)]) hF dX11_half_48 (by decide) rfl rfl ?_
        refine y_iload (pc := 50) hF dX11_half_50 4 rfl ?_
        refine y_if_eq (pc := 52) hF dX11_half_52 75 rfl (by decide) (fun _ => ?_) (fun zc52 => absurd zc52 (by decide))
        refine y_bipush (pc := 75) hF dX11_half_75 (by decide) ?_
        exact y_iret (pc := 77) hF dX11_half_77 (Nat.zero_le _) (Nat.zero_le _) ⟨_, rfl, Nat.le_refl _, Or.inl ⟨(by omega), (by simp at zc27; have zn : nHf w h 2 = 0 := (by unfold nHf; rw [if_neg (fun ze => by omega)]); unfold hfV; rw [zn, if_pos (by decide)]), zO_σ24⟩⟩
      · replace zc27 := bi_n0.mp zc27
        have zc1 : 3 ≤ (w + 1) / 2 ∧ 3 ≤ (h + 1) / 2 := by simpa using zc27
        refine y_iload_n (pc := 30) hF dX11_half_30 1 rfl ?_
        refine y_iconst (pc := 31) hF dX11_half_31 ?_
        refine y_icmp_eq (pc := 32) hF dX11_half_32 43 rfl (by decide) (by decide) (fun zc32 => absurd zc32 (by decide)) (fun _ => ?_)
        refine y_aload_n (pc := 35) hF dX11_half_35 0 rfl ?_
        refine y_iconst (pc := 36) hF dX11_half_36 ?_
        refine y_ci (y_rV (pc := 37) hF (tX11_halves 1 ((w + 1) / 2) ((h + 1) / 2) (sHf w h T) (hS_ (sHf w h T)) (fun _ _ => 0) (fun _ _ => -1) (fun _ _ => -1) hn (by omega) (by omega) (zx24 zc1).m (fun _ _ => 0)) dX11_half_37 (by omega) rfl rfl rfl w_1605 qX11_halves rfl ⟨Nat.le_of_ble_eq_true rfl, Nat.le_of_ble_eq_true rfl⟩ ⟨Nat.zero_le _, Nat.zero_le _⟩ (Nat.le_of_ble_eq_true rfl) rfl) rfl rfl (fun r37 n' σ37 zp37 => ?_)
        obtain ⟨zn37, zw37, zh37, zf37, zv37, zx37⟩ := zp37
        have zn37 := zn37.symm
        subst zn37
        subst zv37
        have zO_σ37 := mO_fV (z := 1) zO_σ24 (by omega) zf37
        refine y_if_eq (pc := 40) hF dX11_half_40 47 rfl bi_r (fun zc40 => ?_) (fun zc40 => ?_)
        · replace zc40 := bi_0.mp zc40
          refine y_iconst (pc := 47) hF dX11_half_47 ?_
          refine y_istore (pc := 48) (lv' := [(0, yR g 155), (1, yI 2), (2, yI x), (3, yI y), (4, yI 0)]) hF dX11_half_48 (by decide) rfl rfl ?_
          refine y_iload (pc := 50) hF dX11_half_50 4 rfl ?_
          refine y_if_eq (pc := 52) hF dX11_half_52 75 rfl (by decide) (fun _ => ?_) (fun zc52 => absurd zc52 (by decide))
          refine y_bipush (pc := 75) hF dX11_half_75 (by decide) ?_
          exact y_iret (pc := 77) hF dX11_half_77 (Nat.zero_le _) (Nat.zero_le _) ⟨_, rfl, Nat.le_refl _, Or.inl ⟨(by omega), (by simp at zc40; have zn : nHf w h 2 = 1 := (by unfold nHf; rw [if_pos ⟨by omega, zc1⟩, if_neg (fun ze => by omega)]); unfold hfV; rw [zn, if_pos (by decide)]), zO_σ37⟩⟩
        · replace zc40 := bi_n0.mp zc40
          have zc2 : 3 ≤ (((w + 1) / 2) + 1) / 2 ∧ 3 ≤ (((h + 1) / 2) + 1) / 2 := by simpa using zc40
          refine y_iconst (pc := 43) hF dX11_half_43 ?_
          refine y_goto (pc := 44) hF dX11_half_44 48 rfl ?_
          refine y_istore (pc := 48) (lv' := [(0, yR g 155), (1, yI 2), (2, yI x), (3, yI y), (4, yI 1)]) hF dX11_half_48 (by decide) rfl rfl ?_
          refine y_iload (pc := 50) hF dX11_half_50 4 rfl ?_
          refine y_if_eq (pc := 52) hF dX11_half_52 75 rfl (by decide) (fun zc52 => absurd zc52 (by decide)) (fun _ => ?_)
          obtain ⟨w2, ew2⟩ : ∃ q, q = ((((w + 1) / 2) + 1) / 2) := ⟨_, rfl⟩
          obtain ⟨h2, eh2⟩ : ∃ q, q = ((((h + 1) / 2) + 1) / 2) := ⟨_, rfl⟩
          obtain ⟨T2, eT2⟩ : ∃ q : Int → Int → Int, q = sHf ((w + 1) / 2) ((h + 1) / 2) (sHf w h T) := ⟨_, rfl⟩
          obtain ⟨S2, eS2⟩ : ∃ q : Int → Int → Int, q = hS_ (sHf ((w + 1) / 2) ((h + 1) / 2) (sHf w h T)) := ⟨_, rfl⟩
          obtain ⟨F2, eF2⟩ : ∃ q : Int → Int → Int, q = (fun (_ _ : Int) => (0 : Int)) := ⟨_, rfl⟩
          obtain ⟨P2, eP2⟩ : ∃ q : Int → Int → Int, q = (fun (_ _ : Int) => (-1 : Int)) := ⟨_, rfl⟩
          obtain ⟨O2, eO2⟩ : ∃ q : Int → Int → Int, q = (fun (_ _ : Int) => (-1 : Int)) := ⟨_, rfl⟩
          have zA2 : rM σ37 2 w2 h2 T2 S2 F2 P2 O2 := by rw [ew2, eh2, eT2, eS2, eF2, eP2, eO2]; exact (zx37 zc2).m
          refine y_aload_n (pc := 55) hF dX11_half_55 0 rfl ?_
          refine y_iload_n (pc := 56) hF dX11_half_56 1 rfl ?_
          refine y_iload_n (pc := 57) hF dX11_half_57 2 rfl ?_
          refine y_iload_n (pc := 58) hF dX11_half_58 3 rfl ?_
          have zz59 := y_rV (pc := 59) hF (tX11_has (n := n) (σ := σ37) 2 w2 h2 T2 S2 F2 P2 O2 hn (by omega) zA2 x y hx hy) dX11_half_59 (by omega) rfl rfl rfl w_1444 qX11_has rfl ⟨Nat.le_of_ble_eq_true rfl, Nat.le_of_ble_eq_true rfl⟩ ⟨Nat.zero_le _, Nat.zero_le _⟩ (Nat.le_of_ble_eq_true rfl) rfl (rest := []) (cells := 0) (slots := 0) (lv := [(0, yR g 155), (1, yI 2), (2, yI x), (3, yI y), (4, yI 1)])
          refine y_cp (zz59) ?_
          refine y_if_eq (pc := 62) hF dX11_half_62 75 rfl bi_r (fun zc62 => ?_) (fun zc62 => ?_)
          · replace zc62 := bi_0.mp zc62
            refine y_bipush (pc := 75) hF dX11_half_75 (by decide) ?_
            exact y_iret (pc := 77) hF dX11_half_77 (Nat.zero_le _) (Nat.zero_le _) ⟨_, rfl, Nat.le_refl _, Or.inl ⟨(by omega), (by have zn : nHf w h 2 = 2 := (by unfold nHf; rw [if_pos ⟨by omega, zc1⟩, if_pos ⟨by omega, zc2⟩]); unfold hfV; rw [zn, if_neg (by decide), if_neg (by decide), if_neg (by rw [← ew2, ← eh2, zc62]; decide)]), zO_σ37⟩⟩
          · replace zc62 := bi_n0.mp zc62
            refine y_aload_n (pc := 65) hF dX11_half_65 0 rfl ?_
            refine y_iload_n (pc := 66) hF dX11_half_66 1 rfl ?_
            refine y_iload_n (pc := 67) hF dX11_half_67 2 rfl ?_
            refine y_iload_n (pc := 68) hF dX11_half_68 3 rfl ?_
            have zz69 := y_rV (pc := 69) hF (tX11_toneOf (n := n) (σ := σ37) 2 w2 h2 T2 S2 F2 P2 O2 hn (by omega) zA2 x y zc62) dX11_half_69 (by omega) rfl rfl rfl w_1472 qX11_toneOf rfl ⟨Nat.le_of_ble_eq_true rfl, Nat.le_of_ble_eq_true rfl⟩ ⟨Nat.zero_le _, Nat.zero_le _⟩ (Nat.le_of_ble_eq_true rfl) rfl (rest := []) (cells := 0) (slots := 0) (lv := [(0, yR g 155), (1, yI 2), (2, yI x), (3, yI y), (4, yI 1)])
            refine y_cp (zz69) ?_
            refine y_goto (pc := 72) hF dX11_half_72 77 rfl ?_
            exact y_iret (pc := 77) hF dX11_half_77 (Nat.zero_le _) (Nat.zero_le _) ⟨_, rfl, Nat.le_refl _, Or.inl ⟨(by omega), (by have zn : nHf w h 2 = 2 := (by unfold nHf; rw [if_pos ⟨by omega, zc1⟩, if_pos ⟨by omega, zc2⟩]); unfold hfV; rw [zn, if_neg (by decide), if_neg (by decide), if_pos (by rw [← ew2, ← eh2]; exact zc62), eT2]), zO_σ37⟩⟩
  · subst zv14; subst zs14
    refine y_if_ne (pc := 17) hF dX11_half_17 22 rfl (by decide) (fun zc17 => absurd zc17 (by decide)) (fun _ => ?_)
    refine y_iconst (pc := 20) hF dX11_half_20 ?_
    exact y_iret (pc := 21) hF dX11_half_21 (Nat.zero_le _) (Nat.zero_le _) ⟨_, rfl, Nat.le_refl _, Or.inr ⟨(fun ze => by simp at zb14; omega), zO_σ0.bA 1⟩⟩
