theorem dX11_front_0 : decode cX11_front 0 = .ok (.aload_n 0, 1) := by decide +kernel
theorem dX11_front_1 : decode cX11_front 1 = .ok (.iconst 0, 1) := by decide +kernel
theorem dX11_front_2 : decode cX11_front 2 = .ok (.putfield 1, 3) := by decide +kernel
theorem dX11_front_5 : decode cX11_front 5 = .ok (.aload_n 0, 1) := by decide +kernel
theorem dX11_front_6 : decode cX11_front 6 = .ok (.iload_n 2, 1) := by decide +kernel
theorem dX11_front_7 : decode cX11_front 7 = .ok (.iconst 0, 1) := by decide +kernel
theorem dX11_front_8 : decode cX11_front 8 = .ok (.iconst 2, 1) := by decide +kernel
theorem dX11_front_9 : decode cX11_front 9 = .ok (.invokestatic 68, 3) := by decide +kernel
theorem dX11_front_12 : decode cX11_front 12 = .ok (.iconst 1, 1) := by decide +kernel
theorem dX11_front_13 : decode cX11_front 13 = .ok (.iconst 1, 1) := by decide +kernel
theorem dX11_front_14 : decode cX11_front 14 = .ok (.invokevirtual 284, 3) := by decide +kernel
theorem dX11_front_17 : decode cX11_front 17 = .ok (.ifCond .ne 5, 3) := by decide +kernel
theorem dX11_front_20 : decode cX11_front 20 = .ok (.iconst 0, 1) := by decide +kernel
theorem dX11_front_21 : decode cX11_front 21 = .ok (.ireturn, 1) := by decide +kernel
theorem dX11_front_22 : decode cX11_front 22 = .ok (.ldc 180, 2) := by decide +kernel
theorem dX11_front_24 : decode cX11_front 24 = .ok (.istore_n 3, 1) := by decide +kernel
theorem dX11_front_25 : decode cX11_front 25 = .ok (.iconst (-1), 1) := by decide +kernel
theorem dX11_front_26 : decode cX11_front 26 = .ok (.istore 4, 2) := by decide +kernel
theorem dX11_front_28 : decode cX11_front 28 = .ok (.iconst 0, 1) := by decide +kernel
theorem dX11_front_29 : decode cX11_front 29 = .ok (.istore 5, 2) := by decide +kernel
theorem dX11_front_31 : decode cX11_front 31 = .ok (.iload 5, 2) := by decide +kernel
theorem dX11_front_33 : decode cX11_front 33 = .ok (.iload_n 1, 1) := by decide +kernel
theorem dX11_front_34 : decode cX11_front 34 = .ok (.if_icmp .gt 157, 3) := by decide +kernel
theorem dX11_front_37 : decode cX11_front 37 = .ok (.iconst (-1), 1) := by decide +kernel
theorem dX11_front_38 : decode cX11_front 38 = .ok (.istore 6, 2) := by decide +kernel
theorem dX11_front_40 : decode cX11_front 40 = .ok (.iconst (-1), 1) := by decide +kernel
theorem dX11_front_41 : decode cX11_front 41 = .ok (.istore 7, 2) := by decide +kernel
theorem dX11_front_43 : decode cX11_front 43 = .ok (.iconst 0, 1) := by decide +kernel
theorem dX11_front_44 : decode cX11_front 44 = .ok (.istore 8, 2) := by decide +kernel
theorem dX11_front_46 : decode cX11_front 46 = .ok (.iload 8, 2) := by decide +kernel
theorem dX11_front_48 : decode cX11_front 48 = .ok (.aload_n 0, 1) := by decide +kernel
theorem dX11_front_49 : decode cX11_front 49 = .ok (.getfield 25, 3) := by decide +kernel
theorem dX11_front_52 : decode cX11_front 52 = .ok (.iconst 0, 1) := by decide +kernel
theorem dX11_front_53 : decode cX11_front 53 = .ok (.iaload, 1) := by decide +kernel
theorem dX11_front_54 : decode cX11_front 54 = .ok (.if_icmp .ge 116, 3) := by decide +kernel
theorem dX11_front_57 : decode cX11_front 57 = .ok (.iconst 0, 1) := by decide +kernel
theorem dX11_front_58 : decode cX11_front 58 = .ok (.istore 9, 2) := by decide +kernel
theorem dX11_front_60 : decode cX11_front 60 = .ok (.iload 9, 2) := by decide +kernel
theorem dX11_front_62 : decode cX11_front 62 = .ok (.aload_n 0, 1) := by decide +kernel
theorem dX11_front_63 : decode cX11_front 63 = .ok (.getfield 22, 3) := by decide +kernel
theorem dX11_front_66 : decode cX11_front 66 = .ok (.iconst 0, 1) := by decide +kernel
theorem dX11_front_67 : decode cX11_front 67 = .ok (.iaload, 1) := by decide +kernel
theorem dX11_front_68 : decode cX11_front 68 = .ok (.if_icmp .ge 96, 3) := by decide +kernel
theorem dX11_front_71 : decode cX11_front 71 = .ok (.aload_n 0, 1) := by decide +kernel
theorem dX11_front_72 : decode cX11_front 72 = .ok (.iconst 0, 1) := by decide +kernel
theorem dX11_front_73 : decode cX11_front 73 = .ok (.iload 9, 2) := by decide +kernel
theorem dX11_front_75 : decode cX11_front 75 = .ok (.iload 8, 2) := by decide +kernel
theorem dX11_front_77 : decode cX11_front 77 = .ok (.invokevirtual 121, 3) := by decide +kernel
theorem dX11_front_80 : decode cX11_front 80 = .ok (.ifCond .ne 6, 3) := by decide +kernel
theorem dX11_front_83 : decode cX11_front 83 = .ok (.goto 75, 3) := by decide +kernel
theorem dX11_front_86 : decode cX11_front 86 = .ok (.aload_n 0, 1) := by decide +kernel
theorem dX11_front_87 : decode cX11_front 87 = .ok (.iconst 0, 1) := by decide +kernel
theorem dX11_front_88 : decode cX11_front 88 = .ok (.iload 9, 2) := by decide +kernel
theorem dX11_front_90 : decode cX11_front 90 = .ok (.iload 8, 2) := by decide +kernel
theorem dX11_front_92 : decode cX11_front 92 = .ok (.invokevirtual 124, 3) := by decide +kernel
theorem dX11_front_95 : decode cX11_front 95 = .ok (.istore 10, 2) := by decide +kernel
theorem dX11_front_97 : decode cX11_front 97 = .ok (.aload_n 0, 1) := by decide +kernel
theorem dX11_front_98 : decode cX11_front 98 = .ok (.iload_n 3, 1) := by decide +kernel
theorem dX11_front_99 : decode cX11_front 99 = .ok (.iload 4, 2) := by decide +kernel
theorem dX11_front_101 : decode cX11_front 101 = .ok (.iload 10, 2) := by decide +kernel
theorem dX11_front_103 : decode cX11_front 103 = .ok (.iload 9, 2) := by decide +kernel
theorem dX11_front_105 : decode cX11_front 105 = .ok (.iload 8, 2) := by decide +kernel
theorem dX11_front_107 : decode cX11_front 107 = .ok (.invokestatic 56, 3) := by decide +kernel
theorem dX11_front_110 : decode cX11_front 110 = .ok (.invokevirtual 350, 3) := by decide +kernel
theorem dX11_front_113 : decode cX11_front 113 = .ok (.ifCond .eq 45, 3) := by decide +kernel
theorem dX11_front_116 : decode cX11_front 116 = .ok (.iload 6, 2) := by decide +kernel
theorem dX11_front_118 : decode cX11_front 118 = .ok (.iconst (-1), 1) := by decide +kernel
theorem dX11_front_119 : decode cX11_front 119 = .ok (.if_icmp .eq 26, 3) := by decide +kernel
theorem dX11_front_122 : decode cX11_front 122 = .ok (.aload_n 0, 1) := by decide +kernel
theorem dX11_front_123 : decode cX11_front 123 = .ok (.iload 10, 2) := by decide +kernel
theorem dX11_front_125 : decode cX11_front 125 = .ok (.iload 9, 2) := by decide +kernel
theorem dX11_front_127 : decode cX11_front 127 = .ok (.iload 8, 2) := by decide +kernel
theorem dX11_front_129 : decode cX11_front 129 = .ok (.invokestatic 56, 3) := by decide +kernel
theorem dX11_front_132 : decode cX11_front 132 = .ok (.iload 7, 2) := by decide +kernel
theorem dX11_front_134 : decode cX11_front 134 = .ok (.iload 6, 2) := by decide +kernel
theorem dX11_front_136 : decode cX11_front 136 = .ok (.invokevirtual 350, 3) := by decide +kernel
theorem dX11_front_139 : decode cX11_front 139 = .ok (.ifCond .ne 6, 3) := by decide +kernel
theorem dX11_front_142 : decode cX11_front 142 = .ok (.goto 16, 3) := by decide +kernel
theorem dX11_front_145 : decode cX11_front 145 = .ok (.iload 9, 2) := by decide +kernel
theorem dX11_front_147 : decode cX11_front 147 = .ok (.iload 8, 2) := by decide +kernel
theorem dX11_front_149 : decode cX11_front 149 = .ok (.invokestatic 56, 3) := by decide +kernel
theorem dX11_front_152 : decode cX11_front 152 = .ok (.istore 6, 2) := by decide +kernel
theorem dX11_front_154 : decode cX11_front 154 = .ok (.iload 10, 2) := by decide +kernel
theorem dX11_front_156 : decode cX11_front 156 = .ok (.istore 7, 2) := by decide +kernel
theorem dX11_front_158 : decode cX11_front 158 = .ok (.iinc 9 1, 3) := by decide +kernel
theorem dX11_front_161 : decode cX11_front 161 = .ok (.goto (-101), 3) := by decide +kernel
theorem dX11_front_164 : decode cX11_front 164 = .ok (.iinc 8 1, 3) := by decide +kernel
theorem dX11_front_167 : decode cX11_front 167 = .ok (.goto (-121), 3) := by decide +kernel
theorem dX11_front_170 : decode cX11_front 170 = .ok (.iload 6, 2) := by decide +kernel
theorem dX11_front_172 : decode cX11_front 172 = .ok (.iconst (-1), 1) := by decide +kernel
theorem dX11_front_173 : decode cX11_front 173 = .ok (.if_icmp .ne 5, 3) := by decide +kernel
theorem dX11_front_176 : decode cX11_front 176 = .ok (.iconst (-1), 1) := by decide +kernel
theorem dX11_front_177 : decode cX11_front 177 = .ok (.ireturn, 1) := by decide +kernel
theorem dX11_front_178 : decode cX11_front 178 = .ok (.iload 6, 2) := by decide +kernel
theorem dX11_front_180 : decode cX11_front 180 = .ok (.istore 4, 2) := by decide +kernel
theorem dX11_front_182 : decode cX11_front 182 = .ok (.iload 7, 2) := by decide +kernel
theorem dX11_front_184 : decode cX11_front 184 = .ok (.istore_n 3, 1) := by decide +kernel
theorem dX11_front_185 : decode cX11_front 185 = .ok (.iinc 5 1, 3) := by decide +kernel
theorem dX11_front_188 : decode cX11_front 188 = .ok (.goto (-157), 3) := by decide +kernel
theorem dX11_front_191 : decode cX11_front 191 = .ok (.iload_n 1, 1) := by decide +kernel
theorem dX11_front_192 : decode cX11_front 192 = .ok (.ifCond .ge 7, 3) := by decide +kernel
theorem dX11_front_195 : decode cX11_front 195 = .ok (.iconst (-1), 1) := by decide +kernel
theorem dX11_front_196 : decode cX11_front 196 = .ok (.goto 29, 3) := by decide +kernel
theorem dX11_front_199 : decode cX11_front 199 = .ok (.iload_n 2, 1) := by decide +kernel
theorem dX11_front_200 : decode cX11_front 200 = .ok (.ifCond .ne 11, 3) := by decide +kernel
theorem dX11_front_203 : decode cX11_front 203 = .ok (.iload 4, 2) := by decide +kernel
theorem dX11_front_205 : decode cX11_front 205 = .ok (.invokestatic 344, 3) := by decide +kernel
theorem dX11_front_208 : decode cX11_front 208 = .ok (.goto 17, 3) := by decide +kernel
theorem dX11_front_211 : decode cX11_front 211 = .ok (.iload_n 2, 1) := by decide +kernel
theorem dX11_front_212 : decode cX11_front 212 = .ok (.iconst 1, 1) := by decide +kernel
theorem dX11_front_213 : decode cX11_front 213 = .ok (.if_icmp .ne 11, 3) := by decide +kernel
theorem dX11_front_216 : decode cX11_front 216 = .ok (.iload 4, 2) := by decide +kernel
theorem dX11_front_218 : decode cX11_front 218 = .ok (.invokestatic 347, 3) := by decide +kernel
theorem dX11_front_221 : decode cX11_front 221 = .ok (.goto 4, 3) := by decide +kernel
theorem dX11_front_224 : decode cX11_front 224 = .ok (.iload_n 3, 1) := by decide +kernel
theorem dX11_front_225 : decode cX11_front 225 = .ok (.ireturn, 1) := by decide +kernel
set_option maxHeartbeats 4000000 in
set_option maxRecDepth 100000 in
theorem tX11_front {l : Launch} {g : yG} {n : Nat} {σ : yM} (hn : 172 ≤ n) (w h : Int) (T S F P O : Int → Int → Int) (nf df nl : Int) (lg : Int → Int → Int) (s re fo ra tu we sh : Int) (H : List aX) (ht : Bool) (K : Int → Int → Int) (tl : Int) (tb : Int → Int) (fa r1 r2 N : Int) (hV : mV σ (w, h, (T, S, F, P, O, nf, df, nl, lg), (s, re, fo, ra, tu, we, sh), H, ht, K, tl, tb, fa, r1, r2)) (hW : aW N (w, h, (T, S, F, P, O, nf, df, nl, lg), (s, re, fo, ra, tu, we, sh), H, ht, K, tl, tb, fa, r1, r2)) (k a : Int) (hk : -2147483648 ≤ k ∧ k < 2147483648) (ha : -2147483648 ≤ a ∧ a < 2147483648) : yMet l g yX11_front cX11_front 11 (some .int) (rmL 7) [yR g 155, yI k, yI a] (SC g) n σ (SC g) (yPi (fun zv n' σ' => n ≤ n' ∧ (((0 ≤ a ∧ a ≤ 2) ∧ zv = ftV w h T S s ra k a ∧ mO σ σ' (w, h, (T, S, F, P, O, nf, df, nl, lg), (s, re, fo, ra, tu, we, sh), H, ht, K, tl, tb, fa, r1, r2) 0) ∨ (¬ (0 ≤ a ∧ a ≤ 2) ∧ mO σ σ' (bA (w, h, (T, S, F, P, O, nf, df, nl, lg), (s, re, fo, ra, tu, we, sh), H, ht, K, tl, tb, fa, r1, r2)) 1)))) := by
  obtain ⟨⟨hA, hL⟩, hS, hH, ⟨hb1, hb2⟩, ⟨ht1, ht2⟩, hfa, hr1, hr2⟩ := id hV
  obtain ⟨hw1, hw2, hw3, hw4⟩ := id hA.1.1
  obtain ⟨hs1, hs2, hs3, hs4, hs5, hs6, hs7⟩ := id hS.2
  have hz : (0 : Nat) < 3 := by omega
  have zrk0 := fun (x y : Int) (x1 : 0 ≤ x) (x2 : x < w) (y1 : 0 ≤ y) (y2 : y < h) => sRk_pos hA.1 (s := s) (ra := ra) ⟨by omega, hs1.2⟩ x1 x2 y1 y2
  have zrk : ∀ x y : Int, sFr w h T x y = true → -1 < (sRk w h T S s ra) x y ∧ (sRk w h T S s ra) x y < 1000000000 := fun x y hf => by have zi := sIn_iff.mp (sFr_in hf); have zt := zrk0 x y zi.1 zi.2.1 zi.2.2.1 zi.2.2.2; omega
  refine y_start (by decide) (Nat.le_of_ble_eq_true rfl) (fun X0 hF => ?_)
  show yV X0 g 11 (yQ X0 g (SC g) (yPi (fun zv n' σ' => n ≤ n' ∧ (((0 ≤ a ∧ a ≤ 2) ∧ zv = ftV w h T S s ra k a ∧ mO σ σ' (w, h, (T, S, F, P, O, nf, df, nl, lg), (s, re, fo, ra, tu, we, sh), H, ht, K, tl, tb, fa, r1, r2) 0) ∨ (¬ (0 ≤ a ∧ a ≤ 2) ∧ mO σ σ' (bA (w, h, (T, S, F, P, O, nf, df, nl, lg), (s, re, fo, ra, tu, we, sh), H, ht, K, tl, tb, fa, r1, r2)) 1)))) (rmL 7)) (SC g) n σ 0 0 0 [(0, yR g 155), (1, yI k), (2, yI a)] []
  refine y_aload_n (pc := 0) hF dX11_front_0 0 rfl ?_
  refine y_iconst (pc := 1) hF dX11_front_1 ?_
  refine y_putf (pc := 2) (ci := 11) (σ' := yset σ 155 0 0) (sch' := (SC g)) hF dX11_front_2 (by omega) rfl rfl rfl iX11 0 (by decide) w_1247 tyX11 tyX11_ok nmX11 rfl rfl rfl rfl (Nat.le_of_ble_eq_true rfl) rfl (y_ps rfl) (fun k' h => ⟨yset_n h, rfl⟩) ?_
  obtain ⟨σ0, hσ0⟩ : ∃ s, s = yset σ 155 0 0 := ⟨_, rfl⟩
  rw [← hσ0]
  have zO_σ0 := hV.t0 hσ0
  obtain ⟨⟨zA_σ0, zL_σ0⟩, zS_σ0, zH_σ0, ⟨zb1_σ0, zb2_σ0⟩, ⟨zt1_σ0, zt2_σ0⟩, zfa_σ0, zr1_σ0, zr2_σ0⟩ := id zO_σ0.2.2
  refine y_aload_n (pc := 5) hF dX11_front_5 0 rfl ?_
  refine y_iload_n (pc := 6) hF dX11_front_6 2 rfl ?_
  refine y_iconst (pc := 7) hF dX11_front_7 ?_
  refine y_iconst (pc := 8) hF dX11_front_8 ?_
  have zz9 := y_rS (pc := 9) (As := [yI a, yI 0, yI 2]) (kk := 0) hF (tX11_within (n := n) (σ := σ0) a 0 2 (by omega) (by omega) (by omega)) dX11_front_9 w_1392 qX11_within rfl ⟨Nat.le_of_ble_eq_true rfl, Nat.le_of_ble_eq_true rfl⟩ ⟨Nat.zero_le _, Nat.zero_le _⟩ (Nat.le_of_ble_eq_true rfl) rfl (rest := [yR g 155]) (cells := 0) (slots := 0) (lv := [(0, yR g 155), (1, yI k), (2, yI a)])
  refine y_cp (zz9) ?_
  refine y_iconst (pc := 12) hF dX11_front_12 ?_
  refine y_iconst (pc := 13) hF dX11_front_13 ?_
  refine y_ci (y_rV (pc := 14) hF (tX11_isFine hn zO_σ0.2.1 (decide (0 ≤ a) && decide (a ≤ 2)) 1 1 (by decide) (by decide)) dX11_front_14 (by omega) rfl rfl rfl w_1395 qX11_isFine rfl ⟨Nat.le_of_ble_eq_true rfl, Nat.le_of_ble_eq_true rfl⟩ ⟨Nat.zero_le _, Nat.zero_le _⟩ (Nat.le_of_ble_eq_true rfl) rfl) rfl rfl (fun r14 n' σ14 zp14 => ?_)
  obtain ⟨zn14, zp14⟩ := zp14
  have zn14 := zn14.symm
  subst zn14
  rcases zp14 with ⟨zb14, zv14, zs14⟩ | ⟨zb14, zv14, zs14⟩
  · subst zv14; have zs14 := zs14.symm; subst zs14
    refine y_if_ne (pc := 17) hF dX11_front_17 22 rfl (by decide) (fun _ => ?_) (fun zc17 => absurd zc17 (by decide))
    simp at zb14
    refine y_ldc (pc := 22) (v := 1000000000) hF dX11_front_22 wk_1571 ?_
    refine y_istore_n (pc := 24) (lv' := [(0, yR g 155), (1, yI k), (2, yI a), (3, yI 1000000000)]) hF dX11_front_24 (by decide) rfl rfl ?_
    refine y_iconst (pc := 25) hF dX11_front_25 ?_
    refine y_istore (pc := 26) (lv' := [(0, yR g 155), (1, yI k), (2, yI a), (3, yI 1000000000), (4, yI (-1))]) hF dX11_front_26 (by decide) rfl rfl ?_
    refine y_iconst (pc := 28) hF dX11_front_28 ?_
    refine y_istore (pc := 29) (lv' := [(0, yR g 155), (1, yI k), (2, yI a), (3, yI 1000000000), (4, yI (-1)), (5, yI 0)]) hF dX11_front_29 (by decide) rfl rfl ?_
    have zL31 : ∀ (N : Nat) (τ : yM) (m lr la : Int), N = (k + 1 - m).toNat → (fR 11 12 σ0 τ ∧ (0 ≤ m ∧ (m ≤ k + 1 ∨ m = 0)) ∧ slN w h T (sRk w h T S s ra) m lr la) → yV X0 g 11 (yQ X0 g (SC g) (yPi (fun zv n' σ' => n ≤ n' ∧ (((0 ≤ a ∧ a ≤ 2) ∧ zv = ftV w h T S s ra k a ∧ mO σ σ' (w, h, (T, S, F, P, O, nf, df, nl, lg), (s, re, fo, ra, tu, we, sh), H, ht, K, tl, tb, fa, r1, r2) 0) ∨ (¬ (0 ≤ a ∧ a ≤ 2) ∧ mO σ σ' (bA (w, h, (T, S, F, P, O, nf, df, nl, lg), (s, re, fo, ra, tu, we, sh), H, ht, K, tl, tb, fa, r1, r2)) 1)))) (rmL 7)) (SC g) n τ 0 0 31 [(0, yR g 155), (1, yI k), (2, yI a), (3, yI lr), (4, yI la), (5, yI m)] [] := by
      intro N
      induction N using Nat.strongRecOn with
      | ind N zh31 =>
        intro τ  m lr la  zN31 zI31
        have zbd := slN_bd ⟨hw1, hw2⟩ ⟨hw3, hw4⟩ zrk zI31.2.2
        have zA_τ := zA_σ0.fR hz zI31.1
        have zS_τ := zS_σ0.fR (by omega) zI31.1
        refine y_iload (pc := 31) hF dX11_front_31 5 rfl ?_
        refine y_iload_n (pc := 33) hF dX11_front_33 1 rfl ?_
        refine y_icmp_gt (pc := 34) hF dX11_front_34 191 rfl (by omega) (by omega) (fun zc34 => ?_) (fun zc34 => ?_)
        · skip
          refine y_iload_n (pc := 191) hF dX11_front_191 1 rfl ?_
          refine y_if_ge (pc := 192) hF dX11_front_192 199 rfl (by omega) (fun zc192 => ?_) (fun zc192 => ?_)
          · skip
            obtain ⟨x0, y0, zf0, zla0, zlr0, zcn0⟩ := (zI31.2.2.resolve_left (fun ze => by omega)).2
            have zi0 := sIn_iff.mp (sFr_in zf0)
            refine y_iload_n (pc := 199) hF dX11_front_199 2 rfl ?_
            refine y_if_ne (pc := 200) hF dX11_front_200 211 rfl (by omega) (fun zc200 => ?_) (fun zc200 => ?_)
            · skip
              refine y_iload_n (pc := 211) hF dX11_front_211 2 rfl ?_
              refine y_iconst (pc := 212) hF dX11_front_212 ?_
              refine y_icmp_ne (pc := 213) hF dX11_front_213 224 rfl (by omega) (by omega) (fun zc213 => ?_) (fun zc213 => ?_)
              · skip
                refine y_iload_n (pc := 224) hF dX11_front_224 3 rfl ?_
                exact y_iret (pc := 225) hF dX11_front_225 (Nat.zero_le _) (Nat.zero_le _) ⟨_, rfl, Nat.le_refl _, Or.inl ⟨(by omega), (by rw [ft_yes ⟨hw1, hw2⟩ zf0 (show cHd w h T (sRk w h T S s ra) x0 y0 = k by omega), if_neg zc200, if_neg zc213]; exact zlr0), (zO_σ0.fR zI31.1 (by omega) (by omega))⟩⟩
              · skip
                refine y_iload (pc := 216) hF dX11_front_216 4 rfl ?_
                have zz218 := y_rS (pc := 218) (As := [yI la]) (kk := 0) hF (tX11_yOf (n := n) (σ := τ) la (by omega)) dX11_front_218 w_1660 qX11_yOf rfl ⟨Nat.le_of_ble_eq_true rfl, Nat.le_of_ble_eq_true rfl⟩ ⟨Nat.zero_le _, Nat.zero_le _⟩ (Nat.le_of_ble_eq_true rfl) rfl (rest := []) (cells := 0) (slots := 0) (lv := [(0, yR g 155), (1, yI k), (2, yI a), (3, yI lr), (4, yI la), (5, yI m)])
                refine y_cp (zz218) ?_
                refine y_goto (pc := 221) hF dX11_front_221 225 rfl ?_
                exact y_iret (pc := 225) hF dX11_front_225 (Nat.zero_le _) (Nat.zero_le _) ⟨_, rfl, Nat.le_refl _, Or.inl ⟨(by omega), (by rw [ft_yes ⟨hw1, hw2⟩ zf0 (show cHd w h T (sRk w h T S s ra) x0 y0 = k by omega), if_neg zc200, if_pos zc213]; unfold my; rw [if_neg (by omega)]; omega), (zO_σ0.fR zI31.1 (by omega) (by omega))⟩⟩
            · skip
              refine y_iload (pc := 203) hF dX11_front_203 4 rfl ?_
              have zz205 := y_rS (pc := 205) (As := [yI la]) (kk := 0) hF (tX11_xOf (n := n) (σ := τ) la (by omega)) dX11_front_205 w_1657 qX11_xOf rfl ⟨Nat.le_of_ble_eq_true rfl, Nat.le_of_ble_eq_true rfl⟩ ⟨Nat.zero_le _, Nat.zero_le _⟩ (Nat.le_of_ble_eq_true rfl) rfl (rest := []) (cells := 0) (slots := 0) (lv := [(0, yR g 155), (1, yI k), (2, yI a), (3, yI lr), (4, yI la), (5, yI m)])
              refine y_cp (zz205) ?_
              refine y_goto (pc := 208) hF dX11_front_208 225 rfl ?_
              exact y_iret (pc := 225) hF dX11_front_225 (Nat.zero_le _) (Nat.zero_le _) ⟨_, rfl, Nat.le_refl _, Or.inl ⟨(by omega), (by rw [ft_yes ⟨hw1, hw2⟩ zf0 (show cHd w h T (sRk w h T S s ra) x0 y0 = k by omega), if_pos zc200]; unfold mx; rw [if_neg (by omega)]; omega), (zO_σ0.fR zI31.1 (by omega) (by omega))⟩⟩
          · skip
            refine y_iconst (pc := 195) hF dX11_front_195 ?_
            refine y_goto (pc := 196) hF dX11_front_196 225 rfl ?_
            exact y_iret (pc := 225) hF dX11_front_225 (Nat.zero_le _) (Nat.zero_le _) ⟨_, rfl, Nat.le_refl _, Or.inl ⟨(by omega), (ft_not ⟨hw1, hw2⟩ (fun x y hf => by have zt := sCt_bd (w := w) (h := h) ⟨hw1, hw2⟩ ⟨hw3, hw4⟩ (fun a b => sFr w h T a b && aHd (sRk w h T S s ra) a b x y); unfold cHd; omega)).symm, (zO_σ0.fR zI31.1 (by omega) (by omega))⟩⟩
        · skip
          refine y_iconst (pc := 37) hF dX11_front_37 ?_
          refine y_istore (pc := 38) (lv' := [(0, yR g 155), (1, yI k), (2, yI a), (3, yI lr), (4, yI la), (5, yI m), (6, yI (-1))]) hF dX11_front_38 (by decide) rfl rfl ?_
          refine y_iconst (pc := 40) hF dX11_front_40 ?_
          refine y_istore (pc := 41) (lv' := [(0, yR g 155), (1, yI k), (2, yI a), (3, yI lr), (4, yI la), (5, yI m), (6, yI (-1)), (7, yI (-1))]) hF dX11_front_41 (by decide) rfl rfl ?_
          refine y_iconst (pc := 43) hF dX11_front_43 ?_
          refine y_istore (pc := 44) (lv' := [(0, yR g 155), (1, yI k), (2, yI a), (3, yI lr), (4, yI la), (5, yI m), (6, yI (-1)), (7, yI (-1)), (8, yI 0)]) hF dX11_front_44 (by decide) rfl rfl ?_
          have zL46 : ∀ (N : Nat) (υ : yM) (y b br : Int), N = (h - y).toNat → (fR 11 12 σ0 υ ∧ (0 ≤ y ∧ y ≤ h) ∧ slB w h T (sRk w h T S s ra) lr la (dSc 0 y) b br ∧ ((-1 ≤ b ∧ b < 400) ∧ (-1 ≤ br ∧ br < 1000000000))) → yV X0 g 11 (yQ X0 g (SC g) (yPi (fun zv n' σ' => n ≤ n' ∧ (((0 ≤ a ∧ a ≤ 2) ∧ zv = ftV w h T S s ra k a ∧ mO σ σ' (w, h, (T, S, F, P, O, nf, df, nl, lg), (s, re, fo, ra, tu, we, sh), H, ht, K, tl, tb, fa, r1, r2) 0) ∨ (¬ (0 ≤ a ∧ a ≤ 2) ∧ mO σ σ' (bA (w, h, (T, S, F, P, O, nf, df, nl, lg), (s, re, fo, ra, tu, we, sh), H, ht, K, tl, tb, fa, r1, r2)) 1)))) (rmL 7)) (SC g) n υ 0 0 46 [(0, yR g 155), (1, yI k), (2, yI a), (3, yI lr), (4, yI la), (5, yI m), (6, yI b), (7, yI br), (8, yI y)] [] := by
            intro N
            induction N using Nat.strongRecOn with
            | ind N zh46 =>
              intro υ  y b br  zN46 zI46
              have zA_υ := zA_σ0.fR hz zI46.1
              have zS_υ := zS_σ0.fR (by omega) zI46.1
              refine y_iload (pc := 46) hF dX11_front_46 8 rfl ?_
              refine y_aload_n (pc := 48) hF dX11_front_48 0 rfl ?_
              refine y_get (pc := 49) (ci := 11) hF dX11_front_49 (by omega) rfl rfl rfl iX11 4 (by decide) w_1251 rfl ?_
              refine y_iconst (pc := 52) hF dX11_front_52 ?_
              refine y_iaload (pc := 53) hF dX11_front_53 (by omega) rfl (by omega) (by decide) ?_
              rw [show υ 162 0 = h from zA_υ.2.2.1]
              refine y_icmp_ge (pc := 54) hF dX11_front_54 170 rfl (by omega) (by omega) (fun zc54 => ?_) (fun zc54 => ?_)
              · skip
                have zup := slN_up ⟨hw1, hw2⟩ hw3 zrk zI31.2.2 zI46.2.2.1 (by omega)
                refine y_iload (pc := 170) hF dX11_front_170 6 rfl ?_
                refine y_iconst (pc := 172) hF dX11_front_172 ?_
                refine y_icmp_ne (pc := 173) hF dX11_front_173 178 rfl (by omega) (by omega) (fun zc173 => ?_) (fun zc173 => ?_)
                · skip
                  refine y_iload (pc := 178) hF dX11_front_178 6 rfl ?_
                  refine y_istore (pc := 180) (lv' := [(0, yR g 155), (1, yI k), (2, yI a), (3, yI lr), (4, yI b), (5, yI m), (6, yI b), (7, yI br), (8, yI y)]) hF dX11_front_180 (by decide) rfl rfl ?_
                  refine y_iload (pc := 182) hF dX11_front_182 7 rfl ?_
                  refine y_istore_n (pc := 184) (lv' := [(0, yR g 155), (1, yI k), (2, yI a), (3, yI br), (4, yI b), (5, yI m), (6, yI b), (7, yI br), (8, yI y)]) hF dX11_front_184 (by decide) rfl rfl ?_
                  refine y_iinc (pc := 185) (lv' := [(0, yR g 155), (1, yI k), (2, yI a), (3, yI br), (4, yI b), (5, yI (m + 1)), (6, yI b), (7, yI br), (8, yI y)]) hF dX11_front_185 5 rfl (by decide) rfl rfl ?_
                  refine y_goto (pc := 188) hF dX11_front_188 31 rfl ?_
                  refine y_sub [0, 1, 2, 3, 4, 5] rfl ?_
                  exact zh31 _ (by omega) υ (m + 1) br b rfl ⟨zI46.1, by omega, zup.1 zc173⟩
                · skip
                  refine y_iconst (pc := 176) hF dX11_front_176 ?_
                  exact y_iret (pc := 177) hF dX11_front_177 (Nat.zero_le _) (Nat.zero_le _) ⟨_, rfl, Nat.le_refl _, Or.inl ⟨(by omega), (ft_not ⟨hw1, hw2⟩ (fun x y hf => zup.2 zc173 x y k (by omega) hf)).symm, (zO_σ0.fR zI46.1 (by omega) (by omega))⟩⟩
              · skip
                refine y_iconst (pc := 57) hF dX11_front_57 ?_
                refine y_istore (pc := 58) (lv' := [(0, yR g 155), (1, yI k), (2, yI a), (3, yI lr), (4, yI la), (5, yI m), (6, yI b), (7, yI br), (8, yI y), (9, yI 0)]) hF dX11_front_58 (by decide) rfl rfl ?_
                have zL60 : ∀ (N : Nat) (κ : yM) (x b2 br2 : Int), N = (w - x).toNat → (fR 11 12 σ0 κ ∧ (0 ≤ x ∧ x ≤ w) ∧ slB w h T (sRk w h T S s ra) lr la (dSc x y) b2 br2 ∧ ((-1 ≤ b2 ∧ b2 < 400) ∧ (-1 ≤ br2 ∧ br2 < 1000000000))) → yV X0 g 11 (yQ X0 g (SC g) (yPi (fun zv n' σ' => n ≤ n' ∧ (((0 ≤ a ∧ a ≤ 2) ∧ zv = ftV w h T S s ra k a ∧ mO σ σ' (w, h, (T, S, F, P, O, nf, df, nl, lg), (s, re, fo, ra, tu, we, sh), H, ht, K, tl, tb, fa, r1, r2) 0) ∨ (¬ (0 ≤ a ∧ a ≤ 2) ∧ mO σ σ' (bA (w, h, (T, S, F, P, O, nf, df, nl, lg), (s, re, fo, ra, tu, we, sh), H, ht, K, tl, tb, fa, r1, r2)) 1)))) (rmL 7)) (SC g) n κ 0 0 60 [(0, yR g 155), (1, yI k), (2, yI a), (3, yI lr), (4, yI la), (5, yI m), (6, yI b2), (7, yI br2), (8, yI y), (9, yI x)] [] := by
                  intro N
                  induction N using Nat.strongRecOn with
                  | ind N zh60 =>
                    intro κ  x b2 br2  zN60 zI60
                    have zA_κ := zA_σ0.fR hz zI60.1
                    have zS_κ := zS_σ0.fR (by omega) zI60.1
                    refine y_iload (pc := 60) hF dX11_front_60 9 rfl ?_
                    refine y_aload_n (pc := 62) hF dX11_front_62 0 rfl ?_
                    refine y_get (pc := 63) (ci := 11) hF dX11_front_63 (by omega) rfl rfl rfl iX11 3 (by decide) w_1250 rfl ?_
                    refine y_iconst (pc := 66) hF dX11_front_66 ?_
                    refine y_iaload (pc := 67) hF dX11_front_67 (by omega) rfl (by omega) (by decide) ?_
                    rw [show κ 161 0 = w from zA_κ.2.1]
                    refine y_icmp_ge (pc := 68) hF dX11_front_68 164 rfl (by omega) (by omega) (fun zc68 => ?_) (fun zc68 => ?_)
                    · skip
                      refine y_iinc (pc := 164) (lv' := [(0, yR g 155), (1, yI k), (2, yI a), (3, yI lr), (4, yI la), (5, yI m), (6, yI b2), (7, yI br2), (8, yI (y + 1)), (9, yI x)]) hF dX11_front_164 8 rfl (by decide) rfl rfl ?_
                      refine y_goto (pc := 167) hF dX11_front_167 46 rfl ?_
                      refine y_sub [0, 1, 2, 3, 4, 5, 6, 7, 8] rfl ?_
                      exact zh46 _ (by omega) κ (y + 1) (b2) (br2) rfl ⟨zI60.1, by omega, slB_row (by have zt := zI60.2.2.1; rw [show x = w by omega] at zt; exact zt), zI60.2.2.2⟩
                    · skip
                      have zin : sIn w h x y = true := sIn_iff.mpr (by omega)
                      have zrd := zrk0 x y (by omega) (by omega) (by omega) (by omega)
                      refine y_aload_n (pc := 71) hF dX11_front_71 0 rfl ?_
                      refine y_iconst (pc := 72) hF dX11_front_72 ?_
                      refine y_iload (pc := 73) hF dX11_front_73 9 rfl ?_
                      refine y_iload (pc := 75) hF dX11_front_75 8 rfl ?_
                      have zz77 := y_rV (pc := 77) hF (tX11_isFront (n := n) (σ := κ) 0 w h T S F P O hn (by omega) zA_κ x y (by omega) (by omega)) dX11_front_77 (by omega) rfl rfl rfl w_1500 qX11_isFront rfl ⟨Nat.le_of_ble_eq_true rfl, Nat.le_of_ble_eq_true rfl⟩ ⟨Nat.zero_le _, Nat.zero_le _⟩ (Nat.le_of_ble_eq_true rfl) rfl (rest := []) (cells := 0) (slots := 0) (lv := [(0, yR g 155), (1, yI k), (2, yI a), (3, yI lr), (4, yI la), (5, yI m), (6, yI b2), (7, yI br2), (8, yI y), (9, yI x)])
                      refine y_cp (zz77) ?_
                      refine y_if_ne (pc := 80) hF dX11_front_80 86 rfl bi_r (fun zc80 => ?_) (fun zc80 => ?_)
                      · replace zc80 := bi_n0.mp zc80
                        refine y_aload_n (pc := 86) hF dX11_front_86 0 rfl ?_
                        refine y_iconst (pc := 87) hF dX11_front_87 ?_
                        refine y_iload (pc := 88) hF dX11_front_88 9 rfl ?_
                        refine y_iload (pc := 90) hF dX11_front_90 8 rfl ?_
                        refine y_ci (y_rV (pc := 92) hF (tX11_rankOf 0 w h T S F P O s re fo ra tu we sh hn (by omega) zA_κ zS_κ x y zin) dX11_front_92 (by omega) rfl rfl rfl w_1508 qX11_rankOf rfl ⟨Nat.le_of_ble_eq_true rfl, Nat.le_of_ble_eq_true rfl⟩ ⟨Nat.zero_le _, Nat.zero_le _⟩ (Nat.le_of_ble_eq_true rfl) rfl) rfl rfl (fun r92 n' σ92 zp92 => ?_)
                        obtain ⟨zn92, zv92, zp92⟩ := zp92
                        have zn92 := zn92.symm
                        subst zn92
                        rw [zv92]
                        have zA_σ92 := zA_κ.fR hz zp92
                        refine y_istore (pc := 95) (lv' := [(0, yR g 155), (1, yI k), (2, yI a), (3, yI lr), (4, yI la), (5, yI m), (6, yI b2), (7, yI br2), (8, yI y), (9, yI x), (10, yI (sRk w h T S s ra x y))]) hF dX11_front_95 (by decide) rfl rfl ?_
                        refine y_aload_n (pc := 97) hF dX11_front_97 0 rfl ?_
                        refine y_iload_n (pc := 98) hF dX11_front_98 3 rfl ?_
                        refine y_iload (pc := 99) hF dX11_front_99 4 rfl ?_
                        refine y_iload (pc := 101) hF dX11_front_101 10 rfl ?_
                        refine y_iload (pc := 103) hF dX11_front_103 9 rfl ?_
                        refine y_iload (pc := 105) hF dX11_front_105 8 rfl ?_
                        have zz107 := y_rS (pc := 107) (As := [yI x, yI y]) (kk := 0) hF (tX11_at (n := n) (σ := σ92) x y) dX11_front_107 w_1236 qX11_at rfl ⟨Nat.le_of_ble_eq_true rfl, Nat.le_of_ble_eq_true rfl⟩ ⟨Nat.zero_le _, Nat.zero_le _⟩ (Nat.le_of_ble_eq_true rfl) rfl (rest := [yI (sRk w h T S s ra x y), yI la, yI lr, yR g 155]) (cells := 0) (slots := 0) (lv := [(0, yR g 155), (1, yI k), (2, yI a), (3, yI lr), (4, yI la), (5, yI m), (6, yI b2), (7, yI br2), (8, yI y), (9, yI x), (10, yI (sRk w h T S s ra x y))])
                        refine y_cp (zz107) ?_
                        have zz110 := y_rV (pc := 110) hF (tX11_isAhead (n := n) (σ := σ92) lr la (sRk w h T S s ra x y) (20 * y + x) (by omega) (by omega) (by omega) (by omega)) dX11_front_110 (by omega) rfl rfl rfl w_1683 qX11_isAhead rfl ⟨Nat.le_of_ble_eq_true rfl, Nat.le_of_ble_eq_true rfl⟩ ⟨Nat.zero_le _, Nat.zero_le _⟩ (Nat.le_of_ble_eq_true rfl) rfl (rest := []) (cells := 0) (slots := 0) (lv := [(0, yR g 155), (1, yI k), (2, yI a), (3, yI lr), (4, yI la), (5, yI m), (6, yI b2), (7, yI br2), (8, yI y), (9, yI x), (10, yI (sRk w h T S s ra x y))])
                        refine y_cp (zz110) ?_
                        refine y_if_eq (pc := 113) hF dX11_front_113 158 rfl bi_r (fun zc113 => ?_) (fun zc113 => ?_)
                        · replace zc113 := bi_0.mp zc113
                          refine y_iinc (pc := 158) (lv' := [(0, yR g 155), (1, yI k), (2, yI a), (3, yI lr), (4, yI la), (5, yI m), (6, yI b2), (7, yI br2), (8, yI y), (9, yI (x + 1)), (10, yI (sRk w h T S s ra x y))]) hF dX11_front_158 9 rfl (by decide) rfl rfl ?_
                          refine y_goto (pc := 161) hF dX11_front_161 60 rfl ?_
                          refine y_sub [0, 1, 2, 3, 4, 5, 6, 7, 8, 9] rfl ?_
                          exact zh60 _ (by omega) σ92 (x + 1) (b2) (br2) rfl ⟨zI60.1.tr zp92, by omega, slB_same zI60.2.2.1 (fun zf za => by exact absurd (za.symm.trans zc113) (by decide)) hw2, by omega⟩
                        · replace zc113 := bi_n0.mp zc113
                          refine y_iload (pc := 116) hF dX11_front_116 6 rfl ?_
                          refine y_iconst (pc := 118) hF dX11_front_118 ?_
                          refine y_icmp_eq (pc := 119) hF dX11_front_119 145 rfl (by omega) (by omega) (fun zc119 => ?_) (fun zc119 => ?_)
                          · skip
                            refine y_iload (pc := 145) hF dX11_front_145 9 rfl ?_
                            refine y_iload (pc := 147) hF dX11_front_147 8 rfl ?_
                            have zz149 := y_rS (pc := 149) (As := [yI x, yI y]) (kk := 0) hF (tX11_at (n := n) (σ := σ92) x y) dX11_front_149 w_1236 qX11_at rfl ⟨Nat.le_of_ble_eq_true rfl, Nat.le_of_ble_eq_true rfl⟩ ⟨Nat.zero_le _, Nat.zero_le _⟩ (Nat.le_of_ble_eq_true rfl) rfl (rest := []) (cells := 0) (slots := 0) (lv := [(0, yR g 155), (1, yI k), (2, yI a), (3, yI lr), (4, yI la), (5, yI m), (6, yI b2), (7, yI br2), (8, yI y), (9, yI x), (10, yI (sRk w h T S s ra x y))])
                            refine y_cp (zz149) ?_
                            refine y_istore (pc := 152) (lv' := [(0, yR g 155), (1, yI k), (2, yI a), (3, yI lr), (4, yI la), (5, yI m), (6, yI (20 * y + x)), (7, yI br2), (8, yI y), (9, yI x), (10, yI (sRk w h T S s ra x y))]) hF dX11_front_152 (by decide) rfl rfl ?_
                            refine y_iload (pc := 154) hF dX11_front_154 10 rfl ?_
                            refine y_istore (pc := 156) (lv' := [(0, yR g 155), (1, yI k), (2, yI a), (3, yI lr), (4, yI la), (5, yI m), (6, yI (20 * y + x)), (7, yI (sRk w h T S s ra x y)), (8, yI y), (9, yI x), (10, yI (sRk w h T S s ra x y))]) hF dX11_front_156 (by decide) rfl rfl ?_
                            refine y_iinc (pc := 158) (lv' := [(0, yR g 155), (1, yI k), (2, yI a), (3, yI lr), (4, yI la), (5, yI m), (6, yI (20 * y + x)), (7, yI (sRk w h T S s ra x y)), (8, yI y), (9, yI (x + 1)), (10, yI (sRk w h T S s ra x y))]) hF dX11_front_158 9 rfl (by decide) rfl rfl ?_
                            refine y_goto (pc := 161) hF dX11_front_161 60 rfl ?_
                            refine y_sub [0, 1, 2, 3, 4, 5, 6, 7, 8, 9] rfl ?_
                            exact zh60 _ (by omega) σ92 (x + 1) (20 * y + x) ((sRk w h T S s ra x y)) rfl ⟨zI60.1.tr zp92, by omega, slB_new zI60.2.2.1 zc80 zc113 (by exact Or.inl zc119), by omega⟩
                          · skip
                            refine y_aload_n (pc := 122) hF dX11_front_122 0 rfl ?_
                            refine y_iload (pc := 123) hF dX11_front_123 10 rfl ?_
                            refine y_iload (pc := 125) hF dX11_front_125 9 rfl ?_
                            refine y_iload (pc := 127) hF dX11_front_127 8 rfl ?_
                            have zz129 := y_rS (pc := 129) (As := [yI x, yI y]) (kk := 0) hF (tX11_at (n := n) (σ := σ92) x y) dX11_front_129 w_1236 qX11_at rfl ⟨Nat.le_of_ble_eq_true rfl, Nat.le_of_ble_eq_true rfl⟩ ⟨Nat.zero_le _, Nat.zero_le _⟩ (Nat.le_of_ble_eq_true rfl) rfl (rest := [yI (sRk w h T S s ra x y), yR g 155]) (cells := 0) (slots := 0) (lv := [(0, yR g 155), (1, yI k), (2, yI a), (3, yI lr), (4, yI la), (5, yI m), (6, yI b2), (7, yI br2), (8, yI y), (9, yI x), (10, yI (sRk w h T S s ra x y))])
                            refine y_cp (zz129) ?_
                            refine y_iload (pc := 132) hF dX11_front_132 7 rfl ?_
                            refine y_iload (pc := 134) hF dX11_front_134 6 rfl ?_
                            have zz136 := y_rV (pc := 136) hF (tX11_isAhead (n := n) (σ := σ92) (sRk w h T S s ra x y) (20 * y + x) br2 b2 (by omega) (by omega) (by omega) (by omega)) dX11_front_136 (by omega) rfl rfl rfl w_1683 qX11_isAhead rfl ⟨Nat.le_of_ble_eq_true rfl, Nat.le_of_ble_eq_true rfl⟩ ⟨Nat.zero_le _, Nat.zero_le _⟩ (Nat.le_of_ble_eq_true rfl) rfl (rest := []) (cells := 0) (slots := 0) (lv := [(0, yR g 155), (1, yI k), (2, yI a), (3, yI lr), (4, yI la), (5, yI m), (6, yI b2), (7, yI br2), (8, yI y), (9, yI x), (10, yI (sRk w h T S s ra x y))])
                            refine y_cp (zz136) ?_
                            refine y_if_ne (pc := 139) hF dX11_front_139 145 rfl bi_r (fun zc139 => ?_) (fun zc139 => ?_)
                            · replace zc139 := bi_n0.mp zc139
                              refine y_iload (pc := 145) hF dX11_front_145 9 rfl ?_
                              refine y_iload (pc := 147) hF dX11_front_147 8 rfl ?_
                              have zz149 := y_rS (pc := 149) (As := [yI x, yI y]) (kk := 0) hF (tX11_at (n := n) (σ := σ92) x y) dX11_front_149 w_1236 qX11_at rfl ⟨Nat.le_of_ble_eq_true rfl, Nat.le_of_ble_eq_true rfl⟩ ⟨Nat.zero_le _, Nat.zero_le _⟩ (Nat.le_of_ble_eq_true rfl) rfl (rest := []) (cells := 0) (slots := 0) (lv := [(0, yR g 155), (1, yI k), (2, yI a), (3, yI lr), (4, yI la), (5, yI m), (6, yI b2), (7, yI br2), (8, yI y), (9, yI x), (10, yI (sRk w h T S s ra x y))])
                              refine y_cp (zz149) ?_
                              refine y_istore (pc := 152) (lv' := [(0, yR g 155), (1, yI k), (2, yI a), (3, yI lr), (4, yI la), (5, yI m), (6, yI (20 * y + x)), (7, yI br2), (8, yI y), (9, yI x), (10, yI (sRk w h T S s ra x y))]) hF dX11_front_152 (by decide) rfl rfl ?_
                              refine y_iload (pc := 154) hF dX11_front_154 10 rfl ?_
                              refine y_istore (pc := 156) (lv' := [(0, yR g 155), (1, yI k), (2, yI a), (3, yI lr), (4, yI la), (5, yI m), (6, yI (20 * y + x)), (7, yI (sRk w h T S s ra x y)), (8, yI y), (9, yI x), (10, yI (sRk w h T S s ra x y))]) hF dX11_front_156 (by decide) rfl rfl ?_
                              refine y_iinc (pc := 158) (lv' := [(0, yR g 155), (1, yI k), (2, yI a), (3, yI lr), (4, yI la), (5, yI m), (6, yI (20 * y + x)), (7, yI (sRk w h T S s ra x y)), (8, yI y), (9, yI (x + 1)), (10, yI (sRk w h T S s ra x y))]) hF dX11_front_158 9 rfl (by decide) rfl rfl ?_
                              refine y_goto (pc := 161) hF dX11_front_161 60 rfl ?_
                              refine y_sub [0, 1, 2, 3, 4, 5, 6, 7, 8, 9] rfl ?_
                              exact zh60 _ (by omega) σ92 (x + 1) (20 * y + x) ((sRk w h T S s ra x y)) rfl ⟨zI60.1.tr zp92, by omega, slB_new zI60.2.2.1 zc80 zc113 (by simp at zc139; omega), by omega⟩
                            · replace zc139 := bi_0.mp zc139
                              refine y_goto (pc := 142) hF dX11_front_142 158 rfl ?_
                              refine y_iinc (pc := 158) (lv' := [(0, yR g 155), (1, yI k), (2, yI a), (3, yI lr), (4, yI la), (5, yI m), (6, yI b2), (7, yI br2), (8, yI y), (9, yI (x + 1)), (10, yI (sRk w h T S s ra x y))]) hF dX11_front_158 9 rfl (by decide) rfl rfl ?_
                              refine y_goto (pc := 161) hF dX11_front_161 60 rfl ?_
                              refine y_sub [0, 1, 2, 3, 4, 5, 6, 7, 8, 9] rfl ?_
                              exact zh60 _ (by omega) σ92 (x + 1) (b2) (br2) rfl ⟨zI60.1.tr zp92, by omega, slB_same zI60.2.2.1 (fun zf za => by simp at zc139; omega) hw2, by omega⟩
                      · replace zc80 := bi_0.mp zc80
                        refine y_goto (pc := 83) hF dX11_front_83 158 rfl ?_
                        refine y_iinc (pc := 158) (lv' := [(0, yR g 155), (1, yI k), (2, yI a), (3, yI lr), (4, yI la), (5, yI m), (6, yI b2), (7, yI br2), (8, yI y), (9, yI (x + 1))]) hF dX11_front_158 9 rfl (by decide) rfl rfl ?_
                        refine y_goto (pc := 161) hF dX11_front_161 60 rfl ?_
                        exact zh60 _ (by omega) κ (x + 1) (b2) (br2) rfl ⟨zI60.1, by omega, slB_same zI60.2.2.1 (fun zf za => by rw [zc80] at zf; cases zf) hw2, by omega⟩
                exact zL60 _ υ (0) (b) (br) rfl ⟨zI46.1, by omega, zI46.2.2.1, zI46.2.2.2⟩
          exact zL46 _ τ (0) (-1) (-1) rfl ⟨zI31.1, by omega, slB_0, by omega⟩
    exact zL31 _ σ0 0 1000000000 (-1) rfl ⟨fR.rf σ0, by omega, Or.inl ⟨rfl, rfl, rfl⟩⟩
  · subst zv14; subst zs14
    refine y_if_ne (pc := 17) hF dX11_front_17 22 rfl (by decide) (fun zc17 => absurd zc17 (by decide)) (fun _ => ?_)
    refine y_iconst (pc := 20) hF dX11_front_20 ?_
    exact y_iret (pc := 21) hF dX11_front_21 (Nat.zero_le _) (Nat.zero_le _) ⟨_, rfl, Nat.le_refl _, Or.inr ⟨(fun ze => by simp at zb14; omega), zO_σ0.bA 1⟩⟩
