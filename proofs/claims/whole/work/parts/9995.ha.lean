theorem dX11_tune_0 : decode cX11_tune 0 = .ok (.aload_n 0, 1) := by decide +kernel
theorem dX11_tune_1 : decode cX11_tune 1 = .ok (.iconst 0, 1) := by decide +kernel
theorem dX11_tune_2 : decode cX11_tune 2 = .ok (.putfield 1, 3) := by decide +kernel
theorem dX11_tune_5 : decode cX11_tune 5 = .ok (.aload_n 0, 1) := by decide +kernel
theorem dX11_tune_6 : decode cX11_tune 6 = .ok (.iload_n 1, 1) := by decide +kernel
theorem dX11_tune_7 : decode cX11_tune 7 = .ok (.iconst 0, 1) := by decide +kernel
theorem dX11_tune_8 : decode cX11_tune 8 = .ok (.iconst 2, 1) := by decide +kernel
theorem dX11_tune_9 : decode cX11_tune 9 = .ok (.invokestatic 68, 3) := by decide +kernel
theorem dX11_tune_12 : decode cX11_tune 12 = .ok (.iconst 1, 1) := by decide +kernel
theorem dX11_tune_13 : decode cX11_tune 13 = .ok (.iconst 1, 1) := by decide +kernel
theorem dX11_tune_14 : decode cX11_tune 14 = .ok (.invokevirtual 284, 3) := by decide +kernel
theorem dX11_tune_17 : decode cX11_tune 17 = .ok (.ifCond .ne 5, 3) := by decide +kernel
theorem dX11_tune_20 : decode cX11_tune 20 = .ok (.iconst 0, 1) := by decide +kernel
theorem dX11_tune_21 : decode cX11_tune 21 = .ok (.ireturn, 1) := by decide +kernel
theorem dX11_tune_22 : decode cX11_tune 22 = .ok (.aload_n 0, 1) := by decide +kernel
theorem dX11_tune_23 : decode cX11_tune 23 = .ok (.getfield 37, 3) := by decide +kernel
theorem dX11_tune_26 : decode cX11_tune 26 = .ok (.iconst 0, 1) := by decide +kernel
theorem dX11_tune_27 : decode cX11_tune 27 = .ok (.iaload, 1) := by decide +kernel
theorem dX11_tune_28 : decode cX11_tune 28 = .ok (.istore_n 2, 1) := by decide +kernel
theorem dX11_tune_29 : decode cX11_tune 29 = .ok (.iconst (-1), 1) := by decide +kernel
theorem dX11_tune_30 : decode cX11_tune 30 = .ok (.istore_n 3, 1) := by decide +kernel
theorem dX11_tune_31 : decode cX11_tune 31 = .ok (.iconst 0, 1) := by decide +kernel
theorem dX11_tune_32 : decode cX11_tune 32 = .ok (.istore 4, 2) := by decide +kernel
theorem dX11_tune_34 : decode cX11_tune 34 = .ok (.iconst 0, 1) := by decide +kernel
theorem dX11_tune_35 : decode cX11_tune 35 = .ok (.istore 5, 2) := by decide +kernel
theorem dX11_tune_37 : decode cX11_tune 37 = .ok (.iconst 1, 1) := by decide +kernel
theorem dX11_tune_38 : decode cX11_tune 38 = .ok (.istore 6, 2) := by decide +kernel
theorem dX11_tune_40 : decode cX11_tune 40 = .ok (.iload 6, 2) := by decide +kernel
theorem dX11_tune_42 : decode cX11_tune 42 = .ok (.iconst 3, 1) := by decide +kernel
theorem dX11_tune_43 : decode cX11_tune 43 = .ok (.if_icmp .gt 98, 3) := by decide +kernel
theorem dX11_tune_46 : decode cX11_tune 46 = .ok (.aload_n 0, 1) := by decide +kernel
theorem dX11_tune_47 : decode cX11_tune 47 = .ok (.getfield 37, 3) := by decide +kernel
theorem dX11_tune_50 : decode cX11_tune 50 = .ok (.iconst 0, 1) := by decide +kernel
theorem dX11_tune_51 : decode cX11_tune 51 = .ok (.iload 6, 2) := by decide +kernel
theorem dX11_tune_53 : decode cX11_tune 53 = .ok (.iastore, 1) := by decide +kernel
theorem dX11_tune_54 : decode cX11_tune 54 = .ok (.aload_n 0, 1) := by decide +kernel
theorem dX11_tune_55 : decode cX11_tune 55 = .ok (.invokevirtual 314, 3) := by decide +kernel
theorem dX11_tune_58 : decode cX11_tune 58 = .ok (.aload_n 0, 1) := by decide +kernel
theorem dX11_tune_59 : decode cX11_tune 59 = .ok (.iconst 0, 1) := by decide +kernel
theorem dX11_tune_60 : decode cX11_tune 60 = .ok (.iconst 0, 1) := by decide +kernel
theorem dX11_tune_61 : decode cX11_tune 61 = .ok (.sipush 400, 3) := by decide +kernel
theorem dX11_tune_64 : decode cX11_tune 64 = .ok (.invokevirtual 235, 3) := by decide +kernel
theorem dX11_tune_67 : decode cX11_tune 67 = .ok (.pop, 1) := by decide +kernel
theorem dX11_tune_68 : decode cX11_tune 68 = .ok (.aload_n 0, 1) := by decide +kernel
theorem dX11_tune_69 : decode cX11_tune 69 = .ok (.invokevirtual 294, 3) := by decide +kernel
theorem dX11_tune_72 : decode cX11_tune 72 = .ok (.istore 7, 2) := by decide +kernel
theorem dX11_tune_74 : decode cX11_tune 74 = .ok (.aload_n 0, 1) := by decide +kernel
theorem dX11_tune_75 : decode cX11_tune 75 = .ok (.getfield 297, 3) := by decide +kernel
theorem dX11_tune_78 : decode cX11_tune 78 = .ok (.ifCond .eq 10, 3) := by decide +kernel
theorem dX11_tune_81 : decode cX11_tune 81 = .ok (.aload_n 0, 1) := by decide +kernel
theorem dX11_tune_82 : decode cX11_tune 82 = .ok (.invokevirtual 354, 3) := by decide +kernel
theorem dX11_tune_85 : decode cX11_tune 85 = .ok (.goto 4, 3) := by decide +kernel
theorem dX11_tune_88 : decode cX11_tune 88 = .ok (.iconst 0, 1) := by decide +kernel
theorem dX11_tune_89 : decode cX11_tune 89 = .ok (.istore 8, 2) := by decide +kernel
theorem dX11_tune_91 : decode cX11_tune 91 = .ok (.aload_n 0, 1) := by decide +kernel
theorem dX11_tune_92 : decode cX11_tune 92 = .ok (.invokevirtual 360, 3) := by decide +kernel
theorem dX11_tune_95 : decode cX11_tune 95 = .ok (.iload_n 3, 1) := by decide +kernel
theorem dX11_tune_96 : decode cX11_tune 96 = .ok (.iconst (-1), 1) := by decide +kernel
theorem dX11_tune_97 : decode cX11_tune 97 = .ok (.if_icmp .eq 27, 3) := by decide +kernel
theorem dX11_tune_100 : decode cX11_tune 100 = .ok (.iload 7, 2) := by decide +kernel
theorem dX11_tune_102 : decode cX11_tune 102 = .ok (.iload 4, 2) := by decide +kernel
theorem dX11_tune_104 : decode cX11_tune 104 = .ok (.if_icmp .gt 31, 3) := by decide +kernel
theorem dX11_tune_107 : decode cX11_tune 107 = .ok (.iload 7, 2) := by decide +kernel
theorem dX11_tune_109 : decode cX11_tune 109 = .ok (.iload 4, 2) := by decide +kernel
theorem dX11_tune_111 : decode cX11_tune 111 = .ok (.if_icmp .ne 13, 3) := by decide +kernel
theorem dX11_tune_114 : decode cX11_tune 114 = .ok (.iload 8, 2) := by decide +kernel
theorem dX11_tune_116 : decode cX11_tune 116 = .ok (.iload 5, 2) := by decide +kernel
theorem dX11_tune_118 : decode cX11_tune 118 = .ok (.if_icmp .lt 6, 3) := by decide +kernel
theorem dX11_tune_121 : decode cX11_tune 121 = .ok (.goto 14, 3) := by decide +kernel
theorem dX11_tune_124 : decode cX11_tune 124 = .ok (.iload 6, 2) := by decide +kernel
theorem dX11_tune_126 : decode cX11_tune 126 = .ok (.istore_n 3, 1) := by decide +kernel
theorem dX11_tune_127 : decode cX11_tune 127 = .ok (.iload 7, 2) := by decide +kernel
theorem dX11_tune_129 : decode cX11_tune 129 = .ok (.istore 4, 2) := by decide +kernel
theorem dX11_tune_131 : decode cX11_tune 131 = .ok (.iload 8, 2) := by decide +kernel
theorem dX11_tune_133 : decode cX11_tune 133 = .ok (.istore 5, 2) := by decide +kernel
theorem dX11_tune_135 : decode cX11_tune 135 = .ok (.iinc 6 1, 3) := by decide +kernel
theorem dX11_tune_138 : decode cX11_tune 138 = .ok (.goto (-98), 3) := by decide +kernel
theorem dX11_tune_141 : decode cX11_tune 141 = .ok (.aload_n 0, 1) := by decide +kernel
theorem dX11_tune_142 : decode cX11_tune 142 = .ok (.getfield 37, 3) := by decide +kernel
theorem dX11_tune_145 : decode cX11_tune 145 = .ok (.iconst 0, 1) := by decide +kernel
theorem dX11_tune_146 : decode cX11_tune 146 = .ok (.iload_n 2, 1) := by decide +kernel
theorem dX11_tune_147 : decode cX11_tune 147 = .ok (.iastore, 1) := by decide +kernel
theorem dX11_tune_148 : decode cX11_tune 148 = .ok (.iload_n 1, 1) := by decide +kernel
theorem dX11_tune_149 : decode cX11_tune 149 = .ok (.ifCond .ne 7, 3) := by decide +kernel
theorem dX11_tune_152 : decode cX11_tune 152 = .ok (.iload_n 3, 1) := by decide +kernel
theorem dX11_tune_153 : decode cX11_tune 153 = .ok (.goto 15, 3) := by decide +kernel
theorem dX11_tune_156 : decode cX11_tune 156 = .ok (.iload_n 1, 1) := by decide +kernel
theorem dX11_tune_157 : decode cX11_tune 157 = .ok (.iconst 1, 1) := by decide +kernel
theorem dX11_tune_158 : decode cX11_tune 158 = .ok (.if_icmp .ne 8, 3) := by decide +kernel
theorem dX11_tune_161 : decode cX11_tune 161 = .ok (.iload 4, 2) := by decide +kernel
theorem dX11_tune_163 : decode cX11_tune 163 = .ok (.goto 5, 3) := by decide +kernel
theorem dX11_tune_166 : decode cX11_tune 166 = .ok (.iload 5, 2) := by decide +kernel
theorem dX11_tune_168 : decode cX11_tune 168 = .ok (.ireturn, 1) := by decide +kernel
set_option maxHeartbeats 4000000 in
set_option maxRecDepth 100000 in
theorem tX11_tune {l : Launch} {g : yG} {n : Nat} {σ : yM} (hn : 172 ≤ n) (w h : Int) (T S F P O : Int → Int → Int) (nf df nl : Int) (lg : Int → Int → Int) (s re fo ra tu we sh : Int) (H : List aX) (ht : Bool) (K : Int → Int → Int) (tl : Int) (tb : Int → Int) (fa r1 r2 N : Int) (hV : mV σ (w, h, (T, S, F, P, O, nf, df, nl, lg), (s, re, fo, ra, tu, we, sh), H, ht, K, tl, tb, fa, r1, r2)) (hW : aW N (w, h, (T, S, F, P, O, nf, df, nl, lg), (s, re, fo, ra, tu, we, sh), H, ht, K, tl, tb, fa, r1, r2)) (a : Int) (ha : -2147483648 ≤ a ∧ a < 2147483648)(hNb : N ≤ 400000000)  : yMet l g yX11_tune cX11_tune 9 (some .int) (rmA 12 303 2727) [yR g 155, yI a] (SC g) n σ (SC g) (yPi (fun zv n' σ' => n ≤ n' ∧ (((0 ≤ a ∧ a ≤ 2) ∧ zv = tnV (tnQ w h T S F P O re fo ra tu we sh ht K 3) a ∧ mO σ σ' (w, h, (T, S, F, P, O, nf, df, nl, lg), (s, re, fo, ra, tu, we, sh), H, ht, K, tl, tb, fa, r1, r2) 0) ∨ (¬ (0 ≤ a ∧ a ≤ 2) ∧ mO σ σ' (bA (w, h, (T, S, F, P, O, nf, df, nl, lg), (s, re, fo, ra, tu, we, sh), H, ht, K, tl, tb, fa, r1, r2)) 1)))) := by
  obtain ⟨⟨hA, hL⟩, hS, hH, ⟨hb1, hb2⟩, ⟨ht1, ht2⟩, hfa, hr1, hr2⟩ := id hV
  obtain ⟨hw1, hw2, hw3, hw4⟩ := id hA.1.1
  obtain ⟨hs1, hs2, hs3, hs4, hs5, hs6, hs7⟩ := id hS.2
  have hz : (0 : Nat) < 3 := by omega
  have hnf : nf < 800000000 := by have := hW.1.1; simp only [xNf] at this; omega
  have hnf0 : 0 ≤ nf := hL.2.2.2.1.1
  have hdl : 0 ≤ (H.length : Int) ∧ (H.length : Int) ≤ 10 := by have := hH.2.1; omega
  refine y_start (by decide) (Nat.le_of_ble_eq_true rfl) (fun X0 hF => ?_)
  show yV X0 g 9 (yQ X0 g (SC g) (yPi (fun zv n' σ' => n ≤ n' ∧ (((0 ≤ a ∧ a ≤ 2) ∧ zv = tnV (tnQ w h T S F P O re fo ra tu we sh ht K 3) a ∧ mO σ σ' (w, h, (T, S, F, P, O, nf, df, nl, lg), (s, re, fo, ra, tu, we, sh), H, ht, K, tl, tb, fa, r1, r2) 0) ∨ (¬ (0 ≤ a ∧ a ≤ 2) ∧ mO σ σ' (bA (w, h, (T, S, F, P, O, nf, df, nl, lg), (s, re, fo, ra, tu, we, sh), H, ht, K, tl, tb, fa, r1, r2)) 1)))) (rmA 12 303 2727)) (SC g) n σ 0 0 0 [(0, yR g 155), (1, yI a)] []
  refine y_aload_n (pc := 0) hF dX11_tune_0 0 rfl ?_
  refine y_iconst (pc := 1) hF dX11_tune_1 ?_
  refine y_putf (pc := 2) (ci := 11) (σ' := yset σ 155 0 0) (sch' := (SC g)) hF dX11_tune_2 (by omega) rfl rfl rfl iX11 0 (by decide) w_1247 tyX11 tyX11_ok nmX11 rfl rfl rfl rfl (Nat.le_of_ble_eq_true rfl) rfl (y_ps rfl) (fun k' h => ⟨yset_n h, rfl⟩) ?_
  obtain ⟨σ0, hσ0⟩ : ∃ s, s = yset σ 155 0 0 := ⟨_, rfl⟩
  rw [← hσ0]
  have zO_σ0 := hV.t0 hσ0
  obtain ⟨⟨zA_σ0, zL_σ0⟩, zS_σ0, zH_σ0, ⟨zb1_σ0, zb2_σ0⟩, ⟨zt1_σ0, zt2_σ0⟩, zfa_σ0, zr1_σ0, zr2_σ0⟩ := id zO_σ0.2.2
  refine y_aload_n (pc := 5) hF dX11_tune_5 0 rfl ?_
  refine y_iload_n (pc := 6) hF dX11_tune_6 1 rfl ?_
  refine y_iconst (pc := 7) hF dX11_tune_7 ?_
  refine y_iconst (pc := 8) hF dX11_tune_8 ?_
  have zz9 := y_rS (pc := 9) (As := [yI a, yI 0, yI 2]) (kk := 0) hF (tX11_within (n := n) (σ := σ0) a 0 2 (by omega) (by omega) (by omega)) dX11_tune_9 w_1392 qX11_within rfl ⟨Nat.le_of_ble_eq_true rfl, Nat.le_of_ble_eq_true rfl⟩ ⟨by show _ + 0 ≤ 303; omega, by show _ + 0 ≤ 2727; omega⟩ (Nat.le_of_ble_eq_true rfl) rfl (rest := [yR g 155]) (cells := 0) (slots := 0) (lv := [(0, yR g 155), (1, yI a)])
  refine y_cp (zz9) ?_
  refine y_iconst (pc := 12) hF dX11_tune_12 ?_
  refine y_iconst (pc := 13) hF dX11_tune_13 ?_
  refine y_ci (y_rV (pc := 14) hF (tX11_isFine hn zO_σ0.2.1 (decide (0 ≤ a) && decide (a ≤ 2)) 1 1 (by decide) (by decide)) dX11_tune_14 (by omega) rfl rfl rfl w_1395 qX11_isFine rfl ⟨Nat.le_of_ble_eq_true rfl, Nat.le_of_ble_eq_true rfl⟩ ⟨by show _ + 0 ≤ 303; omega, by show _ + 0 ≤ 2727; omega⟩ (Nat.le_of_ble_eq_true rfl) rfl) rfl rfl (fun r14 n' σ14 zp14 => ?_)
  obtain ⟨zn14, zp14⟩ := zp14
  have zn14 := zn14.symm
  subst zn14
  rcases zp14 with ⟨zb14, zv14, zs14⟩ | ⟨zb14, zv14, zs14⟩
  · subst zv14; have zs14 := zs14.symm; subst zs14
    refine y_if_ne (pc := 17) hF dX11_tune_17 22 rfl (by decide) (fun _ => ?_) (fun zc17 => absurd zc17 (by decide))
    simp at zb14
    refine y_aload_n (pc := 22) hF dX11_tune_22 0 rfl ?_
    refine y_get (pc := 23) (ci := 11) hF dX11_tune_23 (by omega) rfl rfl rfl iX11 10 (by decide) w_1257 rfl ?_
    refine y_iconst (pc := 26) hF dX11_tune_26 ?_
    refine y_iaload (pc := 27) hF dX11_tune_27 (by omega) rfl (by omega) (by decide) ?_
    rw [show σ0 166 0 = s from zS_σ0.1.1]
    refine y_istore_n (pc := 28) (lv' := [(0, yR g 155), (1, yI a), (2, yI s)]) hF dX11_tune_28 (by decide) rfl rfl ?_
    refine y_iconst (pc := 29) hF dX11_tune_29 ?_
    refine y_istore_n (pc := 30) (lv' := [(0, yR g 155), (1, yI a), (2, yI s), (3, yI (-1))]) hF dX11_tune_30 (by decide) rfl rfl ?_
    refine y_iconst (pc := 31) hF dX11_tune_31 ?_
    refine y_istore (pc := 32) (lv' := [(0, yR g 155), (1, yI a), (2, yI s), (3, yI (-1)), (4, yI 0)]) hF dX11_tune_32 (by decide) rfl rfl ?_
    refine y_iconst (pc := 34) hF dX11_tune_34 ?_
    refine y_istore (pc := 35) (lv' := [(0, yR g 155), (1, yI a), (2, yI s), (3, yI (-1)), (4, yI 0), (5, yI 0)]) hF dX11_tune_35 (by decide) rfl rfl ?_
    refine y_iconst (pc := 37) hF dX11_tune_37 ?_
    refine y_istore (pc := 38) (lv' := [(0, yR g 155), (1, yI a), (2, yI s), (3, yI (-1)), (4, yI 0), (5, yI 0), (6, yI 1)]) hF dX11_tune_38 (by decide) rfl rfl ?_
    have zL40 : ∀ (N : Nat) (τ : yM) (m : Nat) (k bb fe le : Int) (q : Int × Int × Int), N = (4 - k).toNat → (((172 ≤ m ∧ n ≤ m) ∧ gY6 0 σ0 τ ∧ rX τ 0 w h (T, S, F, P, O, nf, df, nl, lg) ∧ mH τ w h H) ∧ (1 ≤ k ∧ k ≤ 4) ∧ tnE bb fe le q k ∧ q = fr (fun q k => tnG w h ht K (gR w h k re fo ra tu we sh 0 (400 : Int).toNat (x00 T S F P O)).2 q k) 1 (k - 1).toNat (0, 0, 0)) → yV X0 g 9 (yQ X0 g (SC g) (yPi (fun zv n' σ' => n ≤ n' ∧ (((0 ≤ a ∧ a ≤ 2) ∧ zv = tnV (tnQ w h T S F P O re fo ra tu we sh ht K 3) a ∧ mO σ σ' (w, h, (T, S, F, P, O, nf, df, nl, lg), (s, re, fo, ra, tu, we, sh), H, ht, K, tl, tb, fa, r1, r2) 0) ∨ (¬ (0 ≤ a ∧ a ≤ 2) ∧ mO σ σ' (bA (w, h, (T, S, F, P, O, nf, df, nl, lg), (s, re, fo, ra, tu, we, sh), H, ht, K, tl, tb, fa, r1, r2)) 1)))) (rmA 12 303 2727)) (SC g) m τ (101 * (k - 1).toNat) (909 * (k - 1).toNat) 40 [(0, yR g 155), (1, yI a), (2, yI s), (3, yI bb), (4, yI fe), (5, yI le), (6, yI k)] [] := by
      intro N
      induction N using Nat.strongRecOn with
      | ind N zh40 =>
        intro τ  m  k bb fe le  q  zN40 zI40
        have hn := zI40.1.1.1
        have ztn := zI40.2.2.1
        unfold tnE at ztn
        refine y_iload (pc := 40) hF dX11_tune_40 6 rfl ?_
        refine y_iconst (pc := 42) hF dX11_tune_42 ?_
        refine y_icmp_gt (pc := 43) hF dX11_tune_43 141 rfl (by omega) (by omega) (fun zc43 => ?_) (fun zc43 => ?_)
        · skip
          refine y_aload_n (pc := 141) hF dX11_tune_141 0 rfl ?_
          refine y_get (pc := 142) (ci := 11) hF dX11_tune_142 (by omega) rfl rfl rfl iX11 10 (by decide) w_1257 rfl ?_
          refine y_iconst (pc := 145) hF dX11_tune_145 ?_
          refine y_iload_n (pc := 146) hF dX11_tune_146 2 rfl ?_
          refine y_iastore (pc := 147) hF dX11_tune_147 (by omega) rfl (by omega) (by decide) ?_
          obtain ⟨ρ, hρ⟩ : ∃ zs_, zs_ = yset τ 166 0 s := ⟨_, rfl⟩
          rw [← hρ]
          have zO : mO σ ρ (w, h, (T, S, F, P, O, nf, df, nl, lg), (s, re, fo, ra, tu, we, sh), H, ht, K, tl, tb, fa, r1, r2) 0 := by { have zt := mO_run zO_σ0 (zI40.1.2.1.back (v := s) zS_σ0.1.1.symm) (zI40.1.2.2.1.fr0 (yset_n (by omega)) (by rw [yset_n (by omega)]) (by rw [yset_n (by omega)])) (zI40.1.2.2.2.fr (by rw [yset_n (by omega)]) (yset_n (by omega))); rw [← hρ] at zt; exact zt }
          have zq3 : q = tnQ w h T S F P O re fo ra tu we sh ht K 3 := by rw [zI40.2.2.2, show (k - 1).toNat = 3 by omega]; rfl
          refine y_iload_n (pc := 148) hF dX11_tune_148 1 rfl ?_
          refine y_if_ne (pc := 149) hF dX11_tune_149 156 rfl (by omega) (fun zc149 => ?_) (fun zc149 => ?_)
          · skip
            refine y_iload_n (pc := 156) hF dX11_tune_156 1 rfl ?_
            refine y_iconst (pc := 157) hF dX11_tune_157 ?_
            refine y_icmp_ne (pc := 158) hF dX11_tune_158 166 rfl (by omega) (by omega) (fun zc158 => ?_) (fun zc158 => ?_)
            · skip
              refine y_iload (pc := 166) hF dX11_tune_166 5 rfl ?_
              exact y_iret (pc := 168) hF dX11_tune_168 (by first | exact Nat.le_of_ble_eq_true rfl | (show _ ≤ 303; omega)) (by first | exact Nat.le_of_ble_eq_true rfl | (show _ ≤ 2727; omega)) ⟨_, rfl, by omega, Or.inl ⟨(by omega), (by rw [← zq3]; unfold tnV; (repeat' split) <;> first | rfl | omega | (exfalso; omega)), zO⟩⟩
            · skip
              refine y_iload (pc := 161) hF dX11_tune_161 4 rfl ?_
              refine y_goto (pc := 163) hF dX11_tune_163 168 rfl ?_
              exact y_iret (pc := 168) hF dX11_tune_168 (by first | exact Nat.le_of_ble_eq_true rfl | (show _ ≤ 303; omega)) (by first | exact Nat.le_of_ble_eq_true rfl | (show _ ≤ 2727; omega)) ⟨_, rfl, by omega, Or.inl ⟨(by omega), (by rw [← zq3]; unfold tnV; (repeat' split) <;> first | rfl | omega | (exfalso; omega)), zO⟩⟩
          · skip
            refine y_iload_n (pc := 152) hF dX11_tune_152 3 rfl ?_
            refine y_goto (pc := 153) hF dX11_tune_153 168 rfl ?_
            exact y_iret (pc := 168) hF dX11_tune_168 (by first | exact Nat.le_of_ble_eq_true rfl | (show _ ≤ 303; omega)) (by first | exact Nat.le_of_ble_eq_true rfl | (show _ ≤ 2727; omega)) ⟨_, rfl, by omega, Or.inl ⟨(by omega), (by rw [← zq3]; unfold tnV; (repeat' split) <;> first | rfl | omega | (exfalso; omega)), zO⟩⟩
        · skip
          refine y_aload_n (pc := 46) hF dX11_tune_46 0 rfl ?_
          refine y_get (pc := 47) (ci := 11) hF dX11_tune_47 (by omega) rfl rfl rfl iX11 10 (by decide) w_1257 rfl ?_
          refine y_iconst (pc := 50) hF dX11_tune_50 ?_
          refine y_iload (pc := 51) hF dX11_tune_51 6 rfl ?_
          refine y_iastore (pc := 53) hF dX11_tune_53 (by omega) rfl (by omega) (by decide) ?_
          obtain ⟨υ1, hυ1⟩ : ∃ s, s = yset τ 166 0 k := ⟨_, rfl⟩
          rw [← hυ1]
          have z6 : ∀ j : Int, j ≠ 0 → τ 166 j = σ0 166 j := fun j hj => zI40.1.2.1 166 j (by omega) (by omega) (by omega) (by omega) (by omega) (by omega) (by omega)
          have zS1 : rS υ1 166 k re fo ra tu we sh := ⟨⟨by rw [hυ1, yset_e], by rw [hυ1, yset_o (by omega), z6 1 (by omega)]; exact zS_σ0.1.2.1, by rw [hυ1, yset_o (by omega), z6 2 (by omega)]; exact zS_σ0.1.2.2.1, by rw [hυ1, yset_o (by omega), z6 3 (by omega)]; exact zS_σ0.1.2.2.2.1, by rw [hυ1, yset_o (by omega), z6 4 (by omega)]; exact zS_σ0.1.2.2.2.2.1, by rw [hυ1, yset_o (by omega), z6 5 (by omega)]; exact zS_σ0.1.2.2.2.2.2.1, by rw [hυ1, yset_o (by omega), z6 6 (by omega)]; exact zS_σ0.1.2.2.2.2.2.2⟩, by omega, hs2, hs3, hs4, hs5, hs6, hs7⟩
          have zX1 : rX υ1 0 w h (T, S, F, P, O, nf, df, nl, lg) := zI40.1.2.2.1.fr0 (by rw [hυ1, yset_n (by omega)]) (by rw [hυ1, yset_n (by omega)]) (by rw [hυ1, yset_n (by omega)])
          refine y_aload_n (pc := 54) hF dX11_tune_54 0 rfl ?_
          refine y_cv (y_rV (pc := 55) hF (tX11_laysAside hn) dX11_tune_55 (by omega) rfl rfl rfl w_1484 qX11_laysAside rfl ⟨Nat.le_of_ble_eq_true rfl, Nat.le_of_ble_eq_true rfl⟩ ⟨by show _ + 0 ≤ 303; omega, by show _ + 0 ≤ 2727; omega⟩ (Nat.le_of_ble_eq_true rfl) rfl) rfl rfl (fun n' σ55 zp55 => ?_)
          obtain ⟨zn55, zp55⟩ := zp55
          have zn55 := zn55.symm
          subst zn55
          have zXl : rX σ55 0 w h (T, S, F, P, O, nf, df, nl, lg) := zX1.fr0 (zp55.1 158 (by omega)) (by rw [zp55.1 161 (by omega)]) (by rw [zp55.1 162 (by omega)])
          have zSl := zS1.fr (zp55.1 166 (by omega))
          have zBl : rB σ55 163 0 w h (T, S, F, P, O, nf, df, nl, lg) := (rX.b zX1).cp (fun j a b => by rw [Int.zero_add]; exact zp55.2 j a b)
          have zyl : gY6 0 σ0 σ55 := (by have zt := zI40.1.2.1.st (v := k); rw [← hυ1] at zt; exact zt.tr (zp55.1.g (by omega)).s6)
          have zHl : mH σ55 w h H := zI40.1.2.2.2.fr (by rw [zp55.1 155 (by omega), hυ1, yset_n (by omega)]) (by rw [zp55.1 164 (by omega), hυ1, yset_n (by omega)])
          refine y_aload_n (pc := 58) hF dX11_tune_58 0 rfl ?_
          refine y_iconst (pc := 59) hF dX11_tune_59 ?_
          refine y_iconst (pc := 60) hF dX11_tune_60 ?_
          refine y_sipush (pc := 61) hF dX11_tune_61 (by decide) ?_
          refine y_ci (cells' := 101 * (k + 1 - 1).toNat) (slots' := 909 * (k + 1 - 1).toNat) (y_rV (pc := 64) hF (tX11_fillsAll 0 w h T S F P O w h T S F P O k re fo ra tu we sh nf df nl lg false hn (by omega) zXl.1 zXl.2 hnf (fun ze => by cases ze) zSl 400 (by decide)) dX11_tune_64 (by omega) rfl rfl rfl w_1488 qX11_fillsAll rfl ⟨Nat.le_of_ble_eq_true rfl, Nat.le_of_ble_eq_true rfl⟩ ⟨by show 101 * (k - 1).toNat + 101 ≤ 303; omega, by show 909 * (k - 1).toNat + 909 ≤ 2727; omega⟩ (Nat.le_of_ble_eq_true rfl) rfl) (by show 101 * (k - 1).toNat + 101 = _; omega) (by show 909 * (k - 1).toNat + 909 = _; omega) (fun r64 n64 σ64 zp64 => ?_)
          obtain ⟨zv64, zn64, zl64, zx64, zz64⟩ := zp64
          have hn : 172 ≤ n64 := by omega
          obtain ⟨R, hR⟩ : ∃ q, q = (gR w h k re fo ra tu we sh 0 (400 : Int).toNat (T, S, F, P, O, nf, df, nl, lg)).2 := ⟨_, rfl⟩
          obtain ⟨R0, hR0⟩ : ∃ q, q = (gR w h k re fo ra tu we sh 0 (400 : Int).toNat (x00 T S F P O)).2 := ⟨_, rfl⟩
          have zsm := gR_sim (w := w) (h := h) (s := k) (re := re) (fo := fo) (ra := ra) (tu := tu) (we := we) (sh := sh) (lv := 0) (n := (400 : Int).toNat) (T := T) (S := S) (F := F) (P := P) (O := O) (nf := nf) (df := df) (nl := nl) (lg := lg) hnf0
          rw [← hR, ← hR0] at zsm
          have zXR : rX σ64 0 w h R := by rw [hR, gR_0 (F2 := F) (P2 := P)]; exact zx64
          obtain ⟨T1, S1, F1, P1, O1, nf1, df1, nl1, lg1⟩ := R
          have zT : T1 = R0.1 := zsm.2.1.1
          have zFs : ∀ i j, 0 < F1 i j ↔ 0 < R0.2.2.1 i j := zsm.2.1.2.2.1
          have zDf : df1 - df = xDf R0 := zsm.2.2.1
          have zkc := sKn_cnt (T := T1) (w := w) (h := h) (by omega) (by omega)
          have zyR : gY6 0 σ0 σ64 := zyl.tr (zz64.y (by omega)).g.s6
          have zBR : rB σ64 163 0 w h (T, S, F, P, O, nf, df, nl, lg) := zBl.cp (fun j _ _ => by rw [zz64.cell (by omega) (by omega) (by omega)])
          have zHR : mH σ64 w h H := zHl.fr (by rw [zz64 155 8 (by omega) (by omega) (by omega)]) (by rw [zz64.cell (by omega) (by omega) (by omega)])
          have zhKR : ht = true → ∀ x y : Int, 0 ≤ x → x < w → 0 ≤ y → y < h → σ64 165 (20 * y + x) = K x y ∧ -1 ≤ K x y ∧ K x y ≤ 255 := fun zq x y a b c d => ⟨by rw [zyR.cell (by omega) (by omega)]; exact zb2_σ0 zq x y a b c d, hW.2.2.1 zq x y a b c d⟩
          have zdA : σ64 163 2001 = df := by have zt := zBR.2.2; rw [Int.zero_add] at zt; exact zt.2.1
          refine y_pop (pc := 67) hF dX11_tune_67 rfl ?_
          refine y_aload_n (pc := 68) hF dX11_tune_68 0 rfl ?_
          have zz69 := y_rV (pc := 69) hF (tX11_missingMany (n := n64) (σ := σ64) w h T1 S1 F1 P1 O1 hn zXR.1) dX11_tune_69 (by omega) rfl rfl rfl w_1432 qX11_missingMany rfl ⟨Nat.le_of_ble_eq_true rfl, Nat.le_of_ble_eq_true rfl⟩ ⟨by show _ + 0 ≤ 303; omega, by show _ + 0 ≤ 2727; omega⟩ (Nat.le_of_ble_eq_true rfl) rfl (rest := []) (cells := 101 * (k + 1 - 1).toNat) (slots := 909 * (k + 1 - 1).toNat) (lv := [(0, yR g 155), (1, yI a), (2, yI s), (3, yI bb), (4, yI fe), (5, yI le), (6, yI k)])
          refine y_cp (zz69) ?_
          rw [show w * h - sCt w h (fun x y => sKn w h T1 x y) = nMi w h T1 from (by omega)]
          refine y_istore (pc := 72) (lv' := [(0, yR g 155), (1, yI a), (2, yI s), (3, yI bb), (4, yI fe), (5, yI le), (6, yI k), (7, yI (nMi w h T1))]) hF dX11_tune_72 (by decide) rfl rfl ?_
          have zwh := y_wh ⟨hw1, hw2⟩ ⟨hw3, hw4⟩
          have zmb : 0 ≤ nMi w h T1 ∧ nMi w h T1 ≤ 400 := by have zt := sCt_bd (w := w) (h := h) ⟨hw1, hw2⟩ ⟨hw3, hw4⟩ (fun x y => decide (T1 x y = -1)); unfold nMi; omega
          have zJ89 : ∀ (fl : Int), (fl = (if ht = true then sFw w h T1 F1 K else 0)) → yV X0 g 9 (yQ X0 g (SC g) (yPi (fun zv n' σ' => n ≤ n' ∧ (((0 ≤ a ∧ a ≤ 2) ∧ zv = tnV (tnQ w h T S F P O re fo ra tu we sh ht K 3) a ∧ mO σ σ' (w, h, (T, S, F, P, O, nf, df, nl, lg), (s, re, fo, ra, tu, we, sh), H, ht, K, tl, tb, fa, r1, r2) 0) ∨ (¬ (0 ≤ a ∧ a ≤ 2) ∧ mO σ σ' (bA (w, h, (T, S, F, P, O, nf, df, nl, lg), (s, re, fo, ra, tu, we, sh), H, ht, K, tl, tb, fa, r1, r2)) 1)))) (rmA 12 303 2727)) (SC g) n64 σ64 (101 * (k + 1 - 1).toNat) (909 * (k + 1 - 1).toNat) 89 [(0, yR g 155), (1, yI a), (2, yI s), (3, yI bb), (4, yI fe), (5, yI le), (6, yI k), (7, yI (nMi w h T1))] [yI fl] := by
            intro fl  zfl
            have zfl2 : fl = if ht = true then sFw w h R0.1 R0.2.2.1 K else 0 := by rw [zfl, ← zT, sFw_sim zFs]
            have zfb : 0 ≤ fl ∧ fl ≤ 200000000 := by { rw [zfl]; split; (rename_i zq; exact sFw_bd ⟨hw1, hw2⟩ ⟨hw3, hw4⟩ (fun x y a b c d => (zXR.1.1.2 x y a b c d).1) (hW.2.2.1 zq)); omega }
            refine y_istore (pc := 89) (lv' := [(0, yR g 155), (1, yI a), (2, yI s), (3, yI bb), (4, yI fe), (5, yI le), (6, yI k), (7, yI (nMi w h T1)), (8, yI fl)]) hF dX11_tune_89 (by decide) rfl rfl ?_
            refine y_aload_n (pc := 91) hF dX11_tune_91 0 rfl ?_
            refine y_cv (y_rV (pc := 92) hF (tX11_laysBack hn) dX11_tune_92 (by omega) rfl rfl rfl w_1707 qX11_laysBack rfl ⟨Nat.le_of_ble_eq_true rfl, Nat.le_of_ble_eq_true rfl⟩ ⟨by show _ + 0 ≤ 303; omega, by show _ + 0 ≤ 2727; omega⟩ (Nat.le_of_ble_eq_true rfl) rfl) rfl rfl (fun n' σ92 zp92 => ?_)
            obtain ⟨zn92, zp92⟩ := zp92
            have zn92 := zn92.symm
            subst zn92
            have zXB : rX σ92 0 w h (T, S, F, P, O, nf, df, nl, lg) := (zBR.cp (σ' := σ92) (c' := 158) (o' := 0) (fun j a b => by rw [Int.zero_add]; exact zp92.2 j a b)).x (by rw [zp92.1 161 (by omega)]; exact zXR.1.2.1) (by rw [zp92.1 162 (by omega)]; exact zXR.1.2.2.1)
            have zyB : gY6 0 σ0 σ92 := zyR.tr (zp92.1.g (by omega)).s6
            have zHB : mH σ92 w h H := zHR.fr (by rw [zp92.1 155 (by omega)]) (zp92.1 164 (by omega))
            refine y_iload_n (pc := 95) hF dX11_tune_95 3 rfl ?_
            refine y_iconst (pc := 96) hF dX11_tune_96 ?_
            refine y_icmp_eq (pc := 97) hF dX11_tune_97 124 rfl (by omega) (by omega) (fun zc97 => ?_) (fun zc97 => ?_)
            · skip
              refine y_iload (pc := 124) hF dX11_tune_124 6 rfl ?_
              refine y_istore_n (pc := 126) (lv' := [(0, yR g 155), (1, yI a), (2, yI s), (3, yI k), (4, yI fe), (5, yI le), (6, yI k), (7, yI (nMi w h T1)), (8, yI fl)]) hF dX11_tune_126 (by decide) rfl rfl ?_
              refine y_iload (pc := 127) hF dX11_tune_127 7 rfl ?_
              refine y_istore (pc := 129) (lv' := [(0, yR g 155), (1, yI a), (2, yI s), (3, yI k), (4, yI (nMi w h T1)), (5, yI le), (6, yI k), (7, yI (nMi w h T1)), (8, yI fl)]) hF dX11_tune_129 (by decide) rfl rfl ?_
              refine y_iload (pc := 131) hF dX11_tune_131 8 rfl ?_
              refine y_istore (pc := 133) (lv' := [(0, yR g 155), (1, yI a), (2, yI s), (3, yI k), (4, yI (nMi w h T1)), (5, yI fl), (6, yI k), (7, yI (nMi w h T1)), (8, yI fl)]) hF dX11_tune_133 (by decide) rfl rfl ?_
              refine y_iinc (pc := 135) (lv' := [(0, yR g 155), (1, yI a), (2, yI s), (3, yI k), (4, yI (nMi w h T1)), (5, yI fl), (6, yI (k + 1)), (7, yI (nMi w h T1)), (8, yI fl)]) hF dX11_tune_135 6 rfl (by decide) rfl rfl ?_
              refine y_goto (pc := 138) hF dX11_tune_138 40 rfl ?_
              refine y_sub [0, 1, 2, 3, 4, 5, 6] rfl ?_
              exact zh40 _ (by omega) σ92 n64 (k + 1) (k) (nMi w h T1) (fl) (tnG w h ht K R0 q k) rfl ⟨⟨⟨hn, by omega⟩, zyB, zXB, zHB⟩, by omega, tnE_1 (mi := nMi w h T1) zI40.2.2.1 (by rw [zT]) zfl2 zmb zfb (by omega) (by omega), by rw [fr_up' _ _ zI40.2.1.1, ← zI40.2.2.2, hR0]⟩
            · skip
              refine y_iload (pc := 100) hF dX11_tune_100 7 rfl ?_
              refine y_iload (pc := 102) hF dX11_tune_102 4 rfl ?_
              refine y_icmp_gt (pc := 104) hF dX11_tune_104 135 rfl (by omega) (by omega) (fun zc104 => ?_) (fun zc104 => ?_)
              · skip
                refine y_iinc (pc := 135) (lv' := [(0, yR g 155), (1, yI a), (2, yI s), (3, yI bb), (4, yI fe), (5, yI le), (6, yI (k + 1)), (7, yI (nMi w h T1)), (8, yI fl)]) hF dX11_tune_135 6 rfl (by decide) rfl rfl ?_
                refine y_goto (pc := 138) hF dX11_tune_138 40 rfl ?_
                refine y_sub [0, 1, 2, 3, 4, 5, 6] rfl ?_
                exact zh40 _ (by omega) σ92 n64 (k + 1) (bb) (fe) (le) (tnG w h ht K R0 q k) rfl ⟨⟨⟨hn, by omega⟩, zyB, zXB, zHB⟩, by omega, tnE_0 (mi := nMi w h T1) zI40.2.2.1 (by rw [zT]) zfl2 (by omega) (by omega), by rw [fr_up' _ _ zI40.2.1.1, ← zI40.2.2.2, hR0]⟩
              · skip
                refine y_iload (pc := 107) hF dX11_tune_107 7 rfl ?_
                refine y_iload (pc := 109) hF dX11_tune_109 4 rfl ?_
                refine y_icmp_ne (pc := 111) hF dX11_tune_111 124 rfl (by omega) (by omega) (fun zc111 => ?_) (fun zc111 => ?_)
                · skip
                  refine y_iload (pc := 124) hF dX11_tune_124 6 rfl ?_
                  refine y_istore_n (pc := 126) (lv' := [(0, yR g 155), (1, yI a), (2, yI s), (3, yI k), (4, yI fe), (5, yI le), (6, yI k), (7, yI (nMi w h T1)), (8, yI fl)]) hF dX11_tune_126 (by decide) rfl rfl ?_
                  refine y_iload (pc := 127) hF dX11_tune_127 7 rfl ?_
                  refine y_istore (pc := 129) (lv' := [(0, yR g 155), (1, yI a), (2, yI s), (3, yI k), (4, yI (nMi w h T1)), (5, yI le), (6, yI k), (7, yI (nMi w h T1)), (8, yI fl)]) hF dX11_tune_129 (by decide) rfl rfl ?_
                  refine y_iload (pc := 131) hF dX11_tune_131 8 rfl ?_
                  refine y_istore (pc := 133) (lv' := [(0, yR g 155), (1, yI a), (2, yI s), (3, yI k), (4, yI (nMi w h T1)), (5, yI fl), (6, yI k), (7, yI (nMi w h T1)), (8, yI fl)]) hF dX11_tune_133 (by decide) rfl rfl ?_
                  refine y_iinc (pc := 135) (lv' := [(0, yR g 155), (1, yI a), (2, yI s), (3, yI k), (4, yI (nMi w h T1)), (5, yI fl), (6, yI (k + 1)), (7, yI (nMi w h T1)), (8, yI fl)]) hF dX11_tune_135 6 rfl (by decide) rfl rfl ?_
                  refine y_goto (pc := 138) hF dX11_tune_138 40 rfl ?_
                  refine y_sub [0, 1, 2, 3, 4, 5, 6] rfl ?_
                  exact zh40 _ (by omega) σ92 n64 (k + 1) (k) (nMi w h T1) (fl) (tnG w h ht K R0 q k) rfl ⟨⟨⟨hn, by omega⟩, zyB, zXB, zHB⟩, by omega, tnE_1 (mi := nMi w h T1) zI40.2.2.1 (by rw [zT]) zfl2 zmb zfb (by omega) (by omega), by rw [fr_up' _ _ zI40.2.1.1, ← zI40.2.2.2, hR0]⟩
                · skip
                  refine y_iload (pc := 114) hF dX11_tune_114 8 rfl ?_
                  refine y_iload (pc := 116) hF dX11_tune_116 5 rfl ?_
                  refine y_icmp_lt (pc := 118) hF dX11_tune_118 124 rfl (by omega) (by omega) (fun zc118 => ?_) (fun zc118 => ?_)
                  · skip
                    refine y_iload (pc := 124) hF dX11_tune_124 6 rfl ?_
                    refine y_istore_n (pc := 126) (lv' := [(0, yR g 155), (1, yI a), (2, yI s), (3, yI k), (4, yI fe), (5, yI le), (6, yI k), (7, yI (nMi w h T1)), (8, yI fl)]) hF dX11_tune_126 (by decide) rfl rfl ?_
                    refine y_iload (pc := 127) hF dX11_tune_127 7 rfl ?_
                    refine y_istore (pc := 129) (lv' := [(0, yR g 155), (1, yI a), (2, yI s), (3, yI k), (4, yI (nMi w h T1)), (5, yI le), (6, yI k), (7, yI (nMi w h T1)), (8, yI fl)]) hF dX11_tune_129 (by decide) rfl rfl ?_
                    refine y_iload (pc := 131) hF dX11_tune_131 8 rfl ?_
                    refine y_istore (pc := 133) (lv' := [(0, yR g 155), (1, yI a), (2, yI s), (3, yI k), (4, yI (nMi w h T1)), (5, yI fl), (6, yI k), (7, yI (nMi w h T1)), (8, yI fl)]) hF dX11_tune_133 (by decide) rfl rfl ?_
                    refine y_iinc (pc := 135) (lv' := [(0, yR g 155), (1, yI a), (2, yI s), (3, yI k), (4, yI (nMi w h T1)), (5, yI fl), (6, yI (k + 1)), (7, yI (nMi w h T1)), (8, yI fl)]) hF dX11_tune_135 6 rfl (by decide) rfl rfl ?_
                    refine y_goto (pc := 138) hF dX11_tune_138 40 rfl ?_
                    refine y_sub [0, 1, 2, 3, 4, 5, 6] rfl ?_
                    exact zh40 _ (by omega) σ92 n64 (k + 1) (k) (nMi w h T1) (fl) (tnG w h ht K R0 q k) rfl ⟨⟨⟨hn, by omega⟩, zyB, zXB, zHB⟩, by omega, tnE_1 (mi := nMi w h T1) zI40.2.2.1 (by rw [zT]) zfl2 zmb zfb (by omega) (by omega), by rw [fr_up' _ _ zI40.2.1.1, ← zI40.2.2.2, hR0]⟩
                  · skip
                    refine y_goto (pc := 121) hF dX11_tune_121 135 rfl ?_
                    refine y_iinc (pc := 135) (lv' := [(0, yR g 155), (1, yI a), (2, yI s), (3, yI bb), (4, yI fe), (5, yI le), (6, yI (k + 1)), (7, yI (nMi w h T1)), (8, yI fl)]) hF dX11_tune_135 6 rfl (by decide) rfl rfl ?_
                    refine y_goto (pc := 138) hF dX11_tune_138 40 rfl ?_
                    refine y_sub [0, 1, 2, 3, 4, 5, 6] rfl ?_
                    exact zh40 _ (by omega) σ92 n64 (k + 1) (bb) (fe) (le) (tnG w h ht K R0 q k) rfl ⟨⟨⟨hn, by omega⟩, zyB, zXB, zHB⟩, by omega, tnE_0 (mi := nMi w h T1) zI40.2.2.1 (by rw [zT]) zfl2 (by omega) (by omega), by rw [fr_up' _ _ zI40.2.1.1, ← zI40.2.2.2, hR0]⟩
          refine y_aload_n (pc := 74) hF dX11_tune_74 0 rfl ?_
          refine y_get (pc := 75) (ci := 11) hF dX11_tune_75 (by omega) rfl rfl rfl iX11 9 (by decide) w_1256 rfl ?_
          rw [show σ64 155 9 = bi ht from (by rw [zyR 155 9 (by omega) (by omega) (by omega) (by omega) (by omega) (by omega) (by omega)]; exact zb1_σ0)]
          refine y_if_eq (pc := 78) hF dX11_tune_78 88 rfl bi_r (fun zc78 => ?_) (fun zc78 => ?_)
          · replace zc78 := bi_0.mp zc78
            refine y_iconst (pc := 88) hF dX11_tune_88 ?_
            exact zJ89 0 (by rw [if_neg (by rw [zc78]; decide)])
          · replace zc78 := bi_n0.mp zc78
            refine y_aload_n (pc := 81) hF dX11_tune_81 0 rfl ?_
            have zz82 := y_rV (pc := 82) hF (tX11_flawNow (n := n64) (σ := σ64) w h T1 S1 F1 P1 O1 hn zXR.1 K (zhKR zc78)) dX11_tune_82 (by omega) rfl rfl rfl w_1699 qX11_flawNow rfl ⟨Nat.le_of_ble_eq_true rfl, Nat.le_of_ble_eq_true rfl⟩ ⟨by show _ + 0 ≤ 303; omega, by show _ + 0 ≤ 2727; omega⟩ (Nat.le_of_ble_eq_true rfl) rfl (rest := []) (cells := 101 * (k + 1 - 1).toNat) (slots := 909 * (k + 1 - 1).toNat) (lv := [(0, yR g 155), (1, yI a), (2, yI s), (3, yI bb), (4, yI fe), (5, yI le), (6, yI k), (7, yI (nMi w h T1))])
            refine y_cp (zz82) ?_
            refine y_goto (pc := 85) hF dX11_tune_85 89 rfl ?_
            exact zJ89 (sFw w h T1 F1 K) (by rw [if_pos zc78])
    exact zL40 _ σ0 n 1 (-1) 0 0 (0, 0, 0) rfl ⟨⟨⟨hn, Nat.le_refl n⟩, gY6.rf σ0, ⟨zA_σ0, zL_σ0⟩, zH_σ0⟩, by omega, by unfold tnE; simp, rfl⟩
  · subst zv14; subst zs14
    refine y_if_ne (pc := 17) hF dX11_tune_17 22 rfl (by decide) (fun zc17 => absurd zc17 (by decide)) (fun _ => ?_)
    refine y_iconst (pc := 20) hF dX11_tune_20 ?_
    exact y_iret (pc := 21) hF dX11_tune_21 (by first | exact Nat.le_of_ble_eq_true rfl | (show _ ≤ 303; omega)) (by first | exact Nat.le_of_ble_eq_true rfl | (show _ ≤ 2727; omega)) ⟨_, rfl, Nat.le_refl _, Or.inr ⟨(fun ze => by simp at zb14; omega), zO_σ0.bA 1⟩⟩

theorem dX11_turning_0 : decode cX11_turning 0 = .ok (.aload_n 0, 1) := by decide +kernel
theorem dX11_turning_1 : decode cX11_turning 1 = .ok (.iconst 0, 1) := by decide +kernel
theorem dX11_turning_2 : decode cX11_turning 2 = .ok (.putfield 1, 3) := by decide +kernel
theorem dX11_turning_5 : decode cX11_turning 5 = .ok (.aload_n 0, 1) := by decide +kernel
theorem dX11_turning_6 : decode cX11_turning 6 = .ok (.iload_n 1, 1) := by decide +kernel
theorem dX11_turning_7 : decode cX11_turning 7 = .ok (.iconst 0, 1) := by decide +kernel
theorem dX11_turning_8 : decode cX11_turning 8 = .ok (.iconst 1, 1) := by decide +kernel
theorem dX11_turning_9 : decode cX11_turning 9 = .ok (.invokestatic 68, 3) := by decide +kernel
theorem dX11_turning_12 : decode cX11_turning 12 = .ok (.iconst 1, 1) := by decide +kernel
theorem dX11_turning_13 : decode cX11_turning 13 = .ok (.iconst 1, 1) := by decide +kernel
theorem dX11_turning_14 : decode cX11_turning 14 = .ok (.invokevirtual 284, 3) := by decide +kernel
theorem dX11_turning_17 : decode cX11_turning 17 = .ok (.ifCond .ne 5, 3) := by decide +kernel
theorem dX11_turning_20 : decode cX11_turning 20 = .ok (.iconst 0, 1) := by decide +kernel
theorem dX11_turning_21 : decode cX11_turning 21 = .ok (.ireturn, 1) := by decide +kernel
theorem dX11_turning_22 : decode cX11_turning 22 = .ok (.aload_n 0, 1) := by decide +kernel
theorem dX11_turning_23 : decode cX11_turning 23 = .ok (.getfield 37, 3) := by decide +kernel
theorem dX11_turning_26 : decode cX11_turning 26 = .ok (.iconst 4, 1) := by decide +kernel
theorem dX11_turning_27 : decode cX11_turning 27 = .ok (.iaload, 1) := by decide +kernel
theorem dX11_turning_28 : decode cX11_turning 28 = .ok (.istore_n 2, 1) := by decide +kernel
theorem dX11_turning_29 : decode cX11_turning 29 = .ok (.iconst (-1), 1) := by decide +kernel
theorem dX11_turning_30 : decode cX11_turning 30 = .ok (.istore_n 3, 1) := by decide +kernel
theorem dX11_turning_31 : decode cX11_turning 31 = .ok (.iconst 0, 1) := by decide +kernel
theorem dX11_turning_32 : decode cX11_turning 32 = .ok (.istore 4, 2) := by decide +kernel
theorem dX11_turning_34 : decode cX11_turning 34 = .ok (.iconst 0, 1) := by decide +kernel
theorem dX11_turning_35 : decode cX11_turning 35 = .ok (.istore 5, 2) := by decide +kernel
theorem dX11_turning_37 : decode cX11_turning 37 = .ok (.iload 5, 2) := by decide +kernel
theorem dX11_turning_39 : decode cX11_turning 39 = .ok (.iconst 4, 1) := by decide +kernel
theorem dX11_turning_40 : decode cX11_turning 40 = .ok (.if_icmp .ge 78, 3) := by decide +kernel
theorem dX11_turning_43 : decode cX11_turning 43 = .ok (.aload_n 0, 1) := by decide +kernel
theorem dX11_turning_44 : decode cX11_turning 44 = .ok (.getfield 37, 3) := by decide +kernel
theorem dX11_turning_47 : decode cX11_turning 47 = .ok (.iconst 4, 1) := by decide +kernel
theorem dX11_turning_48 : decode cX11_turning 48 = .ok (.iload 5, 2) := by decide +kernel
theorem dX11_turning_50 : decode cX11_turning 50 = .ok (.iastore, 1) := by decide +kernel
theorem dX11_turning_51 : decode cX11_turning 51 = .ok (.aload_n 0, 1) := by decide +kernel
theorem dX11_turning_52 : decode cX11_turning 52 = .ok (.invokevirtual 314, 3) := by decide +kernel
theorem dX11_turning_55 : decode cX11_turning 55 = .ok (.aload_n 0, 1) := by decide +kernel
theorem dX11_turning_56 : decode cX11_turning 56 = .ok (.iconst 0, 1) := by decide +kernel
theorem dX11_turning_57 : decode cX11_turning 57 = .ok (.iconst 0, 1) := by decide +kernel
theorem dX11_turning_58 : decode cX11_turning 58 = .ok (.sipush 400, 3) := by decide +kernel
theorem dX11_turning_61 : decode cX11_turning 61 = .ok (.invokevirtual 235, 3) := by decide +kernel
theorem dX11_turning_64 : decode cX11_turning 64 = .ok (.pop, 1) := by decide +kernel
theorem dX11_turning_65 : decode cX11_turning 65 = .ok (.aload_n 0, 1) := by decide +kernel
theorem dX11_turning_66 : decode cX11_turning 66 = .ok (.getfield 19, 3) := by decide +kernel
theorem dX11_turning_69 : decode cX11_turning 69 = .ok (.iconst 0, 1) := by decide +kernel
theorem dX11_turning_70 : decode cX11_turning 70 = .ok (.aaload, 1) := by decide +kernel
theorem dX11_turning_71 : decode cX11_turning 71 = .ok (.sipush 2001, 3) := by decide +kernel
theorem dX11_turning_74 : decode cX11_turning 74 = .ok (.iaload, 1) := by decide +kernel
theorem dX11_turning_75 : decode cX11_turning 75 = .ok (.aload_n 0, 1) := by decide +kernel
theorem dX11_turning_76 : decode cX11_turning 76 = .ok (.getfield 28, 3) := by decide +kernel
theorem dX11_turning_79 : decode cX11_turning 79 = .ok (.sipush 2001, 3) := by decide +kernel
theorem dX11_turning_82 : decode cX11_turning 82 = .ok (.iaload, 1) := by decide +kernel
theorem dX11_turning_83 : decode cX11_turning 83 = .ok (.isub, 1) := by decide +kernel
theorem dX11_turning_84 : decode cX11_turning 84 = .ok (.istore 6, 2) := by decide +kernel
theorem dX11_turning_86 : decode cX11_turning 86 = .ok (.aload_n 0, 1) := by decide +kernel
theorem dX11_turning_87 : decode cX11_turning 87 = .ok (.invokevirtual 360, 3) := by decide +kernel
theorem dX11_turning_90 : decode cX11_turning 90 = .ok (.iload_n 3, 1) := by decide +kernel
theorem dX11_turning_91 : decode cX11_turning 91 = .ok (.iconst (-1), 1) := by decide +kernel
theorem dX11_turning_92 : decode cX11_turning 92 = .ok (.if_icmp .eq 13, 3) := by decide +kernel
theorem dX11_turning_95 : decode cX11_turning 95 = .ok (.iload 6, 2) := by decide +kernel
theorem dX11_turning_97 : decode cX11_turning 97 = .ok (.iload 4, 2) := by decide +kernel
theorem dX11_turning_99 : decode cX11_turning 99 = .ok (.if_icmp .lt 6, 3) := by decide +kernel
theorem dX11_turning_102 : decode cX11_turning 102 = .ok (.goto 10, 3) := by decide +kernel
theorem dX11_turning_105 : decode cX11_turning 105 = .ok (.iload 5, 2) := by decide +kernel
theorem dX11_turning_107 : decode cX11_turning 107 = .ok (.istore_n 3, 1) := by decide +kernel
theorem dX11_turning_108 : decode cX11_turning 108 = .ok (.iload 6, 2) := by decide +kernel
theorem dX11_turning_110 : decode cX11_turning 110 = .ok (.istore 4, 2) := by decide +kernel
theorem dX11_turning_112 : decode cX11_turning 112 = .ok (.iinc 5 1, 3) := by decide +kernel
theorem dX11_turning_115 : decode cX11_turning 115 = .ok (.goto (-78), 3) := by decide +kernel
theorem dX11_turning_118 : decode cX11_turning 118 = .ok (.aload_n 0, 1) := by decide +kernel
theorem dX11_turning_119 : decode cX11_turning 119 = .ok (.getfield 37, 3) := by decide +kernel
theorem dX11_turning_122 : decode cX11_turning 122 = .ok (.iconst 4, 1) := by decide +kernel
theorem dX11_turning_123 : decode cX11_turning 123 = .ok (.iload_n 2, 1) := by decide +kernel
theorem dX11_turning_124 : decode cX11_turning 124 = .ok (.iastore, 1) := by decide +kernel
theorem dX11_turning_125 : decode cX11_turning 125 = .ok (.iload_n 1, 1) := by decide +kernel
theorem dX11_turning_126 : decode cX11_turning 126 = .ok (.ifCond .ne 7, 3) := by decide +kernel
theorem dX11_turning_129 : decode cX11_turning 129 = .ok (.iload_n 3, 1) := by decide +kernel
theorem dX11_turning_130 : decode cX11_turning 130 = .ok (.goto 5, 3) := by decide +kernel
theorem dX11_turning_133 : decode cX11_turning 133 = .ok (.iload 4, 2) := by decide +kernel
theorem dX11_turning_135 : decode cX11_turning 135 = .ok (.ireturn, 1) := by decide +kernel
set_option maxHeartbeats 4000000 in
set_option maxRecDepth 100000 in
theorem tX11_turning {l : Launch} {g : yG} {n : Nat} {σ : yM} (hn : 172 ≤ n) (w h : Int) (T S F P O : Int → Int → Int) (nf df nl : Int) (lg : Int → Int → Int) (s re fo ra tu we sh : Int) (H : List aX) (ht : Bool) (K : Int → Int → Int) (tl : Int) (tb : Int → Int) (fa r1 r2 N : Int) (hV : mV σ (w, h, (T, S, F, P, O, nf, df, nl, lg), (s, re, fo, ra, tu, we, sh), H, ht, K, tl, tb, fa, r1, r2)) (hW : aW N (w, h, (T, S, F, P, O, nf, df, nl, lg), (s, re, fo, ra, tu, we, sh), H, ht, K, tl, tb, fa, r1, r2)) (a : Int) (ha : -2147483648 ≤ a ∧ a < 2147483648)(hNb : N ≤ 400000000)  : yMet l g yX11_turning cX11_turning 7 (some .int) (rmA 12 404 3636) [yR g 155, yI a] (SC g) n σ (SC g) (yPi (fun zv n' σ' => n ≤ n' ∧ (((a = 0 ∨ a = 1) ∧ zv = trV (trQ w h T S F P O s re fo ra we sh 4) a ∧ mO σ σ' (w, h, (T, S, F, P, O, nf, df, nl, lg), (s, re, fo, ra, tu, we, sh), H, ht, K, tl, tb, fa, r1, r2) 0) ∨ (¬ (a = 0 ∨ a = 1) ∧ mO σ σ' (bA (w, h, (T, S, F, P, O, nf, df, nl, lg), (s, re, fo, ra, tu, we, sh), H, ht, K, tl, tb, fa, r1, r2)) 1)))) := by
  obtain ⟨⟨hA, hL⟩, hS, hH, ⟨hb1, hb2⟩, ⟨ht1, ht2⟩, hfa, hr1, hr2⟩ := id hV
  obtain ⟨hw1, hw2, hw3, hw4⟩ := id hA.1.1
  obtain ⟨hs1, hs2, hs3, hs4, hs5, hs6, hs7⟩ := id hS.2
  have hz : (0 : Nat) < 3 := by omega
  have hnf : nf < 800000000 := by have := hW.1.1; simp only [xNf] at this; omega
  have hnf0 : 0 ≤ nf := hL.2.2.2.1.1
  have hdl : 0 ≤ (H.length : Int) ∧ (H.length : Int) ≤ 10 := by have := hH.2.1; omega
  refine y_start (by decide) (Nat.le_of_ble_eq_true rfl) (fun X0 hF => ?_)
  show yV X0 g 7 (yQ X0 g (SC g) (yPi (fun zv n' σ' => n ≤ n' ∧ (((a = 0 ∨ a = 1) ∧ zv = trV (trQ w h T S F P O s re fo ra we sh 4) a ∧ mO σ σ' (w, h, (T, S, F, P, O, nf, df, nl, lg), (s, re, fo, ra, tu, we, sh), H, ht, K, tl, tb, fa, r1, r2) 0) ∨ (¬ (a = 0 ∨ a = 1) ∧ mO σ σ' (bA (w, h, (T, S, F, P, O, nf, df, nl, lg), (s, re, fo, ra, tu, we, sh), H, ht, K, tl, tb, fa, r1, r2)) 1)))) (rmA 12 404 3636)) (SC g) n σ 0 0 0 [(0, yR g 155), (1, yI a)] []
  refine y_aload_n (pc := 0) hF dX11_turning_0 0 rfl ?_
  refine y_iconst (pc := 1) hF dX11_turning_1 ?_
  refine y_putf (pc := 2) (ci := 11) (σ' := yset σ 155 0 0) (sch' := (SC g)) hF dX11_turning_2 (by omega) rfl rfl rfl iX11 0 (by decide) w_1247 tyX11 tyX11_ok nmX11 rfl rfl rfl rfl (Nat.le_of_ble_eq_true rfl) rfl (y_ps rfl) (fun k' h => ⟨yset_n h, rfl⟩) ?_
  obtain ⟨σ0, hσ0⟩ : ∃ s, s = yset σ 155 0 0 := ⟨_, rfl⟩
  rw [← hσ0]
  have zO_σ0 := hV.t0 hσ0
  obtain ⟨⟨zA_σ0, zL_σ0⟩, zS_σ0, zH_σ0, ⟨zb1_σ0, zb2_σ0⟩, ⟨zt1_σ0, zt2_σ0⟩, zfa_σ0, zr1_σ0, zr2_σ0⟩ := id zO_σ0.2.2
  refine y_aload_n (pc := 5) hF dX11_turning_5 0 rfl ?_
  refine y_iload_n (pc := 6) hF dX11_turning_6 1 rfl ?_
  refine y_iconst (pc := 7) hF dX11_turning_7 ?_
  refine y_iconst (pc := 8) hF dX11_turning_8 ?_
  have zz9 := y_rS (pc := 9) (As := [yI a, yI 0, yI 1]) (kk := 0) hF (tX11_within (n := n) (σ := σ0) a 0 1 (by omega) (by omega) (by omega)) dX11_turning_9 w_1392 qX11_within rfl ⟨Nat.le_of_ble_eq_true rfl, Nat.le_of_ble_eq_true rfl⟩ ⟨by show _ + 0 ≤ 404; omega, by show _ + 0 ≤ 3636; omega⟩ (Nat.le_of_ble_eq_true rfl) rfl (rest := [yR g 155]) (cells := 0) (slots := 0) (lv := [(0, yR g 155), (1, yI a)])
  refine y_cp (zz9) ?_
  refine y_iconst (pc := 12) hF dX11_turning_12 ?_
  refine y_iconst (pc := 13) hF dX11_turning_13 ?_
  refine y_ci (y_rV (pc := 14) hF (tX11_isFine hn zO_σ0.2.1 (decide (0 ≤ a) && decide (a ≤ 1)) 1 1 (by decide) (by decide)) dX11_turning_14 (by omega) rfl rfl rfl w_1395 qX11_isFine rfl ⟨Nat.le_of_ble_eq_true rfl, Nat.le_of_ble_eq_true rfl⟩ ⟨by show _ + 0 ≤ 404; omega, by show _ + 0 ≤ 3636; omega⟩ (Nat.le_of_ble_eq_true rfl) rfl) rfl rfl (fun r14 n' σ14 zp14 => ?_)
  obtain ⟨zn14, zp14⟩ := zp14
  have zn14 := zn14.symm
  subst zn14
  rcases zp14 with ⟨zb14, zv14, zs14⟩ | ⟨zb14, zv14, zs14⟩
  · subst zv14; have zs14 := zs14.symm; subst zs14
    refine y_if_ne (pc := 17) hF dX11_turning_17 22 rfl (by decide) (fun _ => ?_) (fun zc17 => absurd zc17 (by decide))
    simp at zb14
    refine y_aload_n (pc := 22) hF dX11_turning_22 0 rfl ?_
    refine y_get (pc := 23) (ci := 11) hF dX11_turning_23 (by omega) rfl rfl rfl iX11 10 (by decide) w_1257 rfl ?_
    refine y_iconst (pc := 26) hF dX11_turning_26 ?_
    refine y_iaload (pc := 27) hF dX11_turning_27 (by omega) rfl (by omega) (by decide) ?_
    rw [show σ0 166 4 = tu from zS_σ0.1.2.2.2.2.1]
    refine y_istore_n (pc := 28) (lv' := [(0, yR g 155), (1, yI a), (2, yI tu)]) hF dX11_turning_28 (by decide) rfl rfl ?_
    refine y_iconst (pc := 29) hF dX11_turning_29 ?_
    refine y_istore_n (pc := 30) (lv' := [(0, yR g 155), (1, yI a), (2, yI tu), (3, yI (-1))]) hF dX11_turning_30 (by decide) rfl rfl ?_
    refine y_iconst (pc := 31) hF dX11_turning_31 ?_
    refine y_istore (pc := 32) (lv' := [(0, yR g 155), (1, yI a), (2, yI tu), (3, yI (-1)), (4, yI 0)]) hF dX11_turning_32 (by decide) rfl rfl ?_
    refine y_iconst (pc := 34) hF dX11_turning_34 ?_
    refine y_istore (pc := 35) (lv' := [(0, yR g 155), (1, yI a), (2, yI tu), (3, yI (-1)), (4, yI 0), (5, yI 0)]) hF dX11_turning_35 (by decide) rfl rfl ?_
    have zL37 : ∀ (N : Nat) (τ : yM) (m : Nat) (k bb le : Int), N = (4 - k).toNat → (((172 ≤ m ∧ n ≤ m) ∧ gY6 4 σ0 τ ∧ rX τ 0 w h (T, S, F, P, O, nf, df, nl, lg) ∧ mH τ w h H) ∧ (0 ≤ k ∧ k ≤ 4) ∧ ((-1 ≤ bb ∧ bb ≤ 3) ∧ (0 ≤ le ∧ le < 2147483648)) ∧ (bb, le) = fr (fun q k => trG (gR w h s re fo ra k we sh 0 (400 : Int).toNat (x00 T S F P O)).2 q k) 0 k.toNat (-1, 0)) → yV X0 g 7 (yQ X0 g (SC g) (yPi (fun zv n' σ' => n ≤ n' ∧ (((a = 0 ∨ a = 1) ∧ zv = trV (trQ w h T S F P O s re fo ra we sh 4) a ∧ mO σ σ' (w, h, (T, S, F, P, O, nf, df, nl, lg), (s, re, fo, ra, tu, we, sh), H, ht, K, tl, tb, fa, r1, r2) 0) ∨ (¬ (a = 0 ∨ a = 1) ∧ mO σ σ' (bA (w, h, (T, S, F, P, O, nf, df, nl, lg), (s, re, fo, ra, tu, we, sh), H, ht, K, tl, tb, fa, r1, r2)) 1)))) (rmA 12 404 3636)) (SC g) m τ (101 * k.toNat) (909 * k.toNat) 37 [(0, yR g 155), (1, yI a), (2, yI tu), (3, yI bb), (4, yI le), (5, yI k)] [] := by
      intro N
      induction N using Nat.strongRecOn with
      | ind N zh37 =>
        intro τ  m  k bb le  zN37 zI37
        have hn := zI37.1.1.1
        refine y_iload (pc := 37) hF dX11_turning_37 5 rfl ?_
        refine y_iconst (pc := 39) hF dX11_turning_39 ?_
        refine y_icmp_ge (pc := 40) hF dX11_turning_40 118 rfl (by omega) (by omega) (fun zc40 => ?_) (fun zc40 => ?_)
        · skip
          refine y_aload_n (pc := 118) hF dX11_turning_118 0 rfl ?_
          refine y_get (pc := 119) (ci := 11) hF dX11_turning_119 (by omega) rfl rfl rfl iX11 10 (by decide) w_1257 rfl ?_
          refine y_iconst (pc := 122) hF dX11_turning_122 ?_
          refine y_iload_n (pc := 123) hF dX11_turning_123 2 rfl ?_
          refine y_iastore (pc := 124) hF dX11_turning_124 (by omega) rfl (by omega) (by decide) ?_
          obtain ⟨ρ, hρ⟩ : ∃ s, s = yset τ 166 4 tu := ⟨_, rfl⟩
          rw [← hρ]
          have zO : mO σ ρ (w, h, (T, S, F, P, O, nf, df, nl, lg), (s, re, fo, ra, tu, we, sh), H, ht, K, tl, tb, fa, r1, r2) 0 := by { have zt := mO_run zO_σ0 (zI37.1.2.1.back (v := tu) zS_σ0.1.2.2.2.2.1.symm) (zI37.1.2.2.1.fr0 (yset_n (by omega)) (by rw [yset_n (by omega)]) (by rw [yset_n (by omega)])) (zI37.1.2.2.2.fr (by rw [yset_n (by omega)]) (yset_n (by omega))); rw [← hρ] at zt; exact zt }
          have zq3 : (bb, le) = trQ w h T S F P O s re fo ra we sh 4 := by rw [zI37.2.2.2, show k.toNat = 4 by omega]; rfl
          refine y_iload_n (pc := 125) hF dX11_turning_125 1 rfl ?_
          refine y_if_ne (pc := 126) hF dX11_turning_126 133 rfl (by omega) (fun zc126 => ?_) (fun zc126 => ?_)
          · skip
            refine y_iload (pc := 133) hF dX11_turning_133 4 rfl ?_
            exact y_iret (pc := 135) hF dX11_turning_135 (by first | exact Nat.le_of_ble_eq_true rfl | (show _ ≤ 404; omega)) (by first | exact Nat.le_of_ble_eq_true rfl | (show _ ≤ 3636; omega)) ⟨_, rfl, by omega, Or.inl ⟨(by omega), (by rw [← zq3]; unfold trV; (repeat' split) <;> first | rfl | omega | (exfalso; omega)), zO⟩⟩
          · skip
            refine y_iload_n (pc := 129) hF dX11_turning_129 3 rfl ?_
            refine y_goto (pc := 130) hF dX11_turning_130 135 rfl ?_
            exact y_iret (pc := 135) hF dX11_turning_135 (by first | exact Nat.le_of_ble_eq_true rfl | (show _ ≤ 404; omega)) (by first | exact Nat.le_of_ble_eq_true rfl | (show _ ≤ 3636; omega)) ⟨_, rfl, by omega, Or.inl ⟨(by omega), (by rw [← zq3]; unfold trV; (repeat' split) <;> first | rfl | omega | (exfalso; omega)), zO⟩⟩
        · skip
          refine y_aload_n (pc := 43) hF dX11_turning_43 0 rfl ?_
          refine y_get (pc := 44) (ci := 11) hF dX11_turning_44 (by omega) rfl rfl rfl iX11 10 (by decide) w_1257 rfl ?_
          refine y_iconst (pc := 47) hF dX11_turning_47 ?_
          refine y_iload (pc := 48) hF dX11_turning_48 5 rfl ?_
          refine y_iastore (pc := 50) hF dX11_turning_50 (by omega) rfl (by omega) (by decide) ?_
          obtain ⟨υ1, hυ1⟩ : ∃ s, s = yset τ 166 4 k := ⟨_, rfl⟩
          rw [← hυ1]
          have z6 : ∀ j : Int, j ≠ 4 → τ 166 j = σ0 166 j := fun j hj => zI37.1.2.1 166 j (by omega) (by omega) (by omega) (by omega) (by omega) (by omega) (by omega)
          have zS1 : rS υ1 166 s re fo ra k we sh := ⟨⟨by rw [hυ1, yset_o (by omega), z6 0 (by omega)]; exact zS_σ0.1.1, by rw [hυ1, yset_o (by omega), z6 1 (by omega)]; exact zS_σ0.1.2.1, by rw [hυ1, yset_o (by omega), z6 2 (by omega)]; exact zS_σ0.1.2.2.1, by rw [hυ1, yset_o (by omega), z6 3 (by omega)]; exact zS_σ0.1.2.2.2.1, by rw [hυ1, yset_e], by rw [hυ1, yset_o (by omega), z6 5 (by omega)]; exact zS_σ0.1.2.2.2.2.2.1, by rw [hυ1, yset_o (by omega), z6 6 (by omega)]; exact zS_σ0.1.2.2.2.2.2.2⟩, hs1, hs2, hs3, hs4, by omega, hs6, hs7⟩
          have zX1 : rX υ1 0 w h (T, S, F, P, O, nf, df, nl, lg) := zI37.1.2.2.1.fr0 (by rw [hυ1, yset_n (by omega)]) (by rw [hυ1, yset_n (by omega)]) (by rw [hυ1, yset_n (by omega)])
          refine y_aload_n (pc := 51) hF dX11_turning_51 0 rfl ?_
          refine y_cv (y_rV (pc := 52) hF (tX11_laysAside hn) dX11_turning_52 (by omega) rfl rfl rfl w_1484 qX11_laysAside rfl ⟨Nat.le_of_ble_eq_true rfl, Nat.le_of_ble_eq_true rfl⟩ ⟨by show _ + 0 ≤ 404; omega, by show _ + 0 ≤ 3636; omega⟩ (Nat.le_of_ble_eq_true rfl) rfl) rfl rfl (fun n' σ52 zp52 => ?_)
          obtain ⟨zn52, zp52⟩ := zp52
          have zn52 := zn52.symm
          subst zn52
          have zXl : rX σ52 0 w h (T, S, F, P, O, nf, df, nl, lg) := zX1.fr0 (zp52.1 158 (by omega)) (by rw [zp52.1 161 (by omega)]) (by rw [zp52.1 162 (by omega)])
          have zSl := zS1.fr (zp52.1 166 (by omega))
          have zBl : rB σ52 163 0 w h (T, S, F, P, O, nf, df, nl, lg) := (rX.b zX1).cp (fun j a b => by rw [Int.zero_add]; exact zp52.2 j a b)
          have zyl : gY6 4 σ0 σ52 := (by have zt := zI37.1.2.1.st (v := k); rw [← hυ1] at zt; exact zt.tr (zp52.1.g (by omega)).s6)
          have zHl : mH σ52 w h H := zI37.1.2.2.2.fr (by rw [zp52.1 155 (by omega), hυ1, yset_n (by omega)]) (by rw [zp52.1 164 (by omega), hυ1, yset_n (by omega)])
          refine y_aload_n (pc := 55) hF dX11_turning_55 0 rfl ?_
          refine y_iconst (pc := 56) hF dX11_turning_56 ?_
          refine y_iconst (pc := 57) hF dX11_turning_57 ?_
          refine y_sipush (pc := 58) hF dX11_turning_58 (by decide) ?_
          refine y_ci (cells' := 101 * (k + 1).toNat) (slots' := 909 * (k + 1).toNat) (y_rV (pc := 61) hF (tX11_fillsAll 0 w h T S F P O w h T S F P O s re fo ra k we sh nf df nl lg false hn (by omega) zXl.1 zXl.2 hnf (fun ze => by cases ze) zSl 400 (by decide)) dX11_turning_61 (by omega) rfl rfl rfl w_1488 qX11_fillsAll rfl ⟨Nat.le_of_ble_eq_true rfl, Nat.le_of_ble_eq_true rfl⟩ ⟨by show 101 * k.toNat + 101 ≤ 404; omega, by show 909 * k.toNat + 909 ≤ 3636; omega⟩ (Nat.le_of_ble_eq_true rfl) rfl) (by show 101 * k.toNat + 101 = _; omega) (by show 909 * k.toNat + 909 = _; omega) (fun r61 n61 σ61 zp61 => ?_)
          obtain ⟨zv61, zn61, zl61, zx61, zz61⟩ := zp61
          have hn : 172 ≤ n61 := by omega
          obtain ⟨R, hR⟩ : ∃ q, q = (gR w h s re fo ra k we sh 0 (400 : Int).toNat (T, S, F, P, O, nf, df, nl, lg)).2 := ⟨_, rfl⟩
          obtain ⟨R0, hR0⟩ : ∃ q, q = (gR w h s re fo ra k we sh 0 (400 : Int).toNat (x00 T S F P O)).2 := ⟨_, rfl⟩
          have zsm := gR_sim (w := w) (h := h) (s := s) (re := re) (fo := fo) (ra := ra) (tu := k) (we := we) (sh := sh) (lv := 0) (n := (400 : Int).toNat) (T := T) (S := S) (F := F) (P := P) (O := O) (nf := nf) (df := df) (nl := nl) (lg := lg) hnf0
          rw [← hR, ← hR0] at zsm
          have zXR : rX σ61 0 w h R := by rw [hR, gR_0 (F2 := F) (P2 := P)]; exact zx61
          obtain ⟨T1, S1, F1, P1, O1, nf1, df1, nl1, lg1⟩ := R
          have zT : T1 = R0.1 := zsm.2.1.1
          have zFs : ∀ i j, 0 < F1 i j ↔ 0 < R0.2.2.1 i j := zsm.2.1.2.2.1
          have zDf : df1 - df = xDf R0 := zsm.2.2.1
          have zkc := sKn_cnt (T := T1) (w := w) (h := h) (by omega) (by omega)
          have zyR : gY6 4 σ0 σ61 := zyl.tr (zz61.y (by omega)).g.s6
          have zBR : rB σ61 163 0 w h (T, S, F, P, O, nf, df, nl, lg) := zBl.cp (fun j _ _ => by rw [zz61.cell (by omega) (by omega) (by omega)])
          have zHR : mH σ61 w h H := zHl.fr (by rw [zz61 155 8 (by omega) (by omega) (by omega)]) (by rw [zz61.cell (by omega) (by omega) (by omega)])
          have zhKR : ht = true → ∀ x y : Int, 0 ≤ x → x < w → 0 ≤ y → y < h → σ61 165 (20 * y + x) = K x y ∧ -1 ≤ K x y ∧ K x y ≤ 255 := fun zq x y a b c d => ⟨by rw [zyR.cell (by omega) (by omega)]; exact zb2_σ0 zq x y a b c d, hW.2.2.1 zq x y a b c d⟩
          have zdA : σ61 163 2001 = df := by have zt := zBR.2.2; rw [Int.zero_add] at zt; exact zt.2.1
          refine y_pop (pc := 64) hF dX11_turning_64 rfl ?_
          refine y_aload_n (pc := 65) hF dX11_turning_65 0 rfl ?_
          refine y_get (pc := 66) (ci := 11) hF dX11_turning_66 (by omega) rfl rfl rfl iX11 2 (by decide) w_1249 rfl ?_
          refine y_iconst (pc := 69) hF dX11_turning_69 ?_
          refine y_aaM0 (pc := 70) hF dX11_turning_70 hn rfl ?_
          refine y_sipush (pc := 71) hF dX11_turning_71 (by decide) ?_
          refine y_iaload (pc := 74) hF dX11_turning_74 (by omega) rfl (by omega) (by decide) ?_
          rw [show σ61 158 2001 = df1 from zXR.2.2.1]
          refine y_aload_n (pc := 75) hF dX11_turning_75 0 rfl ?_
          refine y_get (pc := 76) (ci := 11) hF dX11_turning_76 (by omega) rfl rfl rfl iX11 5 (by decide) w_1252 rfl ?_
          refine y_sipush (pc := 79) hF dX11_turning_79 (by decide) ?_
          refine y_iaload (pc := 82) hF dX11_turning_82 (by omega) rfl (by omega) (by decide) ?_
          rw [show σ61 163 2001 = df from zdA]
          refine y_isub (pc := 83) hF dX11_turning_83 ?_
          rw [show df1 - df = xDf R0 from zDf]
          have z31 : 0 ≤ xDf R0 ∧ xDf R0 < 2147483648 := by rw [hR0]; exact gR_31 hs1 (by omega) hA.1
          refine y_istore (pc := 84) (lv' := [(0, yR g 155), (1, yI a), (2, yI tu), (3, yI bb), (4, yI le), (5, yI k), (6, yI (xDf R0))]) hF dX11_turning_84 (by decide) rfl rfl ?_
          refine y_aload_n (pc := 86) hF dX11_turning_86 0 rfl ?_
          refine y_cv (y_rV (pc := 87) hF (tX11_laysBack hn) dX11_turning_87 (by omega) rfl rfl rfl w_1707 qX11_laysBack rfl ⟨Nat.le_of_ble_eq_true rfl, Nat.le_of_ble_eq_true rfl⟩ ⟨by show _ + 0 ≤ 404; omega, by show _ + 0 ≤ 3636; omega⟩ (Nat.le_of_ble_eq_true rfl) rfl) rfl rfl (fun n' σ87 zp87 => ?_)
          obtain ⟨zn87, zp87⟩ := zp87
          have zn87 := zn87.symm
          subst zn87
          have zXB : rX σ87 0 w h (T, S, F, P, O, nf, df, nl, lg) := (zBR.cp (σ' := σ87) (c' := 158) (o' := 0) (fun j a b => by rw [Int.zero_add]; exact zp87.2 j a b)).x (by rw [zp87.1 161 (by omega)]; exact zXR.1.2.1) (by rw [zp87.1 162 (by omega)]; exact zXR.1.2.2.1)
          have zyB : gY6 4 σ0 σ87 := zyR.tr (zp87.1.g (by omega)).s6
          have zHB : mH σ87 w h H := zHR.fr (by rw [zp87.1 155 (by omega)]) (zp87.1 164 (by omega))
          refine y_iload_n (pc := 90) hF dX11_turning_90 3 rfl ?_
          refine y_iconst (pc := 91) hF dX11_turning_91 ?_
          refine y_icmp_eq (pc := 92) hF dX11_turning_92 105 rfl (by omega) (by omega) (fun zc92 => ?_) (fun zc92 => ?_)
          · skip
            refine y_iload (pc := 105) hF dX11_turning_105 5 rfl ?_
            refine y_istore_n (pc := 107) (lv' := [(0, yR g 155), (1, yI a), (2, yI tu), (3, yI k), (4, yI le), (5, yI k), (6, yI (xDf R0))]) hF dX11_turning_107 (by decide) rfl rfl ?_
            refine y_iload (pc := 108) hF dX11_turning_108 6 rfl ?_
            refine y_istore (pc := 110) (lv' := [(0, yR g 155), (1, yI a), (2, yI tu), (3, yI k), (4, yI (xDf R0)), (5, yI k), (6, yI (xDf R0))]) hF dX11_turning_110 (by decide) rfl rfl ?_
            refine y_iinc (pc := 112) (lv' := [(0, yR g 155), (1, yI a), (2, yI tu), (3, yI k), (4, yI (xDf R0)), (5, yI (k + 1)), (6, yI (xDf R0))]) hF dX11_turning_112 5 rfl (by decide) rfl rfl ?_
            refine y_goto (pc := 115) hF dX11_turning_115 37 rfl ?_
            refine y_sub [0, 1, 2, 3, 4, 5] rfl ?_
            exact zh37 _ (by omega) σ87 n61 (k + 1) (k) (xDf R0) rfl ⟨⟨⟨hn, by omega⟩, zyB, zXB, zHB⟩, by omega, by omega, by rw [fr_up _ _ _ _ zI37.2.1.1, ← zI37.2.2.2, Int.zero_add, ← hR0]; exact (trG_1 (show bb = -1 ∨ xDf R0 < le by omega)).symm⟩
          · skip
            refine y_iload (pc := 95) hF dX11_turning_95 6 rfl ?_
            refine y_iload (pc := 97) hF dX11_turning_97 4 rfl ?_
            refine y_icmp_lt (pc := 99) hF dX11_turning_99 105 rfl (by omega) (by omega) (fun zc99 => ?_) (fun zc99 => ?_)
            · skip
              refine y_iload (pc := 105) hF dX11_turning_105 5 rfl ?_
              refine y_istore_n (pc := 107) (lv' := [(0, yR g 155), (1, yI a), (2, yI tu), (3, yI k), (4, yI le), (5, yI k), (6, yI (xDf R0))]) hF dX11_turning_107 (by decide) rfl rfl ?_
              refine y_iload (pc := 108) hF dX11_turning_108 6 rfl ?_
              refine y_istore (pc := 110) (lv' := [(0, yR g 155), (1, yI a), (2, yI tu), (3, yI k), (4, yI (xDf R0)), (5, yI k), (6, yI (xDf R0))]) hF dX11_turning_110 (by decide) rfl rfl ?_
              refine y_iinc (pc := 112) (lv' := [(0, yR g 155), (1, yI a), (2, yI tu), (3, yI k), (4, yI (xDf R0)), (5, yI (k + 1)), (6, yI (xDf R0))]) hF dX11_turning_112 5 rfl (by decide) rfl rfl ?_
              refine y_goto (pc := 115) hF dX11_turning_115 37 rfl ?_
              refine y_sub [0, 1, 2, 3, 4, 5] rfl ?_
              exact zh37 _ (by omega) σ87 n61 (k + 1) (k) (xDf R0) rfl ⟨⟨⟨hn, by omega⟩, zyB, zXB, zHB⟩, by omega, by omega, by rw [fr_up _ _ _ _ zI37.2.1.1, ← zI37.2.2.2, Int.zero_add, ← hR0]; exact (trG_1 (show bb = -1 ∨ xDf R0 < le by omega)).symm⟩
            · skip
              refine y_goto (pc := 102) hF dX11_turning_102 112 rfl ?_
              refine y_iinc (pc := 112) (lv' := [(0, yR g 155), (1, yI a), (2, yI tu), (3, yI bb), (4, yI le), (5, yI (k + 1)), (6, yI (xDf R0))]) hF dX11_turning_112 5 rfl (by decide) rfl rfl ?_
              refine y_goto (pc := 115) hF dX11_turning_115 37 rfl ?_
              refine y_sub [0, 1, 2, 3, 4, 5] rfl ?_
              exact zh37 _ (by omega) σ87 n61 (k + 1) (bb) (le) rfl ⟨⟨⟨hn, by omega⟩, zyB, zXB, zHB⟩, by omega, by omega, by rw [fr_up _ _ _ _ zI37.2.1.1, ← zI37.2.2.2, Int.zero_add, ← hR0]; exact (trG_0 (show ¬ (bb = -1 ∨ xDf R0 < le) by omega)).symm⟩
    exact zL37 _ σ0 n 0 (-1) 0 rfl ⟨⟨⟨hn, Nat.le_refl n⟩, gY6.rf σ0, ⟨zA_σ0, zL_σ0⟩, zH_σ0⟩, by omega, by omega, rfl⟩
  · subst zv14; subst zs14
    refine y_if_ne (pc := 17) hF dX11_turning_17 22 rfl (by decide) (fun zc17 => absurd zc17 (by decide)) (fun _ => ?_)
    refine y_iconst (pc := 20) hF dX11_turning_20 ?_
    exact y_iret (pc := 21) hF dX11_turning_21 (by first | exact Nat.le_of_ble_eq_true rfl | (show _ ≤ 404; omega)) (by first | exact Nat.le_of_ble_eq_true rfl | (show _ ≤ 3636; omega)) ⟨_, rfl, Nat.le_refl _, Or.inr ⟨(fun ze => by simp at zb14; omega), zO_σ0.bA 1⟩⟩
