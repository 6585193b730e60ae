theorem dX11_set_0 : decode cX11_set 0 = .ok (.aload_n 0, 1) := by decide +kernel
theorem dX11_set_1 : decode cX11_set 1 = .ok (.iconst 0, 1) := by decide +kernel
theorem dX11_set_2 : decode cX11_set 2 = .ok (.putfield 1, 3) := by decide +kernel
theorem dX11_set_5 : decode cX11_set 5 = .ok (.iload_n 1, 1) := by decide +kernel
theorem dX11_set_6 : decode cX11_set 6 = .ok (.ifCond .ne 12, 3) := by decide +kernel
theorem dX11_set_9 : decode cX11_set 9 = .ok (.iload_n 2, 1) := by decide +kernel
theorem dX11_set_10 : decode cX11_set 10 = .ok (.iconst 1, 1) := by decide +kernel
theorem dX11_set_11 : decode cX11_set 11 = .ok (.iconst 3, 1) := by decide +kernel
theorem dX11_set_12 : decode cX11_set 12 = .ok (.invokestatic 68, 3) := by decide +kernel
theorem dX11_set_15 : decode cX11_set 15 = .ok (.goto 52, 3) := by decide +kernel
theorem dX11_set_18 : decode cX11_set 18 = .ok (.iload_n 1, 1) := by decide +kernel
theorem dX11_set_19 : decode cX11_set 19 = .ok (.iconst 1, 1) := by decide +kernel
theorem dX11_set_20 : decode cX11_set 20 = .ok (.if_icmp .ne 13, 3) := by decide +kernel
theorem dX11_set_23 : decode cX11_set 23 = .ok (.iload_n 2, 1) := by decide +kernel
theorem dX11_set_24 : decode cX11_set 24 = .ok (.iconst 1, 1) := by decide +kernel
theorem dX11_set_25 : decode cX11_set 25 = .ok (.bipush 20, 2) := by decide +kernel
theorem dX11_set_27 : decode cX11_set 27 = .ok (.invokestatic 68, 3) := by decide +kernel
theorem dX11_set_30 : decode cX11_set 30 = .ok (.goto 37, 3) := by decide +kernel
theorem dX11_set_33 : decode cX11_set 33 = .ok (.iload_n 1, 1) := by decide +kernel
theorem dX11_set_34 : decode cX11_set 34 = .ok (.iconst 3, 1) := by decide +kernel
theorem dX11_set_35 : decode cX11_set 35 = .ok (.if_icmp .ne 12, 3) := by decide +kernel
theorem dX11_set_38 : decode cX11_set 38 = .ok (.iload_n 2, 1) := by decide +kernel
theorem dX11_set_39 : decode cX11_set 39 = .ok (.iconst 0, 1) := by decide +kernel
theorem dX11_set_40 : decode cX11_set 40 = .ok (.iconst 2, 1) := by decide +kernel
theorem dX11_set_41 : decode cX11_set 41 = .ok (.invokestatic 68, 3) := by decide +kernel
theorem dX11_set_44 : decode cX11_set 44 = .ok (.goto 23, 3) := by decide +kernel
theorem dX11_set_47 : decode cX11_set 47 = .ok (.iload_n 1, 1) := by decide +kernel
theorem dX11_set_48 : decode cX11_set 48 = .ok (.iconst 4, 1) := by decide +kernel
theorem dX11_set_49 : decode cX11_set 49 = .ok (.if_icmp .ne 12, 3) := by decide +kernel
theorem dX11_set_52 : decode cX11_set 52 = .ok (.iload_n 2, 1) := by decide +kernel
theorem dX11_set_53 : decode cX11_set 53 = .ok (.iconst 0, 1) := by decide +kernel
theorem dX11_set_54 : decode cX11_set 54 = .ok (.iconst 3, 1) := by decide +kernel
theorem dX11_set_55 : decode cX11_set 55 = .ok (.invokestatic 68, 3) := by decide +kernel
theorem dX11_set_58 : decode cX11_set 58 = .ok (.goto 9, 3) := by decide +kernel
theorem dX11_set_61 : decode cX11_set 61 = .ok (.iload_n 2, 1) := by decide +kernel
theorem dX11_set_62 : decode cX11_set 62 = .ok (.iconst 0, 1) := by decide +kernel
theorem dX11_set_63 : decode cX11_set 63 = .ok (.iconst 1, 1) := by decide +kernel
theorem dX11_set_64 : decode cX11_set 64 = .ok (.invokestatic 68, 3) := by decide +kernel
theorem dX11_set_67 : decode cX11_set 67 = .ok (.istore_n 3, 1) := by decide +kernel
theorem dX11_set_68 : decode cX11_set 68 = .ok (.aload_n 0, 1) := by decide +kernel
theorem dX11_set_69 : decode cX11_set 69 = .ok (.iload_n 1, 1) := by decide +kernel
theorem dX11_set_70 : decode cX11_set 70 = .ok (.iconst 0, 1) := by decide +kernel
theorem dX11_set_71 : decode cX11_set 71 = .ok (.bipush 6, 2) := by decide +kernel
theorem dX11_set_73 : decode cX11_set 73 = .ok (.invokestatic 68, 3) := by decide +kernel
theorem dX11_set_76 : decode cX11_set 76 = .ok (.ifCond .eq 11, 3) := by decide +kernel
theorem dX11_set_79 : decode cX11_set 79 = .ok (.iload_n 3, 1) := by decide +kernel
theorem dX11_set_80 : decode cX11_set 80 = .ok (.ifCond .eq 7, 3) := by decide +kernel
theorem dX11_set_83 : decode cX11_set 83 = .ok (.iconst 1, 1) := by decide +kernel
theorem dX11_set_84 : decode cX11_set 84 = .ok (.goto 4, 3) := by decide +kernel
theorem dX11_set_87 : decode cX11_set 87 = .ok (.iconst 0, 1) := by decide +kernel
theorem dX11_set_88 : decode cX11_set 88 = .ok (.iconst 1, 1) := by decide +kernel
theorem dX11_set_89 : decode cX11_set 89 = .ok (.iconst 1, 1) := by decide +kernel
theorem dX11_set_90 : decode cX11_set 90 = .ok (.invokevirtual 284, 3) := by decide +kernel
theorem dX11_set_93 : decode cX11_set 93 = .ok (.ifCond .ne 5, 3) := by decide +kernel
theorem dX11_set_96 : decode cX11_set 96 = .ok (.iconst 0, 1) := by decide +kernel
theorem dX11_set_97 : decode cX11_set 97 = .ok (.ireturn, 1) := by decide +kernel
theorem dX11_set_98 : decode cX11_set 98 = .ok (.aload_n 0, 1) := by decide +kernel
theorem dX11_set_99 : decode cX11_set 99 = .ok (.getfield 37, 3) := by decide +kernel
theorem dX11_set_102 : decode cX11_set 102 = .ok (.iload_n 1, 1) := by decide +kernel
theorem dX11_set_103 : decode cX11_set 103 = .ok (.iaload, 1) := by decide +kernel
theorem dX11_set_104 : decode cX11_set 104 = .ok (.istore 4, 2) := by decide +kernel
theorem dX11_set_106 : decode cX11_set 106 = .ok (.aload_n 0, 1) := by decide +kernel
theorem dX11_set_107 : decode cX11_set 107 = .ok (.getfield 37, 3) := by decide +kernel
theorem dX11_set_110 : decode cX11_set 110 = .ok (.iload_n 1, 1) := by decide +kernel
theorem dX11_set_111 : decode cX11_set 111 = .ok (.iload_n 2, 1) := by decide +kernel
theorem dX11_set_112 : decode cX11_set 112 = .ok (.iastore, 1) := by decide +kernel
theorem dX11_set_113 : decode cX11_set 113 = .ok (.iload 4, 2) := by decide +kernel
theorem dX11_set_115 : decode cX11_set 115 = .ok (.ireturn, 1) := by decide +kernel
set_option maxHeartbeats 4000000 in
set_option maxRecDepth 100000 in
theorem tX11_set {l : Launch} {g : yG} {n : Nat} {σ : yM} (hn : 172 ≤ n) (w h : Int) (T S F P O : Int → Int → Int) (nf df nl : Int) (lg : Int → Int → Int) (s re fo ra tu we sh : Int) (H : List aX) (ht : Bool) (K : Int → Int → Int) (tl : Int) (tb : Int → Int) (fa r1 r2 N : Int) (hV : mV σ (w, h, (T, S, F, P, O, nf, df, nl, lg), (s, re, fo, ra, tu, we, sh), H, ht, K, tl, tb, fa, r1, r2)) (hW : aW N (w, h, (T, S, F, P, O, nf, df, nl, lg), (s, re, fo, ra, tu, we, sh), H, ht, K, tl, tb, fa, r1, r2)) (a v : Int) (ha : -2147483648 ≤ a ∧ a < 2147483648) (hv : -2147483648 ≤ v ∧ v < 2147483648) : yMet l g yX11_set cX11_set 5 (some .int) (rmL 2) [yR g 155, yI a, yI v] (SC g) n σ (SC g) (yPi (fun zv n' σ' => n ≤ n' ∧ (((sAl a v = true) ∧ zv = sV s re fo ra tu we sh a ∧ mO σ σ' (w, h, (T, S, F, P, O, nf, df, nl, lg), ((if a = 0 then v else s), (if a = 1 then v else re), (if a = 2 then v else fo), (if a = 3 then v else ra), (if a = 4 then v else tu), (if a = 5 then v else we), (if a = 6 then v else sh)), H, ht, K, tl, tb, fa, r1, r2) 0) ∨ (¬ (sAl a v = true) ∧ mO σ σ' (bA (w, h, (T, S, F, P, O, nf, df, nl, lg), (s, re, fo, ra, tu, we, sh), H, ht, K, tl, tb, fa, r1, r2)) 1)))) := by
  obtain ⟨⟨hA, hL⟩, hS, hH, ⟨hb1, hb2⟩, ⟨ht1, ht2⟩, hfa, hr1, hr2⟩ := id hV
  obtain ⟨hw1, hw2, hw3, hw4⟩ := id hA.1.1
  obtain ⟨hs1, hs2, hs3, hs4, hs5, hs6, hs7⟩ := id hS.2
  have hz : (0 : Nat) < 3 := by omega
  refine y_start (by decide) (Nat.le_of_ble_eq_true rfl) (fun X0 hF => ?_)
  show yV X0 g 5 (yQ X0 g (SC g) (yPi (fun zv n' σ' => n ≤ n' ∧ (((sAl a v = true) ∧ zv = sV s re fo ra tu we sh a ∧ mO σ σ' (w, h, (T, S, F, P, O, nf, df, nl, lg), ((if a = 0 then v else s), (if a = 1 then v else re), (if a = 2 then v else fo), (if a = 3 then v else ra), (if a = 4 then v else tu), (if a = 5 then v else we), (if a = 6 then v else sh)), H, ht, K, tl, tb, fa, r1, r2) 0) ∨ (¬ (sAl a v = true) ∧ mO σ σ' (bA (w, h, (T, S, F, P, O, nf, df, nl, lg), (s, re, fo, ra, tu, we, sh), H, ht, K, tl, tb, fa, r1, r2)) 1)))) (rmL 2)) (SC g) n σ 0 0 0 [(0, yR g 155), (1, yI a), (2, yI v)] []
  refine y_aload_n (pc := 0) hF dX11_set_0 0 rfl ?_
  refine y_iconst (pc := 1) hF dX11_set_1 ?_
  refine y_putf (pc := 2) (ci := 11) (σ' := yset σ 155 0 0) (sch' := (SC g)) hF dX11_set_2 (by omega) rfl rfl rfl iX11 0 (by decide) w_1247 tyX11 tyX11_ok nmX11 rfl rfl rfl rfl (Nat.le_of_ble_eq_true rfl) rfl (y_ps rfl) (fun k' h => ⟨yset_n h, rfl⟩) ?_
  obtain ⟨σ0, hσ0⟩ : ∃ s, s = yset σ 155 0 0 := ⟨_, rfl⟩
  rw [← hσ0]
  have zO_σ0 := hV.t0 hσ0
  obtain ⟨⟨zA_σ0, zL_σ0⟩, zS_σ0, zH_σ0, ⟨zb1_σ0, zb2_σ0⟩, ⟨zt1_σ0, zt2_σ0⟩, zfa_σ0, zr1_σ0, zr2_σ0⟩ := id zO_σ0.2.2
  have zJ67 : ∀ (zg : Bool), (zg = true ↔ ((a = 0 → 1 ≤ v ∧ v ≤ 3) ∧ (a = 1 → 1 ≤ v ∧ v ≤ 20) ∧ (a = 3 → 0 ≤ v ∧ v ≤ 2) ∧ (a = 4 → 0 ≤ v ∧ v ≤ 3) ∧ (a ≠ 0 → a ≠ 1 → a ≠ 3 → a ≠ 4 → 0 ≤ v ∧ v ≤ 1))) → yV X0 g 5 (yQ X0 g (SC g) (yPi (fun zv n' σ' => n ≤ n' ∧ (((sAl a v = true) ∧ zv = sV s re fo ra tu we sh a ∧ mO σ σ' (w, h, (T, S, F, P, O, nf, df, nl, lg), ((if a = 0 then v else s), (if a = 1 then v else re), (if a = 2 then v else fo), (if a = 3 then v else ra), (if a = 4 then v else tu), (if a = 5 then v else we), (if a = 6 then v else sh)), H, ht, K, tl, tb, fa, r1, r2) 0) ∨ (¬ (sAl a v = true) ∧ mO σ σ' (bA (w, h, (T, S, F, P, O, nf, df, nl, lg), (s, re, fo, ra, tu, we, sh), H, ht, K, tl, tb, fa, r1, r2)) 1)))) (rmL 2)) (SC g) n σ0 0 0 67 [(0, yR g 155), (1, yI a), (2, yI v)] [yI (bi zg)] := by
    intro zg  zhg
    refine y_istore_n (pc := 67) (lv' := [(0, yR g 155), (1, yI a), (2, yI v), (3, yI (bi zg))]) hF dX11_set_67 (by decide) rfl rfl ?_
    have zJ88 : ∀ (zb : Bool), (zb = sAl a v) → yV X0 g 5 (yQ X0 g (SC g) (yPi (fun zv n' σ' => n ≤ n' ∧ (((sAl a v = true) ∧ zv = sV s re fo ra tu we sh a ∧ mO σ σ' (w, h, (T, S, F, P, O, nf, df, nl, lg), ((if a = 0 then v else s), (if a = 1 then v else re), (if a = 2 then v else fo), (if a = 3 then v else ra), (if a = 4 then v else tu), (if a = 5 then v else we), (if a = 6 then v else sh)), H, ht, K, tl, tb, fa, r1, r2) 0) ∨ (¬ (sAl a v = true) ∧ mO σ σ' (bA (w, h, (T, S, F, P, O, nf, df, nl, lg), (s, re, fo, ra, tu, we, sh), H, ht, K, tl, tb, fa, r1, r2)) 1)))) (rmL 2)) (SC g) n σ0 0 0 88 [(0, yR g 155), (1, yI a), (2, yI v), (3, yI (bi zg))] [yI (bi zb), yR g 155] := by
      intro zb  zhb
      refine y_iconst (pc := 88) hF dX11_set_88 ?_
      refine y_iconst (pc := 89) hF dX11_set_89 ?_
      refine y_ci (y_rV (pc := 90) hF (tX11_isFine hn zO_σ0.2.1 zb 1 1 (by decide) (by decide)) dX11_set_90 (by omega) rfl rfl rfl w_1395 qX11_isFine rfl ⟨Nat.le_of_ble_eq_true rfl, Nat.le_of_ble_eq_true rfl⟩ ⟨Nat.zero_le _, Nat.zero_le _⟩ (Nat.le_of_ble_eq_true rfl) rfl) rfl rfl (fun r90 n' σ90 zp90 => ?_)
      obtain ⟨zn90, zp90⟩ := zp90
      have zn90 := zn90.symm
      subst zn90
      rcases zp90 with ⟨zb90, zv90, zs90⟩ | ⟨zb90, zv90, zs90⟩
      · subst zv90; have zs90 := zs90.symm; subst zs90
        refine y_if_ne (pc := 93) hF dX11_set_93 98 rfl (by decide) (fun _ => ?_) (fun zc93 => absurd zc93 (by decide))
        rw [zhb] at zb90
        have zal := (sAl_iff (a := a) (v := v)).mp zb90
        refine y_aload_n (pc := 98) hF dX11_set_98 0 rfl ?_
        refine y_get (pc := 99) (ci := 11) hF dX11_set_99 (by omega) rfl rfl rfl iX11 10 (by decide) w_1257 rfl ?_
        refine y_iload_n (pc := 102) hF dX11_set_102 1 rfl ?_
        refine y_iaload (pc := 103) hF dX11_set_103 (by omega) rfl ⟨by omega, by show _ < (7 : Int); omega⟩ (by decide) ?_
        refine y_istore (pc := 104) (lv' := [(0, yR g 155), (1, yI a), (2, yI v), (3, yI (bi zg)), (4, yI (σ0 166 a))]) hF dX11_set_104 (by decide) rfl rfl ?_
        refine y_aload_n (pc := 106) hF dX11_set_106 0 rfl ?_
        refine y_get (pc := 107) (ci := 11) hF dX11_set_107 (by omega) rfl rfl rfl iX11 10 (by decide) w_1257 rfl ?_
        refine y_iload_n (pc := 110) hF dX11_set_110 1 rfl ?_
        refine y_iload_n (pc := 111) hF dX11_set_111 2 rfl ?_
        refine y_iastore (pc := 112) hF dX11_set_112 (by omega) rfl ⟨by omega, by show _ < (7 : Int); omega⟩ (by decide) ?_
        refine y_iload (pc := 113) hF dX11_set_113 4 rfl ?_
        exact y_iret (pc := 115) hF dX11_set_115 (Nat.zero_le _) (Nat.zero_le _) ⟨_, rfl, Nat.le_refl _, Or.inl ⟨zb90, (by unfold sV; rcases (show a = 0 ∨ a = 1 ∨ a = 2 ∨ a = 3 ∨ a = 4 ∨ a = 5 ∨ a = 6 by omega) with zq | zq | zq | zq | zq | zq | zq <;> subst zq; (exact zS_σ0.1.1); (exact zS_σ0.1.2.1); (exact zS_σ0.1.2.2.1); (exact zS_σ0.1.2.2.2.1); (exact zS_σ0.1.2.2.2.2.1); (exact zS_σ0.1.2.2.2.2.2.1); (exact zS_σ0.1.2.2.2.2.2.2)), (mO_set zO_σ0 zb90)⟩⟩
      · subst zv90; subst zs90
        refine y_if_ne (pc := 93) hF dX11_set_93 98 rfl (by decide) (fun zc93 => absurd zc93 (by decide)) (fun _ => ?_)
        refine y_iconst (pc := 96) hF dX11_set_96 ?_
        exact y_iret (pc := 97) hF dX11_set_97 (Nat.zero_le _) (Nat.zero_le _) ⟨_, rfl, Nat.le_refl _, Or.inr ⟨(by rw [← zhb, zb90]; decide), zO_σ0.bA 1⟩⟩
    refine y_aload_n (pc := 68) hF dX11_set_68 0 rfl ?_
    refine y_iload_n (pc := 69) hF dX11_set_69 1 rfl ?_
    refine y_iconst (pc := 70) hF dX11_set_70 ?_
    refine y_bipush (pc := 71) hF dX11_set_71 (by decide) ?_
    have zz73 := y_rS (pc := 73) (As := [yI a, yI 0, yI 6]) (kk := 0) hF (tX11_within (n := n) (σ := σ0) a 0 6 (by omega) (by omega) (by omega)) dX11_set_73 w_1392 qX11_within rfl ⟨Nat.le_of_ble_eq_true rfl, Nat.le_of_ble_eq_true rfl⟩ ⟨Nat.zero_le _, Nat.zero_le _⟩ (Nat.le_of_ble_eq_true rfl) rfl (rest := [yR g 155]) (cells := 0) (slots := 0) (lv := [(0, yR g 155), (1, yI a), (2, yI v), (3, yI (bi zg))])
    refine y_cp (zz73) ?_
    refine y_if_eq (pc := 76) hF dX11_set_76 87 rfl bi_r (fun zc76 => ?_) (fun zc76 => ?_)
    · replace zc76 := bi_0.mp zc76
      refine y_iconst (pc := 87) hF dX11_set_87 ?_
      exact zJ88 false (by simp at zc76; symm; rw [Bool.eq_false_iff]; intro ze; have := (sAl_iff (a := a) (v := v)).mp ze; omega)
    · replace zc76 := bi_n0.mp zc76
      refine y_iload_n (pc := 79) hF dX11_set_79 3 rfl ?_
      refine y_if_eq (pc := 80) hF dX11_set_80 87 rfl bi_r (fun zc80 => ?_) (fun zc80 => ?_)
      · replace zc80 := bi_0.mp zc80
        refine y_iconst (pc := 87) hF dX11_set_87 ?_
        exact zJ88 false (by symm; rw [Bool.eq_false_iff]; intro ze; have zt := (sAl_iff (a := a) (v := v)).mp ze; rw [zhg.mpr zt.2] at zc80; cases zc80)
      · replace zc80 := bi_n0.mp zc80
        refine y_iconst (pc := 83) hF dX11_set_83 ?_
        refine y_goto (pc := 84) hF dX11_set_84 88 rfl ?_
        exact zJ88 true (by simp at zc76; exact ((sAl_iff (a := a) (v := v)).mpr ⟨by omega, zhg.mp zc80⟩).symm)
  refine y_iload_n (pc := 5) hF dX11_set_5 1 rfl ?_
  refine y_if_ne (pc := 6) hF dX11_set_6 18 rfl (by omega) (fun zc6 => ?_) (fun zc6 => ?_)
  · skip
    refine y_iload_n (pc := 18) hF dX11_set_18 1 rfl ?_
    refine y_iconst (pc := 19) hF dX11_set_19 ?_
    refine y_icmp_ne (pc := 20) hF dX11_set_20 33 rfl (by omega) (by omega) (fun zc20 => ?_) (fun zc20 => ?_)
    · skip
      refine y_iload_n (pc := 33) hF dX11_set_33 1 rfl ?_
      refine y_iconst (pc := 34) hF dX11_set_34 ?_
      refine y_icmp_ne (pc := 35) hF dX11_set_35 47 rfl (by omega) (by omega) (fun zc35 => ?_) (fun zc35 => ?_)
      · skip
        refine y_iload_n (pc := 47) hF dX11_set_47 1 rfl ?_
        refine y_iconst (pc := 48) hF dX11_set_48 ?_
        refine y_icmp_ne (pc := 49) hF dX11_set_49 61 rfl (by omega) (by omega) (fun zc49 => ?_) (fun zc49 => ?_)
        · skip
          refine y_iload_n (pc := 61) hF dX11_set_61 2 rfl ?_
          refine y_iconst (pc := 62) hF dX11_set_62 ?_
          refine y_iconst (pc := 63) hF dX11_set_63 ?_
          have zz64 := y_rS (pc := 64) (As := [yI v, yI 0, yI 1]) (kk := 0) hF (tX11_within (n := n) (σ := σ0) v 0 1 (by omega) (by omega) (by omega)) dX11_set_64 w_1392 qX11_within rfl ⟨Nat.le_of_ble_eq_true rfl, Nat.le_of_ble_eq_true rfl⟩ ⟨Nat.zero_le _, Nat.zero_le _⟩ (Nat.le_of_ble_eq_true rfl) rfl (rest := []) (cells := 0) (slots := 0) (lv := [(0, yR g 155), (1, yI a), (2, yI v)])
          refine y_cp (zz64) ?_
          exact zJ67 ((decide (0 ≤ v) && decide (v ≤ 1))) (by simp only [Bool.and_eq_true, decide_eq_true_eq]; omega)
        · skip
          refine y_iload_n (pc := 52) hF dX11_set_52 2 rfl ?_
          refine y_iconst (pc := 53) hF dX11_set_53 ?_
          refine y_iconst (pc := 54) hF dX11_set_54 ?_
          have zz55 := y_rS (pc := 55) (As := [yI v, yI 0, yI 3]) (kk := 0) hF (tX11_within (n := n) (σ := σ0) v 0 3 (by omega) (by omega) (by omega)) dX11_set_55 w_1392 qX11_within rfl ⟨Nat.le_of_ble_eq_true rfl, Nat.le_of_ble_eq_true rfl⟩ ⟨Nat.zero_le _, Nat.zero_le _⟩ (Nat.le_of_ble_eq_true rfl) rfl (rest := []) (cells := 0) (slots := 0) (lv := [(0, yR g 155), (1, yI a), (2, yI v)])
          refine y_cp (zz55) ?_
          refine y_goto (pc := 58) hF dX11_set_58 67 rfl ?_
          exact zJ67 ((decide (0 ≤ v) && decide (v ≤ 3))) (by simp only [Bool.and_eq_true, decide_eq_true_eq]; omega)
      · skip
        refine y_iload_n (pc := 38) hF dX11_set_38 2 rfl ?_
        refine y_iconst (pc := 39) hF dX11_set_39 ?_
        refine y_iconst (pc := 40) hF dX11_set_40 ?_
        have zz41 := y_rS (pc := 41) (As := [yI v, yI 0, yI 2]) (kk := 0) hF (tX11_within (n := n) (σ := σ0) v 0 2 (by omega) (by omega) (by omega)) dX11_set_41 w_1392 qX11_within rfl ⟨Nat.le_of_ble_eq_true rfl, Nat.le_of_ble_eq_true rfl⟩ ⟨Nat.zero_le _, Nat.zero_le _⟩ (Nat.le_of_ble_eq_true rfl) rfl (rest := []) (cells := 0) (slots := 0) (lv := [(0, yR g 155), (1, yI a), (2, yI v)])
        refine y_cp (zz41) ?_
        refine y_goto (pc := 44) hF dX11_set_44 67 rfl ?_
        exact zJ67 ((decide (0 ≤ v) && decide (v ≤ 2))) (by simp only [Bool.and_eq_true, decide_eq_true_eq]; omega)
    · skip
      refine y_iload_n (pc := 23) hF dX11_set_23 2 rfl ?_
      refine y_iconst (pc := 24) hF dX11_set_24 ?_
      refine y_bipush (pc := 25) hF dX11_set_25 (by decide) ?_
      have zz27 := y_rS (pc := 27) (As := [yI v, yI 1, yI 20]) (kk := 0) hF (tX11_within (n := n) (σ := σ0) v 1 20 (by omega) (by omega) (by omega)) dX11_set_27 w_1392 qX11_within rfl ⟨Nat.le_of_ble_eq_true rfl, Nat.le_of_ble_eq_true rfl⟩ ⟨Nat.zero_le _, Nat.zero_le _⟩ (Nat.le_of_ble_eq_true rfl) rfl (rest := []) (cells := 0) (slots := 0) (lv := [(0, yR g 155), (1, yI a), (2, yI v)])
      refine y_cp (zz27) ?_
      refine y_goto (pc := 30) hF dX11_set_30 67 rfl ?_
      exact zJ67 ((decide (1 ≤ v) && decide (v ≤ 20))) (by simp only [Bool.and_eq_true, decide_eq_true_eq]; omega)
  · skip
    refine y_iload_n (pc := 9) hF dX11_set_9 2 rfl ?_
    refine y_iconst (pc := 10) hF dX11_set_10 ?_
    refine y_iconst (pc := 11) hF dX11_set_11 ?_
    have zz12 := y_rS (pc := 12) (As := [yI v, yI 1, yI 3]) (kk := 0) hF (tX11_within (n := n) (σ := σ0) v 1 3 (by omega) (by omega) (by omega)) dX11_set_12 w_1392 qX11_within rfl ⟨Nat.le_of_ble_eq_true rfl, Nat.le_of_ble_eq_true rfl⟩ ⟨Nat.zero_le _, Nat.zero_le _⟩ (Nat.le_of_ble_eq_true rfl) rfl (rest := []) (cells := 0) (slots := 0) (lv := [(0, yR g 155), (1, yI a), (2, yI v)])
    refine y_cp (zz12) ?_
    refine y_goto (pc := 15) hF dX11_set_15 67 rfl ?_
    exact zJ67 ((decide (1 ≤ v) && decide (v ≤ 3))) (by simp only [Bool.and_eq_true, decide_eq_true_eq]; omega)

theorem dX11_paint_0 : decode cX11_paint 0 = .ok (.aload_n 0, 1) := by decide +kernel
theorem dX11_paint_1 : decode cX11_paint 1 = .ok (.iconst 0, 1) := by decide +kernel
theorem dX11_paint_2 : decode cX11_paint 2 = .ok (.putfield 1, 3) := by decide +kernel
theorem dX11_paint_5 : decode cX11_paint 5 = .ok (.aload_n 0, 1) := by decide +kernel
theorem dX11_paint_6 : decode cX11_paint 6 = .ok (.iload_n 1, 1) := by decide +kernel
theorem dX11_paint_7 : decode cX11_paint 7 = .ok (.iload_n 2, 1) := by decide +kernel
theorem dX11_paint_8 : decode cX11_paint 8 = .ok (.invokevirtual 307, 3) := by decide +kernel
theorem dX11_paint_11 : decode cX11_paint 11 = .ok (.ifCond .eq 20, 3) := by decide +kernel
theorem dX11_paint_14 : decode cX11_paint 14 = .ok (.aload_n 0, 1) := by decide +kernel
theorem dX11_paint_15 : decode cX11_paint 15 = .ok (.iload_n 3, 1) := by decide +kernel
theorem dX11_paint_16 : decode cX11_paint 16 = .ok (.iconst 0, 1) := by decide +kernel
theorem dX11_paint_17 : decode cX11_paint 17 = .ok (.sipush 255, 3) := by decide +kernel
theorem dX11_paint_20 : decode cX11_paint 20 = .ok (.invokestatic 68, 3) := by decide +kernel
theorem dX11_paint_23 : decode cX11_paint 23 = .ok (.iconst 2, 1) := by decide +kernel
theorem dX11_paint_24 : decode cX11_paint 24 = .ok (.iconst 1, 1) := by decide +kernel
theorem dX11_paint_25 : decode cX11_paint 25 = .ok (.invokevirtual 284, 3) := by decide +kernel
theorem dX11_paint_28 : decode cX11_paint 28 = .ok (.ifCond .ne 5, 3) := by decide +kernel
theorem dX11_paint_31 : decode cX11_paint 31 = .ok (.iconst 0, 1) := by decide +kernel
theorem dX11_paint_32 : decode cX11_paint 32 = .ok (.ireturn, 1) := by decide +kernel
theorem dX11_paint_33 : decode cX11_paint 33 = .ok (.aload_n 0, 1) := by decide +kernel
theorem dX11_paint_34 : decode cX11_paint 34 = .ok (.iconst 0, 1) := by decide +kernel
theorem dX11_paint_35 : decode cX11_paint 35 = .ok (.iload_n 1, 1) := by decide +kernel
theorem dX11_paint_36 : decode cX11_paint 36 = .ok (.iload_n 2, 1) := by decide +kernel
theorem dX11_paint_37 : decode cX11_paint 37 = .ok (.invokevirtual 87, 3) := by decide +kernel
theorem dX11_paint_40 : decode cX11_paint 40 = .ok (.istore 4, 2) := by decide +kernel
theorem dX11_paint_42 : decode cX11_paint 42 = .ok (.aload_n 0, 1) := by decide +kernel
theorem dX11_paint_43 : decode cX11_paint 43 = .ok (.invokevirtual 304, 3) := by decide +kernel
theorem dX11_paint_46 : decode cX11_paint 46 = .ok (.aload_n 0, 1) := by decide +kernel
theorem dX11_paint_47 : decode cX11_paint 47 = .ok (.iconst 0, 1) := by decide +kernel
theorem dX11_paint_48 : decode cX11_paint 48 = .ok (.iload_n 1, 1) := by decide +kernel
theorem dX11_paint_49 : decode cX11_paint 49 = .ok (.iload_n 2, 1) := by decide +kernel
theorem dX11_paint_50 : decode cX11_paint 50 = .ok (.invokestatic 56, 3) := by decide +kernel
theorem dX11_paint_53 : decode cX11_paint 53 = .ok (.iload_n 3, 1) := by decide +kernel
theorem dX11_paint_54 : decode cX11_paint 54 = .ok (.invokevirtual 60, 3) := by decide +kernel
theorem dX11_paint_57 : decode cX11_paint 57 = .ok (.iload 4, 2) := by decide +kernel
theorem dX11_paint_59 : decode cX11_paint 59 = .ok (.ireturn, 1) := by decide +kernel
set_option maxHeartbeats 4000000 in
set_option maxRecDepth 100000 in
theorem tX11_paint {l : Launch} {g : yG} {n : Nat} {σ : yM} (hn : 172 ≤ n) (w h : Int) (T S F P O : Int → Int → Int) (nf df nl : Int) (lg : Int → Int → Int) (s re fo ra tu we sh : Int) (H : List aX) (ht : Bool) (K : Int → Int → Int) (tl : Int) (tb : Int → Int) (fa r1 r2 N : Int) (hV : mV σ (w, h, (T, S, F, P, O, nf, df, nl, lg), (s, re, fo, ra, tu, we, sh), H, ht, K, tl, tb, fa, r1, r2)) (hW : aW N (w, h, (T, S, F, P, O, nf, df, nl, lg), (s, re, fo, ra, tu, we, sh), H, ht, K, tl, tb, fa, r1, r2)) (x y e_ : Int) (hx : -2147483648 ≤ x ∧ x < 2147483648) (hy : -2147483648 ≤ y ∧ y < 2147483648) (he_ : -2147483648 ≤ e_ ∧ e_ < 2147483648) : yMet l g yX11_paint cX11_paint 5 (some .int) (rmL 4) [yR g 155, yI x, yI y, yI e_] (SC g) n σ (SC g) (yPi (fun zv n' σ' => n ≤ n' ∧ (((sIn w h x y = true) ∧ (0 ≤ e_ ∧ e_ ≤ 255) ∧ zv = T x y ∧ mO σ σ' (w, h, (lup T x y e_, lup S x y (if e_ = -1 then 0 else 1000), lup F x y 0, lup P x y (-1), lup O x y (-1), nf, df, nl, lg), (s, re, fo, ra, tu, we, sh), pH (T, S, F, P, O, nf, df, nl, lg) H, ht, K, tl, tb, fa, r1, r2) 0) ∨ (¬ (sIn w h x y = true) ∧ mO σ σ' (bN (w, h, (T, S, F, P, O, nf, df, nl, lg), (s, re, fo, ra, tu, we, sh), H, ht, K, tl, tb, fa, r1, r2)) 1) ∨ ((sIn w h x y = true) ∧ ¬ (0 ≤ e_ ∧ e_ ≤ 255) ∧ mO σ σ' (bA (w, h, (T, S, F, P, O, nf, df, nl, lg), (s, re, fo, ra, tu, we, sh), H, ht, K, tl, tb, fa, r1, r2)) 2)))) := by
  obtain ⟨⟨hA, hL⟩, hS, hH, ⟨hb1, hb2⟩, ⟨ht1, ht2⟩, hfa, hr1, hr2⟩ := id hV
  obtain ⟨hw1, hw2, hw3, hw4⟩ := id hA.1.1
  obtain ⟨hs1, hs2, hs3, hs4, hs5, hs6, hs7⟩ := id hS.2
  have hz : (0 : Nat) < 3 := by omega
  have hdl : 0 ≤ (H.length : Int) ∧ (H.length : Int) ≤ 10 := by have := hH.2.1; omega
  refine y_start (by decide) (Nat.le_of_ble_eq_true rfl) (fun X0 hF => ?_)
  show yV X0 g 5 (yQ X0 g (SC g) (yPi (fun zv n' σ' => n ≤ n' ∧ (((sIn w h x y = true) ∧ (0 ≤ e_ ∧ e_ ≤ 255) ∧ zv = T x y ∧ mO σ σ' (w, h, (lup T x y e_, lup S x y (if e_ = -1 then 0 else 1000), lup F x y 0, lup P x y (-1), lup O x y (-1), nf, df, nl, lg), (s, re, fo, ra, tu, we, sh), pH (T, S, F, P, O, nf, df, nl, lg) H, ht, K, tl, tb, fa, r1, r2) 0) ∨ (¬ (sIn w h x y = true) ∧ mO σ σ' (bN (w, h, (T, S, F, P, O, nf, df, nl, lg), (s, re, fo, ra, tu, we, sh), H, ht, K, tl, tb, fa, r1, r2)) 1) ∨ ((sIn w h x y = true) ∧ ¬ (0 ≤ e_ ∧ e_ ≤ 255) ∧ mO σ σ' (bA (w, h, (T, S, F, P, O, nf, df, nl, lg), (s, re, fo, ra, tu, we, sh), H, ht, K, tl, tb, fa, r1, r2)) 2)))) (rmL 4)) (SC g) n σ 0 0 0 [(0, yR g 155), (1, yI x), (2, yI y), (3, yI e_)] []
  refine y_aload_n (pc := 0) hF dX11_paint_0 0 rfl ?_
  refine y_iconst (pc := 1) hF dX11_paint_1 ?_
  refine y_putf (pc := 2) (ci := 11) (σ' := yset σ 155 0 0) (sch' := (SC g)) hF dX11_paint_2 (by omega) rfl rfl rfl iX11 0 (by decide) w_1247 tyX11 tyX11_ok nmX11 rfl rfl rfl rfl (Nat.le_of_ble_eq_true rfl) rfl (y_ps rfl) (fun k' h => ⟨yset_n h, rfl⟩) ?_
  obtain ⟨σ0, hσ0⟩ : ∃ s, s = yset σ 155 0 0 := ⟨_, rfl⟩
  rw [← hσ0]
  have zO_σ0 := hV.t0 hσ0
  obtain ⟨⟨zA_σ0, zL_σ0⟩, zS_σ0, zH_σ0, ⟨zb1_σ0, zb2_σ0⟩, ⟨zt1_σ0, zt2_σ0⟩, zfa_σ0, zr1_σ0, zr2_σ0⟩ := id zO_σ0.2.2
  refine y_aload_n (pc := 5) hF dX11_paint_5 0 rfl ?_
  refine y_iload_n (pc := 6) hF dX11_paint_6 1 rfl ?_
  refine y_iload_n (pc := 7) hF dX11_paint_7 2 rfl ?_
  refine y_ci (y_rV (pc := 8) hF (tX11_isThere w h T S F P O hn zA_σ0 zO_σ0.2.1 x y hx hy) dX11_paint_8 (by omega) rfl rfl rfl w_1468 qX11_isThere rfl ⟨Nat.le_of_ble_eq_true rfl, Nat.le_of_ble_eq_true rfl⟩ ⟨Nat.zero_le _, Nat.zero_le _⟩ (Nat.le_of_ble_eq_true rfl) rfl) rfl rfl (fun r8 n' σ8 zp8 => ?_)
  obtain ⟨zn8, zp8⟩ := zp8
  have zn8 := zn8.symm
  subst zn8
  rcases zp8 with ⟨zb8, zv8, zs8⟩ | ⟨zb8, zv8, zs8⟩
  · subst zv8; have zs8 := zs8.symm; subst zs8
    refine y_if_eq (pc := 11) hF dX11_paint_11 31 rfl (by decide) (fun zc11 => absurd zc11 (by decide)) (fun _ => ?_)
    refine y_aload_n (pc := 14) hF dX11_paint_14 0 rfl ?_
    refine y_iload_n (pc := 15) hF dX11_paint_15 3 rfl ?_
    refine y_iconst (pc := 16) hF dX11_paint_16 ?_
    refine y_sipush (pc := 17) hF dX11_paint_17 (by decide) ?_
    have zz20 := y_rS (pc := 20) (As := [yI e_, yI 0, yI 255]) (kk := 0) hF (tX11_within (n := n) (σ := σ0) e_ 0 255 (by omega) (by omega) (by omega)) dX11_paint_20 w_1392 qX11_within rfl ⟨Nat.le_of_ble_eq_true rfl, Nat.le_of_ble_eq_true rfl⟩ ⟨Nat.zero_le _, Nat.zero_le _⟩ (Nat.le_of_ble_eq_true rfl) rfl (rest := [yR g 155]) (cells := 0) (slots := 0) (lv := [(0, yR g 155), (1, yI x), (2, yI y), (3, yI e_)])
    refine y_cp (zz20) ?_
    refine y_iconst (pc := 23) hF dX11_paint_23 ?_
    refine y_iconst (pc := 24) hF dX11_paint_24 ?_
    refine y_ci (y_rV (pc := 25) hF (tX11_isFine hn zO_σ0.2.1 (decide (0 ≤ e_) && decide (e_ ≤ 255)) 2 1 (by decide) (by decide)) dX11_paint_25 (by omega) rfl rfl rfl w_1395 qX11_isFine rfl ⟨Nat.le_of_ble_eq_true rfl, Nat.le_of_ble_eq_true rfl⟩ ⟨Nat.zero_le _, Nat.zero_le _⟩ (Nat.le_of_ble_eq_true rfl) rfl) rfl rfl (fun r25 n' σ25 zp25 => ?_)
    obtain ⟨zn25, zp25⟩ := zp25
    have zn25 := zn25.symm
    subst zn25
    rcases zp25 with ⟨zb25, zv25, zs25⟩ | ⟨zb25, zv25, zs25⟩
    · subst zv25; have zs25 := zs25.symm; subst zs25
      refine y_if_ne (pc := 28) hF dX11_paint_28 33 rfl (by decide) (fun _ => ?_) (fun zc28 => absurd zc28 (by decide))
      simp at zb25
      have zi := sIn_iff.mp zb8
      refine y_aload_n (pc := 33) hF dX11_paint_33 0 rfl ?_
      refine y_iconst (pc := 34) hF dX11_paint_34 ?_
      refine y_iload_n (pc := 35) hF dX11_paint_35 1 rfl ?_
      refine y_iload_n (pc := 36) hF dX11_paint_36 2 rfl ?_
      have zz37 := y_rV (pc := 37) hF (tX11_toneOf (n := n) (σ := σ0) 0 w h T S F P O hn (by omega) zA_σ0 x y zb8) dX11_paint_37 (by omega) rfl rfl rfl w_1472 qX11_toneOf rfl ⟨Nat.le_of_ble_eq_true rfl, Nat.le_of_ble_eq_true rfl⟩ ⟨Nat.zero_le _, Nat.zero_le _⟩ (Nat.le_of_ble_eq_true rfl) rfl (rest := []) (cells := 0) (slots := 0) (lv := [(0, yR g 155), (1, yI x), (2, yI y), (3, yI e_)])
      refine y_cp (zz37) ?_
      refine y_istore (pc := 40) (lv' := [(0, yR g 155), (1, yI x), (2, yI y), (3, yI e_), (4, yI (T x y))]) hF dX11_paint_40 (by decide) rfl rfl ?_
      refine y_aload_n (pc := 42) hF dX11_paint_42 0 rfl ?_
      refine y_cv (y_rV (pc := 43) hF (tX11_keeps hn (H.length : Int) zH_σ0.1 hdl) dX11_paint_43 (by omega) rfl rfl rfl w_1460 qX11_keeps rfl ⟨Nat.le_of_ble_eq_true rfl, Nat.le_of_ble_eq_true rfl⟩ ⟨Nat.zero_le _, Nat.zero_le _⟩ (Nat.le_of_ble_eq_true rfl) rfl) rfl rfl (fun n' σ43 zp43 => ?_)
      obtain ⟨zn43, zp43⟩ := zp43
      have zn43 := zn43.symm
      subst zn43
      have zk43 : kpR σ0 σ43 (H.length : Int) := ⟨zp43.1, zp43.2.1⟩
      have zA_σ43 : rM σ43 0 w h T S F P O := zA_σ0.fr (zk43.c (by omega) (by omega)) (zk43.c (by omega) (by omega)) (fun i _ _ => by rw [zk43.c (by omega) (by omega)])
      refine y_aload_n (pc := 46) hF dX11_paint_46 0 rfl ?_
      refine y_iconst (pc := 47) hF dX11_paint_47 ?_
      refine y_iload_n (pc := 48) hF dX11_paint_48 1 rfl ?_
      refine y_iload_n (pc := 49) hF dX11_paint_49 2 rfl ?_
      have zz50 := y_rS (pc := 50) (As := [yI x, yI y]) (kk := 0) hF (tX11_at (n := n) (σ := σ43) x y) dX11_paint_50 w_1236 qX11_at rfl ⟨Nat.le_of_ble_eq_true rfl, Nat.le_of_ble_eq_true rfl⟩ ⟨Nat.zero_le _, Nat.zero_le _⟩ (Nat.le_of_ble_eq_true rfl) rfl (rest := [yI 0, yR g 155]) (cells := 0) (slots := 0) (lv := [(0, yR g 155), (1, yI x), (2, yI y), (3, yI e_), (4, yI (T x y))])
      refine y_cp (zz50) ?_
      refine y_iload_n (pc := 53) hF dX11_paint_53 3 rfl ?_
      refine y_cv (y_rV (pc := 54) hF (tX11_known 0 hn (by omega) (20 * y + x) e_ (by omega)) dX11_paint_54 (by omega) rfl rfl rfl w_1239 qX11_known rfl ⟨Nat.le_of_ble_eq_true rfl, Nat.le_of_ble_eq_true rfl⟩ ⟨Nat.zero_le _, Nat.zero_le _⟩ (Nat.le_of_ble_eq_true rfl) rfl) rfl rfl (fun n' σ' zp54 => ?_)
      obtain ⟨zn54, rfl⟩ := zp54
      have zn54 := zn54.symm
      subst zn54
      obtain ⟨τ9, hτ9⟩ : ∃ s, s = mkn σ43 0 (20 * y + x) e_ := ⟨_, rfl⟩
      rw [← hτ9]
      have zg : τ9 = mgv σ43 0 (20 * y + x) e_ := by rw [hτ9]; unfold mgv; rw [if_neg (by omega)]
      have zr := rM_give (t := e_) zA_σ43 zb8 (by omega)
      rw [← zg] at zr
      have ze : ∀ c : Nat, c ≠ 158 → τ9 c = σ43 c := fun c hc => by rw [hτ9]; exact mkn_c (by omega)
      have zl : rL τ9 0 nf df nl lg := zL_σ0.hi (fun j a => by rw [hτ9, mkn_h (by omega) a, zk43.c (by omega) (by omega)])
      refine y_iload (pc := 57) hF dX11_paint_57 4 rfl ?_
      exact y_iret (pc := 59) hF dX11_paint_59 (Nat.zero_le _) (Nat.zero_le _) ⟨_, rfl, Nat.le_refl _, Or.inl ⟨zb8, (by omega), rfl, (mO_gen zO_σ0 (fun c hc => by rw [ze c (by omega), zk43.c (by omega) (by omega)]) (by rw [ze 155 (by omega), zk43.j (by omega)]) ⟨zr, zl⟩ (by rw [ze 166 (by omega), zk43.c (by omega) (by omega)]) (mH_kp zH_σ0 zk43 (rX.b (X := (T, S, F, P, O, nf, df, nl, lg)) ⟨zA_σ0, zL_σ0⟩) zp43.2.2 (by rw [ze 155 (by omega)]) (ze 164 (by omega))) ⟨by rw [ze 155 (by omega), zk43.j (by omega)]; exact zb1_σ0, fun q a b a1 a2 b1 b2 => by rw [ze 165 (by omega), zk43.c (by omega) (by omega)]; exact zb2_σ0 q a b a1 a2 b1 b2⟩ (by rw [ze 155 (by omega), zk43.j (by omega)]) (by rw [ze 167 (by omega), zk43.c (by omega) (by omega)]) (by rw [ze 155 (by omega), zk43.j (by omega)]) (by rw [ze 156 (by omega), zk43.c (by omega) (by omega)]))⟩⟩
    · subst zv25; subst zs25
      refine y_if_ne (pc := 28) hF dX11_paint_28 33 rfl (by decide) (fun zc28 => absurd zc28 (by decide)) (fun _ => ?_)
      refine y_iconst (pc := 31) hF dX11_paint_31 ?_
      exact y_iret (pc := 32) hF dX11_paint_32 (Nat.zero_le _) (Nat.zero_le _) ⟨_, rfl, Nat.le_refl _, Or.inr (Or.inr ⟨zb8, (fun ze => by simp at zb25; omega), zO_σ0.bA 2⟩)⟩
  · subst zv8; subst zs8
    refine y_if_eq (pc := 11) hF dX11_paint_11 31 rfl (by decide) (fun _ => ?_) (fun zc11 => absurd zc11 (by decide))
    refine y_iconst (pc := 31) hF dX11_paint_31 ?_
    exact y_iret (pc := 32) hF dX11_paint_32 (Nat.zero_le _) (Nat.zero_le _) ⟨_, rfl, Nat.le_refl _, Or.inr (Or.inl ⟨(by rw [zb8]; decide), zO_σ0.bN 1⟩)⟩

theorem dX11_keep_0 : decode cX11_keep 0 = .ok (.aload_n 0, 1) := by decide +kernel
theorem dX11_keep_1 : decode cX11_keep 1 = .ok (.iconst 0, 1) := by decide +kernel
theorem dX11_keep_2 : decode cX11_keep 2 = .ok (.putfield 1, 3) := by decide +kernel
theorem dX11_keep_5 : decode cX11_keep 5 = .ok (.aload_n 0, 1) := by decide +kernel
theorem dX11_keep_6 : decode cX11_keep 6 = .ok (.iconst 1, 1) := by decide +kernel
theorem dX11_keep_7 : decode cX11_keep 7 = .ok (.putfield 297, 3) := by decide +kernel
theorem dX11_keep_10 : decode cX11_keep 10 = .ok (.iconst 0, 1) := by decide +kernel
theorem dX11_keep_11 : decode cX11_keep 11 = .ok (.istore_n 1, 1) := by decide +kernel
theorem dX11_keep_12 : decode cX11_keep 12 = .ok (.iload_n 1, 1) := by decide +kernel
theorem dX11_keep_13 : decode cX11_keep 13 = .ok (.sipush 400, 3) := by decide +kernel
theorem dX11_keep_16 : decode cX11_keep 16 = .ok (.if_icmp .ge 25, 3) := by decide +kernel
theorem dX11_keep_19 : decode cX11_keep 19 = .ok (.aload_n 0, 1) := by decide +kernel
theorem dX11_keep_20 : decode cX11_keep 20 = .ok (.getfield 34, 3) := by decide +kernel
theorem dX11_keep_23 : decode cX11_keep 23 = .ok (.iload_n 1, 1) := by decide +kernel
theorem dX11_keep_24 : decode cX11_keep 24 = .ok (.aload_n 0, 1) := by decide +kernel
theorem dX11_keep_25 : decode cX11_keep 25 = .ok (.getfield 19, 3) := by decide +kernel
theorem dX11_keep_28 : decode cX11_keep 28 = .ok (.iconst 0, 1) := by decide +kernel
theorem dX11_keep_29 : decode cX11_keep 29 = .ok (.aaload, 1) := by decide +kernel
theorem dX11_keep_30 : decode cX11_keep 30 = .ok (.iconst 0, 1) := by decide +kernel
theorem dX11_keep_31 : decode cX11_keep 31 = .ok (.iload_n 1, 1) := by decide +kernel
theorem dX11_keep_32 : decode cX11_keep 32 = .ok (.iadd, 1) := by decide +kernel
theorem dX11_keep_33 : decode cX11_keep 33 = .ok (.iaload, 1) := by decide +kernel
theorem dX11_keep_34 : decode cX11_keep 34 = .ok (.iastore, 1) := by decide +kernel
theorem dX11_keep_35 : decode cX11_keep 35 = .ok (.iinc 1 1, 3) := by decide +kernel
theorem dX11_keep_38 : decode cX11_keep 38 = .ok (.goto (-26), 3) := by decide +kernel
theorem dX11_keep_41 : decode cX11_keep 41 = .ok (.aload_n 0, 1) := by decide +kernel
theorem dX11_keep_42 : decode cX11_keep 42 = .ok (.invokevirtual 311, 3) := by decide +kernel
theorem dX11_keep_45 : decode cX11_keep 45 = .ok (.ireturn, 1) := by decide +kernel
set_option maxHeartbeats 4000000 in
set_option maxRecDepth 100000 in
theorem tX11_keep {l : Launch} {g : yG} {n : Nat} {σ : yM} (hn : 172 ≤ n) (w h : Int) (T S F P O : Int → Int → Int) (nf df nl : Int) (lg : Int → Int → Int) (s re fo ra tu we sh : Int) (H : List aX) (ht : Bool) (K : Int → Int → Int) (tl : Int) (tb : Int → Int) (fa r1 r2 N : Int) (hV : mV σ (w, h, (T, S, F, P, O, nf, df, nl, lg), (s, re, fo, ra, tu, we, sh), H, ht, K, tl, tb, fa, r1, r2)) (hW : aW N (w, h, (T, S, F, P, O, nf, df, nl, lg), (s, re, fo, ra, tu, we, sh), H, ht, K, tl, tb, fa, r1, r2))  : yMet l g yX11_keep cX11_keep 2 (some .int) (rmL 5) [yR g 155] (SC g) n σ (SC g) (yPi (fun zv n' σ' => n ≤ n' ∧ (zv = w * h - nMi w h T ∧ mO σ σ' (w, h, (T, S, F, P, O, nf, df, nl, lg), (s, re, fo, ra, tu, we, sh), H, true, T, tl, tb, fa, r1, r2) 0))) := by
  obtain ⟨⟨hA, hL⟩, hS, hH, ⟨hb1, hb2⟩, ⟨ht1, ht2⟩, hfa, hr1, hr2⟩ := id hV
  obtain ⟨hw1, hw2, hw3, hw4⟩ := id hA.1.1
  obtain ⟨hs1, hs2, hs3, hs4, hs5, hs6, hs7⟩ := id hS.2
  have hz : (0 : Nat) < 3 := by omega
  have zkc := sKn_cnt (T := T) (w := w) (h := h) (by omega) (by omega)
  refine y_start (by decide) (Nat.le_of_ble_eq_true rfl) (fun X0 hF => ?_)
  show yV X0 g 2 (yQ X0 g (SC g) (yPi (fun zv n' σ' => n ≤ n' ∧ (zv = w * h - nMi w h T ∧ mO σ σ' (w, h, (T, S, F, P, O, nf, df, nl, lg), (s, re, fo, ra, tu, we, sh), H, true, T, tl, tb, fa, r1, r2) 0))) (rmL 5)) (SC g) n σ 0 0 0 [(0, yR g 155)] []
  refine y_aload_n (pc := 0) hF dX11_keep_0 0 rfl ?_
  refine y_iconst (pc := 1) hF dX11_keep_1 ?_
  refine y_putf (pc := 2) (ci := 11) (σ' := yset σ 155 0 0) (sch' := (SC g)) hF dX11_keep_2 (by omega) rfl rfl rfl iX11 0 (by decide) w_1247 tyX11 tyX11_ok nmX11 rfl rfl rfl rfl (Nat.le_of_ble_eq_true rfl) rfl (y_ps rfl) (fun k' h => ⟨yset_n h, rfl⟩) ?_
  obtain ⟨σ0, hσ0⟩ : ∃ s, s = yset σ 155 0 0 := ⟨_, rfl⟩
  rw [← hσ0]
  have zO_σ0 := hV.t0 hσ0
  obtain ⟨⟨zA_σ0, zL_σ0⟩, zS_σ0, zH_σ0, ⟨zb1_σ0, zb2_σ0⟩, ⟨zt1_σ0, zt2_σ0⟩, zfa_σ0, zr1_σ0, zr2_σ0⟩ := id zO_σ0.2.2
  refine y_aload_n (pc := 5) hF dX11_keep_5 0 rfl ?_
  refine y_iconst (pc := 6) hF dX11_keep_6 ?_
  refine y_putf (pc := 7) (ci := 11) (σ' := yset σ0 155 9 1) (sch' := (SC g)) hF dX11_keep_7 (by omega) rfl rfl rfl iX11 9 (by decide) w_1256 tyX11 tyX11_ok nmX11 rfl rfl rfl rfl (Nat.le_of_ble_eq_true rfl) rfl (y_ps rfl) (fun k' h => ⟨yset_n h, rfl⟩) ?_
  obtain ⟨τ1, hτ1⟩ : ∃ s, s = yset σ0 155 9 1 := ⟨_, rfl⟩
  rw [← hτ1]
  refine y_iconst (pc := 10) hF dX11_keep_10 ?_
  refine y_istore_n (pc := 11) (lv' := [(0, yR g 155), (1, yI 0)]) hF dX11_keep_11 (by decide) rfl rfl ?_
  have zL12 : ∀ (N : Nat) (τ : yM) (i : Int), N = (400 - i).toNat → ((∀ c : Nat, c ≠ 165 → τ c = τ1 c) ∧ (0 ≤ i ∧ i ≤ 400) ∧ ∀ j : Int, 0 ≤ j → j < i → τ 165 j = σ0 158 j) → yV X0 g 2 (yQ X0 g (SC g) (yPi (fun zv n' σ' => n ≤ n' ∧ (zv = w * h - nMi w h T ∧ mO σ σ' (w, h, (T, S, F, P, O, nf, df, nl, lg), (s, re, fo, ra, tu, we, sh), H, true, T, tl, tb, fa, r1, r2) 0))) (rmL 5)) (SC g) n τ 0 0 12 [(0, yR g 155), (1, yI i)] [] := by
    intro N
    induction N using Nat.strongRecOn with
    | ind N zh12 =>
      intro τ  i  zN12 zI12
      refine y_iload_n (pc := 12) hF dX11_keep_12 1 rfl ?_
      refine y_sipush (pc := 13) hF dX11_keep_13 (by decide) ?_
      refine y_icmp_ge (pc := 16) hF dX11_keep_16 41 rfl (by omega) (by omega) (fun zc16 => ?_) (fun zc16 => ?_)
      · skip
        have ze : ∀ c : Nat, c ≠ 165 → c ≠ 155 → τ c = σ0 c := fun c a b => by rw [zI12.1 c a, hτ1, yset_n b]
        have z5 : ∀ j : Int, j ≠ 9 → τ 155 j = σ0 155 j := fun j a => by rw [zI12.1 155 (by omega), hτ1, yset_o (by omega)]
        have zA_τ : rM τ 0 w h T S F P O := zA_σ0.fr (ze _ (by omega) (by omega)) (ze _ (by omega) (by omega)) (fun i _ _ => by rw [ze _ (by omega) (by omega)])
        refine y_aload_n (pc := 41) hF dX11_keep_41 0 rfl ?_
        have zz42 := y_rV (pc := 42) hF (tX11_knownMany (n := n) (σ := τ) w h T S F P O hn zA_τ) dX11_keep_42 (by omega) rfl rfl rfl w_1436 qX11_knownMany rfl ⟨Nat.le_of_ble_eq_true rfl, Nat.le_of_ble_eq_true rfl⟩ ⟨Nat.zero_le _, Nat.zero_le _⟩ (Nat.le_of_ble_eq_true rfl) rfl (rest := []) (cells := 0) (slots := 0) (lv := [(0, yR g 155), (1, yI i)])
        refine y_cp (zz42) ?_
        exact y_iret (pc := 45) hF dX11_keep_45 (Nat.zero_le _) (Nat.zero_le _) ⟨_, rfl, Nat.le_refl _, by omega, mO_gen zO_σ0 (fun c hc => ze c (by omega) (by omega)) (z5 0 (by omega)) ⟨zA_τ, zL_σ0.hi (fun j _ => by rw [ze 158 (by omega) (by omega)])⟩ (ze 166 (by omega) (by omega)) (zH_σ0.fr (z5 8 (by omega)) (ze 164 (by omega) (by omega))) ⟨by rw [zI12.1 155 (by omega), hτ1, yset_e]; rfl, fun _ a b a1 a2 b1 b2 => by rw [zI12.2.2 _ (by omega) (by omega)]; exact (zA_σ0.2.2.2 a b a1 a2 b1 b2).1⟩ (z5 29 (by omega)) (ze 167 (by omega) (by omega)) (z5 30 (by omega)) (ze 156 (by omega) (by omega))⟩
      · skip
        refine y_aload_n (pc := 19) hF dX11_keep_19 0 rfl ?_
        refine y_get (pc := 20) (ci := 11) hF dX11_keep_20 (by omega) rfl rfl rfl iX11 7 (by decide) w_1254 rfl ?_
        refine y_iload_n (pc := 23) hF dX11_keep_23 1 rfl ?_
        refine y_aload_n (pc := 24) hF dX11_keep_24 0 rfl ?_
        refine y_get (pc := 25) (ci := 11) hF dX11_keep_25 (by omega) rfl rfl rfl iX11 2 (by decide) w_1249 rfl ?_
        refine y_iconst (pc := 28) hF dX11_keep_28 ?_
        refine y_aaM0 (pc := 29) hF dX11_keep_29 hn rfl ?_
        refine y_iconst (pc := 30) hF dX11_keep_30 ?_
        refine y_iload_n (pc := 31) hF dX11_keep_31 1 rfl ?_
        refine y_iadd (pc := 32) hF dX11_keep_32 ?_
        rw [show 0 + i = i from (Int.zero_add _)]
        refine y_iaload (pc := 33) hF dX11_keep_33 (by omega) rfl (by omega) (by decide) ?_
        refine y_iastore (pc := 34) hF dX11_keep_34 (by omega) rfl (by omega) (by decide) ?_
        refine y_iinc (pc := 35) (lv' := [(0, yR g 155), (1, yI (i + 1))]) hF dX11_keep_35 1 rfl (by decide) rfl rfl ?_
        refine y_goto (pc := 38) hF dX11_keep_38 12 rfl ?_
        exact zh12 _ (by omega) (yset τ 165 i (τ 158 i)) (i + 1) rfl ⟨fun c hc => by rw [yset_n hc]; exact zI12.1 c hc, by omega, fun j h0 h1 => by { rcases Decidable.em (j = i) with e | e; (rw [e, yset_e, zI12.1 158 (by omega), hτ1, yset_n (by omega)]); (rw [yset_o (by omega)]; exact zI12.2.2 j h0 (by omega)) }⟩
  exact zL12 _ τ1 (0) rfl ⟨fun c _ => rfl, by omega, fun j a b => by omega⟩

theorem dX11_undo_0 : decode cX11_undo 0 = .ok (.aload_n 0, 1) := by decide +kernel
theorem dX11_undo_1 : decode cX11_undo 1 = .ok (.iconst 0, 1) := by decide +kernel
theorem dX11_undo_2 : decode cX11_undo 2 = .ok (.putfield 1, 3) := by decide +kernel
theorem dX11_undo_5 : decode cX11_undo 5 = .ok (.aload_n 0, 1) := by decide +kernel
theorem dX11_undo_6 : decode cX11_undo 6 = .ok (.getfield 301, 3) := by decide +kernel
theorem dX11_undo_9 : decode cX11_undo 9 = .ok (.ifCond .ne 5, 3) := by decide +kernel
theorem dX11_undo_12 : decode cX11_undo 12 = .ok (.iconst (-1), 1) := by decide +kernel
theorem dX11_undo_13 : decode cX11_undo 13 = .ok (.ireturn, 1) := by decide +kernel
theorem dX11_undo_14 : decode cX11_undo 14 = .ok (.aload_n 0, 1) := by decide +kernel
theorem dX11_undo_15 : decode cX11_undo 15 = .ok (.dup, 1) := by decide +kernel
theorem dX11_undo_16 : decode cX11_undo 16 = .ok (.getfield 301, 3) := by decide +kernel
theorem dX11_undo_19 : decode cX11_undo 19 = .ok (.iconst 1, 1) := by decide +kernel
theorem dX11_undo_20 : decode cX11_undo 20 = .ok (.isub, 1) := by decide +kernel
theorem dX11_undo_21 : decode cX11_undo 21 = .ok (.putfield 301, 3) := by decide +kernel
theorem dX11_undo_24 : decode cX11_undo 24 = .ok (.iconst 0, 1) := by decide +kernel
theorem dX11_undo_25 : decode cX11_undo 25 = .ok (.istore_n 1, 1) := by decide +kernel
theorem dX11_undo_26 : decode cX11_undo 26 = .ok (.iload_n 1, 1) := by decide +kernel
theorem dX11_undo_27 : decode cX11_undo 27 = .ok (.sipush 2273, 3) := by decide +kernel
theorem dX11_undo_30 : decode cX11_undo 30 = .ok (.if_icmp .ge 32, 3) := by decide +kernel
theorem dX11_undo_33 : decode cX11_undo 33 = .ok (.aload_n 0, 1) := by decide +kernel
theorem dX11_undo_34 : decode cX11_undo 34 = .ok (.getfield 19, 3) := by decide +kernel
theorem dX11_undo_37 : decode cX11_undo 37 = .ok (.iconst 0, 1) := by decide +kernel
theorem dX11_undo_38 : decode cX11_undo 38 = .ok (.aaload, 1) := by decide +kernel
theorem dX11_undo_39 : decode cX11_undo 39 = .ok (.iload_n 1, 1) := by decide +kernel
theorem dX11_undo_40 : decode cX11_undo 40 = .ok (.aload_n 0, 1) := by decide +kernel
theorem dX11_undo_41 : decode cX11_undo 41 = .ok (.getfield 31, 3) := by decide +kernel
theorem dX11_undo_44 : decode cX11_undo 44 = .ok (.sipush 2273, 3) := by decide +kernel
theorem dX11_undo_47 : decode cX11_undo 47 = .ok (.aload_n 0, 1) := by decide +kernel
theorem dX11_undo_48 : decode cX11_undo 48 = .ok (.getfield 301, 3) := by decide +kernel
theorem dX11_undo_51 : decode cX11_undo 51 = .ok (.imul, 1) := by decide +kernel
theorem dX11_undo_52 : decode cX11_undo 52 = .ok (.iload_n 1, 1) := by decide +kernel
theorem dX11_undo_53 : decode cX11_undo 53 = .ok (.iadd, 1) := by decide +kernel
theorem dX11_undo_54 : decode cX11_undo 54 = .ok (.iaload, 1) := by decide +kernel
theorem dX11_undo_55 : decode cX11_undo 55 = .ok (.iastore, 1) := by decide +kernel
theorem dX11_undo_56 : decode cX11_undo 56 = .ok (.iinc 1 1, 3) := by decide +kernel
theorem dX11_undo_59 : decode cX11_undo 59 = .ok (.goto (-33), 3) := by decide +kernel
theorem dX11_undo_62 : decode cX11_undo 62 = .ok (.aload_n 0, 1) := by decide +kernel
theorem dX11_undo_63 : decode cX11_undo 63 = .ok (.invokevirtual 294, 3) := by decide +kernel
theorem dX11_undo_66 : decode cX11_undo 66 = .ok (.ireturn, 1) := by decide +kernel
set_option maxHeartbeats 4000000 in
set_option maxRecDepth 100000 in
theorem tX11_undo {l : Launch} {g : yG} {n : Nat} {σ : yM} (hn : 172 ≤ n) (w h : Int) (T S F P O : Int → Int → Int) (nf df nl : Int) (lg : Int → Int → Int) (s re fo ra tu we sh : Int) (H : List aX) (ht : Bool) (K : Int → Int → Int) (tl : Int) (tb : Int → Int) (fa r1 r2 N : Int) (hV : mV σ (w, h, (T, S, F, P, O, nf, df, nl, lg), (s, re, fo, ra, tu, we, sh), H, ht, K, tl, tb, fa, r1, r2)) (hW : aW N (w, h, (T, S, F, P, O, nf, df, nl, lg), (s, re, fo, ra, tu, we, sh), H, ht, K, tl, tb, fa, r1, r2))  : yMet l g yX11_undo cX11_undo 2 (some .int) (rmL 6) [yR g 155] (SC g) n σ (SC g) (yPi (fun zv n' σ' => n ≤ n' ∧ (zv = (if (H.length : Int) = 0 then -1 else nMi w h (hdX (T, S, F, P, O, nf, df, nl, lg) H).1) ∧ mO σ σ' (if (H.length : Int) = 0 then (w, h, (T, S, F, P, O, nf, df, nl, lg), (s, re, fo, ra, tu, we, sh), H, ht, K, tl, tb, fa, r1, r2) else (w, h, (hdX (T, S, F, P, O, nf, df, nl, lg) H), (s, re, fo, ra, tu, we, sh), H.tail, ht, K, tl, tb, fa, r1, r2)) 0))) := by
  obtain ⟨⟨hA, hL⟩, hS, hH, ⟨hb1, hb2⟩, ⟨ht1, ht2⟩, hfa, hr1, hr2⟩ := id hV
  obtain ⟨hw1, hw2, hw3, hw4⟩ := id hA.1.1
  obtain ⟨hs1, hs2, hs3, hs4, hs5, hs6, hs7⟩ := id hS.2
  have hz : (0 : Nat) < 3 := by omega
  have hdl : 0 ≤ (H.length : Int) ∧ (H.length : Int) ≤ 10 := by have := hH.2.1; omega
  refine y_start (by decide) (Nat.le_of_ble_eq_true rfl) (fun X0 hF => ?_)
  show yV X0 g 2 (yQ X0 g (SC g) (yPi (fun zv n' σ' => n ≤ n' ∧ (zv = (if (H.length : Int) = 0 then -1 else nMi w h (hdX (T, S, F, P, O, nf, df, nl, lg) H).1) ∧ mO σ σ' (if (H.length : Int) = 0 then (w, h, (T, S, F, P, O, nf, df, nl, lg), (s, re, fo, ra, tu, we, sh), H, ht, K, tl, tb, fa, r1, r2) else (w, h, (hdX (T, S, F, P, O, nf, df, nl, lg) H), (s, re, fo, ra, tu, we, sh), H.tail, ht, K, tl, tb, fa, r1, r2)) 0))) (rmL 6)) (SC g) n σ 0 0 0 [(0, yR g 155)] []
  refine y_aload_n (pc := 0) hF dX11_undo_0 0 rfl ?_
  refine y_iconst (pc := 1) hF dX11_undo_1 ?_
  refine y_putf (pc := 2) (ci := 11) (σ' := yset σ 155 0 0) (sch' := (SC g)) hF dX11_undo_2 (by omega) rfl rfl rfl iX11 0 (by decide) w_1247 tyX11 tyX11_ok nmX11 rfl rfl rfl rfl (Nat.le_of_ble_eq_true rfl) rfl (y_ps rfl) (fun k' h => ⟨yset_n h, rfl⟩) ?_
  obtain ⟨σ0, hσ0⟩ : ∃ s, s = yset σ 155 0 0 := ⟨_, rfl⟩
  rw [← hσ0]
  have zO_σ0 := hV.t0 hσ0
  obtain ⟨⟨zA_σ0, zL_σ0⟩, zS_σ0, zH_σ0, ⟨zb1_σ0, zb2_σ0⟩, ⟨zt1_σ0, zt2_σ0⟩, zfa_σ0, zr1_σ0, zr2_σ0⟩ := id zO_σ0.2.2
  refine y_aload_n (pc := 5) hF dX11_undo_5 0 rfl ?_
  refine y_get (pc := 6) (ci := 11) hF dX11_undo_6 (by omega) rfl rfl rfl iX11 8 (by decide) w_1255 rfl ?_
  rw [show σ0 155 8 = (H.length : Int) from zH_σ0.1]
  refine y_if_ne (pc := 9) hF dX11_undo_9 14 rfl (by omega) (fun zc9 => ?_) (fun zc9 => ?_)
  · skip
    refine y_aload_n (pc := 14) hF dX11_undo_14 0 rfl ?_
    refine y_dup (pc := 15) hF dX11_undo_15 rfl ?_
    refine y_get (pc := 16) (ci := 11) hF dX11_undo_16 (by omega) rfl rfl rfl iX11 8 (by decide) w_1255 rfl ?_
    rw [show σ0 155 8 = (H.length : Int) from zH_σ0.1]
    refine y_iconst (pc := 19) hF dX11_undo_19 ?_
    refine y_isub (pc := 20) hF dX11_undo_20 ?_
    refine y_putf (pc := 21) (ci := 11) (σ' := yset σ0 155 8 ((H.length : Int) - 1)) (sch' := (SC g)) hF dX11_undo_21 (by omega) rfl rfl rfl iX11 8 (by decide) w_1255 tyX11 tyX11_ok nmX11 rfl rfl rfl rfl (Nat.le_of_ble_eq_true rfl) rfl (y_ps rfl) (fun k' h => ⟨yset_n h, rfl⟩) ?_
    obtain ⟨τ1, hτ1⟩ : ∃ s, s = yset σ0 155 8 ((H.length : Int) - 1) := ⟨_, rfl⟩
    rw [← hτ1]
    refine y_iconst (pc := 24) hF dX11_undo_24 ?_
    refine y_istore_n (pc := 25) (lv' := [(0, yR g 155), (1, yI 0)]) hF dX11_undo_25 (by decide) rfl rfl ?_
    have zL26 : ∀ (N : Nat) (τ : yM) (i : Int), N = (2273 - i).toNat → ((∀ c : Nat, c ≠ 158 → τ c = τ1 c) ∧ (0 ≤ i ∧ i ≤ 2273) ∧ ∀ j : Int, 0 ≤ j → j < i → τ 158 j = σ0 164 (2273 * ((H.length : Int) - 1) + j)) → yV X0 g 2 (yQ X0 g (SC g) (yPi (fun zv n' σ' => n ≤ n' ∧ (zv = (if (H.length : Int) = 0 then -1 else nMi w h (hdX (T, S, F, P, O, nf, df, nl, lg) H).1) ∧ mO σ σ' (if (H.length : Int) = 0 then (w, h, (T, S, F, P, O, nf, df, nl, lg), (s, re, fo, ra, tu, we, sh), H, ht, K, tl, tb, fa, r1, r2) else (w, h, (hdX (T, S, F, P, O, nf, df, nl, lg) H), (s, re, fo, ra, tu, we, sh), H.tail, ht, K, tl, tb, fa, r1, r2)) 0))) (rmL 6)) (SC g) n τ 0 0 26 [(0, yR g 155), (1, yI i)] [] := by
      intro N
      induction N using Nat.strongRecOn with
      | ind N zh26 =>
        intro τ  i  zN26 zI26
        refine y_iload_n (pc := 26) hF dX11_undo_26 1 rfl ?_
        refine y_sipush (pc := 27) hF dX11_undo_27 (by decide) ?_
        refine y_icmp_ge (pc := 30) hF dX11_undo_30 62 rfl (by omega) (by omega) (fun zc30 => ?_) (fun zc30 => ?_)
        · skip
          have ze : ∀ c : Nat, c ≠ 158 → c ≠ 155 → τ c = σ0 c := fun c a b => by rw [zI26.1 c a, hτ1, yset_n b]
          have z5 : ∀ j : Int, j ≠ 8 → τ 155 j = σ0 155 j := fun j a => by rw [zI26.1 155 (by omega), hτ1, yset_o (by omega)]
          have zhl : 0 < (H.length : Int) := by omega
          have zX : rX τ 0 w h (hdX (T, S, F, P, O, nf, df, nl, lg) H) := ((mH.head (X := (T, S, F, P, O, nf, df, nl, lg)) zH_σ0 zhl).cp (σ' := τ) (c' := 158) (o' := 0) (fun j a b => by rw [Int.zero_add]; exact zI26.2.2 j a (by omega))).x (by rw [ze 161 (by omega) (by omega)]; exact zA_σ0.2.1) (by rw [ze 162 (by omega) (by omega)]; exact zA_σ0.2.2.1)
          obtain ⟨X1, hX1⟩ : ∃ q, q = (hdX (T, S, F, P, O, nf, df, nl, lg) H) := ⟨_, rfl⟩
          rw [← hX1] at zX
          obtain ⟨T1, S1, F1, P1, O1, nf1, df1, nl1, lg1⟩ := X1
          have zkc := sKn_cnt (T := T1) (w := w) (h := h) (by omega) (by omega)
          refine y_aload_n (pc := 62) hF dX11_undo_62 0 rfl ?_
          have zz63 := y_rV (pc := 63) hF (tX11_missingMany (n := n) (σ := τ) w h T1 S1 F1 P1 O1 hn zX.1) dX11_undo_63 (by omega) rfl rfl rfl w_1432 qX11_missingMany rfl ⟨Nat.le_of_ble_eq_true rfl, Nat.le_of_ble_eq_true rfl⟩ ⟨Nat.zero_le _, Nat.zero_le _⟩ (Nat.le_of_ble_eq_true rfl) rfl (rest := []) (cells := 0) (slots := 0) (lv := [(0, yR g 155), (1, yI i)])
          refine y_cp (zz63) ?_
          exact y_iret (pc := 66) hF dX11_undo_66 (Nat.zero_le _) (Nat.zero_le _) ⟨_, rfl, Nat.le_refl _, by rw [if_neg zc9, ← hX1]; show _ = nMi w h T1; omega, by rw [if_neg zc9, ← hX1]; exact mO_gen zO_σ0 (fun c hc => ze c (by omega) (by omega)) (z5 0 (by omega)) zX (ze 166 (by omega) (by omega)) (zH_σ0.pop zhl (by rw [zI26.1 155 (by omega), hτ1, yset_e]) (ze 164 (by omega) (by omega))) ⟨(z5 9 (by omega)).trans zb1_σ0, fun q a b a1 a2 b1 b2 => by rw [ze 165 (by omega) (by omega)]; exact zb2_σ0 q a b a1 a2 b1 b2⟩ (z5 29 (by omega)) (ze 167 (by omega) (by omega)) (z5 30 (by omega)) (ze 156 (by omega) (by omega))⟩
        · skip
          have zu : τ 155 8 = (H.length : Int) - 1 := by rw [zI26.1 155 (by omega), hτ1, yset_e]
          refine y_aload_n (pc := 33) hF dX11_undo_33 0 rfl ?_
          refine y_get (pc := 34) (ci := 11) hF dX11_undo_34 (by omega) rfl rfl rfl iX11 2 (by decide) w_1249 rfl ?_
          refine y_iconst (pc := 37) hF dX11_undo_37 ?_
          refine y_aaM0 (pc := 38) hF dX11_undo_38 hn rfl ?_
          refine y_iload_n (pc := 39) hF dX11_undo_39 1 rfl ?_
          refine y_aload_n (pc := 40) hF dX11_undo_40 0 rfl ?_
          refine y_get (pc := 41) (ci := 11) hF dX11_undo_41 (by omega) rfl rfl rfl iX11 6 (by decide) w_1253 rfl ?_
          refine y_sipush (pc := 44) hF dX11_undo_44 (by decide) ?_
          refine y_aload_n (pc := 47) hF dX11_undo_47 0 rfl ?_
          refine y_get (pc := 48) (ci := 11) hF dX11_undo_48 (by omega) rfl rfl rfl iX11 8 (by decide) w_1255 rfl ?_
          rw [show τ 155 8 = (H.length : Int) - 1 from zu]
          refine y_imul (pc := 51) hF dX11_undo_51 ?_
          refine y_iload_n (pc := 52) hF dX11_undo_52 1 rfl ?_
          refine y_iadd (pc := 53) hF dX11_undo_53 ?_
          refine y_iaload (pc := 54) hF dX11_undo_54 (by omega) rfl ⟨by omega, by show _ < (22730 : Int); omega⟩ (by decide) ?_
          refine y_iastore (pc := 55) hF dX11_undo_55 (by omega) rfl (by omega) (by decide) ?_
          refine y_iinc (pc := 56) (lv' := [(0, yR g 155), (1, yI (i + 1))]) hF dX11_undo_56 1 rfl (by decide) rfl rfl ?_
          refine y_goto (pc := 59) hF dX11_undo_59 26 rfl ?_
          exact zh26 _ (by omega) (yset τ 158 i (τ 164 ((2273 * ((H.length : Int) - 1)) + i))) (i + 1) rfl ⟨fun c hc => by rw [yset_n hc]; exact zI26.1 c hc, by omega, fun j h0 h1 => by { rcases Decidable.em (j = i) with e | e; (rw [e, yset_e, zI26.1 164 (by omega), hτ1, yset_n (by omega)]); (rw [yset_o (by omega)]; exact zI26.2.2 j h0 (by omega)) }⟩
    exact zL26 _ τ1 (0) rfl ⟨fun c _ => rfl, by omega, fun j a b => by omega⟩
  · skip
    refine y_iconst (pc := 12) hF dX11_undo_12 ?_
    exact y_iret (pc := 13) hF dX11_undo_13 (Nat.zero_le _) (Nat.zero_le _) ⟨_, rfl, Nat.le_refl _, by rw [if_pos zc9], by rw [if_pos zc9]; exact zO_σ0⟩

theorem dX11_hole_0 : decode cX11_hole 0 = .ok (.aload_n 0, 1) := by decide +kernel
theorem dX11_hole_1 : decode cX11_hole 1 = .ok (.iconst 0, 1) := by decide +kernel
theorem dX11_hole_2 : decode cX11_hole 2 = .ok (.putfield 1, 3) := by decide +kernel
theorem dX11_hole_5 : decode cX11_hole 5 = .ok (.aload_n 0, 1) := by decide +kernel
theorem dX11_hole_6 : decode cX11_hole 6 = .ok (.aload_n 0, 1) := by decide +kernel
theorem dX11_hole_7 : decode cX11_hole 7 = .ok (.iconst 0, 1) := by decide +kernel
theorem dX11_hole_8 : decode cX11_hole 8 = .ok (.iload_n 1, 1) := by decide +kernel
theorem dX11_hole_9 : decode cX11_hole 9 = .ok (.iload_n 2, 1) := by decide +kernel
theorem dX11_hole_10 : decode cX11_hole 10 = .ok (.invokevirtual 72, 3) := by decide +kernel
theorem dX11_hole_13 : decode cX11_hole 13 = .ok (.ifCond .eq 18, 3) := by decide +kernel
theorem dX11_hole_16 : decode cX11_hole 16 = .ok (.aload_n 0, 1) := by decide +kernel
theorem dX11_hole_17 : decode cX11_hole 17 = .ok (.iconst 0, 1) := by decide +kernel
theorem dX11_hole_18 : decode cX11_hole 18 = .ok (.iload_n 3, 1) := by decide +kernel
theorem dX11_hole_19 : decode cX11_hole 19 = .ok (.iload 4, 2) := by decide +kernel
theorem dX11_hole_21 : decode cX11_hole 21 = .ok (.invokevirtual 72, 3) := by decide +kernel
theorem dX11_hole_24 : decode cX11_hole 24 = .ok (.ifCond .eq 7, 3) := by decide +kernel
theorem dX11_hole_27 : decode cX11_hole 27 = .ok (.iconst 1, 1) := by decide +kernel
theorem dX11_hole_28 : decode cX11_hole 28 = .ok (.goto 4, 3) := by decide +kernel
theorem dX11_hole_31 : decode cX11_hole 31 = .ok (.iconst 0, 1) := by decide +kernel
theorem dX11_hole_32 : decode cX11_hole 32 = .ok (.iconst 1, 1) := by decide +kernel
theorem dX11_hole_33 : decode cX11_hole 33 = .ok (.iconst 0, 1) := by decide +kernel
theorem dX11_hole_34 : decode cX11_hole 34 = .ok (.invokevirtual 284, 3) := by decide +kernel
theorem dX11_hole_37 : decode cX11_hole 37 = .ok (.ifCond .eq 28, 3) := by decide +kernel
theorem dX11_hole_40 : decode cX11_hole 40 = .ok (.aload_n 0, 1) := by decide +kernel
theorem dX11_hole_41 : decode cX11_hole 41 = .ok (.iload_n 3, 1) := by decide +kernel
theorem dX11_hole_42 : decode cX11_hole 42 = .ok (.iload_n 1, 1) := by decide +kernel
theorem dX11_hole_43 : decode cX11_hole 43 = .ok (.if_icmp .lt 13, 3) := by decide +kernel
theorem dX11_hole_46 : decode cX11_hole 46 = .ok (.iload 4, 2) := by decide +kernel
theorem dX11_hole_48 : decode cX11_hole 48 = .ok (.iload_n 2, 1) := by decide +kernel
theorem dX11_hole_49 : decode cX11_hole 49 = .ok (.if_icmp .lt 7, 3) := by decide +kernel
theorem dX11_hole_52 : decode cX11_hole 52 = .ok (.iconst 1, 1) := by decide +kernel
theorem dX11_hole_53 : decode cX11_hole 53 = .ok (.goto 4, 3) := by decide +kernel
theorem dX11_hole_56 : decode cX11_hole 56 = .ok (.iconst 0, 1) := by decide +kernel
theorem dX11_hole_57 : decode cX11_hole 57 = .ok (.iconst 2, 1) := by decide +kernel
theorem dX11_hole_58 : decode cX11_hole 58 = .ok (.iconst 1, 1) := by decide +kernel
theorem dX11_hole_59 : decode cX11_hole 59 = .ok (.invokevirtual 284, 3) := by decide +kernel
theorem dX11_hole_62 : decode cX11_hole 62 = .ok (.ifCond .ne 5, 3) := by decide +kernel
theorem dX11_hole_65 : decode cX11_hole 65 = .ok (.iconst 0, 1) := by decide +kernel
theorem dX11_hole_66 : decode cX11_hole 66 = .ok (.ireturn, 1) := by decide +kernel
theorem dX11_hole_67 : decode cX11_hole 67 = .ok (.iconst 0, 1) := by decide +kernel
theorem dX11_hole_68 : decode cX11_hole 68 = .ok (.istore 5, 2) := by decide +kernel
theorem dX11_hole_70 : decode cX11_hole 70 = .ok (.iload_n 2, 1) := by decide +kernel
theorem dX11_hole_71 : decode cX11_hole 71 = .ok (.istore 6, 2) := by decide +kernel
theorem dX11_hole_73 : decode cX11_hole 73 = .ok (.iload 6, 2) := by decide +kernel
theorem dX11_hole_75 : decode cX11_hole 75 = .ok (.iload 4, 2) := by decide +kernel
theorem dX11_hole_77 : decode cX11_hole 77 = .ok (.if_icmp .gt 46, 3) := by decide +kernel
theorem dX11_hole_80 : decode cX11_hole 80 = .ok (.iload_n 1, 1) := by decide +kernel
theorem dX11_hole_81 : decode cX11_hole 81 = .ok (.istore 7, 2) := by decide +kernel
theorem dX11_hole_83 : decode cX11_hole 83 = .ok (.iload 7, 2) := by decide +kernel
theorem dX11_hole_85 : decode cX11_hole 85 = .ok (.iload_n 3, 1) := by decide +kernel
theorem dX11_hole_86 : decode cX11_hole 86 = .ok (.if_icmp .gt 31, 3) := by decide +kernel
theorem dX11_hole_89 : decode cX11_hole 89 = .ok (.iload 5, 2) := by decide +kernel
theorem dX11_hole_91 : decode cX11_hole 91 = .ok (.aload_n 0, 1) := by decide +kernel
theorem dX11_hole_92 : decode cX11_hole 92 = .ok (.iconst 0, 1) := by decide +kernel
theorem dX11_hole_93 : decode cX11_hole 93 = .ok (.iload 7, 2) := by decide +kernel
theorem dX11_hole_95 : decode cX11_hole 95 = .ok (.iload 6, 2) := by decide +kernel
theorem dX11_hole_97 : decode cX11_hole 97 = .ok (.invokevirtual 78, 3) := by decide +kernel
theorem dX11_hole_100 : decode cX11_hole 100 = .ok (.ifCond .eq 7, 3) := by decide +kernel
theorem dX11_hole_103 : decode cX11_hole 103 = .ok (.iconst 1, 1) := by decide +kernel
theorem dX11_hole_104 : decode cX11_hole 104 = .ok (.goto 4, 3) := by decide +kernel
theorem dX11_hole_107 : decode cX11_hole 107 = .ok (.iconst 0, 1) := by decide +kernel
theorem dX11_hole_108 : decode cX11_hole 108 = .ok (.iadd, 1) := by decide +kernel
theorem dX11_hole_109 : decode cX11_hole 109 = .ok (.istore 5, 2) := by decide +kernel
theorem dX11_hole_111 : decode cX11_hole 111 = .ok (.iinc 7 1, 3) := by decide +kernel
theorem dX11_hole_114 : decode cX11_hole 114 = .ok (.goto (-31), 3) := by decide +kernel
theorem dX11_hole_117 : decode cX11_hole 117 = .ok (.iinc 6 1, 3) := by decide +kernel
theorem dX11_hole_120 : decode cX11_hole 120 = .ok (.goto (-47), 3) := by decide +kernel
theorem dX11_hole_123 : decode cX11_hole 123 = .ok (.iload 5, 2) := by decide +kernel
theorem dX11_hole_125 : decode cX11_hole 125 = .ok (.ifCond .ne 5, 3) := by decide +kernel
theorem dX11_hole_128 : decode cX11_hole 128 = .ok (.iconst 0, 1) := by decide +kernel
theorem dX11_hole_129 : decode cX11_hole 129 = .ok (.ireturn, 1) := by decide +kernel
theorem dX11_hole_130 : decode cX11_hole 130 = .ok (.aload_n 0, 1) := by decide +kernel
theorem dX11_hole_131 : decode cX11_hole 131 = .ok (.invokevirtual 304, 3) := by decide +kernel
theorem dX11_hole_134 : decode cX11_hole 134 = .ok (.iload_n 2, 1) := by decide +kernel
theorem dX11_hole_135 : decode cX11_hole 135 = .ok (.istore 6, 2) := by decide +kernel
theorem dX11_hole_137 : decode cX11_hole 137 = .ok (.iload 6, 2) := by decide +kernel
theorem dX11_hole_139 : decode cX11_hole 139 = .ok (.iload 4, 2) := by decide +kernel
theorem dX11_hole_141 : decode cX11_hole 141 = .ok (.if_icmp .gt 36, 3) := by decide +kernel
theorem dX11_hole_144 : decode cX11_hole 144 = .ok (.iload_n 1, 1) := by decide +kernel
theorem dX11_hole_145 : decode cX11_hole 145 = .ok (.istore 7, 2) := by decide +kernel
theorem dX11_hole_147 : decode cX11_hole 147 = .ok (.iload 7, 2) := by decide +kernel
theorem dX11_hole_149 : decode cX11_hole 149 = .ok (.iload_n 3, 1) := by decide +kernel
theorem dX11_hole_150 : decode cX11_hole 150 = .ok (.if_icmp .gt 21, 3) := by decide +kernel
theorem dX11_hole_153 : decode cX11_hole 153 = .ok (.aload_n 0, 1) := by decide +kernel
theorem dX11_hole_154 : decode cX11_hole 154 = .ok (.iconst 0, 1) := by decide +kernel
theorem dX11_hole_155 : decode cX11_hole 155 = .ok (.iload 7, 2) := by decide +kernel
theorem dX11_hole_157 : decode cX11_hole 157 = .ok (.iload 6, 2) := by decide +kernel
theorem dX11_hole_159 : decode cX11_hole 159 = .ok (.invokestatic 56, 3) := by decide +kernel
theorem dX11_hole_162 : decode cX11_hole 162 = .ok (.invokevirtual 229, 3) := by decide +kernel
theorem dX11_hole_165 : decode cX11_hole 165 = .ok (.iinc 7 1, 3) := by decide +kernel
theorem dX11_hole_168 : decode cX11_hole 168 = .ok (.goto (-21), 3) := by decide +kernel
theorem dX11_hole_171 : decode cX11_hole 171 = .ok (.iinc 6 1, 3) := by decide +kernel
theorem dX11_hole_174 : decode cX11_hole 174 = .ok (.goto (-37), 3) := by decide +kernel
theorem dX11_hole_177 : decode cX11_hole 177 = .ok (.iload 5, 2) := by decide +kernel
theorem dX11_hole_179 : decode cX11_hole 179 = .ok (.ireturn, 1) := by decide +kernel
set_option maxHeartbeats 4000000 in
set_option maxRecDepth 100000 in
theorem tX11_hole {l : Launch} {g : yG} {n : Nat} {σ : yM} (hn : 172 ≤ n) (w h : Int) (T S F P O : Int → Int → Int) (nf df nl : Int) (lg : Int → Int → Int) (s re fo ra tu we sh : Int) (H : List aX) (ht : Bool) (K : Int → Int → Int) (tl : Int) (tb : Int → Int) (fa r1 r2 N : Int) (hV : mV σ (w, h, (T, S, F, P, O, nf, df, nl, lg), (s, re, fo, ra, tu, we, sh), H, ht, K, tl, tb, fa, r1, r2)) (hW : aW N (w, h, (T, S, F, P, O, nf, df, nl, lg), (s, re, fo, ra, tu, we, sh), H, ht, K, tl, tb, fa, r1, r2)) (x y tx ty : Int) (hx : -2147483648 ≤ x ∧ x < 2147483648) (hy : -2147483648 ≤ y ∧ y < 2147483648) (htx : -2147483648 ≤ tx ∧ tx < 2147483648) (hty : -2147483648 ≤ ty ∧ ty < 2147483648) : yMet l g yX11_hole cX11_hole 8 (some .int) (rmL 5) [yR g 155, yI x, yI y, yI tx, yI ty] (SC g) n σ (SC g) (yPi (fun zv n' σ' => n ≤ n' ∧ (((sIn w h x y = true ∧ sIn w h tx ty = true) ∧ (x ≤ tx ∧ y ≤ ty) ∧ zv = hC w h T x y tx ty ∧ mO σ σ' (if hC w h T x y tx ty = 0 then (w, h, (T, S, F, P, O, nf, df, nl, lg), (s, re, fo, ra, tu, we, sh), H, ht, K, tl, tb, fa, r1, r2) else (w, h, (dHo (dR x y tx x (ty + 1)) (-1) T, dHo (dR x y tx x (ty + 1)) 0 S, dHo (dR x y tx x (ty + 1)) 0 F, dHo (dR x y tx x (ty + 1)) (-1) P, dHo (dR x y tx x (ty + 1)) (-1) O, nf, df, nl, lg), (s, re, fo, ra, tu, we, sh), pH (T, S, F, P, O, nf, df, nl, lg) H, ht, K, tl, tb, fa, r1, r2)) 0) ∨ (¬ (sIn w h x y = true ∧ sIn w h tx ty = true) ∧ mO σ σ' (bN (w, h, (T, S, F, P, O, nf, df, nl, lg), (s, re, fo, ra, tu, we, sh), H, ht, K, tl, tb, fa, r1, r2)) 1) ∨ ((sIn w h x y = true ∧ sIn w h tx ty = true) ∧ ¬ (x ≤ tx ∧ y ≤ ty) ∧ mO σ σ' (bA (w, h, (T, S, F, P, O, nf, df, nl, lg), (s, re, fo, ra, tu, we, sh), H, ht, K, tl, tb, fa, r1, r2)) 2)))) := by
  obtain ⟨⟨hA, hL⟩, hS, hH, ⟨hb1, hb2⟩, ⟨ht1, ht2⟩, hfa, hr1, hr2⟩ := id hV
  obtain ⟨hw1, hw2, hw3, hw4⟩ := id hA.1.1
  obtain ⟨hs1, hs2, hs3, hs4, hs5, hs6, hs7⟩ := id hS.2
  have hz : (0 : Nat) < 3 := by omega
  have hdl : 0 ≤ (H.length : Int) ∧ (H.length : Int) ≤ 10 := by have := hH.2.1; omega
  refine y_start (by decide) (Nat.le_of_ble_eq_true rfl) (fun X0 hF => ?_)
  show yV X0 g 8 (yQ X0 g (SC g) (yPi (fun zv n' σ' => n ≤ n' ∧ (((sIn w h x y = true ∧ sIn w h tx ty = true) ∧ (x ≤ tx ∧ y ≤ ty) ∧ zv = hC w h T x y tx ty ∧ mO σ σ' (if hC w h T x y tx ty = 0 then (w, h, (T, S, F, P, O, nf, df, nl, lg), (s, re, fo, ra, tu, we, sh), H, ht, K, tl, tb, fa, r1, r2) else (w, h, (dHo (dR x y tx x (ty + 1)) (-1) T, dHo (dR x y tx x (ty + 1)) 0 S, dHo (dR x y tx x (ty + 1)) 0 F, dHo (dR x y tx x (ty + 1)) (-1) P, dHo (dR x y tx x (ty + 1)) (-1) O, nf, df, nl, lg), (s, re, fo, ra, tu, we, sh), pH (T, S, F, P, O, nf, df, nl, lg) H, ht, K, tl, tb, fa, r1, r2)) 0) ∨ (¬ (sIn w h x y = true ∧ sIn w h tx ty = true) ∧ mO σ σ' (bN (w, h, (T, S, F, P, O, nf, df, nl, lg), (s, re, fo, ra, tu, we, sh), H, ht, K, tl, tb, fa, r1, r2)) 1) ∨ ((sIn w h x y = true ∧ sIn w h tx ty = true) ∧ ¬ (x ≤ tx ∧ y ≤ ty) ∧ mO σ σ' (bA (w, h, (T, S, F, P, O, nf, df, nl, lg), (s, re, fo, ra, tu, we, sh), H, ht, K, tl, tb, fa, r1, r2)) 2)))) (rmL 5)) (SC g) n σ 0 0 0 [(0, yR g 155), (1, yI x), (2, yI y), (3, yI tx), (4, yI ty)] []
  refine y_aload_n (pc := 0) hF dX11_hole_0 0 rfl ?_
  refine y_iconst (pc := 1) hF dX11_hole_1 ?_
  refine y_putf (pc := 2) (ci := 11) (σ' := yset σ 155 0 0) (sch' := (SC g)) hF dX11_hole_2 (by omega) rfl rfl rfl iX11 0 (by decide) w_1247 tyX11 tyX11_ok nmX11 rfl rfl rfl rfl (Nat.le_of_ble_eq_true rfl) rfl (y_ps rfl) (fun k' h => ⟨yset_n h, rfl⟩) ?_
  obtain ⟨σ0, hσ0⟩ : ∃ s, s = yset σ 155 0 0 := ⟨_, rfl⟩
  rw [← hσ0]
  have zO_σ0 := hV.t0 hσ0
  obtain ⟨⟨zA_σ0, zL_σ0⟩, zS_σ0, zH_σ0, ⟨zb1_σ0, zb2_σ0⟩, ⟨zt1_σ0, zt2_σ0⟩, zfa_σ0, zr1_σ0, zr2_σ0⟩ := id zO_σ0.2.2
  have zJ32 : ∀ (zb : Bool), (zb = (sIn w h x y && sIn w h tx ty)) → yV X0 g 8 (yQ X0 g (SC g) (yPi (fun zv n' σ' => n ≤ n' ∧ (((sIn w h x y = true ∧ sIn w h tx ty = true) ∧ (x ≤ tx ∧ y ≤ ty) ∧ zv = hC w h T x y tx ty ∧ mO σ σ' (if hC w h T x y tx ty = 0 then (w, h, (T, S, F, P, O, nf, df, nl, lg), (s, re, fo, ra, tu, we, sh), H, ht, K, tl, tb, fa, r1, r2) else (w, h, (dHo (dR x y tx x (ty + 1)) (-1) T, dHo (dR x y tx x (ty + 1)) 0 S, dHo (dR x y tx x (ty + 1)) 0 F, dHo (dR x y tx x (ty + 1)) (-1) P, dHo (dR x y tx x (ty + 1)) (-1) O, nf, df, nl, lg), (s, re, fo, ra, tu, we, sh), pH (T, S, F, P, O, nf, df, nl, lg) H, ht, K, tl, tb, fa, r1, r2)) 0) ∨ (¬ (sIn w h x y = true ∧ sIn w h tx ty = true) ∧ mO σ σ' (bN (w, h, (T, S, F, P, O, nf, df, nl, lg), (s, re, fo, ra, tu, we, sh), H, ht, K, tl, tb, fa, r1, r2)) 1) ∨ ((sIn w h x y = true ∧ sIn w h tx ty = true) ∧ ¬ (x ≤ tx ∧ y ≤ ty) ∧ mO σ σ' (bA (w, h, (T, S, F, P, O, nf, df, nl, lg), (s, re, fo, ra, tu, we, sh), H, ht, K, tl, tb, fa, r1, r2)) 2)))) (rmL 5)) (SC g) n σ0 0 0 32 [(0, yR g 155), (1, yI x), (2, yI y), (3, yI tx), (4, yI ty)] [yI (bi zb), yR g 155] := by
    intro zb  zhb
    refine y_iconst (pc := 32) hF dX11_hole_32 ?_
    refine y_iconst (pc := 33) hF dX11_hole_33 ?_
    refine y_ci (y_rV (pc := 34) hF (tX11_isFine hn zO_σ0.2.1 zb 1 0 (by decide) (by decide)) dX11_hole_34 (by omega) rfl rfl rfl w_1395 qX11_isFine rfl ⟨Nat.le_of_ble_eq_true rfl, Nat.le_of_ble_eq_true rfl⟩ ⟨Nat.zero_le _, Nat.zero_le _⟩ (Nat.le_of_ble_eq_true rfl) rfl) rfl rfl (fun r34 n' σ34 zp34 => ?_)
    obtain ⟨zn34, zp34⟩ := zp34
    have zn34 := zn34.symm
    subst zn34
    rcases zp34 with ⟨zb34, zv34, zs34⟩ | ⟨zb34, zv34, zs34⟩
    · subst zv34; have zs34 := zs34.symm; subst zs34
      refine y_if_eq (pc := 37) hF dX11_hole_37 65 rfl (by decide) (fun zc37 => absurd zc37 (by decide)) (fun _ => ?_)
      have zJ57 : ∀ (zd : Bool), (zd = decide (x ≤ tx ∧ y ≤ ty)) → yV X0 g 8 (yQ X0 g (SC g) (yPi (fun zv n' σ' => n ≤ n' ∧ (((sIn w h x y = true ∧ sIn w h tx ty = true) ∧ (x ≤ tx ∧ y ≤ ty) ∧ zv = hC w h T x y tx ty ∧ mO σ σ' (if hC w h T x y tx ty = 0 then (w, h, (T, S, F, P, O, nf, df, nl, lg), (s, re, fo, ra, tu, we, sh), H, ht, K, tl, tb, fa, r1, r2) else (w, h, (dHo (dR x y tx x (ty + 1)) (-1) T, dHo (dR x y tx x (ty + 1)) 0 S, dHo (dR x y tx x (ty + 1)) 0 F, dHo (dR x y tx x (ty + 1)) (-1) P, dHo (dR x y tx x (ty + 1)) (-1) O, nf, df, nl, lg), (s, re, fo, ra, tu, we, sh), pH (T, S, F, P, O, nf, df, nl, lg) H, ht, K, tl, tb, fa, r1, r2)) 0) ∨ (¬ (sIn w h x y = true ∧ sIn w h tx ty = true) ∧ mO σ σ' (bN (w, h, (T, S, F, P, O, nf, df, nl, lg), (s, re, fo, ra, tu, we, sh), H, ht, K, tl, tb, fa, r1, r2)) 1) ∨ ((sIn w h x y = true ∧ sIn w h tx ty = true) ∧ ¬ (x ≤ tx ∧ y ≤ ty) ∧ mO σ σ' (bA (w, h, (T, S, F, P, O, nf, df, nl, lg), (s, re, fo, ra, tu, we, sh), H, ht, K, tl, tb, fa, r1, r2)) 2)))) (rmL 5)) (SC g) n σ0 0 0 57 [(0, yR g 155), (1, yI x), (2, yI y), (3, yI tx), (4, yI ty)] [yI (bi zd), yR g 155] := by
        intro zd  zhd
        refine y_iconst (pc := 57) hF dX11_hole_57 ?_
        refine y_iconst (pc := 58) hF dX11_hole_58 ?_
        refine y_ci (y_rV (pc := 59) hF (tX11_isFine hn zO_σ0.2.1 zd 2 1 (by decide) (by decide)) dX11_hole_59 (by omega) rfl rfl rfl w_1395 qX11_isFine rfl ⟨Nat.le_of_ble_eq_true rfl, Nat.le_of_ble_eq_true rfl⟩ ⟨Nat.zero_le _, Nat.zero_le _⟩ (Nat.le_of_ble_eq_true rfl) rfl) rfl rfl (fun r59 n' σ59 zp59 => ?_)
        obtain ⟨zn59, zp59⟩ := zp59
        have zn59 := zn59.symm
        subst zn59
        rcases zp59 with ⟨zb59, zv59, zs59⟩ | ⟨zb59, zv59, zs59⟩
        · subst zv59; have zs59 := zs59.symm; subst zs59
          refine y_if_ne (pc := 62) hF dX11_hole_62 67 rfl (by decide) (fun _ => ?_) (fun zc62 => absurd zc62 (by decide))
          simp only [zhb, Bool.and_eq_true] at zb34
          have zox : x ≤ tx ∧ y ≤ ty := by rw [zhd] at zb59; simpa using zb59
          have zi := sIn_iff.mp zb34.1
          have zj := sIn_iff.mp zb34.2
          refine y_iconst (pc := 67) hF dX11_hole_67 ?_
          refine y_istore (pc := 68) (lv' := [(0, yR g 155), (1, yI x), (2, yI y), (3, yI tx), (4, yI ty), (5, yI 0)]) hF dX11_hole_68 (by decide) rfl rfl ?_
          refine y_iload_n (pc := 70) hF dX11_hole_70 2 rfl ?_
          refine y_istore (pc := 71) (lv' := [(0, yR g 155), (1, yI x), (2, yI y), (3, yI tx), (4, yI ty), (5, yI 0), (6, yI y)]) hF dX11_hole_71 (by decide) rfl rfl ?_
          have zL73 : ∀ (N : Nat) (j c : Int), N = (ty + 1 - j).toNat → ((y ≤ j ∧ j ≤ ty + 1) ∧ (0 ≤ c ∧ c ≤ 20 * (j - y)) ∧ c = fr (fun c j => fr (fun c i => c + bi (sKn w h T i j)) x (tx + 1 - x).toNat c) y (j - y).toNat 0) → yV X0 g 8 (yQ X0 g (SC g) (yPi (fun zv n' σ' => n ≤ n' ∧ (((sIn w h x y = true ∧ sIn w h tx ty = true) ∧ (x ≤ tx ∧ y ≤ ty) ∧ zv = hC w h T x y tx ty ∧ mO σ σ' (if hC w h T x y tx ty = 0 then (w, h, (T, S, F, P, O, nf, df, nl, lg), (s, re, fo, ra, tu, we, sh), H, ht, K, tl, tb, fa, r1, r2) else (w, h, (dHo (dR x y tx x (ty + 1)) (-1) T, dHo (dR x y tx x (ty + 1)) 0 S, dHo (dR x y tx x (ty + 1)) 0 F, dHo (dR x y tx x (ty + 1)) (-1) P, dHo (dR x y tx x (ty + 1)) (-1) O, nf, df, nl, lg), (s, re, fo, ra, tu, we, sh), pH (T, S, F, P, O, nf, df, nl, lg) H, ht, K, tl, tb, fa, r1, r2)) 0) ∨ (¬ (sIn w h x y = true ∧ sIn w h tx ty = true) ∧ mO σ σ' (bN (w, h, (T, S, F, P, O, nf, df, nl, lg), (s, re, fo, ra, tu, we, sh), H, ht, K, tl, tb, fa, r1, r2)) 1) ∨ ((sIn w h x y = true ∧ sIn w h tx ty = true) ∧ ¬ (x ≤ tx ∧ y ≤ ty) ∧ mO σ σ' (bA (w, h, (T, S, F, P, O, nf, df, nl, lg), (s, re, fo, ra, tu, we, sh), H, ht, K, tl, tb, fa, r1, r2)) 2)))) (rmL 5)) (SC g) n σ0 0 0 73 [(0, yR g 155), (1, yI x), (2, yI y), (3, yI tx), (4, yI ty), (5, yI c), (6, yI j)] [] := by
            intro N
            induction N using Nat.strongRecOn with
            | ind N zh73 =>
              intro j c  zN73 zI73
              refine y_iload (pc := 73) hF dX11_hole_73 6 rfl ?_
              refine y_iload (pc := 75) hF dX11_hole_75 4 rfl ?_
              refine y_icmp_gt (pc := 77) hF dX11_hole_77 123 rfl (by omega) (by omega) (fun zc77 => ?_) (fun zc77 => ?_)
              · skip
                have zct : c = hC w h T x y tx ty := by rw [zI73.2.2, show j = ty + 1 by omega]; rfl
                refine y_iload (pc := 123) hF dX11_hole_123 5 rfl ?_
                refine y_if_ne (pc := 125) hF dX11_hole_125 130 rfl (by omega) (fun zc125 => ?_) (fun zc125 => ?_)
                · skip
                  refine y_aload_n (pc := 130) hF dX11_hole_130 0 rfl ?_
                  refine y_cv (y_rV (pc := 131) hF (tX11_keeps hn (H.length : Int) zH_σ0.1 hdl) dX11_hole_131 (by omega) rfl rfl rfl w_1460 qX11_keeps rfl ⟨Nat.le_of_ble_eq_true rfl, Nat.le_of_ble_eq_true rfl⟩ ⟨Nat.zero_le _, Nat.zero_le _⟩ (Nat.le_of_ble_eq_true rfl) rfl) rfl rfl (fun n' σ131 zp131 => ?_)
                  obtain ⟨zn131, zp131⟩ := zp131
                  have zn131 := zn131.symm
                  subst zn131
                  have zk131 : kpR σ0 σ131 (H.length : Int) := ⟨zp131.1, zp131.2.1⟩
                  have zA_σ131 : rM σ131 0 w h T S F P O := zA_σ0.fr (zk131.c (by omega) (by omega)) (zk131.c (by omega) (by omega)) (fun i _ _ => by rw [zk131.c (by omega) (by omega)])
                  refine y_iload_n (pc := 134) hF dX11_hole_134 2 rfl ?_
                  refine y_istore (pc := 135) (lv' := [(0, yR g 155), (1, yI x), (2, yI y), (3, yI tx), (4, yI ty), (5, yI c), (6, yI y)]) hF dX11_hole_135 (by decide) rfl rfl ?_
                  have zL137 : ∀ (N : Nat) (τ : yM) (j : Int), N = (ty + 1 - j).toNat → (((∀ c : Nat, c ≠ 158 → τ c = σ131 c) ∧ ∀ j : Int, 2000 ≤ j → τ 158 j = σ131 158 j) ∧ (y ≤ j ∧ j ≤ ty + 1) ∧ rM τ 0 w h (dHo (dR x y tx x j) (-1) T) (dHo (dR x y tx x j) 0 S) (dHo (dR x y tx x j) 0 F) (dHo (dR x y tx x j) (-1) P) (dHo (dR x y tx x j) (-1) O)) → yV X0 g 8 (yQ X0 g (SC g) (yPi (fun zv n' σ' => n ≤ n' ∧ (((sIn w h x y = true ∧ sIn w h tx ty = true) ∧ (x ≤ tx ∧ y ≤ ty) ∧ zv = hC w h T x y tx ty ∧ mO σ σ' (if hC w h T x y tx ty = 0 then (w, h, (T, S, F, P, O, nf, df, nl, lg), (s, re, fo, ra, tu, we, sh), H, ht, K, tl, tb, fa, r1, r2) else (w, h, (dHo (dR x y tx x (ty + 1)) (-1) T, dHo (dR x y tx x (ty + 1)) 0 S, dHo (dR x y tx x (ty + 1)) 0 F, dHo (dR x y tx x (ty + 1)) (-1) P, dHo (dR x y tx x (ty + 1)) (-1) O, nf, df, nl, lg), (s, re, fo, ra, tu, we, sh), pH (T, S, F, P, O, nf, df, nl, lg) H, ht, K, tl, tb, fa, r1, r2)) 0) ∨ (¬ (sIn w h x y = true ∧ sIn w h tx ty = true) ∧ mO σ σ' (bN (w, h, (T, S, F, P, O, nf, df, nl, lg), (s, re, fo, ra, tu, we, sh), H, ht, K, tl, tb, fa, r1, r2)) 1) ∨ ((sIn w h x y = true ∧ sIn w h tx ty = true) ∧ ¬ (x ≤ tx ∧ y ≤ ty) ∧ mO σ σ' (bA (w, h, (T, S, F, P, O, nf, df, nl, lg), (s, re, fo, ra, tu, we, sh), H, ht, K, tl, tb, fa, r1, r2)) 2)))) (rmL 5)) (SC g) n τ 0 0 137 [(0, yR g 155), (1, yI x), (2, yI y), (3, yI tx), (4, yI ty), (5, yI c), (6, yI j)] [] := by
                    intro N
                    induction N using Nat.strongRecOn with
                    | ind N zh137 =>
                      intro τ  j  zN137 zI137
                      refine y_iload (pc := 137) hF dX11_hole_137 6 rfl ?_
                      refine y_iload (pc := 139) hF dX11_hole_139 4 rfl ?_
                      refine y_icmp_gt (pc := 141) hF dX11_hole_141 177 rfl (by omega) (by omega) (fun zc141 => ?_) (fun zc141 => ?_)
                      · skip
                        refine y_iload (pc := 177) hF dX11_hole_177 5 rfl ?_
                        exact y_iret (pc := 179) hF dX11_hole_179 (Nat.zero_le _) (Nat.zero_le _) ⟨_, rfl, Nat.le_refl _, Or.inl ⟨zb34, zox, zct, by rw [if_neg (by omega)]; have zq := zI137.2.2; rw [show j = ty + 1 by omega] at zq; have ze := zI137.1.1; exact mO_gen zO_σ0 (fun c hc => by rw [ze c (by omega), zk131.c (by omega) (by omega)]) (by rw [ze 155 (by omega), zk131.j (by omega)]) ⟨zq, zL_σ0.hi (fun j a => by rw [zI137.1.2 j a, zk131.c (by omega) (by omega)])⟩ (by rw [ze 166 (by omega), zk131.c (by omega) (by omega)]) (mH_kp zH_σ0 zk131 (rX.b (X := (T, S, F, P, O, nf, df, nl, lg)) ⟨zA_σ0, zL_σ0⟩) zp131.2.2 (by rw [ze 155 (by omega)]) (ze 164 (by omega))) ⟨by rw [ze 155 (by omega), zk131.j (by omega)]; exact zb1_σ0, fun q a b a1 a2 b1 b2 => by rw [ze 165 (by omega), zk131.c (by omega) (by omega)]; exact zb2_σ0 q a b a1 a2 b1 b2⟩ (by rw [ze 155 (by omega), zk131.j (by omega)]) (by rw [ze 167 (by omega), zk131.c (by omega) (by omega)]) (by rw [ze 155 (by omega), zk131.j (by omega)]) (by rw [ze 156 (by omega), zk131.c (by omega) (by omega)])⟩⟩
                      · skip
                        refine y_iload_n (pc := 144) hF dX11_hole_144 1 rfl ?_
                        refine y_istore (pc := 145) (lv' := [(0, yR g 155), (1, yI x), (2, yI y), (3, yI tx), (4, yI ty), (5, yI c), (6, yI j), (7, yI x)]) hF dX11_hole_145 (by decide) rfl rfl ?_
                        have zL147 : ∀ (N : Nat) (υ : yM) (i : Int), N = (tx + 1 - i).toNat → (((∀ c : Nat, c ≠ 158 → υ c = σ131 c) ∧ ∀ j : Int, 2000 ≤ j → υ 158 j = σ131 158 j) ∧ (x ≤ i ∧ i ≤ tx + 1) ∧ rM υ 0 w h (dHo (dR x y tx i j) (-1) T) (dHo (dR x y tx i j) 0 S) (dHo (dR x y tx i j) 0 F) (dHo (dR x y tx i j) (-1) P) (dHo (dR x y tx i j) (-1) O)) → yV X0 g 8 (yQ X0 g (SC g) (yPi (fun zv n' σ' => n ≤ n' ∧ (((sIn w h x y = true ∧ sIn w h tx ty = true) ∧ (x ≤ tx ∧ y ≤ ty) ∧ zv = hC w h T x y tx ty ∧ mO σ σ' (if hC w h T x y tx ty = 0 then (w, h, (T, S, F, P, O, nf, df, nl, lg), (s, re, fo, ra, tu, we, sh), H, ht, K, tl, tb, fa, r1, r2) else (w, h, (dHo (dR x y tx x (ty + 1)) (-1) T, dHo (dR x y tx x (ty + 1)) 0 S, dHo (dR x y tx x (ty + 1)) 0 F, dHo (dR x y tx x (ty + 1)) (-1) P, dHo (dR x y tx x (ty + 1)) (-1) O, nf, df, nl, lg), (s, re, fo, ra, tu, we, sh), pH (T, S, F, P, O, nf, df, nl, lg) H, ht, K, tl, tb, fa, r1, r2)) 0) ∨ (¬ (sIn w h x y = true ∧ sIn w h tx ty = true) ∧ mO σ σ' (bN (w, h, (T, S, F, P, O, nf, df, nl, lg), (s, re, fo, ra, tu, we, sh), H, ht, K, tl, tb, fa, r1, r2)) 1) ∨ ((sIn w h x y = true ∧ sIn w h tx ty = true) ∧ ¬ (x ≤ tx ∧ y ≤ ty) ∧ mO σ σ' (bA (w, h, (T, S, F, P, O, nf, df, nl, lg), (s, re, fo, ra, tu, we, sh), H, ht, K, tl, tb, fa, r1, r2)) 2)))) (rmL 5)) (SC g) n υ 0 0 147 [(0, yR g 155), (1, yI x), (2, yI y), (3, yI tx), (4, yI ty), (5, yI c), (6, yI j), (7, yI i)] [] := by
                          intro N
                          induction N using Nat.strongRecOn with
                          | ind N zh147 =>
                            intro υ  i  zN147 zI147
                            refine y_iload (pc := 147) hF dX11_hole_147 7 rfl ?_
                            refine y_iload_n (pc := 149) hF dX11_hole_149 3 rfl ?_
                            refine y_icmp_gt (pc := 150) hF dX11_hole_150 171 rfl (by omega) (by omega) (fun zc150 => ?_) (fun zc150 => ?_)
                            · skip
                              refine y_iinc (pc := 171) (lv' := [(0, yR g 155), (1, yI x), (2, yI y), (3, yI tx), (4, yI ty), (5, yI c), (6, yI (j + 1)), (7, yI i)]) hF dX11_hole_171 6 rfl (by decide) rfl rfl ?_
                              refine y_goto (pc := 174) hF dX11_hole_174 137 rfl ?_
                              refine y_sub [0, 1, 2, 3, 4, 5, 6] rfl ?_
                              exact zh137 _ (by omega) υ (j + 1) rfl ⟨zI147.1, by omega, by have zq := zI147.2.2; rw [dR_row (show i = tx + 1 by omega) zI137.2.1.1] at zq; exact zq⟩
                            · skip
                              have zin : sIn w h i j = true := sIn_iff.mpr (by omega)
                              refine y_aload_n (pc := 153) hF dX11_hole_153 0 rfl ?_
                              refine y_iconst (pc := 154) hF dX11_hole_154 ?_
                              refine y_iload (pc := 155) hF dX11_hole_155 7 rfl ?_
                              refine y_iload (pc := 157) hF dX11_hole_157 6 rfl ?_
                              have zz159 := y_rS (pc := 159) (As := [yI i, yI j]) (kk := 0) hF (tX11_at (n := n) (σ := υ) i j) dX11_hole_159 w_1236 qX11_at rfl ⟨Nat.le_of_ble_eq_true rfl, Nat.le_of_ble_eq_true rfl⟩ ⟨Nat.zero_le _, Nat.zero_le _⟩ (Nat.le_of_ble_eq_true rfl) rfl (rest := [yI 0, yR g 155]) (cells := 0) (slots := 0) (lv := [(0, yR g 155), (1, yI x), (2, yI y), (3, yI tx), (4, yI ty), (5, yI c), (6, yI j), (7, yI i)])
                              refine y_cp (zz159) ?_
                              refine y_cv (y_rV (pc := 162) hF (tX11_missing 0 hn (by omega) (20 * j + i) (by omega)) dX11_hole_162 (by omega) rfl rfl rfl w_1428 qX11_missing rfl ⟨Nat.le_of_ble_eq_true rfl, Nat.le_of_ble_eq_true rfl⟩ ⟨Nat.zero_le _, Nat.zero_le _⟩ (Nat.le_of_ble_eq_true rfl) rfl) rfl rfl (fun n' σ' zp162 => ?_)
                              obtain ⟨zn162, rfl⟩ := zp162
                              have zn162 := zn162.symm
                              subst zn162
                              refine y_iinc (pc := 165) (lv' := [(0, yR g 155), (1, yI x), (2, yI y), (3, yI tx), (4, yI ty), (5, yI c), (6, yI j), (7, yI (i + 1))]) hF dX11_hole_165 7 rfl (by decide) rfl rfl ?_
                              refine y_goto (pc := 168) hF dX11_hole_168 147 rfl ?_
                              exact zh147 _ (by omega) (mms υ 0 (20 * j + i)) (i + 1) rfl ⟨⟨fun c hc => by rw [mms_c (by omega)]; exact zI147.1.1 c hc, fun q hq => by rw [mms_h (by omega) hq]; exact zI147.1.2 q hq⟩, by omega, by have zq := rM_give (t := -1) zI147.2.2 zin (by omega); rw [show mgv υ 0 (20 * j + i) (-1) = mms υ 0 (20 * j + i) from if_pos rfl, if_pos rfl, dHo_up ⟨zI147.2.1.1, by omega⟩ zI137.2.1.1, dHo_up ⟨zI147.2.1.1, by omega⟩ zI137.2.1.1, dHo_up ⟨zI147.2.1.1, by omega⟩ zI137.2.1.1, dHo_up ⟨zI147.2.1.1, by omega⟩ zI137.2.1.1, dHo_up ⟨zI147.2.1.1, by omega⟩ zI137.2.1.1] at zq; exact zq⟩
                        exact zL147 _ τ (x) rfl ⟨zI137.1, by omega, zI137.2.2⟩
                  exact zL137 _ σ131 (y) rfl ⟨⟨fun c _ => rfl, fun _ _ => rfl⟩, by omega, by simp only [dR_0]; exact zA_σ131⟩
                · skip
                  refine y_iconst (pc := 128) hF dX11_hole_128 ?_
                  exact y_iret (pc := 129) hF dX11_hole_129 (Nat.zero_le _) (Nat.zero_le _) ⟨_, rfl, Nat.le_refl _, Or.inl ⟨zb34, zox, by rw [← zct]; omega, by rw [if_pos (by omega)]; exact zO_σ0⟩⟩
              · skip
                refine y_iload_n (pc := 80) hF dX11_hole_80 1 rfl ?_
                refine y_istore (pc := 81) (lv' := [(0, yR g 155), (1, yI x), (2, yI y), (3, yI tx), (4, yI ty), (5, yI c), (6, yI j), (7, yI x)]) hF dX11_hole_81 (by decide) rfl rfl ?_
                have zL83 : ∀ (N : Nat) (i c1 : Int), N = (tx + 1 - i).toNat → ((x ≤ i ∧ i ≤ tx + 1) ∧ (0 ≤ c1 ∧ c1 ≤ c + (i - x)) ∧ c1 = fr (fun c i => c + bi (sKn w h T i j)) x (i - x).toNat c) → yV X0 g 8 (yQ X0 g (SC g) (yPi (fun zv n' σ' => n ≤ n' ∧ (((sIn w h x y = true ∧ sIn w h tx ty = true) ∧ (x ≤ tx ∧ y ≤ ty) ∧ zv = hC w h T x y tx ty ∧ mO σ σ' (if hC w h T x y tx ty = 0 then (w, h, (T, S, F, P, O, nf, df, nl, lg), (s, re, fo, ra, tu, we, sh), H, ht, K, tl, tb, fa, r1, r2) else (w, h, (dHo (dR x y tx x (ty + 1)) (-1) T, dHo (dR x y tx x (ty + 1)) 0 S, dHo (dR x y tx x (ty + 1)) 0 F, dHo (dR x y tx x (ty + 1)) (-1) P, dHo (dR x y tx x (ty + 1)) (-1) O, nf, df, nl, lg), (s, re, fo, ra, tu, we, sh), pH (T, S, F, P, O, nf, df, nl, lg) H, ht, K, tl, tb, fa, r1, r2)) 0) ∨ (¬ (sIn w h x y = true ∧ sIn w h tx ty = true) ∧ mO σ σ' (bN (w, h, (T, S, F, P, O, nf, df, nl, lg), (s, re, fo, ra, tu, we, sh), H, ht, K, tl, tb, fa, r1, r2)) 1) ∨ ((sIn w h x y = true ∧ sIn w h tx ty = true) ∧ ¬ (x ≤ tx ∧ y ≤ ty) ∧ mO σ σ' (bA (w, h, (T, S, F, P, O, nf, df, nl, lg), (s, re, fo, ra, tu, we, sh), H, ht, K, tl, tb, fa, r1, r2)) 2)))) (rmL 5)) (SC g) n σ0 0 0 83 [(0, yR g 155), (1, yI x), (2, yI y), (3, yI tx), (4, yI ty), (5, yI c1), (6, yI j), (7, yI i)] [] := by
                  intro N
                  induction N using Nat.strongRecOn with
                  | ind N zh83 =>
                    intro i c1  zN83 zI83
                    refine y_iload (pc := 83) hF dX11_hole_83 7 rfl ?_
                    refine y_iload_n (pc := 85) hF dX11_hole_85 3 rfl ?_
                    refine y_icmp_gt (pc := 86) hF dX11_hole_86 117 rfl (by omega) (by omega) (fun zc86 => ?_) (fun zc86 => ?_)
                    · skip
                      refine y_iinc (pc := 117) (lv' := [(0, yR g 155), (1, yI x), (2, yI y), (3, yI tx), (4, yI ty), (5, yI c1), (6, yI (j + 1)), (7, yI i)]) hF dX11_hole_117 6 rfl (by decide) rfl rfl ?_
                      refine y_goto (pc := 120) hF dX11_hole_120 73 rfl ?_
                      refine y_sub [0, 1, 2, 3, 4, 5, 6] rfl ?_
                      exact zh73 _ (by omega) (j + 1) (c1) rfl ⟨by omega, by omega, by rw [fr_up' _ _ zI73.1.1, ← zI73.2.2, zI83.2.2, show i = tx + 1 by omega]⟩
                    · skip
                      refine y_iload (pc := 89) hF dX11_hole_89 5 rfl ?_
                      refine y_aload_n (pc := 91) hF dX11_hole_91 0 rfl ?_
                      refine y_iconst (pc := 92) hF dX11_hole_92 ?_
                      refine y_iload (pc := 93) hF dX11_hole_93 7 rfl ?_
                      refine y_iload (pc := 95) hF dX11_hole_95 6 rfl ?_
                      have zz97 := y_rV (pc := 97) hF (tX11_isKnown (n := n) (σ := σ0) 0 w h T S F P O hn (by omega) zA_σ0 i j (by omega) (by omega)) dX11_hole_97 (by omega) rfl rfl rfl w_1440 qX11_isKnown rfl ⟨Nat.le_of_ble_eq_true rfl, Nat.le_of_ble_eq_true rfl⟩ ⟨Nat.zero_le _, Nat.zero_le _⟩ (Nat.le_of_ble_eq_true rfl) rfl (rest := [yI c1]) (cells := 0) (slots := 0) (lv := [(0, yR g 155), (1, yI x), (2, yI y), (3, yI tx), (4, yI ty), (5, yI c1), (6, yI j), (7, yI i)])
                      refine y_cp (zz97) ?_
                      refine y_t_if_eq (pc := 100) hF dX11_hole_100 dX11_hole_103 dX11_hole_104 dX11_hole_107 bi_r ?_
                      rw [show (if (bi (sKn w h T i j)) = 0 then 0 else 1) = bi (sKn w h T i j) from bi_t]
                      refine y_iadd (pc := 108) hF dX11_hole_108 ?_
                      refine y_istore (pc := 109) (lv' := [(0, yR g 155), (1, yI x), (2, yI y), (3, yI tx), (4, yI ty), (5, yI (c1 + (bi (sKn w h T i j)))), (6, yI j), (7, yI i)]) hF dX11_hole_109 (by decide) rfl rfl ?_
                      refine y_iinc (pc := 111) (lv' := [(0, yR g 155), (1, yI x), (2, yI y), (3, yI tx), (4, yI ty), (5, yI (c1 + (bi (sKn w h T i j)))), (6, yI j), (7, yI (i + 1))]) hF dX11_hole_111 7 rfl (by decide) rfl rfl ?_
                      refine y_goto (pc := 114) hF dX11_hole_114 83 rfl ?_
                      exact zh83 _ (by omega) (i + 1) (c1 + (bi (sKn w h T i j))) rfl ⟨by omega, by have := @bi_01 (sKn w h T i j); omega, by rw [fr_up' _ _ zI83.1.1, ← zI83.2.2]⟩
                exact zL83 _ (x) (c) rfl ⟨by omega, by omega, (fr_no _ _ _).symm⟩
          exact zL73 _ (y) (0) rfl ⟨by omega, by omega, (fr_no _ _ _).symm⟩
        · subst zv59; subst zs59
          refine y_if_ne (pc := 62) hF dX11_hole_62 67 rfl (by decide) (fun zc62 => absurd zc62 (by decide)) (fun _ => ?_)
          refine y_iconst (pc := 65) hF dX11_hole_65 ?_
          exact y_iret (pc := 66) hF dX11_hole_66 (Nat.zero_le _) (Nat.zero_le _) ⟨_, rfl, Nat.le_refl _, Or.inr (Or.inr ⟨(by simpa [zhb] using zb34), (by rw [zhd] at zb59; simpa using zb59), zO_σ0.bA 2⟩)⟩
      refine y_aload_n (pc := 40) hF dX11_hole_40 0 rfl ?_
      refine y_iload_n (pc := 41) hF dX11_hole_41 3 rfl ?_
      refine y_iload_n (pc := 42) hF dX11_hole_42 1 rfl ?_
      refine y_icmp_lt (pc := 43) hF dX11_hole_43 56 rfl (by omega) (by omega) (fun zc43 => ?_) (fun zc43 => ?_)
      · skip
        refine y_iconst (pc := 56) hF dX11_hole_56 ?_
        exact zJ57 false (by simp; omega)
      · skip
        refine y_iload (pc := 46) hF dX11_hole_46 4 rfl ?_
        refine y_iload_n (pc := 48) hF dX11_hole_48 2 rfl ?_
        refine y_icmp_lt (pc := 49) hF dX11_hole_49 56 rfl (by omega) (by omega) (fun zc49 => ?_) (fun zc49 => ?_)
        · skip
          refine y_iconst (pc := 56) hF dX11_hole_56 ?_
          exact zJ57 false (by simp; omega)
        · skip
          refine y_iconst (pc := 52) hF dX11_hole_52 ?_
          refine y_goto (pc := 53) hF dX11_hole_53 57 rfl ?_
          exact zJ57 true (by simp; omega)
    · subst zv34; subst zs34
      refine y_if_eq (pc := 37) hF dX11_hole_37 65 rfl (by decide) (fun _ => ?_) (fun zc37 => absurd zc37 (by decide))
      refine y_iconst (pc := 65) hF dX11_hole_65 ?_
      exact y_iret (pc := 66) hF dX11_hole_66 (Nat.zero_le _) (Nat.zero_le _) ⟨_, rfl, Nat.le_refl _, Or.inr (Or.inl ⟨(by rw [zhb] at zb34; intro ze; rw [ze.1, ze.2] at zb34; cases zb34), zO_σ0.bN 1⟩)⟩
  refine y_aload_n (pc := 5) hF dX11_hole_5 0 rfl ?_
  refine y_aload_n (pc := 6) hF dX11_hole_6 0 rfl ?_
  refine y_iconst (pc := 7) hF dX11_hole_7 ?_
  refine y_iload_n (pc := 8) hF dX11_hole_8 1 rfl ?_
  refine y_iload_n (pc := 9) hF dX11_hole_9 2 rfl ?_
  have zz10 := y_rV (pc := 10) hF (tX11_has (n := n) (σ := σ0) 0 w h T S F P O hn (by omega) zA_σ0 x y hx hy) dX11_hole_10 (by omega) rfl rfl rfl w_1444 qX11_has rfl ⟨Nat.le_of_ble_eq_true rfl, Nat.le_of_ble_eq_true rfl⟩ ⟨Nat.zero_le _, Nat.zero_le _⟩ (Nat.le_of_ble_eq_true rfl) rfl (rest := [yR g 155]) (cells := 0) (slots := 0) (lv := [(0, yR g 155), (1, yI x), (2, yI y), (3, yI tx), (4, yI ty)])
  refine y_cp (zz10) ?_
  refine y_if_eq (pc := 13) hF dX11_hole_13 31 rfl bi_r (fun zc13 => ?_) (fun zc13 => ?_)
  · replace zc13 := bi_0.mp zc13
    refine y_iconst (pc := 31) hF dX11_hole_31 ?_
    exact zJ32 false (by simp [*])
  · replace zc13 := bi_n0.mp zc13
    refine y_aload_n (pc := 16) hF dX11_hole_16 0 rfl ?_
    refine y_iconst (pc := 17) hF dX11_hole_17 ?_
    refine y_iload_n (pc := 18) hF dX11_hole_18 3 rfl ?_
    refine y_iload (pc := 19) hF dX11_hole_19 4 rfl ?_
    have zz21 := y_rV (pc := 21) hF (tX11_has (n := n) (σ := σ0) 0 w h T S F P O hn (by omega) zA_σ0 tx ty htx hty) dX11_hole_21 (by omega) rfl rfl rfl w_1444 qX11_has rfl ⟨Nat.le_of_ble_eq_true rfl, Nat.le_of_ble_eq_true rfl⟩ ⟨Nat.zero_le _, Nat.zero_le _⟩ (Nat.le_of_ble_eq_true rfl) rfl (rest := [yR g 155]) (cells := 0) (slots := 0) (lv := [(0, yR g 155), (1, yI x), (2, yI y), (3, yI tx), (4, yI ty)])
    refine y_cp (zz21) ?_
    refine y_if_eq (pc := 24) hF dX11_hole_24 31 rfl bi_r (fun zc24 => ?_) (fun zc24 => ?_)
    · replace zc24 := bi_0.mp zc24
      refine y_iconst (pc := 31) hF dX11_hole_31 ?_
      exact zJ32 false (by simp [*])
    · replace zc24 := bi_n0.mp zc24
      refine y_iconst (pc := 27) hF dX11_hole_27 ?_
      refine y_goto (pc := 28) hF dX11_hole_28 32 rfl ?_
      exact zJ32 true (by simp [*])
