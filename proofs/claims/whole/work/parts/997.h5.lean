theorem dX11_guides_0 : decode cX11_guides 0 = .ok (.iload_n 1, 1) := by decide +kernel
theorem dX11_guides_1 : decode cX11_guides 1 = .ok (.ifCond .le 15, 3) := by decide +kernel
theorem dX11_guides_4 : decode cX11_guides 4 = .ok (.aload_n 0, 1) := by decide +kernel
theorem dX11_guides_5 : decode cX11_guides 5 = .ok (.iconst 0, 1) := by decide +kernel
theorem dX11_guides_6 : decode cX11_guides 6 = .ok (.invokevirtual 232, 3) := by decide +kernel
theorem dX11_guides_9 : decode cX11_guides 9 = .ok (.ifCond .eq 7, 3) := by decide +kernel
theorem dX11_guides_12 : decode cX11_guides 12 = .ok (.iconst 1, 1) := by decide +kernel
theorem dX11_guides_13 : decode cX11_guides 13 = .ok (.goto 4, 3) := by decide +kernel
theorem dX11_guides_16 : decode cX11_guides 16 = .ok (.iconst 0, 1) := by decide +kernel
theorem dX11_guides_17 : decode cX11_guides 17 = .ok (.istore_n 2, 1) := by decide +kernel
theorem dX11_guides_18 : decode cX11_guides 18 = .ok (.iload_n 2, 1) := by decide +kernel
theorem dX11_guides_19 : decode cX11_guides 19 = .ok (.ifCond .eq 20, 3) := by decide +kernel
theorem dX11_guides_22 : decode cX11_guides 22 = .ok (.iload_n 1, 1) := by decide +kernel
theorem dX11_guides_23 : decode cX11_guides 23 = .ok (.iconst 1, 1) := by decide +kernel
theorem dX11_guides_24 : decode cX11_guides 24 = .ok (.if_icmp .le 15, 3) := by decide +kernel
theorem dX11_guides_27 : decode cX11_guides 27 = .ok (.aload_n 0, 1) := by decide +kernel
theorem dX11_guides_28 : decode cX11_guides 28 = .ok (.iconst 1, 1) := by decide +kernel
theorem dX11_guides_29 : decode cX11_guides 29 = .ok (.invokevirtual 232, 3) := by decide +kernel
theorem dX11_guides_32 : decode cX11_guides 32 = .ok (.ifCond .eq 7, 3) := by decide +kernel
theorem dX11_guides_35 : decode cX11_guides 35 = .ok (.iconst 1, 1) := by decide +kernel
theorem dX11_guides_36 : decode cX11_guides 36 = .ok (.goto 4, 3) := by decide +kernel
theorem dX11_guides_39 : decode cX11_guides 39 = .ok (.iconst 0, 1) := by decide +kernel
theorem dX11_guides_40 : decode cX11_guides 40 = .ok (.istore_n 3, 1) := by decide +kernel
theorem dX11_guides_41 : decode cX11_guides 41 = .ok (.iload_n 3, 1) := by decide +kernel
theorem dX11_guides_42 : decode cX11_guides 42 = .ok (.ifCond .eq 13, 3) := by decide +kernel
theorem dX11_guides_45 : decode cX11_guides 45 = .ok (.aload_n 0, 1) := by decide +kernel
theorem dX11_guides_46 : decode cX11_guides 46 = .ok (.iconst 2, 1) := by decide +kernel
theorem dX11_guides_47 : decode cX11_guides 47 = .ok (.iconst 0, 1) := by decide +kernel
theorem dX11_guides_48 : decode cX11_guides 48 = .ok (.sipush 400, 3) := by decide +kernel
theorem dX11_guides_51 : decode cX11_guides 51 = .ok (.invokevirtual 235, 3) := by decide +kernel
theorem dX11_guides_54 : decode cX11_guides 54 = .ok (.pop, 1) := by decide +kernel
theorem dX11_guides_55 : decode cX11_guides 55 = .ok (.iload_n 2, 1) := by decide +kernel
theorem dX11_guides_56 : decode cX11_guides 56 = .ok (.ifCond .eq 13, 3) := by decide +kernel
theorem dX11_guides_59 : decode cX11_guides 59 = .ok (.aload_n 0, 1) := by decide +kernel
theorem dX11_guides_60 : decode cX11_guides 60 = .ok (.iconst 1, 1) := by decide +kernel
theorem dX11_guides_61 : decode cX11_guides 61 = .ok (.iload_n 3, 1) := by decide +kernel
theorem dX11_guides_62 : decode cX11_guides 62 = .ok (.sipush 400, 3) := by decide +kernel
theorem dX11_guides_65 : decode cX11_guides 65 = .ok (.invokevirtual 235, 3) := by decide +kernel
theorem dX11_guides_68 : decode cX11_guides 68 = .ok (.pop, 1) := by decide +kernel
theorem dX11_guides_69 : decode cX11_guides 69 = .ok (.aload_n 0, 1) := by decide +kernel
theorem dX11_guides_70 : decode cX11_guides 70 = .ok (.iconst 0, 1) := by decide +kernel
theorem dX11_guides_71 : decode cX11_guides 71 = .ok (.iload_n 2, 1) := by decide +kernel
theorem dX11_guides_72 : decode cX11_guides 72 = .ok (.sipush 400, 3) := by decide +kernel
theorem dX11_guides_75 : decode cX11_guides 75 = .ok (.invokevirtual 235, 3) := by decide +kernel
theorem dX11_guides_78 : decode cX11_guides 78 = .ok (.ireturn, 1) := by decide +kernel
set_option maxHeartbeats 4000000 in
set_option maxRecDepth 100000 in
theorem tX11_guides {l : Launch} {g : yG} {n : Nat} {σ : yM} (w h : Int) (T S F P O : Int → Int → Int) (s re fo ra tu we sh : Int) (nf df nl : Int) (lg : Int → Int → Int) (hn : 172 ≤ n) (hA : rM σ 0 w h T S F P O) (hL : rL σ 0 nf df nl lg) (hnf : nf < 800000000) (hS : rS σ 166 s re fo ra tu we sh) (lv : Int) (hlv : 0 ≤ lv ∧ lv ≤ 2) : yMet l g yX11_guides cX11_guides 4 (some .int) (rmA 10 303 2727) [yR g 155, yI lv] (SC g) n σ (SC g) (yPi (fun v n' σ' => v = (((gR w h s re fo ra tu we sh lv (400 : Int).toNat (T, S, F, P, O, nf, df, nl, lg)).1 : Nat) : Int) ∧ n ≤ n' ∧ rX σ' 0 w h (gR w h s re fo ra tu we sh lv (400 : Int).toNat (T, S, F, P, O, nf, df, nl, lg)).2 ∧ fY σ σ')) := by
  obtain ⟨hw1, hw2, hw3, hw4⟩ := id hA.1.1
  obtain ⟨hs1, hs2, hs3, hs4, hs5, hs6, hs7⟩ := id hS.2
  have hA0 : rX σ 0 w h (T, S, F, P, O, nf, df, nl, lg) := ⟨hA, hL⟩
  refine y_start (by decide) (Nat.le_of_ble_eq_true rfl) (fun X0 hF => ?_)
  show yV X0 g 4 (yQ X0 g (SC g) (yPi (fun v n' σ' => v = (((gR w h s re fo ra tu we sh lv (400 : Int).toNat (T, S, F, P, O, nf, df, nl, lg)).1 : Nat) : Int) ∧ n ≤ n' ∧ rX σ' 0 w h (gR w h s re fo ra tu we sh lv (400 : Int).toNat (T, S, F, P, O, nf, df, nl, lg)).2 ∧ fY σ σ')) (rmA 10 303 2727)) (SC g) n σ 0 0 0 [(0, yR g 155), (1, yI lv)] []
  refine y_iload_n (pc := 0) hF dX11_guides_0 1 rfl ?_
  refine y_if_le (pc := 1) hF dX11_guides_1 16 rfl (by omega) (fun zc1 => ?_) (fun zc1 => ?_)
  · skip
    refine y_iconst (pc := 16) hF dX11_guides_16 ?_
    refine y_istore_n (pc := 17) (lv' := [(0, yR g 155), (1, yI lv), (2, yI 0)]) hF dX11_guides_17 (by decide) rfl rfl ?_
    refine y_iload_n (pc := 18) hF dX11_guides_18 2 rfl ?_
    refine y_if_eq (pc := 19) hF dX11_guides_19 39 rfl (by decide) (fun _ => ?_) (fun zc19 => absurd zc19 (by decide))
    refine y_iconst (pc := 39) hF dX11_guides_39 ?_
    refine y_istore_n (pc := 40) (lv' := [(0, yR g 155), (1, yI lv), (2, yI 0), (3, yI 0)]) hF dX11_guides_40 (by decide) rfl rfl ?_
    refine y_iload_n (pc := 41) hF dX11_guides_41 3 rfl ?_
    refine y_if_eq (pc := 42) hF dX11_guides_42 55 rfl (by decide) (fun _ => ?_) (fun zc42 => absurd zc42 (by decide))
    refine y_iload_n (pc := 55) hF dX11_guides_55 2 rfl ?_
    refine y_if_eq (pc := 56) hF dX11_guides_56 69 rfl (by decide) (fun _ => ?_) (fun zc56 => absurd zc56 (by decide))
    skip
    skip
    skip
    have zX0 : rX σ 0 w h (T, S, F, P, O, nf, df, nl, lg) := hA0
    have zS0 := hS
    have zfy := fY.rf σ
    refine y_aload_n (pc := 69) hF dX11_guides_69 0 rfl ?_
    refine y_iconst (pc := 70) hF dX11_guides_70 ?_
    refine y_iload_n (pc := 71) hF dX11_guides_71 2 rfl ?_
    refine y_sipush (pc := 72) hF dX11_guides_72 (by decide) ?_
    refine y_ci (cells' := 101) (slots' := 909) (y_rV (pc := 75) hF (tX11_fillsAll 0 w h T S F P O w h T S F P O s re fo ra tu we sh nf df nl lg false hn (by omega) zX0.1 zX0.2 hnf (fun ze => by cases ze) zS0 400 (by decide)) dX11_guides_75 (by omega) rfl rfl rfl w_1488 qX11_fillsAll rfl ⟨Nat.le_of_ble_eq_true rfl, Nat.le_of_ble_eq_true rfl⟩ ⟨Nat.le_of_ble_eq_true rfl, Nat.le_of_ble_eq_true rfl⟩ (Nat.le_of_ble_eq_true rfl) rfl) rfl rfl (fun r75 n75 σ75 zp75 => ?_)
    obtain ⟨zv75, zn75, zl75, zx75, zz75⟩ := zp75
    rw [zv75]
    have hn : 172 ≤ n75 := by omega
    have zh0 : nHf w h lv = 0 := by unfold nHf; rw [if_neg (fun ze => by omega)]
    exact y_iret (pc := 78) hF dX11_guides_78 (Nat.le_of_ble_eq_true rfl) (Nat.le_of_ble_eq_true rfl) ⟨_, rfl, by rw [gR_00 (F2 := F) (P2 := P) zh0], by omega, by rw [gR_00 (F2 := F) (P2 := P) zh0]; exact zx75, zfy.tr (zz75.y (by omega))⟩
  · skip
    refine y_aload_n (pc := 4) hF dX11_guides_4 0 rfl ?_
    refine y_iconst (pc := 5) hF dX11_guides_5 ?_
    refine y_ci (y_rV (pc := 6) hF (tX11_halves 0 w h T S F P O hn (by omega) (by omega) hA (fun _ _ => 0)) dX11_guides_6 (by omega) rfl rfl rfl w_1605 qX11_halves rfl ⟨Nat.le_of_ble_eq_true rfl, Nat.le_of_ble_eq_true rfl⟩ ⟨Nat.le_of_ble_eq_true rfl, Nat.le_of_ble_eq_true rfl⟩ (Nat.le_of_ble_eq_true rfl) rfl) rfl rfl (fun r6 n' σ6 zp6 => ?_)
    obtain ⟨zn6, zw6, zh6, zf6, zv6, zx6⟩ := zp6
    have zn6 := zn6.symm
    subst zn6
    subst zv6
    refine y_if_eq (pc := 9) hF dX11_guides_9 16 rfl bi_r (fun zc9 => ?_) (fun zc9 => ?_)
    · replace zc9 := bi_0.mp zc9
      refine y_iconst (pc := 16) hF dX11_guides_16 ?_
      refine y_istore_n (pc := 17) (lv' := [(0, yR g 155), (1, yI lv), (2, yI 0)]) hF dX11_guides_17 (by decide) rfl rfl ?_
      refine y_iload_n (pc := 18) hF dX11_guides_18 2 rfl ?_
      refine y_if_eq (pc := 19) hF dX11_guides_19 39 rfl (by decide) (fun _ => ?_) (fun zc19 => absurd zc19 (by decide))
      refine y_iconst (pc := 39) hF dX11_guides_39 ?_
      refine y_istore_n (pc := 40) (lv' := [(0, yR g 155), (1, yI lv), (2, yI 0), (3, yI 0)]) hF dX11_guides_40 (by decide) rfl rfl ?_
      refine y_iload_n (pc := 41) hF dX11_guides_41 3 rfl ?_
      refine y_if_eq (pc := 42) hF dX11_guides_42 55 rfl (by decide) (fun _ => ?_) (fun zc42 => absurd zc42 (by decide))
      refine y_iload_n (pc := 55) hF dX11_guides_55 2 rfl ?_
      refine y_if_eq (pc := 56) hF dX11_guides_56 69 rfl (by decide) (fun _ => ?_) (fun zc56 => absurd zc56 (by decide))
      skip
      skip
      skip
      have zX0 : rX σ6 0 w h (T, S, F, P, O, nf, df, nl, lg) := hA0.fV (z := 0) (by omega) (by omega) (by omega) zf6
      have zS0 := hS.fV (z := 0) (by omega) zf6
      have zfy : fY σ σ6 := fV.y (z := 0) (by omega) zf6
      refine y_aload_n (pc := 69) hF dX11_guides_69 0 rfl ?_
      refine y_iconst (pc := 70) hF dX11_guides_70 ?_
      refine y_iload_n (pc := 71) hF dX11_guides_71 2 rfl ?_
      refine y_sipush (pc := 72) hF dX11_guides_72 (by decide) ?_
      refine y_ci (cells' := 101) (slots' := 909) (y_rV (pc := 75) hF (tX11_fillsAll 0 w h T S F P O w h T S F P O s re fo ra tu we sh nf df nl lg false hn (by omega) zX0.1 zX0.2 hnf (fun ze => by cases ze) zS0 400 (by decide)) dX11_guides_75 (by omega) rfl rfl rfl w_1488 qX11_fillsAll rfl ⟨Nat.le_of_ble_eq_true rfl, Nat.le_of_ble_eq_true rfl⟩ ⟨Nat.le_of_ble_eq_true rfl, Nat.le_of_ble_eq_true rfl⟩ (Nat.le_of_ble_eq_true rfl) rfl) rfl rfl (fun r75 n75 σ75 zp75 => ?_)
      obtain ⟨zv75, zn75, zl75, zx75, zz75⟩ := zp75
      rw [zv75]
      have hn : 172 ≤ n75 := by omega
      have zh0 : nHf w h lv = 0 := by unfold nHf; rw [if_neg (fun ze => by simp at zc9; omega)]
      exact y_iret (pc := 78) hF dX11_guides_78 (Nat.le_of_ble_eq_true rfl) (Nat.le_of_ble_eq_true rfl) ⟨_, rfl, by rw [gR_00 (F2 := F) (P2 := P) zh0], by omega, by rw [gR_00 (F2 := F) (P2 := P) zh0]; exact zx75, zfy.tr (zz75.y (by omega))⟩
    · replace zc9 := bi_n0.mp zc9
      have zc1 : 3 ≤ (w + 1) / 2 ∧ 3 ≤ (h + 1) / 2 := by simpa using zc9
      refine y_iconst (pc := 12) hF dX11_guides_12 ?_
      refine y_goto (pc := 13) hF dX11_guides_13 17 rfl ?_
      refine y_istore_n (pc := 17) (lv' := [(0, yR g 155), (1, yI lv), (2, yI 1)]) hF dX11_guides_17 (by decide) rfl rfl ?_
      refine y_iload_n (pc := 18) hF dX11_guides_18 2 rfl ?_
      refine y_if_eq (pc := 19) hF dX11_guides_19 39 rfl (by decide) (fun zc19 => absurd zc19 (by decide)) (fun _ => ?_)
      refine y_iload_n (pc := 22) hF dX11_guides_22 1 rfl ?_
      refine y_iconst (pc := 23) hF dX11_guides_23 ?_
      refine y_icmp_le (pc := 24) hF dX11_guides_24 39 rfl (by omega) (by omega) (fun zc24 => ?_) (fun zc24 => ?_)
      · skip
        refine y_iconst (pc := 39) hF dX11_guides_39 ?_
        refine y_istore_n (pc := 40) (lv' := [(0, yR g 155), (1, yI lv), (2, yI 1), (3, yI 0)]) hF dX11_guides_40 (by decide) rfl rfl ?_
        refine y_iload_n (pc := 41) hF dX11_guides_41 3 rfl ?_
        refine y_if_eq (pc := 42) hF dX11_guides_42 55 rfl (by decide) (fun _ => ?_) (fun zc42 => absurd zc42 (by decide))
        refine y_iload_n (pc := 55) hF dX11_guides_55 2 rfl ?_
        refine y_if_eq (pc := 56) hF dX11_guides_56 69 rfl (by decide) (fun zc56 => absurd zc56 (by decide)) (fun _ => ?_)
        have zX1 := zx6 zc1
        have zS1 := hS.fV (z := 0) (by omega) zf6
        have zX01 := hA0.fV (z := 0) (by omega) (by omega) (by omega) zf6
        have zfy1 : fY σ σ6 := fV.y (z := 0) (by omega) zf6
        refine y_aload_n (pc := 59) hF dX11_guides_59 0 rfl ?_
        refine y_iconst (pc := 60) hF dX11_guides_60 ?_
        refine y_iload_n (pc := 61) hF dX11_guides_61 3 rfl ?_
        refine y_sipush (pc := 62) hF dX11_guides_62 (by decide) ?_
        refine y_ci (cells' := 101) (slots' := 909) (y_rV (pc := 65) hF (tX11_fillsAll 1 ((w + 1) / 2) ((h + 1) / 2) (sHf w h T) (hS_ (sHf w h T)) (fun _ _ => 0) (fun _ _ => -1) (fun _ _ => -1) w h T S (g2 w h s re fo ra tu we sh T).2.2.1 (g2 w h s re fo ra tu we sh T).2.2.2.1 O s re fo ra tu we sh 0 0 0 (fun _ _ => 0) false hn (by omega) zX1.m zX1.l (by decide) (fun ze => by cases ze) zS1 400 (by decide)) dX11_guides_65 (by omega) rfl rfl rfl w_1488 qX11_fillsAll rfl ⟨Nat.le_of_ble_eq_true rfl, Nat.le_of_ble_eq_true rfl⟩ ⟨Nat.le_of_ble_eq_true rfl, Nat.le_of_ble_eq_true rfl⟩ (Nat.le_of_ble_eq_true rfl) rfl) rfl rfl (fun r65 n65 σ65 zp65 => ?_)
        obtain ⟨zv65, zn65, zl65, zx65, zz65⟩ := zp65
        have hn : 172 ≤ n65 := by omega
        refine y_pop (pc := 68) hF dX11_guides_68 rfl ?_
        obtain ⟨X1, hX1⟩ : ∃ q, q = g1 w h s re fo ra tu we sh T false := ⟨_, rfl⟩
        have zx1 : rX σ65 1 ((w + 1) / 2) ((h + 1) / 2) X1 := by rw [hX1]; exact zx65
        obtain ⟨T1, S1, F1, P1, O1, nf1, df1, nl1, lg1⟩ := X1
        have zX0 : rX σ65 0 w h (T, S, F, P, O, nf, df, nl, lg) := zX01.fZ (by omega) (by omega) (by omega) zz65
        have zS0 := zS1.fZ (by omega) zz65
        have zfy : fY σ σ65 := zfy1.tr (zz65.y (by omega))
        refine y_aload_n (pc := 69) hF dX11_guides_69 0 rfl ?_
        refine y_iconst (pc := 70) hF dX11_guides_70 ?_
        refine y_iload_n (pc := 71) hF dX11_guides_71 2 rfl ?_
        refine y_sipush (pc := 72) hF dX11_guides_72 (by decide) ?_
        refine y_ci (cells' := 202) (slots' := 1818) (y_rV (pc := 75) hF (tX11_fillsAll 0 w h T S F P O ((w + 1) / 2) ((h + 1) / 2) T1 S1 F1 P1 O1 s re fo ra tu we sh nf df nl lg true hn (by omega) zX0.1 zX0.2 hnf (fun _ => ⟨by omega, zx1.1, rfl, rfl⟩) zS0 400 (by decide)) dX11_guides_75 (by omega) rfl rfl rfl w_1488 qX11_fillsAll rfl ⟨Nat.le_of_ble_eq_true rfl, Nat.le_of_ble_eq_true rfl⟩ ⟨Nat.le_of_ble_eq_true rfl, Nat.le_of_ble_eq_true rfl⟩ (Nat.le_of_ble_eq_true rfl) rfl) rfl rfl (fun r75 n75 σ75 zp75 => ?_)
        obtain ⟨zv75, zn75, zl75, zx75, zz75⟩ := zp75
        rw [zv75]
        have hn : 172 ≤ n75 := by omega
        have zh1 : nHf w h lv = 1 := by unfold nHf; rw [if_pos ⟨by omega, zc1⟩, if_neg (fun ze => by omega)]
        exact y_iret (pc := 78) hF dX11_guides_78 (Nat.le_of_ble_eq_true rfl) (Nat.le_of_ble_eq_true rfl) ⟨_, rfl, by rw [gR_11 zh1]; rw [← hX1], by omega, by rw [gR_11 zh1]; rw [← hX1]; exact zx75, zfy.tr (zz75.y (by omega))⟩
      · skip
        refine y_aload_n (pc := 27) hF dX11_guides_27 0 rfl ?_
        refine y_iconst (pc := 28) hF dX11_guides_28 ?_
        refine y_ci (y_rV (pc := 29) hF (tX11_halves 1 ((w + 1) / 2) ((h + 1) / 2) (sHf w h T) (hS_ (sHf w h T)) (fun _ _ => 0) (fun _ _ => -1) (fun _ _ => -1) hn (by omega) (by omega) (zx6 zc1).m (fun _ _ => 0)) dX11_guides_29 (by omega) rfl rfl rfl w_1605 qX11_halves rfl ⟨Nat.le_of_ble_eq_true rfl, Nat.le_of_ble_eq_true rfl⟩ ⟨Nat.le_of_ble_eq_true rfl, Nat.le_of_ble_eq_true rfl⟩ (Nat.le_of_ble_eq_true rfl) rfl) rfl rfl (fun r29 n' σ29 zp29 => ?_)
        obtain ⟨zn29, zw29, zh29, zf29, zv29, zx29⟩ := zp29
        have zn29 := zn29.symm
        subst zn29
        subst zv29
        refine y_if_eq (pc := 32) hF dX11_guides_32 39 rfl bi_r (fun zc32 => ?_) (fun zc32 => ?_)
        · replace zc32 := bi_0.mp zc32
          refine y_iconst (pc := 39) hF dX11_guides_39 ?_
          refine y_istore_n (pc := 40) (lv' := [(0, yR g 155), (1, yI lv), (2, yI 1), (3, yI 0)]) hF dX11_guides_40 (by decide) rfl rfl ?_
          refine y_iload_n (pc := 41) hF dX11_guides_41 3 rfl ?_
          refine y_if_eq (pc := 42) hF dX11_guides_42 55 rfl (by decide) (fun _ => ?_) (fun zc42 => absurd zc42 (by decide))
          refine y_iload_n (pc := 55) hF dX11_guides_55 2 rfl ?_
          refine y_if_eq (pc := 56) hF dX11_guides_56 69 rfl (by decide) (fun zc56 => absurd zc56 (by decide)) (fun _ => ?_)
          have zX1 := (zx6 zc1).fV (z := 1) (by omega) (by omega) (by omega) zf29
          have zS1 := (hS.fV (z := 0) (by omega) zf6).fV (z := 1) (by omega) zf29
          have zX01 := (hA0.fV (z := 0) (by omega) (by omega) (by omega) zf6).fV (z := 1) (by omega) (by omega) (by omega) zf29
          have zfy1 : fY σ σ29 := (fV.y (z := 0) (by omega) zf6).tr (fV.y (z := 1) (by omega) zf29)
          refine y_aload_n (pc := 59) hF dX11_guides_59 0 rfl ?_
          refine y_iconst (pc := 60) hF dX11_guides_60 ?_
          refine y_iload_n (pc := 61) hF dX11_guides_61 3 rfl ?_
          refine y_sipush (pc := 62) hF dX11_guides_62 (by decide) ?_
          refine y_ci (cells' := 101) (slots' := 909) (y_rV (pc := 65) hF (tX11_fillsAll 1 ((w + 1) / 2) ((h + 1) / 2) (sHf w h T) (hS_ (sHf w h T)) (fun _ _ => 0) (fun _ _ => -1) (fun _ _ => -1) w h T S (g2 w h s re fo ra tu we sh T).2.2.1 (g2 w h s re fo ra tu we sh T).2.2.2.1 O s re fo ra tu we sh 0 0 0 (fun _ _ => 0) false hn (by omega) zX1.m zX1.l (by decide) (fun ze => by cases ze) zS1 400 (by decide)) dX11_guides_65 (by omega) rfl rfl rfl w_1488 qX11_fillsAll rfl ⟨Nat.le_of_ble_eq_true rfl, Nat.le_of_ble_eq_true rfl⟩ ⟨Nat.le_of_ble_eq_true rfl, Nat.le_of_ble_eq_true rfl⟩ (Nat.le_of_ble_eq_true rfl) rfl) rfl rfl (fun r65 n65 σ65 zp65 => ?_)
          obtain ⟨zv65, zn65, zl65, zx65, zz65⟩ := zp65
          have hn : 172 ≤ n65 := by omega
          refine y_pop (pc := 68) hF dX11_guides_68 rfl ?_
          obtain ⟨X1, hX1⟩ : ∃ q, q = g1 w h s re fo ra tu we sh T false := ⟨_, rfl⟩
          have zx1 : rX σ65 1 ((w + 1) / 2) ((h + 1) / 2) X1 := by rw [hX1]; exact zx65
          obtain ⟨T1, S1, F1, P1, O1, nf1, df1, nl1, lg1⟩ := X1
          have zX0 : rX σ65 0 w h (T, S, F, P, O, nf, df, nl, lg) := zX01.fZ (by omega) (by omega) (by omega) zz65
          have zS0 := zS1.fZ (by omega) zz65
          have zfy : fY σ σ65 := zfy1.tr (zz65.y (by omega))
          refine y_aload_n (pc := 69) hF dX11_guides_69 0 rfl ?_
          refine y_iconst (pc := 70) hF dX11_guides_70 ?_
          refine y_iload_n (pc := 71) hF dX11_guides_71 2 rfl ?_
          refine y_sipush (pc := 72) hF dX11_guides_72 (by decide) ?_
          refine y_ci (cells' := 202) (slots' := 1818) (y_rV (pc := 75) hF (tX11_fillsAll 0 w h T S F P O ((w + 1) / 2) ((h + 1) / 2) T1 S1 F1 P1 O1 s re fo ra tu we sh nf df nl lg true hn (by omega) zX0.1 zX0.2 hnf (fun _ => ⟨by omega, zx1.1, rfl, rfl⟩) zS0 400 (by decide)) dX11_guides_75 (by omega) rfl rfl rfl w_1488 qX11_fillsAll rfl ⟨Nat.le_of_ble_eq_true rfl, Nat.le_of_ble_eq_true rfl⟩ ⟨Nat.le_of_ble_eq_true rfl, Nat.le_of_ble_eq_true rfl⟩ (Nat.le_of_ble_eq_true rfl) rfl) rfl rfl (fun r75 n75 σ75 zp75 => ?_)
          obtain ⟨zv75, zn75, zl75, zx75, zz75⟩ := zp75
          rw [zv75]
          have hn : 172 ≤ n75 := by omega
          have zh1 : nHf w h lv = 1 := by unfold nHf; rw [if_pos ⟨by omega, zc1⟩, if_neg (fun ze => by simp at zc32; omega)]
          exact y_iret (pc := 78) hF dX11_guides_78 (Nat.le_of_ble_eq_true rfl) (Nat.le_of_ble_eq_true rfl) ⟨_, rfl, by rw [gR_11 zh1]; rw [← hX1], by omega, by rw [gR_11 zh1]; rw [← hX1]; exact zx75, zfy.tr (zz75.y (by omega))⟩
        · replace zc32 := bi_n0.mp zc32
          have zc2 : 3 ≤ (((w + 1) / 2) + 1) / 2 ∧ 3 ≤ (((h + 1) / 2) + 1) / 2 := by simpa using zc32
          refine y_iconst (pc := 35) hF dX11_guides_35 ?_
          refine y_goto (pc := 36) hF dX11_guides_36 40 rfl ?_
          refine y_istore_n (pc := 40) (lv' := [(0, yR g 155), (1, yI lv), (2, yI 1), (3, yI 1)]) hF dX11_guides_40 (by decide) rfl rfl ?_
          refine y_iload_n (pc := 41) hF dX11_guides_41 3 rfl ?_
          refine y_if_eq (pc := 42) hF dX11_guides_42 55 rfl (by decide) (fun zc42 => absurd zc42 (by decide)) (fun _ => ?_)
          refine y_aload_n (pc := 45) hF dX11_guides_45 0 rfl ?_
          refine y_iconst (pc := 46) hF dX11_guides_46 ?_
          refine y_iconst (pc := 47) hF dX11_guides_47 ?_
          refine y_sipush (pc := 48) hF dX11_guides_48 (by decide) ?_
          refine y_ci (cells' := 101) (slots' := 909) (y_rV (pc := 51) hF (tX11_fillsAll 2 ((((w + 1) / 2) + 1) / 2) ((((h + 1) / 2) + 1) / 2) (sHf ((w + 1) / 2) ((h + 1) / 2) (sHf w h T)) (hS_ (sHf ((w + 1) / 2) ((h + 1) / 2) (sHf w h T))) (fun _ _ => 0) (fun _ _ => -1) (fun _ _ => -1) w h T S (fun _ _ => 0) (fun _ _ => 0) O s re fo ra tu we sh 0 0 0 (fun _ _ => 0) false hn (by omega) (zx29 zc2).m (zx29 zc2).l (by decide) (fun ze => by cases ze) ((hS.fV (by omega) zf6).fV (by omega) zf29) 400 (by decide)) dX11_guides_51 (by omega) rfl rfl rfl w_1488 qX11_fillsAll rfl ⟨Nat.le_of_ble_eq_true rfl, Nat.le_of_ble_eq_true rfl⟩ ⟨Nat.le_of_ble_eq_true rfl, Nat.le_of_ble_eq_true rfl⟩ (Nat.le_of_ble_eq_true rfl) rfl) rfl rfl (fun r51 n51 σ51 zp51 => ?_)
          obtain ⟨zv51, zn51, zl51, zx51, zz51⟩ := zp51
          have hn : 172 ≤ n51 := by omega
          obtain ⟨X2, hX2⟩ : ∃ q, q = g2 w h s re fo ra tu we sh T := ⟨_, rfl⟩
          have zx2 : rX σ51 2 ((((w + 1) / 2) + 1) / 2) ((((h + 1) / 2) + 1) / 2) X2 := by rw [hX2]; exact zx51
          obtain ⟨T2, S2, F2, P2, O2, nf2, df2, nl2, lg2⟩ := X2
          refine y_pop (pc := 54) hF dX11_guides_54 rfl ?_
          refine y_iload_n (pc := 55) hF dX11_guides_55 2 rfl ?_
          refine y_if_eq (pc := 56) hF dX11_guides_56 69 rfl (by decide) (fun zc56 => absurd zc56 (by decide)) (fun _ => ?_)
          have zX1 := ((zx6 zc1).fV (z := 1) (by omega) (by omega) (by omega) zf29).fZ (by omega) (by omega) (by omega) zz51
          have zS1 := ((hS.fV (z := 0) (by omega) zf6).fV (z := 1) (by omega) zf29).fZ (by omega) zz51
          have zX01 := ((hA0.fV (z := 0) (by omega) (by omega) (by omega) zf6).fV (z := 1) (by omega) (by omega) (by omega) zf29).fZ (by omega) (by omega) (by omega) zz51
          have zfy1 : fY σ σ51 := ((fV.y (z := 0) (by omega) zf6).tr (fV.y (z := 1) (by omega) zf29)).tr (zz51.y (by omega))
          refine y_aload_n (pc := 59) hF dX11_guides_59 0 rfl ?_
          refine y_iconst (pc := 60) hF dX11_guides_60 ?_
          refine y_iload_n (pc := 61) hF dX11_guides_61 3 rfl ?_
          refine y_sipush (pc := 62) hF dX11_guides_62 (by decide) ?_
          refine y_ci (cells' := 202) (slots' := 1818) (y_rV (pc := 65) hF (tX11_fillsAll 1 ((w + 1) / 2) ((h + 1) / 2) (sHf w h T) (hS_ (sHf w h T)) (fun _ _ => 0) (fun _ _ => -1) (fun _ _ => -1) ((((w + 1) / 2) + 1) / 2) ((((h + 1) / 2) + 1) / 2) T2 S2 F2 P2 O2 s re fo ra tu we sh 0 0 0 (fun _ _ => 0) true hn (by omega) zX1.m zX1.l (by decide) (fun _ => ⟨by omega, zx2.1, rfl, rfl⟩) zS1 400 (by decide)) dX11_guides_65 (by omega) rfl rfl rfl w_1488 qX11_fillsAll rfl ⟨Nat.le_of_ble_eq_true rfl, Nat.le_of_ble_eq_true rfl⟩ ⟨Nat.le_of_ble_eq_true rfl, Nat.le_of_ble_eq_true rfl⟩ (Nat.le_of_ble_eq_true rfl) rfl) rfl rfl (fun r65 n65 σ65 zp65 => ?_)
          obtain ⟨zv65, zn65, zl65, zx65, zz65⟩ := zp65
          have hn : 172 ≤ n65 := by omega
          refine y_pop (pc := 68) hF dX11_guides_68 rfl ?_
          obtain ⟨X1, hX1⟩ : ∃ q, q = g1 w h s re fo ra tu we sh T true := ⟨_, rfl⟩
          have zx1 : rX σ65 1 ((w + 1) / 2) ((h + 1) / 2) X1 := by rw [hX1]; unfold g1; rw [← hX2]; exact zx65
          obtain ⟨T1, S1, F1, P1, O1, nf1, df1, nl1, lg1⟩ := X1
          have zX0 : rX σ65 0 w h (T, S, F, P, O, nf, df, nl, lg) := zX01.fZ (by omega) (by omega) (by omega) zz65
          have zS0 := zS1.fZ (by omega) zz65
          have zfy : fY σ σ65 := zfy1.tr (zz65.y (by omega))
          refine y_aload_n (pc := 69) hF dX11_guides_69 0 rfl ?_
          refine y_iconst (pc := 70) hF dX11_guides_70 ?_
          refine y_iload_n (pc := 71) hF dX11_guides_71 2 rfl ?_
          refine y_sipush (pc := 72) hF dX11_guides_72 (by decide) ?_
          refine y_ci (cells' := 303) (slots' := 2727) (y_rV (pc := 75) hF (tX11_fillsAll 0 w h T S F P O ((w + 1) / 2) ((h + 1) / 2) T1 S1 F1 P1 O1 s re fo ra tu we sh nf df nl lg true hn (by omega) zX0.1 zX0.2 hnf (fun _ => ⟨by omega, zx1.1, rfl, rfl⟩) zS0 400 (by decide)) dX11_guides_75 (by omega) rfl rfl rfl w_1488 qX11_fillsAll rfl ⟨Nat.le_of_ble_eq_true rfl, Nat.le_of_ble_eq_true rfl⟩ ⟨Nat.le_of_ble_eq_true rfl, Nat.le_of_ble_eq_true rfl⟩ (Nat.le_of_ble_eq_true rfl) rfl) rfl rfl (fun r75 n75 σ75 zp75 => ?_)
          obtain ⟨zv75, zn75, zl75, zx75, zz75⟩ := zp75
          rw [zv75]
          have hn : 172 ≤ n75 := by omega
          have zh2 : nHf w h lv = 2 := by unfold nHf; rw [if_pos ⟨by omega, zc1⟩, if_pos ⟨by omega, zc2⟩]
          exact y_iret (pc := 78) hF dX11_guides_78 (Nat.le_of_ble_eq_true rfl) (Nat.le_of_ble_eq_true rfl) ⟨_, rfl, by rw [gR_22 zh2]; rw [← hX1], by omega, by rw [gR_22 zh2]; rw [← hX1]; exact zx75, zfy.tr (zz75.y (by omega))⟩

theorem dX11_fill_0 : decode cX11_fill 0 = .ok (.aload_n 0, 1) := by decide +kernel
theorem dX11_fill_1 : decode cX11_fill 1 = .ok (.iconst 0, 1) := by decide +kernel
theorem dX11_fill_2 : decode cX11_fill 2 = .ok (.putfield 1, 3) := by decide +kernel
theorem dX11_fill_5 : decode cX11_fill 5 = .ok (.aload_n 0, 1) := by decide +kernel
theorem dX11_fill_6 : decode cX11_fill 6 = .ok (.iload_n 1, 1) := by decide +kernel
theorem dX11_fill_7 : decode cX11_fill 7 = .ok (.iconst 1, 1) := by decide +kernel
theorem dX11_fill_8 : decode cX11_fill 8 = .ok (.bipush 60, 2) := by decide +kernel
theorem dX11_fill_10 : decode cX11_fill 10 = .ok (.invokestatic 68, 3) := by decide +kernel
theorem dX11_fill_13 : decode cX11_fill 13 = .ok (.iconst 1, 1) := by decide +kernel
theorem dX11_fill_14 : decode cX11_fill 14 = .ok (.iconst 1, 1) := by decide +kernel
theorem dX11_fill_15 : decode cX11_fill 15 = .ok (.invokevirtual 284, 3) := by decide +kernel
theorem dX11_fill_18 : decode cX11_fill 18 = .ok (.ifCond .ne 5, 3) := by decide +kernel
theorem dX11_fill_21 : decode cX11_fill 21 = .ok (.iconst 0, 1) := by decide +kernel
theorem dX11_fill_22 : decode cX11_fill 22 = .ok (.ireturn, 1) := by decide +kernel
theorem dX11_fill_23 : decode cX11_fill 23 = .ok (.aload_n 0, 1) := by decide +kernel
theorem dX11_fill_24 : decode cX11_fill 24 = .ok (.invokevirtual 314, 3) := by decide +kernel
theorem dX11_fill_27 : decode cX11_fill 27 = .ok (.aload_n 0, 1) := by decide +kernel
theorem dX11_fill_28 : decode cX11_fill 28 = .ok (.aload_n 0, 1) := by decide +kernel
theorem dX11_fill_29 : decode cX11_fill 29 = .ok (.iconst 0, 1) := by decide +kernel
theorem dX11_fill_30 : decode cX11_fill 30 = .ok (.iconst 0, 1) := by decide +kernel
theorem dX11_fill_31 : decode cX11_fill 31 = .ok (.iload_n 1, 1) := by decide +kernel
theorem dX11_fill_32 : decode cX11_fill 32 = .ok (.invokevirtual 235, 3) := by decide +kernel
theorem dX11_fill_35 : decode cX11_fill 35 = .ok (.invokevirtual 317, 3) := by decide +kernel
theorem dX11_fill_38 : decode cX11_fill 38 = .ok (.ireturn, 1) := by decide +kernel
set_option maxHeartbeats 4000000 in
set_option maxRecDepth 100000 in
theorem tX11_fill {l : Launch} {g : yG} {n : Nat} {σ : yM} (hn : 172 ≤ n) (w h : Int) (T S F P O : Int → Int → Int) (nf df nl : Int) (lg : Int → Int → Int) (s re fo ra tu we sh : Int) (H : List aX) (ht : Bool) (K : Int → Int → Int) (tl : Int) (tb : Int → Int) (fa r1 r2 N : Int) (hV : mV σ (w, h, (T, S, F, P, O, nf, df, nl, lg), (s, re, fo, ra, tu, we, sh), H, ht, K, tl, tb, fa, r1, r2)) (hW : aW N (w, h, (T, S, F, P, O, nf, df, nl, lg), (s, re, fo, ra, tu, we, sh), H, ht, K, tl, tb, fa, r1, r2)) (a : Int) (ha : -2147483648 ≤ a ∧ a < 2147483648)(hNb : N ≤ 400000000)  : yMet l g yX11_fill cX11_fill 2 (some .int) (rmA 11 101 909) [yR g 155, yI a] (SC g) n σ (SC g) (yPi (fun zv n' σ' => n ≤ n' ∧ (((1 ≤ a ∧ a ≤ 60) ∧ zv = (((gR w h s re fo ra tu we sh 0 a.toNat (T, S, F, P, O, nf, df, nl, lg)).1 : Nat) : Int) ∧ mO σ σ' (w, h, (gR w h s re fo ra tu we sh 0 a.toNat (T, S, F, P, O, nf, df, nl, lg)).2, (s, re, fo, ra, tu, we, sh), (if 0 < (((gR w h s re fo ra tu we sh 0 a.toNat (T, S, F, P, O, nf, df, nl, lg)).1 : Nat) : Int) then pH (T, S, F, P, O, nf, df, nl, lg) H else H), ht, K, tl, tb, fa, r1, r2) 0) ∨ (¬ (1 ≤ a ∧ a ≤ 60) ∧ mO σ σ' (bA (w, h, (T, S, F, P, O, nf, df, nl, lg), (s, re, fo, ra, tu, we, sh), H, ht, K, tl, tb, fa, r1, r2)) 1)))) := by
  obtain ⟨⟨hA, hL⟩, hS, hH, ⟨hb1, hb2⟩, ⟨ht1, ht2⟩, hfa, hr1, hr2⟩ := id hV
  obtain ⟨hw1, hw2, hw3, hw4⟩ := id hA.1.1
  obtain ⟨hs1, hs2, hs3, hs4, hs5, hs6, hs7⟩ := id hS.2
  have hz : (0 : Nat) < 3 := by omega
  have hnf : nf < 800000000 := by have := hW.1.1; simp only [xNf] at this; omega
  have hnf0 : 0 ≤ nf := hL.2.2.2.1.1
  have hdl : 0 ≤ (H.length : Int) ∧ (H.length : Int) ≤ 10 := by have := hH.2.1; omega
  refine y_start (by decide) (Nat.le_of_ble_eq_true rfl) (fun X0 hF => ?_)
  show yV X0 g 2 (yQ X0 g (SC g) (yPi (fun zv n' σ' => n ≤ n' ∧ (((1 ≤ a ∧ a ≤ 60) ∧ zv = (((gR w h s re fo ra tu we sh 0 a.toNat (T, S, F, P, O, nf, df, nl, lg)).1 : Nat) : Int) ∧ mO σ σ' (w, h, (gR w h s re fo ra tu we sh 0 a.toNat (T, S, F, P, O, nf, df, nl, lg)).2, (s, re, fo, ra, tu, we, sh), (if 0 < (((gR w h s re fo ra tu we sh 0 a.toNat (T, S, F, P, O, nf, df, nl, lg)).1 : Nat) : Int) then pH (T, S, F, P, O, nf, df, nl, lg) H else H), ht, K, tl, tb, fa, r1, r2) 0) ∨ (¬ (1 ≤ a ∧ a ≤ 60) ∧ mO σ σ' (bA (w, h, (T, S, F, P, O, nf, df, nl, lg), (s, re, fo, ra, tu, we, sh), H, ht, K, tl, tb, fa, r1, r2)) 1)))) (rmA 11 101 909)) (SC g) n σ 0 0 0 [(0, yR g 155), (1, yI a)] []
  refine y_aload_n (pc := 0) hF dX11_fill_0 0 rfl ?_
  refine y_iconst (pc := 1) hF dX11_fill_1 ?_
  refine y_putf (pc := 2) (ci := 11) (σ' := yset σ 155 0 0) (sch' := (SC g)) hF dX11_fill_2 (by omega) rfl rfl rfl iX11 0 (by decide) w_1247 tyX11 tyX11_ok nmX11 rfl rfl rfl rfl (Nat.le_of_ble_eq_true rfl) rfl (y_ps rfl) (fun k' h => ⟨yset_n h, rfl⟩) ?_
  obtain ⟨σ0, hσ0⟩ : ∃ s, s = yset σ 155 0 0 := ⟨_, rfl⟩
  rw [← hσ0]
  have zO_σ0 := hV.t0 hσ0
  obtain ⟨⟨zA_σ0, zL_σ0⟩, zS_σ0, zH_σ0, ⟨zb1_σ0, zb2_σ0⟩, ⟨zt1_σ0, zt2_σ0⟩, zfa_σ0, zr1_σ0, zr2_σ0⟩ := id zO_σ0.2.2
  refine y_aload_n (pc := 5) hF dX11_fill_5 0 rfl ?_
  refine y_iload_n (pc := 6) hF dX11_fill_6 1 rfl ?_
  refine y_iconst (pc := 7) hF dX11_fill_7 ?_
  refine y_bipush (pc := 8) hF dX11_fill_8 (by decide) ?_
  have zz10 := y_rS (pc := 10) (As := [yI a, yI 1, yI 60]) (kk := 0) hF (tX11_within (n := n) (σ := σ0) a 1 60 (by omega) (by omega) (by omega)) dX11_fill_10 w_1392 qX11_within rfl ⟨Nat.le_of_ble_eq_true rfl, Nat.le_of_ble_eq_true rfl⟩ ⟨Nat.le_of_ble_eq_true rfl, Nat.le_of_ble_eq_true rfl⟩ (Nat.le_of_ble_eq_true rfl) rfl (rest := [yR g 155]) (cells := 0) (slots := 0) (lv := [(0, yR g 155), (1, yI a)])
  refine y_cp (zz10) ?_
  refine y_iconst (pc := 13) hF dX11_fill_13 ?_
  refine y_iconst (pc := 14) hF dX11_fill_14 ?_
  refine y_ci (y_rV (pc := 15) hF (tX11_isFine hn zO_σ0.2.1 (decide (1 ≤ a) && decide (a ≤ 60)) 1 1 (by decide) (by decide)) dX11_fill_15 (by omega) rfl rfl rfl w_1395 qX11_isFine rfl ⟨Nat.le_of_ble_eq_true rfl, Nat.le_of_ble_eq_true rfl⟩ ⟨Nat.le_of_ble_eq_true rfl, Nat.le_of_ble_eq_true rfl⟩ (Nat.le_of_ble_eq_true rfl) rfl) rfl rfl (fun r15 n' σ15 zp15 => ?_)
  obtain ⟨zn15, zp15⟩ := zp15
  have zn15 := zn15.symm
  subst zn15
  rcases zp15 with ⟨zb15, zv15, zs15⟩ | ⟨zb15, zv15, zs15⟩
  · subst zv15; have zs15 := zs15.symm; subst zs15
    refine y_if_ne (pc := 18) hF dX11_fill_18 23 rfl (by decide) (fun _ => ?_) (fun zc18 => absurd zc18 (by decide))
    simp at zb15
    refine y_aload_n (pc := 23) hF dX11_fill_23 0 rfl ?_
    refine y_cv (y_rV (pc := 24) hF (tX11_laysAside hn) dX11_fill_24 (by omega) rfl rfl rfl w_1484 qX11_laysAside rfl ⟨Nat.le_of_ble_eq_true rfl, Nat.le_of_ble_eq_true rfl⟩ ⟨Nat.le_of_ble_eq_true rfl, Nat.le_of_ble_eq_true rfl⟩ (Nat.le_of_ble_eq_true rfl) rfl) rfl rfl (fun n' σ24 zp24 => ?_)
    obtain ⟨zn24, zp24⟩ := zp24
    have zn24 := zn24.symm
    subst zn24
    have zA_σ24 := zA_σ0.fr (zp24.1 _ (by omega)) (zp24.1 _ (by omega)) (fun i _ _ => by rw [zp24.1 _ (by omega)])
    have zL_σ24 : rL σ24 0 nf df nl lg := zL_σ0.hi (fun j _ => by rw [zp24.1 158 (by omega)])
    have zS_σ24 := zS_σ0.fr (zp24.1 166 (by omega))
    have zB24 : rB σ24 163 0 w h (T, S, F, P, O, nf, df, nl, lg) := (rX.b (X := (T, S, F, P, O, nf, df, nl, lg)) ⟨zA_σ0, zL_σ0⟩).cp (fun j a b => by rw [Int.zero_add]; exact zp24.2 j a b)
    have zy24 : gY σ0 σ24 := zp24.1.g (by omega)
    refine y_aload_n (pc := 27) hF dX11_fill_27 0 rfl ?_
    refine y_aload_n (pc := 28) hF dX11_fill_28 0 rfl ?_
    refine y_iconst (pc := 29) hF dX11_fill_29 ?_
    refine y_iconst (pc := 30) hF dX11_fill_30 ?_
    refine y_iload_n (pc := 31) hF dX11_fill_31 1 rfl ?_
    refine y_ci (cells' := 101) (slots' := 909) (y_rV (pc := 32) hF (tX11_fillsAll 0 w h T S F P O w h T S F P O s re fo ra tu we sh nf df nl lg false hn (by omega) zA_σ24 zL_σ24 hnf (fun ze => by cases ze) zS_σ24 a (by omega)) dX11_fill_32 (by omega) rfl rfl rfl w_1488 qX11_fillsAll rfl ⟨Nat.le_of_ble_eq_true rfl, Nat.le_of_ble_eq_true rfl⟩ ⟨Nat.le_of_ble_eq_true rfl, Nat.le_of_ble_eq_true rfl⟩ (Nat.le_of_ble_eq_true rfl) rfl) rfl rfl (fun r32 n32 σ32 zp32 => ?_)
    obtain ⟨zv32, zn32, zl32, zx32, zz32⟩ := zp32
    rw [zv32]
    have hn : 172 ≤ n32 := by omega
    have zcn := gR_cnt (w := w) (h := h) (s := s) (re := re) (fo := fo) (ra := ra) (tu := tu) (we := we) (sh := sh) (lv := 0) (most := a.toNat) (X := (T, S, F, P, O, nf, df, nl, lg))
    have zXR : rX σ32 0 w h (gR w h s re fo ra tu we sh 0 a.toNat (T, S, F, P, O, nf, df, nl, lg)).2 := zx32
    have zyR : gY σ0 σ32 := zy24.tr (zz32.y (by omega)).g
    have zBR : rB σ32 163 0 w h (T, S, F, P, O, nf, df, nl, lg) := zB24.cp (fun j _ _ => by rw [zz32.cell (by omega) (by omega) (by omega)])
    have zHR : mH σ32 w h H := zH_σ0.fr (by rw [zz32 155 8 (by omega) (by omega) (by omega), zp24.1 155 (by omega)]) (by rw [zz32.cell (by omega) (by omega) (by omega), zp24.1 164 (by omega)])
    refine y_ci (y_rV (pc := 35) hF (tX11_keepsAside hn (H.length : Int) zHR.1 hdl (((gR w h s re fo ra tu we sh 0 a.toNat (T, S, F, P, O, nf, df, nl, lg)).1 : Nat) : Int) (by have := zcn; omega)) dX11_fill_35 (by omega) rfl rfl rfl w_1593 qX11_keepsAside rfl ⟨Nat.le_of_ble_eq_true rfl, Nat.le_of_ble_eq_true rfl⟩ ⟨Nat.le_of_ble_eq_true rfl, Nat.le_of_ble_eq_true rfl⟩ (Nat.le_of_ble_eq_true rfl) rfl) rfl rfl (fun r35 n' σ35 zp35 => ?_)
    obtain ⟨zn35, zv35, zp35⟩ := zp35
    have zn35 := zn35.symm
    subst zn35
    rw [zv35]
    exact y_iret (pc := 38) hF dX11_fill_38 (Nat.le_of_ble_eq_true rfl) (Nat.le_of_ble_eq_true rfl) ⟨_, rfl, by omega, Or.inl ⟨(by omega), rfl, (by rcases zp35 with ⟨zc, ze⟩ | ⟨zc, zk1, zk2, zk3⟩; (rw [if_neg (by omega), ze]; exact mO_run zO_σ0 zyR zXR zHR); (rw [if_pos zc]; exact mO_run zO_σ0 (zyR.tr (kpR.g ⟨zk1, zk2⟩)) (rX.kp zXR ⟨zk1, zk2⟩) (mH_kp zHR ⟨zk1, zk2⟩ zBR zk3 rfl rfl)))⟩⟩
  · subst zv15; subst zs15
    refine y_if_ne (pc := 18) hF dX11_fill_18 23 rfl (by decide) (fun zc18 => absurd zc18 (by decide)) (fun _ => ?_)
    refine y_iconst (pc := 21) hF dX11_fill_21 ?_
    exact y_iret (pc := 22) hF dX11_fill_22 (Nat.le_of_ble_eq_true rfl) (Nat.le_of_ble_eq_true rfl) ⟨_, rfl, Nat.le_refl _, Or.inr ⟨(fun ze => by simp at zb15; omega), zO_σ0.bA 1⟩⟩

theorem dX11_guide_0 : decode cX11_guide 0 = .ok (.aload_n 0, 1) := by decide +kernel
theorem dX11_guide_1 : decode cX11_guide 1 = .ok (.iconst 0, 1) := by decide +kernel
theorem dX11_guide_2 : decode cX11_guide 2 = .ok (.putfield 1, 3) := by decide +kernel
theorem dX11_guide_5 : decode cX11_guide 5 = .ok (.aload_n 0, 1) := by decide +kernel
theorem dX11_guide_6 : decode cX11_guide 6 = .ok (.iload_n 1, 1) := by decide +kernel
theorem dX11_guide_7 : decode cX11_guide 7 = .ok (.iconst 1, 1) := by decide +kernel
theorem dX11_guide_8 : decode cX11_guide 8 = .ok (.iconst 2, 1) := by decide +kernel
theorem dX11_guide_9 : decode cX11_guide 9 = .ok (.invokestatic 68, 3) := by decide +kernel
theorem dX11_guide_12 : decode cX11_guide 12 = .ok (.iconst 1, 1) := by decide +kernel
theorem dX11_guide_13 : decode cX11_guide 13 = .ok (.iconst 1, 1) := by decide +kernel
theorem dX11_guide_14 : decode cX11_guide 14 = .ok (.invokevirtual 284, 3) := by decide +kernel
theorem dX11_guide_17 : decode cX11_guide 17 = .ok (.ifCond .ne 5, 3) := by decide +kernel
theorem dX11_guide_20 : decode cX11_guide 20 = .ok (.iconst 0, 1) := by decide +kernel
theorem dX11_guide_21 : decode cX11_guide 21 = .ok (.ireturn, 1) := by decide +kernel
theorem dX11_guide_22 : decode cX11_guide 22 = .ok (.aload_n 0, 1) := by decide +kernel
theorem dX11_guide_23 : decode cX11_guide 23 = .ok (.invokevirtual 314, 3) := by decide +kernel
theorem dX11_guide_26 : decode cX11_guide 26 = .ok (.aload_n 0, 1) := by decide +kernel
theorem dX11_guide_27 : decode cX11_guide 27 = .ok (.aload_n 0, 1) := by decide +kernel
theorem dX11_guide_28 : decode cX11_guide 28 = .ok (.iload_n 1, 1) := by decide +kernel
theorem dX11_guide_29 : decode cX11_guide 29 = .ok (.invokevirtual 320, 3) := by decide +kernel
theorem dX11_guide_32 : decode cX11_guide 32 = .ok (.invokevirtual 317, 3) := by decide +kernel
theorem dX11_guide_35 : decode cX11_guide 35 = .ok (.ireturn, 1) := by decide +kernel
set_option maxHeartbeats 4000000 in
set_option maxRecDepth 100000 in
theorem tX11_guide {l : Launch} {g : yG} {n : Nat} {σ : yM} (hn : 172 ≤ n) (w h : Int) (T S F P O : Int → Int → Int) (nf df nl : Int) (lg : Int → Int → Int) (s re fo ra tu we sh : Int) (H : List aX) (ht : Bool) (K : Int → Int → Int) (tl : Int) (tb : Int → Int) (fa r1 r2 N : Int) (hV : mV σ (w, h, (T, S, F, P, O, nf, df, nl, lg), (s, re, fo, ra, tu, we, sh), H, ht, K, tl, tb, fa, r1, r2)) (hW : aW N (w, h, (T, S, F, P, O, nf, df, nl, lg), (s, re, fo, ra, tu, we, sh), H, ht, K, tl, tb, fa, r1, r2)) (a : Int) (ha : -2147483648 ≤ a ∧ a < 2147483648)(hNb : N ≤ 400000000)  : yMet l g yX11_guide cX11_guide 2 (some .int) (rmA 12 303 2727) [yR g 155, yI a] (SC g) n σ (SC g) (yPi (fun zv n' σ' => n ≤ n' ∧ (((a = 1 ∨ a = 2) ∧ zv = (((gR w h s re fo ra tu we sh a (400 : Int).toNat (T, S, F, P, O, nf, df, nl, lg)).1 : Nat) : Int) ∧ mO σ σ' (w, h, (gR w h s re fo ra tu we sh a (400 : Int).toNat (T, S, F, P, O, nf, df, nl, lg)).2, (s, re, fo, ra, tu, we, sh), (if 0 < (((gR w h s re fo ra tu we sh a (400 : Int).toNat (T, S, F, P, O, nf, df, nl, lg)).1 : Nat) : Int) then pH (T, S, F, P, O, nf, df, nl, lg) H else H), ht, K, tl, tb, fa, r1, r2) 0) ∨ (¬ (a = 1 ∨ a = 2) ∧ mO σ σ' (bA (w, h, (T, S, F, P, O, nf, df, nl, lg), (s, re, fo, ra, tu, we, sh), H, ht, K, tl, tb, fa, r1, r2)) 1)))) := by
  obtain ⟨⟨hA, hL⟩, hS, hH, ⟨hb1, hb2⟩, ⟨ht1, ht2⟩, hfa, hr1, hr2⟩ := id hV
  obtain ⟨hw1, hw2, hw3, hw4⟩ := id hA.1.1
  obtain ⟨hs1, hs2, hs3, hs4, hs5, hs6, hs7⟩ := id hS.2
  have hz : (0 : Nat) < 3 := by omega
  have hnf : nf < 800000000 := by have := hW.1.1; simp only [xNf] at this; omega
  have hnf0 : 0 ≤ nf := hL.2.2.2.1.1
  have hdl : 0 ≤ (H.length : Int) ∧ (H.length : Int) ≤ 10 := by have := hH.2.1; omega
  refine y_start (by decide) (Nat.le_of_ble_eq_true rfl) (fun X0 hF => ?_)
  show yV X0 g 2 (yQ X0 g (SC g) (yPi (fun zv n' σ' => n ≤ n' ∧ (((a = 1 ∨ a = 2) ∧ zv = (((gR w h s re fo ra tu we sh a (400 : Int).toNat (T, S, F, P, O, nf, df, nl, lg)).1 : Nat) : Int) ∧ mO σ σ' (w, h, (gR w h s re fo ra tu we sh a (400 : Int).toNat (T, S, F, P, O, nf, df, nl, lg)).2, (s, re, fo, ra, tu, we, sh), (if 0 < (((gR w h s re fo ra tu we sh a (400 : Int).toNat (T, S, F, P, O, nf, df, nl, lg)).1 : Nat) : Int) then pH (T, S, F, P, O, nf, df, nl, lg) H else H), ht, K, tl, tb, fa, r1, r2) 0) ∨ (¬ (a = 1 ∨ a = 2) ∧ mO σ σ' (bA (w, h, (T, S, F, P, O, nf, df, nl, lg), (s, re, fo, ra, tu, we, sh), H, ht, K, tl, tb, fa, r1, r2)) 1)))) (rmA 12 303 2727)) (SC g) n σ 0 0 0 [(0, yR g 155), (1, yI a)] []
  refine y_aload_n (pc := 0) hF dX11_guide_0 0 rfl ?_
  refine y_iconst (pc := 1) hF dX11_guide_1 ?_
  refine y_putf (pc := 2) (ci := 11) (σ' := yset σ 155 0 0) (sch' := (SC g)) hF dX11_guide_2 (by omega) rfl rfl rfl iX11 0 (by decide) w_1247 tyX11 tyX11_ok nmX11 rfl rfl rfl rfl (Nat.le_of_ble_eq_true rfl) rfl (y_ps rfl) (fun k' h => ⟨yset_n h, rfl⟩) ?_
  obtain ⟨σ0, hσ0⟩ : ∃ s, s = yset σ 155 0 0 := ⟨_, rfl⟩
  rw [← hσ0]
  have zO_σ0 := hV.t0 hσ0
  obtain ⟨⟨zA_σ0, zL_σ0⟩, zS_σ0, zH_σ0, ⟨zb1_σ0, zb2_σ0⟩, ⟨zt1_σ0, zt2_σ0⟩, zfa_σ0, zr1_σ0, zr2_σ0⟩ := id zO_σ0.2.2
  refine y_aload_n (pc := 5) hF dX11_guide_5 0 rfl ?_
  refine y_iload_n (pc := 6) hF dX11_guide_6 1 rfl ?_
  refine y_iconst (pc := 7) hF dX11_guide_7 ?_
  refine y_iconst (pc := 8) hF dX11_guide_8 ?_
  have zz9 := y_rS (pc := 9) (As := [yI a, yI 1, yI 2]) (kk := 0) hF (tX11_within (n := n) (σ := σ0) a 1 2 (by omega) (by omega) (by omega)) dX11_guide_9 w_1392 qX11_within rfl ⟨Nat.le_of_ble_eq_true rfl, Nat.le_of_ble_eq_true rfl⟩ ⟨Nat.le_of_ble_eq_true rfl, Nat.le_of_ble_eq_true rfl⟩ (Nat.le_of_ble_eq_true rfl) rfl (rest := [yR g 155]) (cells := 0) (slots := 0) (lv := [(0, yR g 155), (1, yI a)])
  refine y_cp (zz9) ?_
  refine y_iconst (pc := 12) hF dX11_guide_12 ?_
  refine y_iconst (pc := 13) hF dX11_guide_13 ?_
  refine y_ci (y_rV (pc := 14) hF (tX11_isFine hn zO_σ0.2.1 (decide (1 ≤ a) && decide (a ≤ 2)) 1 1 (by decide) (by decide)) dX11_guide_14 (by omega) rfl rfl rfl w_1395 qX11_isFine rfl ⟨Nat.le_of_ble_eq_true rfl, Nat.le_of_ble_eq_true rfl⟩ ⟨Nat.le_of_ble_eq_true rfl, Nat.le_of_ble_eq_true rfl⟩ (Nat.le_of_ble_eq_true rfl) rfl) rfl rfl (fun r14 n' σ14 zp14 => ?_)
  obtain ⟨zn14, zp14⟩ := zp14
  have zn14 := zn14.symm
  subst zn14
  rcases zp14 with ⟨zb14, zv14, zs14⟩ | ⟨zb14, zv14, zs14⟩
  · subst zv14; have zs14 := zs14.symm; subst zs14
    refine y_if_ne (pc := 17) hF dX11_guide_17 22 rfl (by decide) (fun _ => ?_) (fun zc17 => absurd zc17 (by decide))
    simp at zb14
    refine y_aload_n (pc := 22) hF dX11_guide_22 0 rfl ?_
    refine y_cv (y_rV (pc := 23) hF (tX11_laysAside hn) dX11_guide_23 (by omega) rfl rfl rfl w_1484 qX11_laysAside rfl ⟨Nat.le_of_ble_eq_true rfl, Nat.le_of_ble_eq_true rfl⟩ ⟨Nat.le_of_ble_eq_true rfl, Nat.le_of_ble_eq_true rfl⟩ (Nat.le_of_ble_eq_true rfl) rfl) rfl rfl (fun n' σ23 zp23 => ?_)
    obtain ⟨zn23, zp23⟩ := zp23
    have zn23 := zn23.symm
    subst zn23
    have zA_σ23 := zA_σ0.fr (zp23.1 _ (by omega)) (zp23.1 _ (by omega)) (fun i _ _ => by rw [zp23.1 _ (by omega)])
    have zL_σ23 : rL σ23 0 nf df nl lg := zL_σ0.hi (fun j _ => by rw [zp23.1 158 (by omega)])
    have zS_σ23 := zS_σ0.fr (zp23.1 166 (by omega))
    have zB23 : rB σ23 163 0 w h (T, S, F, P, O, nf, df, nl, lg) := (rX.b (X := (T, S, F, P, O, nf, df, nl, lg)) ⟨zA_σ0, zL_σ0⟩).cp (fun j a b => by rw [Int.zero_add]; exact zp23.2 j a b)
    have zy23 : gY σ0 σ23 := zp23.1.g (by omega)
    refine y_aload_n (pc := 26) hF dX11_guide_26 0 rfl ?_
    refine y_aload_n (pc := 27) hF dX11_guide_27 0 rfl ?_
    refine y_iload_n (pc := 28) hF dX11_guide_28 1 rfl ?_
    refine y_ci (cells' := 303) (slots' := 2727) (y_rV (pc := 29) hF (tX11_guides w h T S F P O s re fo ra tu we sh nf df nl lg hn zA_σ23 zL_σ23 hnf zS_σ23 a (by omega)) dX11_guide_29 (by omega) rfl rfl rfl w_1601 qX11_guides rfl ⟨Nat.le_of_ble_eq_true rfl, Nat.le_of_ble_eq_true rfl⟩ ⟨Nat.le_of_ble_eq_true rfl, Nat.le_of_ble_eq_true rfl⟩ (Nat.le_of_ble_eq_true rfl) rfl) rfl rfl (fun r29 n29 σ29 zp29 => ?_)
    obtain ⟨zv29, zn29, zx29, zz29⟩ := zp29
    rw [zv29]
    have hn : 172 ≤ n29 := by omega
    have zcn := gR_cnt (w := w) (h := h) (s := s) (re := re) (fo := fo) (ra := ra) (tu := tu) (we := we) (sh := sh) (lv := a) (most := (400 : Int).toNat) (X := (T, S, F, P, O, nf, df, nl, lg))
    have zXR : rX σ29 0 w h (gR w h s re fo ra tu we sh a (400 : Int).toNat (T, S, F, P, O, nf, df, nl, lg)).2 := zx29
    have zyR : gY σ0 σ29 := zy23.tr zz29.g
    have zBR : rB σ29 163 0 w h (T, S, F, P, O, nf, df, nl, lg) := zB23.cp (fun j _ _ => by rw [zz29.cell (by omega) (by omega)])
    have zHR : mH σ29 w h H := zH_σ0.fr (by rw [zz29 155 8 (by omega) (by omega) (by omega) (by omega), zp23.1 155 (by omega)]) (by rw [zz29.cell (by omega) (by omega), zp23.1 164 (by omega)])
    refine y_ci (y_rV (pc := 32) hF (tX11_keepsAside hn (H.length : Int) zHR.1 hdl (((gR w h s re fo ra tu we sh a (400 : Int).toNat (T, S, F, P, O, nf, df, nl, lg)).1 : Nat) : Int) (by have := (show (gR w h s re fo ra tu we sh a (400 : Int).toNat (T, S, F, P, O, nf, df, nl, lg)).1 ≤ 400 from zcn); omega)) dX11_guide_32 (by omega) rfl rfl rfl w_1593 qX11_keepsAside rfl ⟨Nat.le_of_ble_eq_true rfl, Nat.le_of_ble_eq_true rfl⟩ ⟨Nat.le_of_ble_eq_true rfl, Nat.le_of_ble_eq_true rfl⟩ (Nat.le_of_ble_eq_true rfl) rfl) rfl rfl (fun r32 n' σ32 zp32 => ?_)
    obtain ⟨zn32, zv32, zp32⟩ := zp32
    have zn32 := zn32.symm
    subst zn32
    rw [zv32]
    exact y_iret (pc := 35) hF dX11_guide_35 (Nat.le_of_ble_eq_true rfl) (Nat.le_of_ble_eq_true rfl) ⟨_, rfl, by omega, Or.inl ⟨(by omega), rfl, (by rcases zp32 with ⟨zc, ze⟩ | ⟨zc, zk1, zk2, zk3⟩; (rw [if_neg (by omega), ze]; exact mO_run zO_σ0 zyR zXR zHR); (rw [if_pos zc]; exact mO_run zO_σ0 (zyR.tr (kpR.g ⟨zk1, zk2⟩)) (rX.kp zXR ⟨zk1, zk2⟩) (mH_kp zHR ⟨zk1, zk2⟩ zBR zk3 rfl rfl)))⟩⟩
  · subst zv14; subst zs14
    refine y_if_ne (pc := 17) hF dX11_guide_17 22 rfl (by decide) (fun zc17 => absurd zc17 (by decide)) (fun _ => ?_)
    refine y_iconst (pc := 20) hF dX11_guide_20 ?_
    exact y_iret (pc := 21) hF dX11_guide_21 (Nat.le_of_ble_eq_true rfl) (Nat.le_of_ble_eq_true rfl) ⟨_, rfl, Nat.le_refl _, Or.inr ⟨(fun ze => by simp at zb14; omega), zO_σ0.bA 1⟩⟩
