theorem dX0_run_0 : decode cX0_run 0 = .ok (.aload_n 0, 1) := by decide +kernel
theorem dX0_run_1 : decode cX0_run 1 = .ok (.aload_n 1, 1) := by decide +kernel
theorem dX0_run_2 : decode cX0_run 2 = .ok (.iload_n 3, 1) := by decide +kernel
theorem dX0_run_3 : decode cX0_run 3 = .ok (.invokevirtual 44, 3) := by decide +kernel
theorem dX0_run_6 : decode cX0_run 6 = .ok (.istore 6, 2) := by decide +kernel
theorem dX0_run_8 : decode cX0_run 8 = .ok (.aload_n 0, 1) := by decide +kernel
theorem dX0_run_9 : decode cX0_run 9 = .ok (.getfield 24, 3) := by decide +kernel
theorem dX0_run_12 : decode cX0_run 12 = .ok (.invokevirtual 48, 3) := by decide +kernel
theorem dX0_run_15 : decode cX0_run 15 = .ok (.iload 6, 2) := by decide +kernel
theorem dX0_run_17 : decode cX0_run 17 = .ok (.iconst 2, 1) := by decide +kernel
theorem dX0_run_18 : decode cX0_run 18 = .ok (.if_icmp .ne 21, 3) := by decide +kernel
theorem dX0_run_21 : decode cX0_run 21 = .ok (.aload_n 0, 1) := by decide +kernel
theorem dX0_run_22 : decode cX0_run 22 = .ok (.aload_n 0, 1) := by decide +kernel
theorem dX0_run_23 : decode cX0_run 23 = .ok (.getfield 18, 3) := by decide +kernel
theorem dX0_run_26 : decode cX0_run 26 = .ok (.aload_n 2, 1) := by decide +kernel
theorem dX0_run_27 : decode cX0_run 27 = .ok (.aconst_null, 1) := by decide +kernel
theorem dX0_run_28 : decode cX0_run 28 = .ok (.aload_n 0, 1) := by decide +kernel
theorem dX0_run_29 : decode cX0_run 29 = .ok (.getfield 24, 3) := by decide +kernel
theorem dX0_run_32 : decode cX0_run 32 = .ok (.sipush 400, 3) := by decide +kernel
theorem dX0_run_35 : decode cX0_run 35 = .ok (.invokevirtual 51, 3) := by decide +kernel
theorem dX0_run_38 : decode cX0_run 38 = .ok (.pop, 1) := by decide +kernel
theorem dX0_run_39 : decode cX0_run 39 = .ok (.iload 6, 2) := by decide +kernel
theorem dX0_run_41 : decode cX0_run 41 = .ok (.iconst 1, 1) := by decide +kernel
theorem dX0_run_42 : decode cX0_run 42 = .ok (.if_icmp .lt 34, 3) := by decide +kernel
theorem dX0_run_45 : decode cX0_run 45 = .ok (.aload_n 0, 1) := by decide +kernel
theorem dX0_run_46 : decode cX0_run 46 = .ok (.aload_n 0, 1) := by decide +kernel
theorem dX0_run_47 : decode cX0_run 47 = .ok (.getfield 12, 3) := by decide +kernel
theorem dX0_run_50 : decode cX0_run 50 = .ok (.aload_n 2, 1) := by decide +kernel
theorem dX0_run_51 : decode cX0_run 51 = .ok (.iload 6, 2) := by decide +kernel
theorem dX0_run_53 : decode cX0_run 53 = .ok (.iconst 2, 1) := by decide +kernel
theorem dX0_run_54 : decode cX0_run 54 = .ok (.if_icmp .ne 10, 3) := by decide +kernel
theorem dX0_run_57 : decode cX0_run 57 = .ok (.aload_n 0, 1) := by decide +kernel
theorem dX0_run_58 : decode cX0_run 58 = .ok (.getfield 18, 3) := by decide +kernel
theorem dX0_run_61 : decode cX0_run 61 = .ok (.goto 4, 3) := by decide +kernel
theorem dX0_run_64 : decode cX0_run 64 = .ok (.aconst_null, 1) := by decide +kernel
theorem dX0_run_65 : decode cX0_run 65 = .ok (.aload_n 0, 1) := by decide +kernel
theorem dX0_run_66 : decode cX0_run 66 = .ok (.getfield 24, 3) := by decide +kernel
theorem dX0_run_69 : decode cX0_run 69 = .ok (.sipush 400, 3) := by decide +kernel
theorem dX0_run_72 : decode cX0_run 72 = .ok (.invokevirtual 51, 3) := by decide +kernel
theorem dX0_run_75 : decode cX0_run 75 = .ok (.pop, 1) := by decide +kernel
theorem dX0_run_76 : decode cX0_run 76 = .ok (.aload_n 0, 1) := by decide +kernel
theorem dX0_run_77 : decode cX0_run 77 = .ok (.aload_n 1, 1) := by decide +kernel
theorem dX0_run_78 : decode cX0_run 78 = .ok (.aload_n 2, 1) := by decide +kernel
theorem dX0_run_79 : decode cX0_run 79 = .ok (.iload 6, 2) := by decide +kernel
theorem dX0_run_81 : decode cX0_run 81 = .ok (.iconst 1, 1) := by decide +kernel
theorem dX0_run_82 : decode cX0_run 82 = .ok (.if_icmp .lt 10, 3) := by decide +kernel
theorem dX0_run_85 : decode cX0_run 85 = .ok (.aload_n 0, 1) := by decide +kernel
theorem dX0_run_86 : decode cX0_run 86 = .ok (.getfield 12, 3) := by decide +kernel
theorem dX0_run_89 : decode cX0_run 89 = .ok (.goto 4, 3) := by decide +kernel
theorem dX0_run_92 : decode cX0_run 92 = .ok (.aconst_null, 1) := by decide +kernel
theorem dX0_run_93 : decode cX0_run 93 = .ok (.aload 4, 2) := by decide +kernel
theorem dX0_run_95 : decode cX0_run 95 = .ok (.iload 5, 2) := by decide +kernel
theorem dX0_run_97 : decode cX0_run 97 = .ok (.invokevirtual 51, 3) := by decide +kernel
theorem dX0_run_100 : decode cX0_run 100 = .ok (.ireturn, 1) := by decide +kernel
set_option maxHeartbeats 4000000 in
set_option maxRecDepth 100000 in
theorem tX0_run {l : Launch} {g : yG} {n : Nat} {σ : yM} (k cs : Nat) (w h : Int) (T S F P O : Int → Int → Int) (s re fo ra tu we sh : Int) (hn : 172 ≤ n) (hP : isPic k) (hcs : isSet cs) (hA : rC σ k w h T S F P O) (hS : rS σ cs s re fo ra tu we sh) (hk : k + 5 < 120 ∨ 145 < k) (hc2 : cs < 120 ∨ 145 < cs) (hck : cs < k ∨ k + 5 < cs) (j : Nat) (nf df nl : Int) (lg : Int → Int → Int) (hj : isJou j) (hJ : rJ σ j nf df nl lg) (hjk : j + 1 < k ∨ k + 5 < j) (hj2 : j + 1 < 120 ∨ 145 < j) (hjc : cs < j ∨ j + 1 < cs) (hT : rT σ) (hnf : nf < 800000000) (lv : Int) (hlv : 0 ≤ lv ∧ lv ≤ 2) (most : Int) (hm : 0 ≤ most ∧ most ≤ 1000) : yMet l g yX0_run cX0_run 7 (some .int) (rmL 7) [yR g 131, yR g k, yR g cs, yI lv, yR g j, yI most] (SC g) n σ (SC g) (yPi (fun v n' σ' => n' = n ∧ v = (((gR w h s re fo ra tu we sh lv most.toNat (T, S, F, P, O, nf, df, nl, lg)).1 : Nat) : Int) ∧ rT σ' ∧ fG k j σ σ' ∧ rXc σ' k j w h (gR w h s re fo ra tu we sh lv most.toNat (T, S, F, P, O, nf, df, nl, lg)).2)) := by
  obtain ⟨hw1, hw2, hw3, hw4⟩ := id hA.1.1
  have zh012 := nHf_012 w h lv
  refine y_start (by decide) (Nat.le_of_ble_eq_true rfl) (fun X0 hF => ?_)
  show yV X0 g 7 (yQ X0 g (SC g) (yPi (fun v n' σ' => n' = n ∧ v = (((gR w h s re fo ra tu we sh lv most.toNat (T, S, F, P, O, nf, df, nl, lg)).1 : Nat) : Int) ∧ rT σ' ∧ fG k j σ σ' ∧ rXc σ' k j w h (gR w h s re fo ra tu we sh lv most.toNat (T, S, F, P, O, nf, df, nl, lg)).2)) (rmL 7)) (SC g) n σ 0 0 0 [(0, yR g 131), (1, yR g k), (2, yR g cs), (3, yI lv), (4, yR g j), (5, yI most)] []
  refine y_aload_n (pc := 0) hF dX0_run_0 0 rfl ?_
  refine y_aload_n (pc := 1) hF dX0_run_1 1 rfl ?_
  refine y_iload_n (pc := 2) hF dX0_run_2 3 rfl ?_
  refine y_ci (y_rV (pc := 3) hF (tX0_makeHalves k w h T S F P O hn hP hA (by omega) lv (by omega)) dX0_run_3 (by omega) rfl rfl rfl w_817 qX0_makeHalves rfl ⟨Nat.le_of_ble_eq_true rfl, Nat.le_of_ble_eq_true rfl⟩ ⟨Nat.zero_le _, Nat.zero_le _⟩ (Nat.le_of_ble_eq_true rfl) rfl) rfl rfl (fun r3 n' σ3 zp3 => ?_)
  obtain ⟨zn3, zv3, zp3⟩ := zp3
  have zn3 := zn3.symm
  subst zn3
  subst zv3
  refine y_istore (pc := 6) (lv' := [(0, yR g 131), (1, yR g k), (2, yR g cs), (3, yI lv), (4, yR g j), (5, yI most), (6, yI (nHf w h lv))]) hF dX0_run_6 (by decide) rfl rfl ?_
  refine y_aload_n (pc := 8) hF dX0_run_8 0 rfl ?_
  refine y_get (pc := 9) (ci := 0) hF dX0_run_9 (by omega) rfl rfl rfl iX0 4 (by decide) w_475 rfl ?_
  refine y_cv (y_rV (pc := 12) hF (tX2_clear 144 hn jou_144) dX0_run_12 (by omega) rfl rfl rfl w_842 qX2_clear rfl ⟨Nat.le_of_ble_eq_true rfl, Nat.le_of_ble_eq_true rfl⟩ ⟨Nat.zero_le _, Nat.zero_le _⟩ (Nat.le_of_ble_eq_true rfl) rfl) rfl rfl (fun n' σ' zp12 => ?_)
  obtain ⟨zn12, rfl⟩ := zp12
  have zn12 := zn12.symm
  subst zn12
  obtain ⟨τ0, hτ0⟩ : ∃ s, s = yset (yset σ3 144 0 0) 144 1 0 := ⟨_, rfl⟩
  rw [← hτ0]
  have zt0 : ∀ c : Nat, c ≠ 144 → τ0 c = σ3 c := fun c hc => by rw [hτ0, yset_n hc, yset_n hc]
  have zg0 : fc 120 145 σ τ0 := fun c a => by rw [zt0 c (by omega)]; exact zp3.1 c (by omega)
  have zS_τ0 : rS τ0 cs s re fo ra tu we sh := hS.fc (by omega) zg0
  have zJ0 : rJ τ0 144 0 0 0 (fun _ _ => 0) := rJ.zero (by rw [hτ0, yset_o (by omega), yset_e]) (by rw [hτ0, yset_e])
  have zT0 : rT τ0 := hT.fr (by rw [zt0 127 (by omega)]; exact zp3.1 127 (by omega))
  have zCa : 1 ≤ nHf w h lv → rC τ0 132 ((w + 1) / 2) ((h + 1) / 2)  (sHf w h T) (hS_ (sHf w h T)) (fun _ _ => 0) (fun _ _ => -1) (fun _ _ => -1) := fun ze => (zp3.2.1 ze).fr (fun c a b => zt0 c (by omega))
  have zCb : nHf w h lv = 2 → rC τ0 138 (((w + 1) / 2 + 1) / 2) (((h + 1) / 2 + 1) / 2) (sHf ((w + 1) / 2) ((h + 1) / 2) (sHf w h T)) (hS_ (sHf ((w + 1) / 2) ((h + 1) / 2) (sHf w h T))) (fun _ _ => 0) (fun _ _ => -1) (fun _ _ => -1) := fun ze => (zp3.2.2 ze).fr (fun c a b => zt0 c (by omega))
  have zJ39 : ∀ (τ1 : yM) (nfc dfc nlc : Int) (lgc : Int → Int → Int), (rT τ1 ∧ fc 120 145 σ τ1 ∧ (1 ≤ nHf w h lv → rC τ1 132 ((w + 1) / 2) ((h + 1) / 2)  (sHf w h T) (hS_ (sHf w h T)) (fun _ _ => 0) (fun _ _ => -1) (fun _ _ => -1)) ∧ (nHf w h lv = 2 → rC τ1 138 (((w + 1) / 2 + 1) / 2) (((h + 1) / 2 + 1) / 2) (g2 w h s re fo ra tu we sh T).1 (g2 w h s re fo ra tu we sh T).2.1 (g2 w h s re fo ra tu we sh T).2.2.1 (g2 w h s re fo ra tu we sh T).2.2.2.1 (g2 w h s re fo ra tu we sh T).2.2.2.2.1) ∧ rJ τ1 144 nfc dfc nlc lgc ∧ nfc ≤ 1000) → yV X0 g 7 (yQ X0 g (SC g) (yPi (fun v n' σ' => n' = n ∧ v = (((gR w h s re fo ra tu we sh lv most.toNat (T, S, F, P, O, nf, df, nl, lg)).1 : Nat) : Int) ∧ rT σ' ∧ fG k j σ σ' ∧ rXc σ' k j w h (gR w h s re fo ra tu we sh lv most.toNat (T, S, F, P, O, nf, df, nl, lg)).2)) (rmL 7)) (SC g) n τ1 0 0 39 [(0, yR g 131), (1, yR g k), (2, yR g cs), (3, yI lv), (4, yR g j), (5, yI most), (6, yI (nHf w h lv))] [] := by
    intro τ1  nfc dfc nlc  lgc  zj1
    have zS1 : rS τ1 cs s re fo ra tu we sh := hS.fc (by omega) zj1.2.1
    have zJb := zj1.2.2.2.2.1.2.2.2.1
    have zJ76 : ∀ (τ2 : yM), (rT τ2 ∧ fc 120 145 σ τ2 ∧ (1 ≤ nHf w h lv → ∃ T1 S1 F1 P1 O1 : Int → Int → Int, rC τ2 132 ((w + 1) / 2) ((h + 1) / 2)  T1 S1 F1 P1 O1 ∧ (∀ a b, 0 < F1 a b ↔ 0 < (g1 w h s re fo ra tu we sh T (decide (nHf w h lv = 2))).2.2.1 a b) ∧ P1 = (g1 w h s re fo ra tu we sh T (decide (nHf w h lv = 2))).2.2.2.1)) → yV X0 g 7 (yQ X0 g (SC g) (yPi (fun v n' σ' => n' = n ∧ v = (((gR w h s re fo ra tu we sh lv most.toNat (T, S, F, P, O, nf, df, nl, lg)).1 : Nat) : Int) ∧ rT σ' ∧ fG k j σ σ' ∧ rXc σ' k j w h (gR w h s re fo ra tu we sh lv most.toNat (T, S, F, P, O, nf, df, nl, lg)).2)) (rmL 7)) (SC g) n τ2 0 0 76 [(0, yR g 131), (1, yR g k), (2, yR g cs), (3, yI lv), (4, yR g j), (5, yI most), (6, yI (nHf w h lv))] [] := by
      intro τ2  zj2
      have zS2 : rS τ2 cs s re fo ra tu we sh := hS.fc (by omega) zj2.2.1
      have zA2 := hA.fc (by omega) zj2.2.1
      have zJ2 := hJ.fc (by omega) zj2.2.1
      refine y_aload_n (pc := 76) hF dX0_run_76 0 rfl ?_
      refine y_aload_n (pc := 77) hF dX0_run_77 1 rfl ?_
      refine y_aload_n (pc := 78) hF dX0_run_78 2 rfl ?_
      refine y_iload (pc := 79) hF dX0_run_79 6 rfl ?_
      refine y_iconst (pc := 81) hF dX0_run_81 ?_
      refine y_icmp_lt (pc := 82) hF dX0_run_82 92 rfl (by omega) (by omega) (fun zc82 => ?_) (fun zc82 => ?_)
      · skip
        refine y_null (pc := 92) hF dX0_run_92 ?_
        refine y_aload (pc := 93) hF dX0_run_93 4 rfl ?_
        refine y_iload (pc := 95) hF dX0_run_95 5 rfl ?_
        refine y_ci (y_rV (pc := 97) hF (tX0_repeatN k cs w h T S F P O s re fo ra tu we sh hn hP hcs zA2 zS2 (by omega) (by omega) hck j nf df nl lg hj zJ2 hjk (by omega) hjc zj2.1 hnf (by omega) (by omega) (fun _ _ => 0) (fun _ _ => 0) most hm) dX0_run_97 (by omega) rfl rfl rfl w_843 qX0_repeat rfl ⟨Nat.le_of_ble_eq_true rfl, Nat.le_of_ble_eq_true rfl⟩ ⟨Nat.zero_le _, Nat.zero_le _⟩ (Nat.le_of_ble_eq_true rfl) rfl) rfl rfl (fun r97 n' σ97 zp97 => ?_)
        obtain ⟨zn97, zp97⟩ := zp97
        have zn97 := zn97.symm
        subst zn97
        have zgr : gR w h s re fo ra tu we sh lv most.toNat (T, S, F, P, O, nf, df, nl, lg) = fIt (fS w h s re fo ra tu we sh false (fun _ _ => 0) (fun _ _ => 0)) most.toNat (T, S, F, P, O, nf, df, nl, lg) := by show fIt (fS w h s re fo ra tu we sh (decide (1 ≤ nHf w h lv)) (g1 w h s re fo ra tu we sh T (decide (nHf w h lv = 2))).2.2.1 (g1 w h s re fo ra tu we sh T (decide (nHf w h lv = 2))).2.2.2.1) most.toNat (T, S, F, P, O, nf, df, nl, lg) = _; rw [decide_eq_false (p := 1 ≤ nHf w h lv) (by omega)]; rfl
        exact y_iret (pc := 100) hF dX0_run_100 (Nat.zero_le _) (Nat.zero_le _) ⟨_, rfl, rfl, by rw [zgr]; exact zp97.1, zp97.2.1, (zj2.2.1.to (by omega)).tr zp97.2.2.1.nf, by rw [zgr]; exact zp97.2.2.2⟩
      · skip
        obtain ⟨T1, S1, F1, P1, O1, zD⟩ := zj2.2.2 (by omega)
        refine y_aload_n (pc := 85) hF dX0_run_85 0 rfl ?_
        refine y_get (pc := 86) (ci := 0) hF dX0_run_86 (by omega) rfl rfl rfl iX0 2 (by decide) w_471 rfl ?_
        refine y_goto (pc := 89) hF dX0_run_89 93 rfl ?_
        refine y_aload (pc := 93) hF dX0_run_93 4 rfl ?_
        refine y_iload (pc := 95) hF dX0_run_95 5 rfl ?_
        refine y_ci (y_rV (pc := 97) hF (tX0_repeat k cs w h T S F P O s re fo ra tu we sh hn hP hcs zA2 zS2 (by omega) (by omega) hck j nf df nl lg hj zJ2 hjk (by omega) hjc zj2.1 hnf (by omega) (by omega) 132 ((w + 1) / 2) ((h + 1) / 2) T1 S1 F1 P1 O1 pic_132 zD.1 rfl rfl (by omega) (by omega) (by omega) most hm) dX0_run_97 (by omega) rfl rfl rfl w_843 qX0_repeat rfl ⟨Nat.le_of_ble_eq_true rfl, Nat.le_of_ble_eq_true rfl⟩ ⟨Nat.zero_le _, Nat.zero_le _⟩ (Nat.le_of_ble_eq_true rfl) rfl) rfl rfl (fun r97 n' σ97 zp97 => ?_)
        obtain ⟨zn97, zp97⟩ := zp97
        have zn97 := zn97.symm
        subst zn97
        have zgr : gR w h s re fo ra tu we sh lv most.toNat (T, S, F, P, O, nf, df, nl, lg) = fIt (fS w h s re fo ra tu we sh true F1 P1) most.toNat (T, S, F, P, O, nf, df, nl, lg) := by show fIt (fS w h s re fo ra tu we sh (decide (1 ≤ nHf w h lv)) (g1 w h s re fo ra tu we sh T (decide (nHf w h lv = 2))).2.2.1 (g1 w h s re fo ra tu we sh T (decide (nHf w h lv = 2))).2.2.2.1) most.toNat (T, S, F, P, O, nf, df, nl, lg) = _; rw [decide_eq_true (p := 1 ≤ nHf w h lv) (by omega), ← zD.2.2, fS_eq (fun _ a b => (zD.2.1 a b).symm)]
        exact y_iret (pc := 100) hF dX0_run_100 (Nat.zero_le _) (Nat.zero_le _) ⟨_, rfl, rfl, by rw [zgr]; exact zp97.1, zp97.2.1, (zj2.2.1.to (by omega)).tr zp97.2.2.1.nf, by rw [zgr]; exact zp97.2.2.2⟩
    refine y_iload (pc := 39) hF dX0_run_39 6 rfl ?_
    refine y_iconst (pc := 41) hF dX0_run_41 ?_
    refine y_icmp_lt (pc := 42) hF dX0_run_42 76 rfl (by omega) (by omega) (fun zc42 => ?_) (fun zc42 => ?_)
    · skip
      exact zJ76 τ1 ⟨zj1.1, zj1.2.1, fun ze => by omega⟩
    · skip
      have zC1 := zj1.2.2.1 (by omega)
      refine y_aload_n (pc := 45) hF dX0_run_45 0 rfl ?_
      refine y_aload_n (pc := 46) hF dX0_run_46 0 rfl ?_
      refine y_get (pc := 47) (ci := 0) hF dX0_run_47 (by omega) rfl rfl rfl iX0 2 (by decide) w_471 rfl ?_
      refine y_aload_n (pc := 50) hF dX0_run_50 2 rfl ?_
      refine y_iload (pc := 51) hF dX0_run_51 6 rfl ?_
      refine y_iconst (pc := 53) hF dX0_run_53 ?_
      refine y_icmp_ne (pc := 54) hF dX0_run_54 64 rfl (by omega) (by omega) (fun zc54 => ?_) (fun zc54 => ?_)
      · skip
        refine y_null (pc := 64) hF dX0_run_64 ?_
        refine y_aload_n (pc := 65) hF dX0_run_65 0 rfl ?_
        refine y_get (pc := 66) (ci := 0) hF dX0_run_66 (by omega) rfl rfl rfl iX0 4 (by decide) w_475 rfl ?_
        refine y_sipush (pc := 69) hF dX0_run_69 (by decide) ?_
        refine y_ci (y_rV (pc := 72) hF (tX0_repeatN 132 cs ((w + 1) / 2) ((h + 1) / 2) (sHf w h T) (hS_ (sHf w h T)) (fun _ _ => 0) (fun _ _ => -1) (fun _ _ => -1) s re fo ra tu we sh hn pic_132 hcs zC1 zS1 (by omega) (by omega) (by omega) 144 nfc dfc nlc lgc jou_144 zj1.2.2.2.2.1 (by omega) (by omega) (by omega) zj1.1 (by omega) (by omega) (by omega) (g2 w h s re fo ra tu we sh T).2.2.1 (g2 w h s re fo ra tu we sh T).2.2.2.1 400 (by decide)) dX0_run_72 (by omega) rfl rfl rfl w_843 qX0_repeat rfl ⟨Nat.le_of_ble_eq_true rfl, Nat.le_of_ble_eq_true rfl⟩ ⟨Nat.zero_le _, Nat.zero_le _⟩ (Nat.le_of_ble_eq_true rfl) rfl) rfl rfl (fun r72 n' σ72 zp72 => ?_)
        obtain ⟨zn72, zp72⟩ := zp72
        have zn72 := zn72.symm
        subst zn72
        have zsm := (fIt_sim (w := ((w + 1) / 2)) (h := ((h + 1) / 2)) (s := s) (re := re) (fo := fo) (ra := ra) (tu := tu) (we := we) (sh := sh) (gd := false) (F2 := (g2 w h s re fo ra tu we sh T).2.2.1) (F2' := (g2 w h s re fo ra tu we sh T).2.2.1) (P2 := (g2 w h s re fo ra tu we sh T).2.2.2.1) (fun _ _ _ => Iff.rfl) (400 : Int).toNat (hX_e (w := w) (h := h) (T := T) (lg := lgc) (lg' := (fun _ _ => 0)) (nf := nfc) (df := dfc) (nl := nlc)) zJb.1 (Int.le_refl 0)).2.1
        have zsim : (∀ a b, 0 < (fIt (fS ((w + 1) / 2) ((h + 1) / 2) s re fo ra tu we sh false (g2 w h s re fo ra tu we sh T).2.2.1 (g2 w h s re fo ra tu we sh T).2.2.2.1) (400 : Int).toNat (sHf w h T, hS_ (sHf w h T), fun _ _ => 0, fun _ _ => -1, fun _ _ => -1, nfc, dfc, nlc, lgc)).2.2.2.1 a b ↔ 0 < (g1 w h s re fo ra tu we sh T (decide (nHf w h lv = 2))).2.2.1 a b) ∧ (fIt (fS ((w + 1) / 2) ((h + 1) / 2) s re fo ra tu we sh false (g2 w h s re fo ra tu we sh T).2.2.1 (g2 w h s re fo ra tu we sh T).2.2.2.1) (400 : Int).toNat (sHf w h T, hS_ (sHf w h T), fun _ _ => 0, fun _ _ => -1, fun _ _ => -1, nfc, dfc, nlc, lgc)).2.2.2.2.1 = (g1 w h s re fo ra tu we sh T (decide (nHf w h lv = 2))).2.2.2.1 := by rw [decide_eq_false (p := nHf w h lv = 2) (by omega)]; exact ⟨zsm.2.2.1, zsm.2.2.2.1⟩
        refine y_pop (pc := 75) hF dX0_run_75 rfl ?_
        exact zJ76 σ72 ⟨zp72.2.1, zj1.2.1.tr (zp72.2.2.1.to (by omega) (by omega)), fun _ => ⟨_, _, _, _, _, zp72.2.2.2.c, zsim.1, zsim.2⟩⟩
      · skip
        have zC2b := zj1.2.2.2.1 (by omega)
        refine y_aload_n (pc := 57) hF dX0_run_57 0 rfl ?_
        refine y_get (pc := 58) (ci := 0) hF dX0_run_58 (by omega) rfl rfl rfl iX0 3 (by decide) w_473 rfl ?_
        refine y_goto (pc := 61) hF dX0_run_61 65 rfl ?_
        refine y_aload_n (pc := 65) hF dX0_run_65 0 rfl ?_
        refine y_get (pc := 66) (ci := 0) hF dX0_run_66 (by omega) rfl rfl rfl iX0 4 (by decide) w_475 rfl ?_
        refine y_sipush (pc := 69) hF dX0_run_69 (by decide) ?_
        refine y_ci (y_rV (pc := 72) hF (tX0_repeat 132 cs ((w + 1) / 2) ((h + 1) / 2) (sHf w h T) (hS_ (sHf w h T)) (fun _ _ => 0) (fun _ _ => -1) (fun _ _ => -1) s re fo ra tu we sh hn pic_132 hcs zC1 zS1 (by omega) (by omega) (by omega) 144 nfc dfc nlc lgc jou_144 zj1.2.2.2.2.1 (by omega) (by omega) (by omega) zj1.1 (by omega) (by omega) (by omega) 138 (((w + 1) / 2 + 1) / 2) (((h + 1) / 2 + 1) / 2) (g2 w h s re fo ra tu we sh T).1 (g2 w h s re fo ra tu we sh T).2.1 (g2 w h s re fo ra tu we sh T).2.2.1 (g2 w h s re fo ra tu we sh T).2.2.2.1 (g2 w h s re fo ra tu we sh T).2.2.2.2.1 pic_138 zC2b rfl rfl (by omega) (by omega) (by omega) 400 (by decide)) dX0_run_72 (by omega) rfl rfl rfl w_843 qX0_repeat rfl ⟨Nat.le_of_ble_eq_true rfl, Nat.le_of_ble_eq_true rfl⟩ ⟨Nat.zero_le _, Nat.zero_le _⟩ (Nat.le_of_ble_eq_true rfl) rfl) rfl rfl (fun r72 n' σ72 zp72 => ?_)
        obtain ⟨zn72, zp72⟩ := zp72
        have zn72 := zn72.symm
        subst zn72
        have zsm := (fIt_sim (w := ((w + 1) / 2)) (h := ((h + 1) / 2)) (s := s) (re := re) (fo := fo) (ra := ra) (tu := tu) (we := we) (sh := sh) (gd := true) (F2 := (g2 w h s re fo ra tu we sh T).2.2.1) (F2' := (g2 w h s re fo ra tu we sh T).2.2.1) (P2 := (g2 w h s re fo ra tu we sh T).2.2.2.1) (fun _ _ _ => Iff.rfl) (400 : Int).toNat (hX_e (w := w) (h := h) (T := T) (lg := lgc) (lg' := (fun _ _ => 0)) (nf := nfc) (df := dfc) (nl := nlc)) zJb.1 (Int.le_refl 0)).2.1
        have zsim : (∀ a b, 0 < (fIt (fS ((w + 1) / 2) ((h + 1) / 2) s re fo ra tu we sh true (g2 w h s re fo ra tu we sh T).2.2.1 (g2 w h s re fo ra tu we sh T).2.2.2.1) (400 : Int).toNat (sHf w h T, hS_ (sHf w h T), fun _ _ => 0, fun _ _ => -1, fun _ _ => -1, nfc, dfc, nlc, lgc)).2.2.2.1 a b ↔ 0 < (g1 w h s re fo ra tu we sh T (decide (nHf w h lv = 2))).2.2.1 a b) ∧ (fIt (fS ((w + 1) / 2) ((h + 1) / 2) s re fo ra tu we sh true (g2 w h s re fo ra tu we sh T).2.2.1 (g2 w h s re fo ra tu we sh T).2.2.2.1) (400 : Int).toNat (sHf w h T, hS_ (sHf w h T), fun _ _ => 0, fun _ _ => -1, fun _ _ => -1, nfc, dfc, nlc, lgc)).2.2.2.2.1 = (g1 w h s re fo ra tu we sh T (decide (nHf w h lv = 2))).2.2.2.1 := by rw [decide_eq_true (p := nHf w h lv = 2) (by omega)]; exact ⟨zsm.2.2.1, zsm.2.2.2.1⟩
        refine y_pop (pc := 75) hF dX0_run_75 rfl ?_
        exact zJ76 σ72 ⟨zp72.2.1, zj1.2.1.tr (zp72.2.2.1.to (by omega) (by omega)), fun _ => ⟨_, _, _, _, _, zp72.2.2.2.c, zsim.1, zsim.2⟩⟩
  refine y_iload (pc := 15) hF dX0_run_15 6 rfl ?_
  refine y_iconst (pc := 17) hF dX0_run_17 ?_
  refine y_icmp_ne (pc := 18) hF dX0_run_18 39 rfl (by omega) (by omega) (fun zc18 => ?_) (fun zc18 => ?_)
  · skip
    exact zJ39 τ0 0 0 0 (fun _ _ => 0) ⟨zT0, zg0, zCa, fun ze => absurd ze zc18, zJ0, by decide⟩
  · skip
    have zC2 := zCb zc18
    refine y_aload_n (pc := 21) hF dX0_run_21 0 rfl ?_
    refine y_aload_n (pc := 22) hF dX0_run_22 0 rfl ?_
    refine y_get (pc := 23) (ci := 0) hF dX0_run_23 (by omega) rfl rfl rfl iX0 3 (by decide) w_473 rfl ?_
    refine y_aload_n (pc := 26) hF dX0_run_26 2 rfl ?_
    refine y_null (pc := 27) hF dX0_run_27 ?_
    refine y_aload_n (pc := 28) hF dX0_run_28 0 rfl ?_
    refine y_get (pc := 29) (ci := 0) hF dX0_run_29 (by omega) rfl rfl rfl iX0 4 (by decide) w_475 rfl ?_
    refine y_sipush (pc := 32) hF dX0_run_32 (by decide) ?_
    refine y_ci (y_rV (pc := 35) hF (tX0_repeatN 138 cs (((w + 1) / 2 + 1) / 2) (((h + 1) / 2 + 1) / 2) (sHf ((w + 1) / 2) ((h + 1) / 2) (sHf w h T)) (hS_ (sHf ((w + 1) / 2) ((h + 1) / 2) (sHf w h T))) (fun _ _ => 0) (fun _ _ => -1) (fun _ _ => -1) s re fo ra tu we sh hn pic_138 hcs zC2 zS_τ0 (by omega) (by omega) (by omega) 144 0 0 0 (fun _ _ => 0) jou_144 zJ0 (by omega) (by omega) (by omega) zT0 (by decide) (by omega) (by omega) (fun _ _ => 0) (fun _ _ => 0) 400 (by decide)) dX0_run_35 (by omega) rfl rfl rfl w_843 qX0_repeat rfl ⟨Nat.le_of_ble_eq_true rfl, Nat.le_of_ble_eq_true rfl⟩ ⟨Nat.zero_le _, Nat.zero_le _⟩ (Nat.le_of_ble_eq_true rfl) rfl) rfl rfl (fun r35 n' σ35 zp35 => ?_)
    obtain ⟨zn35, zp35⟩ := zp35
    have zn35 := zn35.symm
    subst zn35
    refine y_pop (pc := 38) hF dX0_run_38 rfl ?_
    exact zJ39 σ35 (g2 w h s re fo ra tu we sh T).2.2.2.2.2.1 (g2 w h s re fo ra tu we sh T).2.2.2.2.2.2.1 (g2 w h s re fo ra tu we sh T).2.2.2.2.2.2.2.1 (g2 w h s re fo ra tu we sh T).2.2.2.2.2.2.2.2 ⟨zp35.2.1, zg0.tr (zp35.2.2.1.to (by omega) (by omega)), fun ze => (zCa ze).fF (by omega) (by omega) (by omega) zp35.2.2.1, fun _ => zp35.2.2.2.c, zp35.2.2.2.j, by have := fIt_nf (w := (((w + 1) / 2 + 1) / 2)) (h := (((h + 1) / 2 + 1) / 2)) (s := s) (re := re) (fo := fo) (ra := ra) (tu := tu) (we := we) (sh := sh) (gd := false) (F2 := (fun _ _ => 0)) (P2 := (fun _ _ => 0)) 400 (hX ((w + 1) / 2) ((h + 1) / 2) (sHf w h T) (fun _ _ => 0)); have z0 : xNf (hX ((w + 1) / 2) ((h + 1) / 2) (sHf w h T) (fun _ _ => 0)) = 0 := rfl; show xNf _ ≤ 1000; unfold g2; omega⟩
