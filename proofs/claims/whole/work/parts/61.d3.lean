theorem fS_nf {w h s re fo ra tu we sh : Int} {gd : Bool} {F2 P2 T S F P O : Int → Int → Int} {nf df nl : Int} {lg : Int → Int → Int} {T9 S9 F9 P9 O9 : Int → Int → Int} {nf9 df9 nl9 : Int} {lg9 : Int → Int → Int} (H : fS w h s re fo ra tu we sh gd F2 P2 (T, S, F, P, O, nf, df, nl, lg) = some (T9, S9, F9, P9, O9, nf9, df9, nl9, lg9)) : nf9 = nf + 1 := by
  unfold fS at H
  simp only at H
  split at H
  · cases H
  · split at H
    · cases H
    · rw [Option.some.injEq] at H
      have := congrArg xNf H
      exact this.symm
theorem dX0_repeat_0 : decode cX0_repeat 0 = .ok (.iconst 0, 1) := by decide +kernel
theorem dX0_repeat_1 : decode cX0_repeat 1 = .ok (.istore 6, 2) := by decide +kernel
theorem dX0_repeat_3 : decode cX0_repeat 3 = .ok (.iload 6, 2) := by decide +kernel
theorem dX0_repeat_5 : decode cX0_repeat 5 = .ok (.iload 5, 2) := by decide +kernel
theorem dX0_repeat_7 : decode cX0_repeat 7 = .ok (.if_icmp .ge 21, 3) := by decide +kernel
theorem dX0_repeat_10 : decode cX0_repeat 10 = .ok (.aload_n 0, 1) := by decide +kernel
theorem dX0_repeat_11 : decode cX0_repeat 11 = .ok (.aload_n 1, 1) := by decide +kernel
theorem dX0_repeat_12 : decode cX0_repeat 12 = .ok (.aload_n 2, 1) := by decide +kernel
theorem dX0_repeat_13 : decode cX0_repeat 13 = .ok (.aload_n 3, 1) := by decide +kernel
theorem dX0_repeat_14 : decode cX0_repeat 14 = .ok (.aload 4, 2) := by decide +kernel
theorem dX0_repeat_16 : decode cX0_repeat 16 = .ok (.invokevirtual 55, 3) := by decide +kernel
theorem dX0_repeat_19 : decode cX0_repeat 19 = .ok (.ifCond .eq 9, 3) := by decide +kernel
theorem dX0_repeat_22 : decode cX0_repeat 22 = .ok (.iinc 6 1, 3) := by decide +kernel
theorem dX0_repeat_25 : decode cX0_repeat 25 = .ok (.goto (-22), 3) := by decide +kernel
theorem dX0_repeat_28 : decode cX0_repeat 28 = .ok (.iload 6, 2) := by decide +kernel
theorem dX0_repeat_30 : decode cX0_repeat 30 = .ok (.ireturn, 1) := by decide +kernel
set_option maxHeartbeats 4000000 in
set_option maxRecDepth 100000 in
theorem tX0_repeat {l : Launch} {g : yG} {n : Nat} {σ : yM} (k cs : Nat) (w h : Int) (T S F P O : Int → Int → Int) (s re fo ra tu we sh : Int) (hn : 172 ≤ n) (hP : isPic k) (hcs : isSet cs) (hA : rC σ k w h T S F P O) (hS : rS σ cs s re fo ra tu we sh) (hk : k + 5 < 120 ∨ 130 < k) (hc2 : cs < 120 ∨ 130 < cs) (hck : cs < k ∨ k + 5 < cs) (j : Nat) (nf df nl : Int) (lg : Int → Int → Int) (hj : isJou j) (hJ : rJ σ j nf df nl lg) (hjk : j + 1 < k ∨ k + 5 < j) (hj2 : j + 1 < 120 ∨ 131 < j) (hjc : cs < j ∨ j + 1 < cs) (hT : rT σ) (hnf : nf < 800000000) (hk3 : k + 5 < 120 ∨ 131 < k) (hc3 : cs < 120 ∨ 131 < cs) (k2 : Nat) (w2 h2 : Int) (T2 S2 F2 P2 O2 : Int → Int → Int) (hP2 : isPic k2) (hA2 : rC σ k2 w2 h2 T2 S2 F2 P2 O2) (hw2 : w2 = (w + 1) / 2) (hh2 : h2 = (h + 1) / 2) (hk2 : k2 + 5 < 120 ∨ 131 < k2) (hk2k : k2 + 5 < k ∨ k + 5 < k2) (hk2j : k2 + 5 < j ∨ j + 1 < k2) (most : Int) (hm : 0 ≤ most ∧ most ≤ 1000) : yMet l g yX0_repeat cX0_repeat 7 (some .int) (rmL 6) [yR g 131, yR g k, yR g cs, yR g k2, yR g j, yI most] (SC g) n σ (SC g) (yPi (fun v n' σ' => n' = n ∧ v = (((fIt (fS w h s re fo ra tu we sh true F2 P2) most.toNat (T, S, F, P, O, nf, df, nl, lg)).1 : Nat) : Int) ∧ rT σ' ∧ fF k j σ σ' ∧ rXc σ' k j w h (fIt (fS w h s re fo ra tu we sh true F2 P2) most.toNat (T, S, F, P, O, nf, df, nl, lg)).2)) := by
  refine y_start (by decide) (Nat.le_of_ble_eq_true rfl) (fun X0 hF => ?_)
  show yV X0 g 7 (yQ X0 g (SC g) (yPi (fun v n' σ' => n' = n ∧ v = (((fIt (fS w h s re fo ra tu we sh true F2 P2) most.toNat (T, S, F, P, O, nf, df, nl, lg)).1 : Nat) : Int) ∧ rT σ' ∧ fF k j σ σ' ∧ rXc σ' k j w h (fIt (fS w h s re fo ra tu we sh true F2 P2) most.toNat (T, S, F, P, O, nf, df, nl, lg)).2)) (rmL 6)) (SC g) n σ 0 0 0 [(0, yR g 131), (1, yR g k), (2, yR g cs), (3, yR g k2), (4, yR g j), (5, yI most)] []
  refine y_iconst (pc := 0) hF dX0_repeat_0 ?_
  refine y_istore (pc := 1) (lv' := [(0, yR g 131), (1, yR g k), (2, yR g cs), (3, yR g k2), (4, yR g j), (5, yI most), (6, yI 0)]) hF dX0_repeat_1 (by decide) rfl rfl ?_
  have zL3 : ∀ (N : Nat) (τ : yM) (c : Int) (T1 S1 F1 P1 O1 : Int → Int → Int) (nf1 df1 nl1 : Int) (lg1 : Int → Int → Int), N = (most - c).toNat → ((0 ≤ c ∧ c ≤ most) ∧ nf1 = nf + c ∧ rT τ ∧ fF k j σ τ ∧ rC τ k w h T1 S1 F1 P1 O1 ∧ rJ τ j nf1 df1 nl1 lg1 ∧ fIt (fS w h s re fo ra tu we sh true F2 P2) most.toNat (T, S, F, P, O, nf, df, nl, lg) = (c.toNat + (fIt (fS w h s re fo ra tu we sh true F2 P2) (most - c).toNat (T1, S1, F1, P1, O1, nf1, df1, nl1, lg1)).1, (fIt (fS w h s re fo ra tu we sh true F2 P2) (most - c).toNat (T1, S1, F1, P1, O1, nf1, df1, nl1, lg1)).2)) → yV X0 g 7 (yQ X0 g (SC g) (yPi (fun v n' σ' => n' = n ∧ v = (((fIt (fS w h s re fo ra tu we sh true F2 P2) most.toNat (T, S, F, P, O, nf, df, nl, lg)).1 : Nat) : Int) ∧ rT σ' ∧ fF k j σ σ' ∧ rXc σ' k j w h (fIt (fS w h s re fo ra tu we sh true F2 P2) most.toNat (T, S, F, P, O, nf, df, nl, lg)).2)) (rmL 6)) (SC g) n τ 0 0 3 [(0, yR g 131), (1, yR g k), (2, yR g cs), (3, yR g k2), (4, yR g j), (5, yI most), (6, yI c)] [] := by
    intro N
    induction N using Nat.strongRecOn with
    | ind N zh3 =>
      intro τ  c  T1 S1 F1 P1 O1  nf1 df1 nl1  lg1  zN3 zI3
      have zS := hS.fF (by omega) hck hjc zI3.2.2.2.1
      have zA2 := hA2.fF (by omega) hk2k hk2j zI3.2.2.2.1
      refine y_iload (pc := 3) hF dX0_repeat_3 6 rfl ?_
      refine y_iload (pc := 5) hF dX0_repeat_5 5 rfl ?_
      refine y_icmp_ge (pc := 7) hF dX0_repeat_7 28 rfl (by omega) (by omega) (fun zc7 => ?_) (fun zc7 => ?_)
      · skip
        have zfin : fIt (fS w h s re fo ra tu we sh true F2 P2) most.toNat (T, S, F, P, O, nf, df, nl, lg) = (c.toNat, (T1, S1, F1, P1, O1, nf1, df1, nl1, lg1)) := by rw [zI3.2.2.2.2.2.2, show (most - c).toNat = 0 by omega]; rfl
        refine y_iload (pc := 28) hF dX0_repeat_28 6 rfl ?_
        exact y_iret (pc := 30) hF dX0_repeat_30 (Nat.zero_le _) (Nat.zero_le _) ⟨_, rfl, rfl, by rw [zfin]; show c = ((c.toNat : Nat) : Int); omega, zI3.2.2.1, zI3.2.2.2.1, by rw [zfin]; exact ⟨zI3.2.2.2.2.1, zI3.2.2.2.2.2.1⟩⟩
      · skip
        refine y_aload_n (pc := 10) hF dX0_repeat_10 0 rfl ?_
        refine y_aload_n (pc := 11) hF dX0_repeat_11 1 rfl ?_
        refine y_aload_n (pc := 12) hF dX0_repeat_12 2 rfl ?_
        refine y_aload_n (pc := 13) hF dX0_repeat_13 3 rfl ?_
        refine y_aload (pc := 14) hF dX0_repeat_14 4 rfl ?_
        refine y_ci (y_rV (pc := 16) hF (tX0_fillOnce k cs w h T1 S1 F1 P1 O1 s re fo ra tu we sh hn hP hcs zI3.2.2.2.2.1 zS hk hc2 hck j nf1 df1 nl1 lg1 hj zI3.2.2.2.2.2.1 hjk hj2 hjc zI3.2.2.1 (by omega) hk3 hc3 k2 w2 h2 T2 S2 F2 P2 O2 hP2 zA2 hw2 hh2 hk2 hk2k hk2j) dX0_repeat_16 (by omega) rfl rfl rfl w_847 qX0_fillOnce rfl ⟨Nat.le_of_ble_eq_true rfl, Nat.le_of_ble_eq_true rfl⟩ ⟨Nat.zero_le _, Nat.zero_le _⟩ (Nat.le_of_ble_eq_true rfl) rfl) rfl rfl (fun r16 n' σ16 zp16 => ?_)
        obtain ⟨zn16, zT16, zF16, zd16⟩ := zp16
        have zn16 := zn16.symm
        subst zn16
        rcases zd16 with ⟨zf, zv, zcc⟩ | ⟨X9, zf, zv, zx⟩
        · subst zv
          refine y_if_eq (pc := 19) hF dX0_repeat_19 28 rfl (by decide) (fun _ => ?_) (fun zc19 => absurd zc19 (by decide))
          have zfin : fIt (fS w h s re fo ra tu we sh true F2 P2) most.toNat (T, S, F, P, O, nf, df, nl, lg) = (c.toNat, (T1, S1, F1, P1, O1, nf1, df1, nl1, lg1)) := by rw [zI3.2.2.2.2.2.2, fIt_none zf]; rfl
          refine y_iload (pc := 28) hF dX0_repeat_28 6 rfl ?_
          exact y_iret (pc := 30) hF dX0_repeat_30 (Nat.zero_le _) (Nat.zero_le _) ⟨_, rfl, rfl, by rw [zfin]; show c = ((c.toNat : Nat) : Int); omega, zT16, zI3.2.2.2.1.tr zF16, by rw [zfin]; exact ⟨zI3.2.2.2.2.1.fc (by omega) zcc, zI3.2.2.2.2.2.1.fc (by omega) zcc⟩⟩
        · subst zv; obtain ⟨T9, S9, F9, P9, O9, nf9, df9, nl9, lg9⟩ := X9
          refine y_if_eq (pc := 19) hF dX0_repeat_19 28 rfl (by decide) (fun zc19 => absurd zc19 (by decide)) (fun _ => ?_)
          refine y_iinc (pc := 22) (lv' := [(0, yR g 131), (1, yR g k), (2, yR g cs), (3, yR g k2), (4, yR g j), (5, yI most), (6, yI (c + 1))]) hF dX0_repeat_22 6 rfl (by decide) rfl rfl ?_
          refine y_goto (pc := 25) hF dX0_repeat_25 3 rfl ?_
          have ztr := fIt_some zf (most - (c + 1)).toNat
          rw [show (most - (c + 1)).toNat + 1 = (most - c).toNat by omega] at ztr
          have znf := fS_nf zf
          exact zh3 _ (by omega) σ16 (c + 1) T9 S9 F9 P9 O9 nf9 df9 nl9 lg9 rfl ⟨by omega, by omega, zT16, zI3.2.2.2.1.tr zF16, zx.1, zx.2, by rw [zI3.2.2.2.2.2.2, ztr]; simp only [Prod.mk.injEq]; exact ⟨by omega, trivial⟩⟩
  exact zL3 _ σ (0) T S F P O nf df nl lg rfl ⟨by omega, by omega, hT, fF.rf σ, hA, hJ, by rw [show most - 0 = most by omega]; simp⟩

set_option maxHeartbeats 4000000 in
set_option maxRecDepth 100000 in
theorem tX0_repeatN {l : Launch} {g : yG} {n : Nat} {σ : yM} (k cs : Nat) (w h : Int) (T S F P O : Int → Int → Int) (s re fo ra tu we sh : Int) (hn : 172 ≤ n) (hP : isPic k) (hcs : isSet cs) (hA : rC σ k w h T S F P O) (hS : rS σ cs s re fo ra tu we sh) (hk : k + 5 < 120 ∨ 130 < k) (hc2 : cs < 120 ∨ 130 < cs) (hck : cs < k ∨ k + 5 < cs) (j : Nat) (nf df nl : Int) (lg : Int → Int → Int) (hj : isJou j) (hJ : rJ σ j nf df nl lg) (hjk : j + 1 < k ∨ k + 5 < j) (hj2 : j + 1 < 120 ∨ 131 < j) (hjc : cs < j ∨ j + 1 < cs) (hT : rT σ) (hnf : nf < 800000000) (hk3 : k + 5 < 120 ∨ 131 < k) (hc3 : cs < 120 ∨ 131 < cs) (F2 P2 : Int → Int → Int) (most : Int) (hm : 0 ≤ most ∧ most ≤ 1000) : yMet l g yX0_repeat cX0_repeat 7 (some .int) (rmL 6) [yR g 131, yR g k, yR g cs, .null, yR g j, yI most] (SC g) n σ (SC g) (yPi (fun v n' σ' => n' = n ∧ v = (((fIt (fS w h s re fo ra tu we sh false F2 P2) most.toNat (T, S, F, P, O, nf, df, nl, lg)).1 : Nat) : Int) ∧ rT σ' ∧ fF k j σ σ' ∧ rXc σ' k j w h (fIt (fS w h s re fo ra tu we sh false F2 P2) most.toNat (T, S, F, P, O, nf, df, nl, lg)).2)) := by
  refine y_start (by decide) (Nat.le_of_ble_eq_true rfl) (fun X0 hF => ?_)
  show yV X0 g 7 (yQ X0 g (SC g) (yPi (fun v n' σ' => n' = n ∧ v = (((fIt (fS w h s re fo ra tu we sh false F2 P2) most.toNat (T, S, F, P, O, nf, df, nl, lg)).1 : Nat) : Int) ∧ rT σ' ∧ fF k j σ σ' ∧ rXc σ' k j w h (fIt (fS w h s re fo ra tu we sh false F2 P2) most.toNat (T, S, F, P, O, nf, df, nl, lg)).2)) (rmL 6)) (SC g) n σ 0 0 0 [(0, yR g 131), (1, yR g k), (2, yR g cs), (3, .null), (4, yR g j), (5, yI most)] []
  refine y_iconst (pc := 0) hF dX0_repeat_0 ?_
  refine y_istore (pc := 1) (lv' := [(0, yR g 131), (1, yR g k), (2, yR g cs), (3, .null), (4, yR g j), (5, yI most), (6, yI 0)]) hF dX0_repeat_1 (by decide) rfl rfl ?_
  have zL3 : ∀ (N : Nat) (τ : yM) (c : Int) (T1 S1 F1 P1 O1 : Int → Int → Int) (nf1 df1 nl1 : Int) (lg1 : Int → Int → Int), N = (most - c).toNat → ((0 ≤ c ∧ c ≤ most) ∧ nf1 = nf + c ∧ rT τ ∧ fF k j σ τ ∧ rC τ k w h T1 S1 F1 P1 O1 ∧ rJ τ j nf1 df1 nl1 lg1 ∧ fIt (fS w h s re fo ra tu we sh false F2 P2) most.toNat (T, S, F, P, O, nf, df, nl, lg) = (c.toNat + (fIt (fS w h s re fo ra tu we sh false F2 P2) (most - c).toNat (T1, S1, F1, P1, O1, nf1, df1, nl1, lg1)).1, (fIt (fS w h s re fo ra tu we sh false F2 P2) (most - c).toNat (T1, S1, F1, P1, O1, nf1, df1, nl1, lg1)).2)) → yV X0 g 7 (yQ X0 g (SC g) (yPi (fun v n' σ' => n' = n ∧ v = (((fIt (fS w h s re fo ra tu we sh false F2 P2) most.toNat (T, S, F, P, O, nf, df, nl, lg)).1 : Nat) : Int) ∧ rT σ' ∧ fF k j σ σ' ∧ rXc σ' k j w h (fIt (fS w h s re fo ra tu we sh false F2 P2) most.toNat (T, S, F, P, O, nf, df, nl, lg)).2)) (rmL 6)) (SC g) n τ 0 0 3 [(0, yR g 131), (1, yR g k), (2, yR g cs), (3, .null), (4, yR g j), (5, yI most), (6, yI c)] [] := by
    intro N
    induction N using Nat.strongRecOn with
    | ind N zh3 =>
      intro τ  c  T1 S1 F1 P1 O1  nf1 df1 nl1  lg1  zN3 zI3
      have zS := hS.fF (by omega) hck hjc zI3.2.2.2.1
      refine y_iload (pc := 3) hF dX0_repeat_3 6 rfl ?_
      refine y_iload (pc := 5) hF dX0_repeat_5 5 rfl ?_
      refine y_icmp_ge (pc := 7) hF dX0_repeat_7 28 rfl (by omega) (by omega) (fun zc7 => ?_) (fun zc7 => ?_)
      · skip
        have zfin : fIt (fS w h s re fo ra tu we sh false F2 P2) most.toNat (T, S, F, P, O, nf, df, nl, lg) = (c.toNat, (T1, S1, F1, P1, O1, nf1, df1, nl1, lg1)) := by rw [zI3.2.2.2.2.2.2, show (most - c).toNat = 0 by omega]; rfl
        refine y_iload (pc := 28) hF dX0_repeat_28 6 rfl ?_
        exact y_iret (pc := 30) hF dX0_repeat_30 (Nat.zero_le _) (Nat.zero_le _) ⟨_, rfl, rfl, by rw [zfin]; show c = ((c.toNat : Nat) : Int); omega, zI3.2.2.1, zI3.2.2.2.1, by rw [zfin]; exact ⟨zI3.2.2.2.2.1, zI3.2.2.2.2.2.1⟩⟩
      · skip
        refine y_aload_n (pc := 10) hF dX0_repeat_10 0 rfl ?_
        refine y_aload_n (pc := 11) hF dX0_repeat_11 1 rfl ?_
        refine y_aload_n (pc := 12) hF dX0_repeat_12 2 rfl ?_
        refine y_aloadN_n (pc := 13) hF dX0_repeat_13 3 rfl ?_
        refine y_aload (pc := 14) hF dX0_repeat_14 4 rfl ?_
        refine y_ci (y_rV (pc := 16) hF (tX0_fillOnceN k cs w h T1 S1 F1 P1 O1 s re fo ra tu we sh hn hP hcs zI3.2.2.2.2.1 zS hk hc2 hck j nf1 df1 nl1 lg1 hj zI3.2.2.2.2.2.1 hjk hj2 hjc zI3.2.2.1 (by omega) hk3 hc3 F2 P2) dX0_repeat_16 (by omega) rfl rfl rfl w_847 qX0_fillOnce rfl ⟨Nat.le_of_ble_eq_true rfl, Nat.le_of_ble_eq_true rfl⟩ ⟨Nat.zero_le _, Nat.zero_le _⟩ (Nat.le_of_ble_eq_true rfl) rfl) rfl rfl (fun r16 n' σ16 zp16 => ?_)
        obtain ⟨zn16, zT16, zF16, zd16⟩ := zp16
        have zn16 := zn16.symm
        subst zn16
        rcases zd16 with ⟨zf, zv, zcc⟩ | ⟨X9, zf, zv, zx⟩
        · subst zv
          refine y_if_eq (pc := 19) hF dX0_repeat_19 28 rfl (by decide) (fun _ => ?_) (fun zc19 => absurd zc19 (by decide))
          have zfin : fIt (fS w h s re fo ra tu we sh false F2 P2) most.toNat (T, S, F, P, O, nf, df, nl, lg) = (c.toNat, (T1, S1, F1, P1, O1, nf1, df1, nl1, lg1)) := by rw [zI3.2.2.2.2.2.2, fIt_none zf]; rfl
          refine y_iload (pc := 28) hF dX0_repeat_28 6 rfl ?_
          exact y_iret (pc := 30) hF dX0_repeat_30 (Nat.zero_le _) (Nat.zero_le _) ⟨_, rfl, rfl, by rw [zfin]; show c = ((c.toNat : Nat) : Int); omega, zT16, zI3.2.2.2.1.tr zF16, by rw [zfin]; exact ⟨zI3.2.2.2.2.1.fc (by omega) zcc, zI3.2.2.2.2.2.1.fc (by omega) zcc⟩⟩
        · subst zv; obtain ⟨T9, S9, F9, P9, O9, nf9, df9, nl9, lg9⟩ := X9
          refine y_if_eq (pc := 19) hF dX0_repeat_19 28 rfl (by decide) (fun zc19 => absurd zc19 (by decide)) (fun _ => ?_)
          refine y_iinc (pc := 22) (lv' := [(0, yR g 131), (1, yR g k), (2, yR g cs), (3, .null), (4, yR g j), (5, yI most), (6, yI (c + 1))]) hF dX0_repeat_22 6 rfl (by decide) rfl rfl ?_
          refine y_goto (pc := 25) hF dX0_repeat_25 3 rfl ?_
          have ztr := fIt_some zf (most - (c + 1)).toNat
          rw [show (most - (c + 1)).toNat + 1 = (most - c).toNat by omega] at ztr
          have znf := fS_nf zf
          exact zh3 _ (by omega) σ16 (c + 1) T9 S9 F9 P9 O9 nf9 df9 nl9 lg9 rfl ⟨by omega, by omega, zT16, zI3.2.2.2.1.tr zF16, zx.1, zx.2, by rw [zI3.2.2.2.2.2.2, ztr]; simp only [Prod.mk.injEq]; exact ⟨by omega, trivial⟩⟩
  exact zL3 _ σ (0) T S F P O nf df nl lg rfl ⟨by omega, by omega, hT, fF.rf σ, hA, hJ, by rw [show most - 0 = most by omega]; simp⟩

theorem dX0_makeHalves_0 : decode cX0_makeHalves 0 = .ok (.iload_n 2, 1) := by decide +kernel
theorem dX0_makeHalves_1 : decode cX0_makeHalves 1 = .ok (.iconst 1, 1) := by decide +kernel
theorem dX0_makeHalves_2 : decode cX0_makeHalves 2 = .ok (.if_icmp .lt 10, 3) := by decide +kernel
theorem dX0_makeHalves_5 : decode cX0_makeHalves 5 = .ok (.aload_n 1, 1) := by decide +kernel
theorem dX0_makeHalves_6 : decode cX0_makeHalves 6 = .ok (.invokevirtual 36, 3) := by decide +kernel
theorem dX0_makeHalves_9 : decode cX0_makeHalves 9 = .ok (.ifCond .ne 5, 3) := by decide +kernel
theorem dX0_makeHalves_12 : decode cX0_makeHalves 12 = .ok (.iconst 0, 1) := by decide +kernel
theorem dX0_makeHalves_13 : decode cX0_makeHalves 13 = .ok (.ireturn, 1) := by decide +kernel
theorem dX0_makeHalves_14 : decode cX0_makeHalves 14 = .ok (.aload_n 0, 1) := by decide +kernel
theorem dX0_makeHalves_15 : decode cX0_makeHalves 15 = .ok (.getfield 12, 3) := by decide +kernel
theorem dX0_makeHalves_18 : decode cX0_makeHalves 18 = .ok (.aload_n 1, 1) := by decide +kernel
theorem dX0_makeHalves_19 : decode cX0_makeHalves 19 = .ok (.invokevirtual 40, 3) := by decide +kernel
theorem dX0_makeHalves_22 : decode cX0_makeHalves 22 = .ok (.iload_n 2, 1) := by decide +kernel
theorem dX0_makeHalves_23 : decode cX0_makeHalves 23 = .ok (.iconst 2, 1) := by decide +kernel
theorem dX0_makeHalves_24 : decode cX0_makeHalves 24 = .ok (.if_icmp .lt 13, 3) := by decide +kernel
theorem dX0_makeHalves_27 : decode cX0_makeHalves 27 = .ok (.aload_n 0, 1) := by decide +kernel
theorem dX0_makeHalves_28 : decode cX0_makeHalves 28 = .ok (.getfield 12, 3) := by decide +kernel
theorem dX0_makeHalves_31 : decode cX0_makeHalves 31 = .ok (.invokevirtual 36, 3) := by decide +kernel
theorem dX0_makeHalves_34 : decode cX0_makeHalves 34 = .ok (.ifCond .ne 5, 3) := by decide +kernel
theorem dX0_makeHalves_37 : decode cX0_makeHalves 37 = .ok (.iconst 1, 1) := by decide +kernel
theorem dX0_makeHalves_38 : decode cX0_makeHalves 38 = .ok (.ireturn, 1) := by decide +kernel
theorem dX0_makeHalves_39 : decode cX0_makeHalves 39 = .ok (.aload_n 0, 1) := by decide +kernel
theorem dX0_makeHalves_40 : decode cX0_makeHalves 40 = .ok (.getfield 18, 3) := by decide +kernel
theorem dX0_makeHalves_43 : decode cX0_makeHalves 43 = .ok (.aload_n 0, 1) := by decide +kernel
theorem dX0_makeHalves_44 : decode cX0_makeHalves 44 = .ok (.getfield 12, 3) := by decide +kernel
theorem dX0_makeHalves_47 : decode cX0_makeHalves 47 = .ok (.invokevirtual 40, 3) := by decide +kernel
theorem dX0_makeHalves_50 : decode cX0_makeHalves 50 = .ok (.iconst 2, 1) := by decide +kernel
theorem dX0_makeHalves_51 : decode cX0_makeHalves 51 = .ok (.ireturn, 1) := by decide +kernel
set_option maxHeartbeats 4000000 in
set_option maxRecDepth 100000 in
theorem tX0_makeHalves {l : Launch} {g : yG} {n : Nat} {σ : yM} (k : Nat) (w h : Int) (T S F P O : Int → Int → Int) (hn : 172 ≤ n) (hP : isPic k) (hA : rC σ k w h T S F P O) (hk : k + 5 < 120 ∨ 145 < k) (lv : Int) (hlv : -1000 ≤ lv ∧ lv ≤ 1000) : yMet l g yX0_makeHalves cX0_makeHalves 3 (some .int) (rmL 5) [yR g 131, yR g k, yI lv] (SC g) n σ (SC g) (yPi (fun v n' σ' => n' = n ∧ v = nHf w h lv ∧ fc 132 143 σ σ' ∧ (1 ≤ nHf w h lv → rC σ' 132 ((w + 1) / 2) ((h + 1) / 2) (sHf w h T) (hS_ (sHf w h T)) (fun _ _ => 0) (fun _ _ => -1) (fun _ _ => -1)) ∧ (nHf w h lv = 2 → rC σ' 138 (((w + 1) / 2 + 1) / 2) (((h + 1) / 2 + 1) / 2) (sHf ((w + 1) / 2) ((h + 1) / 2) (sHf w h T)) (hS_ (sHf ((w + 1) / 2) ((h + 1) / 2) (sHf w h T))) (fun _ _ => 0) (fun _ _ => -1) (fun _ _ => -1)))) := by
  obtain ⟨hw1, hw2, hw3, hw4⟩ := id hA.1.1
  refine y_start (by decide) (Nat.le_of_ble_eq_true rfl) (fun X0 hF => ?_)
  show yV X0 g 3 (yQ X0 g (SC g) (yPi (fun v n' σ' => n' = n ∧ v = nHf w h lv ∧ fc 132 143 σ σ' ∧ (1 ≤ nHf w h lv → rC σ' 132 ((w + 1) / 2) ((h + 1) / 2) (sHf w h T) (hS_ (sHf w h T)) (fun _ _ => 0) (fun _ _ => -1) (fun _ _ => -1)) ∧ (nHf w h lv = 2 → rC σ' 138 (((w + 1) / 2 + 1) / 2) (((h + 1) / 2 + 1) / 2) (sHf ((w + 1) / 2) ((h + 1) / 2) (sHf w h T)) (hS_ (sHf ((w + 1) / 2) ((h + 1) / 2) (sHf w h T))) (fun _ _ => 0) (fun _ _ => -1) (fun _ _ => -1)))) (rmL 5)) (SC g) n σ 0 0 0 [(0, yR g 131), (1, yR g k), (2, yI lv)] []
  refine y_iload_n (pc := 0) hF dX0_makeHalves_0 2 rfl ?_
  refine y_iconst (pc := 1) hF dX0_makeHalves_1 ?_
  refine y_icmp_lt (pc := 2) hF dX0_makeHalves_2 12 rfl (by omega) (by omega) (fun zc2 => ?_) (fun zc2 => ?_)
  · skip
    have zn0 : nHf w h lv = 0 := by unfold nHf; rw [if_neg (by omega)]
    refine y_iconst (pc := 12) hF dX0_makeHalves_12 ?_
    exact y_iret (pc := 13) hF dX0_makeHalves_13 (Nat.zero_le _) (Nat.zero_le _) ⟨_, rfl, rfl, zn0.symm, fc.rf σ, fun ze => by omega, fun ze => by omega⟩
  · skip
    refine y_aload_n (pc := 5) hF dX0_makeHalves_5 1 rfl ?_
    have zz6 := y_rV (pc := 6) hF (tX4_hasHalf k w h T S F P O hn hP hA) dX0_makeHalves_6 (by have := hP.1; omega) (hP.2 g).1 rfl rfl w_821 qX4_hasHalf rfl ⟨Nat.le_of_ble_eq_true rfl, Nat.le_of_ble_eq_true rfl⟩ ⟨Nat.zero_le _, Nat.zero_le _⟩ (Nat.le_of_ble_eq_true rfl) rfl (rest := []) (cells := 0) (slots := 0) (lv := [(0, yR g 131), (1, yR g k), (2, yI lv)])
    refine y_cp (zz6) ?_
    refine y_if_ne (pc := 9) hF dX0_makeHalves_9 14 rfl bi_r (fun zc9 => ?_) (fun zc9 => ?_)
    · replace zc9 := bi_n0.mp zc9
      simp only [Bool.and_eq_true, decide_eq_true_eq] at zc9
      refine y_aload_n (pc := 14) hF dX0_makeHalves_14 0 rfl ?_
      refine y_get (pc := 15) (ci := 0) hF dX0_makeHalves_15 (by omega) rfl rfl rfl iX0 2 (by decide) w_471 rfl ?_
      refine y_aload_n (pc := 18) hF dX0_makeHalves_18 1 rfl ?_
      refine y_cv (y_rV (pc := 19) hF (tX4_becomeHalfOf 132 k w h T S F P O hn pic_132 hP hA (by omega)) dX0_makeHalves_19 (by have := pic_132.1; omega) (pic_132.2 g).1 rfl rfl w_825 qX4_becomeHalfOf rfl ⟨Nat.le_of_ble_eq_true rfl, Nat.le_of_ble_eq_true rfl⟩ ⟨Nat.zero_le _, Nat.zero_le _⟩ (Nat.le_of_ble_eq_true rfl) rfl) rfl rfl (fun n' σ19 zp19 => ?_)
      obtain ⟨zn19, zp19⟩ := zp19
      have zn19 := zn19.symm
      subst zn19
      refine y_iload_n (pc := 22) hF dX0_makeHalves_22 2 rfl ?_
      refine y_iconst (pc := 23) hF dX0_makeHalves_23 ?_
      refine y_icmp_lt (pc := 24) hF dX0_makeHalves_24 37 rfl (by omega) (by omega) (fun zc24 => ?_) (fun zc24 => ?_)
      · skip
        have zn1 : nHf w h lv = 1 := by unfold nHf; rw [if_pos (by omega), if_neg (by omega)]
        refine y_iconst (pc := 37) hF dX0_makeHalves_37 ?_
        exact y_iret (pc := 38) hF dX0_makeHalves_38 (Nat.zero_le _) (Nat.zero_le _) ⟨_, rfl, rfl, zn1.symm, zp19.1.wk (by omega) (by omega), fun _ => zp19.2, fun ze => by omega⟩
      · skip
        refine y_aload_n (pc := 27) hF dX0_makeHalves_27 0 rfl ?_
        refine y_get (pc := 28) (ci := 0) hF dX0_makeHalves_28 (by omega) rfl rfl rfl iX0 2 (by decide) w_471 rfl ?_
        have zz31 := y_rV (pc := 31) hF (tX4_hasHalf 132 ((w + 1) / 2) ((h + 1) / 2) (sHf w h T) (hS_ (sHf w h T)) (fun _ _ => 0) (fun _ _ => -1) (fun _ _ => -1) hn pic_132 zp19.2) dX0_makeHalves_31 (by have := pic_132.1; omega) (pic_132.2 g).1 rfl rfl w_821 qX4_hasHalf rfl ⟨Nat.le_of_ble_eq_true rfl, Nat.le_of_ble_eq_true rfl⟩ ⟨Nat.zero_le _, Nat.zero_le _⟩ (Nat.le_of_ble_eq_true rfl) rfl (rest := []) (cells := 0) (slots := 0) (lv := [(0, yR g 131), (1, yR g k), (2, yI lv)])
        refine y_cp (zz31) ?_
        refine y_if_ne (pc := 34) hF dX0_makeHalves_34 39 rfl bi_r (fun zc34 => ?_) (fun zc34 => ?_)
        · replace zc34 := bi_n0.mp zc34
          simp only [Bool.and_eq_true, decide_eq_true_eq] at zc34
          have zn2 : nHf w h lv = 2 := by unfold nHf; rw [if_pos (by omega), if_pos (by omega)]
          refine y_aload_n (pc := 39) hF dX0_makeHalves_39 0 rfl ?_
          refine y_get (pc := 40) (ci := 0) hF dX0_makeHalves_40 (by omega) rfl rfl rfl iX0 3 (by decide) w_473 rfl ?_
          refine y_aload_n (pc := 43) hF dX0_makeHalves_43 0 rfl ?_
          refine y_get (pc := 44) (ci := 0) hF dX0_makeHalves_44 (by omega) rfl rfl rfl iX0 2 (by decide) w_471 rfl ?_
          refine y_cv (y_rV (pc := 47) hF (tX4_becomeHalfOf 138 132 ((w + 1) / 2) ((h + 1) / 2) (sHf w h T) (hS_ (sHf w h T)) (fun _ _ => 0) (fun _ _ => -1) (fun _ _ => -1) hn pic_138 pic_132 zp19.2 (by omega)) dX0_makeHalves_47 (by have := pic_138.1; omega) (pic_138.2 g).1 rfl rfl w_825 qX4_becomeHalfOf rfl ⟨Nat.le_of_ble_eq_true rfl, Nat.le_of_ble_eq_true rfl⟩ ⟨Nat.zero_le _, Nat.zero_le _⟩ (Nat.le_of_ble_eq_true rfl) rfl) rfl rfl (fun n' σ47 zp47 => ?_)
          obtain ⟨zn47, zp47⟩ := zp47
          have zn47 := zn47.symm
          subst zn47
          refine y_iconst (pc := 50) hF dX0_makeHalves_50 ?_
          exact y_iret (pc := 51) hF dX0_makeHalves_51 (Nat.zero_le _) (Nat.zero_le _) ⟨_, rfl, rfl, zn2.symm, (zp19.1.wk (by omega) (by omega)).tr (zp47.1.wk (by omega) (by omega)), fun _ => zp19.2.fc (by omega) zp47.1, fun _ => zp47.2⟩
        · replace zc34 := bi_0.mp zc34
          have zn1 : nHf w h lv = 1 := by unfold nHf; rw [if_pos (by omega), if_neg (by simp only [Bool.and_eq_false_iff, decide_eq_false_iff_not] at zc34; omega)]
          refine y_iconst (pc := 37) hF dX0_makeHalves_37 ?_
          exact y_iret (pc := 38) hF dX0_makeHalves_38 (Nat.zero_le _) (Nat.zero_le _) ⟨_, rfl, rfl, zn1.symm, zp19.1.wk (by omega) (by omega), fun _ => zp19.2, fun ze => by omega⟩
    · replace zc9 := bi_0.mp zc9
      have zn0 : nHf w h lv = 0 := by unfold nHf; rw [if_neg (by simp only [Bool.and_eq_false_iff, decide_eq_false_iff_not] at zc9; omega)]
      refine y_iconst (pc := 12) hF dX0_makeHalves_12 ?_
      exact y_iret (pc := 13) hF dX0_makeHalves_13 (Nat.zero_le _) (Nat.zero_le _) ⟨_, rfl, rfl, zn0.symm, fc.rf σ, fun ze => by omega, fun ze => by omega⟩
