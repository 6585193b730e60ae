theorem dX9_parse_0 : decode cX9_parse 0 = .ok (.aload_n 0, 1) := by decide +kernel
theorem dX9_parse_1 : decode cX9_parse 1 = .ok (.iload_n 1, 1) := by decide +kernel
theorem dX9_parse_2 : decode cX9_parse 2 = .ok (.putfield 31, 3) := by decide +kernel
theorem dX9_parse_5 : decode cX9_parse 5 = .ok (.aload_n 0, 1) := by decide +kernel
theorem dX9_parse_6 : decode cX9_parse 6 = .ok (.iconst 0, 1) := by decide +kernel
theorem dX9_parse_7 : decode cX9_parse 7 = .ok (.putfield 34, 3) := by decide +kernel
theorem dX9_parse_10 : decode cX9_parse 10 = .ok (.aload_n 0, 1) := by decide +kernel
theorem dX9_parse_11 : decode cX9_parse 11 = .ok (.iconst 0, 1) := by decide +kernel
theorem dX9_parse_12 : decode cX9_parse 12 = .ok (.putfield 37, 3) := by decide +kernel
theorem dX9_parse_15 : decode cX9_parse 15 = .ok (.aload_n 0, 1) := by decide +kernel
theorem dX9_parse_16 : decode cX9_parse 16 = .ok (.iconst (-1), 1) := by decide +kernel
theorem dX9_parse_17 : decode cX9_parse 17 = .ok (.putfield 28, 3) := by decide +kernel
theorem dX9_parse_20 : decode cX9_parse 20 = .ok (.aload_n 0, 1) := by decide +kernel
theorem dX9_parse_21 : decode cX9_parse 21 = .ok (.iconst 0, 1) := by decide +kernel
theorem dX9_parse_22 : decode cX9_parse 22 = .ok (.putfield 40, 3) := by decide +kernel
theorem dX9_parse_25 : decode cX9_parse 25 = .ok (.aload_n 0, 1) := by decide +kernel
theorem dX9_parse_26 : decode cX9_parse 26 = .ok (.iconst 0, 1) := by decide +kernel
theorem dX9_parse_27 : decode cX9_parse 27 = .ok (.putfield 22, 3) := by decide +kernel
theorem dX9_parse_30 : decode cX9_parse 30 = .ok (.aload_n 0, 1) := by decide +kernel
theorem dX9_parse_31 : decode cX9_parse 31 = .ok (.iconst 0, 1) := by decide +kernel
theorem dX9_parse_32 : decode cX9_parse 32 = .ok (.putfield 25, 3) := by decide +kernel
theorem dX9_parse_35 : decode cX9_parse 35 = .ok (.iconst 0, 1) := by decide +kernel
theorem dX9_parse_36 : decode cX9_parse 36 = .ok (.istore_n 2, 1) := by decide +kernel
theorem dX9_parse_37 : decode cX9_parse 37 = .ok (.iload_n 2, 1) := by decide +kernel
theorem dX9_parse_38 : decode cX9_parse 38 = .ok (.bipush 20, 2) := by decide +kernel
theorem dX9_parse_40 : decode cX9_parse 40 = .ok (.if_icmp .ge 74, 3) := by decide +kernel
theorem dX9_parse_43 : decode cX9_parse 43 = .ok (.aload_n 0, 1) := by decide +kernel
theorem dX9_parse_44 : decode cX9_parse 44 = .ok (.getfield 37, 3) := by decide +kernel
theorem dX9_parse_47 : decode cX9_parse 47 = .ok (.ifCond .ne 67, 3) := by decide +kernel
theorem dX9_parse_50 : decode cX9_parse 50 = .ok (.aload_n 0, 1) := by decide +kernel
theorem dX9_parse_51 : decode cX9_parse 51 = .ok (.iload_n 2, 1) := by decide +kernel
theorem dX9_parse_52 : decode cX9_parse 52 = .ok (.invokevirtual 43, 3) := by decide +kernel
theorem dX9_parse_55 : decode cX9_parse 55 = .ok (.aload_n 0, 1) := by decide +kernel
theorem dX9_parse_56 : decode cX9_parse 56 = .ok (.getfield 37, 3) := by decide +kernel
theorem dX9_parse_59 : decode cX9_parse 59 = .ok (.ifCond .ne 17, 3) := by decide +kernel
theorem dX9_parse_62 : decode cX9_parse 62 = .ok (.aload_n 0, 1) := by decide +kernel
theorem dX9_parse_63 : decode cX9_parse 63 = .ok (.getfield 34, 3) := by decide +kernel
theorem dX9_parse_66 : decode cX9_parse 66 = .ok (.aload_n 0, 1) := by decide +kernel
theorem dX9_parse_67 : decode cX9_parse 67 = .ok (.getfield 31, 3) := by decide +kernel
theorem dX9_parse_70 : decode cX9_parse 70 = .ok (.if_icmp .lt 6, 3) := by decide +kernel
theorem dX9_parse_73 : decode cX9_parse 73 = .ok (.goto 41, 3) := by decide +kernel
theorem dX9_parse_76 : decode cX9_parse 76 = .ok (.aload_n 0, 1) := by decide +kernel
theorem dX9_parse_77 : decode cX9_parse 77 = .ok (.getfield 37, 3) := by decide +kernel
theorem dX9_parse_80 : decode cX9_parse 80 = .ok (.ifCond .ne 18, 3) := by decide +kernel
theorem dX9_parse_83 : decode cX9_parse 83 = .ok (.iload_n 2, 1) := by decide +kernel
theorem dX9_parse_84 : decode cX9_parse 84 = .ok (.bipush 19, 2) := by decide +kernel
theorem dX9_parse_86 : decode cX9_parse 86 = .ok (.if_icmp .ne 12, 3) := by decide +kernel
theorem dX9_parse_89 : decode cX9_parse 89 = .ok (.aload_n 0, 1) := by decide +kernel
theorem dX9_parse_90 : decode cX9_parse 90 = .ok (.iconst 3, 1) := by decide +kernel
theorem dX9_parse_91 : decode cX9_parse 91 = .ok (.aload_n 0, 1) := by decide +kernel
theorem dX9_parse_92 : decode cX9_parse 92 = .ok (.getfield 34, 3) := by decide +kernel
theorem dX9_parse_95 : decode cX9_parse 95 = .ok (.invokevirtual 47, 3) := by decide +kernel
theorem dX9_parse_98 : decode cX9_parse 98 = .ok (.aload_n 0, 1) := by decide +kernel
theorem dX9_parse_99 : decode cX9_parse 99 = .ok (.dup, 1) := by decide +kernel
theorem dX9_parse_100 : decode cX9_parse 100 = .ok (.getfield 34, 3) := by decide +kernel
theorem dX9_parse_103 : decode cX9_parse 103 = .ok (.iconst 1, 1) := by decide +kernel
theorem dX9_parse_104 : decode cX9_parse 104 = .ok (.iadd, 1) := by decide +kernel
theorem dX9_parse_105 : decode cX9_parse 105 = .ok (.putfield 34, 3) := by decide +kernel
theorem dX9_parse_108 : decode cX9_parse 108 = .ok (.iinc 2 1, 3) := by decide +kernel
theorem dX9_parse_111 : decode cX9_parse 111 = .ok (.goto (-74), 3) := by decide +kernel
theorem dX9_parse_114 : decode cX9_parse 114 = .ok (.aload_n 0, 1) := by decide +kernel
theorem dX9_parse_115 : decode cX9_parse 115 = .ok (.getfield 37, 3) := by decide +kernel
theorem dX9_parse_118 : decode cX9_parse 118 = .ok (.ifCond .ne 20, 3) := by decide +kernel
theorem dX9_parse_121 : decode cX9_parse 121 = .ok (.aload_n 0, 1) := by decide +kernel
theorem dX9_parse_122 : decode cX9_parse 122 = .ok (.getfield 25, 3) := by decide +kernel
theorem dX9_parse_125 : decode cX9_parse 125 = .ok (.iconst 3, 1) := by decide +kernel
theorem dX9_parse_126 : decode cX9_parse 126 = .ok (.if_icmp .ge 12, 3) := by decide +kernel
theorem dX9_parse_129 : decode cX9_parse 129 = .ok (.aload_n 0, 1) := by decide +kernel
theorem dX9_parse_130 : decode cX9_parse 130 = .ok (.iconst 5, 1) := by decide +kernel
theorem dX9_parse_131 : decode cX9_parse 131 = .ok (.aload_n 0, 1) := by decide +kernel
theorem dX9_parse_132 : decode cX9_parse 132 = .ok (.getfield 31, 3) := by decide +kernel
theorem dX9_parse_135 : decode cX9_parse 135 = .ok (.invokevirtual 47, 3) := by decide +kernel
theorem dX9_parse_138 : decode cX9_parse 138 = .ok (.aload_n 0, 1) := by decide +kernel
theorem dX9_parse_139 : decode cX9_parse 139 = .ok (.getfield 37, 3) := by decide +kernel
theorem dX9_parse_142 : decode cX9_parse 142 = .ok (.ireturn, 1) := by decide +kernel
set_option maxHeartbeats 4000000 in
set_option maxRecDepth 100000 in
theorem tX9_parse {l : Launch} {g : yG} {n : Nat} {σ : yM} (hn : 172 ≤ n) (tb : Int → Int) (e : Int) (he : 0 ≤ e ∧ e ≤ 300) (htb : ∀ j : Int, 0 ≤ tb j ∧ tb j ≤ 255) (hB : ∀ j : Int, 0 ≤ j → j < e → σ 2 j = tb j) (rf rfp rW rH : Int) (rM : Int → Int → Int) (hR : (rf, rfp, rW, rH, rM) = txP tb e) : yMet l g yX9_parse cX9_parse 3 (some .int) (rmL 5) [yR g 1, yI e] (SC g) n σ (SC g) (yPi (fun v n' σ' => n' = n ∧ v = rf ∧ fT3 σ σ' ∧ σ' 1 5 = rfp ∧ (rf = 0 → σ' 1 3 = rW ∧ σ' 1 4 = rH ∧ ((3 ≤ rW ∧ rW ≤ 20) ∧ (3 ≤ rH ∧ rH ≤ 20)) ∧ tN σ' rH rW rM))) := by
  refine y_start (by decide) (Nat.le_of_ble_eq_true rfl) (fun X0 hF => ?_)
  show yV X0 g 3 (yQ X0 g (SC g) (yPi (fun v n' σ' => n' = n ∧ v = rf ∧ fT3 σ σ' ∧ σ' 1 5 = rfp ∧ (rf = 0 → σ' 1 3 = rW ∧ σ' 1 4 = rH ∧ ((3 ≤ rW ∧ rW ≤ 20) ∧ (3 ≤ rH ∧ rH ≤ 20)) ∧ tN σ' rH rW rM))) (rmL 5)) (SC g) n σ 0 0 0 [(0, yR g 1), (1, yI e)] []
  refine y_aload_n (pc := 0) hF dX9_parse_0 0 rfl ?_
  refine y_iload_n (pc := 1) hF dX9_parse_1 1 rfl ?_
  refine y_putf (pc := 2) (ci := 9) (σ' := yset σ 1 6 e) (sch' := (SC g)) hF dX9_parse_2 (by omega) rfl rfl rfl iX9 6 (by decide) w_131 tyX9 tyX9_ok nmX9 rfl rfl rfl rfl (Nat.le_of_ble_eq_true rfl) rfl (y_ps rfl) (fun k' h => ⟨yset_n h, rfl⟩) ?_
  refine y_aload_n (pc := 5) hF dX9_parse_5 0 rfl ?_
  refine y_iconst (pc := 6) hF dX9_parse_6 ?_
  refine y_putf (pc := 7) (ci := 9) (σ' := yset (yset σ 1 6 e) 1 7 0) (sch' := (SC g)) hF dX9_parse_7 (by omega) rfl rfl rfl iX9 7 (by decide) w_132 tyX9 tyX9_ok nmX9 rfl rfl rfl rfl (Nat.le_of_ble_eq_true rfl) rfl (y_ps rfl) (fun k' h => ⟨yset_n h, rfl⟩) ?_
  refine y_aload_n (pc := 10) hF dX9_parse_10 0 rfl ?_
  refine y_iconst (pc := 11) hF dX9_parse_11 ?_
  refine y_putf (pc := 12) (ci := 9) (σ' := yset (yset (yset σ 1 6 e) 1 7 0) 1 8 0) (sch' := (SC g)) hF dX9_parse_12 (by omega) rfl rfl rfl iX9 8 (by decide) w_133 tyX9 tyX9_ok nmX9 rfl rfl rfl rfl (Nat.le_of_ble_eq_true rfl) rfl (y_ps rfl) (fun k' h => ⟨yset_n h, rfl⟩) ?_
  refine y_aload_n (pc := 15) hF dX9_parse_15 0 rfl ?_
  refine y_iconst (pc := 16) hF dX9_parse_16 ?_
  refine y_putf (pc := 17) (ci := 9) (σ' := yset (yset (yset (yset σ 1 6 e) 1 7 0) 1 8 0) 1 5 (-1)) (sch' := (SC g)) hF dX9_parse_17 (by omega) rfl rfl rfl iX9 5 (by decide) w_129 tyX9 tyX9_ok nmX9 rfl rfl rfl rfl (Nat.le_of_ble_eq_true rfl) rfl (y_ps rfl) (fun k' h => ⟨yset_n h, rfl⟩) ?_
  refine y_aload_n (pc := 20) hF dX9_parse_20 0 rfl ?_
  refine y_iconst (pc := 21) hF dX9_parse_21 ?_
  refine y_putf (pc := 22) (ci := 9) (σ' := yset (yset (yset (yset (yset σ 1 6 e) 1 7 0) 1 8 0) 1 5 (-1)) 1 9 0) (sch' := (SC g)) hF dX9_parse_22 (by omega) rfl rfl rfl iX9 9 (by decide) w_134 tyX9 tyX9_ok nmX9 rfl rfl rfl rfl (Nat.le_of_ble_eq_true rfl) rfl (y_ps rfl) (fun k' h => ⟨yset_n h, rfl⟩) ?_
  refine y_aload_n (pc := 25) hF dX9_parse_25 0 rfl ?_
  refine y_iconst (pc := 26) hF dX9_parse_26 ?_
  refine y_putf (pc := 27) (ci := 9) (σ' := yset (yset (yset (yset (yset (yset σ 1 6 e) 1 7 0) 1 8 0) 1 5 (-1)) 1 9 0) 1 3 0) (sch' := (SC g)) hF dX9_parse_27 (by omega) rfl rfl rfl iX9 3 (by decide) w_125 tyX9 tyX9_ok nmX9 rfl rfl rfl rfl (Nat.le_of_ble_eq_true rfl) rfl (y_ps rfl) (fun k' h => ⟨yset_n h, rfl⟩) ?_
  refine y_aload_n (pc := 30) hF dX9_parse_30 0 rfl ?_
  refine y_iconst (pc := 31) hF dX9_parse_31 ?_
  refine y_putf (pc := 32) (ci := 9) (σ' := yset (yset (yset (yset (yset (yset (yset σ 1 6 e) 1 7 0) 1 8 0) 1 5 (-1)) 1 9 0) 1 3 0) 1 4 0) (sch' := (SC g)) hF dX9_parse_32 (by omega) rfl rfl rfl iX9 4 (by decide) w_127 tyX9 tyX9_ok nmX9 rfl rfl rfl rfl (Nat.le_of_ble_eq_true rfl) rfl (y_ps rfl) (fun k' h => ⟨yset_n h, rfl⟩) ?_
  obtain ⟨τ0, hτ0⟩ : ∃ s, s = yset (yset (yset (yset (yset (yset (yset σ 1 6 e) 1 7 0) 1 8 0) 1 5 (-1)) 1 9 0) 1 3 0) 1 4 0 := ⟨_, rfl⟩
  rw [← hτ0]
  have zQ0 : rTq τ0 tb e 0 0 (-1) 0 0 0 := by refine ⟨?_, ?_, ?_, ?_, ?_, ?_, ?_, fun j a b => ?_⟩ <;> (rw [hτ0]; simp [yset_ap]); exact hB j a b
  have zF0 : fT3 σ τ0 := ⟨fun c a b => by rw [hτ0]; repeat rw [yset_n a], by rw [hτ0]; simp [yset_ap]⟩
  refine y_iconst (pc := 35) hF dX9_parse_35 ?_
  refine y_istore_n (pc := 36) (lv' := [(0, yR g 1), (1, yI e), (2, yI 0)]) hF dX9_parse_36 (by decide) rfl rfl ?_
  have zL37 : ∀ (N : Nat) (τ : yM) (y f fp p W h dr : Int) (M : Int → Int → Int), N = (20 - y).toNat → (rTq τ tb e p f fp W h dr ∧ fT3 σ τ ∧ (0 ≤ y ∧ y ≤ 20) ∧ (0 ≤ f ∧ f ≤ 5) ∧ ((f ≠ 0 ∧ rf = f ∧ rfp = fp) ∨ (f = 0 ∧ fp = -1 ∧ y ≤ 19 ∧ (0 ≤ p ∧ p ≤ e) ∧ dr = y * W ∧ (y = 0 ∨ (3 ≤ W ∧ W ≤ 20)) ∧ tN τ y W M ∧ (rf, rfp, rW, rH, rM) = txR tb e (20 - y).toNat y p W M))) → yV X0 g 3 (yQ X0 g (SC g) (yPi (fun v n' σ' => n' = n ∧ v = rf ∧ fT3 σ σ' ∧ σ' 1 5 = rfp ∧ (rf = 0 → σ' 1 3 = rW ∧ σ' 1 4 = rH ∧ ((3 ≤ rW ∧ rW ≤ 20) ∧ (3 ≤ rH ∧ rH ≤ 20)) ∧ tN σ' rH rW rM))) (rmL 5)) (SC g) n τ 0 0 37 [(0, yR g 1), (1, yI e), (2, yI y)] [] := by
    intro N
    induction N using Nat.strongRecOn with
    | ind N zh37 =>
      intro τ  y f fp p W h dr  M  zN37 zI37
      refine y_iload_n (pc := 37) hF dX9_parse_37 2 rfl ?_
      refine y_bipush (pc := 38) hF dX9_parse_38 (by decide) ?_
      refine y_icmp_ge (pc := 40) hF dX9_parse_40 114 rfl (by omega) (by omega) (fun zc40 => ?_) (fun zc40 => ?_)
      · skip
        have zF : f ≠ 0 ∧ rf = f ∧ rfp = fp := zI37.2.2.2.2.resolve_right (fun ze => by omega)
        refine y_aload_n (pc := 114) hF dX9_parse_114 0 rfl ?_
        refine y_get (pc := 115) (ci := 9) hF dX9_parse_115 (by omega) rfl rfl rfl iX9 8 (by decide) w_133 rfl ?_
        rw [show τ 1 8 = f from zI37.1.2.2.1]
        refine y_if_ne (pc := 118) hF dX9_parse_118 138 rfl (by omega) (fun zc118 => ?_) (fun zc118 => ?_)
        · skip
          skip
          refine y_aload_n (pc := 138) hF dX9_parse_138 0 rfl ?_
          refine y_get (pc := 139) (ci := 9) hF dX9_parse_139 (by omega) rfl rfl rfl iX9 8 (by decide) w_133 rfl ?_
          rw [show τ 1 8 = f from zI37.1.2.2.1]
          exact y_iret (pc := 142) hF dX9_parse_142 (Nat.zero_le _) (Nat.zero_le _) ⟨_, rfl, rfl, zF.2.1.symm, zI37.2.1, by rw [zI37.1.2.2.2.1]; exact zF.2.2.symm, fun ze => absurd (zF.2.1.symm.trans ze) zF.1⟩
        · skip
          refine y_aload_n (pc := 121) hF dX9_parse_121 0 rfl ?_
          refine y_get (pc := 122) (ci := 9) hF dX9_parse_122 (by omega) rfl rfl rfl iX9 4 (by decide) w_127 rfl ?_
          rw [show τ 1 4 = h from zI37.1.2.2.2.2.2.1]
          refine y_iconst (pc := 125) hF dX9_parse_125 ?_
          refine y_icmp_ge (pc := 126) hF dX9_parse_126 138 rfl (by omega) (by omega) (fun zc126 => ?_) (fun zc126 => ?_)
          · skip
            skip
            refine y_aload_n (pc := 138) hF dX9_parse_138 0 rfl ?_
            refine y_get (pc := 139) (ci := 9) hF dX9_parse_139 (by omega) rfl rfl rfl iX9 8 (by decide) w_133 rfl ?_
            rw [show τ 1 8 = f from zI37.1.2.2.1]
            exact y_iret (pc := 142) hF dX9_parse_142 (Nat.zero_le _) (Nat.zero_le _) ⟨_, rfl, rfl, zF.2.1.symm, zI37.2.1, by rw [zI37.1.2.2.2.1]; exact zF.2.2.symm, fun ze => absurd (zF.2.1.symm.trans ze) zF.1⟩
          · skip
            refine y_aload_n (pc := 129) hF dX9_parse_129 0 rfl ?_
            refine y_iconst (pc := 130) hF dX9_parse_130 ?_
            refine y_aload_n (pc := 131) hF dX9_parse_131 0 rfl ?_
            refine y_get (pc := 132) (ci := 9) hF dX9_parse_132 (by omega) rfl rfl rfl iX9 6 (by decide) w_131 rfl ?_
            rw [show τ 1 6 = e from zI37.1.1]
            refine y_cv (y_rV (pc := 135) hF (tX9_failAt hn (5) (e)) dX9_parse_135 (by omega) rfl rfl rfl w_701 qX9_failAt rfl ⟨Nat.le_of_ble_eq_true rfl, Nat.le_of_ble_eq_true rfl⟩ ⟨Nat.zero_le _, Nat.zero_le _⟩ (Nat.le_of_ble_eq_true rfl) rfl) rfl rfl (fun n' σ' zp135 => ?_)
            obtain ⟨zn135, rfl⟩ := zp135
            have zn135 := zn135.symm
            subst zn135
            obtain ⟨τ5, hτ5⟩ : ∃ s, s = yset (yset τ 1 8 5) 1 5 e := ⟨_, rfl⟩
            rw [← hτ5]
            skip
            refine y_aload_n (pc := 138) hF dX9_parse_138 0 rfl ?_
            refine y_get (pc := 139) (ci := 9) hF dX9_parse_139 (by omega) rfl rfl rfl iX9 8 (by decide) w_133 rfl ?_
            exact y_iret (pc := 142) hF dX9_parse_142 (Nat.zero_le _) (Nat.zero_le _) (by exfalso; omega)
      · skip
        refine y_aload_n (pc := 43) hF dX9_parse_43 0 rfl ?_
        refine y_get (pc := 44) (ci := 9) hF dX9_parse_44 (by omega) rfl rfl rfl iX9 8 (by decide) w_133 rfl ?_
        rw [show τ 1 8 = f from zI37.1.2.2.1]
        refine y_if_ne (pc := 47) hF dX9_parse_47 114 rfl (by omega) (fun zc47 => ?_) (fun zc47 => ?_)
        · skip
          have zF : f ≠ 0 ∧ rf = f ∧ rfp = fp := zI37.2.2.2.2.resolve_right (fun ze => by omega)
          refine y_aload_n (pc := 114) hF dX9_parse_114 0 rfl ?_
          refine y_get (pc := 115) (ci := 9) hF dX9_parse_115 (by omega) rfl rfl rfl iX9 8 (by decide) w_133 rfl ?_
          rw [show τ 1 8 = f from zI37.1.2.2.1]
          refine y_if_ne (pc := 118) hF dX9_parse_118 138 rfl (by omega) (fun zc118 => ?_) (fun zc118 => ?_)
          · skip
            skip
            refine y_aload_n (pc := 138) hF dX9_parse_138 0 rfl ?_
            refine y_get (pc := 139) (ci := 9) hF dX9_parse_139 (by omega) rfl rfl rfl iX9 8 (by decide) w_133 rfl ?_
            rw [show τ 1 8 = f from zI37.1.2.2.1]
            exact y_iret (pc := 142) hF dX9_parse_142 (Nat.zero_le _) (Nat.zero_le _) ⟨_, rfl, rfl, zF.2.1.symm, zI37.2.1, by rw [zI37.1.2.2.2.1]; exact zF.2.2.symm, fun ze => absurd (zF.2.1.symm.trans ze) zF.1⟩
          · skip
            refine y_aload_n (pc := 121) hF dX9_parse_121 0 rfl ?_
            refine y_get (pc := 122) (ci := 9) hF dX9_parse_122 (by omega) rfl rfl rfl iX9 4 (by decide) w_127 rfl ?_
            rw [show τ 1 4 = h from zI37.1.2.2.2.2.2.1]
            refine y_iconst (pc := 125) hF dX9_parse_125 ?_
            refine y_icmp_ge (pc := 126) hF dX9_parse_126 138 rfl (by omega) (by omega) (fun zc126 => ?_) (fun zc126 => ?_)
            · skip
              skip
              refine y_aload_n (pc := 138) hF dX9_parse_138 0 rfl ?_
              refine y_get (pc := 139) (ci := 9) hF dX9_parse_139 (by omega) rfl rfl rfl iX9 8 (by decide) w_133 rfl ?_
              rw [show τ 1 8 = f from zI37.1.2.2.1]
              exact y_iret (pc := 142) hF dX9_parse_142 (Nat.zero_le _) (Nat.zero_le _) ⟨_, rfl, rfl, zF.2.1.symm, zI37.2.1, by rw [zI37.1.2.2.2.1]; exact zF.2.2.symm, fun ze => absurd (zF.2.1.symm.trans ze) zF.1⟩
            · skip
              refine y_aload_n (pc := 129) hF dX9_parse_129 0 rfl ?_
              refine y_iconst (pc := 130) hF dX9_parse_130 ?_
              refine y_aload_n (pc := 131) hF dX9_parse_131 0 rfl ?_
              refine y_get (pc := 132) (ci := 9) hF dX9_parse_132 (by omega) rfl rfl rfl iX9 6 (by decide) w_131 rfl ?_
              rw [show τ 1 6 = e from zI37.1.1]
              refine y_cv (y_rV (pc := 135) hF (tX9_failAt hn (5) (e)) dX9_parse_135 (by omega) rfl rfl rfl w_701 qX9_failAt rfl ⟨Nat.le_of_ble_eq_true rfl, Nat.le_of_ble_eq_true rfl⟩ ⟨Nat.zero_le _, Nat.zero_le _⟩ (Nat.le_of_ble_eq_true rfl) rfl) rfl rfl (fun n' σ' zp135 => ?_)
              obtain ⟨zn135, rfl⟩ := zp135
              have zn135 := zn135.symm
              subst zn135
              obtain ⟨τ5, hτ5⟩ : ∃ s, s = yset (yset τ 1 8 5) 1 5 e := ⟨_, rfl⟩
              rw [← hτ5]
              skip
              refine y_aload_n (pc := 138) hF dX9_parse_138 0 rfl ?_
              refine y_get (pc := 139) (ci := 9) hF dX9_parse_139 (by omega) rfl rfl rfl iX9 8 (by decide) w_133 rfl ?_
              exact y_iret (pc := 142) hF dX9_parse_142 (Nat.zero_le _) (Nat.zero_le _) (by exfalso; omega)
        · skip
          have zf0 : f = 0 := by omega
          have zR2 := zI37.2.2.2.2.resolve_left (fun ze => ze.1 zf0)
          have zfp : fp = -1 := zR2.2.1
          subst zfp
          have zyy := zR2.2.2.1
          have zpp := zR2.2.2.2.1
          have zWW := zR2.2.2.2.2.2.1
          have zdr : 0 ≤ dr ∧ dr + rwMo y W ≤ 400 := by have zq := zR2.2.2.2.2.1; unfold rwMo; rcases Decidable.em (y = 0) with ze | ze; (rw [if_pos ze, zq, ze, Int.zero_mul]; omega); (rw [if_neg ze]; have zW3 : 3 ≤ W ∧ W ≤ 20 := (by omega); have zm1 : y * W ≤ 19 * W := Int.mul_le_mul_of_nonneg_right (by omega) (by omega); have zm2 : 0 ≤ y * W := Int.mul_nonneg (by omega) (by omega); omega)
          have zmo : 0 ≤ rwMo y W ∧ rwMo y W ≤ 20 := by unfold rwMo; split <;> omega
          obtain ⟨E_, hE⟩ : ∃ r, r = rwE tb e y W p (-1) := ⟨_, rfl⟩
          obtain ⟨f1, fp1, p1, c1, m1⟩ := E_
          have zeb := rwE_bd htb zpp (by omega) zmo hE
          have zQf : rTq τ tb e p 0 (-1) W h dr := by rw [← zf0]; exact zI37.1
          refine y_aload_n (pc := 50) hF dX9_parse_50 0 rfl ?_
          refine y_iload_n (pc := 51) hF dX9_parse_51 2 rfl ?_
          refine y_cv (y_rV (pc := 52) hF (tX9_readRow hn tb e p (-1) W h dr zQf (by omega) htb y (by omega) zWW zdr) dX9_parse_52 (by omega) rfl rfl rfl w_686 qX9_readRow rfl ⟨Nat.le_of_ble_eq_true rfl, Nat.le_of_ble_eq_true rfl⟩ ⟨Nat.zero_le _, Nat.zero_le _⟩ (Nat.le_of_ble_eq_true rfl) rfl) rfl rfl (fun n' σ52 zp52 => ?_)
          obtain ⟨zn52, zp52⟩ := zp52
          have zn52 := zn52.symm
          subst zn52
          rw [← hE] at zp52
          have zQ1 : rTq σ52 tb e p1 f1 fp1 (if y = 0 then c1 else W) (y + 1) (dr + c1) := zp52.2.1
          have zN1 : rTn τ σ52 dr c1 m1 := zp52.2.2
          refine y_aload_n (pc := 55) hF dX9_parse_55 0 rfl ?_
          refine y_get (pc := 56) (ci := 9) hF dX9_parse_56 (by omega) rfl rfl rfl iX9 8 (by decide) w_133 rfl ?_
          rw [show σ52 1 8 = f1 from zQ1.2.2.1]
          refine y_if_ne (pc := 59) hF dX9_parse_59 76 rfl (by omega) (fun zc59 => ?_) (fun zc59 => ?_)
          · skip
            refine y_aload_n (pc := 76) hF dX9_parse_76 0 rfl ?_
            refine y_get (pc := 77) (ci := 9) hF dX9_parse_77 (by omega) rfl rfl rfl iX9 8 (by decide) w_133 rfl ?_
            rw [show σ52 1 8 = f1 from zQ1.2.2.1]
            refine y_if_ne (pc := 80) hF dX9_parse_80 98 rfl (by omega) (fun zc80 => ?_) (fun zc80 => ?_)
            · skip
              have zgo0 : ((f1 ≠ 0 ∧ rf = f1 ∧ rfp = fp1) ∨ (f1 = 0 ∧ fp1 = -1 ∧ y + 1 ≤ 19 ∧ (0 ≤ p1 + 1 ∧ p1 + 1 ≤ e) ∧ dr + c1 = (y + 1) * (if y = 0 then c1 else W) ∧ (y + 1 = 0 ∨ (3 ≤ (if y = 0 then c1 else W) ∧ (if y = 0 then c1 else W) ≤ 20)) ∧ tN σ52 (y + 1) (if y = 0 then c1 else W) (txM M y m1) ∧ (rf, rfp, rW, rH, rM) = txR tb e (20 - (y + 1)).toNat (y + 1) (p1 + 1) (if y = 0 then c1 else W) (txM M y m1))) := by { rcases Decidable.em (f1 = 0) with zg0 | zg0; (right; have zcc : y = 0 ∨ c1 = W := by { rcases Decidable.em (y = 0) with ze | ze; (exact Or.inl ze); (right; have zl := (zeb.2.2.2.2.2 zg0).2; have zm := zeb.2.2.2.1.2; unfold rwLe at zl; unfold rwMo at zm; rw [if_neg ze] at zl zm; omega) }; have zc3 : 3 ≤ (if y = 0 then c1 else W) ∧ (if y = 0 then c1 else W) ≤ 20 := by { have zl := (zeb.2.2.2.2.2 zg0).2; have zm := zeb.2.2.2.1.2; unfold rwLe at zl; unfold rwMo at zm; split <;> simp_all <;> omega }; have ztn := tN_up zI37.2.2.1.1 zR2.2.2.2.2.1 zcc zR2.2.2.2.2.2.2.1 zN1 zeb.2.2.2.2.1; exact ⟨zg0, (zeb.2.2.2.2.2 zg0).1, by omega, by omega, ztn.2, Or.inr zc3, ztn.1, zR2.2.2.2.2.2.2.2.trans (txR_g rfl (by omega) hE zg0 (by omega))⟩); (left; have zq := zR2.2.2.2.2.2.2.2; rw [txR_f rfl zyy hE zg0] at zq; simp only [Prod.mk.injEq] at zq; exact ⟨zg0, zq.1, zq.2.1⟩) }
              refine y_aload_n (pc := 98) hF dX9_parse_98 0 rfl ?_
              refine y_dup (pc := 99) hF dX9_parse_99 rfl ?_
              refine y_get (pc := 100) (ci := 9) hF dX9_parse_100 (by omega) rfl rfl rfl iX9 7 (by decide) w_132 rfl ?_
              rw [show σ52 1 7 = p1 from zQ1.2.1]
              refine y_iconst (pc := 103) hF dX9_parse_103 ?_
              refine y_iadd (pc := 104) hF dX9_parse_104 ?_
              refine y_putf (pc := 105) (ci := 9) (σ' := yset σ52 1 7 (p1 + 1)) (sch' := (SC g)) hF dX9_parse_105 (by omega) rfl rfl rfl iX9 7 (by decide) w_132 tyX9 tyX9_ok nmX9 rfl rfl rfl rfl (Nat.le_of_ble_eq_true rfl) rfl (y_ps rfl) (fun k' h => ⟨yset_n h, rfl⟩) ?_
              obtain ⟨τ6, hτ6⟩ : ∃ s, s = yset σ52 1 7 (p1 + 1) := ⟨_, rfl⟩
              rw [← hτ6]
              refine y_iinc (pc := 108) (lv' := [(0, yR g 1), (1, yI e), (2, yI (y + 1))]) hF dX9_parse_108 2 rfl (by decide) rfl rfl ?_
              refine y_goto (pc := 111) hF dX9_parse_111 37 rfl ?_
              exact zh37 _ (by omega) τ6 (y + 1) f1 fp1 (p1 + 1) (if y = 0 then c1 else W) (y + 1) (dr + c1) (txM M y m1) rfl ⟨(zQ1.place hτ6).1, zI37.2.1.tr (zp52.1.tr (zQ1.place hτ6).2.t3), by omega, by omega, zgo0.imp id (fun ze => ⟨ze.1, ze.2.1, ze.2.2.1, ze.2.2.2.1, ze.2.2.2.2.1, ze.2.2.2.2.2.1, ze.2.2.2.2.2.2.1.fr ((zQ1.place hτ6).2.1 3 (by omega)), ze.2.2.2.2.2.2.2⟩)⟩
            · skip
              refine y_iload_n (pc := 83) hF dX9_parse_83 2 rfl ?_
              refine y_bipush (pc := 84) hF dX9_parse_84 (by decide) ?_
              refine y_icmp_ne (pc := 86) hF dX9_parse_86 98 rfl (by omega) (by omega) (fun zc86 => ?_) (fun zc86 => ?_)
              · skip
                have zgo0 : ((f1 ≠ 0 ∧ rf = f1 ∧ rfp = fp1) ∨ (f1 = 0 ∧ fp1 = -1 ∧ y + 1 ≤ 19 ∧ (0 ≤ p1 + 1 ∧ p1 + 1 ≤ e) ∧ dr + c1 = (y + 1) * (if y = 0 then c1 else W) ∧ (y + 1 = 0 ∨ (3 ≤ (if y = 0 then c1 else W) ∧ (if y = 0 then c1 else W) ≤ 20)) ∧ tN σ52 (y + 1) (if y = 0 then c1 else W) (txM M y m1) ∧ (rf, rfp, rW, rH, rM) = txR tb e (20 - (y + 1)).toNat (y + 1) (p1 + 1) (if y = 0 then c1 else W) (txM M y m1))) := by { rcases Decidable.em (f1 = 0) with zg0 | zg0; (right; have zcc : y = 0 ∨ c1 = W := by { rcases Decidable.em (y = 0) with ze | ze; (exact Or.inl ze); (right; have zl := (zeb.2.2.2.2.2 zg0).2; have zm := zeb.2.2.2.1.2; unfold rwLe at zl; unfold rwMo at zm; rw [if_neg ze] at zl zm; omega) }; have zc3 : 3 ≤ (if y = 0 then c1 else W) ∧ (if y = 0 then c1 else W) ≤ 20 := by { have zl := (zeb.2.2.2.2.2 zg0).2; have zm := zeb.2.2.2.1.2; unfold rwLe at zl; unfold rwMo at zm; split <;> simp_all <;> omega }; have ztn := tN_up zI37.2.2.1.1 zR2.2.2.2.2.1 zcc zR2.2.2.2.2.2.2.1 zN1 zeb.2.2.2.2.1; exact ⟨zg0, (zeb.2.2.2.2.2 zg0).1, by omega, by omega, ztn.2, Or.inr zc3, ztn.1, zR2.2.2.2.2.2.2.2.trans (txR_g rfl (by omega) hE zg0 (by omega))⟩); (left; have zq := zR2.2.2.2.2.2.2.2; rw [txR_f rfl zyy hE zg0] at zq; simp only [Prod.mk.injEq] at zq; exact ⟨zg0, zq.1, zq.2.1⟩) }
                refine y_aload_n (pc := 98) hF dX9_parse_98 0 rfl ?_
                refine y_dup (pc := 99) hF dX9_parse_99 rfl ?_
                refine y_get (pc := 100) (ci := 9) hF dX9_parse_100 (by omega) rfl rfl rfl iX9 7 (by decide) w_132 rfl ?_
                rw [show σ52 1 7 = p1 from zQ1.2.1]
                refine y_iconst (pc := 103) hF dX9_parse_103 ?_
                refine y_iadd (pc := 104) hF dX9_parse_104 ?_
                refine y_putf (pc := 105) (ci := 9) (σ' := yset σ52 1 7 (p1 + 1)) (sch' := (SC g)) hF dX9_parse_105 (by omega) rfl rfl rfl iX9 7 (by decide) w_132 tyX9 tyX9_ok nmX9 rfl rfl rfl rfl (Nat.le_of_ble_eq_true rfl) rfl (y_ps rfl) (fun k' h => ⟨yset_n h, rfl⟩) ?_
                obtain ⟨τ6, hτ6⟩ : ∃ s, s = yset σ52 1 7 (p1 + 1) := ⟨_, rfl⟩
                rw [← hτ6]
                refine y_iinc (pc := 108) (lv' := [(0, yR g 1), (1, yI e), (2, yI (y + 1))]) hF dX9_parse_108 2 rfl (by decide) rfl rfl ?_
                refine y_goto (pc := 111) hF dX9_parse_111 37 rfl ?_
                exact zh37 _ (by omega) τ6 (y + 1) f1 fp1 (p1 + 1) (if y = 0 then c1 else W) (y + 1) (dr + c1) (txM M y m1) rfl ⟨(zQ1.place hτ6).1, zI37.2.1.tr (zp52.1.tr (zQ1.place hτ6).2.t3), by omega, by omega, zgo0.imp id (fun ze => ⟨ze.1, ze.2.1, ze.2.2.1, ze.2.2.2.1, ze.2.2.2.2.1, ze.2.2.2.2.2.1, ze.2.2.2.2.2.2.1.fr ((zQ1.place hτ6).2.1 3 (by omega)), ze.2.2.2.2.2.2.2⟩)⟩
              · skip
                refine y_aload_n (pc := 89) hF dX9_parse_89 0 rfl ?_
                refine y_iconst (pc := 90) hF dX9_parse_90 ?_
                refine y_aload_n (pc := 91) hF dX9_parse_91 0 rfl ?_
                refine y_get (pc := 92) (ci := 9) hF dX9_parse_92 (by omega) rfl rfl rfl iX9 7 (by decide) w_132 rfl ?_
                rw [show σ52 1 7 = p1 from zQ1.2.1]
                refine y_cv (y_rV (pc := 95) hF (tX9_failAt hn (3) (p1)) dX9_parse_95 (by omega) rfl rfl rfl w_701 qX9_failAt rfl ⟨Nat.le_of_ble_eq_true rfl, Nat.le_of_ble_eq_true rfl⟩ ⟨Nat.zero_le _, Nat.zero_le _⟩ (Nat.le_of_ble_eq_true rfl) rfl) rfl rfl (fun n' σ' zp95 => ?_)
                obtain ⟨zn95, rfl⟩ := zp95
                have zn95 := zn95.symm
                subst zn95
                obtain ⟨τ9, hτ9⟩ : ∃ s, s = yset (yset σ52 1 8 3) 1 5 p1 := ⟨_, rfl⟩
                rw [← hτ9]
                have z9 := zQ1.fail hτ9; have zg0 : f1 = 0 := (by omega); have zr3 : rf = 3 ∧ rfp = p1 := by { have zq := zR2.2.2.2.2.2.2.2; rw [txR_3 rfl (by omega) hE zg0 (by omega)] at zq; simp only [Prod.mk.injEq] at zq; exact ⟨zq.1, zq.2.1⟩ }
                refine y_aload_n (pc := 98) hF dX9_parse_98 0 rfl ?_
                refine y_dup (pc := 99) hF dX9_parse_99 rfl ?_
                refine y_get (pc := 100) (ci := 9) hF dX9_parse_100 (by omega) rfl rfl rfl iX9 7 (by decide) w_132 rfl ?_
                rw [show τ9 1 7 = p1 from z9.1.2.1]
                refine y_iconst (pc := 103) hF dX9_parse_103 ?_
                refine y_iadd (pc := 104) hF dX9_parse_104 ?_
                refine y_putf (pc := 105) (ci := 9) (σ' := yset τ9 1 7 (p1 + 1)) (sch' := (SC g)) hF dX9_parse_105 (by omega) rfl rfl rfl iX9 7 (by decide) w_132 tyX9 tyX9_ok nmX9 rfl rfl rfl rfl (Nat.le_of_ble_eq_true rfl) rfl (y_ps rfl) (fun k' h => ⟨yset_n h, rfl⟩) ?_
                obtain ⟨τ7, hτ7⟩ : ∃ s, s = yset τ9 1 7 (p1 + 1) := ⟨_, rfl⟩
                rw [← hτ7]
                refine y_iinc (pc := 108) (lv' := [(0, yR g 1), (1, yI e), (2, yI (y + 1))]) hF dX9_parse_108 2 rfl (by decide) rfl rfl ?_
                refine y_goto (pc := 111) hF dX9_parse_111 37 rfl ?_
                exact zh37 _ (by omega) τ7 (y + 1) 3 p1 (p1 + 1) (if y = 0 then c1 else W) (y + 1) (dr + c1) (txM M y m1) rfl ⟨(z9.1.place hτ7).1, zI37.2.1.tr (zp52.1.tr (z9.2.t3.tr (z9.1.place hτ7).2.t3)), by omega, by omega, Or.inl ⟨by omega, zr3⟩⟩
          · skip
            refine y_aload_n (pc := 62) hF dX9_parse_62 0 rfl ?_
            refine y_get (pc := 63) (ci := 9) hF dX9_parse_63 (by omega) rfl rfl rfl iX9 7 (by decide) w_132 rfl ?_
            rw [show σ52 1 7 = p1 from zQ1.2.1]
            refine y_aload_n (pc := 66) hF dX9_parse_66 0 rfl ?_
            refine y_get (pc := 67) (ci := 9) hF dX9_parse_67 (by omega) rfl rfl rfl iX9 6 (by decide) w_131 rfl ?_
            rw [show σ52 1 6 = e from zQ1.1]
            refine y_icmp_lt (pc := 70) hF dX9_parse_70 76 rfl (by omega) (by omega) (fun zc70 => ?_) (fun zc70 => ?_)
            · skip
              refine y_aload_n (pc := 76) hF dX9_parse_76 0 rfl ?_
              refine y_get (pc := 77) (ci := 9) hF dX9_parse_77 (by omega) rfl rfl rfl iX9 8 (by decide) w_133 rfl ?_
              rw [show σ52 1 8 = f1 from zQ1.2.2.1]
              refine y_if_ne (pc := 80) hF dX9_parse_80 98 rfl (by omega) (fun zc80 => ?_) (fun zc80 => ?_)
              · skip
                have zgo0 : ((f1 ≠ 0 ∧ rf = f1 ∧ rfp = fp1) ∨ (f1 = 0 ∧ fp1 = -1 ∧ y + 1 ≤ 19 ∧ (0 ≤ p1 + 1 ∧ p1 + 1 ≤ e) ∧ dr + c1 = (y + 1) * (if y = 0 then c1 else W) ∧ (y + 1 = 0 ∨ (3 ≤ (if y = 0 then c1 else W) ∧ (if y = 0 then c1 else W) ≤ 20)) ∧ tN σ52 (y + 1) (if y = 0 then c1 else W) (txM M y m1) ∧ (rf, rfp, rW, rH, rM) = txR tb e (20 - (y + 1)).toNat (y + 1) (p1 + 1) (if y = 0 then c1 else W) (txM M y m1))) := by { rcases Decidable.em (f1 = 0) with zg0 | zg0; (right; have zcc : y = 0 ∨ c1 = W := by { rcases Decidable.em (y = 0) with ze | ze; (exact Or.inl ze); (right; have zl := (zeb.2.2.2.2.2 zg0).2; have zm := zeb.2.2.2.1.2; unfold rwLe at zl; unfold rwMo at zm; rw [if_neg ze] at zl zm; omega) }; have zc3 : 3 ≤ (if y = 0 then c1 else W) ∧ (if y = 0 then c1 else W) ≤ 20 := by { have zl := (zeb.2.2.2.2.2 zg0).2; have zm := zeb.2.2.2.1.2; unfold rwLe at zl; unfold rwMo at zm; split <;> simp_all <;> omega }; have ztn := tN_up zI37.2.2.1.1 zR2.2.2.2.2.1 zcc zR2.2.2.2.2.2.2.1 zN1 zeb.2.2.2.2.1; exact ⟨zg0, (zeb.2.2.2.2.2 zg0).1, by omega, by omega, ztn.2, Or.inr zc3, ztn.1, zR2.2.2.2.2.2.2.2.trans (txR_g rfl (by omega) hE zg0 (by omega))⟩); (left; have zq := zR2.2.2.2.2.2.2.2; rw [txR_f rfl zyy hE zg0] at zq; simp only [Prod.mk.injEq] at zq; exact ⟨zg0, zq.1, zq.2.1⟩) }
                refine y_aload_n (pc := 98) hF dX9_parse_98 0 rfl ?_
                refine y_dup (pc := 99) hF dX9_parse_99 rfl ?_
                refine y_get (pc := 100) (ci := 9) hF dX9_parse_100 (by omega) rfl rfl rfl iX9 7 (by decide) w_132 rfl ?_
                rw [show σ52 1 7 = p1 from zQ1.2.1]
                refine y_iconst (pc := 103) hF dX9_parse_103 ?_
                refine y_iadd (pc := 104) hF dX9_parse_104 ?_
                refine y_putf (pc := 105) (ci := 9) (σ' := yset σ52 1 7 (p1 + 1)) (sch' := (SC g)) hF dX9_parse_105 (by omega) rfl rfl rfl iX9 7 (by decide) w_132 tyX9 tyX9_ok nmX9 rfl rfl rfl rfl (Nat.le_of_ble_eq_true rfl) rfl (y_ps rfl) (fun k' h => ⟨yset_n h, rfl⟩) ?_
                obtain ⟨τ6, hτ6⟩ : ∃ s, s = yset σ52 1 7 (p1 + 1) := ⟨_, rfl⟩
                rw [← hτ6]
                refine y_iinc (pc := 108) (lv' := [(0, yR g 1), (1, yI e), (2, yI (y + 1))]) hF dX9_parse_108 2 rfl (by decide) rfl rfl ?_
                refine y_goto (pc := 111) hF dX9_parse_111 37 rfl ?_
                exact zh37 _ (by omega) τ6 (y + 1) f1 fp1 (p1 + 1) (if y = 0 then c1 else W) (y + 1) (dr + c1) (txM M y m1) rfl ⟨(zQ1.place hτ6).1, zI37.2.1.tr (zp52.1.tr (zQ1.place hτ6).2.t3), by omega, by omega, zgo0.imp id (fun ze => ⟨ze.1, ze.2.1, ze.2.2.1, ze.2.2.2.1, ze.2.2.2.2.1, ze.2.2.2.2.2.1, ze.2.2.2.2.2.2.1.fr ((zQ1.place hτ6).2.1 3 (by omega)), ze.2.2.2.2.2.2.2⟩)⟩
              · skip
                refine y_iload_n (pc := 83) hF dX9_parse_83 2 rfl ?_
                refine y_bipush (pc := 84) hF dX9_parse_84 (by decide) ?_
                refine y_icmp_ne (pc := 86) hF dX9_parse_86 98 rfl (by omega) (by omega) (fun zc86 => ?_) (fun zc86 => ?_)
                · skip
                  have zgo0 : ((f1 ≠ 0 ∧ rf = f1 ∧ rfp = fp1) ∨ (f1 = 0 ∧ fp1 = -1 ∧ y + 1 ≤ 19 ∧ (0 ≤ p1 + 1 ∧ p1 + 1 ≤ e) ∧ dr + c1 = (y + 1) * (if y = 0 then c1 else W) ∧ (y + 1 = 0 ∨ (3 ≤ (if y = 0 then c1 else W) ∧ (if y = 0 then c1 else W) ≤ 20)) ∧ tN σ52 (y + 1) (if y = 0 then c1 else W) (txM M y m1) ∧ (rf, rfp, rW, rH, rM) = txR tb e (20 - (y + 1)).toNat (y + 1) (p1 + 1) (if y = 0 then c1 else W) (txM M y m1))) := by { rcases Decidable.em (f1 = 0) with zg0 | zg0; (right; have zcc : y = 0 ∨ c1 = W := by { rcases Decidable.em (y = 0) with ze | ze; (exact Or.inl ze); (right; have zl := (zeb.2.2.2.2.2 zg0).2; have zm := zeb.2.2.2.1.2; unfold rwLe at zl; unfold rwMo at zm; rw [if_neg ze] at zl zm; omega) }; have zc3 : 3 ≤ (if y = 0 then c1 else W) ∧ (if y = 0 then c1 else W) ≤ 20 := by { have zl := (zeb.2.2.2.2.2 zg0).2; have zm := zeb.2.2.2.1.2; unfold rwLe at zl; unfold rwMo at zm; split <;> simp_all <;> omega }; have ztn := tN_up zI37.2.2.1.1 zR2.2.2.2.2.1 zcc zR2.2.2.2.2.2.2.1 zN1 zeb.2.2.2.2.1; exact ⟨zg0, (zeb.2.2.2.2.2 zg0).1, by omega, by omega, ztn.2, Or.inr zc3, ztn.1, zR2.2.2.2.2.2.2.2.trans (txR_g rfl (by omega) hE zg0 (by omega))⟩); (left; have zq := zR2.2.2.2.2.2.2.2; rw [txR_f rfl zyy hE zg0] at zq; simp only [Prod.mk.injEq] at zq; exact ⟨zg0, zq.1, zq.2.1⟩) }
                  refine y_aload_n (pc := 98) hF dX9_parse_98 0 rfl ?_
                  refine y_dup (pc := 99) hF dX9_parse_99 rfl ?_
                  refine y_get (pc := 100) (ci := 9) hF dX9_parse_100 (by omega) rfl rfl rfl iX9 7 (by decide) w_132 rfl ?_
                  rw [show σ52 1 7 = p1 from zQ1.2.1]
                  refine y_iconst (pc := 103) hF dX9_parse_103 ?_
                  refine y_iadd (pc := 104) hF dX9_parse_104 ?_
                  refine y_putf (pc := 105) (ci := 9) (σ' := yset σ52 1 7 (p1 + 1)) (sch' := (SC g)) hF dX9_parse_105 (by omega) rfl rfl rfl iX9 7 (by decide) w_132 tyX9 tyX9_ok nmX9 rfl rfl rfl rfl (Nat.le_of_ble_eq_true rfl) rfl (y_ps rfl) (fun k' h => ⟨yset_n h, rfl⟩) ?_
                  obtain ⟨τ6, hτ6⟩ : ∃ s, s = yset σ52 1 7 (p1 + 1) := ⟨_, rfl⟩
                  rw [← hτ6]
                  refine y_iinc (pc := 108) (lv' := [(0, yR g 1), (1, yI e), (2, yI (y + 1))]) hF dX9_parse_108 2 rfl (by decide) rfl rfl ?_
                  refine y_goto (pc := 111) hF dX9_parse_111 37 rfl ?_
                  exact zh37 _ (by omega) τ6 (y + 1) f1 fp1 (p1 + 1) (if y = 0 then c1 else W) (y + 1) (dr + c1) (txM M y m1) rfl ⟨(zQ1.place hτ6).1, zI37.2.1.tr (zp52.1.tr (zQ1.place hτ6).2.t3), by omega, by omega, zgo0.imp id (fun ze => ⟨ze.1, ze.2.1, ze.2.2.1, ze.2.2.2.1, ze.2.2.2.2.1, ze.2.2.2.2.2.1, ze.2.2.2.2.2.2.1.fr ((zQ1.place hτ6).2.1 3 (by omega)), ze.2.2.2.2.2.2.2⟩)⟩
                · skip
                  refine y_aload_n (pc := 89) hF dX9_parse_89 0 rfl ?_
                  refine y_iconst (pc := 90) hF dX9_parse_90 ?_
                  refine y_aload_n (pc := 91) hF dX9_parse_91 0 rfl ?_
                  refine y_get (pc := 92) (ci := 9) hF dX9_parse_92 (by omega) rfl rfl rfl iX9 7 (by decide) w_132 rfl ?_
                  rw [show σ52 1 7 = p1 from zQ1.2.1]
                  refine y_cv (y_rV (pc := 95) hF (tX9_failAt hn (3) (p1)) dX9_parse_95 (by omega) rfl rfl rfl w_701 qX9_failAt rfl ⟨Nat.le_of_ble_eq_true rfl, Nat.le_of_ble_eq_true rfl⟩ ⟨Nat.zero_le _, Nat.zero_le _⟩ (Nat.le_of_ble_eq_true rfl) rfl) rfl rfl (fun n' σ' zp95 => ?_)
                  obtain ⟨zn95, rfl⟩ := zp95
                  have zn95 := zn95.symm
                  subst zn95
                  obtain ⟨τ9, hτ9⟩ : ∃ s, s = yset (yset σ52 1 8 3) 1 5 p1 := ⟨_, rfl⟩
                  rw [← hτ9]
                  have z9 := zQ1.fail hτ9; have zg0 : f1 = 0 := (by omega); have zr3 : rf = 3 ∧ rfp = p1 := by { have zq := zR2.2.2.2.2.2.2.2; rw [txR_3 rfl (by omega) hE zg0 (by omega)] at zq; simp only [Prod.mk.injEq] at zq; exact ⟨zq.1, zq.2.1⟩ }
                  refine y_aload_n (pc := 98) hF dX9_parse_98 0 rfl ?_
                  refine y_dup (pc := 99) hF dX9_parse_99 rfl ?_
                  refine y_get (pc := 100) (ci := 9) hF dX9_parse_100 (by omega) rfl rfl rfl iX9 7 (by decide) w_132 rfl ?_
                  rw [show τ9 1 7 = p1 from z9.1.2.1]
                  refine y_iconst (pc := 103) hF dX9_parse_103 ?_
                  refine y_iadd (pc := 104) hF dX9_parse_104 ?_
                  refine y_putf (pc := 105) (ci := 9) (σ' := yset τ9 1 7 (p1 + 1)) (sch' := (SC g)) hF dX9_parse_105 (by omega) rfl rfl rfl iX9 7 (by decide) w_132 tyX9 tyX9_ok nmX9 rfl rfl rfl rfl (Nat.le_of_ble_eq_true rfl) rfl (y_ps rfl) (fun k' h => ⟨yset_n h, rfl⟩) ?_
                  obtain ⟨τ7, hτ7⟩ : ∃ s, s = yset τ9 1 7 (p1 + 1) := ⟨_, rfl⟩
                  rw [← hτ7]
                  refine y_iinc (pc := 108) (lv' := [(0, yR g 1), (1, yI e), (2, yI (y + 1))]) hF dX9_parse_108 2 rfl (by decide) rfl rfl ?_
                  refine y_goto (pc := 111) hF dX9_parse_111 37 rfl ?_
                  exact zh37 _ (by omega) τ7 (y + 1) 3 p1 (p1 + 1) (if y = 0 then c1 else W) (y + 1) (dr + c1) (txM M y m1) rfl ⟨(z9.1.place hτ7).1, zI37.2.1.tr (zp52.1.tr (z9.2.t3.tr (z9.1.place hτ7).2.t3)), by omega, by omega, Or.inl ⟨by omega, zr3⟩⟩
            · skip
              refine y_goto (pc := 73) hF dX9_parse_73 114 rfl ?_
              have zg0 : f1 = 0 := (by omega); have zcc : y = 0 ∨ c1 = W := by { rcases Decidable.em (y = 0) with ze | ze; (exact Or.inl ze); (right; have zl := (zeb.2.2.2.2.2 zg0).2; have zm := zeb.2.2.2.1.2; unfold rwLe at zl; unfold rwMo at zm; rw [if_neg ze] at zl zm; omega) }; have zc3 : 3 ≤ (if y = 0 then c1 else W) ∧ (if y = 0 then c1 else W) ≤ 20 := by { have zl := (zeb.2.2.2.2.2 zg0).2; have zm := zeb.2.2.2.1.2; unfold rwLe at zl; unfold rwMo at zm; split <;> simp_all <;> omega }; have ztn := tN_up zI37.2.2.1.1 zR2.2.2.2.2.1 zcc zR2.2.2.2.2.2.2.1 zN1 zeb.2.2.2.2.1; have zre := zR2.2.2.2.2.2.2.2.trans (txR_e rfl zyy hE zg0 (by omega))
              refine y_aload_n (pc := 114) hF dX9_parse_114 0 rfl ?_
              refine y_get (pc := 115) (ci := 9) hF dX9_parse_115 (by omega) rfl rfl rfl iX9 8 (by decide) w_133 rfl ?_
              rw [show σ52 1 8 = f1 from zQ1.2.2.1]
              refine y_if_ne (pc := 118) hF dX9_parse_118 138 rfl (by omega) (fun zc118 => ?_) (fun zc118 => ?_)
              · skip
                rw [if_neg (by omega)] at zre; simp only [Prod.mk.injEq] at zre
                refine y_aload_n (pc := 138) hF dX9_parse_138 0 rfl ?_
                refine y_get (pc := 139) (ci := 9) hF dX9_parse_139 (by omega) rfl rfl rfl iX9 8 (by decide) w_133 rfl ?_
                rw [show σ52 1 8 = f1 from zQ1.2.2.1]
                exact y_iret (pc := 142) hF dX9_parse_142 (Nat.zero_le _) (Nat.zero_le _) ⟨_, rfl, rfl, by rw [zg0]; exact zre.1.symm, zI37.2.1.tr zp52.1, by rw [zQ1.2.2.2.1, (zeb.2.2.2.2.2 zg0).1]; exact zre.2.1.symm, fun ze => by obtain ⟨-, -, zw, zh, zm⟩ := zre; subst zw zh zm; exact ⟨zQ1.2.2.2.2.1, zQ1.2.2.2.2.2.1, ⟨zc3, by omega⟩, ztn.1⟩⟩
              · skip
                refine y_aload_n (pc := 121) hF dX9_parse_121 0 rfl ?_
                refine y_get (pc := 122) (ci := 9) hF dX9_parse_122 (by omega) rfl rfl rfl iX9 4 (by decide) w_127 rfl ?_
                rw [show σ52 1 4 = y + 1 from zQ1.2.2.2.2.2.1]
                refine y_iconst (pc := 125) hF dX9_parse_125 ?_
                refine y_icmp_ge (pc := 126) hF dX9_parse_126 138 rfl (by omega) (by omega) (fun zc126 => ?_) (fun zc126 => ?_)
                · skip
                  rw [if_neg (by omega)] at zre; simp only [Prod.mk.injEq] at zre
                  refine y_aload_n (pc := 138) hF dX9_parse_138 0 rfl ?_
                  refine y_get (pc := 139) (ci := 9) hF dX9_parse_139 (by omega) rfl rfl rfl iX9 8 (by decide) w_133 rfl ?_
                  rw [show σ52 1 8 = f1 from zQ1.2.2.1]
                  exact y_iret (pc := 142) hF dX9_parse_142 (Nat.zero_le _) (Nat.zero_le _) ⟨_, rfl, rfl, by rw [zg0]; exact zre.1.symm, zI37.2.1.tr zp52.1, by rw [zQ1.2.2.2.1, (zeb.2.2.2.2.2 zg0).1]; exact zre.2.1.symm, fun ze => by obtain ⟨-, -, zw, zh, zm⟩ := zre; subst zw zh zm; exact ⟨zQ1.2.2.2.2.1, zQ1.2.2.2.2.2.1, ⟨zc3, by omega⟩, ztn.1⟩⟩
                · skip
                  refine y_aload_n (pc := 129) hF dX9_parse_129 0 rfl ?_
                  refine y_iconst (pc := 130) hF dX9_parse_130 ?_
                  refine y_aload_n (pc := 131) hF dX9_parse_131 0 rfl ?_
                  refine y_get (pc := 132) (ci := 9) hF dX9_parse_132 (by omega) rfl rfl rfl iX9 6 (by decide) w_131 rfl ?_
                  rw [show σ52 1 6 = e from zQ1.1]
                  refine y_cv (y_rV (pc := 135) hF (tX9_failAt hn (5) (e)) dX9_parse_135 (by omega) rfl rfl rfl w_701 qX9_failAt rfl ⟨Nat.le_of_ble_eq_true rfl, Nat.le_of_ble_eq_true rfl⟩ ⟨Nat.zero_le _, Nat.zero_le _⟩ (Nat.le_of_ble_eq_true rfl) rfl) rfl rfl (fun n' σ' zp135 => ?_)
                  obtain ⟨zn135, rfl⟩ := zp135
                  have zn135 := zn135.symm
                  subst zn135
                  obtain ⟨τ8, hτ8⟩ : ∃ s, s = yset (yset σ52 1 8 5) 1 5 e := ⟨_, rfl⟩
                  rw [← hτ8]
                  have z8 := zQ1.fail hτ8; rw [if_pos (by omega)] at zre; simp only [Prod.mk.injEq] at zre
                  refine y_aload_n (pc := 138) hF dX9_parse_138 0 rfl ?_
                  refine y_get (pc := 139) (ci := 9) hF dX9_parse_139 (by omega) rfl rfl rfl iX9 8 (by decide) w_133 rfl ?_
                  rw [show τ8 1 8 = 5 from z8.1.2.2.1]
                  exact y_iret (pc := 142) hF dX9_parse_142 (Nat.zero_le _) (Nat.zero_le _) ⟨_, rfl, rfl, zre.1.symm, zI37.2.1.tr (zp52.1.tr z8.2.t3), by rw [z8.1.2.2.2.1]; exact zre.2.1.symm, fun ze => absurd (zre.1.symm.trans ze) (by decide)⟩
  exact zL37 _ τ0 0 0 (-1) 0 0 0 0 (fun _ _ => 0) rfl ⟨zQ0, zF0, by omega, by omega, Or.inr ⟨rfl, rfl, by omega, by omega, by omega, Or.inl rfl, fun a b h1 h2 h3 h4 => by omega, hR⟩⟩
