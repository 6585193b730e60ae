theorem dX9_failAt_0 : decode cX9_failAt 0 = .ok (.aload_n 0, 1) := by decide +kernel
theorem dX9_failAt_1 : decode cX9_failAt 1 = .ok (.iload_n 1, 1) := by decide +kernel
theorem dX9_failAt_2 : decode cX9_failAt 2 = .ok (.putfield 37, 3) := by decide +kernel
theorem dX9_failAt_5 : decode cX9_failAt 5 = .ok (.aload_n 0, 1) := by decide +kernel
theorem dX9_failAt_6 : decode cX9_failAt 6 = .ok (.iload_n 2, 1) := by decide +kernel
theorem dX9_failAt_7 : decode cX9_failAt 7 = .ok (.putfield 28, 3) := by decide +kernel
theorem dX9_failAt_10 : decode cX9_failAt 10 = .ok (.return_, 1) := by decide +kernel
set_option maxHeartbeats 4000000 in
set_option maxRecDepth 100000 in
theorem tX9_failAt {l : Launch} {g : yG} {n : Nat} {σ : yM} (hn : 172 ≤ n) (f q : Int) : yMet l g yX9_failAt cX9_failAt 3 none (rmL 1) [yR g 1, yI f, yI q] (SC g) n σ (SC g) (yPv (fun n' σ' => n' = n ∧ σ' = yset (yset σ 1 8 f) 1 5 q)) := by
  refine y_start (by decide) (Nat.le_of_ble_eq_true rfl) (fun X0 hF => ?_)
  show yV X0 g 3 (yQ X0 g (SC g) (yPv (fun n' σ' => n' = n ∧ σ' = yset (yset σ 1 8 f) 1 5 q)) (rmL 1)) (SC g) n σ 0 0 0 [(0, yR g 1), (1, yI f), (2, yI q)] []
  refine y_aload_n (pc := 0) hF dX9_failAt_0 0 rfl ?_
  refine y_iload_n (pc := 1) hF dX9_failAt_1 1 rfl ?_
  refine y_putf (pc := 2) (ci := 9) (σ' := yset σ 1 8 f) (sch' := (SC g)) hF dX9_failAt_2 (by omega) rfl rfl rfl iX9 8 (by decide) w_133 tyX9 tyX9_ok nmX9 rfl rfl rfl rfl (Nat.le_of_ble_eq_true rfl) rfl (y_ps rfl) (fun k' h => ⟨yset_n h, rfl⟩) ?_
  refine y_aload_n (pc := 5) hF dX9_failAt_5 0 rfl ?_
  refine y_iload_n (pc := 6) hF dX9_failAt_6 2 rfl ?_
  refine y_putf (pc := 7) (ci := 9) (σ' := yset (yset σ 1 8 f) 1 5 q) (sch' := (SC g)) hF dX9_failAt_7 (by omega) rfl rfl rfl iX9 5 (by decide) w_129 tyX9 tyX9_ok nmX9 rfl rfl rfl rfl (Nat.le_of_ble_eq_true rfl) rfl (y_ps rfl) (fun k' h => ⟨yset_n h, rfl⟩) ?_
  exact y_vret (pc := 10) hF dX9_failAt_10 (Nat.zero_le _) (Nat.zero_le _) ⟨rfl, rfl, rfl⟩

theorem dX9_readTimes_0 : decode cX9_readTimes 0 = .ok (.aload_n 0, 1) := by decide +kernel
theorem dX9_readTimes_1 : decode cX9_readTimes 1 = .ok (.getfield 34, 3) := by decide +kernel
theorem dX9_readTimes_4 : decode cX9_readTimes 4 = .ok (.istore_n 1, 1) := by decide +kernel
theorem dX9_readTimes_5 : decode cX9_readTimes 5 = .ok (.iconst 0, 1) := by decide +kernel
theorem dX9_readTimes_6 : decode cX9_readTimes 6 = .ok (.istore_n 2, 1) := by decide +kernel
theorem dX9_readTimes_7 : decode cX9_readTimes 7 = .ok (.aload_n 0, 1) := by decide +kernel
theorem dX9_readTimes_8 : decode cX9_readTimes 8 = .ok (.getfield 34, 3) := by decide +kernel
theorem dX9_readTimes_11 : decode cX9_readTimes 11 = .ok (.aload_n 0, 1) := by decide +kernel
theorem dX9_readTimes_12 : decode cX9_readTimes 12 = .ok (.getfield 31, 3) := by decide +kernel
theorem dX9_readTimes_15 : decode cX9_readTimes 15 = .ok (.if_icmp .ge 68, 3) := by decide +kernel
theorem dX9_readTimes_18 : decode cX9_readTimes 18 = .ok (.aload_n 0, 1) := by decide +kernel
theorem dX9_readTimes_19 : decode cX9_readTimes 19 = .ok (.getfield 11, 3) := by decide +kernel
theorem dX9_readTimes_22 : decode cX9_readTimes 22 = .ok (.aload_n 0, 1) := by decide +kernel
theorem dX9_readTimes_23 : decode cX9_readTimes 23 = .ok (.getfield 34, 3) := by decide +kernel
theorem dX9_readTimes_26 : decode cX9_readTimes 26 = .ok (.iaload, 1) := by decide +kernel
theorem dX9_readTimes_27 : decode cX9_readTimes 27 = .ok (.bipush 48, 2) := by decide +kernel
theorem dX9_readTimes_29 : decode cX9_readTimes 29 = .ok (.if_icmp .lt 54, 3) := by decide +kernel
theorem dX9_readTimes_32 : decode cX9_readTimes 32 = .ok (.aload_n 0, 1) := by decide +kernel
theorem dX9_readTimes_33 : decode cX9_readTimes 33 = .ok (.getfield 11, 3) := by decide +kernel
theorem dX9_readTimes_36 : decode cX9_readTimes 36 = .ok (.aload_n 0, 1) := by decide +kernel
theorem dX9_readTimes_37 : decode cX9_readTimes 37 = .ok (.getfield 34, 3) := by decide +kernel
theorem dX9_readTimes_40 : decode cX9_readTimes 40 = .ok (.iaload, 1) := by decide +kernel
theorem dX9_readTimes_41 : decode cX9_readTimes 41 = .ok (.bipush 57, 2) := by decide +kernel
theorem dX9_readTimes_43 : decode cX9_readTimes 43 = .ok (.if_icmp .gt 40, 3) := by decide +kernel
theorem dX9_readTimes_46 : decode cX9_readTimes 46 = .ok (.iload_n 2, 1) := by decide +kernel
theorem dX9_readTimes_47 : decode cX9_readTimes 47 = .ok (.bipush 10, 2) := by decide +kernel
theorem dX9_readTimes_49 : decode cX9_readTimes 49 = .ok (.imul, 1) := by decide +kernel
theorem dX9_readTimes_50 : decode cX9_readTimes 50 = .ok (.aload_n 0, 1) := by decide +kernel
theorem dX9_readTimes_51 : decode cX9_readTimes 51 = .ok (.getfield 11, 3) := by decide +kernel
theorem dX9_readTimes_54 : decode cX9_readTimes 54 = .ok (.aload_n 0, 1) := by decide +kernel
theorem dX9_readTimes_55 : decode cX9_readTimes 55 = .ok (.getfield 34, 3) := by decide +kernel
theorem dX9_readTimes_58 : decode cX9_readTimes 58 = .ok (.iaload, 1) := by decide +kernel
theorem dX9_readTimes_59 : decode cX9_readTimes 59 = .ok (.iadd, 1) := by decide +kernel
theorem dX9_readTimes_60 : decode cX9_readTimes 60 = .ok (.bipush 48, 2) := by decide +kernel
theorem dX9_readTimes_62 : decode cX9_readTimes 62 = .ok (.isub, 1) := by decide +kernel
theorem dX9_readTimes_63 : decode cX9_readTimes 63 = .ok (.sipush 300, 3) := by decide +kernel
theorem dX9_readTimes_66 : decode cX9_readTimes 66 = .ok (.invokestatic 59, 3) := by decide +kernel
theorem dX9_readTimes_69 : decode cX9_readTimes 69 = .ok (.istore_n 2, 1) := by decide +kernel
theorem dX9_readTimes_70 : decode cX9_readTimes 70 = .ok (.aload_n 0, 1) := by decide +kernel
theorem dX9_readTimes_71 : decode cX9_readTimes 71 = .ok (.dup, 1) := by decide +kernel
theorem dX9_readTimes_72 : decode cX9_readTimes 72 = .ok (.getfield 34, 3) := by decide +kernel
theorem dX9_readTimes_75 : decode cX9_readTimes 75 = .ok (.iconst 1, 1) := by decide +kernel
theorem dX9_readTimes_76 : decode cX9_readTimes 76 = .ok (.iadd, 1) := by decide +kernel
theorem dX9_readTimes_77 : decode cX9_readTimes 77 = .ok (.putfield 34, 3) := by decide +kernel
theorem dX9_readTimes_80 : decode cX9_readTimes 80 = .ok (.goto (-73), 3) := by decide +kernel
theorem dX9_readTimes_83 : decode cX9_readTimes 83 = .ok (.aload_n 0, 1) := by decide +kernel
theorem dX9_readTimes_84 : decode cX9_readTimes 84 = .ok (.getfield 34, 3) := by decide +kernel
theorem dX9_readTimes_87 : decode cX9_readTimes 87 = .ok (.iload_n 1, 1) := by decide +kernel
theorem dX9_readTimes_88 : decode cX9_readTimes 88 = .ok (.if_icmp .ne 5, 3) := by decide +kernel
theorem dX9_readTimes_91 : decode cX9_readTimes 91 = .ok (.iconst 1, 1) := by decide +kernel
theorem dX9_readTimes_92 : decode cX9_readTimes 92 = .ok (.ireturn, 1) := by decide +kernel
theorem dX9_readTimes_93 : decode cX9_readTimes 93 = .ok (.iload_n 2, 1) := by decide +kernel
theorem dX9_readTimes_94 : decode cX9_readTimes 94 = .ok (.iconst 2, 1) := by decide +kernel
theorem dX9_readTimes_95 : decode cX9_readTimes 95 = .ok (.if_icmp .lt 9, 3) := by decide +kernel
theorem dX9_readTimes_98 : decode cX9_readTimes 98 = .ok (.iload_n 2, 1) := by decide +kernel
theorem dX9_readTimes_99 : decode cX9_readTimes 99 = .ok (.bipush 20, 2) := by decide +kernel
theorem dX9_readTimes_101 : decode cX9_readTimes 101 = .ok (.if_icmp .le 9, 3) := by decide +kernel
theorem dX9_readTimes_104 : decode cX9_readTimes 104 = .ok (.aload_n 0, 1) := by decide +kernel
theorem dX9_readTimes_105 : decode cX9_readTimes 105 = .ok (.iconst 2, 1) := by decide +kernel
theorem dX9_readTimes_106 : decode cX9_readTimes 106 = .ok (.iload_n 1, 1) := by decide +kernel
theorem dX9_readTimes_107 : decode cX9_readTimes 107 = .ok (.invokevirtual 47, 3) := by decide +kernel
theorem dX9_readTimes_110 : decode cX9_readTimes 110 = .ok (.iload_n 2, 1) := by decide +kernel
theorem dX9_readTimes_111 : decode cX9_readTimes 111 = .ok (.ireturn, 1) := by decide +kernel
set_option maxHeartbeats 4000000 in
set_option maxRecDepth 100000 in
theorem tX9_readTimes {l : Launch} {g : yG} {n : Nat} {σ : yM} (hn : 172 ≤ n) (tb : Int → Int) (e p fp W h dr : Int) (hQ : rTq σ tb e p 0 fp W h dr) (hpe : 0 ≤ p ∧ p ≤ e ∧ e ≤ 300) (htb : ∀ j : Int, 0 ≤ tb j ∧ tb j ≤ 255)  : yMet l g yX9_readTimes cX9_readTimes 3 (some .int) (rmL 2) [yR g 1] (SC g) n σ (SC g) (yPi (fun v n' σ' => n' = n ∧ v = itT tb e p ∧ fTr σ σ' ∧ rTq σ' tb e (dgP tb e p).1 (if itF tb e p = true then 2 else 0) (if itF tb e p = true then p else fp) W h dr)) := by
  refine y_start (by decide) (Nat.le_of_ble_eq_true rfl) (fun X0 hF => ?_)
  show yV X0 g 3 (yQ X0 g (SC g) (yPi (fun v n' σ' => n' = n ∧ v = itT tb e p ∧ fTr σ σ' ∧ rTq σ' tb e (dgP tb e p).1 (if itF tb e p = true then 2 else 0) (if itF tb e p = true then p else fp) W h dr)) (rmL 2)) (SC g) n σ 0 0 0 [(0, yR g 1)] []
  refine y_aload_n (pc := 0) hF dX9_readTimes_0 0 rfl ?_
  refine y_get (pc := 1) (ci := 9) hF dX9_readTimes_1 (by omega) rfl rfl rfl iX9 7 (by decide) w_132 rfl ?_
  rw [show σ 1 7 = p from hQ.2.1]
  refine y_istore_n (pc := 4) (lv' := [(0, yR g 1), (1, yI p)]) hF dX9_readTimes_4 (by decide) rfl rfl ?_
  refine y_iconst (pc := 5) hF dX9_readTimes_5 ?_
  refine y_istore_n (pc := 6) (lv' := [(0, yR g 1), (1, yI p), (2, yI 0)]) hF dX9_readTimes_6 (by decide) rfl rfl ?_
  have zL7 : ∀ (N : Nat) (τ : yM) (q t : Int), N = (e - q).toNat → (rTq τ tb e q 0 fp W h dr ∧ fTr σ τ ∧ (p ≤ q ∧ q ≤ e) ∧ (0 ≤ t ∧ t ≤ 300) ∧ dgP tb e p = dgs tb e (e - q).toNat q t) → yV X0 g 3 (yQ X0 g (SC g) (yPi (fun v n' σ' => n' = n ∧ v = itT tb e p ∧ fTr σ σ' ∧ rTq σ' tb e (dgP tb e p).1 (if itF tb e p = true then 2 else 0) (if itF tb e p = true then p else fp) W h dr)) (rmL 2)) (SC g) n τ 0 0 7 [(0, yR g 1), (1, yI p), (2, yI t)] [] := by
    intro N
    induction N using Nat.strongRecOn with
    | ind N zh7 =>
      intro τ  q t  zN7 zI7
      refine y_aload_n (pc := 7) hF dX9_readTimes_7 0 rfl ?_
      refine y_get (pc := 8) (ci := 9) hF dX9_readTimes_8 (by omega) rfl rfl rfl iX9 7 (by decide) w_132 rfl ?_
      rw [show τ 1 7 = q from zI7.1.2.1]
      refine y_aload_n (pc := 11) hF dX9_readTimes_11 0 rfl ?_
      refine y_get (pc := 12) (ci := 9) hF dX9_readTimes_12 (by omega) rfl rfl rfl iX9 6 (by decide) w_131 rfl ?_
      rw [show τ 1 6 = e from zI7.1.1]
      refine y_icmp_ge (pc := 15) hF dX9_readTimes_15 83 rfl (by omega) (by omega) (fun zc15 => ?_) (fun zc15 => ?_)
      · skip
        have zd : dgP tb e p = (q, t) := zI7.2.2.2.2.trans (dgs_stop (by omega))
        refine y_aload_n (pc := 83) hF dX9_readTimes_83 0 rfl ?_
        refine y_get (pc := 84) (ci := 9) hF dX9_readTimes_84 (by omega) rfl rfl rfl iX9 7 (by decide) w_132 rfl ?_
        rw [show τ 1 7 = q from zI7.1.2.1]
        refine y_iload_n (pc := 87) hF dX9_readTimes_87 1 rfl ?_
        refine y_icmp_ne (pc := 88) hF dX9_readTimes_88 93 rfl (by omega) (by omega) (fun zc88 => ?_) (fun zc88 => ?_)
        · skip
          refine y_iload_n (pc := 93) hF dX9_readTimes_93 2 rfl ?_
          refine y_iconst (pc := 94) hF dX9_readTimes_94 ?_
          refine y_icmp_lt (pc := 95) hF dX9_readTimes_95 104 rfl (by omega) (by omega) (fun zc95 => ?_) (fun zc95 => ?_)
          · skip
            refine y_aload_n (pc := 104) hF dX9_readTimes_104 0 rfl ?_
            refine y_iconst (pc := 105) hF dX9_readTimes_105 ?_
            refine y_iload_n (pc := 106) hF dX9_readTimes_106 1 rfl ?_
            refine y_cv (y_rV (pc := 107) hF (tX9_failAt hn (2) (p)) dX9_readTimes_107 (by omega) rfl rfl rfl w_701 qX9_failAt rfl ⟨Nat.le_of_ble_eq_true rfl, Nat.le_of_ble_eq_true rfl⟩ ⟨Nat.zero_le _, Nat.zero_le _⟩ (Nat.le_of_ble_eq_true rfl) rfl) rfl rfl (fun n' σ' zp107 => ?_)
            obtain ⟨zn107, rfl⟩ := zp107
            have zn107 := zn107.symm
            subst zn107
            obtain ⟨τ2, hτ2⟩ : ∃ s, s = yset (yset τ 1 8 2) 1 5 p := ⟨_, rfl⟩
            rw [← hτ2]
            refine y_iload_n (pc := 110) hF dX9_readTimes_110 2 rfl ?_
            exact y_iret (pc := 111) hF dX9_readTimes_111 (Nat.zero_le _) (Nat.zero_le _) ⟨_, rfl, rfl, by unfold itT; rw [zd, if_neg (show ¬ q = p by omega)], zI7.2.1.tr (zI7.1.fail hτ2).2, by have zf0 : itF tb e p = true := by { unfold itF; rw [zd]; exact decide_eq_true (show q ≠ p ∧ ¬ (2 ≤ t ∧ t ≤ 20) by omega) }; rw [zf0, zd]; exact (zI7.1.fail hτ2).1⟩
          · skip
            refine y_iload_n (pc := 98) hF dX9_readTimes_98 2 rfl ?_
            refine y_bipush (pc := 99) hF dX9_readTimes_99 (by decide) ?_
            refine y_icmp_le (pc := 101) hF dX9_readTimes_101 110 rfl (by omega) (by omega) (fun zc101 => ?_) (fun zc101 => ?_)
            · skip
              refine y_iload_n (pc := 110) hF dX9_readTimes_110 2 rfl ?_
              exact y_iret (pc := 111) hF dX9_readTimes_111 (Nat.zero_le _) (Nat.zero_le _) ⟨_, rfl, rfl, by unfold itT; rw [zd, if_neg (show ¬ q = p by omega)], zI7.2.1, by have zf0 : itF tb e p = false := by { unfold itF; rw [zd]; exact decide_eq_false (show ¬ (q ≠ p ∧ ¬ (2 ≤ t ∧ t ≤ 20)) by omega) }; rw [zf0, zd]; exact zI7.1⟩
            · skip
              refine y_aload_n (pc := 104) hF dX9_readTimes_104 0 rfl ?_
              refine y_iconst (pc := 105) hF dX9_readTimes_105 ?_
              refine y_iload_n (pc := 106) hF dX9_readTimes_106 1 rfl ?_
              refine y_cv (y_rV (pc := 107) hF (tX9_failAt hn (2) (p)) dX9_readTimes_107 (by omega) rfl rfl rfl w_701 qX9_failAt rfl ⟨Nat.le_of_ble_eq_true rfl, Nat.le_of_ble_eq_true rfl⟩ ⟨Nat.zero_le _, Nat.zero_le _⟩ (Nat.le_of_ble_eq_true rfl) rfl) rfl rfl (fun n' σ' zp107 => ?_)
              obtain ⟨zn107, rfl⟩ := zp107
              have zn107 := zn107.symm
              subst zn107
              obtain ⟨τ2, hτ2⟩ : ∃ s, s = yset (yset τ 1 8 2) 1 5 p := ⟨_, rfl⟩
              rw [← hτ2]
              refine y_iload_n (pc := 110) hF dX9_readTimes_110 2 rfl ?_
              exact y_iret (pc := 111) hF dX9_readTimes_111 (Nat.zero_le _) (Nat.zero_le _) ⟨_, rfl, rfl, by unfold itT; rw [zd, if_neg (show ¬ q = p by omega)], zI7.2.1.tr (zI7.1.fail hτ2).2, by have zf0 : itF tb e p = true := by { unfold itF; rw [zd]; exact decide_eq_true (show q ≠ p ∧ ¬ (2 ≤ t ∧ t ≤ 20) by omega) }; rw [zf0, zd]; exact (zI7.1.fail hτ2).1⟩
        · skip
          refine y_iconst (pc := 91) hF dX9_readTimes_91 ?_
          exact y_iret (pc := 92) hF dX9_readTimes_92 (Nat.zero_le _) (Nat.zero_le _) ⟨_, rfl, rfl, by unfold itT; rw [zd, if_pos (show q = p by omega)], zI7.2.1, by have zf0 : itF tb e p = false := by { unfold itF; rw [zd]; exact decide_eq_false (show ¬ (q ≠ p ∧ ¬ (2 ≤ t ∧ t ≤ 20)) by omega) }; rw [zf0, zd]; exact zI7.1⟩
      · skip
        have zq3 : 0 ≤ q ∧ q < (300 : Int) := by omega
        have zb := htb q
        have zbq := zI7.1.2.2.2.2.2.2.2 q (by omega) (by omega)
        refine y_aload_n (pc := 18) hF dX9_readTimes_18 0 rfl ?_
        refine y_get (pc := 19) (ci := 9) hF dX9_readTimes_19 (by omega) rfl rfl rfl iX9 0 (by decide) w_120 rfl ?_
        refine y_aload_n (pc := 22) hF dX9_readTimes_22 0 rfl ?_
        refine y_get (pc := 23) (ci := 9) hF dX9_readTimes_23 (by omega) rfl rfl rfl iX9 7 (by decide) w_132 rfl ?_
        rw [show τ 1 7 = q from zI7.1.2.1]
        refine y_iaload (pc := 26) hF dX9_readTimes_26 (by omega) rfl zq3 (by decide) ?_
        rw [show τ 2 q = tb q from zbq]
        refine y_bipush (pc := 27) hF dX9_readTimes_27 (by decide) ?_
        refine y_icmp_lt (pc := 29) hF dX9_readTimes_29 83 rfl (by omega) (by omega) (fun zc29 => ?_) (fun zc29 => ?_)
        · skip
          have zd : dgP tb e p = (q, t) := zI7.2.2.2.2.trans (dgs_stop (by omega))
          refine y_aload_n (pc := 83) hF dX9_readTimes_83 0 rfl ?_
          refine y_get (pc := 84) (ci := 9) hF dX9_readTimes_84 (by omega) rfl rfl rfl iX9 7 (by decide) w_132 rfl ?_
          rw [show τ 1 7 = q from zI7.1.2.1]
          refine y_iload_n (pc := 87) hF dX9_readTimes_87 1 rfl ?_
          refine y_icmp_ne (pc := 88) hF dX9_readTimes_88 93 rfl (by omega) (by omega) (fun zc88 => ?_) (fun zc88 => ?_)
          · skip
            refine y_iload_n (pc := 93) hF dX9_readTimes_93 2 rfl ?_
            refine y_iconst (pc := 94) hF dX9_readTimes_94 ?_
            refine y_icmp_lt (pc := 95) hF dX9_readTimes_95 104 rfl (by omega) (by omega) (fun zc95 => ?_) (fun zc95 => ?_)
            · skip
              refine y_aload_n (pc := 104) hF dX9_readTimes_104 0 rfl ?_
              refine y_iconst (pc := 105) hF dX9_readTimes_105 ?_
              refine y_iload_n (pc := 106) hF dX9_readTimes_106 1 rfl ?_
              refine y_cv (y_rV (pc := 107) hF (tX9_failAt hn (2) (p)) dX9_readTimes_107 (by omega) rfl rfl rfl w_701 qX9_failAt rfl ⟨Nat.le_of_ble_eq_true rfl, Nat.le_of_ble_eq_true rfl⟩ ⟨Nat.zero_le _, Nat.zero_le _⟩ (Nat.le_of_ble_eq_true rfl) rfl) rfl rfl (fun n' σ' zp107 => ?_)
              obtain ⟨zn107, rfl⟩ := zp107
              have zn107 := zn107.symm
              subst zn107
              obtain ⟨τ2, hτ2⟩ : ∃ s, s = yset (yset τ 1 8 2) 1 5 p := ⟨_, rfl⟩
              rw [← hτ2]
              refine y_iload_n (pc := 110) hF dX9_readTimes_110 2 rfl ?_
              exact y_iret (pc := 111) hF dX9_readTimes_111 (Nat.zero_le _) (Nat.zero_le _) ⟨_, rfl, rfl, by unfold itT; rw [zd, if_neg (show ¬ q = p by omega)], zI7.2.1.tr (zI7.1.fail hτ2).2, by have zf0 : itF tb e p = true := by { unfold itF; rw [zd]; exact decide_eq_true (show q ≠ p ∧ ¬ (2 ≤ t ∧ t ≤ 20) by omega) }; rw [zf0, zd]; exact (zI7.1.fail hτ2).1⟩
            · skip
              refine y_iload_n (pc := 98) hF dX9_readTimes_98 2 rfl ?_
              refine y_bipush (pc := 99) hF dX9_readTimes_99 (by decide) ?_
              refine y_icmp_le (pc := 101) hF dX9_readTimes_101 110 rfl (by omega) (by omega) (fun zc101 => ?_) (fun zc101 => ?_)
              · skip
                refine y_iload_n (pc := 110) hF dX9_readTimes_110 2 rfl ?_
                exact y_iret (pc := 111) hF dX9_readTimes_111 (Nat.zero_le _) (Nat.zero_le _) ⟨_, rfl, rfl, by unfold itT; rw [zd, if_neg (show ¬ q = p by omega)], zI7.2.1, by have zf0 : itF tb e p = false := by { unfold itF; rw [zd]; exact decide_eq_false (show ¬ (q ≠ p ∧ ¬ (2 ≤ t ∧ t ≤ 20)) by omega) }; rw [zf0, zd]; exact zI7.1⟩
              · skip
                refine y_aload_n (pc := 104) hF dX9_readTimes_104 0 rfl ?_
                refine y_iconst (pc := 105) hF dX9_readTimes_105 ?_
                refine y_iload_n (pc := 106) hF dX9_readTimes_106 1 rfl ?_
                refine y_cv (y_rV (pc := 107) hF (tX9_failAt hn (2) (p)) dX9_readTimes_107 (by omega) rfl rfl rfl w_701 qX9_failAt rfl ⟨Nat.le_of_ble_eq_true rfl, Nat.le_of_ble_eq_true rfl⟩ ⟨Nat.zero_le _, Nat.zero_le _⟩ (Nat.le_of_ble_eq_true rfl) rfl) rfl rfl (fun n' σ' zp107 => ?_)
                obtain ⟨zn107, rfl⟩ := zp107
                have zn107 := zn107.symm
                subst zn107
                obtain ⟨τ2, hτ2⟩ : ∃ s, s = yset (yset τ 1 8 2) 1 5 p := ⟨_, rfl⟩
                rw [← hτ2]
                refine y_iload_n (pc := 110) hF dX9_readTimes_110 2 rfl ?_
                exact y_iret (pc := 111) hF dX9_readTimes_111 (Nat.zero_le _) (Nat.zero_le _) ⟨_, rfl, rfl, by unfold itT; rw [zd, if_neg (show ¬ q = p by omega)], zI7.2.1.tr (zI7.1.fail hτ2).2, by have zf0 : itF tb e p = true := by { unfold itF; rw [zd]; exact decide_eq_true (show q ≠ p ∧ ¬ (2 ≤ t ∧ t ≤ 20) by omega) }; rw [zf0, zd]; exact (zI7.1.fail hτ2).1⟩
          · skip
            refine y_iconst (pc := 91) hF dX9_readTimes_91 ?_
            exact y_iret (pc := 92) hF dX9_readTimes_92 (Nat.zero_le _) (Nat.zero_le _) ⟨_, rfl, rfl, by unfold itT; rw [zd, if_pos (show q = p by omega)], zI7.2.1, by have zf0 : itF tb e p = false := by { unfold itF; rw [zd]; exact decide_eq_false (show ¬ (q ≠ p ∧ ¬ (2 ≤ t ∧ t ≤ 20)) by omega) }; rw [zf0, zd]; exact zI7.1⟩
        · skip
          refine y_aload_n (pc := 32) hF dX9_readTimes_32 0 rfl ?_
          refine y_get (pc := 33) (ci := 9) hF dX9_readTimes_33 (by omega) rfl rfl rfl iX9 0 (by decide) w_120 rfl ?_
          refine y_aload_n (pc := 36) hF dX9_readTimes_36 0 rfl ?_
          refine y_get (pc := 37) (ci := 9) hF dX9_readTimes_37 (by omega) rfl rfl rfl iX9 7 (by decide) w_132 rfl ?_
          rw [show τ 1 7 = q from zI7.1.2.1]
          refine y_iaload (pc := 40) hF dX9_readTimes_40 (by omega) rfl zq3 (by decide) ?_
          rw [show τ 2 q = tb q from zbq]
          refine y_bipush (pc := 41) hF dX9_readTimes_41 (by decide) ?_
          refine y_icmp_gt (pc := 43) hF dX9_readTimes_43 83 rfl (by omega) (by omega) (fun zc43 => ?_) (fun zc43 => ?_)
          · skip
            have zd : dgP tb e p = (q, t) := zI7.2.2.2.2.trans (dgs_stop (by omega))
            refine y_aload_n (pc := 83) hF dX9_readTimes_83 0 rfl ?_
            refine y_get (pc := 84) (ci := 9) hF dX9_readTimes_84 (by omega) rfl rfl rfl iX9 7 (by decide) w_132 rfl ?_
            rw [show τ 1 7 = q from zI7.1.2.1]
            refine y_iload_n (pc := 87) hF dX9_readTimes_87 1 rfl ?_
            refine y_icmp_ne (pc := 88) hF dX9_readTimes_88 93 rfl (by omega) (by omega) (fun zc88 => ?_) (fun zc88 => ?_)
            · skip
              refine y_iload_n (pc := 93) hF dX9_readTimes_93 2 rfl ?_
              refine y_iconst (pc := 94) hF dX9_readTimes_94 ?_
              refine y_icmp_lt (pc := 95) hF dX9_readTimes_95 104 rfl (by omega) (by omega) (fun zc95 => ?_) (fun zc95 => ?_)
              · skip
                refine y_aload_n (pc := 104) hF dX9_readTimes_104 0 rfl ?_
                refine y_iconst (pc := 105) hF dX9_readTimes_105 ?_
                refine y_iload_n (pc := 106) hF dX9_readTimes_106 1 rfl ?_
                refine y_cv (y_rV (pc := 107) hF (tX9_failAt hn (2) (p)) dX9_readTimes_107 (by omega) rfl rfl rfl w_701 qX9_failAt rfl ⟨Nat.le_of_ble_eq_true rfl, Nat.le_of_ble_eq_true rfl⟩ ⟨Nat.zero_le _, Nat.zero_le _⟩ (Nat.le_of_ble_eq_true rfl) rfl) rfl rfl (fun n' σ' zp107 => ?_)
                obtain ⟨zn107, rfl⟩ := zp107
                have zn107 := zn107.symm
                subst zn107
                obtain ⟨τ2, hτ2⟩ : ∃ s, s = yset (yset τ 1 8 2) 1 5 p := ⟨_, rfl⟩
                rw [← hτ2]
                refine y_iload_n (pc := 110) hF dX9_readTimes_110 2 rfl ?_
                exact y_iret (pc := 111) hF dX9_readTimes_111 (Nat.zero_le _) (Nat.zero_le _) ⟨_, rfl, rfl, by unfold itT; rw [zd, if_neg (show ¬ q = p by omega)], zI7.2.1.tr (zI7.1.fail hτ2).2, by have zf0 : itF tb e p = true := by { unfold itF; rw [zd]; exact decide_eq_true (show q ≠ p ∧ ¬ (2 ≤ t ∧ t ≤ 20) by omega) }; rw [zf0, zd]; exact (zI7.1.fail hτ2).1⟩
              · skip
                refine y_iload_n (pc := 98) hF dX9_readTimes_98 2 rfl ?_
                refine y_bipush (pc := 99) hF dX9_readTimes_99 (by decide) ?_
                refine y_icmp_le (pc := 101) hF dX9_readTimes_101 110 rfl (by omega) (by omega) (fun zc101 => ?_) (fun zc101 => ?_)
                · skip
                  refine y_iload_n (pc := 110) hF dX9_readTimes_110 2 rfl ?_
                  exact y_iret (pc := 111) hF dX9_readTimes_111 (Nat.zero_le _) (Nat.zero_le _) ⟨_, rfl, rfl, by unfold itT; rw [zd, if_neg (show ¬ q = p by omega)], zI7.2.1, by have zf0 : itF tb e p = false := by { unfold itF; rw [zd]; exact decide_eq_false (show ¬ (q ≠ p ∧ ¬ (2 ≤ t ∧ t ≤ 20)) by omega) }; rw [zf0, zd]; exact zI7.1⟩
                · skip
                  refine y_aload_n (pc := 104) hF dX9_readTimes_104 0 rfl ?_
                  refine y_iconst (pc := 105) hF dX9_readTimes_105 ?_
                  refine y_iload_n (pc := 106) hF dX9_readTimes_106 1 rfl ?_
                  refine y_cv (y_rV (pc := 107) hF (tX9_failAt hn (2) (p)) dX9_readTimes_107 (by omega) rfl rfl rfl w_701 qX9_failAt rfl ⟨Nat.le_of_ble_eq_true rfl, Nat.le_of_ble_eq_true rfl⟩ ⟨Nat.zero_le _, Nat.zero_le _⟩ (Nat.le_of_ble_eq_true rfl) rfl) rfl rfl (fun n' σ' zp107 => ?_)
                  obtain ⟨zn107, rfl⟩ := zp107
                  have zn107 := zn107.symm
                  subst zn107
                  obtain ⟨τ2, hτ2⟩ : ∃ s, s = yset (yset τ 1 8 2) 1 5 p := ⟨_, rfl⟩
                  rw [← hτ2]
                  refine y_iload_n (pc := 110) hF dX9_readTimes_110 2 rfl ?_
                  exact y_iret (pc := 111) hF dX9_readTimes_111 (Nat.zero_le _) (Nat.zero_le _) ⟨_, rfl, rfl, by unfold itT; rw [zd, if_neg (show ¬ q = p by omega)], zI7.2.1.tr (zI7.1.fail hτ2).2, by have zf0 : itF tb e p = true := by { unfold itF; rw [zd]; exact decide_eq_true (show q ≠ p ∧ ¬ (2 ≤ t ∧ t ≤ 20) by omega) }; rw [zf0, zd]; exact (zI7.1.fail hτ2).1⟩
            · skip
              refine y_iconst (pc := 91) hF dX9_readTimes_91 ?_
              exact y_iret (pc := 92) hF dX9_readTimes_92 (Nat.zero_le _) (Nat.zero_le _) ⟨_, rfl, rfl, by unfold itT; rw [zd, if_pos (show q = p by omega)], zI7.2.1, by have zf0 : itF tb e p = false := by { unfold itF; rw [zd]; exact decide_eq_false (show ¬ (q ≠ p ∧ ¬ (2 ≤ t ∧ t ≤ 20)) by omega) }; rw [zf0, zd]; exact zI7.1⟩
          · skip
            refine y_iload_n (pc := 46) hF dX9_readTimes_46 2 rfl ?_
            refine y_bipush (pc := 47) hF dX9_readTimes_47 (by decide) ?_
            refine y_imul (pc := 49) hF dX9_readTimes_49 ?_
            refine y_aload_n (pc := 50) hF dX9_readTimes_50 0 rfl ?_
            refine y_get (pc := 51) (ci := 9) hF dX9_readTimes_51 (by omega) rfl rfl rfl iX9 0 (by decide) w_120 rfl ?_
            refine y_aload_n (pc := 54) hF dX9_readTimes_54 0 rfl ?_
            refine y_get (pc := 55) (ci := 9) hF dX9_readTimes_55 (by omega) rfl rfl rfl iX9 7 (by decide) w_132 rfl ?_
            rw [show τ 1 7 = q from zI7.1.2.1]
            refine y_iaload (pc := 58) hF dX9_readTimes_58 (by omega) rfl zq3 (by decide) ?_
            rw [show τ 2 q = tb q from zbq]
            refine y_iadd (pc := 59) hF dX9_readTimes_59 ?_
            refine y_bipush (pc := 60) hF dX9_readTimes_60 (by decide) ?_
            refine y_isub (pc := 62) hF dX9_readTimes_62 ?_
            refine y_sipush (pc := 63) hF dX9_readTimes_63 (by decide) ?_
            refine y_mmin (pc := 66) hF dX9_readTimes_66 w_698 w_699 w_103 w_700 (Nat.le_of_ble_eq_true rfl) (Nat.le_of_ble_eq_true rfl) ⟨Nat.zero_le _, Nat.zero_le _⟩ (by omega) (by omega) ?_
            refine y_istore_n (pc := 69) (lv' := [(0, yR g 1), (1, yI p), (2, yI (min (((t * 10) + (tb q)) - 48) 300))]) hF dX9_readTimes_69 (by decide) rfl rfl ?_
            refine y_aload_n (pc := 70) hF dX9_readTimes_70 0 rfl ?_
            refine y_dup (pc := 71) hF dX9_readTimes_71 rfl ?_
            refine y_get (pc := 72) (ci := 9) hF dX9_readTimes_72 (by omega) rfl rfl rfl iX9 7 (by decide) w_132 rfl ?_
            rw [show τ 1 7 = q from zI7.1.2.1]
            refine y_iconst (pc := 75) hF dX9_readTimes_75 ?_
            refine y_iadd (pc := 76) hF dX9_readTimes_76 ?_
            refine y_putf (pc := 77) (ci := 9) (σ' := yset τ 1 7 (q + 1)) (sch' := (SC g)) hF dX9_readTimes_77 (by omega) rfl rfl rfl iX9 7 (by decide) w_132 tyX9 tyX9_ok nmX9 rfl rfl rfl rfl (Nat.le_of_ble_eq_true rfl) rfl (y_ps rfl) (fun k' h => ⟨yset_n h, rfl⟩) ?_
            obtain ⟨τ1, hτ1⟩ : ∃ s, s = yset τ 1 7 (q + 1) := ⟨_, rfl⟩
            rw [← hτ1]
            refine y_goto (pc := 80) hF dX9_readTimes_80 7 rfl ?_
            exact zh7 _ (by omega) τ1 (q + 1) (min (((t * 10) + (tb q)) - 48) 300) rfl ⟨(zI7.1.place hτ1).1, zI7.2.1.tr (zI7.1.place hτ1).2, by omega, by omega, by rw [zI7.2.2.2.2, dgs_go ⟨by omega, by omega, by omega⟩]⟩
  exact zL7 _ σ (p) (0) rfl ⟨hQ, fTr.rf σ, by omega, by omega, rfl⟩
