theorem dX11_oneRow_0 : decode cX11_oneRow 0 = .ok (.aload_n 0, 1) := by decide +kernel
theorem dX11_oneRow_1 : decode cX11_oneRow 1 = .ok (.iconst 0, 1) := by decide +kernel
theorem dX11_oneRow_2 : decode cX11_oneRow 2 = .ok (.putfield 278, 3) := by decide +kernel
theorem dX11_oneRow_5 : decode cX11_oneRow 5 = .ok (.aload_n 0, 1) := by decide +kernel
theorem dX11_oneRow_6 : decode cX11_oneRow 6 = .ok (.invokevirtual 281, 3) := by decide +kernel
theorem dX11_oneRow_9 : decode cX11_oneRow 9 = .ok (.aload_n 0, 1) := by decide +kernel
theorem dX11_oneRow_10 : decode cX11_oneRow 10 = .ok (.getfield 246, 3) := by decide +kernel
theorem dX11_oneRow_13 : decode cX11_oneRow 13 = .ok (.ifCond .ne 30, 3) := by decide +kernel
theorem dX11_oneRow_16 : decode cX11_oneRow 16 = .ok (.aload_n 0, 1) := by decide +kernel
theorem dX11_oneRow_17 : decode cX11_oneRow 17 = .ok (.getfield 252, 3) := by decide +kernel
theorem dX11_oneRow_20 : decode cX11_oneRow 20 = .ok (.aload_n 0, 1) := by decide +kernel
theorem dX11_oneRow_21 : decode cX11_oneRow 21 = .ok (.getfield 255, 3) := by decide +kernel
theorem dX11_oneRow_24 : decode cX11_oneRow 24 = .ok (.if_icmp .ge 19, 3) := by decide +kernel
theorem dX11_oneRow_27 : decode cX11_oneRow 27 = .ok (.aload_n 0, 1) := by decide +kernel
theorem dX11_oneRow_28 : decode cX11_oneRow 28 = .ok (.invokevirtual 258, 3) := by decide +kernel
theorem dX11_oneRow_31 : decode cX11_oneRow 31 = .ok (.bipush 47, 2) := by decide +kernel
theorem dX11_oneRow_33 : decode cX11_oneRow 33 = .ok (.if_icmp .eq 10, 3) := by decide +kernel
theorem dX11_oneRow_36 : decode cX11_oneRow 36 = .ok (.aload_n 0, 1) := by decide +kernel
theorem dX11_oneRow_37 : decode cX11_oneRow 37 = .ok (.invokevirtual 281, 3) := by decide +kernel
theorem dX11_oneRow_40 : decode cX11_oneRow 40 = .ok (.goto (-31), 3) := by decide +kernel
theorem dX11_oneRow_43 : decode cX11_oneRow 43 = .ok (.aload_n 0, 1) := by decide +kernel
theorem dX11_oneRow_44 : decode cX11_oneRow 44 = .ok (.getfield 246, 3) := by decide +kernel
theorem dX11_oneRow_47 : decode cX11_oneRow 47 = .ok (.ifCond .ne 38, 3) := by decide +kernel
theorem dX11_oneRow_50 : decode cX11_oneRow 50 = .ok (.aload_n 0, 1) := by decide +kernel
theorem dX11_oneRow_51 : decode cX11_oneRow 51 = .ok (.getfield 278, 3) := by decide +kernel
theorem dX11_oneRow_54 : decode cX11_oneRow 54 = .ok (.iconst 3, 1) := by decide +kernel
theorem dX11_oneRow_55 : decode cX11_oneRow 55 = .ok (.if_icmp .lt 21, 3) := by decide +kernel
theorem dX11_oneRow_58 : decode cX11_oneRow 58 = .ok (.aload_n 0, 1) := by decide +kernel
theorem dX11_oneRow_59 : decode cX11_oneRow 59 = .ok (.getfield 269, 3) := by decide +kernel
theorem dX11_oneRow_62 : decode cX11_oneRow 62 = .ok (.ifCond .le 23, 3) := by decide +kernel
theorem dX11_oneRow_65 : decode cX11_oneRow 65 = .ok (.aload_n 0, 1) := by decide +kernel
theorem dX11_oneRow_66 : decode cX11_oneRow 66 = .ok (.getfield 278, 3) := by decide +kernel
theorem dX11_oneRow_69 : decode cX11_oneRow 69 = .ok (.aload_n 0, 1) := by decide +kernel
theorem dX11_oneRow_70 : decode cX11_oneRow 70 = .ok (.getfield 272, 3) := by decide +kernel
theorem dX11_oneRow_73 : decode cX11_oneRow 73 = .ok (.if_icmp .ge 12, 3) := by decide +kernel
theorem dX11_oneRow_76 : decode cX11_oneRow 76 = .ok (.aload_n 0, 1) := by decide +kernel
theorem dX11_oneRow_77 : decode cX11_oneRow 77 = .ok (.iconst 4, 1) := by decide +kernel
theorem dX11_oneRow_78 : decode cX11_oneRow 78 = .ok (.aload_n 0, 1) := by decide +kernel
theorem dX11_oneRow_79 : decode cX11_oneRow 79 = .ok (.getfield 252, 3) := by decide +kernel
theorem dX11_oneRow_82 : decode cX11_oneRow 82 = .ok (.invokevirtual 266, 3) := by decide +kernel
theorem dX11_oneRow_85 : decode cX11_oneRow 85 = .ok (.aload_n 0, 1) := by decide +kernel
theorem dX11_oneRow_86 : decode cX11_oneRow 86 = .ok (.getfield 269, 3) := by decide +kernel
theorem dX11_oneRow_89 : decode cX11_oneRow 89 = .ok (.ifCond .ne 11, 3) := by decide +kernel
theorem dX11_oneRow_92 : decode cX11_oneRow 92 = .ok (.aload_n 0, 1) := by decide +kernel
theorem dX11_oneRow_93 : decode cX11_oneRow 93 = .ok (.aload_n 0, 1) := by decide +kernel
theorem dX11_oneRow_94 : decode cX11_oneRow 94 = .ok (.getfield 278, 3) := by decide +kernel
theorem dX11_oneRow_97 : decode cX11_oneRow 97 = .ok (.putfield 272, 3) := by decide +kernel
theorem dX11_oneRow_100 : decode cX11_oneRow 100 = .ok (.aload_n 0, 1) := by decide +kernel
theorem dX11_oneRow_101 : decode cX11_oneRow 101 = .ok (.dup, 1) := by decide +kernel
theorem dX11_oneRow_102 : decode cX11_oneRow 102 = .ok (.getfield 269, 3) := by decide +kernel
theorem dX11_oneRow_105 : decode cX11_oneRow 105 = .ok (.iconst 1, 1) := by decide +kernel
theorem dX11_oneRow_106 : decode cX11_oneRow 106 = .ok (.iadd, 1) := by decide +kernel
theorem dX11_oneRow_107 : decode cX11_oneRow 107 = .ok (.putfield 269, 3) := by decide +kernel
theorem dX11_oneRow_110 : decode cX11_oneRow 110 = .ok (.return_, 1) := by decide +kernel
set_option maxHeartbeats 4000000 in
set_option maxRecDepth 100000 in
theorem tX11_oneRow {l : Launch} {g : yG} {n : Nat} {σ : yM} (hn : 172 ≤ n) (tb : Int → Int) (e p fp W y c0 : Int) (hQ : mTq σ tb e p 0 fp W y c0) (hpe : 0 ≤ p ∧ p ≤ e ∧ e ≤ 300) (htb : ∀ j : Int, 0 ≤ tb j ∧ tb j ≤ 255) (hy : 0 ≤ y ∧ y ≤ 19) (hW : y = 0 ∨ (3 ≤ W ∧ W ≤ 20)) : yMet l g yX11_oneRow cX11_oneRow 1 none (rmL 4) [yR g 155] (SC g) n σ (SC g) (yPv (fun n' σ' => n' = n ∧ mTq σ' tb e (rwE tb e y W p (-1)).2.2.1 (rwE tb e y W p (-1)).1 (rwE tb e y W p (-1)).2.1 (if y = 0 then (rwE tb e y W p (-1)).2.2.2.1 else W) (y + 1) (rwE tb e y W p (-1)).2.2.2.1 ∧ gT σ σ' ∧ ∀ j : Int, σ' 168 j = if 20 * y ≤ j ∧ j < 20 * y + (rwE tb e y W p (-1)).2.2.2.1 then (rwE tb e y W p (-1)).2.2.2.2 (j - 20 * y) else σ 168 j)) := by
  have hmo : 0 ≤ rwMo y W ∧ rwMo y W ≤ 20 := by unfold rwMo; split <;> omega
  refine y_start (by decide) (Nat.le_of_ble_eq_true rfl) (fun X0 hF => ?_)
  show yV X0 g 1 (yQ X0 g (SC g) (yPv (fun n' σ' => n' = n ∧ mTq σ' tb e (rwE tb e y W p (-1)).2.2.1 (rwE tb e y W p (-1)).1 (rwE tb e y W p (-1)).2.1 (if y = 0 then (rwE tb e y W p (-1)).2.2.2.1 else W) (y + 1) (rwE tb e y W p (-1)).2.2.2.1 ∧ gT σ σ' ∧ ∀ j : Int, σ' 168 j = if 20 * y ≤ j ∧ j < 20 * y + (rwE tb e y W p (-1)).2.2.2.1 then (rwE tb e y W p (-1)).2.2.2.2 (j - 20 * y) else σ 168 j)) (rmL 4)) (SC g) n σ 0 0 0 [(0, yR g 155)] []
  refine y_aload_n (pc := 0) hF dX11_oneRow_0 0 rfl ?_
  refine y_iconst (pc := 1) hF dX11_oneRow_1 ?_
  refine y_putf (pc := 2) (ci := 11) (σ' := yset σ 155 37 0) (sch' := (SC g)) hF dX11_oneRow_2 (by omega) rfl rfl rfl iX11 37 (by decide) w_1284 tyX11 tyX11_ok nmX11 rfl rfl rfl rfl (Nat.le_of_ble_eq_true rfl) rfl (y_ps rfl) (fun k' h => ⟨yset_n h, rfl⟩) ?_
  obtain ⟨τ0, hτ0⟩ : ∃ s, s = yset σ 155 37 0 := ⟨_, rfl⟩
  rw [← hτ0]
  have z0g := hQ.rm hτ0
  have zQ_τ0 := z0g.1.f0 (fp' := -1)
  obtain ⟨I1_, hI1⟩ : ∃ r, r = itm tb e p (rwMo y W - 0) := ⟨_, rfl⟩
  obtain ⟨f1, fp1, p1, t1, v1⟩ := I1_
  have zb1 := itm_bd (by omega) (by omega) htb hI1
  have zi1 : rwI tb e (rwMo y W) (0, -1, p, 0, fun _ => 0) = (f1, if f1 = 0 then -1 else fp1, p1, t1, rwG 0 (fun _ => 0) t1 v1) := by unfold rwI; simp only [← hI1, Int.zero_add]
  refine y_aload_n (pc := 5) hF dX11_oneRow_5 0 rfl ?_
  refine y_cv (y_rV (pc := 6) hF (tX11_item hn tb e p (-1) W y 0 zQ_τ0 (by omega) htb (by omega) hmo (by omega)) dX11_oneRow_6 (by omega) rfl rfl rfl w_1403 qX11_item rfl ⟨Nat.le_of_ble_eq_true rfl, Nat.le_of_ble_eq_true rfl⟩ ⟨Nat.zero_le _, Nat.zero_le _⟩ (Nat.le_of_ble_eq_true rfl) rfl) rfl rfl (fun n' σ6 zp6 => ?_)
  obtain ⟨zn6, zp6⟩ := zp6
  have zn6 := zn6.symm
  subst zn6
  rw [← hI1, Int.zero_add, Int.add_zero] at zp6
  have zL9 : ∀ (N : Nat) (τ : yM) (f FP P c : Int) (m : Int → Int) (k : Nat), N = (((k : Nat) : Int)).toNat → (mTq τ tb e P f FP W y c ∧ gT σ τ ∧ (∀ j : Int, τ 168 j = if 20 * y ≤ j ∧ j < 20 * y + c then m (j - 20 * y) else σ 168 j) ∧ ((0 ≤ P ∧ P ≤ e) ∧ (0 ≤ f ∧ f ≤ 3) ∧ (0 ≤ c ∧ c ≤ rwMo y W)) ∧ (f ≠ 0 ∨ e - P ≤ (k : Int)) ∧ rwR tb e (rwMo y W) p (-1) = rwL tb e (rwMo y W) k (f, FP, P, c, m)) → yV X0 g 1 (yQ X0 g (SC g) (yPv (fun n' σ' => n' = n ∧ mTq σ' tb e (rwE tb e y W p (-1)).2.2.1 (rwE tb e y W p (-1)).1 (rwE tb e y W p (-1)).2.1 (if y = 0 then (rwE tb e y W p (-1)).2.2.2.1 else W) (y + 1) (rwE tb e y W p (-1)).2.2.2.1 ∧ gT σ σ' ∧ ∀ j : Int, σ' 168 j = if 20 * y ≤ j ∧ j < 20 * y + (rwE tb e y W p (-1)).2.2.2.1 then (rwE tb e y W p (-1)).2.2.2.2 (j - 20 * y) else σ 168 j)) (rmL 4)) (SC g) n τ 0 0 9 [(0, yR g 155)] [] := by
    intro N
    induction N using Nat.strongRecOn with
    | ind N zh9 =>
      intro τ  f FP P c  m  k  zN9 zI9
      have zQ_τ := zI9.1
      have zJ43 : (rwR tb e (rwMo y W) p (-1) = (f, FP, P, c, m)) → yV X0 g 1 (yQ X0 g (SC g) (yPv (fun n' σ' => n' = n ∧ mTq σ' tb e (rwE tb e y W p (-1)).2.2.1 (rwE tb e y W p (-1)).1 (rwE tb e y W p (-1)).2.1 (if y = 0 then (rwE tb e y W p (-1)).2.2.2.1 else W) (y + 1) (rwE tb e y W p (-1)).2.2.2.1 ∧ gT σ σ' ∧ ∀ j : Int, σ' 168 j = if 20 * y ≤ j ∧ j < 20 * y + (rwE tb e y W p (-1)).2.2.2.1 then (rwE tb e y W p (-1)).2.2.2.2 (j - 20 * y) else σ 168 j)) (rmL 4)) (SC g) n τ 0 0 43 [(0, yR g 155)] [] := by
        intro zR
        refine y_aload_n (pc := 43) hF dX11_oneRow_43 0 rfl ?_
        refine y_get (pc := 44) (ci := 11) hF dX11_oneRow_44 (by omega) rfl rfl rfl iX11 33 (by decide) w_1280 rfl ?_
        rw [show τ 155 33 = f from zQ_τ.2.2.1]
        refine y_if_ne (pc := 47) hF dX11_oneRow_47 85 rfl (by omega) (fun zc47 => ?_) (fun zc47 => ?_)
        · skip
          have zE : rwE tb e y W p (-1) = (f, FP, P, c, m) := by { unfold rwE; rw [zR]; exact if_neg (show ¬ (f = 0 ∧ c < rwLe y W) by unfold rwLe; split <;> omega) }; have zGx := zI9.2.1; have zNx : ∀ j : Int, τ 168 j = if 20 * y ≤ j ∧ j < 20 * y + c then m (j - 20 * y) else σ 168 j := zI9.2.2.1
          refine y_aload_n (pc := 85) hF dX11_oneRow_85 0 rfl ?_
          refine y_get (pc := 86) (ci := 11) hF dX11_oneRow_86 (by omega) rfl rfl rfl iX11 36 (by decide) w_1283 rfl ?_
          rw [show τ 155 36 = y from zQ_τ.2.2.2.2.2.1]
          refine y_if_ne (pc := 89) hF dX11_oneRow_89 100 rfl (by omega) (fun zc89 => ?_) (fun zc89 => ?_)
          · skip
            have zQp := zQ_τ; have zGp := zGx; have zNp := zNx
            refine y_aload_n (pc := 100) hF dX11_oneRow_100 0 rfl ?_
            refine y_dup (pc := 101) hF dX11_oneRow_101 rfl ?_
            refine y_get (pc := 102) (ci := 11) hF dX11_oneRow_102 (by omega) rfl rfl rfl iX11 36 (by decide) w_1283 rfl ?_
            rw [show τ 155 36 = y from zQ_τ.2.2.2.2.2.1]
            refine y_iconst (pc := 105) hF dX11_oneRow_105 ?_
            refine y_iadd (pc := 106) hF dX11_oneRow_106 ?_
            refine y_putf (pc := 107) (ci := 11) (σ' := yset τ 155 36 (y + 1)) (sch' := (SC g)) hF dX11_oneRow_107 (by omega) rfl rfl rfl iX11 36 (by decide) w_1283 tyX11 tyX11_ok nmX11 rfl rfl rfl rfl (Nat.le_of_ble_eq_true rfl) rfl (y_ps rfl) (fun k' h => ⟨yset_n h, rfl⟩) ?_
            obtain ⟨τ6, hτ6⟩ : ∃ s, s = yset τ 155 36 (y + 1) := ⟨_, rfl⟩
            rw [← hτ6]
            exact y_vret (pc := 110) hF dX11_oneRow_110 (Nat.zero_le _) (Nat.zero_le _) ⟨rfl, rfl, by rw [zE]; (first | rw [if_pos zc89] | rw [if_neg zc89]); exact (zQp.rh hτ6).1, zGp.tr (zQp.rh hτ6).2.1, fun j => by rw [zE, (zQp.rh hτ6).2.2]; exact zNp j⟩
          · skip
            have zQ_XX := zQ_τ
            refine y_aload_n (pc := 92) hF dX11_oneRow_92 0 rfl ?_
            refine y_aload_n (pc := 93) hF dX11_oneRow_93 0 rfl ?_
            refine y_get (pc := 94) (ci := 11) hF dX11_oneRow_94 (by omega) rfl rfl rfl iX11 37 (by decide) w_1284 rfl ?_
            rw [show τ 155 37 = c from zQ_τ.2.2.2.2.2.2.1]
            refine y_putf (pc := 97) (ci := 11) (σ' := yset τ 155 35 c) (sch' := (SC g)) hF dX11_oneRow_97 (by omega) rfl rfl rfl iX11 35 (by decide) w_1282 tyX11 tyX11_ok nmX11 rfl rfl rfl rfl (Nat.le_of_ble_eq_true rfl) rfl (y_ps rfl) (fun k' h => ⟨yset_n h, rfl⟩) ?_
            obtain ⟨τ5, hτ5⟩ : ∃ s, s = yset τ 155 35 c := ⟨_, rfl⟩
            rw [← hτ5]
            have z5 := zQ_XX.rw_ hτ5; have zQp := z5.1; have zGp := zGx.tr z5.2.1; have zNp : ∀ j : Int, τ5 168 j = if 20 * y ≤ j ∧ j < 20 * y + c then m (j - 20 * y) else σ 168 j := (by rw [z5.2.2]; exact zNx); have zQ_τ5 := zQp
            refine y_aload_n (pc := 100) hF dX11_oneRow_100 0 rfl ?_
            refine y_dup (pc := 101) hF dX11_oneRow_101 rfl ?_
            refine y_get (pc := 102) (ci := 11) hF dX11_oneRow_102 (by omega) rfl rfl rfl iX11 36 (by decide) w_1283 rfl ?_
            rw [show τ5 155 36 = y from zQ_τ5.2.2.2.2.2.1]
            refine y_iconst (pc := 105) hF dX11_oneRow_105 ?_
            refine y_iadd (pc := 106) hF dX11_oneRow_106 ?_
            refine y_putf (pc := 107) (ci := 11) (σ' := yset τ5 155 36 (y + 1)) (sch' := (SC g)) hF dX11_oneRow_107 (by omega) rfl rfl rfl iX11 36 (by decide) w_1283 tyX11 tyX11_ok nmX11 rfl rfl rfl rfl (Nat.le_of_ble_eq_true rfl) rfl (y_ps rfl) (fun k' h => ⟨yset_n h, rfl⟩) ?_
            obtain ⟨τ6, hτ6⟩ : ∃ s, s = yset τ5 155 36 (y + 1) := ⟨_, rfl⟩
            rw [← hτ6]
            exact y_vret (pc := 110) hF dX11_oneRow_110 (Nat.zero_le _) (Nat.zero_le _) ⟨rfl, rfl, by rw [zE]; (first | rw [if_pos zc89] | rw [if_neg zc89]); exact (zQp.rh hτ6).1, zGp.tr (zQp.rh hτ6).2.1, fun j => by rw [zE, (zQp.rh hτ6).2.2]; exact zNp j⟩
        · skip
          refine y_aload_n (pc := 50) hF dX11_oneRow_50 0 rfl ?_
          refine y_get (pc := 51) (ci := 11) hF dX11_oneRow_51 (by omega) rfl rfl rfl iX11 37 (by decide) w_1284 rfl ?_
          rw [show τ 155 37 = c from zQ_τ.2.2.2.2.2.2.1]
          refine y_iconst (pc := 54) hF dX11_oneRow_54 ?_
          refine y_icmp_lt (pc := 55) hF dX11_oneRow_55 76 rfl (by omega) (by omega) (fun zc55 => ?_) (fun zc55 => ?_)
          · skip
            refine y_aload_n (pc := 76) hF dX11_oneRow_76 0 rfl ?_
            refine y_iconst (pc := 77) hF dX11_oneRow_77 ?_
            refine y_aload_n (pc := 78) hF dX11_oneRow_78 0 rfl ?_
            refine y_get (pc := 79) (ci := 11) hF dX11_oneRow_79 (by omega) rfl rfl rfl iX11 32 (by decide) w_1279 rfl ?_
            rw [show τ 155 32 = P from zQ_τ.2.1]
            refine y_cv (y_rV (pc := 82) hF (tX11_wrong hn (by rw [zI9.1.2.2.1]; omega) 4 P) dX11_oneRow_82 (by omega) rfl rfl rfl w_1416 qX11_wrong rfl ⟨Nat.le_of_ble_eq_true rfl, Nat.le_of_ble_eq_true rfl⟩ ⟨Nat.zero_le _, Nat.zero_le _⟩ (Nat.le_of_ble_eq_true rfl) rfl) rfl rfl (fun n' σ' zp82 => ?_)
            obtain ⟨zn82, rfl⟩ := zp82
            have zn82 := zn82.symm
            subst zn82
            obtain ⟨τ9, hτ9⟩ : ∃ s, s = yset (yset τ 155 33 4) 155 34 P := ⟨_, rfl⟩
            rw [← hτ9]
            have zE : rwE tb e y W p (-1) = (4, P, P, c, m) := by { unfold rwE; rw [zR]; exact if_pos (show f = 0 ∧ c < rwLe y W by unfold rwLe; split <;> omega) }; have z9 := zI9.1.wr (by decide) hτ9; have zQ_τ9 := z9.1; have zGx := zI9.2.1.tr z9.2.1; have zNx : ∀ j : Int, τ9 168 j = if 20 * y ≤ j ∧ j < 20 * y + c then m (j - 20 * y) else σ 168 j := (by rw [z9.2.2]; exact zI9.2.2.1)
            refine y_aload_n (pc := 85) hF dX11_oneRow_85 0 rfl ?_
            refine y_get (pc := 86) (ci := 11) hF dX11_oneRow_86 (by omega) rfl rfl rfl iX11 36 (by decide) w_1283 rfl ?_
            rw [show τ9 155 36 = y from zQ_τ9.2.2.2.2.2.1]
            refine y_if_ne (pc := 89) hF dX11_oneRow_89 100 rfl (by omega) (fun zc89 => ?_) (fun zc89 => ?_)
            · skip
              have zQp := zQ_τ9; have zGp := zGx; have zNp := zNx
              refine y_aload_n (pc := 100) hF dX11_oneRow_100 0 rfl ?_
              refine y_dup (pc := 101) hF dX11_oneRow_101 rfl ?_
              refine y_get (pc := 102) (ci := 11) hF dX11_oneRow_102 (by omega) rfl rfl rfl iX11 36 (by decide) w_1283 rfl ?_
              rw [show τ9 155 36 = y from zQ_τ9.2.2.2.2.2.1]
              refine y_iconst (pc := 105) hF dX11_oneRow_105 ?_
              refine y_iadd (pc := 106) hF dX11_oneRow_106 ?_
              refine y_putf (pc := 107) (ci := 11) (σ' := yset τ9 155 36 (y + 1)) (sch' := (SC g)) hF dX11_oneRow_107 (by omega) rfl rfl rfl iX11 36 (by decide) w_1283 tyX11 tyX11_ok nmX11 rfl rfl rfl rfl (Nat.le_of_ble_eq_true rfl) rfl (y_ps rfl) (fun k' h => ⟨yset_n h, rfl⟩) ?_
              obtain ⟨τ6, hτ6⟩ : ∃ s, s = yset τ9 155 36 (y + 1) := ⟨_, rfl⟩
              rw [← hτ6]
              exact y_vret (pc := 110) hF dX11_oneRow_110 (Nat.zero_le _) (Nat.zero_le _) ⟨rfl, rfl, by rw [zE]; (first | rw [if_pos zc89] | rw [if_neg zc89]); exact (zQp.rh hτ6).1, zGp.tr (zQp.rh hτ6).2.1, fun j => by rw [zE, (zQp.rh hτ6).2.2]; exact zNp j⟩
            · skip
              have zQ_XX := zQ_τ9
              refine y_aload_n (pc := 92) hF dX11_oneRow_92 0 rfl ?_
              refine y_aload_n (pc := 93) hF dX11_oneRow_93 0 rfl ?_
              refine y_get (pc := 94) (ci := 11) hF dX11_oneRow_94 (by omega) rfl rfl rfl iX11 37 (by decide) w_1284 rfl ?_
              rw [show τ9 155 37 = c from zQ_τ9.2.2.2.2.2.2.1]
              refine y_putf (pc := 97) (ci := 11) (σ' := yset τ9 155 35 c) (sch' := (SC g)) hF dX11_oneRow_97 (by omega) rfl rfl rfl iX11 35 (by decide) w_1282 tyX11 tyX11_ok nmX11 rfl rfl rfl rfl (Nat.le_of_ble_eq_true rfl) rfl (y_ps rfl) (fun k' h => ⟨yset_n h, rfl⟩) ?_
              obtain ⟨τ5, hτ5⟩ : ∃ s, s = yset τ9 155 35 c := ⟨_, rfl⟩
              rw [← hτ5]
              have z5 := zQ_XX.rw_ hτ5; have zQp := z5.1; have zGp := zGx.tr z5.2.1; have zNp : ∀ j : Int, τ5 168 j = if 20 * y ≤ j ∧ j < 20 * y + c then m (j - 20 * y) else σ 168 j := (by rw [z5.2.2]; exact zNx); have zQ_τ5 := zQp
              refine y_aload_n (pc := 100) hF dX11_oneRow_100 0 rfl ?_
              refine y_dup (pc := 101) hF dX11_oneRow_101 rfl ?_
              refine y_get (pc := 102) (ci := 11) hF dX11_oneRow_102 (by omega) rfl rfl rfl iX11 36 (by decide) w_1283 rfl ?_
              rw [show τ5 155 36 = y from zQ_τ5.2.2.2.2.2.1]
              refine y_iconst (pc := 105) hF dX11_oneRow_105 ?_
              refine y_iadd (pc := 106) hF dX11_oneRow_106 ?_
              refine y_putf (pc := 107) (ci := 11) (σ' := yset τ5 155 36 (y + 1)) (sch' := (SC g)) hF dX11_oneRow_107 (by omega) rfl rfl rfl iX11 36 (by decide) w_1283 tyX11 tyX11_ok nmX11 rfl rfl rfl rfl (Nat.le_of_ble_eq_true rfl) rfl (y_ps rfl) (fun k' h => ⟨yset_n h, rfl⟩) ?_
              obtain ⟨τ6, hτ6⟩ : ∃ s, s = yset τ5 155 36 (y + 1) := ⟨_, rfl⟩
              rw [← hτ6]
              exact y_vret (pc := 110) hF dX11_oneRow_110 (Nat.zero_le _) (Nat.zero_le _) ⟨rfl, rfl, by rw [zE]; (first | rw [if_pos zc89] | rw [if_neg zc89]); exact (zQp.rh hτ6).1, zGp.tr (zQp.rh hτ6).2.1, fun j => by rw [zE, (zQp.rh hτ6).2.2]; exact zNp j⟩
          · skip
            refine y_aload_n (pc := 58) hF dX11_oneRow_58 0 rfl ?_
            refine y_get (pc := 59) (ci := 11) hF dX11_oneRow_59 (by omega) rfl rfl rfl iX11 36 (by decide) w_1283 rfl ?_
            rw [show τ 155 36 = y from zQ_τ.2.2.2.2.2.1]
            refine y_if_le (pc := 62) hF dX11_oneRow_62 85 rfl (by omega) (fun zc62 => ?_) (fun zc62 => ?_)
            · skip
              have zE : rwE tb e y W p (-1) = (f, FP, P, c, m) := by { unfold rwE; rw [zR]; exact if_neg (show ¬ (f = 0 ∧ c < rwLe y W) by unfold rwLe; split <;> omega) }; have zGx := zI9.2.1; have zNx : ∀ j : Int, τ 168 j = if 20 * y ≤ j ∧ j < 20 * y + c then m (j - 20 * y) else σ 168 j := zI9.2.2.1
              refine y_aload_n (pc := 85) hF dX11_oneRow_85 0 rfl ?_
              refine y_get (pc := 86) (ci := 11) hF dX11_oneRow_86 (by omega) rfl rfl rfl iX11 36 (by decide) w_1283 rfl ?_
              rw [show τ 155 36 = y from zQ_τ.2.2.2.2.2.1]
              refine y_if_ne (pc := 89) hF dX11_oneRow_89 100 rfl (by omega) (fun zc89 => ?_) (fun zc89 => ?_)
              · skip
                have zQp := zQ_τ; have zGp := zGx; have zNp := zNx
                refine y_aload_n (pc := 100) hF dX11_oneRow_100 0 rfl ?_
                refine y_dup (pc := 101) hF dX11_oneRow_101 rfl ?_
                refine y_get (pc := 102) (ci := 11) hF dX11_oneRow_102 (by omega) rfl rfl rfl iX11 36 (by decide) w_1283 rfl ?_
                rw [show τ 155 36 = y from zQ_τ.2.2.2.2.2.1]
                refine y_iconst (pc := 105) hF dX11_oneRow_105 ?_
                refine y_iadd (pc := 106) hF dX11_oneRow_106 ?_
                refine y_putf (pc := 107) (ci := 11) (σ' := yset τ 155 36 (y + 1)) (sch' := (SC g)) hF dX11_oneRow_107 (by omega) rfl rfl rfl iX11 36 (by decide) w_1283 tyX11 tyX11_ok nmX11 rfl rfl rfl rfl (Nat.le_of_ble_eq_true rfl) rfl (y_ps rfl) (fun k' h => ⟨yset_n h, rfl⟩) ?_
                obtain ⟨τ6, hτ6⟩ : ∃ s, s = yset τ 155 36 (y + 1) := ⟨_, rfl⟩
                rw [← hτ6]
                exact y_vret (pc := 110) hF dX11_oneRow_110 (Nat.zero_le _) (Nat.zero_le _) ⟨rfl, rfl, by rw [zE]; (first | rw [if_pos zc89] | rw [if_neg zc89]); exact (zQp.rh hτ6).1, zGp.tr (zQp.rh hτ6).2.1, fun j => by rw [zE, (zQp.rh hτ6).2.2]; exact zNp j⟩
              · skip
                have zQ_XX := zQ_τ
                refine y_aload_n (pc := 92) hF dX11_oneRow_92 0 rfl ?_
                refine y_aload_n (pc := 93) hF dX11_oneRow_93 0 rfl ?_
                refine y_get (pc := 94) (ci := 11) hF dX11_oneRow_94 (by omega) rfl rfl rfl iX11 37 (by decide) w_1284 rfl ?_
                rw [show τ 155 37 = c from zQ_τ.2.2.2.2.2.2.1]
                refine y_putf (pc := 97) (ci := 11) (σ' := yset τ 155 35 c) (sch' := (SC g)) hF dX11_oneRow_97 (by omega) rfl rfl rfl iX11 35 (by decide) w_1282 tyX11 tyX11_ok nmX11 rfl rfl rfl rfl (Nat.le_of_ble_eq_true rfl) rfl (y_ps rfl) (fun k' h => ⟨yset_n h, rfl⟩) ?_
                obtain ⟨τ5, hτ5⟩ : ∃ s, s = yset τ 155 35 c := ⟨_, rfl⟩
                rw [← hτ5]
                have z5 := zQ_XX.rw_ hτ5; have zQp := z5.1; have zGp := zGx.tr z5.2.1; have zNp : ∀ j : Int, τ5 168 j = if 20 * y ≤ j ∧ j < 20 * y + c then m (j - 20 * y) else σ 168 j := (by rw [z5.2.2]; exact zNx); have zQ_τ5 := zQp
                refine y_aload_n (pc := 100) hF dX11_oneRow_100 0 rfl ?_
                refine y_dup (pc := 101) hF dX11_oneRow_101 rfl ?_
                refine y_get (pc := 102) (ci := 11) hF dX11_oneRow_102 (by omega) rfl rfl rfl iX11 36 (by decide) w_1283 rfl ?_
                rw [show τ5 155 36 = y from zQ_τ5.2.2.2.2.2.1]
                refine y_iconst (pc := 105) hF dX11_oneRow_105 ?_
                refine y_iadd (pc := 106) hF dX11_oneRow_106 ?_
                refine y_putf (pc := 107) (ci := 11) (σ' := yset τ5 155 36 (y + 1)) (sch' := (SC g)) hF dX11_oneRow_107 (by omega) rfl rfl rfl iX11 36 (by decide) w_1283 tyX11 tyX11_ok nmX11 rfl rfl rfl rfl (Nat.le_of_ble_eq_true rfl) rfl (y_ps rfl) (fun k' h => ⟨yset_n h, rfl⟩) ?_
                obtain ⟨τ6, hτ6⟩ : ∃ s, s = yset τ5 155 36 (y + 1) := ⟨_, rfl⟩
                rw [← hτ6]
                exact y_vret (pc := 110) hF dX11_oneRow_110 (Nat.zero_le _) (Nat.zero_le _) ⟨rfl, rfl, by rw [zE]; (first | rw [if_pos zc89] | rw [if_neg zc89]); exact (zQp.rh hτ6).1, zGp.tr (zQp.rh hτ6).2.1, fun j => by rw [zE, (zQp.rh hτ6).2.2]; exact zNp j⟩
            · skip
              refine y_aload_n (pc := 65) hF dX11_oneRow_65 0 rfl ?_
              refine y_get (pc := 66) (ci := 11) hF dX11_oneRow_66 (by omega) rfl rfl rfl iX11 37 (by decide) w_1284 rfl ?_
              rw [show τ 155 37 = c from zQ_τ.2.2.2.2.2.2.1]
              refine y_aload_n (pc := 69) hF dX11_oneRow_69 0 rfl ?_
              refine y_get (pc := 70) (ci := 11) hF dX11_oneRow_70 (by omega) rfl rfl rfl iX11 35 (by decide) w_1282 rfl ?_
              rw [show τ 155 35 = W from zQ_τ.2.2.2.2.1]
              refine y_icmp_ge (pc := 73) hF dX11_oneRow_73 85 rfl (by omega) (by omega) (fun zc73 => ?_) (fun zc73 => ?_)
              · skip
                have zE : rwE tb e y W p (-1) = (f, FP, P, c, m) := by { unfold rwE; rw [zR]; exact if_neg (show ¬ (f = 0 ∧ c < rwLe y W) by unfold rwLe; split <;> omega) }; have zGx := zI9.2.1; have zNx : ∀ j : Int, τ 168 j = if 20 * y ≤ j ∧ j < 20 * y + c then m (j - 20 * y) else σ 168 j := zI9.2.2.1
                refine y_aload_n (pc := 85) hF dX11_oneRow_85 0 rfl ?_
                refine y_get (pc := 86) (ci := 11) hF dX11_oneRow_86 (by omega) rfl rfl rfl iX11 36 (by decide) w_1283 rfl ?_
                rw [show τ 155 36 = y from zQ_τ.2.2.2.2.2.1]
                refine y_if_ne (pc := 89) hF dX11_oneRow_89 100 rfl (by omega) (fun zc89 => ?_) (fun zc89 => ?_)
                · skip
                  have zQp := zQ_τ; have zGp := zGx; have zNp := zNx
                  refine y_aload_n (pc := 100) hF dX11_oneRow_100 0 rfl ?_
                  refine y_dup (pc := 101) hF dX11_oneRow_101 rfl ?_
                  refine y_get (pc := 102) (ci := 11) hF dX11_oneRow_102 (by omega) rfl rfl rfl iX11 36 (by decide) w_1283 rfl ?_
                  rw [show τ 155 36 = y from zQ_τ.2.2.2.2.2.1]
                  refine y_iconst (pc := 105) hF dX11_oneRow_105 ?_
                  refine y_iadd (pc := 106) hF dX11_oneRow_106 ?_
                  refine y_putf (pc := 107) (ci := 11) (σ' := yset τ 155 36 (y + 1)) (sch' := (SC g)) hF dX11_oneRow_107 (by omega) rfl rfl rfl iX11 36 (by decide) w_1283 tyX11 tyX11_ok nmX11 rfl rfl rfl rfl (Nat.le_of_ble_eq_true rfl) rfl (y_ps rfl) (fun k' h => ⟨yset_n h, rfl⟩) ?_
                  obtain ⟨τ6, hτ6⟩ : ∃ s, s = yset τ 155 36 (y + 1) := ⟨_, rfl⟩
                  rw [← hτ6]
                  exact y_vret (pc := 110) hF dX11_oneRow_110 (Nat.zero_le _) (Nat.zero_le _) ⟨rfl, rfl, by rw [zE]; (first | rw [if_pos zc89] | rw [if_neg zc89]); exact (zQp.rh hτ6).1, zGp.tr (zQp.rh hτ6).2.1, fun j => by rw [zE, (zQp.rh hτ6).2.2]; exact zNp j⟩
                · skip
                  have zQ_XX := zQ_τ
                  refine y_aload_n (pc := 92) hF dX11_oneRow_92 0 rfl ?_
                  refine y_aload_n (pc := 93) hF dX11_oneRow_93 0 rfl ?_
                  refine y_get (pc := 94) (ci := 11) hF dX11_oneRow_94 (by omega) rfl rfl rfl iX11 37 (by decide) w_1284 rfl ?_
                  rw [show τ 155 37 = c from zQ_τ.2.2.2.2.2.2.1]
                  refine y_putf (pc := 97) (ci := 11) (σ' := yset τ 155 35 c) (sch' := (SC g)) hF dX11_oneRow_97 (by omega) rfl rfl rfl iX11 35 (by decide) w_1282 tyX11 tyX11_ok nmX11 rfl rfl rfl rfl (Nat.le_of_ble_eq_true rfl) rfl (y_ps rfl) (fun k' h => ⟨yset_n h, rfl⟩) ?_
                  obtain ⟨τ5, hτ5⟩ : ∃ s, s = yset τ 155 35 c := ⟨_, rfl⟩
                  rw [← hτ5]
                  have z5 := zQ_XX.rw_ hτ5; have zQp := z5.1; have zGp := zGx.tr z5.2.1; have zNp : ∀ j : Int, τ5 168 j = if 20 * y ≤ j ∧ j < 20 * y + c then m (j - 20 * y) else σ 168 j := (by rw [z5.2.2]; exact zNx); have zQ_τ5 := zQp
                  refine y_aload_n (pc := 100) hF dX11_oneRow_100 0 rfl ?_
                  refine y_dup (pc := 101) hF dX11_oneRow_101 rfl ?_
                  refine y_get (pc := 102) (ci := 11) hF dX11_oneRow_102 (by omega) rfl rfl rfl iX11 36 (by decide) w_1283 rfl ?_
                  rw [show τ5 155 36 = y from zQ_τ5.2.2.2.2.2.1]
                  refine y_iconst (pc := 105) hF dX11_oneRow_105 ?_
                  refine y_iadd (pc := 106) hF dX11_oneRow_106 ?_
                  refine y_putf (pc := 107) (ci := 11) (σ' := yset τ5 155 36 (y + 1)) (sch' := (SC g)) hF dX11_oneRow_107 (by omega) rfl rfl rfl iX11 36 (by decide) w_1283 tyX11 tyX11_ok nmX11 rfl rfl rfl rfl (Nat.le_of_ble_eq_true rfl) rfl (y_ps rfl) (fun k' h => ⟨yset_n h, rfl⟩) ?_
                  obtain ⟨τ6, hτ6⟩ : ∃ s, s = yset τ5 155 36 (y + 1) := ⟨_, rfl⟩
                  rw [← hτ6]
                  exact y_vret (pc := 110) hF dX11_oneRow_110 (Nat.zero_le _) (Nat.zero_le _) ⟨rfl, rfl, by rw [zE]; (first | rw [if_pos zc89] | rw [if_neg zc89]); exact (zQp.rh hτ6).1, zGp.tr (zQp.rh hτ6).2.1, fun j => by rw [zE, (zQp.rh hτ6).2.2]; exact zNp j⟩
              · skip
                refine y_aload_n (pc := 76) hF dX11_oneRow_76 0 rfl ?_
                refine y_iconst (pc := 77) hF dX11_oneRow_77 ?_
                refine y_aload_n (pc := 78) hF dX11_oneRow_78 0 rfl ?_
                refine y_get (pc := 79) (ci := 11) hF dX11_oneRow_79 (by omega) rfl rfl rfl iX11 32 (by decide) w_1279 rfl ?_
                rw [show τ 155 32 = P from zQ_τ.2.1]
                refine y_cv (y_rV (pc := 82) hF (tX11_wrong hn (by rw [zI9.1.2.2.1]; omega) 4 P) dX11_oneRow_82 (by omega) rfl rfl rfl w_1416 qX11_wrong rfl ⟨Nat.le_of_ble_eq_true rfl, Nat.le_of_ble_eq_true rfl⟩ ⟨Nat.zero_le _, Nat.zero_le _⟩ (Nat.le_of_ble_eq_true rfl) rfl) rfl rfl (fun n' σ' zp82 => ?_)
                obtain ⟨zn82, rfl⟩ := zp82
                have zn82 := zn82.symm
                subst zn82
                obtain ⟨τ9, hτ9⟩ : ∃ s, s = yset (yset τ 155 33 4) 155 34 P := ⟨_, rfl⟩
                rw [← hτ9]
                have zE : rwE tb e y W p (-1) = (4, P, P, c, m) := by { unfold rwE; rw [zR]; exact if_pos (show f = 0 ∧ c < rwLe y W by unfold rwLe; split <;> omega) }; have z9 := zI9.1.wr (by decide) hτ9; have zQ_τ9 := z9.1; have zGx := zI9.2.1.tr z9.2.1; have zNx : ∀ j : Int, τ9 168 j = if 20 * y ≤ j ∧ j < 20 * y + c then m (j - 20 * y) else σ 168 j := (by rw [z9.2.2]; exact zI9.2.2.1)
                refine y_aload_n (pc := 85) hF dX11_oneRow_85 0 rfl ?_
                refine y_get (pc := 86) (ci := 11) hF dX11_oneRow_86 (by omega) rfl rfl rfl iX11 36 (by decide) w_1283 rfl ?_
                rw [show τ9 155 36 = y from zQ_τ9.2.2.2.2.2.1]
                refine y_if_ne (pc := 89) hF dX11_oneRow_89 100 rfl (by omega) (fun zc89 => ?_) (fun zc89 => ?_)
                · skip
                  have zQp := zQ_τ9; have zGp := zGx; have zNp := zNx
                  refine y_aload_n (pc := 100) hF dX11_oneRow_100 0 rfl ?_
                  refine y_dup (pc := 101) hF dX11_oneRow_101 rfl ?_
                  refine y_get (pc := 102) (ci := 11) hF dX11_oneRow_102 (by omega) rfl rfl rfl iX11 36 (by decide) w_1283 rfl ?_
                  rw [show τ9 155 36 = y from zQ_τ9.2.2.2.2.2.1]
                  refine y_iconst (pc := 105) hF dX11_oneRow_105 ?_
                  refine y_iadd (pc := 106) hF dX11_oneRow_106 ?_
                  refine y_putf (pc := 107) (ci := 11) (σ' := yset τ9 155 36 (y + 1)) (sch' := (SC g)) hF dX11_oneRow_107 (by omega) rfl rfl rfl iX11 36 (by decide) w_1283 tyX11 tyX11_ok nmX11 rfl rfl rfl rfl (Nat.le_of_ble_eq_true rfl) rfl (y_ps rfl) (fun k' h => ⟨yset_n h, rfl⟩) ?_
                  obtain ⟨τ6, hτ6⟩ : ∃ s, s = yset τ9 155 36 (y + 1) := ⟨_, rfl⟩
                  rw [← hτ6]
                  exact y_vret (pc := 110) hF dX11_oneRow_110 (Nat.zero_le _) (Nat.zero_le _) ⟨rfl, rfl, by rw [zE]; (first | rw [if_pos zc89] | rw [if_neg zc89]); exact (zQp.rh hτ6).1, zGp.tr (zQp.rh hτ6).2.1, fun j => by rw [zE, (zQp.rh hτ6).2.2]; exact zNp j⟩
                · skip
                  have zQ_XX := zQ_τ9
                  refine y_aload_n (pc := 92) hF dX11_oneRow_92 0 rfl ?_
                  refine y_aload_n (pc := 93) hF dX11_oneRow_93 0 rfl ?_
                  refine y_get (pc := 94) (ci := 11) hF dX11_oneRow_94 (by omega) rfl rfl rfl iX11 37 (by decide) w_1284 rfl ?_
                  rw [show τ9 155 37 = c from zQ_τ9.2.2.2.2.2.2.1]
                  refine y_putf (pc := 97) (ci := 11) (σ' := yset τ9 155 35 c) (sch' := (SC g)) hF dX11_oneRow_97 (by omega) rfl rfl rfl iX11 35 (by decide) w_1282 tyX11 tyX11_ok nmX11 rfl rfl rfl rfl (Nat.le_of_ble_eq_true rfl) rfl (y_ps rfl) (fun k' h => ⟨yset_n h, rfl⟩) ?_
                  obtain ⟨τ5, hτ5⟩ : ∃ s, s = yset τ9 155 35 c := ⟨_, rfl⟩
                  rw [← hτ5]
                  have z5 := zQ_XX.rw_ hτ5; have zQp := z5.1; have zGp := zGx.tr z5.2.1; have zNp : ∀ j : Int, τ5 168 j = if 20 * y ≤ j ∧ j < 20 * y + c then m (j - 20 * y) else σ 168 j := (by rw [z5.2.2]; exact zNx); have zQ_τ5 := zQp
                  refine y_aload_n (pc := 100) hF dX11_oneRow_100 0 rfl ?_
                  refine y_dup (pc := 101) hF dX11_oneRow_101 rfl ?_
                  refine y_get (pc := 102) (ci := 11) hF dX11_oneRow_102 (by omega) rfl rfl rfl iX11 36 (by decide) w_1283 rfl ?_
                  rw [show τ5 155 36 = y from zQ_τ5.2.2.2.2.2.1]
                  refine y_iconst (pc := 105) hF dX11_oneRow_105 ?_
                  refine y_iadd (pc := 106) hF dX11_oneRow_106 ?_
                  refine y_putf (pc := 107) (ci := 11) (σ' := yset τ5 155 36 (y + 1)) (sch' := (SC g)) hF dX11_oneRow_107 (by omega) rfl rfl rfl iX11 36 (by decide) w_1283 tyX11 tyX11_ok nmX11 rfl rfl rfl rfl (Nat.le_of_ble_eq_true rfl) rfl (y_ps rfl) (fun k' h => ⟨yset_n h, rfl⟩) ?_
                  obtain ⟨τ6, hτ6⟩ : ∃ s, s = yset τ5 155 36 (y + 1) := ⟨_, rfl⟩
                  rw [← hτ6]
                  exact y_vret (pc := 110) hF dX11_oneRow_110 (Nat.zero_le _) (Nat.zero_le _) ⟨rfl, rfl, by rw [zE]; (first | rw [if_pos zc89] | rw [if_neg zc89]); exact (zQp.rh hτ6).1, zGp.tr (zQp.rh hτ6).2.1, fun j => by rw [zE, (zQp.rh hτ6).2.2]; exact zNp j⟩
      refine y_aload_n (pc := 9) hF dX11_oneRow_9 0 rfl ?_
      refine y_get (pc := 10) (ci := 11) hF dX11_oneRow_10 (by omega) rfl rfl rfl iX11 33 (by decide) w_1280 rfl ?_
      rw [show τ 155 33 = f from zQ_τ.2.2.1]
      refine y_if_ne (pc := 13) hF dX11_oneRow_13 43 rfl (by omega) (fun zc13 => ?_) (fun zc13 => ?_)
      · skip
        exact zJ43  (zI9.2.2.2.2.2.trans (rwL_stop (by unfold rwC; simp; omega)))
      · skip
        refine y_aload_n (pc := 16) hF dX11_oneRow_16 0 rfl ?_
        refine y_get (pc := 17) (ci := 11) hF dX11_oneRow_17 (by omega) rfl rfl rfl iX11 32 (by decide) w_1279 rfl ?_
        rw [show τ 155 32 = P from zQ_τ.2.1]
        refine y_aload_n (pc := 20) hF dX11_oneRow_20 0 rfl ?_
        refine y_get (pc := 21) (ci := 11) hF dX11_oneRow_21 (by omega) rfl rfl rfl iX11 31 (by decide) w_1278 rfl ?_
        rw [show τ 155 31 = e from zQ_τ.1]
        refine y_icmp_ge (pc := 24) hF dX11_oneRow_24 43 rfl (by omega) (by omega) (fun zc24 => ?_) (fun zc24 => ?_)
        · skip
          exact zJ43  (zI9.2.2.2.2.2.trans (rwL_stop (by unfold rwC; simp; omega)))
        · skip
          have zbk := sg_bd (e := e) (htb P)
          have zsl := sg_sl (e := e) (htb P) (by omega)
          refine y_aload_n (pc := 27) hF dX11_oneRow_27 0 rfl ?_
          have zz28 := y_rV (pc := 28) hF (tX11_sign (n := n) (σ := τ) hn tb e P f FP W y c zQ_τ (by omega) htb) dX11_oneRow_28 (by omega) rfl rfl rfl w_1411 qX11_sign rfl ⟨Nat.le_of_ble_eq_true rfl, Nat.le_of_ble_eq_true rfl⟩ ⟨Nat.zero_le _, Nat.zero_le _⟩ (Nat.le_of_ble_eq_true rfl) rfl (rest := []) (cells := 0) (slots := 0) (lv := [(0, yR g 155)])
          refine y_cp (zz28) ?_
          refine y_bipush (pc := 31) hF dX11_oneRow_31 (by decide) ?_
          refine y_icmp_eq (pc := 33) hF dX11_oneRow_33 43 rfl (by omega) (by omega) (fun zc33 => ?_) (fun zc33 => ?_)
          · skip
            exact zJ43  (zI9.2.2.2.2.2.trans (rwL_stop (by unfold rwC; simp; omega)))
          · skip
            have zf0 : f = 0 := by omega
            have zQf : mTq τ tb e P 0 FP W y c := by rw [← zf0]; exact zI9.1
            obtain ⟨I2_, hI2⟩ : ∃ r, r = itm tb e P (rwMo y W - c) := ⟨_, rfl⟩
            obtain ⟨f2, fp2, p2, t2, v2⟩ := I2_
            have zb2 := itm_bd (by omega) (by omega) htb hI2
            have zi2 : rwI tb e (rwMo y W) (f, FP, P, c, m) = (f2, if f2 = 0 then FP else fp2, p2, c + t2, rwG c m t2 v2) := by unfold rwI; simp only [← hI2]
            refine y_aload_n (pc := 36) hF dX11_oneRow_36 0 rfl ?_
            refine y_cv (y_rV (pc := 37) hF (tX11_item hn tb e P FP W y c zQf (by omega) htb (by omega) hmo (by omega)) dX11_oneRow_37 (by omega) rfl rfl rfl w_1403 qX11_item rfl ⟨Nat.le_of_ble_eq_true rfl, Nat.le_of_ble_eq_true rfl⟩ ⟨Nat.zero_le _, Nat.zero_le _⟩ (Nat.le_of_ble_eq_true rfl) rfl) rfl rfl (fun n' σ37 zp37 => ?_)
            obtain ⟨zn37, zp37⟩ := zp37
            have zn37 := zn37.symm
            subst zn37
            rw [← hI2] at zp37
            refine y_goto (pc := 40) hF dX11_oneRow_40 9 rfl ?_
            exact zh9 _ (by omega) σ37 f2 (if f2 = 0 then FP else fp2) p2 (c + t2) (rwG c m t2 v2) (k - 1) rfl ⟨zp37.1, zI9.2.1.tr zp37.2.1, rN_up (by omega) (by omega) zI9.2.2.1 zp37.2.2, by omega, by rcases Decidable.em (f2 = 0) with zz | zz; (exact Or.inr (by have := zb2.2.2.2.2.2 zz; omega)); (exact Or.inl zz), by rw [zI9.2.2.2.2.2, rwL_k (by omega) (by unfold rwC; simp; omega), zi2]⟩
  exact zL9 _ σ6 f1 (if f1 = 0 then -1 else fp1) p1 t1 (rwG 0 (fun _ => 0) t1 v1) 300 rfl ⟨zp6.1, z0g.2.1.tr zp6.2.1, by have zq := rN_up (s0 := σ 168) (s1 := τ0 168) (s2 := σ6 168) (d := 20 * y) (c := 0) (t := t1) (v := v1) (m := fun _ => 0) (Int.le_refl 0) zb1.2.2.2.1.1 (fun j => by rw [if_neg (by omega), z0g.2.2]) (fun j => by rw [Int.add_zero]; exact zp6.2.2 j); rw [Int.zero_add] at zq; exact zq, by omega, Or.inr (by omega), by unfold rwR; rw [zi1]⟩

theorem dX11_takes_0 : decode cX11_takes 0 = .ok (.aload_n 0, 1) := by decide +kernel
theorem dX11_takes_1 : decode cX11_takes 1 = .ok (.aload_n 0, 1) := by decide +kernel
theorem dX11_takes_2 : decode cX11_takes 2 = .ok (.getfield 297, 3) := by decide +kernel
theorem dX11_takes_5 : decode cX11_takes 5 = .ok (.ifCond .eq 33, 3) := by decide +kernel
theorem dX11_takes_8 : decode cX11_takes 8 = .ok (.aload_n 0, 1) := by decide +kernel
theorem dX11_takes_9 : decode cX11_takes 9 = .ok (.getfield 22, 3) := by decide +kernel
theorem dX11_takes_12 : decode cX11_takes 12 = .ok (.iconst 0, 1) := by decide +kernel
theorem dX11_takes_13 : decode cX11_takes 13 = .ok (.iaload, 1) := by decide +kernel
theorem dX11_takes_14 : decode cX11_takes 14 = .ok (.aload_n 0, 1) := by decide +kernel
theorem dX11_takes_15 : decode cX11_takes 15 = .ok (.getfield 272, 3) := by decide +kernel
theorem dX11_takes_18 : decode cX11_takes 18 = .ok (.if_icmp .ne 20, 3) := by decide +kernel
theorem dX11_takes_21 : decode cX11_takes 21 = .ok (.aload_n 0, 1) := by decide +kernel
theorem dX11_takes_22 : decode cX11_takes 22 = .ok (.getfield 25, 3) := by decide +kernel
theorem dX11_takes_25 : decode cX11_takes 25 = .ok (.iconst 0, 1) := by decide +kernel
theorem dX11_takes_26 : decode cX11_takes 26 = .ok (.iaload, 1) := by decide +kernel
theorem dX11_takes_27 : decode cX11_takes 27 = .ok (.aload_n 0, 1) := by decide +kernel
theorem dX11_takes_28 : decode cX11_takes 28 = .ok (.getfield 269, 3) := by decide +kernel
theorem dX11_takes_31 : decode cX11_takes 31 = .ok (.if_icmp .ne 7, 3) := by decide +kernel
theorem dX11_takes_34 : decode cX11_takes 34 = .ok (.iconst 1, 1) := by decide +kernel
theorem dX11_takes_35 : decode cX11_takes 35 = .ok (.goto 4, 3) := by decide +kernel
theorem dX11_takes_38 : decode cX11_takes 38 = .ok (.iconst 0, 1) := by decide +kernel
theorem dX11_takes_39 : decode cX11_takes 39 = .ok (.putfield 297, 3) := by decide +kernel
theorem dX11_takes_42 : decode cX11_takes 42 = .ok (.aload_n 0, 1) := by decide +kernel
theorem dX11_takes_43 : decode cX11_takes 43 = .ok (.getfield 22, 3) := by decide +kernel
theorem dX11_takes_46 : decode cX11_takes 46 = .ok (.iconst 0, 1) := by decide +kernel
theorem dX11_takes_47 : decode cX11_takes 47 = .ok (.aload_n 0, 1) := by decide +kernel
theorem dX11_takes_48 : decode cX11_takes 48 = .ok (.getfield 272, 3) := by decide +kernel
theorem dX11_takes_51 : decode cX11_takes 51 = .ok (.iastore, 1) := by decide +kernel
theorem dX11_takes_52 : decode cX11_takes 52 = .ok (.aload_n 0, 1) := by decide +kernel
theorem dX11_takes_53 : decode cX11_takes 53 = .ok (.getfield 25, 3) := by decide +kernel
theorem dX11_takes_56 : decode cX11_takes 56 = .ok (.iconst 0, 1) := by decide +kernel
theorem dX11_takes_57 : decode cX11_takes 57 = .ok (.aload_n 0, 1) := by decide +kernel
theorem dX11_takes_58 : decode cX11_takes 58 = .ok (.getfield 269, 3) := by decide +kernel
theorem dX11_takes_61 : decode cX11_takes 61 = .ok (.iastore, 1) := by decide +kernel
theorem dX11_takes_62 : decode cX11_takes 62 = .ok (.iconst 0, 1) := by decide +kernel
theorem dX11_takes_63 : decode cX11_takes 63 = .ok (.istore_n 1, 1) := by decide +kernel
theorem dX11_takes_64 : decode cX11_takes 64 = .ok (.iload_n 1, 1) := by decide +kernel
theorem dX11_takes_65 : decode cX11_takes 65 = .ok (.aload_n 0, 1) := by decide +kernel
theorem dX11_takes_66 : decode cX11_takes 66 = .ok (.getfield 269, 3) := by decide +kernel
theorem dX11_takes_69 : decode cX11_takes 69 = .ok (.if_icmp .ge 72, 3) := by decide +kernel
theorem dX11_takes_72 : decode cX11_takes 72 = .ok (.iconst 0, 1) := by decide +kernel
theorem dX11_takes_73 : decode cX11_takes 73 = .ok (.istore_n 2, 1) := by decide +kernel
theorem dX11_takes_74 : decode cX11_takes 74 = .ok (.iload_n 2, 1) := by decide +kernel
theorem dX11_takes_75 : decode cX11_takes 75 = .ok (.aload_n 0, 1) := by decide +kernel
theorem dX11_takes_76 : decode cX11_takes 76 = .ok (.getfield 272, 3) := by decide +kernel
theorem dX11_takes_79 : decode cX11_takes 79 = .ok (.if_icmp .ge 56, 3) := by decide +kernel
theorem dX11_takes_82 : decode cX11_takes 82 = .ok (.aload_n 0, 1) := by decide +kernel
theorem dX11_takes_83 : decode cX11_takes 83 = .ok (.getfield 44, 3) := by decide +kernel
theorem dX11_takes_86 : decode cX11_takes 86 = .ok (.iload_n 2, 1) := by decide +kernel
theorem dX11_takes_87 : decode cX11_takes 87 = .ok (.iload_n 1, 1) := by decide +kernel
theorem dX11_takes_88 : decode cX11_takes 88 = .ok (.invokestatic 56, 3) := by decide +kernel
theorem dX11_takes_91 : decode cX11_takes 91 = .ok (.iaload, 1) := by decide +kernel
theorem dX11_takes_92 : decode cX11_takes 92 = .ok (.iconst (-1), 1) := by decide +kernel
theorem dX11_takes_93 : decode cX11_takes 93 = .ok (.if_icmp .ne 16, 3) := by decide +kernel
theorem dX11_takes_96 : decode cX11_takes 96 = .ok (.aload_n 0, 1) := by decide +kernel
theorem dX11_takes_97 : decode cX11_takes 97 = .ok (.iconst 0, 1) := by decide +kernel
theorem dX11_takes_98 : decode cX11_takes 98 = .ok (.iload_n 2, 1) := by decide +kernel
theorem dX11_takes_99 : decode cX11_takes 99 = .ok (.iload_n 1, 1) := by decide +kernel
theorem dX11_takes_100 : decode cX11_takes 100 = .ok (.invokestatic 56, 3) := by decide +kernel
theorem dX11_takes_103 : decode cX11_takes 103 = .ok (.invokevirtual 229, 3) := by decide +kernel
theorem dX11_takes_106 : decode cX11_takes 106 = .ok (.goto 23, 3) := by decide +kernel
theorem dX11_takes_109 : decode cX11_takes 109 = .ok (.aload_n 0, 1) := by decide +kernel
theorem dX11_takes_110 : decode cX11_takes 110 = .ok (.iconst 0, 1) := by decide +kernel
theorem dX11_takes_111 : decode cX11_takes 111 = .ok (.iload_n 2, 1) := by decide +kernel
theorem dX11_takes_112 : decode cX11_takes 112 = .ok (.iload_n 1, 1) := by decide +kernel
theorem dX11_takes_113 : decode cX11_takes 113 = .ok (.invokestatic 56, 3) := by decide +kernel
theorem dX11_takes_116 : decode cX11_takes 116 = .ok (.aload_n 0, 1) := by decide +kernel
theorem dX11_takes_117 : decode cX11_takes 117 = .ok (.getfield 44, 3) := by decide +kernel
theorem dX11_takes_120 : decode cX11_takes 120 = .ok (.iload_n 2, 1) := by decide +kernel
theorem dX11_takes_121 : decode cX11_takes 121 = .ok (.iload_n 1, 1) := by decide +kernel
theorem dX11_takes_122 : decode cX11_takes 122 = .ok (.invokestatic 56, 3) := by decide +kernel
theorem dX11_takes_125 : decode cX11_takes 125 = .ok (.iaload, 1) := by decide +kernel
theorem dX11_takes_126 : decode cX11_takes 126 = .ok (.invokevirtual 60, 3) := by decide +kernel
theorem dX11_takes_129 : decode cX11_takes 129 = .ok (.iinc 2 1, 3) := by decide +kernel
theorem dX11_takes_132 : decode cX11_takes 132 = .ok (.goto (-58), 3) := by decide +kernel
theorem dX11_takes_135 : decode cX11_takes 135 = .ok (.iinc 1 1, 3) := by decide +kernel
theorem dX11_takes_138 : decode cX11_takes 138 = .ok (.goto (-74), 3) := by decide +kernel
theorem dX11_takes_141 : decode cX11_takes 141 = .ok (.aload_n 0, 1) := by decide +kernel
theorem dX11_takes_142 : decode cX11_takes 142 = .ok (.getfield 19, 3) := by decide +kernel
theorem dX11_takes_145 : decode cX11_takes 145 = .ok (.iconst 0, 1) := by decide +kernel
theorem dX11_takes_146 : decode cX11_takes 146 = .ok (.aaload, 1) := by decide +kernel
theorem dX11_takes_147 : decode cX11_takes 147 = .ok (.sipush 2000, 3) := by decide +kernel
theorem dX11_takes_150 : decode cX11_takes 150 = .ok (.iconst 0, 1) := by decide +kernel
theorem dX11_takes_151 : decode cX11_takes 151 = .ok (.iastore, 1) := by decide +kernel
theorem dX11_takes_152 : decode cX11_takes 152 = .ok (.aload_n 0, 1) := by decide +kernel
theorem dX11_takes_153 : decode cX11_takes 153 = .ok (.getfield 19, 3) := by decide +kernel
theorem dX11_takes_156 : decode cX11_takes 156 = .ok (.iconst 0, 1) := by decide +kernel
theorem dX11_takes_157 : decode cX11_takes 157 = .ok (.aaload, 1) := by decide +kernel
theorem dX11_takes_158 : decode cX11_takes 158 = .ok (.sipush 2001, 3) := by decide +kernel
theorem dX11_takes_161 : decode cX11_takes 161 = .ok (.iconst 0, 1) := by decide +kernel
theorem dX11_takes_162 : decode cX11_takes 162 = .ok (.iastore, 1) := by decide +kernel
theorem dX11_takes_163 : decode cX11_takes 163 = .ok (.aload_n 0, 1) := by decide +kernel
theorem dX11_takes_164 : decode cX11_takes 164 = .ok (.getfield 19, 3) := by decide +kernel
theorem dX11_takes_167 : decode cX11_takes 167 = .ok (.iconst 0, 1) := by decide +kernel
theorem dX11_takes_168 : decode cX11_takes 168 = .ok (.aaload, 1) := by decide +kernel
theorem dX11_takes_169 : decode cX11_takes 169 = .ok (.sipush 2002, 3) := by decide +kernel
theorem dX11_takes_172 : decode cX11_takes 172 = .ok (.iconst 0, 1) := by decide +kernel
theorem dX11_takes_173 : decode cX11_takes 173 = .ok (.iastore, 1) := by decide +kernel
theorem dX11_takes_174 : decode cX11_takes 174 = .ok (.aload_n 0, 1) := by decide +kernel
theorem dX11_takes_175 : decode cX11_takes 175 = .ok (.iconst 0, 1) := by decide +kernel
theorem dX11_takes_176 : decode cX11_takes 176 = .ok (.putfield 301, 3) := by decide +kernel
theorem dX11_takes_179 : decode cX11_takes 179 = .ok (.return_, 1) := by decide +kernel
set_option maxHeartbeats 4000000 in
set_option maxRecDepth 100000 in
theorem tX11_takes {l : Launch} {g : yG} {n : Nat} {σ : yM} (hn : 172 ≤ n) (tb : Int → Int) (e p fp W Hh c : Int) (hQ : mTq σ tb e p 0 fp W Hh c) (M : Int → Int → Int) (hM : tM σ Hh W M) (hW : 3 ≤ W ∧ W ≤ 20) (hH : 3 ≤ Hh ∧ Hh ≤ 20) (w0 h0 : Int) (hw0 : 1 ≤ w0 ∧ w0 ≤ 20) (hh0 : 1 ≤ h0 ∧ h0 ≤ 20) (e161 : σ 161 0 = w0) (e162 : σ 162 0 = h0) (ht : Bool) (e9 : σ 155 9 = bi ht) : yMet l g yX11_takes cX11_takes 3 none (rmL 3) [yR g 155] (SC g) n σ (SC g) (yPv (fun n' σ' => n' = n ∧ rX σ' 0 W Hh (txX M) ∧ σ' 155 8 = 0 ∧ σ' 155 9 = bi (ht && decide (W = w0) && decide (Hh = h0)) ∧ (∀ (c : Nat) (j : Int), c ≠ 158 → ((c ≠ 161 ∧ c ≠ 162) ∨ j ≠ 0) → (c ≠ 155 ∨ (j ≠ 8 ∧ j ≠ 9)) → σ' c j = σ c j))) := by
  refine y_start (by decide) (Nat.le_of_ble_eq_true rfl) (fun X0 hF => ?_)
  show yV X0 g 3 (yQ X0 g (SC g) (yPv (fun n' σ' => n' = n ∧ rX σ' 0 W Hh (txX M) ∧ σ' 155 8 = 0 ∧ σ' 155 9 = bi (ht && decide (W = w0) && decide (Hh = h0)) ∧ (∀ (c : Nat) (j : Int), c ≠ 158 → ((c ≠ 161 ∧ c ≠ 162) ∨ j ≠ 0) → (c ≠ 155 ∨ (j ≠ 8 ∧ j ≠ 9)) → σ' c j = σ c j))) (rmL 3)) (SC g) n σ 0 0 0 [(0, yR g 155)] []
  have zJ39 : ∀ (zb : Bool), (zb = (ht && decide (W = w0) && decide (Hh = h0))) → yV X0 g 3 (yQ X0 g (SC g) (yPv (fun n' σ' => n' = n ∧ rX σ' 0 W Hh (txX M) ∧ σ' 155 8 = 0 ∧ σ' 155 9 = bi (ht && decide (W = w0) && decide (Hh = h0)) ∧ (∀ (c : Nat) (j : Int), c ≠ 158 → ((c ≠ 161 ∧ c ≠ 162) ∨ j ≠ 0) → (c ≠ 155 ∨ (j ≠ 8 ∧ j ≠ 9)) → σ' c j = σ c j))) (rmL 3)) (SC g) n σ 0 0 39 [(0, yR g 155)] [yI (bi zb), yR g 155] := by
    intro zb  zhb
    refine y_putf (pc := 39) (ci := 11) (σ' := yset σ 155 9 (bi zb)) (sch' := (SC g)) hF dX11_takes_39 (by omega) rfl rfl rfl iX11 9 (by decide) w_1256 tyX11 tyX11_ok nmX11 rfl rfl (by cases zb <;> rfl) (by cases zb <;> rfl) (Nat.le_of_ble_eq_true rfl) rfl (y_ps rfl) (fun k' h => ⟨yset_n h, rfl⟩) ?_
    obtain ⟨τ1, hτ1⟩ : ∃ s, s = yset σ 155 9 (bi zb) := ⟨_, rfl⟩
    rw [← hτ1]
    have zw35_τ1 : τ1 155 35 = W := by rw [hτ1, yset_o (by omega)]; exact hQ.2.2.2.2.1
    have zw36_τ1 : τ1 155 36 = Hh := by rw [hτ1, yset_o (by omega)]; exact hQ.2.2.2.2.2.1
    refine y_aload_n (pc := 42) hF dX11_takes_42 0 rfl ?_
    refine y_get (pc := 43) (ci := 11) hF dX11_takes_43 (by omega) rfl rfl rfl iX11 3 (by decide) w_1250 rfl ?_
    refine y_iconst (pc := 46) hF dX11_takes_46 ?_
    refine y_aload_n (pc := 47) hF dX11_takes_47 0 rfl ?_
    refine y_get (pc := 48) (ci := 11) hF dX11_takes_48 (by omega) rfl rfl rfl iX11 35 (by decide) w_1282 rfl ?_
    rw [show τ1 155 35 = W from zw35_τ1]
    refine y_iastore (pc := 51) hF dX11_takes_51 (by omega) rfl (by omega) (by decide) ?_
    obtain ⟨τ2, hτ2⟩ : ∃ s, s = yset τ1 161 0 W := ⟨_, rfl⟩
    rw [← hτ2]
    have zw36_τ2 : τ2 155 36 = Hh := by rw [hτ2, yset_n (by omega)]; exact zw36_τ1
    have zw35_τ2 : τ2 155 35 = W := by rw [hτ2, yset_n (by omega)]; exact zw35_τ1
    refine y_aload_n (pc := 52) hF dX11_takes_52 0 rfl ?_
    refine y_get (pc := 53) (ci := 11) hF dX11_takes_53 (by omega) rfl rfl rfl iX11 4 (by decide) w_1251 rfl ?_
    refine y_iconst (pc := 56) hF dX11_takes_56 ?_
    refine y_aload_n (pc := 57) hF dX11_takes_57 0 rfl ?_
    refine y_get (pc := 58) (ci := 11) hF dX11_takes_58 (by omega) rfl rfl rfl iX11 36 (by decide) w_1283 rfl ?_
    rw [show τ2 155 36 = Hh from zw36_τ2]
    refine y_iastore (pc := 61) hF dX11_takes_61 (by omega) rfl (by omega) (by decide) ?_
    obtain ⟨κ, hκ⟩ : ∃ s, s = yset τ2 162 0 Hh := ⟨_, rfl⟩
    rw [← hκ]
    have zw36_κ : κ 155 36 = Hh := by rw [hκ, yset_n (by omega)]; exact zw36_τ2
    have zw35_κ : κ 155 35 = W := by rw [hκ, yset_n (by omega)]; exact zw35_τ2
    have z168 : κ 168 = σ 168 := by rw [hκ, yset_n (by omega), hτ2, yset_n (by omega), hτ1, yset_n (by omega)]
    refine y_iconst (pc := 62) hF dX11_takes_62 ?_
    refine y_istore_n (pc := 63) (lv' := [(0, yR g 155), (1, yI 0)]) hF dX11_takes_63 (by decide) rfl rfl ?_
    have zL64 : ∀ (N : Nat) (τ : yM) (y : Int), N = (Hh - y).toNat → ((∀ c : Nat, c ≠ 158 → τ c = κ c) ∧ (0 ≤ y ∧ y ≤ Hh) ∧ pT τ M W y 0) → yV X0 g 3 (yQ X0 g (SC g) (yPv (fun n' σ' => n' = n ∧ rX σ' 0 W Hh (txX M) ∧ σ' 155 8 = 0 ∧ σ' 155 9 = bi (ht && decide (W = w0) && decide (Hh = h0)) ∧ (∀ (c : Nat) (j : Int), c ≠ 158 → ((c ≠ 161 ∧ c ≠ 162) ∨ j ≠ 0) → (c ≠ 155 ∨ (j ≠ 8 ∧ j ≠ 9)) → σ' c j = σ c j))) (rmL 3)) (SC g) n τ 0 0 64 [(0, yR g 155), (1, yI y)] [] := by
      intro N
      induction N using Nat.strongRecOn with
      | ind N zh64 =>
        intro τ  y  zN64 zI64
        have zw35_τ : τ 155 35 = W := by rw [zI64.1 155 (by omega)]; exact zw35_κ
        have zw36_τ : τ 155 36 = Hh := by rw [zI64.1 155 (by omega)]; exact zw36_κ
        refine y_iload_n (pc := 64) hF dX11_takes_64 1 rfl ?_
        refine y_aload_n (pc := 65) hF dX11_takes_65 0 rfl ?_
        refine y_get (pc := 66) (ci := 11) hF dX11_takes_66 (by omega) rfl rfl rfl iX11 36 (by decide) w_1283 rfl ?_
        rw [show τ 155 36 = Hh from zw36_τ]
        refine y_icmp_ge (pc := 69) hF dX11_takes_69 141 rfl (by omega) (by omega) (fun zc69 => ?_) (fun zc69 => ?_)
        · skip
          refine y_aload_n (pc := 141) hF dX11_takes_141 0 rfl ?_
          refine y_get (pc := 142) (ci := 11) hF dX11_takes_142 (by omega) rfl rfl rfl iX11 2 (by decide) w_1249 rfl ?_
          refine y_iconst (pc := 145) hF dX11_takes_145 ?_
          refine y_aaM0 (pc := 146) hF dX11_takes_146 hn rfl ?_
          refine y_sipush (pc := 147) hF dX11_takes_147 (by decide) ?_
          refine y_iconst (pc := 150) hF dX11_takes_150 ?_
          refine y_iastore (pc := 151) hF dX11_takes_151 (by omega) rfl (by omega) (by decide) ?_
          obtain ⟨ρ1, hρ1⟩ : ∃ s, s = yset τ 158 2000 0 := ⟨_, rfl⟩
          rw [← hρ1]
          refine y_aload_n (pc := 152) hF dX11_takes_152 0 rfl ?_
          refine y_get (pc := 153) (ci := 11) hF dX11_takes_153 (by omega) rfl rfl rfl iX11 2 (by decide) w_1249 rfl ?_
          refine y_iconst (pc := 156) hF dX11_takes_156 ?_
          refine y_aaM0 (pc := 157) hF dX11_takes_157 hn rfl ?_
          refine y_sipush (pc := 158) hF dX11_takes_158 (by decide) ?_
          refine y_iconst (pc := 161) hF dX11_takes_161 ?_
          refine y_iastore (pc := 162) hF dX11_takes_162 (by omega) rfl (by omega) (by decide) ?_
          obtain ⟨ρ2, hρ2⟩ : ∃ s, s = yset ρ1 158 2001 0 := ⟨_, rfl⟩
          rw [← hρ2]
          refine y_aload_n (pc := 163) hF dX11_takes_163 0 rfl ?_
          refine y_get (pc := 164) (ci := 11) hF dX11_takes_164 (by omega) rfl rfl rfl iX11 2 (by decide) w_1249 rfl ?_
          refine y_iconst (pc := 167) hF dX11_takes_167 ?_
          refine y_aaM0 (pc := 168) hF dX11_takes_168 hn rfl ?_
          refine y_sipush (pc := 169) hF dX11_takes_169 (by decide) ?_
          refine y_iconst (pc := 172) hF dX11_takes_172 ?_
          refine y_iastore (pc := 173) hF dX11_takes_173 (by omega) rfl (by omega) (by decide) ?_
          obtain ⟨ρ3, hρ3⟩ : ∃ s, s = yset ρ2 158 2002 0 := ⟨_, rfl⟩
          rw [← hρ3]
          refine y_aload_n (pc := 174) hF dX11_takes_174 0 rfl ?_
          refine y_iconst (pc := 175) hF dX11_takes_175 ?_
          refine y_putf (pc := 176) (ci := 11) (σ' := yset ρ3 155 8 0) (sch' := (SC g)) hF dX11_takes_176 (by omega) rfl rfl rfl iX11 8 (by decide) w_1255 tyX11 tyX11_ok nmX11 rfl rfl rfl rfl (Nat.le_of_ble_eq_true rfl) rfl (y_ps rfl) (fun k' h => ⟨yset_n h, rfl⟩) ?_
          obtain ⟨ρ4, hρ4⟩ : ∃ s, s = yset ρ3 155 8 0 := ⟨_, rfl⟩
          rw [← hρ4]
          have zr : ∀ c : Nat, c ≠ 158 → c ≠ 155 → ρ4 c = κ c := fun c a b => by rw [hρ4, yset_n b, hρ3, yset_n a, hρ2, yset_n a, hρ1, yset_n a]; exact zI64.1 c a
          have zr5 : ∀ j : Int, j ≠ 8 → ρ4 155 j = κ 155 j := fun j a => by rw [hρ4, yset_o (by omega), hρ3, yset_n (by omega), hρ2, yset_n (by omega), hρ1, yset_n (by omega), zI64.1 155 (by omega)]
          have zr8 : ∀ j : Int, j < 2000 → ρ4 158 j = τ 158 j := fun j a => by rw [hρ4, yset_n (by omega), hρ3, yset_o (by omega), hρ2, yset_o (by omega), hρ1, yset_o (by omega)]
          have zk : ∀ (c : Nat) (j : Int), c ≠ 158 → ((c ≠ 161 ∧ c ≠ 162) ∨ j ≠ 0) → (c ≠ 155 ∨ (j ≠ 8 ∧ j ≠ 9)) → κ c j = σ c j := fun c j a b d => by rw [hκ, yset_o (by omega), hτ2, yset_o (by omega), hτ1, yset_o (by omega)]
          exact y_vret (pc := 179) hF dX11_takes_179 (Nat.zero_le _) (Nat.zero_le _) ⟨rfl, rfl, rX_tx hW hH hM (fun a b h1 h2 h3 h4 => by have zp := zI64.2.2 a b h1 h2 h3 (by omega); rw [zr8 _ (by omega), zr8 _ (by omega), zr8 _ (by omega), zr8 _ (by omega), zr8 _ (by omega)]; exact zp) (by rw [zr 161 (by omega) (by omega), hκ, yset_n (by omega), hτ2, yset_e]) (by rw [zr 162 (by omega) (by omega), hκ, yset_e]) (by rw [hρ4, yset_n (by omega), hρ3, yset_o (by omega), hρ2, yset_o (by omega), hρ1, yset_e]) (by rw [hρ4, yset_n (by omega), hρ3, yset_o (by omega), hρ2, yset_e]) (by rw [hρ4, yset_n (by omega), hρ3, yset_e]), by rw [hρ4, yset_e], by rw [zr5 9 (by omega), hκ, yset_n (by omega), hτ2, yset_n (by omega), hτ1, yset_e, zhb], fun c j a b d => by { rcases Decidable.em (c = 155) with zq | zq; (subst zq; rw [zr5 j (by omega)]; exact zk 155 j a b d); (rw [zr c a zq]; exact zk c j a b d) }⟩
        · skip
          refine y_iconst (pc := 72) hF dX11_takes_72 ?_
          refine y_istore_n (pc := 73) (lv' := [(0, yR g 155), (1, yI y), (2, yI 0)]) hF dX11_takes_73 (by decide) rfl rfl ?_
          have zL74 : ∀ (N : Nat) (υ : yM) (x : Int), N = (W - x).toNat → ((∀ c : Nat, c ≠ 158 → υ c = κ c) ∧ (0 ≤ x ∧ x ≤ W) ∧ pT υ M W y x) → yV X0 g 3 (yQ X0 g (SC g) (yPv (fun n' σ' => n' = n ∧ rX σ' 0 W Hh (txX M) ∧ σ' 155 8 = 0 ∧ σ' 155 9 = bi (ht && decide (W = w0) && decide (Hh = h0)) ∧ (∀ (c : Nat) (j : Int), c ≠ 158 → ((c ≠ 161 ∧ c ≠ 162) ∨ j ≠ 0) → (c ≠ 155 ∨ (j ≠ 8 ∧ j ≠ 9)) → σ' c j = σ c j))) (rmL 3)) (SC g) n υ 0 0 74 [(0, yR g 155), (1, yI y), (2, yI x)] [] := by
            intro N
            induction N using Nat.strongRecOn with
            | ind N zh74 =>
              intro υ  x  zN74 zI74
              have zw35_υ : υ 155 35 = W := by rw [zI74.1 155 (by omega)]; exact zw35_κ
              have zw36_υ : υ 155 36 = Hh := by rw [zI74.1 155 (by omega)]; exact zw36_κ
              refine y_iload_n (pc := 74) hF dX11_takes_74 2 rfl ?_
              refine y_aload_n (pc := 75) hF dX11_takes_75 0 rfl ?_
              refine y_get (pc := 76) (ci := 11) hF dX11_takes_76 (by omega) rfl rfl rfl iX11 35 (by decide) w_1282 rfl ?_
              rw [show υ 155 35 = W from zw35_υ]
              refine y_icmp_ge (pc := 79) hF dX11_takes_79 135 rfl (by omega) (by omega) (fun zc79 => ?_) (fun zc79 => ?_)
              · skip
                refine y_iinc (pc := 135) (lv' := [(0, yR g 155), (1, yI (y + 1)), (2, yI x)]) hF dX11_takes_135 1 rfl (by decide) rfl rfl ?_
                refine y_goto (pc := 138) hF dX11_takes_138 64 rfl ?_
                refine y_sub [0, 1] rfl ?_
                exact zh64 _ (by omega) υ (y + 1) rfl ⟨zI74.1, by omega, fun a b h1 h2 h3 h4 => zI74.2.2 a b h1 h2 h3 (by omega)⟩
              · skip
                have zrd : υ 168 (20 * y + x) = M x y := by rw [zI74.1 168 (by omega), z168]; exact (hM x y (by omega) (by omega) (by omega) (by omega)).1
                have zmr := (hM x y (by omega) (by omega) (by omega) (by omega)).2
                refine y_aload_n (pc := 82) hF dX11_takes_82 0 rfl ?_
                refine y_get (pc := 83) (ci := 11) hF dX11_takes_83 (by omega) rfl rfl rfl iX11 28 (by decide) w_1275 rfl ?_
                refine y_iload_n (pc := 86) hF dX11_takes_86 2 rfl ?_
                refine y_iload_n (pc := 87) hF dX11_takes_87 1 rfl ?_
                have zz88 := y_rS (pc := 88) (As := [yI x, yI y]) (kk := 0) hF (tX11_at (n := n) (σ := υ) x y) dX11_takes_88 w_1236 qX11_at rfl ⟨Nat.le_of_ble_eq_true rfl, Nat.le_of_ble_eq_true rfl⟩ ⟨Nat.zero_le _, Nat.zero_le _⟩ (Nat.le_of_ble_eq_true rfl) rfl (rest := [yR g 168]) (cells := 0) (slots := 0) (lv := [(0, yR g 155), (1, yI y), (2, yI x)])
                refine y_cp (zz88) ?_
                refine y_iaload (pc := 91) hF dX11_takes_91 (by omega) rfl ⟨by omega, by show _ < (400 : Int); omega⟩ (by decide) ?_
                rw [show υ 168 (20 * y + x) = M x y from zrd]
                refine y_iconst (pc := 92) hF dX11_takes_92 ?_
                refine y_icmp_ne (pc := 93) hF dX11_takes_93 109 rfl (by omega) (by omega) (fun zc93 => ?_) (fun zc93 => ?_)
                · skip
                  skip
                  refine y_aload_n (pc := 109) hF dX11_takes_109 0 rfl ?_
                  refine y_iconst (pc := 110) hF dX11_takes_110 ?_
                  refine y_iload_n (pc := 111) hF dX11_takes_111 2 rfl ?_
                  refine y_iload_n (pc := 112) hF dX11_takes_112 1 rfl ?_
                  have zz113 := y_rS (pc := 113) (As := [yI x, yI y]) (kk := 0) hF (tX11_at (n := n) (σ := υ) x y) dX11_takes_113 w_1236 qX11_at rfl ⟨Nat.le_of_ble_eq_true rfl, Nat.le_of_ble_eq_true rfl⟩ ⟨Nat.zero_le _, Nat.zero_le _⟩ (Nat.le_of_ble_eq_true rfl) rfl (rest := [yI 0, yR g 155]) (cells := 0) (slots := 0) (lv := [(0, yR g 155), (1, yI y), (2, yI x)])
                  refine y_cp (zz113) ?_
                  refine y_aload_n (pc := 116) hF dX11_takes_116 0 rfl ?_
                  refine y_get (pc := 117) (ci := 11) hF dX11_takes_117 (by omega) rfl rfl rfl iX11 28 (by decide) w_1275 rfl ?_
                  refine y_iload_n (pc := 120) hF dX11_takes_120 2 rfl ?_
                  refine y_iload_n (pc := 121) hF dX11_takes_121 1 rfl ?_
                  have zz122 := y_rS (pc := 122) (As := [yI x, yI y]) (kk := 0) hF (tX11_at (n := n) (σ := υ) x y) dX11_takes_122 w_1236 qX11_at rfl ⟨Nat.le_of_ble_eq_true rfl, Nat.le_of_ble_eq_true rfl⟩ ⟨Nat.zero_le _, Nat.zero_le _⟩ (Nat.le_of_ble_eq_true rfl) rfl (rest := [yR g 168, yI (20 * y + x), yI 0, yR g 155]) (cells := 0) (slots := 0) (lv := [(0, yR g 155), (1, yI y), (2, yI x)])
                  refine y_cp (zz122) ?_
                  refine y_iaload (pc := 125) hF dX11_takes_125 (by omega) rfl ⟨by omega, by show _ < (400 : Int); omega⟩ (by decide) ?_
                  rw [show υ 168 (20 * y + x) = M x y from zrd]
                  refine y_cv (y_rV (pc := 126) hF (tX11_known 0 hn (by omega) (20 * y + x) (M x y) (by omega)) dX11_takes_126 (by omega) rfl rfl rfl w_1239 qX11_known rfl ⟨Nat.le_of_ble_eq_true rfl, Nat.le_of_ble_eq_true rfl⟩ ⟨Nat.zero_le _, Nat.zero_le _⟩ (Nat.le_of_ble_eq_true rfl) rfl) rfl rfl (fun n' σ' zp126 => ?_)
                  obtain ⟨zn126, rfl⟩ := zp126
                  have zn126 := zn126.symm
                  subst zn126
                  obtain ⟨υ2, hυ2⟩ : ∃ s, s = mkn υ 0 (20 * y + x) (M x y) := ⟨_, rfl⟩
                  rw [← hυ2]
                  refine y_iinc (pc := 129) (lv' := [(0, yR g 155), (1, yI y), (2, yI (x + 1))]) hF dX11_takes_129 2 rfl (by decide) rfl rfl ?_
                  refine y_goto (pc := 132) hF dX11_takes_132 74 rfl ?_
                  exact zh74 _ (by omega) υ2 (x + 1) rfl ⟨fun c hc => by rw [hυ2, mkn_c (by omega)]; exact zI74.1 c hc, by omega, pT_kn zI74.2.2 (by omega) (by omega) (by omega) zc93 hυ2⟩
                · skip
                  skip
                  refine y_aload_n (pc := 96) hF dX11_takes_96 0 rfl ?_
                  refine y_iconst (pc := 97) hF dX11_takes_97 ?_
                  refine y_iload_n (pc := 98) hF dX11_takes_98 2 rfl ?_
                  refine y_iload_n (pc := 99) hF dX11_takes_99 1 rfl ?_
                  have zz100 := y_rS (pc := 100) (As := [yI x, yI y]) (kk := 0) hF (tX11_at (n := n) (σ := υ) x y) dX11_takes_100 w_1236 qX11_at rfl ⟨Nat.le_of_ble_eq_true rfl, Nat.le_of_ble_eq_true rfl⟩ ⟨Nat.zero_le _, Nat.zero_le _⟩ (Nat.le_of_ble_eq_true rfl) rfl (rest := [yI 0, yR g 155]) (cells := 0) (slots := 0) (lv := [(0, yR g 155), (1, yI y), (2, yI x)])
                  refine y_cp (zz100) ?_
                  refine y_cv (y_rV (pc := 103) hF (tX11_missing 0 hn (by omega) (20 * y + x) (by omega)) dX11_takes_103 (by omega) rfl rfl rfl w_1428 qX11_missing rfl ⟨Nat.le_of_ble_eq_true rfl, Nat.le_of_ble_eq_true rfl⟩ ⟨Nat.zero_le _, Nat.zero_le _⟩ (Nat.le_of_ble_eq_true rfl) rfl) rfl rfl (fun n' σ' zp103 => ?_)
                  obtain ⟨zn103, rfl⟩ := zp103
                  have zn103 := zn103.symm
                  subst zn103
                  obtain ⟨υ2, hυ2⟩ : ∃ s, s = mms υ 0 (20 * y + x) := ⟨_, rfl⟩
                  rw [← hυ2]
                  refine y_goto (pc := 106) hF dX11_takes_106 129 rfl ?_
                  refine y_iinc (pc := 129) (lv' := [(0, yR g 155), (1, yI y), (2, yI (x + 1))]) hF dX11_takes_129 2 rfl (by decide) rfl rfl ?_
                  refine y_goto (pc := 132) hF dX11_takes_132 74 rfl ?_
                  exact zh74 _ (by omega) υ2 (x + 1) rfl ⟨fun c hc => by rw [hυ2, mms_c (by omega)]; exact zI74.1 c hc, by omega, pT_ms zI74.2.2 (by omega) (by omega) (by omega) zc93 hυ2⟩
          exact zL74 _ τ (0) rfl ⟨zI64.1, by omega, zI64.2.2⟩
    exact zL64 _ κ (0) rfl ⟨fun _ _ => rfl, by omega, fun a b h1 h2 h3 h4 => by omega⟩
  refine y_aload_n (pc := 0) hF dX11_takes_0 0 rfl ?_
  refine y_aload_n (pc := 1) hF dX11_takes_1 0 rfl ?_
  refine y_get (pc := 2) (ci := 11) hF dX11_takes_2 (by omega) rfl rfl rfl iX11 9 (by decide) w_1256 rfl ?_
  rw [show σ 155 9 = bi ht from e9]
  refine y_if_eq (pc := 5) hF dX11_takes_5 38 rfl bi_r (fun zc5 => ?_) (fun zc5 => ?_)
  · replace zc5 := bi_0.mp zc5
    refine y_iconst (pc := 38) hF dX11_takes_38 ?_
    exact zJ39 false (by rw [zc5]; rfl)
  · replace zc5 := bi_n0.mp zc5
    refine y_aload_n (pc := 8) hF dX11_takes_8 0 rfl ?_
    refine y_get (pc := 9) (ci := 11) hF dX11_takes_9 (by omega) rfl rfl rfl iX11 3 (by decide) w_1250 rfl ?_
    refine y_iconst (pc := 12) hF dX11_takes_12 ?_
    refine y_iaload (pc := 13) hF dX11_takes_13 (by omega) rfl (by omega) (by decide) ?_
    rw [show σ 161 0 = w0 from e161]
    refine y_aload_n (pc := 14) hF dX11_takes_14 0 rfl ?_
    refine y_get (pc := 15) (ci := 11) hF dX11_takes_15 (by omega) rfl rfl rfl iX11 35 (by decide) w_1282 rfl ?_
    rw [show σ 155 35 = W from hQ.2.2.2.2.1]
    refine y_icmp_ne (pc := 18) hF dX11_takes_18 38 rfl (by omega) (by omega) (fun zc18 => ?_) (fun zc18 => ?_)
    · skip
      refine y_iconst (pc := 38) hF dX11_takes_38 ?_
      exact zJ39 false (by rw [show decide (W = w0) = false from decide_eq_false (by omega), Bool.and_false, Bool.false_and])
    · skip
      refine y_aload_n (pc := 21) hF dX11_takes_21 0 rfl ?_
      refine y_get (pc := 22) (ci := 11) hF dX11_takes_22 (by omega) rfl rfl rfl iX11 4 (by decide) w_1251 rfl ?_
      refine y_iconst (pc := 25) hF dX11_takes_25 ?_
      refine y_iaload (pc := 26) hF dX11_takes_26 (by omega) rfl (by omega) (by decide) ?_
      rw [show σ 162 0 = h0 from e162]
      refine y_aload_n (pc := 27) hF dX11_takes_27 0 rfl ?_
      refine y_get (pc := 28) (ci := 11) hF dX11_takes_28 (by omega) rfl rfl rfl iX11 36 (by decide) w_1283 rfl ?_
      rw [show σ 155 36 = Hh from hQ.2.2.2.2.2.1]
      refine y_icmp_ne (pc := 31) hF dX11_takes_31 38 rfl (by omega) (by omega) (fun zc31 => ?_) (fun zc31 => ?_)
      · skip
        refine y_iconst (pc := 38) hF dX11_takes_38 ?_
        exact zJ39 false (by rw [show decide (Hh = h0) = false from decide_eq_false (by omega), Bool.and_false])
      · skip
        refine y_iconst (pc := 34) hF dX11_takes_34 ?_
        refine y_goto (pc := 35) hF dX11_takes_35 39 rfl ?_
        exact zJ39 true (by rw [zc5, show decide (W = w0) = true from decide_eq_true (by omega), show decide (Hh = h0) = true from decide_eq_true (by omega)]; rfl)

theorem dX11_text_0 : decode cX11_text 0 = .ok (.aload_n 0, 1) := by decide +kernel
theorem dX11_text_1 : decode cX11_text 1 = .ok (.iconst 0, 1) := by decide +kernel
theorem dX11_text_2 : decode cX11_text 2 = .ok (.putfield 1, 3) := by decide +kernel
theorem dX11_text_5 : decode cX11_text 5 = .ok (.aload_n 0, 1) := by decide +kernel
theorem dX11_text_6 : decode cX11_text 6 = .ok (.iload_n 1, 1) := by decide +kernel
theorem dX11_text_7 : decode cX11_text 7 = .ok (.iconst 0, 1) := by decide +kernel
theorem dX11_text_8 : decode cX11_text 8 = .ok (.aload_n 0, 1) := by decide +kernel
theorem dX11_text_9 : decode cX11_text 9 = .ok (.getfield 239, 3) := by decide +kernel
theorem dX11_text_12 : decode cX11_text 12 = .ok (.invokestatic 68, 3) := by decide +kernel
theorem dX11_text_15 : decode cX11_text 15 = .ok (.iconst 1, 1) := by decide +kernel
theorem dX11_text_16 : decode cX11_text 16 = .ok (.iconst 1, 1) := by decide +kernel
theorem dX11_text_17 : decode cX11_text 17 = .ok (.invokevirtual 284, 3) := by decide +kernel
theorem dX11_text_20 : decode cX11_text 20 = .ok (.ifCond .ne 5, 3) := by decide +kernel
theorem dX11_text_23 : decode cX11_text 23 = .ok (.iconst 0, 1) := by decide +kernel
theorem dX11_text_24 : decode cX11_text 24 = .ok (.ireturn, 1) := by decide +kernel
theorem dX11_text_25 : decode cX11_text 25 = .ok (.aload_n 0, 1) := by decide +kernel
theorem dX11_text_26 : decode cX11_text 26 = .ok (.iload_n 1, 1) := by decide +kernel
theorem dX11_text_27 : decode cX11_text 27 = .ok (.putfield 255, 3) := by decide +kernel
theorem dX11_text_30 : decode cX11_text 30 = .ok (.aload_n 0, 1) := by decide +kernel
theorem dX11_text_31 : decode cX11_text 31 = .ok (.iconst 0, 1) := by decide +kernel
theorem dX11_text_32 : decode cX11_text 32 = .ok (.putfield 252, 3) := by decide +kernel
theorem dX11_text_35 : decode cX11_text 35 = .ok (.aload_n 0, 1) := by decide +kernel
theorem dX11_text_36 : decode cX11_text 36 = .ok (.iconst 0, 1) := by decide +kernel
theorem dX11_text_37 : decode cX11_text 37 = .ok (.putfield 246, 3) := by decide +kernel
theorem dX11_text_40 : decode cX11_text 40 = .ok (.aload_n 0, 1) := by decide +kernel
theorem dX11_text_41 : decode cX11_text 41 = .ok (.iconst 0, 1) := by decide +kernel
theorem dX11_text_42 : decode cX11_text 42 = .ok (.putfield 269, 3) := by decide +kernel
theorem dX11_text_45 : decode cX11_text 45 = .ok (.aload_n 0, 1) := by decide +kernel
theorem dX11_text_46 : decode cX11_text 46 = .ok (.iconst 0, 1) := by decide +kernel
theorem dX11_text_47 : decode cX11_text 47 = .ok (.putfield 272, 3) := by decide +kernel
theorem dX11_text_50 : decode cX11_text 50 = .ok (.aload_n 0, 1) := by decide +kernel
theorem dX11_text_51 : decode cX11_text 51 = .ok (.iconst 0, 1) := by decide +kernel
theorem dX11_text_52 : decode cX11_text 52 = .ok (.putfield 239, 3) := by decide +kernel
theorem dX11_text_55 : decode cX11_text 55 = .ok (.aload_n 0, 1) := by decide +kernel
theorem dX11_text_56 : decode cX11_text 56 = .ok (.invokevirtual 288, 3) := by decide +kernel
theorem dX11_text_59 : decode cX11_text 59 = .ok (.aload_n 0, 1) := by decide +kernel
theorem dX11_text_60 : decode cX11_text 60 = .ok (.getfield 246, 3) := by decide +kernel
theorem dX11_text_63 : decode cX11_text 63 = .ok (.ifCond .ne 56, 3) := by decide +kernel
theorem dX11_text_66 : decode cX11_text 66 = .ok (.aload_n 0, 1) := by decide +kernel
theorem dX11_text_67 : decode cX11_text 67 = .ok (.getfield 252, 3) := by decide +kernel
theorem dX11_text_70 : decode cX11_text 70 = .ok (.aload_n 0, 1) := by decide +kernel
theorem dX11_text_71 : decode cX11_text 71 = .ok (.getfield 255, 3) := by decide +kernel
theorem dX11_text_74 : decode cX11_text 74 = .ok (.if_icmp .ge 45, 3) := by decide +kernel
theorem dX11_text_77 : decode cX11_text 77 = .ok (.aload_n 0, 1) := by decide +kernel
theorem dX11_text_78 : decode cX11_text 78 = .ok (.getfield 269, 3) := by decide +kernel
theorem dX11_text_81 : decode cX11_text 81 = .ok (.bipush 20, 2) := by decide +kernel
theorem dX11_text_83 : decode cX11_text 83 = .ok (.if_icmp .ne 12, 3) := by decide +kernel
theorem dX11_text_86 : decode cX11_text 86 = .ok (.aload_n 0, 1) := by decide +kernel
theorem dX11_text_87 : decode cX11_text 87 = .ok (.iconst 3, 1) := by decide +kernel
theorem dX11_text_88 : decode cX11_text 88 = .ok (.aload_n 0, 1) := by decide +kernel
theorem dX11_text_89 : decode cX11_text 89 = .ok (.getfield 252, 3) := by decide +kernel
theorem dX11_text_92 : decode cX11_text 92 = .ok (.invokevirtual 266, 3) := by decide +kernel
theorem dX11_text_95 : decode cX11_text 95 = .ok (.aload_n 0, 1) := by decide +kernel
theorem dX11_text_96 : decode cX11_text 96 = .ok (.dup, 1) := by decide +kernel
theorem dX11_text_97 : decode cX11_text 97 = .ok (.getfield 252, 3) := by decide +kernel
theorem dX11_text_100 : decode cX11_text 100 = .ok (.iconst 1, 1) := by decide +kernel
theorem dX11_text_101 : decode cX11_text 101 = .ok (.iadd, 1) := by decide +kernel
theorem dX11_text_102 : decode cX11_text 102 = .ok (.putfield 252, 3) := by decide +kernel
theorem dX11_text_105 : decode cX11_text 105 = .ok (.aload_n 0, 1) := by decide +kernel
theorem dX11_text_106 : decode cX11_text 106 = .ok (.getfield 246, 3) := by decide +kernel
theorem dX11_text_109 : decode cX11_text 109 = .ok (.ifCond .ne (-50), 3) := by decide +kernel
theorem dX11_text_112 : decode cX11_text 112 = .ok (.aload_n 0, 1) := by decide +kernel
theorem dX11_text_113 : decode cX11_text 113 = .ok (.invokevirtual 288, 3) := by decide +kernel
theorem dX11_text_116 : decode cX11_text 116 = .ok (.goto (-57), 3) := by decide +kernel
theorem dX11_text_119 : decode cX11_text 119 = .ok (.aload_n 0, 1) := by decide +kernel
theorem dX11_text_120 : decode cX11_text 120 = .ok (.getfield 246, 3) := by decide +kernel
theorem dX11_text_123 : decode cX11_text 123 = .ok (.ifCond .ne 20, 3) := by decide +kernel
theorem dX11_text_126 : decode cX11_text 126 = .ok (.aload_n 0, 1) := by decide +kernel
theorem dX11_text_127 : decode cX11_text 127 = .ok (.getfield 269, 3) := by decide +kernel
theorem dX11_text_130 : decode cX11_text 130 = .ok (.iconst 3, 1) := by decide +kernel
theorem dX11_text_131 : decode cX11_text 131 = .ok (.if_icmp .ge 12, 3) := by decide +kernel
theorem dX11_text_134 : decode cX11_text 134 = .ok (.aload_n 0, 1) := by decide +kernel
theorem dX11_text_135 : decode cX11_text 135 = .ok (.iconst 5, 1) := by decide +kernel
theorem dX11_text_136 : decode cX11_text 136 = .ok (.aload_n 0, 1) := by decide +kernel
theorem dX11_text_137 : decode cX11_text 137 = .ok (.getfield 255, 3) := by decide +kernel
theorem dX11_text_140 : decode cX11_text 140 = .ok (.invokevirtual 266, 3) := by decide +kernel
theorem dX11_text_143 : decode cX11_text 143 = .ok (.aload_n 0, 1) := by decide +kernel
theorem dX11_text_144 : decode cX11_text 144 = .ok (.aload_n 0, 1) := by decide +kernel
theorem dX11_text_145 : decode cX11_text 145 = .ok (.getfield 246, 3) := by decide +kernel
theorem dX11_text_148 : decode cX11_text 148 = .ok (.ifCond .le 10, 3) := by decide +kernel
theorem dX11_text_151 : decode cX11_text 151 = .ok (.aload_n 0, 1) := by decide +kernel
theorem dX11_text_152 : decode cX11_text 152 = .ok (.getfield 249, 3) := by decide +kernel
theorem dX11_text_155 : decode cX11_text 155 = .ok (.goto 4, 3) := by decide +kernel
theorem dX11_text_158 : decode cX11_text 158 = .ok (.iconst (-1), 1) := by decide +kernel
theorem dX11_text_159 : decode cX11_text 159 = .ok (.putfield 47, 3) := by decide +kernel
theorem dX11_text_162 : decode cX11_text 162 = .ok (.aload_n 0, 1) := by decide +kernel
theorem dX11_text_163 : decode cX11_text 163 = .ok (.getfield 246, 3) := by decide +kernel
theorem dX11_text_166 : decode cX11_text 166 = .ok (.ifCond .le 11, 3) := by decide +kernel
theorem dX11_text_169 : decode cX11_text 169 = .ok (.aload_n 0, 1) := by decide +kernel
theorem dX11_text_170 : decode cX11_text 170 = .ok (.getfield 246, 3) := by decide +kernel
theorem dX11_text_173 : decode cX11_text 173 = .ok (.bipush 10, 2) := by decide +kernel
theorem dX11_text_175 : decode cX11_text 175 = .ok (.isub, 1) := by decide +kernel
theorem dX11_text_176 : decode cX11_text 176 = .ok (.ireturn, 1) := by decide +kernel
theorem dX11_text_177 : decode cX11_text 177 = .ok (.aload_n 0, 1) := by decide +kernel
theorem dX11_text_178 : decode cX11_text 178 = .ok (.invokevirtual 291, 3) := by decide +kernel
theorem dX11_text_181 : decode cX11_text 181 = .ok (.aload_n 0, 1) := by decide +kernel
theorem dX11_text_182 : decode cX11_text 182 = .ok (.invokevirtual 294, 3) := by decide +kernel
theorem dX11_text_185 : decode cX11_text 185 = .ok (.ireturn, 1) := by decide +kernel
set_option maxHeartbeats 4000000 in
set_option maxRecDepth 100000 in
theorem tX11_text {l : Launch} {g : yG} {n : Nat} {σ : yM} (hn : 172 ≤ n) (w h : Int) (T S F P O : Int → Int → Int) (nf df nl : Int) (lg : Int → Int → Int) (s re fo ra tu we sh : Int) (H : List aX) (ht : Bool) (K : Int → Int → Int) (tl : Int) (tb : Int → Int) (fa r1 r2 N : Int) (hV : mV σ (w, h, (T, S, F, P, O, nf, df, nl, lg), (s, re, fo, ra, tu, we, sh), H, ht, K, tl, tb, fa, r1, r2)) (hW : aW N (w, h, (T, S, F, P, O, nf, df, nl, lg), (s, re, fo, ra, tu, we, sh), H, ht, K, tl, tb, fa, r1, r2)) (a : Int) (ha : -2147483648 ≤ a ∧ a < 2147483648) : yMet l g yX11_text cX11_text 2 (some .int) (rmL 7) [yR g 155, yI a] (SC g) n σ (SC g) (yPi (fun zv n' σ' => n ≤ n' ∧ (((0 ≤ a ∧ a ≤ tl) ∧ zv = txV (txP tb a) ∧ mO σ σ' (if (txP tb a).1 = 0 then ((txP tb a).2.2.1, (txP tb a).2.2.2.1, txX (txP tb a).2.2.2.2, (s, re, fo, ra, tu, we, sh), [], (ht && decide ((txP tb a).2.2.1 = w) && decide ((txP tb a).2.2.2.1 = h)), K, 0, tb, (txP tb a).2.1, r1, r2) else (w, h, (T, S, F, P, O, nf, df, nl, lg), (s, re, fo, ra, tu, we, sh), H, ht, K, 0, tb, (txP tb a).2.1, r1, r2)) 0) ∨ (¬ (0 ≤ a ∧ a ≤ tl) ∧ mO σ σ' (bA (w, h, (T, S, F, P, O, nf, df, nl, lg), (s, re, fo, ra, tu, we, sh), H, ht, K, tl, tb, fa, r1, r2)) 1)))) := by
  obtain ⟨⟨hA, hL⟩, hS, hH, ⟨hb1, hb2⟩, ⟨ht1, ht2⟩, hfa, hr1, hr2⟩ := id hV
  obtain ⟨hw1, hw2, hw3, hw4⟩ := id hA.1.1
  obtain ⟨hs1, hs2, hs3, hs4, hs5, hs6, hs7⟩ := id hS.2
  have hz : (0 : Nat) < 3 := by omega
  have ztl := hW.2.2.2.1
  have htb := hW.2.2.2.2.1
  refine y_start (by decide) (Nat.le_of_ble_eq_true rfl) (fun X0 hF => ?_)
  show yV X0 g 2 (yQ X0 g (SC g) (yPi (fun zv n' σ' => n ≤ n' ∧ (((0 ≤ a ∧ a ≤ tl) ∧ zv = txV (txP tb a) ∧ mO σ σ' (if (txP tb a).1 = 0 then ((txP tb a).2.2.1, (txP tb a).2.2.2.1, txX (txP tb a).2.2.2.2, (s, re, fo, ra, tu, we, sh), [], (ht && decide ((txP tb a).2.2.1 = w) && decide ((txP tb a).2.2.2.1 = h)), K, 0, tb, (txP tb a).2.1, r1, r2) else (w, h, (T, S, F, P, O, nf, df, nl, lg), (s, re, fo, ra, tu, we, sh), H, ht, K, 0, tb, (txP tb a).2.1, r1, r2)) 0) ∨ (¬ (0 ≤ a ∧ a ≤ tl) ∧ mO σ σ' (bA (w, h, (T, S, F, P, O, nf, df, nl, lg), (s, re, fo, ra, tu, we, sh), H, ht, K, tl, tb, fa, r1, r2)) 1)))) (rmL 7)) (SC g) n σ 0 0 0 [(0, yR g 155), (1, yI a)] []
  refine y_aload_n (pc := 0) hF dX11_text_0 0 rfl ?_
  refine y_iconst (pc := 1) hF dX11_text_1 ?_
  refine y_putf (pc := 2) (ci := 11) (σ' := yset σ 155 0 0) (sch' := (SC g)) hF dX11_text_2 (by omega) rfl rfl rfl iX11 0 (by decide) w_1247 tyX11 tyX11_ok nmX11 rfl rfl rfl rfl (Nat.le_of_ble_eq_true rfl) rfl (y_ps rfl) (fun k' h => ⟨yset_n h, rfl⟩) ?_
  obtain ⟨σ0, hσ0⟩ : ∃ s, s = yset σ 155 0 0 := ⟨_, rfl⟩
  rw [← hσ0]
  have zO_σ0 := hV.t0 hσ0
  obtain ⟨⟨zA_σ0, zL_σ0⟩, zS_σ0, zH_σ0, ⟨zb1_σ0, zb2_σ0⟩, ⟨zt1_σ0, zt2_σ0⟩, zfa_σ0, zr1_σ0, zr2_σ0⟩ := id zO_σ0.2.2
  refine y_aload_n (pc := 5) hF dX11_text_5 0 rfl ?_
  refine y_iload_n (pc := 6) hF dX11_text_6 1 rfl ?_
  refine y_iconst (pc := 7) hF dX11_text_7 ?_
  refine y_aload_n (pc := 8) hF dX11_text_8 0 rfl ?_
  refine y_get (pc := 9) (ci := 11) hF dX11_text_9 (by omega) rfl rfl rfl iX11 29 (by decide) w_1276 rfl ?_
  rw [show σ0 155 29 = tl from zt1_σ0]
  have zz12 := y_rS (pc := 12) (As := [yI a, yI 0, yI tl]) (kk := 0) hF (tX11_within (n := n) (σ := σ0) a 0 tl (by omega) (by omega) (by omega)) dX11_text_12 w_1392 qX11_within rfl ⟨Nat.le_of_ble_eq_true rfl, Nat.le_of_ble_eq_true rfl⟩ ⟨Nat.zero_le _, Nat.zero_le _⟩ (Nat.le_of_ble_eq_true rfl) rfl (rest := [yR g 155]) (cells := 0) (slots := 0) (lv := [(0, yR g 155), (1, yI a)])
  refine y_cp (zz12) ?_
  refine y_iconst (pc := 15) hF dX11_text_15 ?_
  refine y_iconst (pc := 16) hF dX11_text_16 ?_
  refine y_ci (y_rV (pc := 17) hF (tX11_isFine hn zO_σ0.2.1 (decide (0 ≤ a) && decide (a ≤ tl)) 1 1 (by decide) (by decide)) dX11_text_17 (by omega) rfl rfl rfl w_1395 qX11_isFine rfl ⟨Nat.le_of_ble_eq_true rfl, Nat.le_of_ble_eq_true rfl⟩ ⟨Nat.zero_le _, Nat.zero_le _⟩ (Nat.le_of_ble_eq_true rfl) rfl) rfl rfl (fun r17 n' σ17 zp17 => ?_)
  obtain ⟨zn17, zp17⟩ := zp17
  have zn17 := zn17.symm
  subst zn17
  rcases zp17 with ⟨zb17, zv17, zs17⟩ | ⟨zb17, zv17, zs17⟩
  · subst zv17; have zs17 := zs17.symm; subst zs17
    refine y_if_ne (pc := 20) hF dX11_text_20 25 rfl (by decide) (fun _ => ?_) (fun zc20 => absurd zc20 (by decide))
    simp at zb17
    obtain ⟨R_, hRr⟩ : ∃ r, r = txP tb a := ⟨_, rfl⟩
    obtain ⟨rf, rfp, rW, rH, rM_⟩ := R_
    have zrr := txP_r htb (e := a) (by omega)
    refine y_aload_n (pc := 25) hF dX11_text_25 0 rfl ?_
    refine y_iload_n (pc := 26) hF dX11_text_26 1 rfl ?_
    refine y_putf (pc := 27) (ci := 11) (σ' := yset σ0 155 31 a) (sch' := (SC g)) hF dX11_text_27 (by omega) rfl rfl rfl iX11 31 (by decide) w_1278 tyX11 tyX11_ok nmX11 rfl rfl rfl rfl (Nat.le_of_ble_eq_true rfl) rfl (y_ps rfl) (fun k' h => ⟨yset_n h, rfl⟩) ?_
    refine y_aload_n (pc := 30) hF dX11_text_30 0 rfl ?_
    refine y_iconst (pc := 31) hF dX11_text_31 ?_
    refine y_putf (pc := 32) (ci := 11) (σ' := yset (yset σ0 155 31 a) 155 32 0) (sch' := (SC g)) hF dX11_text_32 (by omega) rfl rfl rfl iX11 32 (by decide) w_1279 tyX11 tyX11_ok nmX11 rfl rfl rfl rfl (Nat.le_of_ble_eq_true rfl) rfl (y_ps rfl) (fun k' h => ⟨yset_n h, rfl⟩) ?_
    refine y_aload_n (pc := 35) hF dX11_text_35 0 rfl ?_
    refine y_iconst (pc := 36) hF dX11_text_36 ?_
    refine y_putf (pc := 37) (ci := 11) (σ' := yset (yset (yset σ0 155 31 a) 155 32 0) 155 33 0) (sch' := (SC g)) hF dX11_text_37 (by omega) rfl rfl rfl iX11 33 (by decide) w_1280 tyX11 tyX11_ok nmX11 rfl rfl rfl rfl (Nat.le_of_ble_eq_true rfl) rfl (y_ps rfl) (fun k' h => ⟨yset_n h, rfl⟩) ?_
    refine y_aload_n (pc := 40) hF dX11_text_40 0 rfl ?_
    refine y_iconst (pc := 41) hF dX11_text_41 ?_
    refine y_putf (pc := 42) (ci := 11) (σ' := yset (yset (yset (yset σ0 155 31 a) 155 32 0) 155 33 0) 155 36 0) (sch' := (SC g)) hF dX11_text_42 (by omega) rfl rfl rfl iX11 36 (by decide) w_1283 tyX11 tyX11_ok nmX11 rfl rfl rfl rfl (Nat.le_of_ble_eq_true rfl) rfl (y_ps rfl) (fun k' h => ⟨yset_n h, rfl⟩) ?_
    refine y_aload_n (pc := 45) hF dX11_text_45 0 rfl ?_
    refine y_iconst (pc := 46) hF dX11_text_46 ?_
    refine y_putf (pc := 47) (ci := 11) (σ' := yset (yset (yset (yset (yset σ0 155 31 a) 155 32 0) 155 33 0) 155 36 0) 155 35 0) (sch' := (SC g)) hF dX11_text_47 (by omega) rfl rfl rfl iX11 35 (by decide) w_1282 tyX11 tyX11_ok nmX11 rfl rfl rfl rfl (Nat.le_of_ble_eq_true rfl) rfl (y_ps rfl) (fun k' h => ⟨yset_n h, rfl⟩) ?_
    refine y_aload_n (pc := 50) hF dX11_text_50 0 rfl ?_
    refine y_iconst (pc := 51) hF dX11_text_51 ?_
    refine y_putf (pc := 52) (ci := 11) (σ' := yset (yset (yset (yset (yset (yset σ0 155 31 a) 155 32 0) 155 33 0) 155 36 0) 155 35 0) 155 29 0) (sch' := (SC g)) hF dX11_text_52 (by omega) rfl rfl rfl iX11 29 (by decide) w_1276 tyX11 tyX11_ok nmX11 rfl rfl rfl rfl (Nat.le_of_ble_eq_true rfl) rfl (y_ps rfl) (fun k' h => ⟨yset_n h, rfl⟩) ?_
    obtain ⟨τ0, hτ0⟩ : ∃ s, s = yset (yset (yset (yset (yset (yset σ0 155 31 a) 155 32 0) 155 33 0) 155 36 0) 155 35 0) 155 29 0 := ⟨_, rfl⟩
    rw [← hτ0]
    have zeτ : ∀ c : Nat, c ≠ 155 → τ0 c = σ0 c := fun c a => by rw [hτ0]; repeat rw [yset_n a]
    have ze5 : ∀ j : Int, (j < 29 ∨ j = 30 ∨ 37 < j) → τ0 155 j = σ0 155 j := fun j b => by rw [hτ0]; repeat rw [yset_o (by omega)]
    have zQ_τ0 : mTq τ0 tb a 0 0 (-1) 0 0 (τ0 155 37) := by refine ⟨?_, ?_, ?_, fun zz => absurd rfl zz, ?_, ?_, rfl, fun j b d => ?_⟩ <;> (try (rw [hτ0]; simp [yset_ap]; done)); rw [zeτ 167 (by omega)]; exact zt2_σ0 j b (by omega)
    have z29 : τ0 155 29 = 0 := by rw [hτ0]; simp [yset_ap]
    refine y_aload_n (pc := 55) hF dX11_text_55 0 rfl ?_
    refine y_cv (y_rV (pc := 56) hF (tX11_oneRow hn tb a 0 (-1) 0 0 (τ0 155 37) zQ_τ0.f0 (by omega) hW.2.2.2.2.1 (by omega) (by omega)) dX11_text_56 (by omega) rfl rfl rfl w_1399 qX11_oneRow rfl ⟨Nat.le_of_ble_eq_true rfl, Nat.le_of_ble_eq_true rfl⟩ ⟨Nat.zero_le _, Nat.zero_le _⟩ (Nat.le_of_ble_eq_true rfl) rfl) rfl rfl (fun n' σ56 zp56 => ?_)
    obtain ⟨zn56, zp56⟩ := zp56
    have zn56 := zn56.symm
    subst zn56
    obtain ⟨E56_, hE56⟩ : ∃ r, r = rwE tb a 0 0 0 (-1) := ⟨_, rfl⟩
    obtain ⟨f56, fp56, p56, c56, m56⟩ := E56_
    rw [← hE56] at zp56
    have zrw56 := tx_row (R := (rf, rfp, rW, rH, rM_)) (show (rf, rfp, rW, rH, rM_) = txR tb a (20 - 0 : Int).toNat 0 0 0 (fun _ _ => 0) from hRr) (by omega) hE56
    have zeb56 := rwE_bd htb (y := 0) (W := 0) (p := 0) (fp := -1) (by omega) (by omega) (by unfold rwMo; split <;> omega) hE56
    have zL59 : ∀ (N : Nat) (τ : yM) (y f fp p W c : Int) (M : Int → Int → Int), N = (10 * (21 - y) - f).toNat → (mTq τ tb a p f fp W y c ∧ gT τ0 τ ∧ (1 ≤ y ∧ y ≤ 20) ∧ ((0 ≤ f ∧ f ≤ 5) ∧ (0 ≤ p ∧ p ≤ a)) ∧ ((f ≠ 0 ∧ rf = f ∧ rfp = fp) ∨ (f = 0 ∧ (3 ≤ W ∧ W ≤ 20) ∧ tM τ y W M ∧ tx4 (rf, rfp, rW, rH, rM_) tb a y p W M))) → yV X0 g 2 (yQ X0 g (SC g) (yPi (fun zv n' σ' => n ≤ n' ∧ (((0 ≤ a ∧ a ≤ tl) ∧ zv = txV (txP tb a) ∧ mO σ σ' (if (txP tb a).1 = 0 then ((txP tb a).2.2.1, (txP tb a).2.2.2.1, txX (txP tb a).2.2.2.2, (s, re, fo, ra, tu, we, sh), [], (ht && decide ((txP tb a).2.2.1 = w) && decide ((txP tb a).2.2.2.1 = h)), K, 0, tb, (txP tb a).2.1, r1, r2) else (w, h, (T, S, F, P, O, nf, df, nl, lg), (s, re, fo, ra, tu, we, sh), H, ht, K, 0, tb, (txP tb a).2.1, r1, r2)) 0) ∨ (¬ (0 ≤ a ∧ a ≤ tl) ∧ mO σ σ' (bA (w, h, (T, S, F, P, O, nf, df, nl, lg), (s, re, fo, ra, tu, we, sh), H, ht, K, tl, tb, fa, r1, r2)) 1)))) (rmL 7)) (SC g) n τ 0 0 59 [(0, yR g 155), (1, yI a)] [] := by
      intro N
      induction N using Nat.strongRecOn with
      | ind N zh59 =>
        intro τ  y f fp p W c  M  zN59 zI59
        have zQ_τ := zI59.1
        refine y_aload_n (pc := 59) hF dX11_text_59 0 rfl ?_
        refine y_get (pc := 60) (ci := 11) hF dX11_text_60 (by omega) rfl rfl rfl iX11 33 (by decide) w_1280 rfl ?_
        rw [show τ 155 33 = f from zQ_τ.2.2.1]
        refine y_if_ne (pc := 63) hF dX11_text_63 119 rfl (by omega) (fun zc63 => ?_) (fun zc63 => ?_)
        · skip
          refine y_aload_n (pc := 119) hF dX11_text_119 0 rfl ?_
          refine y_get (pc := 120) (ci := 11) hF dX11_text_120 (by omega) rfl rfl rfl iX11 33 (by decide) w_1280 rfl ?_
          rw [show τ 155 33 = f from zQ_τ.2.2.1]
          refine y_if_ne (pc := 123) hF dX11_text_123 143 rfl (by omega) (fun zc123 => ?_) (fun zc123 => ?_)
          · skip
            have zF : rf = f ∧ rfp = fp := (by have zq := zI59.2.2.2.2.resolve_right (fun ze => by omega); exact zq.2); have zGt := zI59.2.1
            refine y_aload_n (pc := 143) hF dX11_text_143 0 rfl ?_
            refine y_aload_n (pc := 144) hF dX11_text_144 0 rfl ?_
            refine y_get (pc := 145) (ci := 11) hF dX11_text_145 (by omega) rfl rfl rfl iX11 33 (by decide) w_1280 rfl ?_
            rw [show τ 155 33 = f from zQ_τ.2.2.1]
            refine y_if_le (pc := 148) hF dX11_text_148 158 rfl (by omega) (fun zc148 => ?_) (fun zc148 => ?_)
            · skip
              exfalso; omega
            · skip
              refine y_aload_n (pc := 151) hF dX11_text_151 0 rfl ?_
              refine y_get (pc := 152) (ci := 11) hF dX11_text_152 (by omega) rfl rfl rfl iX11 34 (by decide) w_1281 rfl ?_
              rw [show τ 155 34 = fp from (zQ_τ.2.2.2.1 (by omega))]
              refine y_goto (pc := 155) hF dX11_text_155 159 rfl ?_
              refine y_putf (pc := 159) (ci := 11) (σ' := yset τ 155 30 fp) (sch' := (SC g)) hF dX11_text_159 (by omega) rfl rfl rfl iX11 30 (by decide) w_1277 tyX11 tyX11_ok nmX11 rfl rfl rfl rfl (Nat.le_of_ble_eq_true rfl) rfl (y_ps rfl) (fun k' h => ⟨yset_n h, rfl⟩) ?_
              obtain ⟨ρ, hρ⟩ : ∃ s, s = yset τ 155 30 fp := ⟨_, rfl⟩
              rw [← hρ]
              have zeρ : ∀ c : Nat, c ≠ 155 → c ≠ 168 → ρ c = σ0 c := fun c b d => by rw [hρ, yset_n b, zGt.1 c b d, zeτ c b]
              have ze5ρ : ∀ j : Int, (j < 29 ∨ 37 < j) → ρ 155 j = σ0 155 j := fun j b => by rw [hρ, yset_o (by omega), zGt.2 j (by omega), ze5 j (by omega)]
              have z29ρ : ρ 155 29 = 0 := by rw [hρ, yset_o (by omega), zGt.2 29 (by omega)]; exact z29
              have z33ρ : ρ 155 33 = f := by rw [hρ, yset_o (by omega)]; exact zQ_τ.2.2.1
              skip
              refine y_aload_n (pc := 162) hF dX11_text_162 0 rfl ?_
              refine y_get (pc := 163) (ci := 11) hF dX11_text_163 (by omega) rfl rfl rfl iX11 33 (by decide) w_1280 rfl ?_
              rw [show ρ 155 33 = f from z33ρ]
              refine y_if_le (pc := 166) hF dX11_text_166 177 rfl (by omega) (fun zc166 => ?_) (fun zc166 => ?_)
              · skip
                exfalso; omega
              · skip
                refine y_aload_n (pc := 169) hF dX11_text_169 0 rfl ?_
                refine y_get (pc := 170) (ci := 11) hF dX11_text_170 (by omega) rfl rfl rfl iX11 33 (by decide) w_1280 rfl ?_
                rw [show ρ 155 33 = f from z33ρ]
                refine y_bipush (pc := 173) hF dX11_text_173 (by decide) ?_
                refine y_isub (pc := 175) hF dX11_text_175 ?_
                exact y_iret (pc := 176) hF dX11_text_176 (Nat.zero_le _) (Nat.zero_le _) ⟨_, rfl, Nat.le_refl _, Or.inl ⟨by omega, (by rw [← hRr]; unfold txV; show _ = if rf = 0 then _ else rf - 10; rw [if_neg (by omega)]; omega), (by rw [← hRr]; show mO σ ρ (if rf = 0 then _ else _) 0; rw [if_neg (by omega)]; exact mO_txf zO_σ0 zeρ ze5ρ z29ρ (by rw [hρ, yset_e]; exact zF.2.symm))⟩⟩
          · skip
            refine y_aload_n (pc := 126) hF dX11_text_126 0 rfl ?_
            refine y_get (pc := 127) (ci := 11) hF dX11_text_127 (by omega) rfl rfl rfl iX11 36 (by decide) w_1283 rfl ?_
            rw [show τ 155 36 = y from zQ_τ.2.2.2.2.2.1]
            refine y_iconst (pc := 130) hF dX11_text_130 ?_
            refine y_icmp_ge (pc := 131) hF dX11_text_131 143 rfl (by omega) (by omega) (fun zc131 => ?_) (fun zc131 => ?_)
            · skip
              have zf0 : f = 0 := (by omega); have zRR := zI59.2.2.2.2.resolve_left (fun ze => ze.1 zf0); have zGt := zI59.2.1; have zre := zRR.2.2.2.2.1 (by omega) (by omega); simp only [Prod.mk.injEq] at zre
              refine y_aload_n (pc := 143) hF dX11_text_143 0 rfl ?_
              refine y_aload_n (pc := 144) hF dX11_text_144 0 rfl ?_
              refine y_get (pc := 145) (ci := 11) hF dX11_text_145 (by omega) rfl rfl rfl iX11 33 (by decide) w_1280 rfl ?_
              rw [show τ 155 33 = f from zQ_τ.2.2.1]
              refine y_if_le (pc := 148) hF dX11_text_148 158 rfl (by omega) (fun zc148 => ?_) (fun zc148 => ?_)
              · skip
                refine y_iconst (pc := 158) hF dX11_text_158 ?_
                refine y_putf (pc := 159) (ci := 11) (σ' := yset τ 155 30 (-1)) (sch' := (SC g)) hF dX11_text_159 (by omega) rfl rfl rfl iX11 30 (by decide) w_1277 tyX11 tyX11_ok nmX11 rfl rfl rfl rfl (Nat.le_of_ble_eq_true rfl) rfl (y_ps rfl) (fun k' h => ⟨yset_n h, rfl⟩) ?_
                obtain ⟨ρ, hρ⟩ : ∃ s, s = yset τ 155 30 (-1) := ⟨_, rfl⟩
                rw [← hρ]
                have zeρ : ∀ c : Nat, c ≠ 155 → c ≠ 168 → ρ c = σ0 c := fun c b d => by rw [hρ, yset_n b, zGt.1 c b d, zeτ c b]
                have ze5ρ : ∀ j : Int, (j < 29 ∨ 37 < j) → ρ 155 j = σ0 155 j := fun j b => by rw [hρ, yset_o (by omega), zGt.2 j (by omega), ze5 j (by omega)]
                have z29ρ : ρ 155 29 = 0 := by rw [hρ, yset_o (by omega), zGt.2 29 (by omega)]; exact z29
                have z33ρ : ρ 155 33 = f := by rw [hρ, yset_o (by omega)]; exact zQ_τ.2.2.1
                have zQρ : mTq ρ tb a p 0 fp W y c := by { have zt := zQ_τ; rw [zf0] at zt; obtain ⟨q1, q2, q3, q4, q5, q6, q7, q8⟩ := zt; refine ⟨?_, ?_, ?_, fun zz => absurd rfl zz, ?_, ?_, ?_, fun j b d => ?_⟩ <;> (try (rw [hρ, yset_o (by omega)]; assumption)); (rw [hρ, yset_n (by omega)]; exact q8 j b d) }; have zMρ : tM ρ y W M := zRR.2.2.1.fr (by rw [hρ, yset_n (by omega)])
                refine y_aload_n (pc := 162) hF dX11_text_162 0 rfl ?_
                refine y_get (pc := 163) (ci := 11) hF dX11_text_163 (by omega) rfl rfl rfl iX11 33 (by decide) w_1280 rfl ?_
                rw [show ρ 155 33 = f from z33ρ]
                refine y_if_le (pc := 166) hF dX11_text_166 177 rfl (by omega) (fun zc166 => ?_) (fun zc166 => ?_)
                · skip
                  refine y_aload_n (pc := 177) hF dX11_text_177 0 rfl ?_
                  refine y_cv (y_rV (pc := 178) hF (tX11_takes hn tb a p fp W y c zQρ M zMρ (by omega) (by omega) w h ⟨hw1, hw2⟩ ⟨hw3, hw4⟩ (by rw [zeρ 161 (by omega) (by omega)]; exact zA_σ0.2.1) (by rw [zeρ 162 (by omega) (by omega)]; exact zA_σ0.2.2.1) ht (by rw [ze5ρ 9 (by omega)]; exact zb1_σ0)) dX11_text_178 (by omega) rfl rfl rfl w_1424 qX11_takes rfl ⟨Nat.le_of_ble_eq_true rfl, Nat.le_of_ble_eq_true rfl⟩ ⟨Nat.zero_le _, Nat.zero_le _⟩ (Nat.le_of_ble_eq_true rfl) rfl) rfl rfl (fun n' σ178 zp178 => ?_)
                  obtain ⟨zn178, zp178⟩ := zp178
                  have zn178 := zn178.symm
                  subst zn178
                  refine y_aload_n (pc := 181) hF dX11_text_181 0 rfl ?_
                  have zz182 := y_rV (pc := 182) hF (tX11_missingMany (n := n) (σ := σ178) W y M (hS_ M) (fun _ _ => 0) (fun _ _ => -1) (fun _ _ => -1) hn zp178.1.1) dX11_text_182 (by omega) rfl rfl rfl w_1432 qX11_missingMany rfl ⟨Nat.le_of_ble_eq_true rfl, Nat.le_of_ble_eq_true rfl⟩ ⟨Nat.zero_le _, Nat.zero_le _⟩ (Nat.le_of_ble_eq_true rfl) rfl (rest := []) (cells := 0) (slots := 0) (lv := [(0, yR g 155), (1, yI a)])
                  refine y_cp (zz182) ?_
                  exact y_iret (pc := 185) hF dX11_text_185 (Nat.zero_le _) (Nat.zero_le _) ⟨_, rfl, Nat.le_refl _, Or.inl ⟨by omega, (by rw [← hRr]; unfold txV; show _ = if rf = 0 then nMi rW rH rM_ else _; rw [if_pos zre.1, zre.2.2.1, zre.2.2.2.1, zre.2.2.2.2]; have zkc := sKn_cnt (T := M) (w := W) (h := y) (by omega) (by omega); omega), (by rw [← hRr]; show mO σ σ178 (if rf = 0 then (rW, rH, txX rM_, (s, re, fo, ra, tu, we, sh), [], (ht && decide (rW = w) && decide (rH = h)), K, 0, tb, rfp, r1, r2) else _) 0; rw [if_pos zre.1, zre.2.1, zre.2.2.1, zre.2.2.2.1, zre.2.2.2.2]; exact mO_txo zO_σ0 (fun c q1 q2 q3 q4 q5 q6 => by rw [show σ178 c = ρ c from funext fun j => zp178.2.2.2 c j q4 (Or.inl ⟨q5, q6⟩) (Or.inl q2)]; exact zeρ c q2 q3) (fun j q => by rw [zp178.2.2.2 155 j (by omega) (by omega) (by omega)]; exact ze5ρ j (by omega)) zp178.2.1 zp178.2.2.1 (fun q => by simp only [Bool.and_eq_true, decide_eq_true_eq] at q; exact ⟨q.1.1, q.1.2, q.2⟩) zp178.1 (by rw [zp178.2.2.2 155 29 (by omega) (by omega) (by omega)]; exact z29ρ) (by rw [zp178.2.2.2 155 30 (by omega) (by omega) (by omega), hρ, yset_e]))⟩⟩
                · skip
                  exfalso; omega
              · skip
                exfalso; omega
            · skip
              refine y_aload_n (pc := 134) hF dX11_text_134 0 rfl ?_
              refine y_iconst (pc := 135) hF dX11_text_135 ?_
              refine y_aload_n (pc := 136) hF dX11_text_136 0 rfl ?_
              refine y_get (pc := 137) (ci := 11) hF dX11_text_137 (by omega) rfl rfl rfl iX11 31 (by decide) w_1278 rfl ?_
              rw [show τ 155 31 = a from zQ_τ.1]
              refine y_cv (y_rV (pc := 140) hF (tX11_wrong hn (by rw [zQ_τ.2.2.1]; omega) 5 a) dX11_text_140 (by omega) rfl rfl rfl w_1416 qX11_wrong rfl ⟨Nat.le_of_ble_eq_true rfl, Nat.le_of_ble_eq_true rfl⟩ ⟨Nat.zero_le _, Nat.zero_le _⟩ (Nat.le_of_ble_eq_true rfl) rfl) rfl rfl (fun n' σ' zp140 => ?_)
              obtain ⟨zn140, rfl⟩ := zp140
              have zn140 := zn140.symm
              subst zn140
              obtain ⟨τ8, hτ8⟩ : ∃ s, s = yset (yset τ 155 33 5) 155 34 a := ⟨_, rfl⟩
              rw [← hτ8]
              have z8 := zQ_τ.wr (by decide) hτ8; have zQ_τ8 := z8.1; have zF : rf = 5 ∧ rfp = a := (by have zq := zI59.2.2.2.2.resolve_left (fun ze => by omega); exact zq.2.2.2.1 (by omega) (by omega)); have zGt := zI59.2.1.tr z8.2.1
              refine y_aload_n (pc := 143) hF dX11_text_143 0 rfl ?_
              refine y_aload_n (pc := 144) hF dX11_text_144 0 rfl ?_
              refine y_get (pc := 145) (ci := 11) hF dX11_text_145 (by omega) rfl rfl rfl iX11 33 (by decide) w_1280 rfl ?_
              rw [show τ8 155 33 = 5 from zQ_τ8.2.2.1]
              refine y_if_le (pc := 148) hF dX11_text_148 158 rfl (by decide) (fun zc148 => absurd zc148 (by decide)) (fun _ => ?_)
              refine y_aload_n (pc := 151) hF dX11_text_151 0 rfl ?_
              refine y_get (pc := 152) (ci := 11) hF dX11_text_152 (by omega) rfl rfl rfl iX11 34 (by decide) w_1281 rfl ?_
              rw [show τ8 155 34 = a from (zQ_τ8.2.2.2.1 (by omega))]
              refine y_goto (pc := 155) hF dX11_text_155 159 rfl ?_
              refine y_putf (pc := 159) (ci := 11) (σ' := yset τ8 155 30 a) (sch' := (SC g)) hF dX11_text_159 (by omega) rfl rfl rfl iX11 30 (by decide) w_1277 tyX11 tyX11_ok nmX11 rfl rfl rfl rfl (Nat.le_of_ble_eq_true rfl) rfl (y_ps rfl) (fun k' h => ⟨yset_n h, rfl⟩) ?_
              obtain ⟨ρ, hρ⟩ : ∃ s, s = yset τ8 155 30 a := ⟨_, rfl⟩
              rw [← hρ]
              have zeρ : ∀ c : Nat, c ≠ 155 → c ≠ 168 → ρ c = σ0 c := fun c b d => by rw [hρ, yset_n b, zGt.1 c b d, zeτ c b]
              have ze5ρ : ∀ j : Int, (j < 29 ∨ 37 < j) → ρ 155 j = σ0 155 j := fun j b => by rw [hρ, yset_o (by omega), zGt.2 j (by omega), ze5 j (by omega)]
              have z29ρ : ρ 155 29 = 0 := by rw [hρ, yset_o (by omega), zGt.2 29 (by omega)]; exact z29
              have z33ρ : ρ 155 33 = 5 := by rw [hρ, yset_o (by omega)]; exact zQ_τ8.2.2.1
              skip
              refine y_aload_n (pc := 162) hF dX11_text_162 0 rfl ?_
              refine y_get (pc := 163) (ci := 11) hF dX11_text_163 (by omega) rfl rfl rfl iX11 33 (by decide) w_1280 rfl ?_
              rw [show ρ 155 33 = 5 from z33ρ]
              refine y_if_le (pc := 166) hF dX11_text_166 177 rfl (by decide) (fun zc166 => absurd zc166 (by decide)) (fun _ => ?_)
              refine y_aload_n (pc := 169) hF dX11_text_169 0 rfl ?_
              refine y_get (pc := 170) (ci := 11) hF dX11_text_170 (by omega) rfl rfl rfl iX11 33 (by decide) w_1280 rfl ?_
              rw [show ρ 155 33 = 5 from z33ρ]
              refine y_bipush (pc := 173) hF dX11_text_173 (by decide) ?_
              refine y_isub (pc := 175) hF dX11_text_175 ?_
              exact y_iret (pc := 176) hF dX11_text_176 (Nat.zero_le _) (Nat.zero_le _) ⟨_, rfl, Nat.le_refl _, Or.inl ⟨by omega, (by rw [← hRr]; unfold txV; show _ = if rf = 0 then _ else rf - 10; rw [if_neg (by omega)]; omega), (by rw [← hRr]; show mO σ ρ (if rf = 0 then _ else _) 0; rw [if_neg (by omega)]; exact mO_txf zO_σ0 zeρ ze5ρ z29ρ (by rw [hρ, yset_e]; exact zF.2.symm))⟩⟩
        · skip
          refine y_aload_n (pc := 66) hF dX11_text_66 0 rfl ?_
          refine y_get (pc := 67) (ci := 11) hF dX11_text_67 (by omega) rfl rfl rfl iX11 32 (by decide) w_1279 rfl ?_
          rw [show τ 155 32 = p from zQ_τ.2.1]
          refine y_aload_n (pc := 70) hF dX11_text_70 0 rfl ?_
          refine y_get (pc := 71) (ci := 11) hF dX11_text_71 (by omega) rfl rfl rfl iX11 31 (by decide) w_1278 rfl ?_
          rw [show τ 155 31 = a from zQ_τ.1]
          refine y_icmp_ge (pc := 74) hF dX11_text_74 119 rfl (by omega) (by omega) (fun zc74 => ?_) (fun zc74 => ?_)
          · skip
            refine y_aload_n (pc := 119) hF dX11_text_119 0 rfl ?_
            refine y_get (pc := 120) (ci := 11) hF dX11_text_120 (by omega) rfl rfl rfl iX11 33 (by decide) w_1280 rfl ?_
            rw [show τ 155 33 = f from zQ_τ.2.2.1]
            refine y_if_ne (pc := 123) hF dX11_text_123 143 rfl (by omega) (fun zc123 => ?_) (fun zc123 => ?_)
            · skip
              have zF : rf = f ∧ rfp = fp := (by have zq := zI59.2.2.2.2.resolve_right (fun ze => by omega); exact zq.2); have zGt := zI59.2.1
              refine y_aload_n (pc := 143) hF dX11_text_143 0 rfl ?_
              refine y_aload_n (pc := 144) hF dX11_text_144 0 rfl ?_
              refine y_get (pc := 145) (ci := 11) hF dX11_text_145 (by omega) rfl rfl rfl iX11 33 (by decide) w_1280 rfl ?_
              rw [show τ 155 33 = f from zQ_τ.2.2.1]
              refine y_if_le (pc := 148) hF dX11_text_148 158 rfl (by omega) (fun zc148 => ?_) (fun zc148 => ?_)
              · skip
                exfalso; omega
              · skip
                refine y_aload_n (pc := 151) hF dX11_text_151 0 rfl ?_
                refine y_get (pc := 152) (ci := 11) hF dX11_text_152 (by omega) rfl rfl rfl iX11 34 (by decide) w_1281 rfl ?_
                rw [show τ 155 34 = fp from (zQ_τ.2.2.2.1 (by omega))]
                refine y_goto (pc := 155) hF dX11_text_155 159 rfl ?_
                refine y_putf (pc := 159) (ci := 11) (σ' := yset τ 155 30 fp) (sch' := (SC g)) hF dX11_text_159 (by omega) rfl rfl rfl iX11 30 (by decide) w_1277 tyX11 tyX11_ok nmX11 rfl rfl rfl rfl (Nat.le_of_ble_eq_true rfl) rfl (y_ps rfl) (fun k' h => ⟨yset_n h, rfl⟩) ?_
                obtain ⟨ρ, hρ⟩ : ∃ s, s = yset τ 155 30 fp := ⟨_, rfl⟩
                rw [← hρ]
                have zeρ : ∀ c : Nat, c ≠ 155 → c ≠ 168 → ρ c = σ0 c := fun c b d => by rw [hρ, yset_n b, zGt.1 c b d, zeτ c b]
                have ze5ρ : ∀ j : Int, (j < 29 ∨ 37 < j) → ρ 155 j = σ0 155 j := fun j b => by rw [hρ, yset_o (by omega), zGt.2 j (by omega), ze5 j (by omega)]
                have z29ρ : ρ 155 29 = 0 := by rw [hρ, yset_o (by omega), zGt.2 29 (by omega)]; exact z29
                have z33ρ : ρ 155 33 = f := by rw [hρ, yset_o (by omega)]; exact zQ_τ.2.2.1
                skip
                refine y_aload_n (pc := 162) hF dX11_text_162 0 rfl ?_
                refine y_get (pc := 163) (ci := 11) hF dX11_text_163 (by omega) rfl rfl rfl iX11 33 (by decide) w_1280 rfl ?_
                rw [show ρ 155 33 = f from z33ρ]
                refine y_if_le (pc := 166) hF dX11_text_166 177 rfl (by omega) (fun zc166 => ?_) (fun zc166 => ?_)
                · skip
                  exfalso; omega
                · skip
                  refine y_aload_n (pc := 169) hF dX11_text_169 0 rfl ?_
                  refine y_get (pc := 170) (ci := 11) hF dX11_text_170 (by omega) rfl rfl rfl iX11 33 (by decide) w_1280 rfl ?_
                  rw [show ρ 155 33 = f from z33ρ]
                  refine y_bipush (pc := 173) hF dX11_text_173 (by decide) ?_
                  refine y_isub (pc := 175) hF dX11_text_175 ?_
                  exact y_iret (pc := 176) hF dX11_text_176 (Nat.zero_le _) (Nat.zero_le _) ⟨_, rfl, Nat.le_refl _, Or.inl ⟨by omega, (by rw [← hRr]; unfold txV; show _ = if rf = 0 then _ else rf - 10; rw [if_neg (by omega)]; omega), (by rw [← hRr]; show mO σ ρ (if rf = 0 then _ else _) 0; rw [if_neg (by omega)]; exact mO_txf zO_σ0 zeρ ze5ρ z29ρ (by rw [hρ, yset_e]; exact zF.2.symm))⟩⟩
            · skip
              refine y_aload_n (pc := 126) hF dX11_text_126 0 rfl ?_
              refine y_get (pc := 127) (ci := 11) hF dX11_text_127 (by omega) rfl rfl rfl iX11 36 (by decide) w_1283 rfl ?_
              rw [show τ 155 36 = y from zQ_τ.2.2.2.2.2.1]
              refine y_iconst (pc := 130) hF dX11_text_130 ?_
              refine y_icmp_ge (pc := 131) hF dX11_text_131 143 rfl (by omega) (by omega) (fun zc131 => ?_) (fun zc131 => ?_)
              · skip
                have zf0 : f = 0 := (by omega); have zRR := zI59.2.2.2.2.resolve_left (fun ze => ze.1 zf0); have zGt := zI59.2.1; have zre := zRR.2.2.2.2.1 (by omega) (by omega); simp only [Prod.mk.injEq] at zre
                refine y_aload_n (pc := 143) hF dX11_text_143 0 rfl ?_
                refine y_aload_n (pc := 144) hF dX11_text_144 0 rfl ?_
                refine y_get (pc := 145) (ci := 11) hF dX11_text_145 (by omega) rfl rfl rfl iX11 33 (by decide) w_1280 rfl ?_
                rw [show τ 155 33 = f from zQ_τ.2.2.1]
                refine y_if_le (pc := 148) hF dX11_text_148 158 rfl (by omega) (fun zc148 => ?_) (fun zc148 => ?_)
                · skip
                  refine y_iconst (pc := 158) hF dX11_text_158 ?_
                  refine y_putf (pc := 159) (ci := 11) (σ' := yset τ 155 30 (-1)) (sch' := (SC g)) hF dX11_text_159 (by omega) rfl rfl rfl iX11 30 (by decide) w_1277 tyX11 tyX11_ok nmX11 rfl rfl rfl rfl (Nat.le_of_ble_eq_true rfl) rfl (y_ps rfl) (fun k' h => ⟨yset_n h, rfl⟩) ?_
                  obtain ⟨ρ, hρ⟩ : ∃ s, s = yset τ 155 30 (-1) := ⟨_, rfl⟩
                  rw [← hρ]
                  have zeρ : ∀ c : Nat, c ≠ 155 → c ≠ 168 → ρ c = σ0 c := fun c b d => by rw [hρ, yset_n b, zGt.1 c b d, zeτ c b]
                  have ze5ρ : ∀ j : Int, (j < 29 ∨ 37 < j) → ρ 155 j = σ0 155 j := fun j b => by rw [hρ, yset_o (by omega), zGt.2 j (by omega), ze5 j (by omega)]
                  have z29ρ : ρ 155 29 = 0 := by rw [hρ, yset_o (by omega), zGt.2 29 (by omega)]; exact z29
                  have z33ρ : ρ 155 33 = f := by rw [hρ, yset_o (by omega)]; exact zQ_τ.2.2.1
                  have zQρ : mTq ρ tb a p 0 fp W y c := by { have zt := zQ_τ; rw [zf0] at zt; obtain ⟨q1, q2, q3, q4, q5, q6, q7, q8⟩ := zt; refine ⟨?_, ?_, ?_, fun zz => absurd rfl zz, ?_, ?_, ?_, fun j b d => ?_⟩ <;> (try (rw [hρ, yset_o (by omega)]; assumption)); (rw [hρ, yset_n (by omega)]; exact q8 j b d) }; have zMρ : tM ρ y W M := zRR.2.2.1.fr (by rw [hρ, yset_n (by omega)])
                  refine y_aload_n (pc := 162) hF dX11_text_162 0 rfl ?_
                  refine y_get (pc := 163) (ci := 11) hF dX11_text_163 (by omega) rfl rfl rfl iX11 33 (by decide) w_1280 rfl ?_
                  rw [show ρ 155 33 = f from z33ρ]
                  refine y_if_le (pc := 166) hF dX11_text_166 177 rfl (by omega) (fun zc166 => ?_) (fun zc166 => ?_)
                  · skip
                    refine y_aload_n (pc := 177) hF dX11_text_177 0 rfl ?_
                    refine y_cv (y_rV (pc := 178) hF (tX11_takes hn tb a p fp W y c zQρ M zMρ (by omega) (by omega) w h ⟨hw1, hw2⟩ ⟨hw3, hw4⟩ (by rw [zeρ 161 (by omega) (by omega)]; exact zA_σ0.2.1) (by rw [zeρ 162 (by omega) (by omega)]; exact zA_σ0.2.2.1) ht (by rw [ze5ρ 9 (by omega)]; exact zb1_σ0)) dX11_text_178 (by omega) rfl rfl rfl w_1424 qX11_takes rfl ⟨Nat.le_of_ble_eq_true rfl, Nat.le_of_ble_eq_true rfl⟩ ⟨Nat.zero_le _, Nat.zero_le _⟩ (Nat.le_of_ble_eq_true rfl) rfl) rfl rfl (fun n' σ178 zp178 => ?_)
                    obtain ⟨zn178, zp178⟩ := zp178
                    have zn178 := zn178.symm
                    subst zn178
                    refine y_aload_n (pc := 181) hF dX11_text_181 0 rfl ?_
                    have zz182 := y_rV (pc := 182) hF (tX11_missingMany (n := n) (σ := σ178) W y M (hS_ M) (fun _ _ => 0) (fun _ _ => -1) (fun _ _ => -1) hn zp178.1.1) dX11_text_182 (by omega) rfl rfl rfl w_1432 qX11_missingMany rfl ⟨Nat.le_of_ble_eq_true rfl, Nat.le_of_ble_eq_true rfl⟩ ⟨Nat.zero_le _, Nat.zero_le _⟩ (Nat.le_of_ble_eq_true rfl) rfl (rest := []) (cells := 0) (slots := 0) (lv := [(0, yR g 155), (1, yI a)])
                    refine y_cp (zz182) ?_
                    exact y_iret (pc := 185) hF dX11_text_185 (Nat.zero_le _) (Nat.zero_le _) ⟨_, rfl, Nat.le_refl _, Or.inl ⟨by omega, (by rw [← hRr]; unfold txV; show _ = if rf = 0 then nMi rW rH rM_ else _; rw [if_pos zre.1, zre.2.2.1, zre.2.2.2.1, zre.2.2.2.2]; have zkc := sKn_cnt (T := M) (w := W) (h := y) (by omega) (by omega); omega), (by rw [← hRr]; show mO σ σ178 (if rf = 0 then (rW, rH, txX rM_, (s, re, fo, ra, tu, we, sh), [], (ht && decide (rW = w) && decide (rH = h)), K, 0, tb, rfp, r1, r2) else _) 0; rw [if_pos zre.1, zre.2.1, zre.2.2.1, zre.2.2.2.1, zre.2.2.2.2]; exact mO_txo zO_σ0 (fun c q1 q2 q3 q4 q5 q6 => by rw [show σ178 c = ρ c from funext fun j => zp178.2.2.2 c j q4 (Or.inl ⟨q5, q6⟩) (Or.inl q2)]; exact zeρ c q2 q3) (fun j q => by rw [zp178.2.2.2 155 j (by omega) (by omega) (by omega)]; exact ze5ρ j (by omega)) zp178.2.1 zp178.2.2.1 (fun q => by simp only [Bool.and_eq_true, decide_eq_true_eq] at q; exact ⟨q.1.1, q.1.2, q.2⟩) zp178.1 (by rw [zp178.2.2.2 155 29 (by omega) (by omega) (by omega)]; exact z29ρ) (by rw [zp178.2.2.2 155 30 (by omega) (by omega) (by omega), hρ, yset_e]))⟩⟩
                  · skip
                    exfalso; omega
                · skip
                  exfalso; omega
              · skip
                refine y_aload_n (pc := 134) hF dX11_text_134 0 rfl ?_
                refine y_iconst (pc := 135) hF dX11_text_135 ?_
                refine y_aload_n (pc := 136) hF dX11_text_136 0 rfl ?_
                refine y_get (pc := 137) (ci := 11) hF dX11_text_137 (by omega) rfl rfl rfl iX11 31 (by decide) w_1278 rfl ?_
                rw [show τ 155 31 = a from zQ_τ.1]
                refine y_cv (y_rV (pc := 140) hF (tX11_wrong hn (by rw [zQ_τ.2.2.1]; omega) 5 a) dX11_text_140 (by omega) rfl rfl rfl w_1416 qX11_wrong rfl ⟨Nat.le_of_ble_eq_true rfl, Nat.le_of_ble_eq_true rfl⟩ ⟨Nat.zero_le _, Nat.zero_le _⟩ (Nat.le_of_ble_eq_true rfl) rfl) rfl rfl (fun n' σ' zp140 => ?_)
                obtain ⟨zn140, rfl⟩ := zp140
                have zn140 := zn140.symm
                subst zn140
                obtain ⟨τ8, hτ8⟩ : ∃ s, s = yset (yset τ 155 33 5) 155 34 a := ⟨_, rfl⟩
                rw [← hτ8]
                have z8 := zQ_τ.wr (by decide) hτ8; have zQ_τ8 := z8.1; have zF : rf = 5 ∧ rfp = a := (by have zq := zI59.2.2.2.2.resolve_left (fun ze => by omega); exact zq.2.2.2.1 (by omega) (by omega)); have zGt := zI59.2.1.tr z8.2.1
                refine y_aload_n (pc := 143) hF dX11_text_143 0 rfl ?_
                refine y_aload_n (pc := 144) hF dX11_text_144 0 rfl ?_
                refine y_get (pc := 145) (ci := 11) hF dX11_text_145 (by omega) rfl rfl rfl iX11 33 (by decide) w_1280 rfl ?_
                rw [show τ8 155 33 = 5 from zQ_τ8.2.2.1]
                refine y_if_le (pc := 148) hF dX11_text_148 158 rfl (by decide) (fun zc148 => absurd zc148 (by decide)) (fun _ => ?_)
                refine y_aload_n (pc := 151) hF dX11_text_151 0 rfl ?_
                refine y_get (pc := 152) (ci := 11) hF dX11_text_152 (by omega) rfl rfl rfl iX11 34 (by decide) w_1281 rfl ?_
                rw [show τ8 155 34 = a from (zQ_τ8.2.2.2.1 (by omega))]
                refine y_goto (pc := 155) hF dX11_text_155 159 rfl ?_
                refine y_putf (pc := 159) (ci := 11) (σ' := yset τ8 155 30 a) (sch' := (SC g)) hF dX11_text_159 (by omega) rfl rfl rfl iX11 30 (by decide) w_1277 tyX11 tyX11_ok nmX11 rfl rfl rfl rfl (Nat.le_of_ble_eq_true rfl) rfl (y_ps rfl) (fun k' h => ⟨yset_n h, rfl⟩) ?_
                obtain ⟨ρ, hρ⟩ : ∃ s, s = yset τ8 155 30 a := ⟨_, rfl⟩
                rw [← hρ]
                have zeρ : ∀ c : Nat, c ≠ 155 → c ≠ 168 → ρ c = σ0 c := fun c b d => by rw [hρ, yset_n b, zGt.1 c b d, zeτ c b]
                have ze5ρ : ∀ j : Int, (j < 29 ∨ 37 < j) → ρ 155 j = σ0 155 j := fun j b => by rw [hρ, yset_o (by omega), zGt.2 j (by omega), ze5 j (by omega)]
                have z29ρ : ρ 155 29 = 0 := by rw [hρ, yset_o (by omega), zGt.2 29 (by omega)]; exact z29
                have z33ρ : ρ 155 33 = 5 := by rw [hρ, yset_o (by omega)]; exact zQ_τ8.2.2.1
                skip
                refine y_aload_n (pc := 162) hF dX11_text_162 0 rfl ?_
                refine y_get (pc := 163) (ci := 11) hF dX11_text_163 (by omega) rfl rfl rfl iX11 33 (by decide) w_1280 rfl ?_
                rw [show ρ 155 33 = 5 from z33ρ]
                refine y_if_le (pc := 166) hF dX11_text_166 177 rfl (by decide) (fun zc166 => absurd zc166 (by decide)) (fun _ => ?_)
                refine y_aload_n (pc := 169) hF dX11_text_169 0 rfl ?_
                refine y_get (pc := 170) (ci := 11) hF dX11_text_170 (by omega) rfl rfl rfl iX11 33 (by decide) w_1280 rfl ?_
                rw [show ρ 155 33 = 5 from z33ρ]
                refine y_bipush (pc := 173) hF dX11_text_173 (by decide) ?_
                refine y_isub (pc := 175) hF dX11_text_175 ?_
                exact y_iret (pc := 176) hF dX11_text_176 (Nat.zero_le _) (Nat.zero_le _) ⟨_, rfl, Nat.le_refl _, Or.inl ⟨by omega, (by rw [← hRr]; unfold txV; show _ = if rf = 0 then _ else rf - 10; rw [if_neg (by omega)]; omega), (by rw [← hRr]; show mO σ ρ (if rf = 0 then _ else _) 0; rw [if_neg (by omega)]; exact mO_txf zO_σ0 zeρ ze5ρ z29ρ (by rw [hρ, yset_e]; exact zF.2.symm))⟩⟩
          · skip
            have zf0 : f = 0 := by omega
            have zRR := zI59.2.2.2.2.resolve_left (fun ze => ze.1 zf0)
            refine y_aload_n (pc := 77) hF dX11_text_77 0 rfl ?_
            refine y_get (pc := 78) (ci := 11) hF dX11_text_78 (by omega) rfl rfl rfl iX11 36 (by decide) w_1283 rfl ?_
            rw [show τ 155 36 = y from zQ_τ.2.2.2.2.2.1]
            refine y_bipush (pc := 81) hF dX11_text_81 (by decide) ?_
            refine y_icmp_ne (pc := 83) hF dX11_text_83 95 rfl (by omega) (by omega) (fun zc83 => ?_) (fun zc83 => ?_)
            · skip
              skip
              refine y_aload_n (pc := 95) hF dX11_text_95 0 rfl ?_
              refine y_dup (pc := 96) hF dX11_text_96 rfl ?_
              refine y_get (pc := 97) (ci := 11) hF dX11_text_97 (by omega) rfl rfl rfl iX11 32 (by decide) w_1279 rfl ?_
              rw [show τ 155 32 = p from zQ_τ.2.1]
              refine y_iconst (pc := 100) hF dX11_text_100 ?_
              refine y_iadd (pc := 101) hF dX11_text_101 ?_
              refine y_putf (pc := 102) (ci := 11) (σ' := yset τ 155 32 (p + 1)) (sch' := (SC g)) hF dX11_text_102 (by omega) rfl rfl rfl iX11 32 (by decide) w_1279 tyX11 tyX11_ok nmX11 rfl rfl rfl rfl (Nat.le_of_ble_eq_true rfl) rfl (y_ps rfl) (fun k' h => ⟨yset_n h, rfl⟩) ?_
              obtain ⟨τ6, hτ6⟩ : ∃ s, s = yset τ 155 32 (p + 1) := ⟨_, rfl⟩
              rw [← hτ6]
              have z6 := zQ_τ.nx hτ6; have zQ_τ6 := z6.1; have zQx : mTq τ6 tb a (p + 1) 0 fp W y c := (by have zt := z6.1; rw [zf0] at zt; exact zt); have zR1 := zRR.2.2.2.2.2.2 (by omega) (by omega)
              refine y_aload_n (pc := 105) hF dX11_text_105 0 rfl ?_
              refine y_get (pc := 106) (ci := 11) hF dX11_text_106 (by omega) rfl rfl rfl iX11 33 (by decide) w_1280 rfl ?_
              rw [show τ6 155 33 = f from zQ_τ6.2.2.1]
              refine y_if_ne (pc := 109) hF dX11_text_109 59 rfl (by omega) (fun zc109 => ?_) (fun zc109 => ?_)
              · skip
                exfalso; omega
              · skip
                refine y_aload_n (pc := 112) hF dX11_text_112 0 rfl ?_
                refine y_cv (y_rV (pc := 113) hF (tX11_oneRow hn tb a (p + 1) fp W y c zQx (by omega) hW.2.2.2.2.1 (by omega) (by omega)) dX11_text_113 (by omega) rfl rfl rfl w_1399 qX11_oneRow rfl ⟨Nat.le_of_ble_eq_true rfl, Nat.le_of_ble_eq_true rfl⟩ ⟨Nat.zero_le _, Nat.zero_le _⟩ (Nat.le_of_ble_eq_true rfl) rfl) rfl rfl (fun n' σ113 zp113 => ?_)
                obtain ⟨zn113, zp113⟩ := zp113
                have zn113 := zn113.symm
                subst zn113
                obtain ⟨E113_, hE113⟩ : ∃ r, r = rwE tb a y W (p + 1) (-1) := ⟨_, rfl⟩
                obtain ⟨f113, fp113, p113, c113, m113⟩ := E113_
                rw [← hE113] at zp113
                have zrw113 := tx_row (R := (rf, rfp, rW, rH, rM_)) zR1 (by omega) hE113
                have zeb113 := rwE_bd htb (y := y) (W := W) (p := (p + 1)) (fp := -1) (by omega) (by omega) (by unfold rwMo; split <;> omega) hE113
                refine y_goto (pc := 116) hF dX11_text_116 59 rfl ?_
                exact zh59 _ (by omega) σ113 (y + 1) f113 fp113 p113 (if y = 0 then c113 else W) c113 (txM M y m113) rfl ⟨zp113.1, zI59.2.1.tr (z6.2.1.tr zp113.2.1), by omega, by omega, by { rcases Decidable.em (f113 = 0) with zg | zg; (have zcc := rw_cc htb (y := y) (W := W) (p := (p + 1)) (fp := -1) (by omega) (by omega) (by omega) hE113 zg; exact Or.inr ⟨zg, zcc.2.2, tM_up (by omega) ⟨zcc.1, zcc.2.1⟩ (zRR.2.2.1.fr z6.2.2) zp113.2.2 zeb113.2.2.2.2.1, zrw113.2 zg⟩); (have zt := zrw113.1 zg; exact Or.inl ⟨zg, zt.1, zt.2⟩) }⟩
            · skip
              refine y_aload_n (pc := 86) hF dX11_text_86 0 rfl ?_
              refine y_iconst (pc := 87) hF dX11_text_87 ?_
              refine y_aload_n (pc := 88) hF dX11_text_88 0 rfl ?_
              refine y_get (pc := 89) (ci := 11) hF dX11_text_89 (by omega) rfl rfl rfl iX11 32 (by decide) w_1279 rfl ?_
              rw [show τ 155 32 = p from zQ_τ.2.1]
              refine y_cv (y_rV (pc := 92) hF (tX11_wrong hn (by rw [zQ_τ.2.2.1]; exact zf0) 3 p) dX11_text_92 (by omega) rfl rfl rfl w_1416 qX11_wrong rfl ⟨Nat.le_of_ble_eq_true rfl, Nat.le_of_ble_eq_true rfl⟩ ⟨Nat.zero_le _, Nat.zero_le _⟩ (Nat.le_of_ble_eq_true rfl) rfl) rfl rfl (fun n' σ' zp92 => ?_)
              obtain ⟨zn92, rfl⟩ := zp92
              have zn92 := zn92.symm
              subst zn92
              obtain ⟨τ9, hτ9⟩ : ∃ s, s = yset (yset τ 155 33 3) 155 34 p := ⟨_, rfl⟩
              rw [← hτ9]
              have z9 := zQ_τ.wr (by decide) hτ9; have zQ_τ9 := z9.1
              refine y_aload_n (pc := 95) hF dX11_text_95 0 rfl ?_
              refine y_dup (pc := 96) hF dX11_text_96 rfl ?_
              refine y_get (pc := 97) (ci := 11) hF dX11_text_97 (by omega) rfl rfl rfl iX11 32 (by decide) w_1279 rfl ?_
              rw [show τ9 155 32 = p from zQ_τ9.2.1]
              refine y_iconst (pc := 100) hF dX11_text_100 ?_
              refine y_iadd (pc := 101) hF dX11_text_101 ?_
              refine y_putf (pc := 102) (ci := 11) (σ' := yset τ9 155 32 (p + 1)) (sch' := (SC g)) hF dX11_text_102 (by omega) rfl rfl rfl iX11 32 (by decide) w_1279 tyX11 tyX11_ok nmX11 rfl rfl rfl rfl (Nat.le_of_ble_eq_true rfl) rfl (y_ps rfl) (fun k' h => ⟨yset_n h, rfl⟩) ?_
              obtain ⟨τ7, hτ7⟩ : ∃ s, s = yset τ9 155 32 (p + 1) := ⟨_, rfl⟩
              rw [← hτ7]
              have z7 := z9.1.nx hτ7; have zQ_τ7 := z7.1
              refine y_aload_n (pc := 105) hF dX11_text_105 0 rfl ?_
              refine y_get (pc := 106) (ci := 11) hF dX11_text_106 (by omega) rfl rfl rfl iX11 33 (by decide) w_1280 rfl ?_
              rw [show τ7 155 33 = 3 from zQ_τ7.2.2.1]
              refine y_if_ne (pc := 109) hF dX11_text_109 59 rfl (by decide) (fun _ => ?_) (fun zc109 => absurd zc109 (by decide))
              exact zh59 _ (by omega) τ7 y 3 p (p + 1) W c M rfl ⟨z7.1, zI59.2.1.tr (z9.2.1.tr z7.2.1), by omega, by omega, Or.inl ⟨by decide, zRR.2.2.2.2.2.1 (by omega) (by omega)⟩⟩
    exact zL59 _ σ56 1 f56 fp56 p56 (if (0 : Int) = 0 then c56 else 0) c56 (txM (fun _ _ => 0) 0 m56) rfl ⟨zp56.1, zp56.2.1, by omega, by omega, by { rcases Decidable.em (f56 = 0) with zg | zg; (have zcc := rw_cc htb (y := 0) (W := 0) (p := 0) (fp := -1) (by omega) (by omega) (by omega) hE56 zg; exact Or.inr ⟨zg, zcc.2.2, tM_up (by omega) ⟨zcc.1, zcc.2.1⟩ (fun a b h1 h2 h3 h4 => by omega) zp56.2.2 zeb56.2.2.2.2.1, zrw56.2 zg⟩); (have zt := zrw56.1 zg; exact Or.inl ⟨zg, zt.1, zt.2⟩) }⟩
  · subst zv17; subst zs17
    refine y_if_ne (pc := 20) hF dX11_text_20 25 rfl (by decide) (fun zc20 => absurd zc20 (by decide)) (fun _ => ?_)
    refine y_iconst (pc := 23) hF dX11_text_23 ?_
    exact y_iret (pc := 24) hF dX11_text_24 (Nat.zero_le _) (Nat.zero_le _) ⟨_, rfl, Nat.le_refl _, Or.inr ⟨(fun ze => by simp at zb17; omega), zO_σ0.bA 1⟩⟩
