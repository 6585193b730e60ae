theorem dX6_aim_0 : decode cX6_aim 0 = .ok (.aload_n 0, 1) := by decide +kernel
theorem dX6_aim_1 : decode cX6_aim 1 = .ok (.aload_n 1, 1) := by decide +kernel
theorem dX6_aim_2 : decode cX6_aim 2 = .ok (.putfield 68, 3) := by decide +kernel
theorem dX6_aim_5 : decode cX6_aim 5 = .ok (.aload_n 0, 1) := by decide +kernel
theorem dX6_aim_6 : decode cX6_aim 6 = .ok (.aload_n 2, 1) := by decide +kernel
theorem dX6_aim_7 : decode cX6_aim 7 = .ok (.putfield 72, 3) := by decide +kernel
theorem dX6_aim_10 : decode cX6_aim 10 = .ok (.aload_n 0, 1) := by decide +kernel
theorem dX6_aim_11 : decode cX6_aim 11 = .ok (.iload_n 3, 1) := by decide +kernel
theorem dX6_aim_12 : decode cX6_aim 12 = .ok (.putfield 9, 3) := by decide +kernel
theorem dX6_aim_15 : decode cX6_aim 15 = .ok (.aload_n 0, 1) := by decide +kernel
theorem dX6_aim_16 : decode cX6_aim 16 = .ok (.iload 4, 2) := by decide +kernel
theorem dX6_aim_18 : decode cX6_aim 18 = .ok (.putfield 15, 3) := by decide +kernel
theorem dX6_aim_21 : decode cX6_aim 21 = .ok (.aload_n 0, 1) := by decide +kernel
theorem dX6_aim_22 : decode cX6_aim 22 = .ok (.iconst (-1), 1) := by decide +kernel
theorem dX6_aim_23 : decode cX6_aim 23 = .ok (.putfield 44, 3) := by decide +kernel
theorem dX6_aim_26 : decode cX6_aim 26 = .ok (.aload_n 0, 1) := by decide +kernel
theorem dX6_aim_27 : decode cX6_aim 27 = .ok (.iconst (-1), 1) := by decide +kernel
theorem dX6_aim_28 : decode cX6_aim 28 = .ok (.putfield 47, 3) := by decide +kernel
theorem dX6_aim_31 : decode cX6_aim 31 = .ok (.aload_n 0, 1) := by decide +kernel
theorem dX6_aim_32 : decode cX6_aim 32 = .ok (.iconst (-1), 1) := by decide +kernel
theorem dX6_aim_33 : decode cX6_aim 33 = .ok (.putfield 50, 3) := by decide +kernel
theorem dX6_aim_36 : decode cX6_aim 36 = .ok (.aload_n 0, 1) := by decide +kernel
theorem dX6_aim_37 : decode cX6_aim 37 = .ok (.iconst 0, 1) := by decide +kernel
theorem dX6_aim_38 : decode cX6_aim 38 = .ok (.putfield 53, 3) := by decide +kernel
theorem dX6_aim_41 : decode cX6_aim 41 = .ok (.aload_n 0, 1) := by decide +kernel
theorem dX6_aim_42 : decode cX6_aim 42 = .ok (.iconst 0, 1) := by decide +kernel
theorem dX6_aim_43 : decode cX6_aim 43 = .ok (.putfield 56, 3) := by decide +kernel
theorem dX6_aim_46 : decode cX6_aim 46 = .ok (.aload_n 0, 1) := by decide +kernel
theorem dX6_aim_47 : decode cX6_aim 47 = .ok (.iconst 0, 1) := by decide +kernel
theorem dX6_aim_48 : decode cX6_aim 48 = .ok (.putfield 59, 3) := by decide +kernel
theorem dX6_aim_51 : decode cX6_aim 51 = .ok (.aload_n 0, 1) := by decide +kernel
theorem dX6_aim_52 : decode cX6_aim 52 = .ok (.iconst 0, 1) := by decide +kernel
theorem dX6_aim_53 : decode cX6_aim 53 = .ok (.putfield 62, 3) := by decide +kernel
theorem dX6_aim_56 : decode cX6_aim 56 = .ok (.aload_n 0, 1) := by decide +kernel
theorem dX6_aim_57 : decode cX6_aim 57 = .ok (.iconst 0, 1) := by decide +kernel
theorem dX6_aim_58 : decode cX6_aim 58 = .ok (.putfield 65, 3) := by decide +kernel
theorem dX6_aim_61 : decode cX6_aim 61 = .ok (.aload_n 0, 1) := by decide +kernel
theorem dX6_aim_62 : decode cX6_aim 62 = .ok (.invokevirtual 76, 3) := by decide +kernel
theorem dX6_aim_65 : decode cX6_aim 65 = .ok (.aload_n 0, 1) := by decide +kernel
theorem dX6_aim_66 : decode cX6_aim 66 = .ok (.invokevirtual 79, 3) := by decide +kernel
theorem dX6_aim_69 : decode cX6_aim 69 = .ok (.return_, 1) := by decide +kernel
set_option maxHeartbeats 4000000 in
set_option maxRecDepth 100000 in
theorem tX6_aim {l : Launch} {g : yG} {n : Nat} {σ : yM} (k cs : Nat) (w h : Int) (T S F P O : Int → Int → Int) (s re fo ra tu we sh : Int) (hn : 172 ≤ n) (hP : isPic k) (hcs : isSet cs) (hA : rC σ k w h T S F P O) (hS : rS σ cs s re fo ra tu we sh) (hk : k + 5 < 120 ∨ 130 < k) (hc2 : cs < 120 ∨ 130 < cs) (hT : rT σ) (ax ay : Int) (hi : sIn w h ax ay = true) : yMet l g yX6_aim cX6_aim 5 none (rmL 4) [yR g 123, yR g k, yR g cs, yI ax, yI ay] (SC g) n σ (SC g) (yPv (fun n' σ' => n' = n ∧ fc 123 127 σ σ' ∧ rZ σ' w h T S F s fo we k cs ax ay ∧ rQ σ' w q0)) := by
  obtain ⟨hw1, hw2, hw3, hw4⟩ := id hA.1.1
  obtain ⟨hs1, hs2, hs3, hs4, hs5, hs6, hs7⟩ := id hS.2
  have zkn : k < n := by have := hP.1; omega
  have zcsn : cs < n := by have := hcs.1; omega
  have z123 : 123 < n := by omega
  have z124 : 124 < n := by omega
  have z125 : 125 < n := by omega
  have z126 : 126 < n := by omega
  have z127 : 127 < n := by omega
  have zkn1 : k + 1 < n := by have := hP.1; omega
  have zkn2 : k + 2 < n := by have := hP.1; omega
  have zkn3 : k + 3 < n := by have := hP.1; omega
  have zkn4 : k + 4 < n := by have := hP.1; omega
  have zkn5 : k + 5 < n := by have := hP.1; omega
  refine y_start (by decide) (Nat.le_of_ble_eq_true rfl) (fun X0 hF => ?_)
  show yV X0 g 5 (yQ X0 g (SC g) (yPv (fun n' σ' => n' = n ∧ fc 123 127 σ σ' ∧ rZ σ' w h T S F s fo we k cs ax ay ∧ rQ σ' w q0)) (rmL 4)) (SC g) n σ 0 0 0 [(0, yR g 123), (1, yR g k), (2, yR g cs), (3, yI ax), (4, yI ay)] []
  refine y_aload_n (pc := 0) hF dX6_aim_0 0 rfl ?_
  refine y_aload_n (pc := 1) hF dX6_aim_1 1 rfl ?_
  refine y_putf (pc := 2) (ci := 6) (σ' := yset σ 123 0 ((k : Nat) : Int)) (sch' := (SC g)) hF dX6_aim_2 z123 rfl rfl rfl iX6 0 (by decide) w_361 tyX6 tyX6_ok nmX6 rfl rfl rfl rfl (Nat.le_of_ble_eq_true rfl) rfl (y_ps rfl) (fun k' h => ⟨yset_n h, rfl⟩) ?_
  refine y_aload_n (pc := 5) hF dX6_aim_5 0 rfl ?_
  refine y_aload_n (pc := 6) hF dX6_aim_6 2 rfl ?_
  refine y_putf (pc := 7) (ci := 6) (σ' := yset (yset σ 123 0 ((k : Nat) : Int)) 123 1 ((cs : Nat) : Int)) (sch' := (SC g)) hF dX6_aim_7 z123 rfl rfl rfl iX6 1 (by decide) w_362 tyX6 tyX6_ok nmX6 rfl rfl rfl rfl (Nat.le_of_ble_eq_true rfl) rfl (y_ps rfl) (fun k' h => ⟨yset_n h, rfl⟩) ?_
  refine y_aload_n (pc := 10) hF dX6_aim_10 0 rfl ?_
  refine y_iload_n (pc := 11) hF dX6_aim_11 3 rfl ?_
  refine y_putf (pc := 12) (ci := 6) (σ' := yset (yset (yset σ 123 0 ((k : Nat) : Int)) 123 1 ((cs : Nat) : Int)) 123 2 ax) (sch' := (SC g)) hF dX6_aim_12 z123 rfl rfl rfl iX6 2 (by decide) w_363 tyX6 tyX6_ok nmX6 rfl rfl rfl rfl (Nat.le_of_ble_eq_true rfl) rfl (y_ps rfl) (fun k' h => ⟨yset_n h, rfl⟩) ?_
  refine y_aload_n (pc := 15) hF dX6_aim_15 0 rfl ?_
  refine y_iload (pc := 16) hF dX6_aim_16 4 rfl ?_
  refine y_putf (pc := 18) (ci := 6) (σ' := yset (yset (yset (yset σ 123 0 ((k : Nat) : Int)) 123 1 ((cs : Nat) : Int)) 123 2 ax) 123 3 ay) (sch' := (SC g)) hF dX6_aim_18 z123 rfl rfl rfl iX6 3 (by decide) w_366 tyX6 tyX6_ok nmX6 rfl rfl rfl rfl (Nat.le_of_ble_eq_true rfl) rfl (y_ps rfl) (fun k' h => ⟨yset_n h, rfl⟩) ?_
  refine y_aload_n (pc := 21) hF dX6_aim_21 0 rfl ?_
  refine y_iconst (pc := 22) hF dX6_aim_22 ?_
  refine y_putf (pc := 23) (ci := 6) (σ' := yset (yset (yset (yset (yset σ 123 0 ((k : Nat) : Int)) 123 1 ((cs : Nat) : Int)) 123 2 ax) 123 3 ay) 123 12 (-1)) (sch' := (SC g)) hF dX6_aim_23 z123 rfl rfl rfl iX6 12 (by decide) w_378 tyX6 tyX6_ok nmX6 rfl rfl rfl rfl (Nat.le_of_ble_eq_true rfl) rfl (y_ps rfl) (fun k' h => ⟨yset_n h, rfl⟩) ?_
  refine y_aload_n (pc := 26) hF dX6_aim_26 0 rfl ?_
  refine y_iconst (pc := 27) hF dX6_aim_27 ?_
  refine y_putf (pc := 28) (ci := 6) (σ' := yset (yset (yset (yset (yset (yset σ 123 0 ((k : Nat) : Int)) 123 1 ((cs : Nat) : Int)) 123 2 ax) 123 3 ay) 123 12 (-1)) 123 13 (-1)) (sch' := (SC g)) hF dX6_aim_28 z123 rfl rfl rfl iX6 13 (by decide) w_382 tyX6 tyX6_ok nmX6 rfl rfl rfl rfl (Nat.le_of_ble_eq_true rfl) rfl (y_ps rfl) (fun k' h => ⟨yset_n h, rfl⟩) ?_
  refine y_aload_n (pc := 31) hF dX6_aim_31 0 rfl ?_
  refine y_iconst (pc := 32) hF dX6_aim_32 ?_
  refine y_putf (pc := 33) (ci := 6) (σ' := yset (yset (yset (yset (yset (yset (yset σ 123 0 ((k : Nat) : Int)) 123 1 ((cs : Nat) : Int)) 123 2 ax) 123 3 ay) 123 12 (-1)) 123 13 (-1)) 123 14 (-1)) (sch' := (SC g)) hF dX6_aim_33 z123 rfl rfl rfl iX6 14 (by decide) w_386 tyX6 tyX6_ok nmX6 rfl rfl rfl rfl (Nat.le_of_ble_eq_true rfl) rfl (y_ps rfl) (fun k' h => ⟨yset_n h, rfl⟩) ?_
  refine y_aload_n (pc := 36) hF dX6_aim_36 0 rfl ?_
  refine y_iconst (pc := 37) hF dX6_aim_37 ?_
  refine y_putf (pc := 38) (ci := 6) (σ' := yset (yset (yset (yset (yset (yset (yset (yset σ 123 0 ((k : Nat) : Int)) 123 1 ((cs : Nat) : Int)) 123 2 ax) 123 3 ay) 123 12 (-1)) 123 13 (-1)) 123 14 (-1)) 123 15 0) (sch' := (SC g)) hF dX6_aim_38 z123 rfl rfl rfl iX6 15 (by decide) w_389 tyX6 tyX6_ok nmX6 rfl rfl rfl rfl (Nat.le_of_ble_eq_true rfl) rfl (y_ps rfl) (fun k' h => ⟨yset_n h, rfl⟩) ?_
  refine y_aload_n (pc := 41) hF dX6_aim_41 0 rfl ?_
  refine y_iconst (pc := 42) hF dX6_aim_42 ?_
  refine y_putf (pc := 43) (ci := 6) (σ' := yset (yset (yset (yset (yset (yset (yset (yset (yset σ 123 0 ((k : Nat) : Int)) 123 1 ((cs : Nat) : Int)) 123 2 ax) 123 3 ay) 123 12 (-1)) 123 13 (-1)) 123 14 (-1)) 123 15 0) 123 16 0) (sch' := (SC g)) hF dX6_aim_43 z123 rfl rfl rfl iX6 16 (by decide) w_393 tyX6 tyX6_ok nmX6 rfl rfl rfl rfl (Nat.le_of_ble_eq_true rfl) rfl (y_ps rfl) (fun k' h => ⟨yset_n h, rfl⟩) ?_
  refine y_aload_n (pc := 46) hF dX6_aim_46 0 rfl ?_
  refine y_iconst (pc := 47) hF dX6_aim_47 ?_
  refine y_putf (pc := 48) (ci := 6) (σ' := yset (yset (yset (yset (yset (yset (yset (yset (yset (yset σ 123 0 ((k : Nat) : Int)) 123 1 ((cs : Nat) : Int)) 123 2 ax) 123 3 ay) 123 12 (-1)) 123 13 (-1)) 123 14 (-1)) 123 15 0) 123 16 0) 123 17 0) (sch' := (SC g)) hF dX6_aim_48 z123 rfl rfl rfl iX6 17 (by decide) w_395 tyX6 tyX6_ok nmX6 rfl rfl rfl rfl (Nat.le_of_ble_eq_true rfl) rfl (y_ps rfl) (fun k' h => ⟨yset_n h, rfl⟩) ?_
  refine y_aload_n (pc := 51) hF dX6_aim_51 0 rfl ?_
  refine y_iconst (pc := 52) hF dX6_aim_52 ?_
  refine y_putf (pc := 53) (ci := 6) (σ' := yset (yset (yset (yset (yset (yset (yset (yset (yset (yset (yset σ 123 0 ((k : Nat) : Int)) 123 1 ((cs : Nat) : Int)) 123 2 ax) 123 3 ay) 123 12 (-1)) 123 13 (-1)) 123 14 (-1)) 123 15 0) 123 16 0) 123 17 0) 123 18 0) (sch' := (SC g)) hF dX6_aim_53 z123 rfl rfl rfl iX6 18 (by decide) w_397 tyX6 tyX6_ok nmX6 rfl rfl rfl rfl (Nat.le_of_ble_eq_true rfl) rfl (y_ps rfl) (fun k' h => ⟨yset_n h, rfl⟩) ?_
  refine y_aload_n (pc := 56) hF dX6_aim_56 0 rfl ?_
  refine y_iconst (pc := 57) hF dX6_aim_57 ?_
  refine y_putf (pc := 58) (ci := 6) (σ' := yset (yset (yset (yset (yset (yset (yset (yset (yset (yset (yset (yset σ 123 0 ((k : Nat) : Int)) 123 1 ((cs : Nat) : Int)) 123 2 ax) 123 3 ay) 123 12 (-1)) 123 13 (-1)) 123 14 (-1)) 123 15 0) 123 16 0) 123 17 0) 123 18 0) 123 19 0) (sch' := (SC g)) hF dX6_aim_58 z123 rfl rfl rfl iX6 19 (by decide) w_399 tyX6 tyX6_ok nmX6 rfl rfl rfl rfl (Nat.le_of_ble_eq_true rfl) rfl (y_ps rfl) (fun k' h => ⟨yset_n h, rfl⟩) ?_
  obtain ⟨τ0, hτ0⟩ : ∃ s, s = yset (yset (yset (yset (yset (yset (yset (yset (yset (yset (yset (yset σ 123 0 ((k : Nat) : Int)) 123 1 ((cs : Nat) : Int)) 123 2 ax) 123 3 ay) 123 12 (-1)) 123 13 (-1)) 123 14 (-1)) 123 15 0) 123 16 0) 123 17 0) 123 18 0) 123 19 0 := ⟨_, rfl⟩
  rw [← hτ0]
  have zf0 : fc 123 123 σ τ0 := by rw [hτ0]; exact ((((((((((((fc.rf σ).st (by omega)).st (by omega)).st (by omega)).st (by omega)).st (by omega)).st (by omega)).st (by omega)).st (by omega)).st (by omega)).st (by omega)).st (by omega)).st (by omega)
  have zA_τ0 := hA.fc (by omega) zf0
  have zS_τ0 := hS.fc (by omega) zf0
  have zT_τ0 := hT.fr (zf0 127 (by omega))
  have zB_τ0 : rA τ0 k cs ax ay := by rw [hτ0]; exact ⟨by simp [yset_ap], by simp [yset_ap], by simp [yset_ap], by simp [yset_ap]⟩
  have zQ0 : rQ τ0 w q0 := by rw [hτ0]; exact ⟨by simp [yset_ap], by simp [yset_ap], by simp [yset_ap], by simp [yset_ap], by simp [yset_ap], by simp [yset_ap], by simp [yset_ap], by simp [yset_ap]⟩
  refine y_aload_n (pc := 61) hF dX6_aim_61 0 rfl ?_
  refine y_cv (y_rV (pc := 62) hF (tX6_countUnusable k cs w h T S F P O s re fo ra tu we sh hn hP hcs zA_τ0 zS_τ0 hk hc2 ax ay zB_τ0 zT_τ0) dX6_aim_62 z123 rfl rfl rfl w_897 qX6_countUnusable rfl ⟨Nat.le_of_ble_eq_true rfl, Nat.le_of_ble_eq_true rfl⟩ ⟨Nat.zero_le _, Nat.zero_le _⟩ (Nat.le_of_ble_eq_true rfl) rfl) rfl rfl (fun n' σ62 zp62 => ?_)
  obtain ⟨zn62, zp62⟩ := zp62
  have zn62 := zn62.symm
  subst zn62
  have zA_σ62 := zA_τ0.fc (by omega) zp62.1.fc
  have zS_σ62 := zS_τ0.fc (by omega) zp62.1.fc
  have zB_σ62 := zB_τ0.fc (by omega) zp62.1.fc
  refine y_aload_n (pc := 65) hF dX6_aim_65 0 rfl ?_
  refine y_cv (y_rV (pc := 66) hF (tX6_gatherKnown k cs w h T S F P O s re fo ra tu we sh hn hP hcs zA_σ62 zS_σ62 hk hc2 ax ay zB_σ62 hi) dX6_aim_66 z123 rfl rfl rfl w_902 qX6_gatherKnown rfl ⟨Nat.le_of_ble_eq_true rfl, Nat.le_of_ble_eq_true rfl⟩ ⟨Nat.zero_le _, Nat.zero_le _⟩ (Nat.le_of_ble_eq_true rfl) rfl) rfl rfl (fun n' σ66 zp66 => ?_)
  obtain ⟨zn66, zp66⟩ := zp66
  have zn66 := zn66.symm
  subst zn66
  exact y_vret (pc := 69) hF dX6_aim_69 (Nat.zero_le _) (Nat.zero_le _) ⟨rfl, rfl, ((zf0.wk (by omega) (by omega)).tr (zp62.1.fc.wk (by omega) (by omega))).tr (zp66.1.fc.wk (by omega) (by omega)), ⟨zB_σ62.fg zp66.1, zp62.2.1.fr (zp66.1.1 127 (by omega)), zp62.2.2.fr (zp66.1.1 127 (by omega)), zp66.2⟩, (zQ0.fr (fun j _ _ => zp62.1 123 j (by omega))).fr (fun j _ _ => zp66.1.2 j (by omega))⟩
