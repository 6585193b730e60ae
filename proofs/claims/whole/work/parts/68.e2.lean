theorem dX11_thrown_0 : decode cX11_thrown 0 = .ok (.aload_n 0, 1) := by decide +kernel
theorem dX11_thrown_1 : decode cX11_thrown 1 = .ok (.getfield 1, 3) := by decide +kernel
theorem dX11_thrown_4 : decode cX11_thrown 4 = .ok (.ireturn, 1) := by decide +kernel
set_option maxHeartbeats 4000000 in
set_option maxRecDepth 100000 in
theorem tX11_thrown {l : Launch} {g : yG} {n : Nat} {σ : yM} (hn : 172 ≤ n) : yMet l g yX11_thrown cX11_thrown 1 (some .int) (rmL 1) [yR g 155] (SC g) n σ (SC g) (yPp (σ 155 0) n σ) := by
  refine y_start (by decide) (Nat.le_of_ble_eq_true rfl) (fun X0 hF => ?_)
  show yV X0 g 1 (yQ X0 g (SC g) (yPp (σ 155 0) n σ) (rmL 1)) (SC g) n σ 0 0 0 [(0, yR g 155)] []
  refine y_aload_n (pc := 0) hF dX11_thrown_0 0 rfl ?_
  refine y_get (pc := 1) (ci := 11) hF dX11_thrown_1 (by omega) rfl rfl rfl iX11 0 (by decide) w_1247 rfl ?_
  exact y_iret (pc := 4) hF dX11_thrown_4 (Nat.zero_le _) (Nat.zero_le _) ⟨_, rfl, rfl, rfl, rfl⟩

theorem dX11_isFine_0 : decode cX11_isFine 0 = .ok (.iload_n 1, 1) := by decide +kernel
theorem dX11_isFine_1 : decode cX11_isFine 1 = .ok (.ifCond .ne 25, 3) := by decide +kernel
theorem dX11_isFine_4 : decode cX11_isFine 4 = .ok (.aload_n 0, 1) := by decide +kernel
theorem dX11_isFine_5 : decode cX11_isFine 5 = .ok (.getfield 1, 3) := by decide +kernel
theorem dX11_isFine_8 : decode cX11_isFine 8 = .ok (.ifCond .ne 18, 3) := by decide +kernel
theorem dX11_isFine_11 : decode cX11_isFine 11 = .ok (.aload_n 0, 1) := by decide +kernel
theorem dX11_isFine_12 : decode cX11_isFine 12 = .ok (.iload_n 2, 1) := by decide +kernel
theorem dX11_isFine_13 : decode cX11_isFine 13 = .ok (.putfield 1, 3) := by decide +kernel
theorem dX11_isFine_16 : decode cX11_isFine 16 = .ok (.aload_n 0, 1) := by decide +kernel
theorem dX11_isFine_17 : decode cX11_isFine 17 = .ok (.getfield 7, 3) := by decide +kernel
theorem dX11_isFine_20 : decode cX11_isFine 20 = .ok (.iload_n 3, 1) := by decide +kernel
theorem dX11_isFine_21 : decode cX11_isFine 21 = .ok (.dup2, 1) := by decide +kernel
theorem dX11_isFine_22 : decode cX11_isFine 22 = .ok (.iaload, 1) := by decide +kernel
theorem dX11_isFine_23 : decode cX11_isFine 23 = .ok (.iconst 1, 1) := by decide +kernel
theorem dX11_isFine_24 : decode cX11_isFine 24 = .ok (.iadd, 1) := by decide +kernel
theorem dX11_isFine_25 : decode cX11_isFine 25 = .ok (.iastore, 1) := by decide +kernel
theorem dX11_isFine_26 : decode cX11_isFine 26 = .ok (.aload_n 0, 1) := by decide +kernel
theorem dX11_isFine_27 : decode cX11_isFine 27 = .ok (.getfield 1, 3) := by decide +kernel
theorem dX11_isFine_30 : decode cX11_isFine 30 = .ok (.ifCond .ne 7, 3) := by decide +kernel
theorem dX11_isFine_33 : decode cX11_isFine 33 = .ok (.iconst 1, 1) := by decide +kernel
theorem dX11_isFine_34 : decode cX11_isFine 34 = .ok (.goto 4, 3) := by decide +kernel
theorem dX11_isFine_37 : decode cX11_isFine 37 = .ok (.iconst 0, 1) := by decide +kernel
theorem dX11_isFine_38 : decode cX11_isFine 38 = .ok (.ireturn, 1) := by decide +kernel
set_option maxHeartbeats 4000000 in
set_option maxRecDepth 100000 in
theorem tX11_isFine {l : Launch} {g : yG} {n : Nat} {σ : yM} (hn : 172 ≤ n) (ht : σ 155 0 = 0) (b : Bool) (cd kd : Int) (hcd : 0 < cd ∧ cd < 100) (hkd : 0 ≤ kd ∧ kd < 2) : yMet l g yX11_isFine cX11_isFine 4 (some .boolean) (rmL 1) [yR g 155, yI (bi b), yI cd, yI kd] (SC g) n σ (SC g) (yPi (fun v n' σ' => n' = n ∧ ((b = true ∧ v = 1 ∧ σ' = σ) ∨ (b = false ∧ v = 0 ∧ σ' = yset (yset σ 155 0 cd) 156 kd (σ 156 kd + 1))))) := by
  refine y_start (by decide) (Nat.le_of_ble_eq_true rfl) (fun X0 hF => ?_)
  show yV X0 g 4 (yQ X0 g (SC g) (yPi (fun v n' σ' => n' = n ∧ ((b = true ∧ v = 1 ∧ σ' = σ) ∨ (b = false ∧ v = 0 ∧ σ' = yset (yset σ 155 0 cd) 156 kd (σ 156 kd + 1))))) (rmL 1)) (SC g) n σ 0 0 0 [(0, yR g 155), (1, yI (bi b)), (2, yI cd), (3, yI kd)] []
  refine y_iload_n (pc := 0) hF dX11_isFine_0 1 rfl ?_
  refine y_if_ne (pc := 1) hF dX11_isFine_1 26 rfl bi_r (fun zc1 => ?_) (fun zc1 => ?_)
  · replace zc1 := bi_n0.mp zc1
    refine y_aload_n (pc := 26) hF dX11_isFine_26 0 rfl ?_
    refine y_get (pc := 27) (ci := 11) hF dX11_isFine_27 (by omega) rfl rfl rfl iX11 0 (by decide) w_1247 rfl ?_
    rw [show σ 155 0 = 0 from (by first | exact ht | (rw [yset_n (by omega), yset_e]))]
    refine y_if_ne (pc := 30) hF dX11_isFine_30 37 rfl (by decide) (fun zc30 => absurd zc30 (by decide)) (fun _ => ?_)
    refine y_iconst (pc := 33) hF dX11_isFine_33 ?_
    refine y_goto (pc := 34) hF dX11_isFine_34 38 rfl ?_
    exact y_zret (pc := 38) hF dX11_isFine_38 (by decide) (Nat.zero_le _) (Nat.zero_le _) ⟨_, rfl, rfl, Or.inl ⟨zc1, rfl, rfl⟩⟩
  · replace zc1 := bi_0.mp zc1
    refine y_aload_n (pc := 4) hF dX11_isFine_4 0 rfl ?_
    refine y_get (pc := 5) (ci := 11) hF dX11_isFine_5 (by omega) rfl rfl rfl iX11 0 (by decide) w_1247 rfl ?_
    rw [show σ 155 0 = 0 from ht]
    refine y_if_ne (pc := 8) hF dX11_isFine_8 26 rfl (by decide) (fun zc8 => absurd zc8 (by decide)) (fun _ => ?_)
    refine y_aload_n (pc := 11) hF dX11_isFine_11 0 rfl ?_
    refine y_iload_n (pc := 12) hF dX11_isFine_12 2 rfl ?_
    refine y_putf (pc := 13) (ci := 11) (σ' := yset σ 155 0 cd) (sch' := (SC g)) hF dX11_isFine_13 (by omega) rfl rfl rfl iX11 0 (by decide) w_1247 tyX11 tyX11_ok nmX11 rfl rfl rfl rfl (Nat.le_of_ble_eq_true rfl) rfl (y_ps rfl) (fun k' h => ⟨yset_n h, rfl⟩) ?_
    refine y_aload_n (pc := 16) hF dX11_isFine_16 0 rfl ?_
    refine y_get (pc := 17) (ci := 11) hF dX11_isFine_17 (by omega) rfl rfl rfl iX11 1 (by decide) w_1248 rfl ?_
    refine y_iload_n (pc := 20) hF dX11_isFine_20 3 rfl ?_
    refine y_dup2 (pc := 21) hF dX11_isFine_21 rfl rfl ?_
    refine y_iaload (pc := 22) hF dX11_isFine_22 (by omega) rfl ⟨hkd.1, by show _ < (2 : Int); omega⟩ (by decide) ?_
    rw [show (yset σ 155 0 cd) 156 kd = σ 156 kd from (by rw [yset_n (by omega)])]
    refine y_iconst (pc := 23) hF dX11_isFine_23 ?_
    refine y_iadd (pc := 24) hF dX11_isFine_24 ?_
    refine y_iastore (pc := 25) hF dX11_isFine_25 (by omega) rfl ⟨hkd.1, by show _ < (2 : Int); omega⟩ (by decide) ?_
    refine y_aload_n (pc := 26) hF dX11_isFine_26 0 rfl ?_
    refine y_get (pc := 27) (ci := 11) hF dX11_isFine_27 (by omega) rfl rfl rfl iX11 0 (by decide) w_1247 rfl ?_
    rw [show (yset (yset σ 155 0 cd) 156 kd ((σ 156 kd) + 1)) 155 0 = cd from (by first | exact ht | (rw [yset_n (by omega), yset_e]))]
    refine y_if_ne (pc := 30) hF dX11_isFine_30 37 rfl (by omega) (fun zc30 => ?_) (fun zc30 => ?_)
    · skip
      refine y_iconst (pc := 37) hF dX11_isFine_37 ?_
      exact y_zret (pc := 38) hF dX11_isFine_38 (by decide) (Nat.zero_le _) (Nat.zero_le _) ⟨_, rfl, rfl, Or.inr ⟨zc1, rfl, rfl⟩⟩
    · skip
      refine y_iconst (pc := 33) hF dX11_isFine_33 ?_
      refine y_goto (pc := 34) hF dX11_isFine_34 38 rfl ?_
      exact y_zret (pc := 38) hF dX11_isFine_38 (by decide) (Nat.zero_le _) (Nat.zero_le _) (by exfalso; omega)

theorem dX11_isThere_0 : decode cX11_isThere 0 = .ok (.aload_n 0, 1) := by decide +kernel
theorem dX11_isThere_1 : decode cX11_isThere 1 = .ok (.aload_n 0, 1) := by decide +kernel
theorem dX11_isThere_2 : decode cX11_isThere 2 = .ok (.iconst 0, 1) := by decide +kernel
theorem dX11_isThere_3 : decode cX11_isThere 3 = .ok (.iload_n 1, 1) := by decide +kernel
theorem dX11_isThere_4 : decode cX11_isThere 4 = .ok (.iload_n 2, 1) := by decide +kernel
theorem dX11_isThere_5 : decode cX11_isThere 5 = .ok (.invokevirtual 72, 3) := by decide +kernel
theorem dX11_isThere_8 : decode cX11_isThere 8 = .ok (.iconst 1, 1) := by decide +kernel
theorem dX11_isThere_9 : decode cX11_isThere 9 = .ok (.iconst 0, 1) := by decide +kernel
theorem dX11_isThere_10 : decode cX11_isThere 10 = .ok (.invokevirtual 284, 3) := by decide +kernel
theorem dX11_isThere_13 : decode cX11_isThere 13 = .ok (.ireturn, 1) := by decide +kernel
set_option maxHeartbeats 4000000 in
set_option maxRecDepth 100000 in
theorem tX11_isThere {l : Launch} {g : yG} {n : Nat} {σ : yM} (w h : Int) (T S F P O : Int → Int → Int) (hn : 172 ≤ n) (hA : rM σ 0 w h T S F P O) (ht : σ 155 0 = 0) (x y : Int) (hx : -2147483648 ≤ x ∧ x < 2147483648) (hy : -2147483648 ≤ y ∧ y < 2147483648) : yMet l g yX11_isThere cX11_isThere 3 (some .boolean) (rmL 3) [yR g 155, yI x, yI y] (SC g) n σ (SC g) (yPi (fun v n' σ' => n' = n ∧ ((sIn w h x y = true ∧ v = 1 ∧ σ' = σ) ∨ (sIn w h x y = false ∧ v = 0 ∧ σ' = yset (yset σ 155 0 1) 156 0 (σ 156 0 + 1))))) := by
  obtain ⟨hw1, hw2, hw3, hw4⟩ := id hA.1.1
  refine y_start (by decide) (Nat.le_of_ble_eq_true rfl) (fun X0 hF => ?_)
  show yV X0 g 3 (yQ X0 g (SC g) (yPi (fun v n' σ' => n' = n ∧ ((sIn w h x y = true ∧ v = 1 ∧ σ' = σ) ∨ (sIn w h x y = false ∧ v = 0 ∧ σ' = yset (yset σ 155 0 1) 156 0 (σ 156 0 + 1))))) (rmL 3)) (SC g) n σ 0 0 0 [(0, yR g 155), (1, yI x), (2, yI y)] []
  refine y_aload_n (pc := 0) hF dX11_isThere_0 0 rfl ?_
  refine y_aload_n (pc := 1) hF dX11_isThere_1 0 rfl ?_
  refine y_iconst (pc := 2) hF dX11_isThere_2 ?_
  refine y_iload_n (pc := 3) hF dX11_isThere_3 1 rfl ?_
  refine y_iload_n (pc := 4) hF dX11_isThere_4 2 rfl ?_
  have zz5 := y_rV (pc := 5) hF (tX11_has (n := n) (σ := σ) 0 w h T S F P O hn (by omega) hA x y hx hy) dX11_isThere_5 (by omega) rfl rfl rfl w_1444 qX11_has rfl ⟨Nat.le_of_ble_eq_true rfl, Nat.le_of_ble_eq_true rfl⟩ ⟨Nat.zero_le _, Nat.zero_le _⟩ (Nat.le_of_ble_eq_true rfl) rfl (rest := [yR g 155]) (cells := 0) (slots := 0) (lv := [(0, yR g 155), (1, yI x), (2, yI y)])
  refine y_cp (zz5) ?_
  refine y_iconst (pc := 8) hF dX11_isThere_8 ?_
  refine y_iconst (pc := 9) hF dX11_isThere_9 ?_
  refine y_ci (y_rV (pc := 10) hF (tX11_isFine hn ht (sIn w h x y) 1 0 (by decide) (by decide)) dX11_isThere_10 (by omega) rfl rfl rfl w_1395 qX11_isFine rfl ⟨Nat.le_of_ble_eq_true rfl, Nat.le_of_ble_eq_true rfl⟩ ⟨Nat.zero_le _, Nat.zero_le _⟩ (Nat.le_of_ble_eq_true rfl) rfl) rfl rfl (fun r10 n' σ10 zp10 => ?_)
  obtain ⟨zn10, zp10⟩ := zp10
  have zn10 := zn10.symm
  subst zn10
  rcases zp10 with ⟨zb10, zv10, zs10⟩ | ⟨zb10, zv10, zs10⟩
  · subst zv10; subst zs10
    exact y_zret (pc := 13) hF dX11_isThere_13 (by decide) (Nat.zero_le _) (Nat.zero_le _) ⟨_, rfl, rfl, Or.inl ⟨zb10, rfl, rfl⟩⟩
  · subst zv10; subst zs10
    exact y_zret (pc := 13) hF dX11_isThere_13 (by decide) (Nat.zero_le _) (Nat.zero_le _) ⟨_, rfl, rfl, Or.inr ⟨zb10, rfl, rfl⟩⟩

theorem dX11_spreads_0 : decode cX11_spreads 0 = .ok (.iconst 1, 1) := by decide +kernel
theorem dX11_spreads_1 : decode cX11_spreads 1 = .ok (.istore_n 3, 1) := by decide +kernel
theorem dX11_spreads_2 : decode cX11_spreads 2 = .ok (.aload_n 0, 1) := by decide +kernel
theorem dX11_spreads_3 : decode cX11_spreads 3 = .ok (.getfield 53, 3) := by decide +kernel
theorem dX11_spreads_6 : decode cX11_spreads 6 = .ok (.iconst 0, 1) := by decide +kernel
theorem dX11_spreads_7 : decode cX11_spreads 7 = .ok (.iload_n 1, 1) := by decide +kernel
theorem dX11_spreads_8 : decode cX11_spreads 8 = .ok (.iastore, 1) := by decide +kernel
theorem dX11_spreads_9 : decode cX11_spreads 9 = .ok (.aload_n 0, 1) := by decide +kernel
theorem dX11_spreads_10 : decode cX11_spreads 10 = .ok (.getfield 50, 3) := by decide +kernel
theorem dX11_spreads_13 : decode cX11_spreads 13 = .ok (.iload_n 1, 1) := by decide +kernel
theorem dX11_spreads_14 : decode cX11_spreads 14 = .ok (.iload_n 2, 1) := by decide +kernel
theorem dX11_spreads_15 : decode cX11_spreads 15 = .ok (.iastore, 1) := by decide +kernel
theorem dX11_spreads_16 : decode cX11_spreads 16 = .ok (.iconst 0, 1) := by decide +kernel
theorem dX11_spreads_17 : decode cX11_spreads 17 = .ok (.istore 4, 2) := by decide +kernel
theorem dX11_spreads_19 : decode cX11_spreads 19 = .ok (.iload 4, 2) := by decide +kernel
theorem dX11_spreads_21 : decode cX11_spreads 21 = .ok (.iload_n 3, 1) := by decide +kernel
theorem dX11_spreads_22 : decode cX11_spreads 22 = .ok (.if_icmp .ge 159, 3) := by decide +kernel
theorem dX11_spreads_25 : decode cX11_spreads 25 = .ok (.aload_n 0, 1) := by decide +kernel
theorem dX11_spreads_26 : decode cX11_spreads 26 = .ok (.getfield 53, 3) := by decide +kernel
theorem dX11_spreads_29 : decode cX11_spreads 29 = .ok (.iload 4, 2) := by decide +kernel
theorem dX11_spreads_31 : decode cX11_spreads 31 = .ok (.iaload, 1) := by decide +kernel
theorem dX11_spreads_32 : decode cX11_spreads 32 = .ok (.bipush 20, 2) := by decide +kernel
theorem dX11_spreads_34 : decode cX11_spreads 34 = .ok (.irem, 1) := by decide +kernel
theorem dX11_spreads_35 : decode cX11_spreads 35 = .ok (.istore 5, 2) := by decide +kernel
theorem dX11_spreads_37 : decode cX11_spreads 37 = .ok (.aload_n 0, 1) := by decide +kernel
theorem dX11_spreads_38 : decode cX11_spreads 38 = .ok (.getfield 53, 3) := by decide +kernel
theorem dX11_spreads_41 : decode cX11_spreads 41 = .ok (.iload 4, 2) := by decide +kernel
theorem dX11_spreads_43 : decode cX11_spreads 43 = .ok (.iaload, 1) := by decide +kernel
theorem dX11_spreads_44 : decode cX11_spreads 44 = .ok (.bipush 20, 2) := by decide +kernel
theorem dX11_spreads_46 : decode cX11_spreads 46 = .ok (.idiv, 1) := by decide +kernel
theorem dX11_spreads_47 : decode cX11_spreads 47 = .ok (.istore 6, 2) := by decide +kernel
theorem dX11_spreads_49 : decode cX11_spreads 49 = .ok (.iconst 0, 1) := by decide +kernel
theorem dX11_spreads_50 : decode cX11_spreads 50 = .ok (.istore 7, 2) := by decide +kernel
theorem dX11_spreads_52 : decode cX11_spreads 52 = .ok (.iload 7, 2) := by decide +kernel
theorem dX11_spreads_54 : decode cX11_spreads 54 = .ok (.iconst 4, 1) := by decide +kernel
theorem dX11_spreads_55 : decode cX11_spreads 55 = .ok (.if_icmp .ge 120, 3) := by decide +kernel
theorem dX11_spreads_58 : decode cX11_spreads 58 = .ok (.iload 5, 2) := by decide +kernel
theorem dX11_spreads_60 : decode cX11_spreads 60 = .ok (.iload 7, 2) := by decide +kernel
theorem dX11_spreads_62 : decode cX11_spreads 62 = .ok (.ifCond .ne 7, 3) := by decide +kernel
theorem dX11_spreads_65 : decode cX11_spreads 65 = .ok (.iconst (-1), 1) := by decide +kernel
theorem dX11_spreads_66 : decode cX11_spreads 66 = .ok (.goto 14, 3) := by decide +kernel
theorem dX11_spreads_69 : decode cX11_spreads 69 = .ok (.iload 7, 2) := by decide +kernel
theorem dX11_spreads_71 : decode cX11_spreads 71 = .ok (.iconst 1, 1) := by decide +kernel
theorem dX11_spreads_72 : decode cX11_spreads 72 = .ok (.if_icmp .ne 7, 3) := by decide +kernel
theorem dX11_spreads_75 : decode cX11_spreads 75 = .ok (.iconst 1, 1) := by decide +kernel
theorem dX11_spreads_76 : decode cX11_spreads 76 = .ok (.goto 4, 3) := by decide +kernel
theorem dX11_spreads_79 : decode cX11_spreads 79 = .ok (.iconst 0, 1) := by decide +kernel
theorem dX11_spreads_80 : decode cX11_spreads 80 = .ok (.iadd, 1) := by decide +kernel
theorem dX11_spreads_81 : decode cX11_spreads 81 = .ok (.istore 8, 2) := by decide +kernel
theorem dX11_spreads_83 : decode cX11_spreads 83 = .ok (.iload 6, 2) := by decide +kernel
theorem dX11_spreads_85 : decode cX11_spreads 85 = .ok (.iload 7, 2) := by decide +kernel
theorem dX11_spreads_87 : decode cX11_spreads 87 = .ok (.iconst 2, 1) := by decide +kernel
theorem dX11_spreads_88 : decode cX11_spreads 88 = .ok (.if_icmp .ne 7, 3) := by decide +kernel
theorem dX11_spreads_91 : decode cX11_spreads 91 = .ok (.iconst (-1), 1) := by decide +kernel
theorem dX11_spreads_92 : decode cX11_spreads 92 = .ok (.goto 14, 3) := by decide +kernel
theorem dX11_spreads_95 : decode cX11_spreads 95 = .ok (.iload 7, 2) := by decide +kernel
theorem dX11_spreads_97 : decode cX11_spreads 97 = .ok (.iconst 3, 1) := by decide +kernel
theorem dX11_spreads_98 : decode cX11_spreads 98 = .ok (.if_icmp .ne 7, 3) := by decide +kernel
theorem dX11_spreads_101 : decode cX11_spreads 101 = .ok (.iconst 1, 1) := by decide +kernel
theorem dX11_spreads_102 : decode cX11_spreads 102 = .ok (.goto 4, 3) := by decide +kernel
theorem dX11_spreads_105 : decode cX11_spreads 105 = .ok (.iconst 0, 1) := by decide +kernel
theorem dX11_spreads_106 : decode cX11_spreads 106 = .ok (.iadd, 1) := by decide +kernel
theorem dX11_spreads_107 : decode cX11_spreads 107 = .ok (.istore 9, 2) := by decide +kernel
theorem dX11_spreads_109 : decode cX11_spreads 109 = .ok (.aload_n 0, 1) := by decide +kernel
theorem dX11_spreads_110 : decode cX11_spreads 110 = .ok (.iconst 0, 1) := by decide +kernel
theorem dX11_spreads_111 : decode cX11_spreads 111 = .ok (.iload 8, 2) := by decide +kernel
theorem dX11_spreads_113 : decode cX11_spreads 113 = .ok (.iload 9, 2) := by decide +kernel
theorem dX11_spreads_115 : decode cX11_spreads 115 = .ok (.invokevirtual 75, 3) := by decide +kernel
theorem dX11_spreads_118 : decode cX11_spreads 118 = .ok (.ifCond .eq 51, 3) := by decide +kernel
theorem dX11_spreads_121 : decode cX11_spreads 121 = .ok (.aload_n 0, 1) := by decide +kernel
theorem dX11_spreads_122 : decode cX11_spreads 122 = .ok (.getfield 50, 3) := by decide +kernel
theorem dX11_spreads_125 : decode cX11_spreads 125 = .ok (.iload 8, 2) := by decide +kernel
theorem dX11_spreads_127 : decode cX11_spreads 127 = .ok (.iload 9, 2) := by decide +kernel
theorem dX11_spreads_129 : decode cX11_spreads 129 = .ok (.invokestatic 56, 3) := by decide +kernel
theorem dX11_spreads_132 : decode cX11_spreads 132 = .ok (.iaload, 1) := by decide +kernel
theorem dX11_spreads_133 : decode cX11_spreads 133 = .ok (.iconst (-1), 1) := by decide +kernel
theorem dX11_spreads_134 : decode cX11_spreads 134 = .ok (.if_icmp .eq 6, 3) := by decide +kernel
theorem dX11_spreads_137 : decode cX11_spreads 137 = .ok (.goto 32, 3) := by decide +kernel
theorem dX11_spreads_140 : decode cX11_spreads 140 = .ok (.aload_n 0, 1) := by decide +kernel
theorem dX11_spreads_141 : decode cX11_spreads 141 = .ok (.getfield 50, 3) := by decide +kernel
theorem dX11_spreads_144 : decode cX11_spreads 144 = .ok (.iload 8, 2) := by decide +kernel
theorem dX11_spreads_146 : decode cX11_spreads 146 = .ok (.iload 9, 2) := by decide +kernel
theorem dX11_spreads_148 : decode cX11_spreads 148 = .ok (.invokestatic 56, 3) := by decide +kernel
theorem dX11_spreads_151 : decode cX11_spreads 151 = .ok (.iload_n 2, 1) := by decide +kernel
theorem dX11_spreads_152 : decode cX11_spreads 152 = .ok (.iastore, 1) := by decide +kernel
theorem dX11_spreads_153 : decode cX11_spreads 153 = .ok (.aload_n 0, 1) := by decide +kernel
theorem dX11_spreads_154 : decode cX11_spreads 154 = .ok (.getfield 53, 3) := by decide +kernel
theorem dX11_spreads_157 : decode cX11_spreads 157 = .ok (.iload_n 3, 1) := by decide +kernel
theorem dX11_spreads_158 : decode cX11_spreads 158 = .ok (.iload 8, 2) := by decide +kernel
theorem dX11_spreads_160 : decode cX11_spreads 160 = .ok (.iload 9, 2) := by decide +kernel
theorem dX11_spreads_162 : decode cX11_spreads 162 = .ok (.invokestatic 56, 3) := by decide +kernel
theorem dX11_spreads_165 : decode cX11_spreads 165 = .ok (.iastore, 1) := by decide +kernel
theorem dX11_spreads_166 : decode cX11_spreads 166 = .ok (.iinc 3 1, 3) := by decide +kernel
theorem dX11_spreads_169 : decode cX11_spreads 169 = .ok (.iinc 7 1, 3) := by decide +kernel
theorem dX11_spreads_172 : decode cX11_spreads 172 = .ok (.goto (-120), 3) := by decide +kernel
theorem dX11_spreads_175 : decode cX11_spreads 175 = .ok (.iinc 4 1, 3) := by decide +kernel
theorem dX11_spreads_178 : decode cX11_spreads 178 = .ok (.goto (-159), 3) := by decide +kernel
theorem dX11_spreads_181 : decode cX11_spreads 181 = .ok (.return_, 1) := by decide +kernel
set_option maxHeartbeats 4000000 in
set_option maxRecDepth 100000 in
theorem tX11_spreads {l : Launch} {g : yG} {n : Nat} {σ : yM} (w h : Int) (T S F P O : Int → Int → Int) (hn : 172 ≤ n) (hA : rM σ 0 w h T S F P O) (L : Int → Int → Int) (hL : rPm σ w h L) (hLb : ∀ x y, -1 ≤ L x y ∧ L x y ≤ 1000) (a b num : Int) (hi : sIn w h a b = true) (hLa : L a b = -1) (hnum : 0 ≤ num ∧ num ≤ 1000) : yMet l g yX11_spreads cX11_spreads 10 none (rmL 4) [yR g 155, yI (20 * b + a), yI num] (SC g) n σ (SC g) (yPv (fun n' σ' => n' = n ∧ fc 169 170 σ σ' ∧ rPm σ' w h (spr w h T num 401 0 (lup L a b num, [(a, b)])).1)) := by
  obtain ⟨hw1, hw2, hw3, hw4⟩ := id hA.1.1
  have zi0 := sIn_iff.mp hi
  refine y_start (by decide) (Nat.le_of_ble_eq_true rfl) (fun X0 hF => ?_)
  show yV X0 g 10 (yQ X0 g (SC g) (yPv (fun n' σ' => n' = n ∧ fc 169 170 σ σ' ∧ rPm σ' w h (spr w h T num 401 0 (lup L a b num, [(a, b)])).1)) (rmL 4)) (SC g) n σ 0 0 0 [(0, yR g 155), (1, yI (20 * b + a)), (2, yI num)] []
  refine y_iconst (pc := 0) hF dX11_spreads_0 ?_
  refine y_istore_n (pc := 1) (lv' := [(0, yR g 155), (1, yI (20 * b + a)), (2, yI num), (3, yI 1)]) hF dX11_spreads_1 (by decide) rfl rfl ?_
  refine y_aload_n (pc := 2) hF dX11_spreads_2 0 rfl ?_
  refine y_get (pc := 3) (ci := 11) hF dX11_spreads_3 (by omega) rfl rfl rfl iX11 39 (by decide) w_1286 rfl ?_
  refine y_iconst (pc := 6) hF dX11_spreads_6 ?_
  refine y_iload_n (pc := 7) hF dX11_spreads_7 1 rfl ?_
  refine y_iastore (pc := 8) hF dX11_spreads_8 (by omega) rfl (by decide) (by decide) ?_
  obtain ⟨τ0, hτ0⟩ : ∃ s, s = yset σ 170 0 (20 * b + a) := ⟨_, rfl⟩
  rw [← hτ0]
  refine y_aload_n (pc := 9) hF dX11_spreads_9 0 rfl ?_
  refine y_get (pc := 10) (ci := 11) hF dX11_spreads_10 (by omega) rfl rfl rfl iX11 38 (by decide) w_1285 rfl ?_
  refine y_iload_n (pc := 13) hF dX11_spreads_13 1 rfl ?_
  refine y_iload_n (pc := 14) hF dX11_spreads_14 2 rfl ?_
  refine y_iastore (pc := 15) hF dX11_spreads_15 (by omega) rfl ⟨by omega, by show _ < (400 : Int); omega⟩ (by decide) ?_
  obtain ⟨τ1, hτ1⟩ : ∃ s, s = yset τ0 169 (20 * b + a) num := ⟨_, rfl⟩
  rw [← hτ1]
  have zst := pOk.start (w := w) (h := h) ⟨hw1, hw2⟩ ⟨hw3, hw4⟩ hLb hi hLa hnum
  have zf1 : fc 169 170 σ τ1 := by rw [hτ1, hτ0]; exact ((fc.rf σ).st (by omega)).st (by omega)
  have zL1 : rPm τ1 w h (lup L a b num) := fun x y x1 x2 y1 y2 => by { rw [hτ1, yset_ap]; rcases Decidable.em (x = a ∧ y = b) with e | e; (rw [e.1, e.2, if_pos ⟨rfl, rfl⟩, lup_s]); (rw [if_neg (by omega), lup_n e, hτ0, yset_n (by omega)]; exact hL x y x1 x2 y1 y2) }
  have zQ1 : rQm τ1 [(a, b)] := fun m h0 h1 => by { simp at h1; rw [show m = 0 by omega, hτ1, yset_n (by omega), hτ0, yset_e]; rfl }
  refine y_iconst (pc := 16) hF dX11_spreads_16 ?_
  refine y_istore (pc := 17) (lv' := [(0, yR g 155), (1, yI (20 * b + a)), (2, yI num), (3, yI 1), (4, yI 0)]) hF dX11_spreads_17 (by decide) rfl rfl ?_
  have zL19 : ∀ (N : Nat) (τ : yM) (m : Int) (q : aP), N = (400 - m).toNat → (fc 169 170 σ τ ∧ (0 ≤ m ∧ m ≤ 400) ∧ rPm τ w h q.1 ∧ rQm τ q.2 ∧ pOk w h q ∧ spr w h T num 401 0 (lup L a b num, [(a, b)]) = spr w h T num (401 - m.toNat) m q) → yV X0 g 10 (yQ X0 g (SC g) (yPv (fun n' σ' => n' = n ∧ fc 169 170 σ σ' ∧ rPm σ' w h (spr w h T num 401 0 (lup L a b num, [(a, b)])).1)) (rmL 4)) (SC g) n τ 0 0 19 [(0, yR g 155), (1, yI (20 * b + a)), (2, yI num), (3, yI (q.2.length : Int)), (4, yI m)] [] := by
    intro N
    induction N using Nat.strongRecOn with
    | ind N zh19 =>
      intro τ  m  q  zN19 zI19
      have zA_τ := hA.fQ (by omega) zI19.1.fQ
      have zln := zI19.2.2.2.2.1.len ⟨hw1, hw2⟩ ⟨hw3, hw4⟩
      refine y_iload (pc := 19) hF dX11_spreads_19 4 rfl ?_
      refine y_iload_n (pc := 21) hF dX11_spreads_21 3 rfl ?_
      refine y_icmp_ge (pc := 22) hF dX11_spreads_22 181 rfl (by omega) (by omega) (fun zc22 => ?_) (fun zc22 => ?_)
      · skip
        exact y_vret (pc := 181) hF dX11_spreads_181 (Nat.zero_le _) (Nat.zero_le _) ⟨rfl, rfl, zI19.1, by rw [zI19.2.2.2.2.2, spr_end (by omega)]; exact zI19.2.2.1⟩
      · skip
        have zmm := gk_mem (L := q.2) zI19.2.1.1 (by omega)
        have zin := zI19.2.2.2.2.1.1 _ zmm
        have zi := sIn_iff.mp zin
        have zqm := zI19.2.2.2.1 m zI19.2.1.1 (by omega)
        have zm4 : 0 ≤ m ∧ m < (400 : Int) := by omega
        refine y_aload_n (pc := 25) hF dX11_spreads_25 0 rfl ?_
        refine y_get (pc := 26) (ci := 11) hF dX11_spreads_26 (by omega) rfl rfl rfl iX11 39 (by decide) w_1286 rfl ?_
        refine y_iload (pc := 29) hF dX11_spreads_29 4 rfl ?_
        refine y_iaload (pc := 31) hF dX11_spreads_31 (by omega) rfl zm4 (by decide) ?_
        rw [show τ 170 m = 20 * (gk q.2 m).2 + (gk q.2 m).1 from zqm]
        refine y_bipush (pc := 32) hF dX11_spreads_32 (by decide) ?_
        refine y_irem (pc := 34) hF dX11_spreads_34 (by omega) (by omega) (by omega) ?_
        rw [show (20 * (gk q.2 m).2 + (gk q.2 m).1) - Int.tdiv (20 * (gk q.2 m).2 + (gk q.2 m).1) 20 * 20 = (gk q.2 m).1 from (by rw [y_rem (by omega) (by omega)]; omega)]
        refine y_istore (pc := 35) (lv' := [(0, yR g 155), (1, yI (20 * b + a)), (2, yI num), (3, yI (q.2.length : Int)), (4, yI m), (5, yI ((gk q.2 m).1))]) hF dX11_spreads_35 (by decide) rfl rfl ?_
        refine y_aload_n (pc := 37) hF dX11_spreads_37 0 rfl ?_
        refine y_get (pc := 38) (ci := 11) hF dX11_spreads_38 (by omega) rfl rfl rfl iX11 39 (by decide) w_1286 rfl ?_
        refine y_iload (pc := 41) hF dX11_spreads_41 4 rfl ?_
        refine y_iaload (pc := 43) hF dX11_spreads_43 (by omega) rfl zm4 (by decide) ?_
        rw [show τ 170 m = 20 * (gk q.2 m).2 + (gk q.2 m).1 from zqm]
        refine y_bipush (pc := 44) hF dX11_spreads_44 (by decide) ?_
        refine y_idiv (pc := 46) hF dX11_spreads_46 (by omega) (by omega) (by omega) ?_
        rw [show Int.tdiv (20 * (gk q.2 m).2 + (gk q.2 m).1) 20 = (gk q.2 m).2 from (by rw [y_quo (by omega)]; omega)]
        refine y_istore (pc := 47) (lv' := [(0, yR g 155), (1, yI (20 * b + a)), (2, yI num), (3, yI (q.2.length : Int)), (4, yI m), (5, yI ((gk q.2 m).1)), (6, yI ((gk q.2 m).2))]) hF dX11_spreads_47 (by decide) rfl rfl ?_
        refine y_iconst (pc := 49) hF dX11_spreads_49 ?_
        refine y_istore (pc := 50) (lv' := [(0, yR g 155), (1, yI (20 * b + a)), (2, yI num), (3, yI (q.2.length : Int)), (4, yI m), (5, yI ((gk q.2 m).1)), (6, yI ((gk q.2 m).2)), (7, yI 0)]) hF dX11_spreads_50 (by decide) rfl rfl ?_
        have zL52 : ∀ (N : Nat) (υ : yM) (t : Int) (r : aP), N = (4 - t).toNat → (fc 169 170 σ υ ∧ (0 ≤ t ∧ t ≤ 4) ∧ rPm υ w h r.1 ∧ rQm υ r.2 ∧ pOk w h r ∧ r = fr (fun r s => nbF w h T num r ((gk q.2 m).1 + ys 0 s) ((gk q.2 m).2 + ys 1 s)) 0 t.toNat q) → yV X0 g 10 (yQ X0 g (SC g) (yPv (fun n' σ' => n' = n ∧ fc 169 170 σ σ' ∧ rPm σ' w h (spr w h T num 401 0 (lup L a b num, [(a, b)])).1)) (rmL 4)) (SC g) n υ 0 0 52 [(0, yR g 155), (1, yI (20 * b + a)), (2, yI num), (3, yI (r.2.length : Int)), (4, yI m), (5, yI ((gk q.2 m).1)), (6, yI ((gk q.2 m).2)), (7, yI t)] [] := by
          intro N
          induction N using Nat.strongRecOn with
          | ind N zh52 =>
            intro υ  t  r  zN52 zI52
            have zA_υ := hA.fQ (by omega) zI52.1.fQ
            refine y_iload (pc := 52) hF dX11_spreads_52 7 rfl ?_
            refine y_iconst (pc := 54) hF dX11_spreads_54 ?_
            refine y_icmp_ge (pc := 55) hF dX11_spreads_55 175 rfl (by omega) (by omega) (fun zc55 => ?_) (fun zc55 => ?_)
            · skip
              refine y_iinc (pc := 175) (lv' := [(0, yR g 155), (1, yI (20 * b + a)), (2, yI num), (3, yI (r.2.length : Int)), (4, yI (m + 1)), (5, yI ((gk q.2 m).1)), (6, yI ((gk q.2 m).2)), (7, yI t)]) hF dX11_spreads_175 4 rfl (by decide) rfl rfl ?_
              refine y_goto (pc := 178) hF dX11_spreads_178 19 rfl ?_
              refine y_sub [0, 1, 2, 3, 4] rfl ?_
              exact zh19 _ (by omega) υ (m + 1) r rfl ⟨zI52.1, by omega, zI52.2.2.1, zI52.2.2.2.1, zI52.2.2.2.2.1, by rw [zI19.2.2.2.2.2, spr_step (n := 401 - (m + 1).toNat) (by omega) (by omega), zI52.2.2.2.2.2, show t.toNat = 4 by omega]; rfl⟩
            · skip
              have zy := ys01 (s := t) (by omega)
              have zsx : -1 ≤ ys 0 t ∧ ys 0 t ≤ 1 := by rw [zy.1]; split; (omega); split <;> omega
              have zsy : -1 ≤ ys 1 t ∧ ys 1 t ≤ 1 := by rw [zy.2]; split; (omega); split <;> omega
              have zJ80 : ∀ (zq1 : Int), (zq1 = ys 0 t) → yV X0 g 10 (yQ X0 g (SC g) (yPv (fun n' σ' => n' = n ∧ fc 169 170 σ σ' ∧ rPm σ' w h (spr w h T num 401 0 (lup L a b num, [(a, b)])).1)) (rmL 4)) (SC g) n υ 0 0 80 [(0, yR g 155), (1, yI (20 * b + a)), (2, yI num), (3, yI (r.2.length : Int)), (4, yI m), (5, yI ((gk q.2 m).1)), (6, yI ((gk q.2 m).2)), (7, yI t)] [yI zq1, yI ((gk q.2 m).1)] := by
                intro zq1  zd1
                refine y_iadd (pc := 80) hF dX11_spreads_80 ?_
                rw [show ((gk q.2 m).1) + zq1 = (gk q.2 m).1 + ys 0 t from (by rw [zd1])]
                refine y_istore (pc := 81) (lv' := [(0, yR g 155), (1, yI (20 * b + a)), (2, yI num), (3, yI (r.2.length : Int)), (4, yI m), (5, yI ((gk q.2 m).1)), (6, yI ((gk q.2 m).2)), (7, yI t), (8, yI ((gk q.2 m).1 + ys 0 t))]) hF dX11_spreads_81 (by decide) rfl rfl ?_
                have zJ106 : ∀ (zq2 : Int), (zq2 = ys 1 t) → yV X0 g 10 (yQ X0 g (SC g) (yPv (fun n' σ' => n' = n ∧ fc 169 170 σ σ' ∧ rPm σ' w h (spr w h T num 401 0 (lup L a b num, [(a, b)])).1)) (rmL 4)) (SC g) n υ 0 0 106 [(0, yR g 155), (1, yI (20 * b + a)), (2, yI num), (3, yI (r.2.length : Int)), (4, yI m), (5, yI ((gk q.2 m).1)), (6, yI ((gk q.2 m).2)), (7, yI t), (8, yI ((gk q.2 m).1 + ys 0 t))] [yI zq2, yI ((gk q.2 m).2)] := by
                  intro zq2  zd2
                  refine y_iadd (pc := 106) hF dX11_spreads_106 ?_
                  rw [show ((gk q.2 m).2) + zq2 = (gk q.2 m).2 + ys 1 t from (by rw [zd2])]
                  refine y_istore (pc := 107) (lv' := [(0, yR g 155), (1, yI (20 * b + a)), (2, yI num), (3, yI (r.2.length : Int)), (4, yI m), (5, yI ((gk q.2 m).1)), (6, yI ((gk q.2 m).2)), (7, yI t), (8, yI ((gk q.2 m).1 + ys 0 t)), (9, yI ((gk q.2 m).2 + ys 1 t))]) hF dX11_spreads_107 (by decide) rfl rfl ?_
                  refine y_aload_n (pc := 109) hF dX11_spreads_109 0 rfl ?_
                  refine y_iconst (pc := 110) hF dX11_spreads_110 ?_
                  refine y_iload (pc := 111) hF dX11_spreads_111 8 rfl ?_
                  refine y_iload (pc := 113) hF dX11_spreads_113 9 rfl ?_
                  have zz115 := y_rV (pc := 115) hF (tX11_isMissing (n := n) (σ := υ) 0 w h T S F P O hn (by omega) zA_υ ((gk q.2 m).1 + ys 0 t) ((gk q.2 m).2 + ys 1 t) (by omega) (by omega)) dX11_spreads_115 (by omega) rfl rfl rfl w_1504 qX11_isMissing rfl ⟨Nat.le_of_ble_eq_true rfl, Nat.le_of_ble_eq_true rfl⟩ ⟨Nat.zero_le _, Nat.zero_le _⟩ (Nat.le_of_ble_eq_true rfl) rfl (rest := []) (cells := 0) (slots := 0) (lv := [(0, yR g 155), (1, yI (20 * b + a)), (2, yI num), (3, yI (r.2.length : Int)), (4, yI m), (5, yI ((gk q.2 m).1)), (6, yI ((gk q.2 m).2)), (7, yI t), (8, yI ((gk q.2 m).1 + ys 0 t)), (9, yI ((gk q.2 m).2 + ys 1 t))])
                  refine y_cp (zz115) ?_
                  refine y_if_eq (pc := 118) hF dX11_spreads_118 169 rfl bi_r (fun zc118 => ?_) (fun zc118 => ?_)
                  · replace zc118 := bi_0.mp zc118
                    refine y_iinc (pc := 169) (lv' := [(0, yR g 155), (1, yI (20 * b + a)), (2, yI num), (3, yI (r.2.length : Int)), (4, yI m), (5, yI ((gk q.2 m).1)), (6, yI ((gk q.2 m).2)), (7, yI (t + 1)), (8, yI ((gk q.2 m).1 + ys 0 t)), (9, yI ((gk q.2 m).2 + ys 1 t))]) hF dX11_spreads_169 7 rfl (by decide) rfl rfl ?_
                    refine y_goto (pc := 172) hF dX11_spreads_172 52 rfl ?_
                    refine y_sub [0, 1, 2, 3, 4, 5, 6, 7] rfl ?_
                    exact zh52 _ (by omega) υ (t + 1) r rfl ⟨zI52.1, by omega, zI52.2.2.1, zI52.2.2.2.1, zI52.2.2.2.2.1, by rw [fr_up _ _ _ _ zI52.2.1.1, ← zI52.2.2.2.2.2, Int.zero_add]; unfold nbF; rw [if_neg (by simp [zc118])]⟩
                  · replace zc118 := bi_n0.mp zc118
                    have zj := sIn_iff.mp (sMi_in zc118)
                    have zlb := zI52.2.2.2.2.1.2.2 ((gk q.2 m).1 + ys 0 t) ((gk q.2 m).2 + ys 1 t)
                    refine y_aload_n (pc := 121) hF dX11_spreads_121 0 rfl ?_
                    refine y_get (pc := 122) (ci := 11) hF dX11_spreads_122 (by omega) rfl rfl rfl iX11 38 (by decide) w_1285 rfl ?_
                    refine y_iload (pc := 125) hF dX11_spreads_125 8 rfl ?_
                    refine y_iload (pc := 127) hF dX11_spreads_127 9 rfl ?_
                    have zz129 := y_rS (pc := 129) (As := [yI ((gk q.2 m).1 + ys 0 t), yI ((gk q.2 m).2 + ys 1 t)]) (kk := 0) hF (tX11_at (n := n) (σ := υ) ((gk q.2 m).1 + ys 0 t) ((gk q.2 m).2 + ys 1 t)) dX11_spreads_129 w_1236 qX11_at rfl ⟨Nat.le_of_ble_eq_true rfl, Nat.le_of_ble_eq_true rfl⟩ ⟨Nat.zero_le _, Nat.zero_le _⟩ (Nat.le_of_ble_eq_true rfl) rfl (rest := [yR g 169]) (cells := 0) (slots := 0) (lv := [(0, yR g 155), (1, yI (20 * b + a)), (2, yI num), (3, yI (r.2.length : Int)), (4, yI m), (5, yI ((gk q.2 m).1)), (6, yI ((gk q.2 m).2)), (7, yI t), (8, yI ((gk q.2 m).1 + ys 0 t)), (9, yI ((gk q.2 m).2 + ys 1 t))])
                    refine y_cp (zz129) ?_
                    refine y_iaload (pc := 132) hF dX11_spreads_132 (by omega) rfl ⟨by omega, by show _ < (400 : Int); omega⟩ (by decide) ?_
                    rw [show υ 169 (20 * ((gk q.2 m).2 + ys 1 t) + ((gk q.2 m).1 + ys 0 t)) = r.1 ((gk q.2 m).1 + ys 0 t) ((gk q.2 m).2 + ys 1 t) from (zI52.2.2.1 _ _ zj.1 zj.2.1 zj.2.2.1 zj.2.2.2)]
                    refine y_iconst (pc := 133) hF dX11_spreads_133 ?_
                    refine y_icmp_eq (pc := 134) hF dX11_spreads_134 140 rfl (by omega) (by omega) (fun zc134 => ?_) (fun zc134 => ?_)
                    · skip
                      have zrm := zI52.2.2.2.2.1.room ⟨hw1, hw2⟩ ⟨hw3, hw4⟩ (sMi_in zc118) zc134
                      refine y_aload_n (pc := 140) hF dX11_spreads_140 0 rfl ?_
                      refine y_get (pc := 141) (ci := 11) hF dX11_spreads_141 (by omega) rfl rfl rfl iX11 38 (by decide) w_1285 rfl ?_
                      refine y_iload (pc := 144) hF dX11_spreads_144 8 rfl ?_
                      refine y_iload (pc := 146) hF dX11_spreads_146 9 rfl ?_
                      have zz148 := y_rS (pc := 148) (As := [yI ((gk q.2 m).1 + ys 0 t), yI ((gk q.2 m).2 + ys 1 t)]) (kk := 0) hF (tX11_at (n := n) (σ := υ) ((gk q.2 m).1 + ys 0 t) ((gk q.2 m).2 + ys 1 t)) dX11_spreads_148 w_1236 qX11_at rfl ⟨Nat.le_of_ble_eq_true rfl, Nat.le_of_ble_eq_true rfl⟩ ⟨Nat.zero_le _, Nat.zero_le _⟩ (Nat.le_of_ble_eq_true rfl) rfl (rest := [yR g 169]) (cells := 0) (slots := 0) (lv := [(0, yR g 155), (1, yI (20 * b + a)), (2, yI num), (3, yI (r.2.length : Int)), (4, yI m), (5, yI ((gk q.2 m).1)), (6, yI ((gk q.2 m).2)), (7, yI t), (8, yI ((gk q.2 m).1 + ys 0 t)), (9, yI ((gk q.2 m).2 + ys 1 t))])
                      refine y_cp (zz148) ?_
                      refine y_iload_n (pc := 151) hF dX11_spreads_151 2 rfl ?_
                      refine y_iastore (pc := 152) hF dX11_spreads_152 (by omega) rfl ⟨by omega, by show _ < (400 : Int); omega⟩ (by decide) ?_
                      refine y_aload_n (pc := 153) hF dX11_spreads_153 0 rfl ?_
                      refine y_get (pc := 154) (ci := 11) hF dX11_spreads_154 (by omega) rfl rfl rfl iX11 39 (by decide) w_1286 rfl ?_
                      refine y_iload_n (pc := 157) hF dX11_spreads_157 3 rfl ?_
                      refine y_iload (pc := 158) hF dX11_spreads_158 8 rfl ?_
                      refine y_iload (pc := 160) hF dX11_spreads_160 9 rfl ?_
                      have zz162 := y_rS (pc := 162) (As := [yI ((gk q.2 m).1 + ys 0 t), yI ((gk q.2 m).2 + ys 1 t)]) (kk := 0) hF (tX11_at (n := n) (σ := yset υ 169 (20 * ((gk q.2 m).2 + ys 1 t) + ((gk q.2 m).1 + ys 0 t)) num) ((gk q.2 m).1 + ys 0 t) ((gk q.2 m).2 + ys 1 t)) dX11_spreads_162 w_1236 qX11_at rfl ⟨Nat.le_of_ble_eq_true rfl, Nat.le_of_ble_eq_true rfl⟩ ⟨Nat.zero_le _, Nat.zero_le _⟩ (Nat.le_of_ble_eq_true rfl) rfl (rest := [yI (r.2.length : Int), yR g 170]) (cells := 0) (slots := 0) (lv := [(0, yR g 155), (1, yI (20 * b + a)), (2, yI num), (3, yI (r.2.length : Int)), (4, yI m), (5, yI ((gk q.2 m).1)), (6, yI ((gk q.2 m).2)), (7, yI t), (8, yI ((gk q.2 m).1 + ys 0 t)), (9, yI ((gk q.2 m).2 + ys 1 t))])
                      refine y_cp (zz162) ?_
                      refine y_iastore (pc := 165) hF dX11_spreads_165 (by omega) rfl ⟨by omega, by show _ < (400 : Int); omega⟩ (by decide) ?_
                      refine y_iinc (pc := 166) (lv' := [(0, yR g 155), (1, yI (20 * b + a)), (2, yI num), (3, yI ((r.2.length : Int) + 1)), (4, yI m), (5, yI ((gk q.2 m).1)), (6, yI ((gk q.2 m).2)), (7, yI t), (8, yI ((gk q.2 m).1 + ys 0 t)), (9, yI ((gk q.2 m).2 + ys 1 t))]) hF dX11_spreads_166 3 rfl (by decide) rfl rfl ?_
                      refine y_iinc (pc := 169) (lv' := [(0, yR g 155), (1, yI (20 * b + a)), (2, yI num), (3, yI ((r.2.length : Int) + 1)), (4, yI m), (5, yI ((gk q.2 m).1)), (6, yI ((gk q.2 m).2)), (7, yI (t + 1)), (8, yI ((gk q.2 m).1 + ys 0 t)), (9, yI ((gk q.2 m).2 + ys 1 t))]) hF dX11_spreads_169 7 rfl (by decide) rfl rfl ?_
                      refine y_goto (pc := 172) hF dX11_spreads_172 52 rfl ?_
                      have zjn : jnF num r ((gk q.2 m).1 + ys 0 t) ((gk q.2 m).2 + ys 1 t) = (lup r.1 ((gk q.2 m).1 + ys 0 t) ((gk q.2 m).2 + ys 1 t) num, r.2 ++ [(((gk q.2 m).1 + ys 0 t), ((gk q.2 m).2 + ys 1 t))]) := if_pos zc134
                      have zln2 : ((jnF num r ((gk q.2 m).1 + ys 0 t) ((gk q.2 m).2 + ys 1 t)).2.length : Int) = (r.2.length : Int) + 1 := by rw [zjn]; simp
                      rw [← zln2]
                      refine y_sub [0, 1, 2, 3, 4, 5, 6, 7] rfl ?_
                      exact zh52 _ (by omega) (yset (yset υ 169 (20 * ((gk q.2 m).2 + ys 1 t) + ((gk q.2 m).1 + ys 0 t)) num) 170 (r.2.length : Int) (20 * ((gk q.2 m).2 + ys 1 t) + ((gk q.2 m).1 + ys 0 t))) (t + 1) (jnF num r ((gk q.2 m).1 + ys 0 t) ((gk q.2 m).2 + ys 1 t)) rfl ⟨(zI52.1.st (by omega)).st (by omega), by omega, by rw [zjn]; exact fun x y x1 x2 y1 y2 => by { show _ = lup r.1 ((gk q.2 m).1 + ys 0 t) ((gk q.2 m).2 + ys 1 t) num x y; rw [yset_n (by omega), yset_ap]; rcases Decidable.em (x = ((gk q.2 m).1 + ys 0 t) ∧ y = ((gk q.2 m).2 + ys 1 t)) with e | e; (rw [e.1, e.2, if_pos ⟨rfl, rfl⟩, lup_s]); (rw [if_neg (by omega), lup_n e]; exact zI52.2.2.1 x y x1 x2 y1 y2) }, by rw [zjn]; exact fun m' h0 h1 => by { rw [yset_ap]; rcases Decidable.em (m' = (r.2.length : Int)) with e | e; (rw [if_pos ⟨rfl, e⟩, e, gk_new]); (rw [if_neg (fun e2 => e e2.2), gk_old h0 (by simp at h1; omega), yset_n (by omega)]; exact zI52.2.2.2.1 m' h0 (by simp at h1; omega)) }, zI52.2.2.2.2.1.jn (sMi_in zc118) hnum, by rw [fr_up _ _ _ _ zI52.2.1.1, ← zI52.2.2.2.2.2, Int.zero_add]; unfold nbF; rw [if_pos zc118]⟩
                    · skip
                      refine y_goto (pc := 137) hF dX11_spreads_137 169 rfl ?_
                      refine y_iinc (pc := 169) (lv' := [(0, yR g 155), (1, yI (20 * b + a)), (2, yI num), (3, yI (r.2.length : Int)), (4, yI m), (5, yI ((gk q.2 m).1)), (6, yI ((gk q.2 m).2)), (7, yI (t + 1)), (8, yI ((gk q.2 m).1 + ys 0 t)), (9, yI ((gk q.2 m).2 + ys 1 t))]) hF dX11_spreads_169 7 rfl (by decide) rfl rfl ?_
                      refine y_goto (pc := 172) hF dX11_spreads_172 52 rfl ?_
                      refine y_sub [0, 1, 2, 3, 4, 5, 6, 7] rfl ?_
                      exact zh52 _ (by omega) υ (t + 1) r rfl ⟨zI52.1, by omega, zI52.2.2.1, zI52.2.2.2.1, zI52.2.2.2.2.1, by rw [fr_up _ _ _ _ zI52.2.1.1, ← zI52.2.2.2.2.2, Int.zero_add]; unfold nbF; rw [if_pos zc118]; unfold jnF; rw [if_neg zc134]⟩
                refine y_iload (pc := 83) hF dX11_spreads_83 6 rfl ?_
                refine y_iload (pc := 85) hF dX11_spreads_85 7 rfl ?_
                refine y_iconst (pc := 87) hF dX11_spreads_87 ?_
                refine y_icmp_ne (pc := 88) hF dX11_spreads_88 95 rfl (by omega) (by omega) (fun zc88 => ?_) (fun zc88 => ?_)
                · skip
                  refine y_iload (pc := 95) hF dX11_spreads_95 7 rfl ?_
                  refine y_iconst (pc := 97) hF dX11_spreads_97 ?_
                  refine y_icmp_ne (pc := 98) hF dX11_spreads_98 105 rfl (by omega) (by omega) (fun zc98 => ?_) (fun zc98 => ?_)
                  · skip
                    refine y_iconst (pc := 105) hF dX11_spreads_105 ?_
                    exact zJ106 (0) (by rw [zy.2]; first | (rw [if_pos (by omega)]; done) | (rw [if_neg (by omega), if_pos (by omega)]; done) | (rw [if_neg (by omega), if_neg (by omega)]; done))
                  · skip
                    refine y_iconst (pc := 101) hF dX11_spreads_101 ?_
                    refine y_goto (pc := 102) hF dX11_spreads_102 106 rfl ?_
                    exact zJ106 (1) (by rw [zy.2]; first | (rw [if_pos (by omega)]; done) | (rw [if_neg (by omega), if_pos (by omega)]; done) | (rw [if_neg (by omega), if_neg (by omega)]; done))
                · skip
                  refine y_iconst (pc := 91) hF dX11_spreads_91 ?_
                  refine y_goto (pc := 92) hF dX11_spreads_92 106 rfl ?_
                  exact zJ106 (-1) (by rw [zy.2]; first | (rw [if_pos (by omega)]; done) | (rw [if_neg (by omega), if_pos (by omega)]; done) | (rw [if_neg (by omega), if_neg (by omega)]; done))
              refine y_iload (pc := 58) hF dX11_spreads_58 5 rfl ?_
              refine y_iload (pc := 60) hF dX11_spreads_60 7 rfl ?_
              refine y_if_ne (pc := 62) hF dX11_spreads_62 69 rfl (by omega) (fun zc62 => ?_) (fun zc62 => ?_)
              · skip
                refine y_iload (pc := 69) hF dX11_spreads_69 7 rfl ?_
                refine y_iconst (pc := 71) hF dX11_spreads_71 ?_
                refine y_icmp_ne (pc := 72) hF dX11_spreads_72 79 rfl (by omega) (by omega) (fun zc72 => ?_) (fun zc72 => ?_)
                · skip
                  refine y_iconst (pc := 79) hF dX11_spreads_79 ?_
                  exact zJ80 (0) (by rw [zy.1]; first | (rw [if_pos (by omega)]; done) | (rw [if_neg (by omega), if_pos (by omega)]; done) | (rw [if_neg (by omega), if_neg (by omega)]; done))
                · skip
                  refine y_iconst (pc := 75) hF dX11_spreads_75 ?_
                  refine y_goto (pc := 76) hF dX11_spreads_76 80 rfl ?_
                  exact zJ80 (1) (by rw [zy.1]; first | (rw [if_pos (by omega)]; done) | (rw [if_neg (by omega), if_pos (by omega)]; done) | (rw [if_neg (by omega), if_neg (by omega)]; done))
              · skip
                refine y_iconst (pc := 65) hF dX11_spreads_65 ?_
                refine y_goto (pc := 66) hF dX11_spreads_66 80 rfl ?_
                exact zJ80 (-1) (by rw [zy.1]; first | (rw [if_pos (by omega)]; done) | (rw [if_neg (by omega), if_pos (by omega)]; done) | (rw [if_neg (by omega), if_neg (by omega)]; done))
        exact zL52 _ τ (0) q rfl ⟨zI19.1, by omega, zI19.2.2.1, zI19.2.2.2.1, zI19.2.2.2.2.1, rfl⟩
  exact zL19 _ τ1 (0) (lup L a b num, [(a, b)]) rfl ⟨zf1, by omega, zL1, zQ1, zst, rfl⟩

theorem dX11_parts_0 : decode cX11_parts 0 = .ok (.iconst 0, 1) := by decide +kernel
theorem dX11_parts_1 : decode cX11_parts 1 = .ok (.istore_n 1, 1) := by decide +kernel
theorem dX11_parts_2 : decode cX11_parts 2 = .ok (.iload_n 1, 1) := by decide +kernel
theorem dX11_parts_3 : decode cX11_parts 3 = .ok (.sipush 400, 3) := by decide +kernel
theorem dX11_parts_6 : decode cX11_parts 6 = .ok (.if_icmp .ge 16, 3) := by decide +kernel
theorem dX11_parts_9 : decode cX11_parts 9 = .ok (.aload_n 0, 1) := by decide +kernel
theorem dX11_parts_10 : decode cX11_parts 10 = .ok (.getfield 50, 3) := by decide +kernel
theorem dX11_parts_13 : decode cX11_parts 13 = .ok (.iload_n 1, 1) := by decide +kernel
theorem dX11_parts_14 : decode cX11_parts 14 = .ok (.iconst (-1), 1) := by decide +kernel
theorem dX11_parts_15 : decode cX11_parts 15 = .ok (.iastore, 1) := by decide +kernel
theorem dX11_parts_16 : decode cX11_parts 16 = .ok (.iinc 1 1, 3) := by decide +kernel
theorem dX11_parts_19 : decode cX11_parts 19 = .ok (.goto (-17), 3) := by decide +kernel
theorem dX11_parts_22 : decode cX11_parts 22 = .ok (.aload_n 0, 1) := by decide +kernel
theorem dX11_parts_23 : decode cX11_parts 23 = .ok (.iconst 0, 1) := by decide +kernel
theorem dX11_parts_24 : decode cX11_parts 24 = .ok (.putfield 323, 3) := by decide +kernel
theorem dX11_parts_27 : decode cX11_parts 27 = .ok (.iconst 0, 1) := by decide +kernel
theorem dX11_parts_28 : decode cX11_parts 28 = .ok (.istore_n 1, 1) := by decide +kernel
theorem dX11_parts_29 : decode cX11_parts 29 = .ok (.iload_n 1, 1) := by decide +kernel
theorem dX11_parts_30 : decode cX11_parts 30 = .ok (.aload_n 0, 1) := by decide +kernel
theorem dX11_parts_31 : decode cX11_parts 31 = .ok (.getfield 25, 3) := by decide +kernel
theorem dX11_parts_34 : decode cX11_parts 34 = .ok (.iconst 0, 1) := by decide +kernel
theorem dX11_parts_35 : decode cX11_parts 35 = .ok (.iaload, 1) := by decide +kernel
theorem dX11_parts_36 : decode cX11_parts 36 = .ok (.if_icmp .ge 77, 3) := by decide +kernel
theorem dX11_parts_39 : decode cX11_parts 39 = .ok (.iconst 0, 1) := by decide +kernel
theorem dX11_parts_40 : decode cX11_parts 40 = .ok (.istore_n 2, 1) := by decide +kernel
theorem dX11_parts_41 : decode cX11_parts 41 = .ok (.iload_n 2, 1) := by decide +kernel
theorem dX11_parts_42 : decode cX11_parts 42 = .ok (.aload_n 0, 1) := by decide +kernel
theorem dX11_parts_43 : decode cX11_parts 43 = .ok (.getfield 22, 3) := by decide +kernel
theorem dX11_parts_46 : decode cX11_parts 46 = .ok (.iconst 0, 1) := by decide +kernel
theorem dX11_parts_47 : decode cX11_parts 47 = .ok (.iaload, 1) := by decide +kernel
theorem dX11_parts_48 : decode cX11_parts 48 = .ok (.if_icmp .ge 59, 3) := by decide +kernel
theorem dX11_parts_51 : decode cX11_parts 51 = .ok (.aload_n 0, 1) := by decide +kernel
theorem dX11_parts_52 : decode cX11_parts 52 = .ok (.iconst 0, 1) := by decide +kernel
theorem dX11_parts_53 : decode cX11_parts 53 = .ok (.iload_n 2, 1) := by decide +kernel
theorem dX11_parts_54 : decode cX11_parts 54 = .ok (.iload_n 1, 1) := by decide +kernel
theorem dX11_parts_55 : decode cX11_parts 55 = .ok (.invokevirtual 75, 3) := by decide +kernel
theorem dX11_parts_58 : decode cX11_parts 58 = .ok (.ifCond .eq 43, 3) := by decide +kernel
theorem dX11_parts_61 : decode cX11_parts 61 = .ok (.aload_n 0, 1) := by decide +kernel
theorem dX11_parts_62 : decode cX11_parts 62 = .ok (.getfield 50, 3) := by decide +kernel
theorem dX11_parts_65 : decode cX11_parts 65 = .ok (.iload_n 2, 1) := by decide +kernel
theorem dX11_parts_66 : decode cX11_parts 66 = .ok (.iload_n 1, 1) := by decide +kernel
theorem dX11_parts_67 : decode cX11_parts 67 = .ok (.invokestatic 56, 3) := by decide +kernel
theorem dX11_parts_70 : decode cX11_parts 70 = .ok (.iaload, 1) := by decide +kernel
theorem dX11_parts_71 : decode cX11_parts 71 = .ok (.iconst (-1), 1) := by decide +kernel
theorem dX11_parts_72 : decode cX11_parts 72 = .ok (.if_icmp .eq 6, 3) := by decide +kernel
theorem dX11_parts_75 : decode cX11_parts 75 = .ok (.goto 26, 3) := by decide +kernel
theorem dX11_parts_78 : decode cX11_parts 78 = .ok (.aload_n 0, 1) := by decide +kernel
theorem dX11_parts_79 : decode cX11_parts 79 = .ok (.iload_n 2, 1) := by decide +kernel
theorem dX11_parts_80 : decode cX11_parts 80 = .ok (.iload_n 1, 1) := by decide +kernel
theorem dX11_parts_81 : decode cX11_parts 81 = .ok (.invokestatic 56, 3) := by decide +kernel
theorem dX11_parts_84 : decode cX11_parts 84 = .ok (.aload_n 0, 1) := by decide +kernel
theorem dX11_parts_85 : decode cX11_parts 85 = .ok (.getfield 323, 3) := by decide +kernel
theorem dX11_parts_88 : decode cX11_parts 88 = .ok (.invokevirtual 326, 3) := by decide +kernel
theorem dX11_parts_91 : decode cX11_parts 91 = .ok (.aload_n 0, 1) := by decide +kernel
theorem dX11_parts_92 : decode cX11_parts 92 = .ok (.dup, 1) := by decide +kernel
theorem dX11_parts_93 : decode cX11_parts 93 = .ok (.getfield 323, 3) := by decide +kernel
theorem dX11_parts_96 : decode cX11_parts 96 = .ok (.iconst 1, 1) := by decide +kernel
theorem dX11_parts_97 : decode cX11_parts 97 = .ok (.iadd, 1) := by decide +kernel
theorem dX11_parts_98 : decode cX11_parts 98 = .ok (.putfield 323, 3) := by decide +kernel
theorem dX11_parts_101 : decode cX11_parts 101 = .ok (.iinc 2 1, 3) := by decide +kernel
theorem dX11_parts_104 : decode cX11_parts 104 = .ok (.goto (-63), 3) := by decide +kernel
theorem dX11_parts_107 : decode cX11_parts 107 = .ok (.iinc 1 1, 3) := by decide +kernel
theorem dX11_parts_110 : decode cX11_parts 110 = .ok (.goto (-81), 3) := by decide +kernel
theorem dX11_parts_113 : decode cX11_parts 113 = .ok (.return_, 1) := by decide +kernel
set_option maxHeartbeats 4000000 in
set_option maxRecDepth 100000 in
theorem tX11_parts {l : Launch} {g : yG} {n : Nat} {σ : yM} (w h : Int) (T S F P O : Int → Int → Int) (hn : 172 ≤ n) (hA : rM σ 0 w h T S F P O) : yMet l g yX11_parts cX11_parts 3 none (rmL 5) [yR g 155] (SC g) n σ (SC g) (yPv (fun n' σ' => n' = n ∧ fQ σ σ' ∧ σ' 155 40 = (sPt w h T).2 ∧ rPm σ' w h (sPt w h T).1)) := by
  obtain ⟨hw1, hw2, hw3, hw4⟩ := id hA.1.1
  refine y_start (by decide) (Nat.le_of_ble_eq_true rfl) (fun X0 hF => ?_)
  show yV X0 g 3 (yQ X0 g (SC g) (yPv (fun n' σ' => n' = n ∧ fQ σ σ' ∧ σ' 155 40 = (sPt w h T).2 ∧ rPm σ' w h (sPt w h T).1)) (rmL 5)) (SC g) n σ 0 0 0 [(0, yR g 155)] []
  refine y_iconst (pc := 0) hF dX11_parts_0 ?_
  refine y_istore_n (pc := 1) (lv' := [(0, yR g 155), (1, yI 0)]) hF dX11_parts_1 (by decide) rfl rfl ?_
  have zL2 : ∀ (N : Nat) (τ : yM) (i : Int), N = (400 - i).toNat → (fc 169 169 σ τ ∧ (0 ≤ i ∧ i ≤ 400) ∧ ∀ j : Int, 0 ≤ j → j < i → τ 169 j = -1) → yV X0 g 3 (yQ X0 g (SC g) (yPv (fun n' σ' => n' = n ∧ fQ σ σ' ∧ σ' 155 40 = (sPt w h T).2 ∧ rPm σ' w h (sPt w h T).1)) (rmL 5)) (SC g) n τ 0 0 2 [(0, yR g 155), (1, yI i)] [] := by
    intro N
    induction N using Nat.strongRecOn with
    | ind N zh2 =>
      intro τ  i  zN2 zI2
      refine y_iload_n (pc := 2) hF dX11_parts_2 1 rfl ?_
      refine y_sipush (pc := 3) hF dX11_parts_3 (by decide) ?_
      refine y_icmp_ge (pc := 6) hF dX11_parts_6 22 rfl (by omega) (by omega) (fun zc6 => ?_) (fun zc6 => ?_)
      · skip
        refine y_aload_n (pc := 22) hF dX11_parts_22 0 rfl ?_
        refine y_iconst (pc := 23) hF dX11_parts_23 ?_
        refine y_putf (pc := 24) (ci := 11) (σ' := yset τ 155 40 0) (sch' := (SC g)) hF dX11_parts_24 (by omega) rfl rfl rfl iX11 40 (by decide) w_1287 tyX11 tyX11_ok nmX11 rfl rfl rfl rfl (Nat.le_of_ble_eq_true rfl) rfl (y_ps rfl) (fun k' h => ⟨yset_n h, rfl⟩) ?_
        obtain ⟨τ2, hτ2⟩ : ∃ s, s = yset τ 155 40 0 := ⟨_, rfl⟩
        rw [← hτ2]
        have zf2 : fQ σ τ2 := fun c j h1 h2 h3 => by rw [hτ2, yset_o (by omega), zI2.1 c (by omega)]
        have zA_τ2 := hA.fQ (by omega) zf2
        refine y_iconst (pc := 27) hF dX11_parts_27 ?_
        refine y_istore_n (pc := 28) (lv' := [(0, yR g 155), (1, yI 0)]) hF dX11_parts_28 (by decide) rfl rfl ?_
        have zL29 : ∀ (N : Nat) (τ3 : yM) (y : Int) (r : (Int → Int → Int) × Int), N = (h - y).toNat → (fQ σ τ3 ∧ (0 ≤ y ∧ y ≤ h) ∧ rPm τ3 w h r.1 ∧ (∀ x y, -1 ≤ r.1 x y ∧ r.1 x y ≤ 1000) ∧ (0 ≤ r.2 ∧ r.2 ≤ 20 * y) ∧ τ3 155 40 = r.2 ∧ r = fr (fun r y => fr (fun r x => ptF w h T r x y) 0 w.toNat r) 0  y.toNat (fun _ _ => -1, 0)) → yV X0 g 3 (yQ X0 g (SC g) (yPv (fun n' σ' => n' = n ∧ fQ σ σ' ∧ σ' 155 40 = (sPt w h T).2 ∧ rPm σ' w h (sPt w h T).1)) (rmL 5)) (SC g) n τ3 0 0 29 [(0, yR g 155), (1, yI y)] [] := by
          intro N
          induction N using Nat.strongRecOn with
          | ind N zh29 =>
            intro τ3  y  r  zN29 zI29
            have zA_τ3 := hA.fQ (by omega) zI29.1
            refine y_iload_n (pc := 29) hF dX11_parts_29 1 rfl ?_
            refine y_aload_n (pc := 30) hF dX11_parts_30 0 rfl ?_
            refine y_get (pc := 31) (ci := 11) hF dX11_parts_31 (by omega) rfl rfl rfl iX11 4 (by decide) w_1251 rfl ?_
            refine y_iconst (pc := 34) hF dX11_parts_34 ?_
            refine y_iaload (pc := 35) hF dX11_parts_35 (by omega) rfl (by omega) (by decide) ?_
            rw [show τ3 162 0 = h from zA_τ3.2.2.1]
            refine y_icmp_ge (pc := 36) hF dX11_parts_36 113 rfl (by omega) (by omega) (fun zc36 => ?_) (fun zc36 => ?_)
            · skip
              exact y_vret (pc := 113) hF dX11_parts_113 (Nat.zero_le _) (Nat.zero_le _) ⟨rfl, rfl, zI29.1, by have zend : r = sPt w h T := (by rw [zI29.2.2.2.2.2.2, show y.toNat = h.toNat by omega]; rfl); rw [← zend]; exact ⟨zI29.2.2.2.2.2.1, zI29.2.2.1⟩⟩
            · skip
              refine y_iconst (pc := 39) hF dX11_parts_39 ?_
              refine y_istore_n (pc := 40) (lv' := [(0, yR g 155), (1, yI y), (2, yI 0)]) hF dX11_parts_40 (by decide) rfl rfl ?_
              have zL41 : ∀ (N : Nat) (τ4 : yM) (x : Int) (r2 : (Int → Int → Int) × Int), N = (w - x).toNat → (fQ σ τ4 ∧ (0 ≤ x ∧ x ≤ w) ∧ rPm τ4 w h r2.1 ∧ (∀ x y, -1 ≤ r2.1 x y ∧ r2.1 x y ≤ 1000) ∧ (0 ≤ r2.2 ∧ r2.2 ≤ 20 * y + x) ∧ τ4 155 40 = r2.2 ∧ r2 = fr (fun r x => ptF w h T r x y) 0 x.toNat r) → yV X0 g 3 (yQ X0 g (SC g) (yPv (fun n' σ' => n' = n ∧ fQ σ σ' ∧ σ' 155 40 = (sPt w h T).2 ∧ rPm σ' w h (sPt w h T).1)) (rmL 5)) (SC g) n τ4 0 0 41 [(0, yR g 155), (1, yI y), (2, yI x)] [] := by
                intro N
                induction N using Nat.strongRecOn with
                | ind N zh41 =>
                  intro τ4  x  r2  zN41 zI41
                  have zA_τ4 := hA.fQ (by omega) zI41.1
                  refine y_iload_n (pc := 41) hF dX11_parts_41 2 rfl ?_
                  refine y_aload_n (pc := 42) hF dX11_parts_42 0 rfl ?_
                  refine y_get (pc := 43) (ci := 11) hF dX11_parts_43 (by omega) rfl rfl rfl iX11 3 (by decide) w_1250 rfl ?_
                  refine y_iconst (pc := 46) hF dX11_parts_46 ?_
                  refine y_iaload (pc := 47) hF dX11_parts_47 (by omega) rfl (by omega) (by decide) ?_
                  rw [show τ4 161 0 = w from zA_τ4.2.1]
                  refine y_icmp_ge (pc := 48) hF dX11_parts_48 107 rfl (by omega) (by omega) (fun zc48 => ?_) (fun zc48 => ?_)
                  · skip
                    refine y_iinc (pc := 107) (lv' := [(0, yR g 155), (1, yI (y + 1)), (2, yI x)]) hF dX11_parts_107 1 rfl (by decide) rfl rfl ?_
                    refine y_goto (pc := 110) hF dX11_parts_110 29 rfl ?_
                    refine y_sub [0, 1] rfl ?_
                    exact zh29 _ (by omega) τ4 (y + 1) r2 rfl ⟨zI41.1, by omega, zI41.2.2.1, zI41.2.2.2.1, by omega, zI41.2.2.2.2.2.1, by rw [fr_up _ _ _ _ zI29.2.1.1, ← zI29.2.2.2.2.2.2, zI41.2.2.2.2.2.2, Int.zero_add, show x.toNat = w.toNat by omega]⟩
                  · skip
                    refine y_aload_n (pc := 51) hF dX11_parts_51 0 rfl ?_
                    refine y_iconst (pc := 52) hF dX11_parts_52 ?_
                    refine y_iload_n (pc := 53) hF dX11_parts_53 2 rfl ?_
                    refine y_iload_n (pc := 54) hF dX11_parts_54 1 rfl ?_
                    have zz55 := y_rV (pc := 55) hF (tX11_isMissing (n := n) (σ := τ4) 0 w h T S F P O hn (by omega) zA_τ4 x y (by omega) (by omega)) dX11_parts_55 (by omega) rfl rfl rfl w_1504 qX11_isMissing rfl ⟨Nat.le_of_ble_eq_true rfl, Nat.le_of_ble_eq_true rfl⟩ ⟨Nat.zero_le _, Nat.zero_le _⟩ (Nat.le_of_ble_eq_true rfl) rfl (rest := []) (cells := 0) (slots := 0) (lv := [(0, yR g 155), (1, yI y), (2, yI x)])
                    refine y_cp (zz55) ?_
                    refine y_if_eq (pc := 58) hF dX11_parts_58 101 rfl bi_r (fun zc58 => ?_) (fun zc58 => ?_)
                    · replace zc58 := bi_0.mp zc58
                      refine y_iinc (pc := 101) (lv' := [(0, yR g 155), (1, yI y), (2, yI (x + 1))]) hF dX11_parts_101 2 rfl (by decide) rfl rfl ?_
                      refine y_goto (pc := 104) hF dX11_parts_104 41 rfl ?_
                      exact zh41 _ (by omega) τ4 (x + 1) r2 rfl ⟨zI41.1, by omega, zI41.2.2.1, zI41.2.2.2.1, by omega, zI41.2.2.2.2.2.1, by rw [fr_up _ _ _ _ zI41.2.1.1, ← zI41.2.2.2.2.2.2, Int.zero_add]; unfold ptF; rw [if_neg (fun ze => by rw [zc58] at ze; cases ze.1)]⟩
                    · replace zc58 := bi_n0.mp zc58
                      have zlb := zI41.2.2.2.1 x y
                      refine y_aload_n (pc := 61) hF dX11_parts_61 0 rfl ?_
                      refine y_get (pc := 62) (ci := 11) hF dX11_parts_62 (by omega) rfl rfl rfl iX11 38 (by decide) w_1285 rfl ?_
                      refine y_iload_n (pc := 65) hF dX11_parts_65 2 rfl ?_
                      refine y_iload_n (pc := 66) hF dX11_parts_66 1 rfl ?_
                      have zz67 := y_rS (pc := 67) (As := [yI x, yI y]) (kk := 0) hF (tX11_at (n := n) (σ := τ4) x y) dX11_parts_67 w_1236 qX11_at rfl ⟨Nat.le_of_ble_eq_true rfl, Nat.le_of_ble_eq_true rfl⟩ ⟨Nat.zero_le _, Nat.zero_le _⟩ (Nat.le_of_ble_eq_true rfl) rfl (rest := [yR g 169]) (cells := 0) (slots := 0) (lv := [(0, yR g 155), (1, yI y), (2, yI x)])
                      refine y_cp (zz67) ?_
                      refine y_iaload (pc := 70) hF dX11_parts_70 (by omega) rfl ⟨by omega, by show _ < (400 : Int); omega⟩ (by decide) ?_
                      rw [show τ4 169 (20 * y + x) = r2.1 x y from (zI41.2.2.1 x y (by omega) (by omega) (by omega) (by omega))]
                      refine y_iconst (pc := 71) hF dX11_parts_71 ?_
                      refine y_icmp_eq (pc := 72) hF dX11_parts_72 78 rfl (by omega) (by omega) (fun zc72 => ?_) (fun zc72 => ?_)
                      · skip
                        refine y_aload_n (pc := 78) hF dX11_parts_78 0 rfl ?_
                        refine y_iload_n (pc := 79) hF dX11_parts_79 2 rfl ?_
                        refine y_iload_n (pc := 80) hF dX11_parts_80 1 rfl ?_
                        have zz81 := y_rS (pc := 81) (As := [yI x, yI y]) (kk := 0) hF (tX11_at (n := n) (σ := τ4) x y) dX11_parts_81 w_1236 qX11_at rfl ⟨Nat.le_of_ble_eq_true rfl, Nat.le_of_ble_eq_true rfl⟩ ⟨Nat.zero_le _, Nat.zero_le _⟩ (Nat.le_of_ble_eq_true rfl) rfl (rest := [yR g 155]) (cells := 0) (slots := 0) (lv := [(0, yR g 155), (1, yI y), (2, yI x)])
                        refine y_cp (zz81) ?_
                        refine y_aload_n (pc := 84) hF dX11_parts_84 0 rfl ?_
                        refine y_get (pc := 85) (ci := 11) hF dX11_parts_85 (by omega) rfl rfl rfl iX11 40 (by decide) w_1287 rfl ?_
                        rw [show τ4 155 40 = r2.2 from zI41.2.2.2.2.2.1]
                        refine y_cv (y_rV (pc := 88) hF (tX11_spreads w h T S F P O hn zA_τ4 r2.1 zI41.2.2.1 zI41.2.2.2.1 x y r2.2 (sMi_in zc58) zc72 (by omega)) dX11_parts_88 (by omega) rfl rfl rfl w_1629 qX11_spreads rfl ⟨Nat.le_of_ble_eq_true rfl, Nat.le_of_ble_eq_true rfl⟩ ⟨Nat.zero_le _, Nat.zero_le _⟩ (Nat.le_of_ble_eq_true rfl) rfl) rfl rfl (fun n' σ88 zp88 => ?_)
                        obtain ⟨zn88, zp88⟩ := zp88
                        have zn88 := zn88.symm
                        subst zn88
                        refine y_aload_n (pc := 91) hF dX11_parts_91 0 rfl ?_
                        refine y_dup (pc := 92) hF dX11_parts_92 rfl ?_
                        refine y_get (pc := 93) (ci := 11) hF dX11_parts_93 (by omega) rfl rfl rfl iX11 40 (by decide) w_1287 rfl ?_
                        rw [show σ88 155 40 = r2.2 from (by rw [zp88.1 155 (by omega)]; exact zI41.2.2.2.2.2.1)]
                        refine y_iconst (pc := 96) hF dX11_parts_96 ?_
                        refine y_iadd (pc := 97) hF dX11_parts_97 ?_
                        refine y_putf (pc := 98) (ci := 11) (σ' := yset σ88 155 40 (r2.2 + 1)) (sch' := (SC g)) hF dX11_parts_98 (by omega) rfl rfl rfl iX11 40 (by decide) w_1287 tyX11 tyX11_ok nmX11 rfl rfl rfl rfl (Nat.le_of_ble_eq_true rfl) rfl (y_ps rfl) (fun k' h => ⟨yset_n h, rfl⟩) ?_
                        refine y_iinc (pc := 101) (lv' := [(0, yR g 155), (1, yI y), (2, yI (x + 1))]) hF dX11_parts_101 2 rfl (by decide) rfl rfl ?_
                        refine y_goto (pc := 104) hF dX11_parts_104 41 rfl ?_
                        exact zh41 _ (by omega) (yset σ88 155 40 (r2.2 + 1)) (x + 1) ((spr w h T r2.2 401 0 (lup r2.1 x y r2.2, [(x, y)])).1, r2.2 + 1) rfl ⟨(zI41.1.tr zp88.1.fQ).tr (fun c j h1 h2 h3 => by rw [yset_o (by omega)]), by omega, fun a b x1 x2 y1 y2 => by rw [yset_n (by omega)]; exact zp88.2 a b x1 x2 y1 y2, (pOk.spr (by omega) 401 (pOk.start ⟨hw1, hw2⟩ ⟨hw3, hw4⟩ zI41.2.2.2.1 (sMi_in zc58) zc72 (by omega))).2.2, by simp only; omega, by rw [yset_e], by rw [fr_up _ _ _ _ zI41.2.1.1, ← zI41.2.2.2.2.2.2, Int.zero_add]; unfold ptF; rw [if_pos ⟨zc58, zc72⟩]⟩
                      · skip
                        refine y_goto (pc := 75) hF dX11_parts_75 101 rfl ?_
                        refine y_iinc (pc := 101) (lv' := [(0, yR g 155), (1, yI y), (2, yI (x + 1))]) hF dX11_parts_101 2 rfl (by decide) rfl rfl ?_
                        refine y_goto (pc := 104) hF dX11_parts_104 41 rfl ?_
                        exact zh41 _ (by omega) τ4 (x + 1) r2 rfl ⟨zI41.1, by omega, zI41.2.2.1, zI41.2.2.2.1, by omega, zI41.2.2.2.2.2.1, by rw [fr_up _ _ _ _ zI41.2.1.1, ← zI41.2.2.2.2.2.2, Int.zero_add]; unfold ptF; rw [if_neg (fun ze => zc72 ze.2)]⟩
              exact zL41 _ τ3 (0) r rfl ⟨zI29.1, by omega, zI29.2.2.1, zI29.2.2.2.1, by omega, zI29.2.2.2.2.2.1, rfl⟩
        exact zL29 _ τ2 (0) (fun _ _ => -1, 0) rfl ⟨zf2, by omega, fun x y x1 x2 y1 y2 => by rw [hτ2, yset_n (by omega)]; exact zI2.2.2 _ (by omega) (by omega), fun _ _ => ⟨by simp, by simp⟩, by simp, by rw [hτ2, yset_e], rfl⟩
      · skip
        refine y_aload_n (pc := 9) hF dX11_parts_9 0 rfl ?_
        refine y_get (pc := 10) (ci := 11) hF dX11_parts_10 (by omega) rfl rfl rfl iX11 38 (by decide) w_1285 rfl ?_
        refine y_iload_n (pc := 13) hF dX11_parts_13 1 rfl ?_
        refine y_iconst (pc := 14) hF dX11_parts_14 ?_
        refine y_iastore (pc := 15) hF dX11_parts_15 (by omega) rfl (by omega) (by decide) ?_
        refine y_iinc (pc := 16) (lv' := [(0, yR g 155), (1, yI (i + 1))]) hF dX11_parts_16 1 rfl (by decide) rfl rfl ?_
        refine y_goto (pc := 19) hF dX11_parts_19 2 rfl ?_
        exact zh2 _ (by omega) (yset τ 169 i (-1)) (i + 1) rfl ⟨zI2.1.st (by omega), by omega, fun j h0 h1 => by { rcases Decidable.em (j = i) with e | e; (rw [e, yset_e]); (rw [yset_o (by omega)]; exact zI2.2.2 j h0 (by omega)) }⟩
  exact zL2 _ σ (0) rfl ⟨fc.rf σ, by omega, fun j a b => by omega⟩

theorem dX11_isOf_0 : decode cX11_isOf 0 = .ok (.aload_n 0, 1) := by decide +kernel
theorem dX11_isOf_1 : decode cX11_isOf 1 = .ok (.iconst 0, 1) := by decide +kernel
theorem dX11_isOf_2 : decode cX11_isOf 2 = .ok (.iload_n 1, 1) := by decide +kernel
theorem dX11_isOf_3 : decode cX11_isOf 3 = .ok (.iload_n 2, 1) := by decide +kernel
theorem dX11_isOf_4 : decode cX11_isOf 4 = .ok (.invokevirtual 72, 3) := by decide +kernel
theorem dX11_isOf_7 : decode cX11_isOf 7 = .ok (.ifCond .eq 21, 3) := by decide +kernel
theorem dX11_isOf_10 : decode cX11_isOf 10 = .ok (.aload_n 0, 1) := by decide +kernel
theorem dX11_isOf_11 : decode cX11_isOf 11 = .ok (.getfield 50, 3) := by decide +kernel
theorem dX11_isOf_14 : decode cX11_isOf 14 = .ok (.iload_n 1, 1) := by decide +kernel
theorem dX11_isOf_15 : decode cX11_isOf 15 = .ok (.iload_n 2, 1) := by decide +kernel
theorem dX11_isOf_16 : decode cX11_isOf 16 = .ok (.invokestatic 56, 3) := by decide +kernel
theorem dX11_isOf_19 : decode cX11_isOf 19 = .ok (.iaload, 1) := by decide +kernel
theorem dX11_isOf_20 : decode cX11_isOf 20 = .ok (.iload_n 3, 1) := by decide +kernel
theorem dX11_isOf_21 : decode cX11_isOf 21 = .ok (.if_icmp .ne 7, 3) := by decide +kernel
theorem dX11_isOf_24 : decode cX11_isOf 24 = .ok (.iconst 1, 1) := by decide +kernel
theorem dX11_isOf_25 : decode cX11_isOf 25 = .ok (.goto 4, 3) := by decide +kernel
theorem dX11_isOf_28 : decode cX11_isOf 28 = .ok (.iconst 0, 1) := by decide +kernel
theorem dX11_isOf_29 : decode cX11_isOf 29 = .ok (.ireturn, 1) := by decide +kernel
set_option maxHeartbeats 4000000 in
set_option maxRecDepth 100000 in
theorem tX11_isOf {l : Launch} {g : yG} {n : Nat} {σ : yM} (w h : Int) (T S F P O : Int → Int → Int) (hn : 172 ≤ n) (hA : rM σ 0 w h T S F P O) (L : Int → Int → Int) (hL : rPm σ w h L) (hLb : ∀ x y, -1 ≤ L x y ∧ L x y ≤ 1000) (x y p : Int) (hx : -2147483648 ≤ x ∧ x < 2147483648) (hy : -2147483648 ≤ y ∧ y < 2147483648) (hp : -2147483648 ≤ p ∧ p < 2147483648) : yMet l g yX11_isOf cX11_isOf 4 (some .boolean) (rmL 3) [yR g 155, yI x, yI y, yI p] (SC g) n σ (SC g) (yPp (bi (isO w h L x y p)) n σ) := by
  obtain ⟨hw1, hw2, hw3, hw4⟩ := id hA.1.1
  refine y_start (by decide) (Nat.le_of_ble_eq_true rfl) (fun X0 hF => ?_)
  show yV X0 g 4 (yQ X0 g (SC g) (yPp (bi (isO w h L x y p)) n σ) (rmL 3)) (SC g) n σ 0 0 0 [(0, yR g 155), (1, yI x), (2, yI y), (3, yI p)] []
  refine y_aload_n (pc := 0) hF dX11_isOf_0 0 rfl ?_
  refine y_iconst (pc := 1) hF dX11_isOf_1 ?_
  refine y_iload_n (pc := 2) hF dX11_isOf_2 1 rfl ?_
  refine y_iload_n (pc := 3) hF dX11_isOf_3 2 rfl ?_
  have zz4 := y_rV (pc := 4) hF (tX11_has (n := n) (σ := σ) 0 w h T S F P O hn (by omega) hA x y hx hy) dX11_isOf_4 (by omega) rfl rfl rfl w_1444 qX11_has rfl ⟨Nat.le_of_ble_eq_true rfl, Nat.le_of_ble_eq_true rfl⟩ ⟨Nat.zero_le _, Nat.zero_le _⟩ (Nat.le_of_ble_eq_true rfl) rfl (rest := []) (cells := 0) (slots := 0) (lv := [(0, yR g 155), (1, yI x), (2, yI y), (3, yI p)])
  refine y_cp (zz4) ?_
  refine y_if_eq (pc := 7) hF dX11_isOf_7 28 rfl bi_r (fun zc7 => ?_) (fun zc7 => ?_)
  · replace zc7 := bi_0.mp zc7
    refine y_iconst (pc := 28) hF dX11_isOf_28 ?_
    exact y_zret (pc := 29) hF dX11_isOf_29 (by decide) (Nat.zero_le _) (Nat.zero_le _) ⟨_, rfl, by rw [show isO w h L x y p = false by simp [isO, *]]; rfl, rfl, rfl⟩
  · replace zc7 := bi_n0.mp zc7
    have zi := sIn_iff.mp zc7
    have zlb := hLb x y
    refine y_aload_n (pc := 10) hF dX11_isOf_10 0 rfl ?_
    refine y_get (pc := 11) (ci := 11) hF dX11_isOf_11 (by omega) rfl rfl rfl iX11 38 (by decide) w_1285 rfl ?_
    refine y_iload_n (pc := 14) hF dX11_isOf_14 1 rfl ?_
    refine y_iload_n (pc := 15) hF dX11_isOf_15 2 rfl ?_
    have zz16 := y_rS (pc := 16) (As := [yI x, yI y]) (kk := 0) hF (tX11_at (n := n) (σ := σ) x y) dX11_isOf_16 w_1236 qX11_at rfl ⟨Nat.le_of_ble_eq_true rfl, Nat.le_of_ble_eq_true rfl⟩ ⟨Nat.zero_le _, Nat.zero_le _⟩ (Nat.le_of_ble_eq_true rfl) rfl (rest := [yR g 169]) (cells := 0) (slots := 0) (lv := [(0, yR g 155), (1, yI x), (2, yI y), (3, yI p)])
    refine y_cp (zz16) ?_
    refine y_iaload (pc := 19) hF dX11_isOf_19 (by omega) rfl ⟨by omega, by show _ < (400 : Int); omega⟩ (by decide) ?_
    rw [show σ 169 (20 * y + x) = L x y from (hL x y zi.1 zi.2.1 zi.2.2.1 zi.2.2.2)]
    refine y_iload_n (pc := 20) hF dX11_isOf_20 3 rfl ?_
    refine y_icmp_ne (pc := 21) hF dX11_isOf_21 28 rfl (by omega) (by omega) (fun zc21 => ?_) (fun zc21 => ?_)
    · skip
      refine y_iconst (pc := 28) hF dX11_isOf_28 ?_
      exact y_zret (pc := 29) hF dX11_isOf_29 (by decide) (Nat.zero_le _) (Nat.zero_le _) ⟨_, rfl, by rw [show isO w h L x y p = false by simp [isO, *]]; rfl, rfl, rfl⟩
    · skip
      refine y_iconst (pc := 24) hF dX11_isOf_24 ?_
      refine y_goto (pc := 25) hF dX11_isOf_25 29 rfl ?_
      exact y_zret (pc := 29) hF dX11_isOf_29 (by decide) (Nat.zero_le _) (Nat.zero_le _) ⟨_, rfl, by rw [show isO w h L x y p = true by simp [isO, *]]; rfl, rfl, rfl⟩
