theorem dX11_sign_0 : decode cX11_sign 0 = .ok (.aload_n 0, 1) := by decide +kernel
theorem dX11_sign_1 : decode cX11_sign 1 = .ok (.getfield 252, 3) := by decide +kernel
theorem dX11_sign_4 : decode cX11_sign 4 = .ok (.aload_n 0, 1) := by decide +kernel
theorem dX11_sign_5 : decode cX11_sign 5 = .ok (.getfield 255, 3) := by decide +kernel
theorem dX11_sign_8 : decode cX11_sign 8 = .ok (.if_icmp .ge 15, 3) := by decide +kernel
theorem dX11_sign_11 : decode cX11_sign 11 = .ok (.aload_n 0, 1) := by decide +kernel
theorem dX11_sign_12 : decode cX11_sign 12 = .ok (.getfield 40, 3) := by decide +kernel
theorem dX11_sign_15 : decode cX11_sign 15 = .ok (.aload_n 0, 1) := by decide +kernel
theorem dX11_sign_16 : decode cX11_sign 16 = .ok (.getfield 252, 3) := by decide +kernel
theorem dX11_sign_19 : decode cX11_sign 19 = .ok (.baload, 1) := by decide +kernel
theorem dX11_sign_20 : decode cX11_sign 20 = .ok (.goto 4, 3) := by decide +kernel
theorem dX11_sign_23 : decode cX11_sign 23 = .ok (.iconst 0, 1) := by decide +kernel
theorem dX11_sign_24 : decode cX11_sign 24 = .ok (.ireturn, 1) := by decide +kernel
set_option maxHeartbeats 4000000 in
set_option maxRecDepth 100000 in
theorem tX11_sign {l : Launch} {g : yG} {n : Nat} {σ : yM} (hn : 172 ≤ n) (tb : Int → Int) (e p f fp W h c : Int) (hQ : mTq σ tb e p f fp W h c) (hpe : 0 ≤ p ∧ p ≤ e ∧ e ≤ 300) (htb : ∀ j : Int, 0 ≤ tb j ∧ tb j ≤ 255) : yMet l g yX11_sign cX11_sign 1 (some .int) (rmL 1) [yR g 155] (SC g) n σ (SC g) (yPp (sg tb e p) n σ) := by
  refine y_start (by decide) (Nat.le_of_ble_eq_true rfl) (fun X0 hF => ?_)
  show yV X0 g 1 (yQ X0 g (SC g) (yPp (sg tb e p) n σ) (rmL 1)) (SC g) n σ 0 0 0 [(0, yR g 155)] []
  refine y_aload_n (pc := 0) hF dX11_sign_0 0 rfl ?_
  refine y_get (pc := 1) (ci := 11) hF dX11_sign_1 (by omega) rfl rfl rfl iX11 32 (by decide) w_1279 rfl ?_
  rw [show σ 155 32 = p from hQ.2.1]
  refine y_aload_n (pc := 4) hF dX11_sign_4 0 rfl ?_
  refine y_get (pc := 5) (ci := 11) hF dX11_sign_5 (by omega) rfl rfl rfl iX11 31 (by decide) w_1278 rfl ?_
  rw [show σ 155 31 = e from hQ.1]
  refine y_icmp_ge (pc := 8) hF dX11_sign_8 23 rfl (by omega) (by omega) (fun zc8 => ?_) (fun zc8 => ?_)
  · skip
    refine y_iconst (pc := 23) hF dX11_sign_23 ?_
    exact y_iret (pc := 24) hF dX11_sign_24 (Nat.zero_le _) (Nat.zero_le _) ⟨_, rfl, by unfold sg; rw [if_neg (by omega)], rfl, rfl⟩
  · skip
    have zt := hQ.2.2.2.2.2.2.2 p hpe.1 (by omega)
    refine y_aload_n (pc := 11) hF dX11_sign_11 0 rfl ?_
    refine y_get (pc := 12) (ci := 11) hF dX11_sign_12 (by omega) rfl rfl rfl iX11 27 (by decide) w_1274 rfl ?_
    refine y_aload_n (pc := 15) hF dX11_sign_15 0 rfl ?_
    refine y_get (pc := 16) (ci := 11) hF dX11_sign_16 (by omega) rfl rfl rfl iX11 32 (by decide) w_1279 rfl ?_
    rw [show σ 155 32 = p from hQ.2.1]
    refine y_baload (pc := 19) hF dX11_sign_19 (by omega) rfl ⟨by omega, by show _ < (300 : Int); omega⟩ (by decide) ?_
    rw [show σ 167 p = sb (tb p) from zt]
    refine y_goto (pc := 20) hF dX11_sign_20 24 rfl ?_
    exact y_iret (pc := 24) hF dX11_sign_24 (Nat.zero_le _) (Nat.zero_le _) ⟨_, rfl, by unfold sg; rw [if_pos (by omega)], rfl, rfl⟩

theorem dX11_isDigit_0 : decode cX11_isDigit 0 = .ok (.aload_n 0, 1) := by decide +kernel
theorem dX11_isDigit_1 : decode cX11_isDigit 1 = .ok (.invokevirtual 258, 3) := by decide +kernel
theorem dX11_isDigit_4 : decode cX11_isDigit 4 = .ok (.bipush 48, 2) := by decide +kernel
theorem dX11_isDigit_6 : decode cX11_isDigit 6 = .ok (.if_icmp .lt 16, 3) := by decide +kernel
theorem dX11_isDigit_9 : decode cX11_isDigit 9 = .ok (.aload_n 0, 1) := by decide +kernel
theorem dX11_isDigit_10 : decode cX11_isDigit 10 = .ok (.invokevirtual 258, 3) := by decide +kernel
theorem dX11_isDigit_13 : decode cX11_isDigit 13 = .ok (.bipush 57, 2) := by decide +kernel
theorem dX11_isDigit_15 : decode cX11_isDigit 15 = .ok (.if_icmp .gt 7, 3) := by decide +kernel
theorem dX11_isDigit_18 : decode cX11_isDigit 18 = .ok (.iconst 1, 1) := by decide +kernel
theorem dX11_isDigit_19 : decode cX11_isDigit 19 = .ok (.goto 4, 3) := by decide +kernel
theorem dX11_isDigit_22 : decode cX11_isDigit 22 = .ok (.iconst 0, 1) := by decide +kernel
theorem dX11_isDigit_23 : decode cX11_isDigit 23 = .ok (.ireturn, 1) := by decide +kernel
set_option maxHeartbeats 4000000 in
set_option maxRecDepth 100000 in
theorem tX11_isDigit {l : Launch} {g : yG} {n : Nat} {σ : yM} (hn : 172 ≤ n) (tb : Int → Int) (e p f fp W h c : Int) (hQ : mTq σ tb e p f fp W h c) (hpe : 0 ≤ p ∧ p ≤ e ∧ e ≤ 300) (htb : ∀ j : Int, 0 ≤ tb j ∧ tb j ≤ 255) : yMet l g yX11_isDigit cX11_isDigit 1 (some .boolean) (rmL 2) [yR g 155] (SC g) n σ (SC g) (yPp (bi (decide (p < e ∧ 48 ≤ tb p ∧ tb p ≤ 57))) n σ) := by
  have zb := sg_bd (e := e) (htb p)
  have zd := sg_dig (e := e) (htb p)
  refine y_start (by decide) (Nat.le_of_ble_eq_true rfl) (fun X0 hF => ?_)
  show yV X0 g 1 (yQ X0 g (SC g) (yPp (bi (decide (p < e ∧ 48 ≤ tb p ∧ tb p ≤ 57))) n σ) (rmL 2)) (SC g) n σ 0 0 0 [(0, yR g 155)] []
  refine y_aload_n (pc := 0) hF dX11_isDigit_0 0 rfl ?_
  have zz1 := y_rV (pc := 1) hF (tX11_sign (n := n) (σ := σ) hn tb e p f fp W h c hQ (by omega) htb) dX11_isDigit_1 (by omega) rfl rfl rfl w_1411 qX11_sign rfl ⟨Nat.le_of_ble_eq_true rfl, Nat.le_of_ble_eq_true rfl⟩ ⟨Nat.zero_le _, Nat.zero_le _⟩ (Nat.le_of_ble_eq_true rfl) rfl (rest := []) (cells := 0) (slots := 0) (lv := [(0, yR g 155)])
  refine y_cp (zz1) ?_
  refine y_bipush (pc := 4) hF dX11_isDigit_4 (by decide) ?_
  refine y_icmp_lt (pc := 6) hF dX11_isDigit_6 22 rfl (by omega) (by omega) (fun zc6 => ?_) (fun zc6 => ?_)
  · skip
    refine y_iconst (pc := 22) hF dX11_isDigit_22 ?_
    exact y_zret (pc := 23) hF dX11_isDigit_23 (by decide) (Nat.zero_le _) (Nat.zero_le _) ⟨_, rfl, by rw [show decide (p < e ∧ 48 ≤ tb p ∧ tb p ≤ 57) = false from decide_eq_false (by omega)]; rfl, rfl, rfl⟩
  · skip
    refine y_aload_n (pc := 9) hF dX11_isDigit_9 0 rfl ?_
    have zz10 := y_rV (pc := 10) hF (tX11_sign (n := n) (σ := σ) hn tb e p f fp W h c hQ (by omega) htb) dX11_isDigit_10 (by omega) rfl rfl rfl w_1411 qX11_sign rfl ⟨Nat.le_of_ble_eq_true rfl, Nat.le_of_ble_eq_true rfl⟩ ⟨Nat.zero_le _, Nat.zero_le _⟩ (Nat.le_of_ble_eq_true rfl) rfl (rest := []) (cells := 0) (slots := 0) (lv := [(0, yR g 155)])
    refine y_cp (zz10) ?_
    refine y_bipush (pc := 13) hF dX11_isDigit_13 (by decide) ?_
    refine y_icmp_gt (pc := 15) hF dX11_isDigit_15 22 rfl (by omega) (by omega) (fun zc15 => ?_) (fun zc15 => ?_)
    · skip
      refine y_iconst (pc := 22) hF dX11_isDigit_22 ?_
      exact y_zret (pc := 23) hF dX11_isDigit_23 (by decide) (Nat.zero_le _) (Nat.zero_le _) ⟨_, rfl, by rw [show decide (p < e ∧ 48 ≤ tb p ∧ tb p ≤ 57) = false from decide_eq_false (by omega)]; rfl, rfl, rfl⟩
    · skip
      refine y_iconst (pc := 18) hF dX11_isDigit_18 ?_
      refine y_goto (pc := 19) hF dX11_isDigit_19 23 rfl ?_
      exact y_zret (pc := 23) hF dX11_isDigit_23 (by decide) (Nat.zero_le _) (Nat.zero_le _) ⟨_, rfl, by rw [show decide (p < e ∧ 48 ≤ tb p ∧ tb p ≤ 57) = true from decide_eq_true (by omega)]; rfl, rfl, rfl⟩

theorem dX11_isDot_0 : decode cX11_isDot 0 = .ok (.aload_n 0, 1) := by decide +kernel
theorem dX11_isDot_1 : decode cX11_isDot 1 = .ok (.invokevirtual 258, 3) := by decide +kernel
theorem dX11_isDot_4 : decode cX11_isDot 4 = .ok (.bipush 97, 2) := by decide +kernel
theorem dX11_isDot_6 : decode cX11_isDot 6 = .ok (.if_icmp .lt 12, 3) := by decide +kernel
theorem dX11_isDot_9 : decode cX11_isDot 9 = .ok (.aload_n 0, 1) := by decide +kernel
theorem dX11_isDot_10 : decode cX11_isDot 10 = .ok (.invokevirtual 258, 3) := by decide +kernel
theorem dX11_isDot_13 : decode cX11_isDot 13 = .ok (.bipush 122, 2) := by decide +kernel
theorem dX11_isDot_15 : decode cX11_isDot 15 = .ok (.if_icmp .le 12, 3) := by decide +kernel
theorem dX11_isDot_18 : decode cX11_isDot 18 = .ok (.aload_n 0, 1) := by decide +kernel
theorem dX11_isDot_19 : decode cX11_isDot 19 = .ok (.invokevirtual 258, 3) := by decide +kernel
theorem dX11_isDot_22 : decode cX11_isDot 22 = .ok (.bipush 63, 2) := by decide +kernel
theorem dX11_isDot_24 : decode cX11_isDot 24 = .ok (.if_icmp .ne 7, 3) := by decide +kernel
theorem dX11_isDot_27 : decode cX11_isDot 27 = .ok (.iconst 1, 1) := by decide +kernel
theorem dX11_isDot_28 : decode cX11_isDot 28 = .ok (.goto 4, 3) := by decide +kernel
theorem dX11_isDot_31 : decode cX11_isDot 31 = .ok (.iconst 0, 1) := by decide +kernel
theorem dX11_isDot_32 : decode cX11_isDot 32 = .ok (.ireturn, 1) := by decide +kernel
set_option maxHeartbeats 4000000 in
set_option maxRecDepth 100000 in
theorem tX11_isDot {l : Launch} {g : yG} {n : Nat} {σ : yM} (hn : 172 ≤ n) (tb : Int → Int) (e p f fp W h c : Int) (hQ : mTq σ tb e p f fp W h c) (hpe : 0 ≤ p ∧ p ≤ e ∧ e ≤ 300) (htb : ∀ j : Int, 0 ≤ tb j ∧ tb j ≤ 255) : yMet l g yX11_isDot cX11_isDot 1 (some .boolean) (rmL 2) [yR g 155] (SC g) n σ (SC g) (yPp (bi (iD tb e p)) n σ) := by
  have zb := sg_bd (e := e) (htb p)
  have zd := sg_dot (e := e) (htb p)
  refine y_start (by decide) (Nat.le_of_ble_eq_true rfl) (fun X0 hF => ?_)
  show yV X0 g 1 (yQ X0 g (SC g) (yPp (bi (iD tb e p)) n σ) (rmL 2)) (SC g) n σ 0 0 0 [(0, yR g 155)] []
  refine y_aload_n (pc := 0) hF dX11_isDot_0 0 rfl ?_
  have zz1 := y_rV (pc := 1) hF (tX11_sign (n := n) (σ := σ) hn tb e p f fp W h c hQ (by omega) htb) dX11_isDot_1 (by omega) rfl rfl rfl w_1411 qX11_sign rfl ⟨Nat.le_of_ble_eq_true rfl, Nat.le_of_ble_eq_true rfl⟩ ⟨Nat.zero_le _, Nat.zero_le _⟩ (Nat.le_of_ble_eq_true rfl) rfl (rest := []) (cells := 0) (slots := 0) (lv := [(0, yR g 155)])
  refine y_cp (zz1) ?_
  refine y_bipush (pc := 4) hF dX11_isDot_4 (by decide) ?_
  refine y_icmp_lt (pc := 6) hF dX11_isDot_6 18 rfl (by omega) (by omega) (fun zc6 => ?_) (fun zc6 => ?_)
  · skip
    refine y_aload_n (pc := 18) hF dX11_isDot_18 0 rfl ?_
    have zz19 := y_rV (pc := 19) hF (tX11_sign (n := n) (σ := σ) hn tb e p f fp W h c hQ (by omega) htb) dX11_isDot_19 (by omega) rfl rfl rfl w_1411 qX11_sign rfl ⟨Nat.le_of_ble_eq_true rfl, Nat.le_of_ble_eq_true rfl⟩ ⟨Nat.zero_le _, Nat.zero_le _⟩ (Nat.le_of_ble_eq_true rfl) rfl (rest := []) (cells := 0) (slots := 0) (lv := [(0, yR g 155)])
    refine y_cp (zz19) ?_
    refine y_bipush (pc := 22) hF dX11_isDot_22 (by decide) ?_
    refine y_icmp_ne (pc := 24) hF dX11_isDot_24 31 rfl (by omega) (by omega) (fun zc24 => ?_) (fun zc24 => ?_)
    · skip
      refine y_iconst (pc := 31) hF dX11_isDot_31 ?_
      exact y_zret (pc := 32) hF dX11_isDot_32 (by decide) (Nat.zero_le _) (Nat.zero_le _) ⟨_, rfl, by rw [show iD tb e p = false from decide_eq_false (by omega)]; rfl, rfl, rfl⟩
    · skip
      refine y_iconst (pc := 27) hF dX11_isDot_27 ?_
      refine y_goto (pc := 28) hF dX11_isDot_28 32 rfl ?_
      exact y_zret (pc := 32) hF dX11_isDot_32 (by decide) (Nat.zero_le _) (Nat.zero_le _) ⟨_, rfl, by rw [show iD tb e p = true from decide_eq_true (by omega)]; rfl, rfl, rfl⟩
  · skip
    refine y_aload_n (pc := 9) hF dX11_isDot_9 0 rfl ?_
    have zz10 := y_rV (pc := 10) hF (tX11_sign (n := n) (σ := σ) hn tb e p f fp W h c hQ (by omega) htb) dX11_isDot_10 (by omega) rfl rfl rfl w_1411 qX11_sign rfl ⟨Nat.le_of_ble_eq_true rfl, Nat.le_of_ble_eq_true rfl⟩ ⟨Nat.zero_le _, Nat.zero_le _⟩ (Nat.le_of_ble_eq_true rfl) rfl (rest := []) (cells := 0) (slots := 0) (lv := [(0, yR g 155)])
    refine y_cp (zz10) ?_
    refine y_bipush (pc := 13) hF dX11_isDot_13 (by decide) ?_
    refine y_icmp_le (pc := 15) hF dX11_isDot_15 27 rfl (by omega) (by omega) (fun zc15 => ?_) (fun zc15 => ?_)
    · skip
      refine y_iconst (pc := 27) hF dX11_isDot_27 ?_
      refine y_goto (pc := 28) hF dX11_isDot_28 32 rfl ?_
      exact y_zret (pc := 32) hF dX11_isDot_32 (by decide) (Nat.zero_le _) (Nat.zero_le _) ⟨_, rfl, by rw [show iD tb e p = true from decide_eq_true (by omega)]; rfl, rfl, rfl⟩
    · skip
      refine y_aload_n (pc := 18) hF dX11_isDot_18 0 rfl ?_
      have zz19 := y_rV (pc := 19) hF (tX11_sign (n := n) (σ := σ) hn tb e p f fp W h c hQ (by omega) htb) dX11_isDot_19 (by omega) rfl rfl rfl w_1411 qX11_sign rfl ⟨Nat.le_of_ble_eq_true rfl, Nat.le_of_ble_eq_true rfl⟩ ⟨Nat.zero_le _, Nat.zero_le _⟩ (Nat.le_of_ble_eq_true rfl) rfl (rest := []) (cells := 0) (slots := 0) (lv := [(0, yR g 155)])
      refine y_cp (zz19) ?_
      refine y_bipush (pc := 22) hF dX11_isDot_22 (by decide) ?_
      refine y_icmp_ne (pc := 24) hF dX11_isDot_24 31 rfl (by omega) (by omega) (fun zc24 => ?_) (fun zc24 => ?_)
      · skip
        refine y_iconst (pc := 31) hF dX11_isDot_31 ?_
        exact y_zret (pc := 32) hF dX11_isDot_32 (by decide) (Nat.zero_le _) (Nat.zero_le _) ⟨_, rfl, by rw [show iD tb e p = false from decide_eq_false (by omega)]; rfl, rfl, rfl⟩
      · skip
        refine y_iconst (pc := 27) hF dX11_isDot_27 ?_
        refine y_goto (pc := 28) hF dX11_isDot_28 32 rfl ?_
        exact y_zret (pc := 32) hF dX11_isDot_32 (by decide) (Nat.zero_le _) (Nat.zero_le _) ⟨_, rfl, by rw [show iD tb e p = true from decide_eq_true (by omega)]; rfl, rfl, rfl⟩

theorem dX11_wrong_0 : decode cX11_wrong 0 = .ok (.aload_n 0, 1) := by decide +kernel
theorem dX11_wrong_1 : decode cX11_wrong 1 = .ok (.getfield 246, 3) := by decide +kernel
theorem dX11_wrong_4 : decode cX11_wrong 4 = .ok (.ifCond .le 4, 3) := by decide +kernel
theorem dX11_wrong_8 : decode cX11_wrong 8 = .ok (.aload_n 0, 1) := by decide +kernel
theorem dX11_wrong_9 : decode cX11_wrong 9 = .ok (.iload_n 1, 1) := by decide +kernel
theorem dX11_wrong_10 : decode cX11_wrong 10 = .ok (.putfield 246, 3) := by decide +kernel
theorem dX11_wrong_13 : decode cX11_wrong 13 = .ok (.aload_n 0, 1) := by decide +kernel
theorem dX11_wrong_14 : decode cX11_wrong 14 = .ok (.iload_n 2, 1) := by decide +kernel
theorem dX11_wrong_15 : decode cX11_wrong 15 = .ok (.putfield 249, 3) := by decide +kernel
theorem dX11_wrong_18 : decode cX11_wrong 18 = .ok (.return_, 1) := by decide +kernel
set_option maxHeartbeats 4000000 in
set_option maxRecDepth 100000 in
theorem tX11_wrong {l : Launch} {g : yG} {n : Nat} {σ : yM} (hn : 172 ≤ n) (hf : σ 155 33 = 0) (kd pl : Int) : yMet l g yX11_wrong cX11_wrong 3 none (rmL 1) [yR g 155, yI kd, yI pl] (SC g) n σ (SC g) (yPv (fun n' σ' => n' = n ∧ σ' = yset (yset σ 155 33 kd) 155 34 pl)) := by
  refine y_start (by decide) (Nat.le_of_ble_eq_true rfl) (fun X0 hF => ?_)
  show yV X0 g 3 (yQ X0 g (SC g) (yPv (fun n' σ' => n' = n ∧ σ' = yset (yset σ 155 33 kd) 155 34 pl)) (rmL 1)) (SC g) n σ 0 0 0 [(0, yR g 155), (1, yI kd), (2, yI pl)] []
  refine y_aload_n (pc := 0) hF dX11_wrong_0 0 rfl ?_
  refine y_get (pc := 1) (ci := 11) hF dX11_wrong_1 (by omega) rfl rfl rfl iX11 33 (by decide) w_1280 rfl ?_
  rw [show σ 155 33 = 0 from hf]
  refine y_if_le (pc := 4) hF dX11_wrong_4 8 rfl (by decide) (fun _ => ?_) (fun zc4 => absurd zc4 (by decide))
  refine y_aload_n (pc := 8) hF dX11_wrong_8 0 rfl ?_
  refine y_iload_n (pc := 9) hF dX11_wrong_9 1 rfl ?_
  refine y_putf (pc := 10) (ci := 11) (σ' := yset σ 155 33 kd) (sch' := (SC g)) hF dX11_wrong_10 (by omega) rfl rfl rfl iX11 33 (by decide) w_1280 tyX11 tyX11_ok nmX11 rfl rfl rfl rfl (Nat.le_of_ble_eq_true rfl) rfl (y_ps rfl) (fun k' h => ⟨yset_n h, rfl⟩) ?_
  refine y_aload_n (pc := 13) hF dX11_wrong_13 0 rfl ?_
  refine y_iload_n (pc := 14) hF dX11_wrong_14 2 rfl ?_
  refine y_putf (pc := 15) (ci := 11) (σ' := yset (yset σ 155 33 kd) 155 34 pl) (sch' := (SC g)) hF dX11_wrong_15 (by omega) rfl rfl rfl iX11 34 (by decide) w_1281 tyX11 tyX11_ok nmX11 rfl rfl rfl rfl (Nat.le_of_ble_eq_true rfl) rfl (y_ps rfl) (fun k' h => ⟨yset_n h, rfl⟩) ?_
  exact y_vret (pc := 18) hF dX11_wrong_18 (Nat.zero_le _) (Nat.zero_le _) ⟨rfl, rfl, rfl⟩

theorem dX11_item_0 : decode cX11_item 0 = .ok (.aload_n 0, 1) := by decide +kernel
theorem dX11_item_1 : decode cX11_item 1 = .ok (.getfield 252, 3) := by decide +kernel
theorem dX11_item_4 : decode cX11_item 4 = .ok (.istore_n 1, 1) := by decide +kernel
theorem dX11_item_5 : decode cX11_item 5 = .ok (.iconst 1, 1) := by decide +kernel
theorem dX11_item_6 : decode cX11_item 6 = .ok (.istore_n 2, 1) := by decide +kernel
theorem dX11_item_7 : decode cX11_item 7 = .ok (.aload_n 0, 1) := by decide +kernel
theorem dX11_item_8 : decode cX11_item 8 = .ok (.invokevirtual 262, 3) := by decide +kernel
theorem dX11_item_11 : decode cX11_item 11 = .ok (.ifCond .eq 60, 3) := by decide +kernel
theorem dX11_item_14 : decode cX11_item 14 = .ok (.iconst 0, 1) := by decide +kernel
theorem dX11_item_15 : decode cX11_item 15 = .ok (.istore_n 2, 1) := by decide +kernel
theorem dX11_item_16 : decode cX11_item 16 = .ok (.aload_n 0, 1) := by decide +kernel
theorem dX11_item_17 : decode cX11_item 17 = .ok (.invokevirtual 262, 3) := by decide +kernel
theorem dX11_item_20 : decode cX11_item 20 = .ok (.ifCond .eq 35, 3) := by decide +kernel
theorem dX11_item_23 : decode cX11_item 23 = .ok (.bipush 10, 2) := by decide +kernel
theorem dX11_item_25 : decode cX11_item 25 = .ok (.iload_n 2, 1) := by decide +kernel
theorem dX11_item_26 : decode cX11_item 26 = .ok (.imul, 1) := by decide +kernel
theorem dX11_item_27 : decode cX11_item 27 = .ok (.aload_n 0, 1) := by decide +kernel
theorem dX11_item_28 : decode cX11_item 28 = .ok (.invokevirtual 258, 3) := by decide +kernel
theorem dX11_item_31 : decode cX11_item 31 = .ok (.iadd, 1) := by decide +kernel
theorem dX11_item_32 : decode cX11_item 32 = .ok (.bipush 48, 2) := by decide +kernel
theorem dX11_item_34 : decode cX11_item 34 = .ok (.isub, 1) := by decide +kernel
theorem dX11_item_35 : decode cX11_item 35 = .ok (.sipush 1000, 3) := by decide +kernel
theorem dX11_item_38 : decode cX11_item 38 = .ok (.invokestatic 216, 3) := by decide +kernel
theorem dX11_item_41 : decode cX11_item 41 = .ok (.istore_n 2, 1) := by decide +kernel
theorem dX11_item_42 : decode cX11_item 42 = .ok (.aload_n 0, 1) := by decide +kernel
theorem dX11_item_43 : decode cX11_item 43 = .ok (.dup, 1) := by decide +kernel
theorem dX11_item_44 : decode cX11_item 44 = .ok (.getfield 252, 3) := by decide +kernel
theorem dX11_item_47 : decode cX11_item 47 = .ok (.iconst 1, 1) := by decide +kernel
theorem dX11_item_48 : decode cX11_item 48 = .ok (.iadd, 1) := by decide +kernel
theorem dX11_item_49 : decode cX11_item 49 = .ok (.putfield 252, 3) := by decide +kernel
theorem dX11_item_52 : decode cX11_item 52 = .ok (.goto (-36), 3) := by decide +kernel
theorem dX11_item_55 : decode cX11_item 55 = .ok (.iload_n 2, 1) := by decide +kernel
theorem dX11_item_56 : decode cX11_item 56 = .ok (.iconst 2, 1) := by decide +kernel
theorem dX11_item_57 : decode cX11_item 57 = .ok (.bipush 20, 2) := by decide +kernel
theorem dX11_item_59 : decode cX11_item 59 = .ok (.invokestatic 68, 3) := by decide +kernel
theorem dX11_item_62 : decode cX11_item 62 = .ok (.ifCond .ne 9, 3) := by decide +kernel
theorem dX11_item_65 : decode cX11_item 65 = .ok (.aload_n 0, 1) := by decide +kernel
theorem dX11_item_66 : decode cX11_item 66 = .ok (.iconst 2, 1) := by decide +kernel
theorem dX11_item_67 : decode cX11_item 67 = .ok (.iload_n 1, 1) := by decide +kernel
theorem dX11_item_68 : decode cX11_item 68 = .ok (.invokevirtual 266, 3) := by decide +kernel
theorem dX11_item_71 : decode cX11_item 71 = .ok (.aload_n 0, 1) := by decide +kernel
theorem dX11_item_72 : decode cX11_item 72 = .ok (.getfield 269, 3) := by decide +kernel
theorem dX11_item_75 : decode cX11_item 75 = .ok (.ifCond .ne 8, 3) := by decide +kernel
theorem dX11_item_78 : decode cX11_item 78 = .ok (.bipush 20, 2) := by decide +kernel
theorem dX11_item_80 : decode cX11_item 80 = .ok (.goto 7, 3) := by decide +kernel
theorem dX11_item_83 : decode cX11_item 83 = .ok (.aload_n 0, 1) := by decide +kernel
theorem dX11_item_84 : decode cX11_item 84 = .ok (.getfield 272, 3) := by decide +kernel
theorem dX11_item_87 : decode cX11_item 87 = .ok (.istore_n 3, 1) := by decide +kernel
theorem dX11_item_88 : decode cX11_item 88 = .ok (.aload_n 0, 1) := by decide +kernel
theorem dX11_item_89 : decode cX11_item 89 = .ok (.getfield 246, 3) := by decide +kernel
theorem dX11_item_92 : decode cX11_item 92 = .ok (.ifCond .ne 26, 3) := by decide +kernel
theorem dX11_item_95 : decode cX11_item 95 = .ok (.aload_n 0, 1) := by decide +kernel
theorem dX11_item_96 : decode cX11_item 96 = .ok (.invokevirtual 275, 3) := by decide +kernel
theorem dX11_item_99 : decode cX11_item 99 = .ok (.ifCond .eq 19, 3) := by decide +kernel
theorem dX11_item_102 : decode cX11_item 102 = .ok (.aload_n 0, 1) := by decide +kernel
theorem dX11_item_103 : decode cX11_item 103 = .ok (.getfield 278, 3) := by decide +kernel
theorem dX11_item_106 : decode cX11_item 106 = .ok (.iload_n 2, 1) := by decide +kernel
theorem dX11_item_107 : decode cX11_item 107 = .ok (.iadd, 1) := by decide +kernel
theorem dX11_item_108 : decode cX11_item 108 = .ok (.iload_n 3, 1) := by decide +kernel
theorem dX11_item_109 : decode cX11_item 109 = .ok (.if_icmp .le 9, 3) := by decide +kernel
theorem dX11_item_112 : decode cX11_item 112 = .ok (.aload_n 0, 1) := by decide +kernel
theorem dX11_item_113 : decode cX11_item 113 = .ok (.iconst 3, 1) := by decide +kernel
theorem dX11_item_114 : decode cX11_item 114 = .ok (.iload_n 1, 1) := by decide +kernel
theorem dX11_item_115 : decode cX11_item 115 = .ok (.invokevirtual 266, 3) := by decide +kernel
theorem dX11_item_118 : decode cX11_item 118 = .ok (.aload_n 0, 1) := by decide +kernel
theorem dX11_item_119 : decode cX11_item 119 = .ok (.getfield 246, 3) := by decide +kernel
theorem dX11_item_122 : decode cX11_item 122 = .ok (.ifCond .ne 19, 3) := by decide +kernel
theorem dX11_item_125 : decode cX11_item 125 = .ok (.aload_n 0, 1) := by decide +kernel
theorem dX11_item_126 : decode cX11_item 126 = .ok (.invokevirtual 275, 3) := by decide +kernel
theorem dX11_item_129 : decode cX11_item 129 = .ok (.ifCond .ne 12, 3) := by decide +kernel
theorem dX11_item_132 : decode cX11_item 132 = .ok (.aload_n 0, 1) := by decide +kernel
theorem dX11_item_133 : decode cX11_item 133 = .ok (.iconst 1, 1) := by decide +kernel
theorem dX11_item_134 : decode cX11_item 134 = .ok (.aload_n 0, 1) := by decide +kernel
theorem dX11_item_135 : decode cX11_item 135 = .ok (.getfield 252, 3) := by decide +kernel
theorem dX11_item_138 : decode cX11_item 138 = .ok (.invokevirtual 266, 3) := by decide +kernel
theorem dX11_item_141 : decode cX11_item 141 = .ok (.aload_n 0, 1) := by decide +kernel
theorem dX11_item_142 : decode cX11_item 142 = .ok (.getfield 246, 3) := by decide +kernel
theorem dX11_item_145 : decode cX11_item 145 = .ok (.ifCond .le 4, 3) := by decide +kernel
theorem dX11_item_148 : decode cX11_item 148 = .ok (.return_, 1) := by decide +kernel
theorem dX11_item_149 : decode cX11_item 149 = .ok (.aload_n 0, 1) := by decide +kernel
theorem dX11_item_150 : decode cX11_item 150 = .ok (.invokevirtual 258, 3) := by decide +kernel
theorem dX11_item_153 : decode cX11_item 153 = .ok (.bipush 63, 2) := by decide +kernel
theorem dX11_item_155 : decode cX11_item 155 = .ok (.if_icmp .ne 7, 3) := by decide +kernel
theorem dX11_item_158 : decode cX11_item 158 = .ok (.iconst (-1), 1) := by decide +kernel
theorem dX11_item_159 : decode cX11_item 159 = .ok (.goto 13, 3) := by decide +kernel
theorem dX11_item_162 : decode cX11_item 162 = .ok (.bipush 10, 2) := by decide +kernel
theorem dX11_item_164 : decode cX11_item 164 = .ok (.aload_n 0, 1) := by decide +kernel
theorem dX11_item_165 : decode cX11_item 165 = .ok (.invokevirtual 258, 3) := by decide +kernel
theorem dX11_item_168 : decode cX11_item 168 = .ok (.bipush 97, 2) := by decide +kernel
theorem dX11_item_170 : decode cX11_item 170 = .ok (.isub, 1) := by decide +kernel
theorem dX11_item_171 : decode cX11_item 171 = .ok (.imul, 1) := by decide +kernel
theorem dX11_item_172 : decode cX11_item 172 = .ok (.istore 4, 2) := by decide +kernel
theorem dX11_item_174 : decode cX11_item 174 = .ok (.iconst 0, 1) := by decide +kernel
theorem dX11_item_175 : decode cX11_item 175 = .ok (.istore 5, 2) := by decide +kernel
theorem dX11_item_177 : decode cX11_item 177 = .ok (.iload 5, 2) := by decide +kernel
theorem dX11_item_179 : decode cX11_item 179 = .ok (.iload_n 2, 1) := by decide +kernel
theorem dX11_item_180 : decode cX11_item 180 = .ok (.if_icmp .ge 30, 3) := by decide +kernel
theorem dX11_item_183 : decode cX11_item 183 = .ok (.aload_n 0, 1) := by decide +kernel
theorem dX11_item_184 : decode cX11_item 184 = .ok (.getfield 44, 3) := by decide +kernel
theorem dX11_item_187 : decode cX11_item 187 = .ok (.aload_n 0, 1) := by decide +kernel
theorem dX11_item_188 : decode cX11_item 188 = .ok (.getfield 278, 3) := by decide +kernel
theorem dX11_item_191 : decode cX11_item 191 = .ok (.iload 5, 2) := by decide +kernel
theorem dX11_item_193 : decode cX11_item 193 = .ok (.iadd, 1) := by decide +kernel
theorem dX11_item_194 : decode cX11_item 194 = .ok (.aload_n 0, 1) := by decide +kernel
theorem dX11_item_195 : decode cX11_item 195 = .ok (.getfield 269, 3) := by decide +kernel
theorem dX11_item_198 : decode cX11_item 198 = .ok (.invokestatic 56, 3) := by decide +kernel
theorem dX11_item_201 : decode cX11_item 201 = .ok (.iload 4, 2) := by decide +kernel
theorem dX11_item_203 : decode cX11_item 203 = .ok (.iastore, 1) := by decide +kernel
theorem dX11_item_204 : decode cX11_item 204 = .ok (.iinc 5 1, 3) := by decide +kernel
theorem dX11_item_207 : decode cX11_item 207 = .ok (.goto (-30), 3) := by decide +kernel
theorem dX11_item_210 : decode cX11_item 210 = .ok (.aload_n 0, 1) := by decide +kernel
theorem dX11_item_211 : decode cX11_item 211 = .ok (.dup, 1) := by decide +kernel
theorem dX11_item_212 : decode cX11_item 212 = .ok (.getfield 278, 3) := by decide +kernel
theorem dX11_item_215 : decode cX11_item 215 = .ok (.iload_n 2, 1) := by decide +kernel
theorem dX11_item_216 : decode cX11_item 216 = .ok (.iadd, 1) := by decide +kernel
theorem dX11_item_217 : decode cX11_item 217 = .ok (.putfield 278, 3) := by decide +kernel
theorem dX11_item_220 : decode cX11_item 220 = .ok (.aload_n 0, 1) := by decide +kernel
theorem dX11_item_221 : decode cX11_item 221 = .ok (.dup, 1) := by decide +kernel
theorem dX11_item_222 : decode cX11_item 222 = .ok (.getfield 252, 3) := by decide +kernel
theorem dX11_item_225 : decode cX11_item 225 = .ok (.iconst 1, 1) := by decide +kernel
theorem dX11_item_226 : decode cX11_item 226 = .ok (.iadd, 1) := by decide +kernel
theorem dX11_item_227 : decode cX11_item 227 = .ok (.putfield 252, 3) := by decide +kernel
theorem dX11_item_230 : decode cX11_item 230 = .ok (.return_, 1) := by decide +kernel
set_option maxHeartbeats 4000000 in
set_option maxRecDepth 100000 in
theorem tX11_item {l : Launch} {g : yG} {n : Nat} {σ : yM} (hn : 172 ≤ n) (tb : Int → Int) (e p fp W h c : Int) (hQ : mTq σ tb e p 0 fp W h c) (hpe : 0 ≤ p ∧ p ≤ e ∧ e ≤ 300) (htb : ∀ j : Int, 0 ≤ tb j ∧ tb j ≤ 255) (hh : 0 ≤ h ∧ h ≤ 19) (hmo : 0 ≤ rwMo h W ∧ rwMo h W ≤ 20) (hc : 0 ≤ c ∧ c ≤ rwMo h W) : yMet l g yX11_item cX11_item 6 none (rmL 3) [yR g 155] (SC g) n σ (SC g) (yPv (fun n' σ' => n' = n ∧ mTq σ' tb e (itm tb e p (rwMo h W - c)).2.2.1 (itm tb e p (rwMo h W - c)).1 (if (itm tb e p (rwMo h W - c)).1 = 0 then fp else (itm tb e p (rwMo h W - c)).2.1) W h (c + (itm tb e p (rwMo h W - c)).2.2.2.1) ∧ gT σ σ' ∧ ∀ j : Int, σ' 168 j = if 20 * h + c ≤ j ∧ j < 20 * h + c + (itm tb e p (rwMo h W - c)).2.2.2.1 then (itm tb e p (rwMo h W - c)).2.2.2.2 else σ 168 j)) := by
  have zbd := it_bd (tb := tb) hpe.2.1
  refine y_start (by decide) (Nat.le_of_ble_eq_true rfl) (fun X0 hF => ?_)
  show yV X0 g 6 (yQ X0 g (SC g) (yPv (fun n' σ' => n' = n ∧ mTq σ' tb e (itm tb e p (rwMo h W - c)).2.2.1 (itm tb e p (rwMo h W - c)).1 (if (itm tb e p (rwMo h W - c)).1 = 0 then fp else (itm tb e p (rwMo h W - c)).2.1) W h (c + (itm tb e p (rwMo h W - c)).2.2.2.1) ∧ gT σ σ' ∧ ∀ j : Int, σ' 168 j = if 20 * h + c ≤ j ∧ j < 20 * h + c + (itm tb e p (rwMo h W - c)).2.2.2.1 then (itm tb e p (rwMo h W - c)).2.2.2.2 else σ 168 j)) (rmL 3)) (SC g) n σ 0 0 0 [(0, yR g 155)] []
  have zJ71 : ∀ (τ5 : yM) (nn q f : Int), (mTq τ5 tb e q f (if f = 0 then fp else p) W h c ∧ gT σ τ5 ∧ τ5 168 = σ 168 ∧ q = (dgP tb e p).1 ∧ (0 ≤ nn ∧ nn ≤ 1000) ∧ ((f = 2 ∧ itF tb e p = true) ∨ (f = 0 ∧ itF tb e p = false ∧ nn = itT tb e p ∧ 1 ≤ nn ∧ nn ≤ 20))) → yV X0 g 6 (yQ X0 g (SC g) (yPv (fun n' σ' => n' = n ∧ mTq σ' tb e (itm tb e p (rwMo h W - c)).2.2.1 (itm tb e p (rwMo h W - c)).1 (if (itm tb e p (rwMo h W - c)).1 = 0 then fp else (itm tb e p (rwMo h W - c)).2.1) W h (c + (itm tb e p (rwMo h W - c)).2.2.2.1) ∧ gT σ σ' ∧ ∀ j : Int, σ' 168 j = if 20 * h + c ≤ j ∧ j < 20 * h + c + (itm tb e p (rwMo h W - c)).2.2.2.1 then (itm tb e p (rwMo h W - c)).2.2.2.2 else σ 168 j)) (rmL 3)) (SC g) n τ5 0 0 71 [(0, yR g 155), (1, yI p), (2, yI nn)] [] := by
    intro τ5  nn q f  zj
    have zQ_τ5 := zj.1
    have zqe := zj.2.2.2.1
    have zqb0 : 0 ≤ q ∧ q ≤ e ∧ e ≤ 300 := by omega
    have zmf : -2147483648 ≤ rwMo h W ∧ rwMo h W < 2147483648 := by omega
    have zff : f = 2 ∨ f = 0 := by omega
    have zFf : f = 0 → ¬ itF tb e p = true := fun zz => by rcases zj.2.2.2.2.2 with zq | zq; (omega); (rw [zq.2.1]; decide)
    have zJ87 : ∀ (mo2 : Int), (mo2 = rwMo h W) → yV X0 g 6 (yQ X0 g (SC g) (yPv (fun n' σ' => n' = n ∧ mTq σ' tb e (itm tb e p (rwMo h W - c)).2.2.1 (itm tb e p (rwMo h W - c)).1 (if (itm tb e p (rwMo h W - c)).1 = 0 then fp else (itm tb e p (rwMo h W - c)).2.1) W h (c + (itm tb e p (rwMo h W - c)).2.2.2.1) ∧ gT σ σ' ∧ ∀ j : Int, σ' 168 j = if 20 * h + c ≤ j ∧ j < 20 * h + c + (itm tb e p (rwMo h W - c)).2.2.2.1 then (itm tb e p (rwMo h W - c)).2.2.2.2 else σ 168 j)) (rmL 3)) (SC g) n τ5 0 0 87 [(0, yR g 155), (1, yI p), (2, yI nn)] [yI mo2] := by
      intro mo2  zmo2
      have zJ149 : (f = 0 ∧ iD tb e q = true ∧ c + nn ≤ rwMo h W) → yV X0 g 6 (yQ X0 g (SC g) (yPv (fun n' σ' => n' = n ∧ mTq σ' tb e (itm tb e p (rwMo h W - c)).2.2.1 (itm tb e p (rwMo h W - c)).1 (if (itm tb e p (rwMo h W - c)).1 = 0 then fp else (itm tb e p (rwMo h W - c)).2.1) W h (c + (itm tb e p (rwMo h W - c)).2.2.2.1) ∧ gT σ σ' ∧ ∀ j : Int, σ' 168 j = if 20 * h + c ≤ j ∧ j < 20 * h + c + (itm tb e p (rwMo h W - c)).2.2.2.1 then (itm tb e p (rwMo h W - c)).2.2.2.2 else σ 168 j)) (rmL 3)) (SC g) n τ5 0 0 149 [(0, yR g 155), (1, yI p), (2, yI nn)] [] := by
        intro zok
        have zf0 := zok.1
        have zdt := zok.2.1
        have zsum := zok.2.2
        have znn : nn = itT tb e p := by omega
        have zqlt : q < e ∧ (tb q = 63 ∨ (97 ≤ tb q ∧ tb q ≤ 122)) := by have zt := zdt; unfold iD at zt; simpa using zt
        have zsq : sg tb e q = tb q := sg_at (by omega) (by omega) zqlt.1
        have zit : tb q = itB tb e p := by unfold itB; rw [← zqe, if_pos zqlt.1]
        have zsr := sg_bd (e := e) (htb q)
        have zJ172 : ∀ (tn : Int), (tn = (if itB tb e p = 63 then -1 else (itB tb e p - 97) * 10)) → yV X0 g 6 (yQ X0 g (SC g) (yPv (fun n' σ' => n' = n ∧ mTq σ' tb e (itm tb e p (rwMo h W - c)).2.2.1 (itm tb e p (rwMo h W - c)).1 (if (itm tb e p (rwMo h W - c)).1 = 0 then fp else (itm tb e p (rwMo h W - c)).2.1) W h (c + (itm tb e p (rwMo h W - c)).2.2.2.1) ∧ gT σ σ' ∧ ∀ j : Int, σ' 168 j = if 20 * h + c ≤ j ∧ j < 20 * h + c + (itm tb e p (rwMo h W - c)).2.2.2.1 then (itm tb e p (rwMo h W - c)).2.2.2.2 else σ 168 j)) (rmL 3)) (SC g) n τ5 0 0 172 [(0, yR g 155), (1, yI p), (2, yI nn)] [yI tn] := by
          intro tn  ztn
          refine y_istore (pc := 172) (lv' := [(0, yR g 155), (1, yI p), (2, yI nn), (4, yI tn)]) hF dX11_item_172 (by decide) rfl rfl ?_
          refine y_iconst (pc := 174) hF dX11_item_174 ?_
          refine y_istore (pc := 175) (lv' := [(0, yR g 155), (1, yI p), (2, yI nn), (4, yI tn), (5, yI 0)]) hF dX11_item_175 (by decide) rfl rfl ?_
          have zL177 : ∀ (N : Nat) (υ : yM) (i : Int), N = (nn - i).toNat → (mTq υ tb e q 0 fp W h c ∧ gT σ υ ∧ (0 ≤ i ∧ i ≤ nn) ∧ ∀ j : Int, υ 168 j = if 20 * h + c ≤ j ∧ j < 20 * h + c + i then (if itB tb e p = 63 then -1 else (itB tb e p - 97) * 10) else σ 168 j) → yV X0 g 6 (yQ X0 g (SC g) (yPv (fun n' σ' => n' = n ∧ mTq σ' tb e (itm tb e p (rwMo h W - c)).2.2.1 (itm tb e p (rwMo h W - c)).1 (if (itm tb e p (rwMo h W - c)).1 = 0 then fp else (itm tb e p (rwMo h W - c)).2.1) W h (c + (itm tb e p (rwMo h W - c)).2.2.2.1) ∧ gT σ σ' ∧ ∀ j : Int, σ' 168 j = if 20 * h + c ≤ j ∧ j < 20 * h + c + (itm tb e p (rwMo h W - c)).2.2.2.1 then (itm tb e p (rwMo h W - c)).2.2.2.2 else σ 168 j)) (rmL 3)) (SC g) n υ 0 0 177 [(0, yR g 155), (1, yI p), (2, yI nn), (4, yI tn), (5, yI i)] [] := by
            intro N
            induction N using Nat.strongRecOn with
            | ind N zh177 =>
              intro υ  i  zN177 zI177
              have zQ_υ := zI177.1
              refine y_iload (pc := 177) hF dX11_item_177 4 rfl ?_
              refine y_iload_n (pc := 179) hF dX11_item_179 2 rfl ?_
              refine y_icmp_ge (pc := 180) hF dX11_item_180 210 rfl (by omega) (by omega) (fun zc180 => ?_) (fun zc180 => ?_)
              · skip
                have ziN : i = nn := by omega
                refine y_aload_n (pc := 210) hF dX11_item_210 0 rfl ?_
                refine y_dup (pc := 211) hF dX11_item_211 rfl ?_
                refine y_get (pc := 212) (ci := 11) hF dX11_item_212 (by omega) rfl rfl rfl iX11 37 (by decide) w_1284 rfl ?_
                rw [show υ 155 37 = c from zQ_υ.2.2.2.2.2.2.1]
                refine y_iload_n (pc := 215) hF dX11_item_215 2 rfl ?_
                refine y_iadd (pc := 216) hF dX11_item_216 ?_
                refine y_putf (pc := 217) (ci := 11) (σ' := yset υ 155 37 (c + nn)) (sch' := (SC g)) hF dX11_item_217 (by omega) rfl rfl rfl iX11 37 (by decide) w_1284 tyX11 tyX11_ok nmX11 rfl rfl rfl rfl (Nat.le_of_ble_eq_true rfl) rfl (y_ps rfl) (fun k' h => ⟨yset_n h, rfl⟩) ?_
                obtain ⟨τa, hτa⟩ : ∃ s, s = yset υ 155 37 (c + nn) := ⟨_, rfl⟩
                rw [← hτa]
                have zqa := zQ_υ.rm hτa
                have zQ_τa := zqa.1
                refine y_aload_n (pc := 220) hF dX11_item_220 0 rfl ?_
                refine y_dup (pc := 221) hF dX11_item_221 rfl ?_
                refine y_get (pc := 222) (ci := 11) hF dX11_item_222 (by omega) rfl rfl rfl iX11 32 (by decide) w_1279 rfl ?_
                rw [show τa 155 32 = q from zQ_τa.2.1]
                refine y_iconst (pc := 225) hF dX11_item_225 ?_
                refine y_iadd (pc := 226) hF dX11_item_226 ?_
                refine y_putf (pc := 227) (ci := 11) (σ' := yset τa 155 32 (q + 1)) (sch' := (SC g)) hF dX11_item_227 (by omega) rfl rfl rfl iX11 32 (by decide) w_1279 tyX11 tyX11_ok nmX11 rfl rfl rfl rfl (Nat.le_of_ble_eq_true rfl) rfl (y_ps rfl) (fun k' h => ⟨yset_n h, rfl⟩) ?_
                obtain ⟨τb, hτb⟩ : ∃ s, s = yset τa 155 32 (q + 1) := ⟨_, rfl⟩
                rw [← hτb]
                have zqb := zQ_τa.nx hτb
                have zm : itm tb e p (rwMo h W - c) = (0, -1, (dgP tb e p).1 + 1, itT tb e p, (if itB tb e p = 63 then -1 else (itB tb e p - 97) * 10)) := by unfold itm; rw [if_neg (zFf (by omega)), if_neg (not_not_intro (itB_dot.mp (by rw [← zqe]; exact zdt))), if_neg (by omega)]
                exact y_vret (pc := 230) hF dX11_item_230 (Nat.zero_le _) (Nat.zero_le _) ⟨rfl, rfl, by rw [zm]; show mTq τb tb e ((dgP tb e p).1 + 1) 0 fp W h (c + itT tb e p); rw [← zqe, ← znn]; exact zqb.1, (zI177.2.1.tr zqa.2.1).tr zqb.2.1, fun j => by rw [zm]; show _ = if 20 * h + c ≤ j ∧ j < 20 * h + c + itT tb e p then (if itB tb e p = 63 then -1 else (itB tb e p - 97) * 10) else σ 168 j; rw [zqb.2.2, zqa.2.2, ← znn, ← ziN]; exact zI177.2.2.2 j⟩
              · skip
                refine y_aload_n (pc := 183) hF dX11_item_183 0 rfl ?_
                refine y_get (pc := 184) (ci := 11) hF dX11_item_184 (by omega) rfl rfl rfl iX11 28 (by decide) w_1275 rfl ?_
                refine y_aload_n (pc := 187) hF dX11_item_187 0 rfl ?_
                refine y_get (pc := 188) (ci := 11) hF dX11_item_188 (by omega) rfl rfl rfl iX11 37 (by decide) w_1284 rfl ?_
                rw [show υ 155 37 = c from zQ_υ.2.2.2.2.2.2.1]
                refine y_iload (pc := 191) hF dX11_item_191 4 rfl ?_
                refine y_iadd (pc := 193) hF dX11_item_193 ?_
                refine y_aload_n (pc := 194) hF dX11_item_194 0 rfl ?_
                refine y_get (pc := 195) (ci := 11) hF dX11_item_195 (by omega) rfl rfl rfl iX11 36 (by decide) w_1283 rfl ?_
                rw [show υ 155 36 = h from zQ_υ.2.2.2.2.2.1]
                have zz198 := y_rS (pc := 198) (As := [yI (c + i), yI h]) (kk := 0) hF (tX11_at (n := n) (σ := υ) (c + i) h) dX11_item_198 w_1236 qX11_at rfl ⟨Nat.le_of_ble_eq_true rfl, Nat.le_of_ble_eq_true rfl⟩ ⟨Nat.zero_le _, Nat.zero_le _⟩ (Nat.le_of_ble_eq_true rfl) rfl (rest := [yR g 168]) (cells := 0) (slots := 0) (lv := [(0, yR g 155), (1, yI p), (2, yI nn), (4, yI tn), (5, yI i)])
                refine y_cp (zz198) ?_
                refine y_iload (pc := 201) hF dX11_item_201 3 rfl ?_
                refine y_iastore (pc := 203) hF dX11_item_203 (by omega) rfl ⟨by omega, by show _ < (400 : Int); omega⟩ (by decide) ?_
                obtain ⟨τ9, hτ9⟩ : ∃ s, s = yset υ 168 (20 * h + (c + i)) tn := ⟨_, rfl⟩
                rw [← hτ9]
                refine y_iinc (pc := 204) (lv' := [(0, yR g 155), (1, yI p), (2, yI nn), (4, yI tn), (5, yI (i + 1))]) hF dX11_item_204 4 rfl (by decide) rfl rfl ?_
                refine y_goto (pc := 207) hF dX11_item_207 177 rfl ?_
                exact zh177 _ (by omega) τ9 (i + 1) rfl ⟨(zQ_υ.rd hτ9).1, zI177.2.1.tr (zQ_υ.rd hτ9).2, by omega, fun j => by rw [hτ9]; by_cases zj2 : j = 20 * h + (c + i); (rw [zj2, yset_e, if_pos (by omega), ztn]); (rw [yset_o (fun _ => zj2), zI177.2.2.2 j]; simp only [show (20 * h + c ≤ j ∧ j < 20 * h + c + (i + 1)) ↔ (20 * h + c ≤ j ∧ j < 20 * h + c + i) from by omega])⟩
          exact zL177 _ τ5 (0) rfl ⟨(by have zt := zQ_τ5; rw [zf0] at zt; simpa using zt), zj.2.1, by omega, fun j => by rw [if_neg (by omega), zj.2.2.1]⟩
        refine y_aload_n (pc := 149) hF dX11_item_149 0 rfl ?_
        have zz150 := y_rV (pc := 150) hF (tX11_sign (n := n) (σ := τ5) hn tb e q f (if f = 0 then fp else p) W h c zQ_τ5 (by omega) htb) dX11_item_150 (by omega) rfl rfl rfl w_1411 qX11_sign rfl ⟨Nat.le_of_ble_eq_true rfl, Nat.le_of_ble_eq_true rfl⟩ ⟨Nat.zero_le _, Nat.zero_le _⟩ (Nat.le_of_ble_eq_true rfl) rfl (rest := []) (cells := 0) (slots := 0) (lv := [(0, yR g 155), (1, yI p), (2, yI nn)])
        refine y_cp (zz150) ?_
        refine y_bipush (pc := 153) hF dX11_item_153 (by decide) ?_
        refine y_icmp_ne (pc := 155) hF dX11_item_155 162 rfl (by omega) (by omega) (fun zc155 => ?_) (fun zc155 => ?_)
        · skip
          refine y_bipush (pc := 162) hF dX11_item_162 (by decide) ?_
          refine y_aload_n (pc := 164) hF dX11_item_164 0 rfl ?_
          have zz165 := y_rV (pc := 165) hF (tX11_sign (n := n) (σ := τ5) hn tb e q f (if f = 0 then fp else p) W h c zQ_τ5 (by omega) htb) dX11_item_165 (by omega) rfl rfl rfl w_1411 qX11_sign rfl ⟨Nat.le_of_ble_eq_true rfl, Nat.le_of_ble_eq_true rfl⟩ ⟨Nat.zero_le _, Nat.zero_le _⟩ (Nat.le_of_ble_eq_true rfl) rfl (rest := [yI 10]) (cells := 0) (slots := 0) (lv := [(0, yR g 155), (1, yI p), (2, yI nn)])
          refine y_cp (zz165) ?_
          refine y_bipush (pc := 168) hF dX11_item_168 (by decide) ?_
          refine y_isub (pc := 170) hF dX11_item_170 ?_
          refine y_imul (pc := 171) hF dX11_item_171 ?_
          exact zJ172 (10 * ((sg tb e q) - 97)) (by rw [if_neg (by omega), zsq, zit, Int.mul_comm])
        · skip
          refine y_iconst (pc := 158) hF dX11_item_158 ?_
          refine y_goto (pc := 159) hF dX11_item_159 172 rfl ?_
          exact zJ172 (-1) (by rw [if_pos (by omega)])
      refine y_istore_n (pc := 87) (lv' := [(0, yR g 155), (1, yI p), (2, yI nn), (3, yI mo2)]) hF dX11_item_87 (by decide) rfl rfl ?_
      refine y_aload_n (pc := 88) hF dX11_item_88 0 rfl ?_
      refine y_get (pc := 89) (ci := 11) hF dX11_item_89 (by omega) rfl rfl rfl iX11 33 (by decide) w_1280 rfl ?_
      rw [show τ5 155 33 = f from zQ_τ5.2.2.1]
      refine y_if_ne (pc := 92) hF dX11_item_92 118 rfl (by omega) (fun zc92 => ?_) (fun zc92 => ?_)
      · skip
        skip
        refine y_aload_n (pc := 118) hF dX11_item_118 0 rfl ?_
        refine y_get (pc := 119) (ci := 11) hF dX11_item_119 (by omega) rfl rfl rfl iX11 33 (by decide) w_1280 rfl ?_
        rw [show τ5 155 33 = f from zQ_τ5.2.2.1]
        refine y_if_ne (pc := 122) hF dX11_item_122 141 rfl (by omega) (fun zc122 => ?_) (fun zc122 => ?_)
        · skip
          skip
          refine y_aload_n (pc := 141) hF dX11_item_141 0 rfl ?_
          refine y_get (pc := 142) (ci := 11) hF dX11_item_142 (by omega) rfl rfl rfl iX11 33 (by decide) w_1280 rfl ?_
          rw [show τ5 155 33 = f from zQ_τ5.2.2.1]
          refine y_if_le (pc := 145) hF dX11_item_145 149 rfl (by omega) (fun zc145 => ?_) (fun zc145 => ?_)
          · skip
            refine y_sub [0, 1, 2] rfl ?_
            exact zJ149  (by first | (exact ⟨by omega, zc129, by omega⟩) | (exfalso; omega) | (exfalso; rw [zc99] at zc129; cases zc129))
          · skip
            have zf2 : f = 2 ∧ itF tb e p = true := by rcases zj.2.2.2.2.2 with ze | ze; (exact ze); (omega)
            have zm : itm tb e p (rwMo h W - c) = (2, p, (dgP tb e p).1, 0, 0) := by unfold itm; rw [if_pos zf2.2]
            have z5 : mTq τ5 tb e (dgP tb e p).1 2 (if (2 : Int) = 0 then fp else p) W h (c + 0) := by rw [Int.add_zero, ← zqe]; have zt := zQ_τ5; rw [zf2.1] at zt; exact zt
            exact y_vret (pc := 148) hF dX11_item_148 (Nat.zero_le _) (Nat.zero_le _) ⟨rfl, rfl, by rw [zm]; exact z5, zj.2.1, fun j => by rw [zm]; show _ = if 20 * h + c ≤ j ∧ j < 20 * h + c + 0 then (0 : Int) else σ 168 j; rw [if_neg (by omega), zj.2.2.1]⟩
        · skip
          refine y_aload_n (pc := 125) hF dX11_item_125 0 rfl ?_
          have zz126 := y_rV (pc := 126) hF (tX11_isDot (n := n) (σ := τ5) hn tb e q f (if f = 0 then fp else p) W h c zQ_τ5 (by omega) htb) dX11_item_126 (by omega) rfl rfl rfl w_1420 qX11_isDot rfl ⟨Nat.le_of_ble_eq_true rfl, Nat.le_of_ble_eq_true rfl⟩ ⟨Nat.zero_le _, Nat.zero_le _⟩ (Nat.le_of_ble_eq_true rfl) rfl (rest := []) (cells := 0) (slots := 0) (lv := [(0, yR g 155), (1, yI p), (2, yI nn), (3, yI mo2)])
          refine y_cp (zz126) ?_
          refine y_if_ne (pc := 129) hF dX11_item_129 141 rfl bi_r (fun zc129 => ?_) (fun zc129 => ?_)
          · replace zc129 := bi_n0.mp zc129
            skip
            refine y_aload_n (pc := 141) hF dX11_item_141 0 rfl ?_
            refine y_get (pc := 142) (ci := 11) hF dX11_item_142 (by omega) rfl rfl rfl iX11 33 (by decide) w_1280 rfl ?_
            rw [show τ5 155 33 = f from zQ_τ5.2.2.1]
            refine y_if_le (pc := 145) hF dX11_item_145 149 rfl (by omega) (fun zc145 => ?_) (fun zc145 => ?_)
            · skip
              refine y_sub [0, 1, 2] rfl ?_
              exact zJ149  (by first | (exact ⟨by omega, zc129, by omega⟩) | (exfalso; omega) | (exfalso; rw [zc99] at zc129; cases zc129))
            · skip
              have zf2 : f = 2 ∧ itF tb e p = true := by rcases zj.2.2.2.2.2 with ze | ze; (exact ze); (omega)
              have zm : itm tb e p (rwMo h W - c) = (2, p, (dgP tb e p).1, 0, 0) := by unfold itm; rw [if_pos zf2.2]
              have z5 : mTq τ5 tb e (dgP tb e p).1 2 (if (2 : Int) = 0 then fp else p) W h (c + 0) := by rw [Int.add_zero, ← zqe]; have zt := zQ_τ5; rw [zf2.1] at zt; exact zt
              exact y_vret (pc := 148) hF dX11_item_148 (Nat.zero_le _) (Nat.zero_le _) ⟨rfl, rfl, by rw [zm]; exact z5, zj.2.1, fun j => by rw [zm]; show _ = if 20 * h + c ≤ j ∧ j < 20 * h + c + 0 then (0 : Int) else σ 168 j; rw [if_neg (by omega), zj.2.2.1]⟩
          · replace zc129 := bi_0.mp zc129
            refine y_aload_n (pc := 132) hF dX11_item_132 0 rfl ?_
            refine y_iconst (pc := 133) hF dX11_item_133 ?_
            refine y_aload_n (pc := 134) hF dX11_item_134 0 rfl ?_
            refine y_get (pc := 135) (ci := 11) hF dX11_item_135 (by omega) rfl rfl rfl iX11 32 (by decide) w_1279 rfl ?_
            rw [show τ5 155 32 = q from zQ_τ5.2.1]
            refine y_cv (y_rV (pc := 138) hF (tX11_wrong hn (by rw [zQ_τ5.2.2.1]; exact zc122) 1 q) dX11_item_138 (by omega) rfl rfl rfl w_1416 qX11_wrong rfl ⟨Nat.le_of_ble_eq_true rfl, Nat.le_of_ble_eq_true rfl⟩ ⟨Nat.zero_le _, Nat.zero_le _⟩ (Nat.le_of_ble_eq_true rfl) rfl) rfl rfl (fun n' σ' zp138 => ?_)
            obtain ⟨zn138, rfl⟩ := zp138
            have zn138 := zn138.symm
            subst zn138
            obtain ⟨τ8, hτ8⟩ : ∃ s, s = yset (yset τ5 155 33 1) 155 34 q := ⟨_, rfl⟩
            rw [← hτ8]
            have zQ_τ8 := (zQ_τ5.wr (by decide) hτ8).1
            refine y_aload_n (pc := 141) hF dX11_item_141 0 rfl ?_
            refine y_get (pc := 142) (ci := 11) hF dX11_item_142 (by omega) rfl rfl rfl iX11 33 (by decide) w_1280 rfl ?_
            rw [show τ8 155 33 = 1 from zQ_τ8.2.2.1]
            refine y_if_le (pc := 145) hF dX11_item_145 149 rfl (by decide) (fun zc145 => absurd zc145 (by decide)) (fun _ => ?_)
            have zq9 := zQ_τ5.wr (by decide) hτ8
            have zm : itm tb e p (rwMo h W - c) = (1, (dgP tb e p).1, (dgP tb e p).1, 0, 0) := by unfold itm; rw [if_neg (zFf (by omega)), if_pos (fun ze => by have zt := itB_dot.mpr ze; rw [← zqe, zc129] at zt; cases zt)]
            skip
            exact y_vret (pc := 148) hF dX11_item_148 (Nat.zero_le _) (Nat.zero_le _) ⟨rfl, rfl, by rw [zm]; show mTq τ8 tb e (dgP tb e p).1 1 (dgP tb e p).1 W h (c + 0); rw [← zqe]; exact zq9.1.c0, zj.2.1.tr zq9.2.1, fun j => by rw [zm]; show _ = if 20 * h + c ≤ j ∧ j < 20 * h + c + 0 then (0 : Int) else σ 168 j; rw [if_neg (by omega), zq9.2.2, zj.2.2.1]⟩
      · skip
        refine y_aload_n (pc := 95) hF dX11_item_95 0 rfl ?_
        have zz96 := y_rV (pc := 96) hF (tX11_isDot (n := n) (σ := τ5) hn tb e q f (if f = 0 then fp else p) W h c zQ_τ5 (by omega) htb) dX11_item_96 (by omega) rfl rfl rfl w_1420 qX11_isDot rfl ⟨Nat.le_of_ble_eq_true rfl, Nat.le_of_ble_eq_true rfl⟩ ⟨Nat.zero_le _, Nat.zero_le _⟩ (Nat.le_of_ble_eq_true rfl) rfl (rest := []) (cells := 0) (slots := 0) (lv := [(0, yR g 155), (1, yI p), (2, yI nn), (3, yI mo2)])
        refine y_cp (zz96) ?_
        refine y_if_eq (pc := 99) hF dX11_item_99 118 rfl bi_r (fun zc99 => ?_) (fun zc99 => ?_)
        · replace zc99 := bi_0.mp zc99
          skip
          refine y_aload_n (pc := 118) hF dX11_item_118 0 rfl ?_
          refine y_get (pc := 119) (ci := 11) hF dX11_item_119 (by omega) rfl rfl rfl iX11 33 (by decide) w_1280 rfl ?_
          rw [show τ5 155 33 = f from zQ_τ5.2.2.1]
          refine y_if_ne (pc := 122) hF dX11_item_122 141 rfl (by omega) (fun zc122 => ?_) (fun zc122 => ?_)
          · skip
            skip
            refine y_aload_n (pc := 141) hF dX11_item_141 0 rfl ?_
            refine y_get (pc := 142) (ci := 11) hF dX11_item_142 (by omega) rfl rfl rfl iX11 33 (by decide) w_1280 rfl ?_
            rw [show τ5 155 33 = f from zQ_τ5.2.2.1]
            refine y_if_le (pc := 145) hF dX11_item_145 149 rfl (by omega) (fun zc145 => ?_) (fun zc145 => ?_)
            · skip
              refine y_sub [0, 1, 2] rfl ?_
              exact zJ149  (by first | (exact ⟨by omega, zc129, by omega⟩) | (exfalso; omega) | (exfalso; rw [zc99] at zc129; cases zc129))
            · skip
              have zf2 : f = 2 ∧ itF tb e p = true := by rcases zj.2.2.2.2.2 with ze | ze; (exact ze); (omega)
              have zm : itm tb e p (rwMo h W - c) = (2, p, (dgP tb e p).1, 0, 0) := by unfold itm; rw [if_pos zf2.2]
              have z5 : mTq τ5 tb e (dgP tb e p).1 2 (if (2 : Int) = 0 then fp else p) W h (c + 0) := by rw [Int.add_zero, ← zqe]; have zt := zQ_τ5; rw [zf2.1] at zt; exact zt
              exact y_vret (pc := 148) hF dX11_item_148 (Nat.zero_le _) (Nat.zero_le _) ⟨rfl, rfl, by rw [zm]; exact z5, zj.2.1, fun j => by rw [zm]; show _ = if 20 * h + c ≤ j ∧ j < 20 * h + c + 0 then (0 : Int) else σ 168 j; rw [if_neg (by omega), zj.2.2.1]⟩
          · skip
            refine y_aload_n (pc := 125) hF dX11_item_125 0 rfl ?_
            have zz126 := y_rV (pc := 126) hF (tX11_isDot (n := n) (σ := τ5) hn tb e q f (if f = 0 then fp else p) W h c zQ_τ5 (by omega) htb) dX11_item_126 (by omega) rfl rfl rfl w_1420 qX11_isDot rfl ⟨Nat.le_of_ble_eq_true rfl, Nat.le_of_ble_eq_true rfl⟩ ⟨Nat.zero_le _, Nat.zero_le _⟩ (Nat.le_of_ble_eq_true rfl) rfl (rest := []) (cells := 0) (slots := 0) (lv := [(0, yR g 155), (1, yI p), (2, yI nn), (3, yI mo2)])
            refine y_cp (zz126) ?_
            refine y_if_ne (pc := 129) hF dX11_item_129 141 rfl bi_r (fun zc129 => ?_) (fun zc129 => ?_)
            · replace zc129 := bi_n0.mp zc129
              skip
              refine y_aload_n (pc := 141) hF dX11_item_141 0 rfl ?_
              refine y_get (pc := 142) (ci := 11) hF dX11_item_142 (by omega) rfl rfl rfl iX11 33 (by decide) w_1280 rfl ?_
              rw [show τ5 155 33 = f from zQ_τ5.2.2.1]
              refine y_if_le (pc := 145) hF dX11_item_145 149 rfl (by omega) (fun zc145 => ?_) (fun zc145 => ?_)
              · skip
                refine y_sub [0, 1, 2] rfl ?_
                exact zJ149  (by first | (exact ⟨by omega, zc129, by omega⟩) | (exfalso; omega) | (exfalso; rw [zc99] at zc129; cases zc129))
              · skip
                have zf2 : f = 2 ∧ itF tb e p = true := by rcases zj.2.2.2.2.2 with ze | ze; (exact ze); (omega)
                have zm : itm tb e p (rwMo h W - c) = (2, p, (dgP tb e p).1, 0, 0) := by unfold itm; rw [if_pos zf2.2]
                have z5 : mTq τ5 tb e (dgP tb e p).1 2 (if (2 : Int) = 0 then fp else p) W h (c + 0) := by rw [Int.add_zero, ← zqe]; have zt := zQ_τ5; rw [zf2.1] at zt; exact zt
                exact y_vret (pc := 148) hF dX11_item_148 (Nat.zero_le _) (Nat.zero_le _) ⟨rfl, rfl, by rw [zm]; exact z5, zj.2.1, fun j => by rw [zm]; show _ = if 20 * h + c ≤ j ∧ j < 20 * h + c + 0 then (0 : Int) else σ 168 j; rw [if_neg (by omega), zj.2.2.1]⟩
            · replace zc129 := bi_0.mp zc129
              refine y_aload_n (pc := 132) hF dX11_item_132 0 rfl ?_
              refine y_iconst (pc := 133) hF dX11_item_133 ?_
              refine y_aload_n (pc := 134) hF dX11_item_134 0 rfl ?_
              refine y_get (pc := 135) (ci := 11) hF dX11_item_135 (by omega) rfl rfl rfl iX11 32 (by decide) w_1279 rfl ?_
              rw [show τ5 155 32 = q from zQ_τ5.2.1]
              refine y_cv (y_rV (pc := 138) hF (tX11_wrong hn (by rw [zQ_τ5.2.2.1]; exact zc122) 1 q) dX11_item_138 (by omega) rfl rfl rfl w_1416 qX11_wrong rfl ⟨Nat.le_of_ble_eq_true rfl, Nat.le_of_ble_eq_true rfl⟩ ⟨Nat.zero_le _, Nat.zero_le _⟩ (Nat.le_of_ble_eq_true rfl) rfl) rfl rfl (fun n' σ' zp138 => ?_)
              obtain ⟨zn138, rfl⟩ := zp138
              have zn138 := zn138.symm
              subst zn138
              obtain ⟨τ8, hτ8⟩ : ∃ s, s = yset (yset τ5 155 33 1) 155 34 q := ⟨_, rfl⟩
              rw [← hτ8]
              have zQ_τ8 := (zQ_τ5.wr (by decide) hτ8).1
              refine y_aload_n (pc := 141) hF dX11_item_141 0 rfl ?_
              refine y_get (pc := 142) (ci := 11) hF dX11_item_142 (by omega) rfl rfl rfl iX11 33 (by decide) w_1280 rfl ?_
              rw [show τ8 155 33 = 1 from zQ_τ8.2.2.1]
              refine y_if_le (pc := 145) hF dX11_item_145 149 rfl (by decide) (fun zc145 => absurd zc145 (by decide)) (fun _ => ?_)
              have zq9 := zQ_τ5.wr (by decide) hτ8
              have zm : itm tb e p (rwMo h W - c) = (1, (dgP tb e p).1, (dgP tb e p).1, 0, 0) := by unfold itm; rw [if_neg (zFf (by omega)), if_pos (fun ze => by have zt := itB_dot.mpr ze; rw [← zqe, zc129] at zt; cases zt)]
              skip
              exact y_vret (pc := 148) hF dX11_item_148 (Nat.zero_le _) (Nat.zero_le _) ⟨rfl, rfl, by rw [zm]; show mTq τ8 tb e (dgP tb e p).1 1 (dgP tb e p).1 W h (c + 0); rw [← zqe]; exact zq9.1.c0, zj.2.1.tr zq9.2.1, fun j => by rw [zm]; show _ = if 20 * h + c ≤ j ∧ j < 20 * h + c + 0 then (0 : Int) else σ 168 j; rw [if_neg (by omega), zq9.2.2, zj.2.2.1]⟩
        · replace zc99 := bi_n0.mp zc99
          refine y_aload_n (pc := 102) hF dX11_item_102 0 rfl ?_
          refine y_get (pc := 103) (ci := 11) hF dX11_item_103 (by omega) rfl rfl rfl iX11 37 (by decide) w_1284 rfl ?_
          rw [show τ5 155 37 = c from zQ_τ5.2.2.2.2.2.2.1]
          refine y_iload_n (pc := 106) hF dX11_item_106 2 rfl ?_
          refine y_iadd (pc := 107) hF dX11_item_107 ?_
          refine y_iload_n (pc := 108) hF dX11_item_108 3 rfl ?_
          refine y_icmp_le (pc := 109) hF dX11_item_109 118 rfl (by omega) (by omega) (fun zc109 => ?_) (fun zc109 => ?_)
          · skip
            skip
            refine y_aload_n (pc := 118) hF dX11_item_118 0 rfl ?_
            refine y_get (pc := 119) (ci := 11) hF dX11_item_119 (by omega) rfl rfl rfl iX11 33 (by decide) w_1280 rfl ?_
            rw [show τ5 155 33 = f from zQ_τ5.2.2.1]
            refine y_if_ne (pc := 122) hF dX11_item_122 141 rfl (by omega) (fun zc122 => ?_) (fun zc122 => ?_)
            · skip
              skip
              refine y_aload_n (pc := 141) hF dX11_item_141 0 rfl ?_
              refine y_get (pc := 142) (ci := 11) hF dX11_item_142 (by omega) rfl rfl rfl iX11 33 (by decide) w_1280 rfl ?_
              rw [show τ5 155 33 = f from zQ_τ5.2.2.1]
              refine y_if_le (pc := 145) hF dX11_item_145 149 rfl (by omega) (fun zc145 => ?_) (fun zc145 => ?_)
              · skip
                refine y_sub [0, 1, 2] rfl ?_
                exact zJ149  (by first | (exact ⟨by omega, zc129, by omega⟩) | (exfalso; omega) | (exfalso; rw [zc99] at zc129; cases zc129))
              · skip
                have zf2 : f = 2 ∧ itF tb e p = true := by rcases zj.2.2.2.2.2 with ze | ze; (exact ze); (omega)
                have zm : itm tb e p (rwMo h W - c) = (2, p, (dgP tb e p).1, 0, 0) := by unfold itm; rw [if_pos zf2.2]
                have z5 : mTq τ5 tb e (dgP tb e p).1 2 (if (2 : Int) = 0 then fp else p) W h (c + 0) := by rw [Int.add_zero, ← zqe]; have zt := zQ_τ5; rw [zf2.1] at zt; exact zt
                exact y_vret (pc := 148) hF dX11_item_148 (Nat.zero_le _) (Nat.zero_le _) ⟨rfl, rfl, by rw [zm]; exact z5, zj.2.1, fun j => by rw [zm]; show _ = if 20 * h + c ≤ j ∧ j < 20 * h + c + 0 then (0 : Int) else σ 168 j; rw [if_neg (by omega), zj.2.2.1]⟩
            · skip
              refine y_aload_n (pc := 125) hF dX11_item_125 0 rfl ?_
              have zz126 := y_rV (pc := 126) hF (tX11_isDot (n := n) (σ := τ5) hn tb e q f (if f = 0 then fp else p) W h c zQ_τ5 (by omega) htb) dX11_item_126 (by omega) rfl rfl rfl w_1420 qX11_isDot rfl ⟨Nat.le_of_ble_eq_true rfl, Nat.le_of_ble_eq_true rfl⟩ ⟨Nat.zero_le _, Nat.zero_le _⟩ (Nat.le_of_ble_eq_true rfl) rfl (rest := []) (cells := 0) (slots := 0) (lv := [(0, yR g 155), (1, yI p), (2, yI nn), (3, yI mo2)])
              refine y_cp (zz126) ?_
              refine y_if_ne (pc := 129) hF dX11_item_129 141 rfl bi_r (fun zc129 => ?_) (fun zc129 => ?_)
              · replace zc129 := bi_n0.mp zc129
                skip
                refine y_aload_n (pc := 141) hF dX11_item_141 0 rfl ?_
                refine y_get (pc := 142) (ci := 11) hF dX11_item_142 (by omega) rfl rfl rfl iX11 33 (by decide) w_1280 rfl ?_
                rw [show τ5 155 33 = f from zQ_τ5.2.2.1]
                refine y_if_le (pc := 145) hF dX11_item_145 149 rfl (by omega) (fun zc145 => ?_) (fun zc145 => ?_)
                · skip
                  refine y_sub [0, 1, 2] rfl ?_
                  exact zJ149  (by first | (exact ⟨by omega, zc129, by omega⟩) | (exfalso; omega) | (exfalso; rw [zc99] at zc129; cases zc129))
                · skip
                  have zf2 : f = 2 ∧ itF tb e p = true := by rcases zj.2.2.2.2.2 with ze | ze; (exact ze); (omega)
                  have zm : itm tb e p (rwMo h W - c) = (2, p, (dgP tb e p).1, 0, 0) := by unfold itm; rw [if_pos zf2.2]
                  have z5 : mTq τ5 tb e (dgP tb e p).1 2 (if (2 : Int) = 0 then fp else p) W h (c + 0) := by rw [Int.add_zero, ← zqe]; have zt := zQ_τ5; rw [zf2.1] at zt; exact zt
                  exact y_vret (pc := 148) hF dX11_item_148 (Nat.zero_le _) (Nat.zero_le _) ⟨rfl, rfl, by rw [zm]; exact z5, zj.2.1, fun j => by rw [zm]; show _ = if 20 * h + c ≤ j ∧ j < 20 * h + c + 0 then (0 : Int) else σ 168 j; rw [if_neg (by omega), zj.2.2.1]⟩
              · replace zc129 := bi_0.mp zc129
                refine y_aload_n (pc := 132) hF dX11_item_132 0 rfl ?_
                refine y_iconst (pc := 133) hF dX11_item_133 ?_
                refine y_aload_n (pc := 134) hF dX11_item_134 0 rfl ?_
                refine y_get (pc := 135) (ci := 11) hF dX11_item_135 (by omega) rfl rfl rfl iX11 32 (by decide) w_1279 rfl ?_
                rw [show τ5 155 32 = q from zQ_τ5.2.1]
                refine y_cv (y_rV (pc := 138) hF (tX11_wrong hn (by rw [zQ_τ5.2.2.1]; exact zc122) 1 q) dX11_item_138 (by omega) rfl rfl rfl w_1416 qX11_wrong rfl ⟨Nat.le_of_ble_eq_true rfl, Nat.le_of_ble_eq_true rfl⟩ ⟨Nat.zero_le _, Nat.zero_le _⟩ (Nat.le_of_ble_eq_true rfl) rfl) rfl rfl (fun n' σ' zp138 => ?_)
                obtain ⟨zn138, rfl⟩ := zp138
                have zn138 := zn138.symm
                subst zn138
                obtain ⟨τ8, hτ8⟩ : ∃ s, s = yset (yset τ5 155 33 1) 155 34 q := ⟨_, rfl⟩
                rw [← hτ8]
                have zQ_τ8 := (zQ_τ5.wr (by decide) hτ8).1
                refine y_aload_n (pc := 141) hF dX11_item_141 0 rfl ?_
                refine y_get (pc := 142) (ci := 11) hF dX11_item_142 (by omega) rfl rfl rfl iX11 33 (by decide) w_1280 rfl ?_
                rw [show τ8 155 33 = 1 from zQ_τ8.2.2.1]
                refine y_if_le (pc := 145) hF dX11_item_145 149 rfl (by decide) (fun zc145 => absurd zc145 (by decide)) (fun _ => ?_)
                have zq9 := zQ_τ5.wr (by decide) hτ8
                have zm : itm tb e p (rwMo h W - c) = (1, (dgP tb e p).1, (dgP tb e p).1, 0, 0) := by unfold itm; rw [if_neg (zFf (by omega)), if_pos (fun ze => by have zt := itB_dot.mpr ze; rw [← zqe, zc129] at zt; cases zt)]
                skip
                exact y_vret (pc := 148) hF dX11_item_148 (Nat.zero_le _) (Nat.zero_le _) ⟨rfl, rfl, by rw [zm]; show mTq τ8 tb e (dgP tb e p).1 1 (dgP tb e p).1 W h (c + 0); rw [← zqe]; exact zq9.1.c0, zj.2.1.tr zq9.2.1, fun j => by rw [zm]; show _ = if 20 * h + c ≤ j ∧ j < 20 * h + c + 0 then (0 : Int) else σ 168 j; rw [if_neg (by omega), zq9.2.2, zj.2.2.1]⟩
          · skip
            refine y_aload_n (pc := 112) hF dX11_item_112 0 rfl ?_
            refine y_iconst (pc := 113) hF dX11_item_113 ?_
            refine y_iload_n (pc := 114) hF dX11_item_114 1 rfl ?_
            refine y_cv (y_rV (pc := 115) hF (tX11_wrong hn (by rw [zQ_τ5.2.2.1]; exact zc92) 3 p) dX11_item_115 (by omega) rfl rfl rfl w_1416 qX11_wrong rfl ⟨Nat.le_of_ble_eq_true rfl, Nat.le_of_ble_eq_true rfl⟩ ⟨Nat.zero_le _, Nat.zero_le _⟩ (Nat.le_of_ble_eq_true rfl) rfl) rfl rfl (fun n' σ' zp115 => ?_)
            obtain ⟨zn115, rfl⟩ := zp115
            have zn115 := zn115.symm
            subst zn115
            obtain ⟨τ7, hτ7⟩ : ∃ s, s = yset (yset τ5 155 33 3) 155 34 p := ⟨_, rfl⟩
            rw [← hτ7]
            have zQ_τ7 := (zQ_τ5.wr (by decide) hτ7).1
            refine y_aload_n (pc := 118) hF dX11_item_118 0 rfl ?_
            refine y_get (pc := 119) (ci := 11) hF dX11_item_119 (by omega) rfl rfl rfl iX11 33 (by decide) w_1280 rfl ?_
            rw [show τ7 155 33 = 3 from zQ_τ7.2.2.1]
            refine y_if_ne (pc := 122) hF dX11_item_122 141 rfl (by decide) (fun _ => ?_) (fun zc122 => absurd zc122 (by decide))
            skip
            refine y_aload_n (pc := 141) hF dX11_item_141 0 rfl ?_
            refine y_get (pc := 142) (ci := 11) hF dX11_item_142 (by omega) rfl rfl rfl iX11 33 (by decide) w_1280 rfl ?_
            rw [show τ7 155 33 = 3 from zQ_τ7.2.2.1]
            refine y_if_le (pc := 145) hF dX11_item_145 149 rfl (by decide) (fun zc145 => absurd zc145 (by decide)) (fun _ => ?_)
            have zq9 := zQ_τ5.wr (by decide) hτ7
            have zm : itm tb e p (rwMo h W - c) = (3, p, (dgP tb e p).1, 0, 0) := by unfold itm; rw [if_neg (zFf (by omega)), if_neg (not_not_intro (itB_dot.mp (by rw [← zqe]; exact zc99))), if_pos (by omega)]
            skip
            exact y_vret (pc := 148) hF dX11_item_148 (Nat.zero_le _) (Nat.zero_le _) ⟨rfl, rfl, by rw [zm]; show mTq τ7 tb e (dgP tb e p).1 3 p W h (c + 0); rw [← zqe]; exact zq9.1.c0, zj.2.1.tr zq9.2.1, fun j => by rw [zm]; show _ = if 20 * h + c ≤ j ∧ j < 20 * h + c + 0 then (0 : Int) else σ 168 j; rw [if_neg (by omega), zq9.2.2, zj.2.2.1]⟩
    refine y_aload_n (pc := 71) hF dX11_item_71 0 rfl ?_
    refine y_get (pc := 72) (ci := 11) hF dX11_item_72 (by omega) rfl rfl rfl iX11 36 (by decide) w_1283 rfl ?_
    rw [show τ5 155 36 = h from zQ_τ5.2.2.2.2.2.1]
    refine y_if_ne (pc := 75) hF dX11_item_75 83 rfl (by omega) (fun zc75 => ?_) (fun zc75 => ?_)
    · skip
      refine y_aload_n (pc := 83) hF dX11_item_83 0 rfl ?_
      refine y_get (pc := 84) (ci := 11) hF dX11_item_84 (by omega) rfl rfl rfl iX11 35 (by decide) w_1282 rfl ?_
      rw [show τ5 155 35 = W from zQ_τ5.2.2.2.2.1]
      exact zJ87 W (by unfold rwMo; rw [if_neg zc75])
    · skip
      refine y_bipush (pc := 78) hF dX11_item_78 (by decide) ?_
      refine y_goto (pc := 80) hF dX11_item_80 87 rfl ?_
      exact zJ87 20 (by unfold rwMo; rw [if_pos zc75])
  refine y_aload_n (pc := 0) hF dX11_item_0 0 rfl ?_
  refine y_get (pc := 1) (ci := 11) hF dX11_item_1 (by omega) rfl rfl rfl iX11 32 (by decide) w_1279 rfl ?_
  rw [show σ 155 32 = p from hQ.2.1]
  refine y_istore_n (pc := 4) (lv' := [(0, yR g 155), (1, yI p)]) hF dX11_item_4 (by decide) rfl rfl ?_
  refine y_iconst (pc := 5) hF dX11_item_5 ?_
  refine y_istore_n (pc := 6) (lv' := [(0, yR g 155), (1, yI p), (2, yI 1)]) hF dX11_item_6 (by decide) rfl rfl ?_
  refine y_aload_n (pc := 7) hF dX11_item_7 0 rfl ?_
  have zz8 := y_rV (pc := 8) hF (tX11_isDigit (n := n) (σ := σ) hn tb e p 0 fp W h c hQ (by omega) htb) dX11_item_8 (by omega) rfl rfl rfl w_1407 qX11_isDigit rfl ⟨Nat.le_of_ble_eq_true rfl, Nat.le_of_ble_eq_true rfl⟩ ⟨Nat.zero_le _, Nat.zero_le _⟩ (Nat.le_of_ble_eq_true rfl) rfl (rest := []) (cells := 0) (slots := 0) (lv := [(0, yR g 155), (1, yI p), (2, yI 1)])
  refine y_cp (zz8) ?_
  refine y_if_eq (pc := 11) hF dX11_item_11 71 rfl bi_r (fun zc11 => ?_) (fun zc11 => ?_)
  · replace zc11 := bi_0.mp zc11
    exact zJ71 σ 1 p 0 ⟨hQ.f0, gT.rf σ, rfl, by rw [dgP_no (by simpa using zc11)], by omega, Or.inr ⟨rfl, by rw [Bool.eq_false_iff]; intro ze; have zq := (itF_iff.mp ze).1; rw [dgP_no (by simpa using zc11)] at zq; exact zq rfl, by unfold itT; rw [dgP_no (by simpa using zc11), if_pos rfl], by omega⟩⟩
  · replace zc11 := bi_n0.mp zc11
    refine y_iconst (pc := 14) hF dX11_item_14 ?_
    refine y_istore_n (pc := 15) (lv' := [(0, yR g 155), (1, yI p), (2, yI 0)]) hF dX11_item_15 (by decide) rfl rfl ?_
    have zL16 : ∀ (N : Nat) (τ : yM) (k t : Int), N = (e - k).toNat → ((p ≤ k ∧ k ≤ e) ∧ (0 ≤ t ∧ t ≤ 1000) ∧ mTq τ tb e k 0 fp W h c ∧ gT σ τ ∧ τ 168 = σ 168 ∧ dgP tb e p = dgs tb e (e - k).toNat k (min t 300)) → yV X0 g 6 (yQ X0 g (SC g) (yPv (fun n' σ' => n' = n ∧ mTq σ' tb e (itm tb e p (rwMo h W - c)).2.2.1 (itm tb e p (rwMo h W - c)).1 (if (itm tb e p (rwMo h W - c)).1 = 0 then fp else (itm tb e p (rwMo h W - c)).2.1) W h (c + (itm tb e p (rwMo h W - c)).2.2.2.1) ∧ gT σ σ' ∧ ∀ j : Int, σ' 168 j = if 20 * h + c ≤ j ∧ j < 20 * h + c + (itm tb e p (rwMo h W - c)).2.2.2.1 then (itm tb e p (rwMo h W - c)).2.2.2.2 else σ 168 j)) (rmL 3)) (SC g) n τ 0 0 16 [(0, yR g 155), (1, yI p), (2, yI t)] [] := by
      intro N
      induction N using Nat.strongRecOn with
      | ind N zh16 =>
        intro τ  k t  zN16 zI16
        have zQ_τ := zI16.2.2.1
        have zbk := sg_bd (e := e) (htb k)
        refine y_aload_n (pc := 16) hF dX11_item_16 0 rfl ?_
        have zz17 := y_rV (pc := 17) hF (tX11_isDigit (n := n) (σ := τ) hn tb e k 0 fp W h c zQ_τ (by omega) htb) dX11_item_17 (by omega) rfl rfl rfl w_1407 qX11_isDigit rfl ⟨Nat.le_of_ble_eq_true rfl, Nat.le_of_ble_eq_true rfl⟩ ⟨Nat.zero_le _, Nat.zero_le _⟩ (Nat.le_of_ble_eq_true rfl) rfl (rest := []) (cells := 0) (slots := 0) (lv := [(0, yR g 155), (1, yI p), (2, yI t)])
        refine y_cp (zz17) ?_
        refine y_if_eq (pc := 20) hF dX11_item_20 55 rfl bi_r (fun zc20 => ?_) (fun zc20 => ?_)
        · replace zc20 := bi_0.mp zc20
          have zdg : dgP tb e p = (k, min t 300) := by rw [zI16.2.2.2.2.2]; exact dgs_stop (by simpa using zc20)
          have zkp : p < k := by { rcases Decidable.em (k = p) with zq | zq; (exfalso; rw [zq] at zc20; rw [zc20] at zc11; cases zc11); omega }
          refine y_iload_n (pc := 55) hF dX11_item_55 2 rfl ?_
          refine y_iconst (pc := 56) hF dX11_item_56 ?_
          refine y_bipush (pc := 57) hF dX11_item_57 (by decide) ?_
          have zz59 := y_rS (pc := 59) (As := [yI t, yI 2, yI 20]) (kk := 0) hF (tX11_within (n := n) (σ := τ) t 2 20 (by omega) (by omega) (by omega)) dX11_item_59 w_1392 qX11_within rfl ⟨Nat.le_of_ble_eq_true rfl, Nat.le_of_ble_eq_true rfl⟩ ⟨Nat.zero_le _, Nat.zero_le _⟩ (Nat.le_of_ble_eq_true rfl) rfl (rest := []) (cells := 0) (slots := 0) (lv := [(0, yR g 155), (1, yI p), (2, yI t)])
          refine y_cp (zz59) ?_
          refine y_if_ne (pc := 62) hF dX11_item_62 71 rfl bi_r (fun zc62 => ?_) (fun zc62 => ?_)
          · replace zc62 := bi_n0.mp zc62
            exact zJ71 τ t k 0 ⟨zI16.2.2.1.f0, zI16.2.2.2.1, zI16.2.2.2.2.1, by rw [zdg], by omega, Or.inr ⟨rfl, by rw [Bool.eq_false_iff]; intro ze; have zq := (itF_iff.mp ze).2; rw [zdg] at zq; simp at zc62; omega, by unfold itT; rw [zdg, if_neg (by omega)]; simp at zc62; show _ = min t 300; omega, by simp at zc62; omega⟩⟩
          · replace zc62 := bi_0.mp zc62
            refine y_aload_n (pc := 65) hF dX11_item_65 0 rfl ?_
            refine y_iconst (pc := 66) hF dX11_item_66 ?_
            refine y_iload_n (pc := 67) hF dX11_item_67 1 rfl ?_
            refine y_cv (y_rV (pc := 68) hF (tX11_wrong hn zQ_τ.2.2.1 2 p) dX11_item_68 (by omega) rfl rfl rfl w_1416 qX11_wrong rfl ⟨Nat.le_of_ble_eq_true rfl, Nat.le_of_ble_eq_true rfl⟩ ⟨Nat.zero_le _, Nat.zero_le _⟩ (Nat.le_of_ble_eq_true rfl) rfl) rfl rfl (fun n' σ' zp68 => ?_)
            obtain ⟨zn68, rfl⟩ := zp68
            have zn68 := zn68.symm
            subst zn68
            obtain ⟨τ6, hτ6⟩ : ∃ s, s = yset (yset τ 155 33 2) 155 34 p := ⟨_, rfl⟩
            rw [← hτ6]
            exact zJ71 τ6 t k 2 ⟨(zQ_τ.wr (by decide) hτ6).1.f2, zI16.2.2.2.1.tr (zQ_τ.wr (by decide) hτ6).2.1, (zQ_τ.wr (by decide) hτ6).2.2.trans zI16.2.2.2.2.1, by rw [zdg], by omega, Or.inl ⟨rfl, itF_iff.mpr ⟨by rw [zdg]; show k ≠ p; omega, by rw [zdg]; show ¬ (2 ≤ min t 300 ∧ min t 300 ≤ 20); simp at zc62; omega⟩⟩⟩
        · replace zc20 := bi_n0.mp zc20
          have zdd : k < e ∧ 48 ≤ tb k ∧ tb k ≤ 57 := by simpa using zc20
          have zsk : tb k = sg tb e k := (sg_at (by omega) (by omega) zdd.1).symm
          refine y_bipush (pc := 23) hF dX11_item_23 (by decide) ?_
          refine y_iload_n (pc := 25) hF dX11_item_25 2 rfl ?_
          refine y_imul (pc := 26) hF dX11_item_26 ?_
          refine y_aload_n (pc := 27) hF dX11_item_27 0 rfl ?_
          have zz28 := y_rV (pc := 28) hF (tX11_sign (n := n) (σ := τ) hn tb e k 0 fp W h c zQ_τ (by omega) htb) dX11_item_28 (by omega) rfl rfl rfl w_1411 qX11_sign rfl ⟨Nat.le_of_ble_eq_true rfl, Nat.le_of_ble_eq_true rfl⟩ ⟨Nat.zero_le _, Nat.zero_le _⟩ (Nat.le_of_ble_eq_true rfl) rfl (rest := [yI (10 * t)]) (cells := 0) (slots := 0) (lv := [(0, yR g 155), (1, yI p), (2, yI t)])
          refine y_cp (zz28) ?_
          refine y_iadd (pc := 31) hF dX11_item_31 ?_
          refine y_bipush (pc := 32) hF dX11_item_32 (by decide) ?_
          refine y_isub (pc := 34) hF dX11_item_34 ?_
          refine y_sipush (pc := 35) hF dX11_item_35 (by decide) ?_
          refine y_mmin (pc := 38) hF dX11_item_38 w_1415 w_699 w_103 w_700 (Nat.le_of_ble_eq_true rfl) (Nat.le_of_ble_eq_true rfl) ⟨Nat.zero_le _, Nat.zero_le _⟩ (by omega) (by omega) ?_
          refine y_istore_n (pc := 41) (lv' := [(0, yR g 155), (1, yI p), (2, yI (min (((10 * t) + (sg tb e k)) - 48) 1000))]) hF dX11_item_41 (by decide) rfl rfl ?_
          refine y_aload_n (pc := 42) hF dX11_item_42 0 rfl ?_
          refine y_dup (pc := 43) hF dX11_item_43 rfl ?_
          refine y_get (pc := 44) (ci := 11) hF dX11_item_44 (by omega) rfl rfl rfl iX11 32 (by decide) w_1279 rfl ?_
          rw [show τ 155 32 = k from zQ_τ.2.1]
          refine y_iconst (pc := 47) hF dX11_item_47 ?_
          refine y_iadd (pc := 48) hF dX11_item_48 ?_
          refine y_putf (pc := 49) (ci := 11) (σ' := yset τ 155 32 (k + 1)) (sch' := (SC g)) hF dX11_item_49 (by omega) rfl rfl rfl iX11 32 (by decide) w_1279 tyX11 tyX11_ok nmX11 rfl rfl rfl rfl (Nat.le_of_ble_eq_true rfl) rfl (y_ps rfl) (fun k' h => ⟨yset_n h, rfl⟩) ?_
          obtain ⟨τ4, hτ4⟩ : ∃ s, s = yset τ 155 32 (k + 1) := ⟨_, rfl⟩
          rw [← hτ4]
          refine y_goto (pc := 52) hF dX11_item_52 16 rfl ?_
          exact zh16 _ (by omega) τ4 (k + 1) (min (((10 * t) + (sg tb e k)) - 48) 1000) rfl ⟨by omega, by omega, (zQ_τ.nx hτ4).1, zI16.2.2.2.1.tr (zQ_τ.nx hτ4).2.1, (zQ_τ.nx hτ4).2.2.trans zI16.2.2.2.2.1, by rw [zI16.2.2.2.2.2, dgs_go zdd, zsk]; congr 1; omega⟩
    exact zL16 _ σ p 0 rfl ⟨by omega, by omega, hQ, gT.rf σ, rfl, rfl⟩
