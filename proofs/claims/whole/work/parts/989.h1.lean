theorem dX11_puts_0 : decode cX11_puts 0 = .ok (.bipush 24, 2) := by decide +kernel
theorem dX11_puts_2 : decode cX11_puts 2 = .ok (.istore_n 2, 1) := by decide +kernel
theorem dX11_puts_3 : decode cX11_puts 3 = .ok (.iload_n 2, 1) := by decide +kernel
theorem dX11_puts_4 : decode cX11_puts 4 = .ok (.ifCond .lt 32, 3) := by decide +kernel
theorem dX11_puts_7 : decode cX11_puts 7 = .ok (.aload_n 0, 1) := by decide +kernel
theorem dX11_puts_8 : decode cX11_puts 8 = .ok (.getfield 40, 3) := by decide +kernel
theorem dX11_puts_11 : decode cX11_puts 11 = .ok (.aload_n 0, 1) := by decide +kernel
theorem dX11_puts_12 : decode cX11_puts 12 = .ok (.getfield 239, 3) := by decide +kernel
theorem dX11_puts_15 : decode cX11_puts 15 = .ok (.iload_n 1, 1) := by decide +kernel
theorem dX11_puts_16 : decode cX11_puts 16 = .ok (.iload_n 2, 1) := by decide +kernel
theorem dX11_puts_17 : decode cX11_puts 17 = .ok (.ishr, 1) := by decide +kernel
theorem dX11_puts_18 : decode cX11_puts 18 = .ok (.i2b, 1) := by decide +kernel
theorem dX11_puts_19 : decode cX11_puts 19 = .ok (.bastore, 1) := by decide +kernel
theorem dX11_puts_20 : decode cX11_puts 20 = .ok (.aload_n 0, 1) := by decide +kernel
theorem dX11_puts_21 : decode cX11_puts 21 = .ok (.dup, 1) := by decide +kernel
theorem dX11_puts_22 : decode cX11_puts 22 = .ok (.getfield 239, 3) := by decide +kernel
theorem dX11_puts_25 : decode cX11_puts 25 = .ok (.iconst 1, 1) := by decide +kernel
theorem dX11_puts_26 : decode cX11_puts 26 = .ok (.iadd, 1) := by decide +kernel
theorem dX11_puts_27 : decode cX11_puts 27 = .ok (.putfield 239, 3) := by decide +kernel
theorem dX11_puts_30 : decode cX11_puts 30 = .ok (.iinc 2 (-8), 3) := by decide +kernel
theorem dX11_puts_33 : decode cX11_puts 33 = .ok (.goto (-30), 3) := by decide +kernel
theorem dX11_puts_36 : decode cX11_puts 36 = .ok (.return_, 1) := by decide +kernel
set_option maxHeartbeats 4000000 in
set_option maxRecDepth 100000 in
theorem tX11_puts {l : Launch} {g : yG} {n : Nat} {σ : yM} (hn : 172 ≤ n) (L : Int) (tb : Int → Int) (hL : mTp σ L tb) (hl : 0 ≤ L ∧ L ≤ 296) (v : Int) (hv : -2147483648 ≤ v ∧ v < 2147483648) : yMet l g yX11_puts cX11_puts 3 none (rmL 1) [yR g 155, yI v] (SC g) n σ (SC g) (yPv (fun n' σ' => n' = n ∧ gTp σ σ' ∧ mTp σ' (L + 4) (apB L tb v))) := by
  refine y_start (by decide) (Nat.le_of_ble_eq_true rfl) (fun X0 hF => ?_)
  show yV X0 g 3 (yQ X0 g (SC g) (yPv (fun n' σ' => n' = n ∧ gTp σ σ' ∧ mTp σ' (L + 4) (apB L tb v))) (rmL 1)) (SC g) n σ 0 0 0 [(0, yR g 155), (1, yI v)] []
  refine y_bipush (pc := 0) hF dX11_puts_0 (by decide) ?_
  refine y_istore_n (pc := 2) (lv' := [(0, yR g 155), (1, yI v), (2, yI 24)]) hF dX11_puts_2 (by decide) rfl rfl ?_
  have zL3 : ∀ (N : Nat) (τ : yM) (k : Int), N = (k + 8).toNat → ((k = 24 ∨ k = 16 ∨ k = 8 ∨ k = 0 ∨ k = -8) ∧ gTp σ τ ∧ τ 155 29 = (L + (24 - k) / 8) ∧ ∀ j : Int, 0 ≤ j → j < (L + (24 - k) / 8) → τ 167 j = sb (apB L tb v j)) → yV X0 g 3 (yQ X0 g (SC g) (yPv (fun n' σ' => n' = n ∧ gTp σ σ' ∧ mTp σ' (L + 4) (apB L tb v))) (rmL 1)) (SC g) n τ 0 0 3 [(0, yR g 155), (1, yI v), (2, yI k)] [] := by
    intro N
    induction N using Nat.strongRecOn with
    | ind N zh3 =>
      intro τ  k  zN3 zI3
      have zlv := zI3.2.2.1
      refine y_iload_n (pc := 3) hF dX11_puts_3 2 rfl ?_
      refine y_if_lt (pc := 4) hF dX11_puts_4 36 rfl (by omega) (fun zc4 => ?_) (fun zc4 => ?_)
      · skip
        exact y_vret (pc := 36) hF dX11_puts_36 (Nat.zero_le _) (Nat.zero_le _) ⟨rfl, rfl, zI3.2.1, by rw [zI3.2.2.1]; omega, fun j a b => zI3.2.2.2 j a (by omega)⟩
      · skip
        have zk4 : k = 24 ∨ k = 16 ∨ k = 8 ∨ k = 0 := by omega
        have zbb := sb_bd (v := v % 4294967296 / 2 ^ (k).toNat % 256) (by omega)
        refine y_aload_n (pc := 7) hF dX11_puts_7 0 rfl ?_
        refine y_get (pc := 8) (ci := 11) hF dX11_puts_8 (by omega) rfl rfl rfl iX11 27 (by decide) w_1274 rfl ?_
        refine y_aload_n (pc := 11) hF dX11_puts_11 0 rfl ?_
        refine y_get (pc := 12) (ci := 11) hF dX11_puts_12 (by omega) rfl rfl rfl iX11 29 (by decide) w_1276 rfl ?_
        rw [show τ 155 29 = (L + (24 - k) / 8) from zlv]
        refine y_iload_n (pc := 15) hF dX11_puts_15 1 rfl ?_
        refine y_iload_n (pc := 16) hF dX11_puts_16 2 rfl ?_
        refine y_ishr (pc := 17) hF dX11_puts_17 hv (by omega) ?_
        refine y_i2b (pc := 18) hF dX11_puts_18 (sdiv_r hv zk4) ?_
        rw [show sb ((v / 2 ^ (k).toNat) % 256) = sb (v % 4294967296 / 2 ^ (k).toNat % 256) from (by rw [bY_s zk4])]
        refine y_bastore (pc := 19) hF dX11_puts_19 (by omega) rfl ⟨by omega, by show _ < (300 : Int); omega⟩ (by decide) zbb ?_
        obtain ⟨τ1, hτ1⟩ : ∃ s, s = yset τ 167 (L + (24 - k) / 8) (sb (v % 4294967296 / 2 ^ (k).toNat % 256)) := ⟨_, rfl⟩
        rw [← hτ1]
        have zlw : τ1 155 29 = (L + (24 - k) / 8) := by rw [hτ1, yset_n (by omega)]; exact zlv
        refine y_aload_n (pc := 20) hF dX11_puts_20 0 rfl ?_
        refine y_dup (pc := 21) hF dX11_puts_21 rfl ?_
        refine y_get (pc := 22) (ci := 11) hF dX11_puts_22 (by omega) rfl rfl rfl iX11 29 (by decide) w_1276 rfl ?_
        rw [show τ1 155 29 = (L + (24 - k) / 8) from zlw]
        refine y_iconst (pc := 25) hF dX11_puts_25 ?_
        refine y_iadd (pc := 26) hF dX11_puts_26 ?_
        refine y_putf (pc := 27) (ci := 11) (σ' := yset τ1 155 29 ((L + (24 - k) / 8) + 1)) (sch' := (SC g)) hF dX11_puts_27 (by omega) rfl rfl rfl iX11 29 (by decide) w_1276 tyX11 tyX11_ok nmX11 rfl rfl rfl rfl (Nat.le_of_ble_eq_true rfl) rfl (y_ps rfl) (fun k' h => ⟨yset_n h, rfl⟩) ?_
        obtain ⟨τ2, hτ2⟩ : ∃ s, s = yset τ1 155 29 ((L + (24 - k) / 8) + 1) := ⟨_, rfl⟩
        rw [← hτ2]
        refine y_iinc (pc := 30) (lv' := [(0, yR g 155), (1, yI v), (2, yI (k + (-8)))]) hF dX11_puts_30 2 rfl (by decide) rfl rfl ?_
        refine y_goto (pc := 33) hF dX11_puts_33 3 rfl ?_
        exact zh3 _ (by omega) τ2 (k + (-8)) rfl ⟨by omega, zI3.2.1.tr (fun c j a b => by rw [hτ2, yset_ap, if_neg (by omega), hτ1, yset_n b]), by rw [hτ2, yset_e]; omega, fun j a b => by rw [hτ2, yset_n (by omega), hτ1]; by_cases zj : j = (L + (24 - k) / 8); (rw [zj, yset_e]; unfold apB bY; rw [if_pos (by omega), show (24 - 8 * ((L + (24 - k) / 8) - L)).toNat = k.toNat by omega]); (rw [yset_o (fun _ => zj)]; exact zI3.2.2.2 j a (by omega))⟩
  exact zL3 _ σ (24) rfl ⟨by omega, gTp.rf σ, by rw [hL.1]; omega, fun j a b => by rw [hL.2 j a (by omega)]; unfold apB; rw [if_neg (by omega)]⟩
