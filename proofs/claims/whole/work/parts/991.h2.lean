theorem dX11_feed_0 : decode cX11_feed 0 = .ok (.aload_n 0, 1) := by decide +kernel
theorem dX11_feed_1 : decode cX11_feed 1 = .ok (.iconst 0, 1) := by decide +kernel
theorem dX11_feed_2 : decode cX11_feed 2 = .ok (.putfield 1, 3) := by decide +kernel
theorem dX11_feed_5 : decode cX11_feed 5 = .ok (.aload_n 0, 1) := by decide +kernel
theorem dX11_feed_6 : decode cX11_feed 6 = .ok (.getfield 239, 3) := by decide +kernel
theorem dX11_feed_9 : decode cX11_feed 9 = .ok (.bipush 20, 2) := by decide +kernel
theorem dX11_feed_11 : decode cX11_feed 11 = .ok (.iadd, 1) := by decide +kernel
theorem dX11_feed_12 : decode cX11_feed 12 = .ok (.sipush 300, 3) := by decide +kernel
theorem dX11_feed_15 : decode cX11_feed 15 = .ok (.if_icmp .le 5, 3) := by decide +kernel
theorem dX11_feed_18 : decode cX11_feed 18 = .ok (.iconst (-1), 1) := by decide +kernel
theorem dX11_feed_19 : decode cX11_feed 19 = .ok (.ireturn, 1) := by decide +kernel
theorem dX11_feed_20 : decode cX11_feed 20 = .ok (.aload_n 0, 1) := by decide +kernel
theorem dX11_feed_21 : decode cX11_feed 21 = .ok (.iload_n 1, 1) := by decide +kernel
theorem dX11_feed_22 : decode cX11_feed 22 = .ok (.invokevirtual 242, 3) := by decide +kernel
theorem dX11_feed_25 : decode cX11_feed 25 = .ok (.aload_n 0, 1) := by decide +kernel
theorem dX11_feed_26 : decode cX11_feed 26 = .ok (.iload_n 2, 1) := by decide +kernel
theorem dX11_feed_27 : decode cX11_feed 27 = .ok (.invokevirtual 242, 3) := by decide +kernel
theorem dX11_feed_30 : decode cX11_feed 30 = .ok (.aload_n 0, 1) := by decide +kernel
theorem dX11_feed_31 : decode cX11_feed 31 = .ok (.iload_n 3, 1) := by decide +kernel
theorem dX11_feed_32 : decode cX11_feed 32 = .ok (.invokevirtual 242, 3) := by decide +kernel
theorem dX11_feed_35 : decode cX11_feed 35 = .ok (.aload_n 0, 1) := by decide +kernel
theorem dX11_feed_36 : decode cX11_feed 36 = .ok (.iload 4, 2) := by decide +kernel
theorem dX11_feed_38 : decode cX11_feed 38 = .ok (.invokevirtual 242, 3) := by decide +kernel
theorem dX11_feed_41 : decode cX11_feed 41 = .ok (.aload_n 0, 1) := by decide +kernel
theorem dX11_feed_42 : decode cX11_feed 42 = .ok (.iload 5, 2) := by decide +kernel
theorem dX11_feed_44 : decode cX11_feed 44 = .ok (.invokevirtual 242, 3) := by decide +kernel
theorem dX11_feed_47 : decode cX11_feed 47 = .ok (.aload_n 0, 1) := by decide +kernel
theorem dX11_feed_48 : decode cX11_feed 48 = .ok (.getfield 239, 3) := by decide +kernel
theorem dX11_feed_51 : decode cX11_feed 51 = .ok (.ireturn, 1) := by decide +kernel
set_option maxHeartbeats 4000000 in
set_option maxRecDepth 100000 in
theorem tX11_feed {l : Launch} {g : yG} {n : Nat} {σ : yM} (hn : 172 ≤ n) (w h : Int) (T S F P O : Int → Int → Int) (nf df nl : Int) (lg : Int → Int → Int) (s re fo ra tu we sh : Int) (H : List aX) (ht : Bool) (K : Int → Int → Int) (tl : Int) (tb : Int → Int) (fa r1 r2 N : Int) (hV : mV σ (w, h, (T, S, F, P, O, nf, df, nl, lg), (s, re, fo, ra, tu, we, sh), H, ht, K, tl, tb, fa, r1, r2)) (hW : aW N (w, h, (T, S, F, P, O, nf, df, nl, lg), (s, re, fo, ra, tu, we, sh), H, ht, K, tl, tb, fa, r1, r2)) (a b c d e_ : Int) (ha : -2147483648 ≤ a ∧ a < 2147483648) (hb : -2147483648 ≤ b ∧ b < 2147483648) (hc : -2147483648 ≤ c ∧ c < 2147483648) (hd : -2147483648 ≤ d ∧ d < 2147483648) (he_ : -2147483648 ≤ e_ ∧ e_ < 2147483648) : yMet l g yX11_feed cX11_feed 6 (some .int) (rmL 2) [yR g 155, yI a, yI b, yI c, yI d, yI e_] (SC g) n σ (SC g) (yPi (fun zv n' σ' => n ≤ n' ∧ (zv = (if tl + 20 ≤ 300 then tl + 20 else -1) ∧ mO σ σ' (if tl + 20 ≤ 300 then (w, h, (T, S, F, P, O, nf, df, nl, lg), (s, re, fo, ra, tu, we, sh), H, ht, K, tl + 20, fdB tl tb a b c d e_, fa, r1, r2) else (w, h, (T, S, F, P, O, nf, df, nl, lg), (s, re, fo, ra, tu, we, sh), H, ht, K, tl, tb, fa, r1, r2)) 0))) := by
  obtain ⟨⟨hA, hL⟩, hS, hH, ⟨hb1, hb2⟩, ⟨ht1, ht2⟩, hfa, hr1, hr2⟩ := id hV
  obtain ⟨hw1, hw2, hw3, hw4⟩ := id hA.1.1
  obtain ⟨hs1, hs2, hs3, hs4, hs5, hs6, hs7⟩ := id hS.2
  have hz : (0 : Nat) < 3 := by omega
  have ztl := hW.2.2.2.1
  refine y_start (by decide) (Nat.le_of_ble_eq_true rfl) (fun X0 hF => ?_)
  show yV X0 g 6 (yQ X0 g (SC g) (yPi (fun zv n' σ' => n ≤ n' ∧ (zv = (if tl + 20 ≤ 300 then tl + 20 else -1) ∧ mO σ σ' (if tl + 20 ≤ 300 then (w, h, (T, S, F, P, O, nf, df, nl, lg), (s, re, fo, ra, tu, we, sh), H, ht, K, tl + 20, fdB tl tb a b c d e_, fa, r1, r2) else (w, h, (T, S, F, P, O, nf, df, nl, lg), (s, re, fo, ra, tu, we, sh), H, ht, K, tl, tb, fa, r1, r2)) 0))) (rmL 2)) (SC g) n σ 0 0 0 [(0, yR g 155), (1, yI a), (2, yI b), (3, yI c), (4, yI d), (5, yI e_)] []
  refine y_aload_n (pc := 0) hF dX11_feed_0 0 rfl ?_
  refine y_iconst (pc := 1) hF dX11_feed_1 ?_
  refine y_putf (pc := 2) (ci := 11) (σ' := yset σ 155 0 0) (sch' := (SC g)) hF dX11_feed_2 (by omega) rfl rfl rfl iX11 0 (by decide) w_1247 tyX11 tyX11_ok nmX11 rfl rfl rfl rfl (Nat.le_of_ble_eq_true rfl) rfl (y_ps rfl) (fun k' h => ⟨yset_n h, rfl⟩) ?_
  obtain ⟨σ0, hσ0⟩ : ∃ s, s = yset σ 155 0 0 := ⟨_, rfl⟩
  rw [← hσ0]
  have zO_σ0 := hV.t0 hσ0
  obtain ⟨⟨zA_σ0, zL_σ0⟩, zS_σ0, zH_σ0, ⟨zb1_σ0, zb2_σ0⟩, ⟨zt1_σ0, zt2_σ0⟩, zfa_σ0, zr1_σ0, zr2_σ0⟩ := id zO_σ0.2.2
  have zTp0 : mTp σ0 tl tb := ⟨zt1_σ0, zt2_σ0⟩
  refine y_aload_n (pc := 5) hF dX11_feed_5 0 rfl ?_
  refine y_get (pc := 6) (ci := 11) hF dX11_feed_6 (by omega) rfl rfl rfl iX11 29 (by decide) w_1276 rfl ?_
  rw [show σ0 155 29 = tl from zt1_σ0]
  refine y_bipush (pc := 9) hF dX11_feed_9 (by decide) ?_
  refine y_iadd (pc := 11) hF dX11_feed_11 ?_
  refine y_sipush (pc := 12) hF dX11_feed_12 (by decide) ?_
  refine y_icmp_le (pc := 15) hF dX11_feed_15 20 rfl (by omega) (by omega) (fun zc15 => ?_) (fun zc15 => ?_)
  · skip
    refine y_aload_n (pc := 20) hF dX11_feed_20 0 rfl ?_
    refine y_iload_n (pc := 21) hF dX11_feed_21 1 rfl ?_
    refine y_cv (y_rV (pc := 22) hF (tX11_puts hn tl tb zTp0 (by omega) a ha) dX11_feed_22 (by omega) rfl rfl rfl w_1384 qX11_puts rfl ⟨Nat.le_of_ble_eq_true rfl, Nat.le_of_ble_eq_true rfl⟩ ⟨Nat.zero_le _, Nat.zero_le _⟩ (Nat.le_of_ble_eq_true rfl) rfl) rfl rfl (fun n' σ22 zp22 => ?_)
    obtain ⟨zn22, zp22⟩ := zp22
    have zn22 := zn22.symm
    subst zn22
    refine y_aload_n (pc := 25) hF dX11_feed_25 0 rfl ?_
    refine y_iload_n (pc := 26) hF dX11_feed_26 2 rfl ?_
    refine y_cv (y_rV (pc := 27) hF (tX11_puts hn (tl + 4) (apB tl tb a) zp22.2 (by omega) b hb) dX11_feed_27 (by omega) rfl rfl rfl w_1384 qX11_puts rfl ⟨Nat.le_of_ble_eq_true rfl, Nat.le_of_ble_eq_true rfl⟩ ⟨Nat.zero_le _, Nat.zero_le _⟩ (Nat.le_of_ble_eq_true rfl) rfl) rfl rfl (fun n' σ27 zp27 => ?_)
    obtain ⟨zn27, zp27⟩ := zp27
    have zn27 := zn27.symm
    subst zn27
    refine y_aload_n (pc := 30) hF dX11_feed_30 0 rfl ?_
    refine y_iload_n (pc := 31) hF dX11_feed_31 3 rfl ?_
    refine y_cv (y_rV (pc := 32) hF (tX11_puts hn (tl + 4 + 4) (apB (tl + 4) (apB tl tb a) b) zp27.2 (by omega) c hc) dX11_feed_32 (by omega) rfl rfl rfl w_1384 qX11_puts rfl ⟨Nat.le_of_ble_eq_true rfl, Nat.le_of_ble_eq_true rfl⟩ ⟨Nat.zero_le _, Nat.zero_le _⟩ (Nat.le_of_ble_eq_true rfl) rfl) rfl rfl (fun n' σ32 zp32 => ?_)
    obtain ⟨zn32, zp32⟩ := zp32
    have zn32 := zn32.symm
    subst zn32
    refine y_aload_n (pc := 35) hF dX11_feed_35 0 rfl ?_
    refine y_iload (pc := 36) hF dX11_feed_36 4 rfl ?_
    refine y_cv (y_rV (pc := 38) hF (tX11_puts hn (tl + 4 + 4 + 4) (apB (tl + 4 + 4) (apB (tl + 4) (apB tl tb a) b) c) zp32.2 (by omega) d hd) dX11_feed_38 (by omega) rfl rfl rfl w_1384 qX11_puts rfl ⟨Nat.le_of_ble_eq_true rfl, Nat.le_of_ble_eq_true rfl⟩ ⟨Nat.zero_le _, Nat.zero_le _⟩ (Nat.le_of_ble_eq_true rfl) rfl) rfl rfl (fun n' σ38 zp38 => ?_)
    obtain ⟨zn38, zp38⟩ := zp38
    have zn38 := zn38.symm
    subst zn38
    refine y_aload_n (pc := 41) hF dX11_feed_41 0 rfl ?_
    refine y_iload (pc := 42) hF dX11_feed_42 5 rfl ?_
    refine y_cv (y_rV (pc := 44) hF (tX11_puts hn (tl + 4 + 4 + 4 + 4) (apB (tl + 4 + 4 + 4) (apB (tl + 4 + 4) (apB (tl + 4) (apB tl tb a) b) c) d) zp38.2 (by omega) e_ he_) dX11_feed_44 (by omega) rfl rfl rfl w_1384 qX11_puts rfl ⟨Nat.le_of_ble_eq_true rfl, Nat.le_of_ble_eq_true rfl⟩ ⟨Nat.zero_le _, Nat.zero_le _⟩ (Nat.le_of_ble_eq_true rfl) rfl) rfl rfl (fun n' σ44 zp44 => ?_)
    obtain ⟨zn44, zp44⟩ := zp44
    have zn44 := zn44.symm
    subst zn44
    have zfr := (((zp22.1.tr zp27.1).tr zp32.1).tr zp38.1).tr zp44.1
    refine y_aload_n (pc := 47) hF dX11_feed_47 0 rfl ?_
    refine y_get (pc := 48) (ci := 11) hF dX11_feed_48 (by omega) rfl rfl rfl iX11 29 (by decide) w_1276 rfl ?_
    rw [show σ44 155 29 = tl + 4 + 4 + 4 + 4 + 4 from zp44.2.1]
    exact y_iret (pc := 51) hF dX11_feed_51 (Nat.zero_le _) (Nat.zero_le _) ⟨_, rfl, Nat.le_refl _, by rw [if_pos (by omega)]; omega, by rw [if_pos (by omega)]; exact mO_tape zO_σ0 zfr ⟨by rw [zp44.2.1]; omega, fun j a b => zp44.2.2 j a (by omega)⟩⟩
  · skip
    refine y_iconst (pc := 18) hF dX11_feed_18 ?_
    exact y_iret (pc := 19) hF dX11_feed_19 (Nat.zero_le _) (Nat.zero_le _) ⟨_, rfl, Nat.le_refl _, by rw [if_neg (by omega)], by rw [if_neg (by omega)]; exact zO_σ0⟩

theorem dX11_status_0 : decode cX11_status 0 = .ok (.aload_n 0, 1) := by decide +kernel
theorem dX11_status_1 : decode cX11_status 1 = .ok (.iconst 0, 1) := by decide +kernel
theorem dX11_status_2 : decode cX11_status 2 = .ok (.putfield 1, 3) := by decide +kernel
theorem dX11_status_5 : decode cX11_status 5 = .ok (.iload_n 1, 1) := by decide +kernel
theorem dX11_status_6 : decode cX11_status 6 = .ok (.iconst 0, 1) := by decide +kernel
theorem dX11_status_7 : decode cX11_status 7 = .ok (.iconst 1, 1) := by decide +kernel
theorem dX11_status_8 : decode cX11_status 8 = .ok (.invokestatic 68, 3) := by decide +kernel
theorem dX11_status_11 : decode cX11_status 11 = .ok (.ifCond .eq 12, 3) := by decide +kernel
theorem dX11_status_14 : decode cX11_status 14 = .ok (.aload_n 0, 1) := by decide +kernel
theorem dX11_status_15 : decode cX11_status 15 = .ok (.getfield 7, 3) := by decide +kernel
theorem dX11_status_18 : decode cX11_status 18 = .ok (.iload_n 1, 1) := by decide +kernel
theorem dX11_status_19 : decode cX11_status 19 = .ok (.iaload, 1) := by decide +kernel
theorem dX11_status_20 : decode cX11_status 20 = .ok (.goto 4, 3) := by decide +kernel
theorem dX11_status_23 : decode cX11_status 23 = .ok (.iconst (-1), 1) := by decide +kernel
theorem dX11_status_24 : decode cX11_status 24 = .ok (.ireturn, 1) := by decide +kernel
set_option maxHeartbeats 4000000 in
set_option maxRecDepth 100000 in
theorem tX11_status {l : Launch} {g : yG} {n : Nat} {σ : yM} (hn : 172 ≤ n) (w h : Int) (T S F P O : Int → Int → Int) (nf df nl : Int) (lg : Int → Int → Int) (s re fo ra tu we sh : Int) (H : List aX) (ht : Bool) (K : Int → Int → Int) (tl : Int) (tb : Int → Int) (fa r1 r2 N : Int) (hV : mV σ (w, h, (T, S, F, P, O, nf, df, nl, lg), (s, re, fo, ra, tu, we, sh), H, ht, K, tl, tb, fa, r1, r2)) (hW : aW N (w, h, (T, S, F, P, O, nf, df, nl, lg), (s, re, fo, ra, tu, we, sh), H, ht, K, tl, tb, fa, r1, r2)) (a : Int) (ha : -2147483648 ≤ a ∧ a < 2147483648) : yMet l g yX11_status cX11_status 2 (some .int) (rmL 2) [yR g 155, yI a] (SC g) n σ (SC g) (yPi (fun zv n' σ' => n ≤ n' ∧ (zv = (if a = 0 then r1 else if a = 1 then r2 else -1) ∧ mO σ σ' (w, h, (T, S, F, P, O, nf, df, nl, lg), (s, re, fo, ra, tu, we, sh), H, ht, K, tl, tb, fa, r1, r2) 0))) := by
  obtain ⟨⟨hA, hL⟩, hS, hH, ⟨hb1, hb2⟩, ⟨ht1, ht2⟩, hfa, hr1, hr2⟩ := id hV
  obtain ⟨hw1, hw2, hw3, hw4⟩ := id hA.1.1
  obtain ⟨hs1, hs2, hs3, hs4, hs5, hs6, hs7⟩ := id hS.2
  have hz : (0 : Nat) < 3 := by omega
  refine y_start (by decide) (Nat.le_of_ble_eq_true rfl) (fun X0 hF => ?_)
  show yV X0 g 2 (yQ X0 g (SC g) (yPi (fun zv n' σ' => n ≤ n' ∧ (zv = (if a = 0 then r1 else if a = 1 then r2 else -1) ∧ mO σ σ' (w, h, (T, S, F, P, O, nf, df, nl, lg), (s, re, fo, ra, tu, we, sh), H, ht, K, tl, tb, fa, r1, r2) 0))) (rmL 2)) (SC g) n σ 0 0 0 [(0, yR g 155), (1, yI a)] []
  refine y_aload_n (pc := 0) hF dX11_status_0 0 rfl ?_
  refine y_iconst (pc := 1) hF dX11_status_1 ?_
  refine y_putf (pc := 2) (ci := 11) (σ' := yset σ 155 0 0) (sch' := (SC g)) hF dX11_status_2 (by omega) rfl rfl rfl iX11 0 (by decide) w_1247 tyX11 tyX11_ok nmX11 rfl rfl rfl rfl (Nat.le_of_ble_eq_true rfl) rfl (y_ps rfl) (fun k' h => ⟨yset_n h, rfl⟩) ?_
  obtain ⟨σ0, hσ0⟩ : ∃ s, s = yset σ 155 0 0 := ⟨_, rfl⟩
  rw [← hσ0]
  have zO_σ0 := hV.t0 hσ0
  obtain ⟨⟨zA_σ0, zL_σ0⟩, zS_σ0, zH_σ0, ⟨zb1_σ0, zb2_σ0⟩, ⟨zt1_σ0, zt2_σ0⟩, zfa_σ0, zr1_σ0, zr2_σ0⟩ := id zO_σ0.2.2
  refine y_iload_n (pc := 5) hF dX11_status_5 1 rfl ?_
  refine y_iconst (pc := 6) hF dX11_status_6 ?_
  refine y_iconst (pc := 7) hF dX11_status_7 ?_
  have zz8 := y_rS (pc := 8) (As := [yI a, yI 0, yI 1]) (kk := 0) hF (tX11_within (n := n) (σ := σ0) a 0 1 (by omega) (by omega) (by omega)) dX11_status_8 w_1392 qX11_within rfl ⟨Nat.le_of_ble_eq_true rfl, Nat.le_of_ble_eq_true rfl⟩ ⟨Nat.zero_le _, Nat.zero_le _⟩ (Nat.le_of_ble_eq_true rfl) rfl (rest := []) (cells := 0) (slots := 0) (lv := [(0, yR g 155), (1, yI a)])
  refine y_cp (zz8) ?_
  refine y_if_eq (pc := 11) hF dX11_status_11 23 rfl bi_r (fun zc11 => ?_) (fun zc11 => ?_)
  · replace zc11 := bi_0.mp zc11
    refine y_iconst (pc := 23) hF dX11_status_23 ?_
    exact y_iret (pc := 24) hF dX11_status_24 (Nat.zero_le _) (Nat.zero_le _) ⟨_, rfl, Nat.le_refl _, by simp at zc11; rw [if_neg (by omega), if_neg (by omega)], zO_σ0⟩
  · replace zc11 := bi_n0.mp zc11
    refine y_aload_n (pc := 14) hF dX11_status_14 0 rfl ?_
    refine y_get (pc := 15) (ci := 11) hF dX11_status_15 (by omega) rfl rfl rfl iX11 1 (by decide) w_1248 rfl ?_
    refine y_iload_n (pc := 18) hF dX11_status_18 1 rfl ?_
    refine y_iaload (pc := 19) hF dX11_status_19 (by omega) rfl (by simp at zc11; exact ⟨by omega, by show _ < (2 : Int); omega⟩) (by decide) ?_
    refine y_goto (pc := 20) hF dX11_status_20 24 rfl ?_
    exact y_iret (pc := 24) hF dX11_status_24 (Nat.zero_le _) (Nat.zero_le _) ⟨_, rfl, Nat.le_refl _, by simp at zc11; rcases (show a = 0 ∨ a = 1 by omega) with zq | zq <;> subst zq; (exact zr1_σ0); (exact zr2_σ0), zO_σ0⟩

theorem dX11_fault_0 : decode cX11_fault 0 = .ok (.aload_n 0, 1) := by decide +kernel
theorem dX11_fault_1 : decode cX11_fault 1 = .ok (.iconst 0, 1) := by decide +kernel
theorem dX11_fault_2 : decode cX11_fault 2 = .ok (.putfield 1, 3) := by decide +kernel
theorem dX11_fault_5 : decode cX11_fault 5 = .ok (.aload_n 0, 1) := by decide +kernel
theorem dX11_fault_6 : decode cX11_fault 6 = .ok (.getfield 47, 3) := by decide +kernel
theorem dX11_fault_9 : decode cX11_fault 9 = .ok (.ireturn, 1) := by decide +kernel
set_option maxHeartbeats 4000000 in
set_option maxRecDepth 100000 in
theorem tX11_fault {l : Launch} {g : yG} {n : Nat} {σ : yM} (hn : 172 ≤ n) (w h : Int) (T S F P O : Int → Int → Int) (nf df nl : Int) (lg : Int → Int → Int) (s re fo ra tu we sh : Int) (H : List aX) (ht : Bool) (K : Int → Int → Int) (tl : Int) (tb : Int → Int) (fa r1 r2 N : Int) (hV : mV σ (w, h, (T, S, F, P, O, nf, df, nl, lg), (s, re, fo, ra, tu, we, sh), H, ht, K, tl, tb, fa, r1, r2)) (hW : aW N (w, h, (T, S, F, P, O, nf, df, nl, lg), (s, re, fo, ra, tu, we, sh), H, ht, K, tl, tb, fa, r1, r2))  : yMet l g yX11_fault cX11_fault 1 (some .int) (rmL 1) [yR g 155] (SC g) n σ (SC g) (yPi (fun zv n' σ' => n ≤ n' ∧ (zv = fa ∧ mO σ σ' (w, h, (T, S, F, P, O, nf, df, nl, lg), (s, re, fo, ra, tu, we, sh), H, ht, K, tl, tb, fa, r1, r2) 0))) := by
  obtain ⟨⟨hA, hL⟩, hS, hH, ⟨hb1, hb2⟩, ⟨ht1, ht2⟩, hfa, hr1, hr2⟩ := id hV
  obtain ⟨hw1, hw2, hw3, hw4⟩ := id hA.1.1
  obtain ⟨hs1, hs2, hs3, hs4, hs5, hs6, hs7⟩ := id hS.2
  have hz : (0 : Nat) < 3 := by omega
  refine y_start (by decide) (Nat.le_of_ble_eq_true rfl) (fun X0 hF => ?_)
  show yV X0 g 1 (yQ X0 g (SC g) (yPi (fun zv n' σ' => n ≤ n' ∧ (zv = fa ∧ mO σ σ' (w, h, (T, S, F, P, O, nf, df, nl, lg), (s, re, fo, ra, tu, we, sh), H, ht, K, tl, tb, fa, r1, r2) 0))) (rmL 1)) (SC g) n σ 0 0 0 [(0, yR g 155)] []
  refine y_aload_n (pc := 0) hF dX11_fault_0 0 rfl ?_
  refine y_iconst (pc := 1) hF dX11_fault_1 ?_
  refine y_putf (pc := 2) (ci := 11) (σ' := yset σ 155 0 0) (sch' := (SC g)) hF dX11_fault_2 (by omega) rfl rfl rfl iX11 0 (by decide) w_1247 tyX11 tyX11_ok nmX11 rfl rfl rfl rfl (Nat.le_of_ble_eq_true rfl) rfl (y_ps rfl) (fun k' h => ⟨yset_n h, rfl⟩) ?_
  obtain ⟨σ0, hσ0⟩ : ∃ s, s = yset σ 155 0 0 := ⟨_, rfl⟩
  rw [← hσ0]
  have zO_σ0 := hV.t0 hσ0
  obtain ⟨⟨zA_σ0, zL_σ0⟩, zS_σ0, zH_σ0, ⟨zb1_σ0, zb2_σ0⟩, ⟨zt1_σ0, zt2_σ0⟩, zfa_σ0, zr1_σ0, zr2_σ0⟩ := id zO_σ0.2.2
  refine y_aload_n (pc := 5) hF dX11_fault_5 0 rfl ?_
  refine y_get (pc := 6) (ci := 11) hF dX11_fault_6 (by omega) rfl rfl rfl iX11 30 (by decide) w_1277 rfl ?_
  rw [show σ0 155 30 = fa from zfa_σ0]
  exact y_iret (pc := 9) hF dX11_fault_9 (Nat.zero_le _) (Nat.zero_le _) ⟨_, rfl, Nat.le_refl _, rfl, zO_σ0⟩

theorem dX11_told_0 : decode cX11_told 0 = .ok (.aload_n 0, 1) := by decide +kernel
theorem dX11_told_1 : decode cX11_told 1 = .ok (.iconst 0, 1) := by decide +kernel
theorem dX11_told_2 : decode cX11_told 2 = .ok (.putfield 1, 3) := by decide +kernel
theorem dX11_told_5 : decode cX11_told 5 = .ok (.aload_n 0, 1) := by decide +kernel
theorem dX11_told_6 : decode cX11_told 6 = .ok (.iload_n 1, 1) := by decide +kernel
theorem dX11_told_7 : decode cX11_told 7 = .ok (.iconst 0, 1) := by decide +kernel
theorem dX11_told_8 : decode cX11_told 8 = .ok (.bipush 18, 2) := by decide +kernel
theorem dX11_told_10 : decode cX11_told 10 = .ok (.invokestatic 68, 3) := by decide +kernel
theorem dX11_told_13 : decode cX11_told 13 = .ok (.iconst 1, 1) := by decide +kernel
theorem dX11_told_14 : decode cX11_told 14 = .ok (.iconst 1, 1) := by decide +kernel
theorem dX11_told_15 : decode cX11_told 15 = .ok (.invokevirtual 284, 3) := by decide +kernel
theorem dX11_told_18 : decode cX11_told 18 = .ok (.ifCond .ne 5, 3) := by decide +kernel
theorem dX11_told_21 : decode cX11_told 21 = .ok (.iconst 0, 1) := by decide +kernel
theorem dX11_told_22 : decode cX11_told 22 = .ok (.ireturn, 1) := by decide +kernel
theorem dX11_told_23 : decode cX11_told 23 = .ok (.iload_n 1, 1) := by decide +kernel
theorem dX11_told_24 : decode cX11_told 24 = .ok (.tableswitch 168 0 15 #[80, 87, 94, 99, 104, 109, 114, 123, 134, 139, 168, 168, 168, 168, 144, 157], 80) := by decide +kernel
theorem dX11_told_104 : decode cX11_told 104 = .ok (.aload_n 0, 1) := by decide +kernel
theorem dX11_told_105 : decode cX11_told 105 = .ok (.getfield 22, 3) := by decide +kernel
theorem dX11_told_108 : decode cX11_told 108 = .ok (.iconst 0, 1) := by decide +kernel
theorem dX11_told_109 : decode cX11_told 109 = .ok (.iaload, 1) := by decide +kernel
theorem dX11_told_110 : decode cX11_told 110 = .ok (.ireturn, 1) := by decide +kernel
theorem dX11_told_111 : decode cX11_told 111 = .ok (.aload_n 0, 1) := by decide +kernel
theorem dX11_told_112 : decode cX11_told 112 = .ok (.getfield 25, 3) := by decide +kernel
theorem dX11_told_115 : decode cX11_told 115 = .ok (.iconst 0, 1) := by decide +kernel
theorem dX11_told_116 : decode cX11_told 116 = .ok (.iaload, 1) := by decide +kernel
theorem dX11_told_117 : decode cX11_told 117 = .ok (.ireturn, 1) := by decide +kernel
theorem dX11_told_118 : decode cX11_told 118 = .ok (.aload_n 0, 1) := by decide +kernel
theorem dX11_told_119 : decode cX11_told 119 = .ok (.invokevirtual 311, 3) := by decide +kernel
theorem dX11_told_122 : decode cX11_told 122 = .ok (.ireturn, 1) := by decide +kernel
theorem dX11_told_123 : decode cX11_told 123 = .ok (.aload_n 0, 1) := by decide +kernel
theorem dX11_told_124 : decode cX11_told 124 = .ok (.invokevirtual 294, 3) := by decide +kernel
theorem dX11_told_127 : decode cX11_told 127 = .ok (.ireturn, 1) := by decide +kernel
theorem dX11_told_128 : decode cX11_told 128 = .ok (.aload_n 0, 1) := by decide +kernel
theorem dX11_told_129 : decode cX11_told 129 = .ok (.invokevirtual 338, 3) := by decide +kernel
theorem dX11_told_132 : decode cX11_told 132 = .ok (.ireturn, 1) := by decide +kernel
theorem dX11_told_133 : decode cX11_told 133 = .ok (.aload_n 0, 1) := by decide +kernel
theorem dX11_told_134 : decode cX11_told 134 = .ok (.invokevirtual 341, 3) := by decide +kernel
theorem dX11_told_137 : decode cX11_told 137 = .ok (.ireturn, 1) := by decide +kernel
theorem dX11_told_138 : decode cX11_told 138 = .ok (.aload_n 0, 1) := by decide +kernel
theorem dX11_told_139 : decode cX11_told 139 = .ok (.invokevirtual 329, 3) := by decide +kernel
theorem dX11_told_142 : decode cX11_told 142 = .ok (.aload_n 0, 1) := by decide +kernel
theorem dX11_told_143 : decode cX11_told 143 = .ok (.getfield 323, 3) := by decide +kernel
theorem dX11_told_146 : decode cX11_told 146 = .ok (.ireturn, 1) := by decide +kernel
theorem dX11_told_147 : decode cX11_told 147 = .ok (.aload_n 0, 1) := by decide +kernel
theorem dX11_told_148 : decode cX11_told 148 = .ok (.getfield 19, 3) := by decide +kernel
theorem dX11_told_151 : decode cX11_told 151 = .ok (.iconst 0, 1) := by decide +kernel
theorem dX11_told_152 : decode cX11_told 152 = .ok (.aaload, 1) := by decide +kernel
theorem dX11_told_153 : decode cX11_told 153 = .ok (.sipush 2000, 3) := by decide +kernel
theorem dX11_told_156 : decode cX11_told 156 = .ok (.iaload, 1) := by decide +kernel
theorem dX11_told_157 : decode cX11_told 157 = .ok (.ireturn, 1) := by decide +kernel
theorem dX11_told_158 : decode cX11_told 158 = .ok (.aload_n 0, 1) := by decide +kernel
theorem dX11_told_159 : decode cX11_told 159 = .ok (.getfield 301, 3) := by decide +kernel
theorem dX11_told_162 : decode cX11_told 162 = .ok (.ireturn, 1) := by decide +kernel
theorem dX11_told_163 : decode cX11_told 163 = .ok (.aload_n 0, 1) := by decide +kernel
theorem dX11_told_164 : decode cX11_told 164 = .ok (.getfield 239, 3) := by decide +kernel
theorem dX11_told_167 : decode cX11_told 167 = .ok (.ireturn, 1) := by decide +kernel
theorem dX11_told_168 : decode cX11_told 168 = .ok (.aload_n 0, 1) := by decide +kernel
theorem dX11_told_169 : decode cX11_told 169 = .ok (.getfield 297, 3) := by decide +kernel
theorem dX11_told_172 : decode cX11_told 172 = .ok (.ifCond .eq 7, 3) := by decide +kernel
theorem dX11_told_175 : decode cX11_told 175 = .ok (.iconst 1, 1) := by decide +kernel
theorem dX11_told_176 : decode cX11_told 176 = .ok (.goto 4, 3) := by decide +kernel
theorem dX11_told_179 : decode cX11_told 179 = .ok (.iconst 0, 1) := by decide +kernel
theorem dX11_told_180 : decode cX11_told 180 = .ok (.ireturn, 1) := by decide +kernel
theorem dX11_told_181 : decode cX11_told 181 = .ok (.aload_n 0, 1) := by decide +kernel
theorem dX11_told_182 : decode cX11_told 182 = .ok (.getfield 19, 3) := by decide +kernel
theorem dX11_told_185 : decode cX11_told 185 = .ok (.iconst 0, 1) := by decide +kernel
theorem dX11_told_186 : decode cX11_told 186 = .ok (.aaload, 1) := by decide +kernel
theorem dX11_told_187 : decode cX11_told 187 = .ok (.sipush 2001, 3) := by decide +kernel
theorem dX11_told_190 : decode cX11_told 190 = .ok (.iaload, 1) := by decide +kernel
theorem dX11_told_191 : decode cX11_told 191 = .ok (.ireturn, 1) := by decide +kernel
theorem dX11_told_192 : decode cX11_told 192 = .ok (.iload_n 1, 1) := by decide +kernel
theorem dX11_told_193 : decode cX11_told 193 = .ok (.bipush 14, 2) := by decide +kernel
theorem dX11_told_195 : decode cX11_told 195 = .ok (.if_icmp .ge 15, 3) := by decide +kernel
theorem dX11_told_198 : decode cX11_told 198 = .ok (.aload_n 0, 1) := by decide +kernel
theorem dX11_told_199 : decode cX11_told 199 = .ok (.getfield 37, 3) := by decide +kernel
theorem dX11_told_202 : decode cX11_told 202 = .ok (.iload_n 1, 1) := by decide +kernel
theorem dX11_told_203 : decode cX11_told 203 = .ok (.bipush 10, 2) := by decide +kernel
theorem dX11_told_205 : decode cX11_told 205 = .ok (.isub, 1) := by decide +kernel
theorem dX11_told_206 : decode cX11_told 206 = .ok (.iaload, 1) := by decide +kernel
theorem dX11_told_207 : decode cX11_told 207 = .ok (.goto 12, 3) := by decide +kernel
theorem dX11_told_210 : decode cX11_told 210 = .ok (.aload_n 0, 1) := by decide +kernel
theorem dX11_told_211 : decode cX11_told 211 = .ok (.getfield 37, 3) := by decide +kernel
theorem dX11_told_214 : decode cX11_told 214 = .ok (.iload_n 1, 1) := by decide +kernel
theorem dX11_told_215 : decode cX11_told 215 = .ok (.bipush 12, 2) := by decide +kernel
theorem dX11_told_217 : decode cX11_told 217 = .ok (.isub, 1) := by decide +kernel
theorem dX11_told_218 : decode cX11_told 218 = .ok (.iaload, 1) := by decide +kernel
theorem dX11_told_219 : decode cX11_told 219 = .ok (.ireturn, 1) := by decide +kernel
set_option maxHeartbeats 4000000 in
set_option maxRecDepth 100000 in
theorem tX11_told {l : Launch} {g : yG} {n : Nat} {σ : yM} (hn : 172 ≤ n) (w h : Int) (T S F P O : Int → Int → Int) (nf df nl : Int) (lg : Int → Int → Int) (s re fo ra tu we sh : Int) (H : List aX) (ht : Bool) (K : Int → Int → Int) (tl : Int) (tb : Int → Int) (fa r1 r2 N : Int) (hV : mV σ (w, h, (T, S, F, P, O, nf, df, nl, lg), (s, re, fo, ra, tu, we, sh), H, ht, K, tl, tb, fa, r1, r2)) (hW : aW N (w, h, (T, S, F, P, O, nf, df, nl, lg), (s, re, fo, ra, tu, we, sh), H, ht, K, tl, tb, fa, r1, r2)) (a : Int) (ha : -2147483648 ≤ a ∧ a < 2147483648) : yMet l g yX11_told cX11_told 2 (some .int) (rmL 6) [yR g 155, yI a] (SC g) n σ (SC g) (yPi (fun zv n' σ' => n ≤ n' ∧ (((0 ≤ a ∧ a ≤ 18) ∧ zv = tV w h T F nf df (H.length : Int) tl s re fo ra tu we sh ht a ∧ mO σ σ' (w, h, (T, S, F, P, O, nf, df, nl, lg), (s, re, fo, ra, tu, we, sh), H, ht, K, tl, tb, fa, r1, r2) 0) ∨ (¬ (0 ≤ a ∧ a ≤ 18) ∧ mO σ σ' (bA (w, h, (T, S, F, P, O, nf, df, nl, lg), (s, re, fo, ra, tu, we, sh), H, ht, K, tl, tb, fa, r1, r2)) 1)))) := by
  obtain ⟨⟨hA, hL⟩, hS, hH, ⟨hb1, hb2⟩, ⟨ht1, ht2⟩, hfa, hr1, hr2⟩ := id hV
  obtain ⟨hw1, hw2, hw3, hw4⟩ := id hA.1.1
  obtain ⟨hs1, hs2, hs3, hs4, hs5, hs6, hs7⟩ := id hS.2
  have hz : (0 : Nat) < 3 := by omega
  have zkc := sKn_cnt (T := T) (w := w) (h := h) (by omega) (by omega)
  refine y_start (by decide) (Nat.le_of_ble_eq_true rfl) (fun X0 hF => ?_)
  show yV X0 g 2 (yQ X0 g (SC g) (yPi (fun zv n' σ' => n ≤ n' ∧ (((0 ≤ a ∧ a ≤ 18) ∧ zv = tV w h T F nf df (H.length : Int) tl s re fo ra tu we sh ht a ∧ mO σ σ' (w, h, (T, S, F, P, O, nf, df, nl, lg), (s, re, fo, ra, tu, we, sh), H, ht, K, tl, tb, fa, r1, r2) 0) ∨ (¬ (0 ≤ a ∧ a ≤ 18) ∧ mO σ σ' (bA (w, h, (T, S, F, P, O, nf, df, nl, lg), (s, re, fo, ra, tu, we, sh), H, ht, K, tl, tb, fa, r1, r2)) 1)))) (rmL 6)) (SC g) n σ 0 0 0 [(0, yR g 155), (1, yI a)] []
  refine y_aload_n (pc := 0) hF dX11_told_0 0 rfl ?_
  refine y_iconst (pc := 1) hF dX11_told_1 ?_
  refine y_putf (pc := 2) (ci := 11) (σ' := yset σ 155 0 0) (sch' := (SC g)) hF dX11_told_2 (by omega) rfl rfl rfl iX11 0 (by decide) w_1247 tyX11 tyX11_ok nmX11 rfl rfl rfl rfl (Nat.le_of_ble_eq_true rfl) rfl (y_ps rfl) (fun k' h => ⟨yset_n h, rfl⟩) ?_
  obtain ⟨σ0, hσ0⟩ : ∃ s, s = yset σ 155 0 0 := ⟨_, rfl⟩
  rw [← hσ0]
  have zO_σ0 := hV.t0 hσ0
  obtain ⟨⟨zA_σ0, zL_σ0⟩, zS_σ0, zH_σ0, ⟨zb1_σ0, zb2_σ0⟩, ⟨zt1_σ0, zt2_σ0⟩, zfa_σ0, zr1_σ0, zr2_σ0⟩ := id zO_σ0.2.2
  refine y_aload_n (pc := 5) hF dX11_told_5 0 rfl ?_
  refine y_iload_n (pc := 6) hF dX11_told_6 1 rfl ?_
  refine y_iconst (pc := 7) hF dX11_told_7 ?_
  refine y_bipush (pc := 8) hF dX11_told_8 (by decide) ?_
  have zz10 := y_rS (pc := 10) (As := [yI a, yI 0, yI 18]) (kk := 0) hF (tX11_within (n := n) (σ := σ0) a 0 18 (by omega) (by omega) (by omega)) dX11_told_10 w_1392 qX11_within rfl ⟨Nat.le_of_ble_eq_true rfl, Nat.le_of_ble_eq_true rfl⟩ ⟨Nat.zero_le _, Nat.zero_le _⟩ (Nat.le_of_ble_eq_true rfl) rfl (rest := [yR g 155]) (cells := 0) (slots := 0) (lv := [(0, yR g 155), (1, yI a)])
  refine y_cp (zz10) ?_
  refine y_iconst (pc := 13) hF dX11_told_13 ?_
  refine y_iconst (pc := 14) hF dX11_told_14 ?_
  refine y_ci (y_rV (pc := 15) hF (tX11_isFine hn zO_σ0.2.1 (decide (0 ≤ a) && decide (a ≤ 18)) 1 1 (by decide) (by decide)) dX11_told_15 (by omega) rfl rfl rfl w_1395 qX11_isFine rfl ⟨Nat.le_of_ble_eq_true rfl, Nat.le_of_ble_eq_true rfl⟩ ⟨Nat.zero_le _, Nat.zero_le _⟩ (Nat.le_of_ble_eq_true rfl) rfl) rfl rfl (fun r15 n' σ15 zp15 => ?_)
  obtain ⟨zn15, zp15⟩ := zp15
  have zn15 := zn15.symm
  subst zn15
  rcases zp15 with ⟨zb15, zv15, zs15⟩ | ⟨zb15, zv15, zs15⟩
  · subst zv15; have zs15 := zs15.symm; subst zs15
    refine y_if_ne (pc := 18) hF dX11_told_18 23 rfl (by decide) (fun _ => ?_) (fun zc18 => absurd zc18 (by decide))
    simp at zb15
    refine y_iload_n (pc := 23) hF dX11_told_23 1 rfl ?_
    rcases Decidable.em (a = 0) with zw24_0 | zw24_0
    · refine y_tswI (pc := 24) hF dX11_told_24 (off := 80) 0 zw24_0 (by decide) rfl 104 rfl ?_
      refine y_aload_n (pc := 104) hF dX11_told_104 0 rfl ?_
      refine y_get (pc := 105) (ci := 11) hF dX11_told_105 (by omega) rfl rfl rfl iX11 3 (by decide) w_1250 rfl ?_
      refine y_iconst (pc := 108) hF dX11_told_108 ?_
      refine y_iaload (pc := 109) hF dX11_told_109 (by omega) rfl (by omega) (by decide) ?_
      rw [show σ0 161 0 = w from zA_σ0.2.1]
      exact y_iret (pc := 110) hF dX11_told_110 (Nat.zero_le _) (Nat.zero_le _) ⟨_, rfl, Nat.le_refl _, Or.inl ⟨(by omega), (by unfold tV; simp [zw24_0]), zO_σ0⟩⟩
    rcases Decidable.em (a = 1) with zw24_1 | zw24_1
    · refine y_tswI (pc := 24) hF dX11_told_24 (off := 87) 1 zw24_1 (by decide) rfl 111 rfl ?_
      refine y_aload_n (pc := 111) hF dX11_told_111 0 rfl ?_
      refine y_get (pc := 112) (ci := 11) hF dX11_told_112 (by omega) rfl rfl rfl iX11 4 (by decide) w_1251 rfl ?_
      refine y_iconst (pc := 115) hF dX11_told_115 ?_
      refine y_iaload (pc := 116) hF dX11_told_116 (by omega) rfl (by omega) (by decide) ?_
      rw [show σ0 162 0 = h from zA_σ0.2.2.1]
      exact y_iret (pc := 117) hF dX11_told_117 (Nat.zero_le _) (Nat.zero_le _) ⟨_, rfl, Nat.le_refl _, Or.inl ⟨(by omega), (by unfold tV; simp [zw24_1]), zO_σ0⟩⟩
    rcases Decidable.em (a = 2) with zw24_2 | zw24_2
    · refine y_tswI (pc := 24) hF dX11_told_24 (off := 94) 2 zw24_2 (by decide) rfl 118 rfl ?_
      refine y_aload_n (pc := 118) hF dX11_told_118 0 rfl ?_
      have zz119 := y_rV (pc := 119) hF (tX11_knownMany (n := n) (σ := σ0) w h T S F P O hn zA_σ0) dX11_told_119 (by omega) rfl rfl rfl w_1436 qX11_knownMany rfl ⟨Nat.le_of_ble_eq_true rfl, Nat.le_of_ble_eq_true rfl⟩ ⟨Nat.zero_le _, Nat.zero_le _⟩ (Nat.le_of_ble_eq_true rfl) rfl (rest := []) (cells := 0) (slots := 0) (lv := [(0, yR g 155), (1, yI a)])
      refine y_cp (zz119) ?_
      exact y_iret (pc := 122) hF dX11_told_122 (Nat.zero_le _) (Nat.zero_le _) ⟨_, rfl, Nat.le_refl _, Or.inl ⟨(by omega), (by unfold tV; simp [zw24_2]; omega), zO_σ0⟩⟩
    rcases Decidable.em (a = 3) with zw24_3 | zw24_3
    · refine y_tswI (pc := 24) hF dX11_told_24 (off := 99) 3 zw24_3 (by decide) rfl 123 rfl ?_
      refine y_aload_n (pc := 123) hF dX11_told_123 0 rfl ?_
      have zz124 := y_rV (pc := 124) hF (tX11_missingMany (n := n) (σ := σ0) w h T S F P O hn zA_σ0) dX11_told_124 (by omega) rfl rfl rfl w_1432 qX11_missingMany rfl ⟨Nat.le_of_ble_eq_true rfl, Nat.le_of_ble_eq_true rfl⟩ ⟨Nat.zero_le _, Nat.zero_le _⟩ (Nat.le_of_ble_eq_true rfl) rfl (rest := []) (cells := 0) (slots := 0) (lv := [(0, yR g 155), (1, yI a)])
      refine y_cp (zz124) ?_
      exact y_iret (pc := 127) hF dX11_told_127 (Nat.zero_le _) (Nat.zero_le _) ⟨_, rfl, Nat.le_refl _, Or.inl ⟨(by omega), (by unfold tV; simp [zw24_3]; omega), zO_σ0⟩⟩
    rcases Decidable.em (a = 4) with zw24_4 | zw24_4
    · refine y_tswI (pc := 24) hF dX11_told_24 (off := 104) 4 zw24_4 (by decide) rfl 128 rfl ?_
      refine y_aload_n (pc := 128) hF dX11_told_128 0 rfl ?_
      have zz129 := y_rV (pc := 129) hF (tX11_filledMany (n := n) (σ := σ0) w h T S F P O hn zA_σ0) dX11_told_129 (by omega) rfl rfl rfl w_1645 qX11_filledMany rfl ⟨Nat.le_of_ble_eq_true rfl, Nat.le_of_ble_eq_true rfl⟩ ⟨Nat.zero_le _, Nat.zero_le _⟩ (Nat.le_of_ble_eq_true rfl) rfl (rest := []) (cells := 0) (slots := 0) (lv := [(0, yR g 155), (1, yI a)])
      refine y_cp (zz129) ?_
      exact y_iret (pc := 132) hF dX11_told_132 (Nat.zero_le _) (Nat.zero_le _) ⟨_, rfl, Nat.le_refl _, Or.inl ⟨(by omega), (by unfold tV; simp [zw24_4]), zO_σ0⟩⟩
    rcases Decidable.em (a = 5) with zw24_5 | zw24_5
    · refine y_tswI (pc := 24) hF dX11_told_24 (off := 109) 5 zw24_5 (by decide) rfl 133 rfl ?_
      refine y_aload_n (pc := 133) hF dX11_told_133 0 rfl ?_
      have zz134 := y_rV (pc := 134) hF (tX11_frontMany (n := n) (σ := σ0) w h T S F P O hn zA_σ0) dX11_told_134 (by omega) rfl rfl rfl w_1649 qX11_frontMany rfl ⟨Nat.le_of_ble_eq_true rfl, Nat.le_of_ble_eq_true rfl⟩ ⟨Nat.zero_le _, Nat.zero_le _⟩ (Nat.le_of_ble_eq_true rfl) rfl (rest := []) (cells := 0) (slots := 0) (lv := [(0, yR g 155), (1, yI a)])
      refine y_cp (zz134) ?_
      exact y_iret (pc := 137) hF dX11_told_137 (Nat.zero_le _) (Nat.zero_le _) ⟨_, rfl, Nat.le_refl _, Or.inl ⟨(by omega), (by unfold tV; simp [zw24_5]), zO_σ0⟩⟩
    rcases Decidable.em (a = 6) with zw24_6 | zw24_6
    · refine y_tswI (pc := 24) hF dX11_told_24 (off := 114) 6 zw24_6 (by decide) rfl 138 rfl ?_
      refine y_aload_n (pc := 138) hF dX11_told_138 0 rfl ?_
      refine y_cv (y_rV (pc := 139) hF (tX11_parts w h T S F P O hn zA_σ0) dX11_told_139 (by omega) rfl rfl rfl w_1625 qX11_parts rfl ⟨Nat.le_of_ble_eq_true rfl, Nat.le_of_ble_eq_true rfl⟩ ⟨Nat.zero_le _, Nat.zero_le _⟩ (Nat.le_of_ble_eq_true rfl) rfl) rfl rfl (fun n' σ139 zp139 => ?_)
      obtain ⟨zn139, zp139⟩ := zp139
      have zn139 := zn139.symm
      subst zn139
      have zA_σ139 := zA_σ0.fQ (by omega) zp139.1
      have zO_σ139 := zO_σ0.fQ zp139.1
      refine y_aload_n (pc := 142) hF dX11_told_142 0 rfl ?_
      refine y_get (pc := 143) (ci := 11) hF dX11_told_143 (by omega) rfl rfl rfl iX11 40 (by decide) w_1287 rfl ?_
      rw [show σ139 155 40 = (sPt w h T).2 from zp139.2.1]
      exact y_iret (pc := 146) hF dX11_told_146 (Nat.zero_le _) (Nat.zero_le _) ⟨_, rfl, Nat.le_refl _, Or.inl ⟨(by omega), (by unfold tV; simp [zw24_6]), zO_σ139⟩⟩
    rcases Decidable.em (a = 7) with zw24_7 | zw24_7
    · refine y_tswI (pc := 24) hF dX11_told_24 (off := 123) 7 zw24_7 (by decide) rfl 147 rfl ?_
      refine y_aload_n (pc := 147) hF dX11_told_147 0 rfl ?_
      refine y_get (pc := 148) (ci := 11) hF dX11_told_148 (by omega) rfl rfl rfl iX11 2 (by decide) w_1249 rfl ?_
      refine y_iconst (pc := 151) hF dX11_told_151 ?_
      refine y_aaM0 (pc := 152) hF dX11_told_152 hn rfl ?_
      refine y_sipush (pc := 153) hF dX11_told_153 (by decide) ?_
      refine y_iaload (pc := 156) hF dX11_told_156 (by omega) rfl (by omega) (by decide) ?_
      rw [show σ0 158 2000 = nf from zL_σ0.1]
      exact y_iret (pc := 157) hF dX11_told_157 (Nat.zero_le _) (Nat.zero_le _) ⟨_, rfl, Nat.le_refl _, Or.inl ⟨(by omega), (by unfold tV; simp [zw24_7]), zO_σ0⟩⟩
    rcases Decidable.em (a = 8) with zw24_8 | zw24_8
    · refine y_tswI (pc := 24) hF dX11_told_24 (off := 134) 8 zw24_8 (by decide) rfl 158 rfl ?_
      refine y_aload_n (pc := 158) hF dX11_told_158 0 rfl ?_
      refine y_get (pc := 159) (ci := 11) hF dX11_told_159 (by omega) rfl rfl rfl iX11 8 (by decide) w_1255 rfl ?_
      rw [show σ0 155 8 = (H.length : Int) from zH_σ0.1]
      exact y_iret (pc := 162) hF dX11_told_162 (Nat.zero_le _) (Nat.zero_le _) ⟨_, rfl, Nat.le_refl _, Or.inl ⟨(by omega), (by unfold tV; simp [zw24_8]), zO_σ0⟩⟩
    rcases Decidable.em (a = 9) with zw24_9 | zw24_9
    · refine y_tswI (pc := 24) hF dX11_told_24 (off := 139) 9 zw24_9 (by decide) rfl 163 rfl ?_
      refine y_aload_n (pc := 163) hF dX11_told_163 0 rfl ?_
      refine y_get (pc := 164) (ci := 11) hF dX11_told_164 (by omega) rfl rfl rfl iX11 29 (by decide) w_1276 rfl ?_
      rw [show σ0 155 29 = tl from zt1_σ0]
      exact y_iret (pc := 167) hF dX11_told_167 (Nat.zero_le _) (Nat.zero_le _) ⟨_, rfl, Nat.le_refl _, Or.inl ⟨(by omega), (by unfold tV; simp [zw24_9]), zO_σ0⟩⟩
    rcases Decidable.em (a = 10) with zw24_10 | zw24_10
    · refine y_tswI (pc := 24) hF dX11_told_24 (off := 168) 10 zw24_10 (by decide) rfl 192 rfl ?_
      refine y_iload_n (pc := 192) hF dX11_told_192 1 rfl ?_
      refine y_bipush (pc := 193) hF dX11_told_193 (by decide) ?_
      refine y_icmp_ge (pc := 195) hF dX11_told_195 210 rfl (by omega) (by omega) (fun zc195 => ?_) (fun zc195 => ?_)
      · skip
        refine y_aload_n (pc := 210) hF dX11_told_210 0 rfl ?_
        refine y_get (pc := 211) (ci := 11) hF dX11_told_211 (by omega) rfl rfl rfl iX11 10 (by decide) w_1257 rfl ?_
        refine y_iload_n (pc := 214) hF dX11_told_214 1 rfl ?_
        refine y_bipush (pc := 215) hF dX11_told_215 (by decide) ?_
        refine y_isub (pc := 217) hF dX11_told_217 ?_
        refine y_iaload (pc := 218) hF dX11_told_218 (by omega) rfl ⟨by omega, by show _ < (7 : Int); omega⟩ (by decide) ?_
        exact y_iret (pc := 219) hF dX11_told_219 (Nat.zero_le _) (Nat.zero_le _) ⟨_, rfl, Nat.le_refl _, Or.inl ⟨(by omega), (by first | (exfalso; omega) | (subst zw24_10; exact zS_σ0.1.1)), zO_σ0⟩⟩
      · skip
        refine y_aload_n (pc := 198) hF dX11_told_198 0 rfl ?_
        refine y_get (pc := 199) (ci := 11) hF dX11_told_199 (by omega) rfl rfl rfl iX11 10 (by decide) w_1257 rfl ?_
        refine y_iload_n (pc := 202) hF dX11_told_202 1 rfl ?_
        refine y_bipush (pc := 203) hF dX11_told_203 (by decide) ?_
        refine y_isub (pc := 205) hF dX11_told_205 ?_
        refine y_iaload (pc := 206) hF dX11_told_206 (by omega) rfl ⟨by omega, by show _ < (7 : Int); omega⟩ (by decide) ?_
        refine y_goto (pc := 207) hF dX11_told_207 219 rfl ?_
        exact y_iret (pc := 219) hF dX11_told_219 (Nat.zero_le _) (Nat.zero_le _) ⟨_, rfl, Nat.le_refl _, Or.inl ⟨(by omega), (by first | (exfalso; omega) | (subst zw24_10; exact zS_σ0.1.1)), zO_σ0⟩⟩
    rcases Decidable.em (a = 11) with zw24_11 | zw24_11
    · refine y_tswI (pc := 24) hF dX11_told_24 (off := 168) 11 zw24_11 (by decide) rfl 192 rfl ?_
      refine y_iload_n (pc := 192) hF dX11_told_192 1 rfl ?_
      refine y_bipush (pc := 193) hF dX11_told_193 (by decide) ?_
      refine y_icmp_ge (pc := 195) hF dX11_told_195 210 rfl (by omega) (by omega) (fun zc195 => ?_) (fun zc195 => ?_)
      · skip
        refine y_aload_n (pc := 210) hF dX11_told_210 0 rfl ?_
        refine y_get (pc := 211) (ci := 11) hF dX11_told_211 (by omega) rfl rfl rfl iX11 10 (by decide) w_1257 rfl ?_
        refine y_iload_n (pc := 214) hF dX11_told_214 1 rfl ?_
        refine y_bipush (pc := 215) hF dX11_told_215 (by decide) ?_
        refine y_isub (pc := 217) hF dX11_told_217 ?_
        refine y_iaload (pc := 218) hF dX11_told_218 (by omega) rfl ⟨by omega, by show _ < (7 : Int); omega⟩ (by decide) ?_
        exact y_iret (pc := 219) hF dX11_told_219 (Nat.zero_le _) (Nat.zero_le _) ⟨_, rfl, Nat.le_refl _, Or.inl ⟨(by omega), (by first | (exfalso; omega) | (subst zw24_11; exact zS_σ0.1.2.1)), zO_σ0⟩⟩
      · skip
        refine y_aload_n (pc := 198) hF dX11_told_198 0 rfl ?_
        refine y_get (pc := 199) (ci := 11) hF dX11_told_199 (by omega) rfl rfl rfl iX11 10 (by decide) w_1257 rfl ?_
        refine y_iload_n (pc := 202) hF dX11_told_202 1 rfl ?_
        refine y_bipush (pc := 203) hF dX11_told_203 (by decide) ?_
        refine y_isub (pc := 205) hF dX11_told_205 ?_
        refine y_iaload (pc := 206) hF dX11_told_206 (by omega) rfl ⟨by omega, by show _ < (7 : Int); omega⟩ (by decide) ?_
        refine y_goto (pc := 207) hF dX11_told_207 219 rfl ?_
        exact y_iret (pc := 219) hF dX11_told_219 (Nat.zero_le _) (Nat.zero_le _) ⟨_, rfl, Nat.le_refl _, Or.inl ⟨(by omega), (by first | (exfalso; omega) | (subst zw24_11; exact zS_σ0.1.2.1)), zO_σ0⟩⟩
    rcases Decidable.em (a = 12) with zw24_12 | zw24_12
    · refine y_tswI (pc := 24) hF dX11_told_24 (off := 168) 12 zw24_12 (by decide) rfl 192 rfl ?_
      refine y_iload_n (pc := 192) hF dX11_told_192 1 rfl ?_
      refine y_bipush (pc := 193) hF dX11_told_193 (by decide) ?_
      refine y_icmp_ge (pc := 195) hF dX11_told_195 210 rfl (by omega) (by omega) (fun zc195 => ?_) (fun zc195 => ?_)
      · skip
        refine y_aload_n (pc := 210) hF dX11_told_210 0 rfl ?_
        refine y_get (pc := 211) (ci := 11) hF dX11_told_211 (by omega) rfl rfl rfl iX11 10 (by decide) w_1257 rfl ?_
        refine y_iload_n (pc := 214) hF dX11_told_214 1 rfl ?_
        refine y_bipush (pc := 215) hF dX11_told_215 (by decide) ?_
        refine y_isub (pc := 217) hF dX11_told_217 ?_
        refine y_iaload (pc := 218) hF dX11_told_218 (by omega) rfl ⟨by omega, by show _ < (7 : Int); omega⟩ (by decide) ?_
        exact y_iret (pc := 219) hF dX11_told_219 (Nat.zero_le _) (Nat.zero_le _) ⟨_, rfl, Nat.le_refl _, Or.inl ⟨(by omega), (by first | (exfalso; omega) | (subst zw24_12; exact zS_σ0.1.2.2.1)), zO_σ0⟩⟩
      · skip
        refine y_aload_n (pc := 198) hF dX11_told_198 0 rfl ?_
        refine y_get (pc := 199) (ci := 11) hF dX11_told_199 (by omega) rfl rfl rfl iX11 10 (by decide) w_1257 rfl ?_
        refine y_iload_n (pc := 202) hF dX11_told_202 1 rfl ?_
        refine y_bipush (pc := 203) hF dX11_told_203 (by decide) ?_
        refine y_isub (pc := 205) hF dX11_told_205 ?_
        refine y_iaload (pc := 206) hF dX11_told_206 (by omega) rfl ⟨by omega, by show _ < (7 : Int); omega⟩ (by decide) ?_
        refine y_goto (pc := 207) hF dX11_told_207 219 rfl ?_
        exact y_iret (pc := 219) hF dX11_told_219 (Nat.zero_le _) (Nat.zero_le _) ⟨_, rfl, Nat.le_refl _, Or.inl ⟨(by omega), (by first | (exfalso; omega) | (subst zw24_12; exact zS_σ0.1.2.2.1)), zO_σ0⟩⟩
    rcases Decidable.em (a = 13) with zw24_13 | zw24_13
    · refine y_tswI (pc := 24) hF dX11_told_24 (off := 168) 13 zw24_13 (by decide) rfl 192 rfl ?_
      refine y_iload_n (pc := 192) hF dX11_told_192 1 rfl ?_
      refine y_bipush (pc := 193) hF dX11_told_193 (by decide) ?_
      refine y_icmp_ge (pc := 195) hF dX11_told_195 210 rfl (by omega) (by omega) (fun zc195 => ?_) (fun zc195 => ?_)
      · skip
        refine y_aload_n (pc := 210) hF dX11_told_210 0 rfl ?_
        refine y_get (pc := 211) (ci := 11) hF dX11_told_211 (by omega) rfl rfl rfl iX11 10 (by decide) w_1257 rfl ?_
        refine y_iload_n (pc := 214) hF dX11_told_214 1 rfl ?_
        refine y_bipush (pc := 215) hF dX11_told_215 (by decide) ?_
        refine y_isub (pc := 217) hF dX11_told_217 ?_
        refine y_iaload (pc := 218) hF dX11_told_218 (by omega) rfl ⟨by omega, by show _ < (7 : Int); omega⟩ (by decide) ?_
        exact y_iret (pc := 219) hF dX11_told_219 (Nat.zero_le _) (Nat.zero_le _) ⟨_, rfl, Nat.le_refl _, Or.inl ⟨(by omega), (by first | (exfalso; omega) | (subst zw24_13; exact zS_σ0.1.2.2.2.1)), zO_σ0⟩⟩
      · skip
        refine y_aload_n (pc := 198) hF dX11_told_198 0 rfl ?_
        refine y_get (pc := 199) (ci := 11) hF dX11_told_199 (by omega) rfl rfl rfl iX11 10 (by decide) w_1257 rfl ?_
        refine y_iload_n (pc := 202) hF dX11_told_202 1 rfl ?_
        refine y_bipush (pc := 203) hF dX11_told_203 (by decide) ?_
        refine y_isub (pc := 205) hF dX11_told_205 ?_
        refine y_iaload (pc := 206) hF dX11_told_206 (by omega) rfl ⟨by omega, by show _ < (7 : Int); omega⟩ (by decide) ?_
        refine y_goto (pc := 207) hF dX11_told_207 219 rfl ?_
        exact y_iret (pc := 219) hF dX11_told_219 (Nat.zero_le _) (Nat.zero_le _) ⟨_, rfl, Nat.le_refl _, Or.inl ⟨(by omega), (by first | (exfalso; omega) | (subst zw24_13; exact zS_σ0.1.2.2.2.1)), zO_σ0⟩⟩
    rcases Decidable.em (a = 14) with zw24_14 | zw24_14
    · refine y_tswI (pc := 24) hF dX11_told_24 (off := 144) 14 zw24_14 (by decide) rfl 168 rfl ?_
      refine y_aload_n (pc := 168) hF dX11_told_168 0 rfl ?_
      refine y_get (pc := 169) (ci := 11) hF dX11_told_169 (by omega) rfl rfl rfl iX11 9 (by decide) w_1256 rfl ?_
      rw [show σ0 155 9 = bi ht from zb1_σ0]
      refine y_if_eq (pc := 172) hF dX11_told_172 179 rfl bi_r (fun zc172 => ?_) (fun zc172 => ?_)
      · replace zc172 := bi_0.mp zc172
        refine y_iconst (pc := 179) hF dX11_told_179 ?_
        exact y_iret (pc := 180) hF dX11_told_180 (Nat.zero_le _) (Nat.zero_le _) ⟨_, rfl, Nat.le_refl _, Or.inl ⟨(by omega), (by subst zw24_14; show _ = bi ht; rw [zc172]; rfl), zO_σ0⟩⟩
      · replace zc172 := bi_n0.mp zc172
        refine y_iconst (pc := 175) hF dX11_told_175 ?_
        refine y_goto (pc := 176) hF dX11_told_176 180 rfl ?_
        exact y_iret (pc := 180) hF dX11_told_180 (Nat.zero_le _) (Nat.zero_le _) ⟨_, rfl, Nat.le_refl _, Or.inl ⟨(by omega), (by subst zw24_14; show _ = bi ht; rw [zc172]; rfl), zO_σ0⟩⟩
    rcases Decidable.em (a = 15) with zw24_15 | zw24_15
    · refine y_tswI (pc := 24) hF dX11_told_24 (off := 157) 15 zw24_15 (by decide) rfl 181 rfl ?_
      refine y_aload_n (pc := 181) hF dX11_told_181 0 rfl ?_
      refine y_get (pc := 182) (ci := 11) hF dX11_told_182 (by omega) rfl rfl rfl iX11 2 (by decide) w_1249 rfl ?_
      refine y_iconst (pc := 185) hF dX11_told_185 ?_
      refine y_aaM0 (pc := 186) hF dX11_told_186 hn rfl ?_
      refine y_sipush (pc := 187) hF dX11_told_187 (by decide) ?_
      refine y_iaload (pc := 190) hF dX11_told_190 (by omega) rfl (by omega) (by decide) ?_
      rw [show σ0 158 2001 = df from zL_σ0.2.1]
      exact y_iret (pc := 191) hF dX11_told_191 (Nat.zero_le _) (Nat.zero_le _) ⟨_, rfl, Nat.le_refl _, Or.inl ⟨(by omega), (by unfold tV; simp [zw24_15]), zO_σ0⟩⟩
    refine y_tswO (pc := 24) hF dX11_told_24 (by omega) (by omega) 192 rfl ?_
    refine y_iload_n (pc := 192) hF dX11_told_192 1 rfl ?_
    refine y_bipush (pc := 193) hF dX11_told_193 (by decide) ?_
    refine y_icmp_ge (pc := 195) hF dX11_told_195 210 rfl (by omega) (by omega) (fun zc195 => ?_) (fun zc195 => ?_)
    · skip
      refine y_aload_n (pc := 210) hF dX11_told_210 0 rfl ?_
      refine y_get (pc := 211) (ci := 11) hF dX11_told_211 (by omega) rfl rfl rfl iX11 10 (by decide) w_1257 rfl ?_
      refine y_iload_n (pc := 214) hF dX11_told_214 1 rfl ?_
      refine y_bipush (pc := 215) hF dX11_told_215 (by decide) ?_
      refine y_isub (pc := 217) hF dX11_told_217 ?_
      refine y_iaload (pc := 218) hF dX11_told_218 (by omega) rfl ⟨by omega, by show _ < (7 : Int); omega⟩ (by decide) ?_
      exact y_iret (pc := 219) hF dX11_told_219 (Nat.zero_le _) (Nat.zero_le _) ⟨_, rfl, Nat.le_refl _, Or.inl ⟨(by omega), (by first | (exfalso; omega) | (rcases (show a = 16 ∨ a = 17 ∨ a = 18 by omega) with zq | zq | zq <;> subst zq; (exact zS_σ0.1.2.2.2.2.1); (exact zS_σ0.1.2.2.2.2.2.1); (exact zS_σ0.1.2.2.2.2.2.2))), zO_σ0⟩⟩
    · skip
      refine y_aload_n (pc := 198) hF dX11_told_198 0 rfl ?_
      refine y_get (pc := 199) (ci := 11) hF dX11_told_199 (by omega) rfl rfl rfl iX11 10 (by decide) w_1257 rfl ?_
      refine y_iload_n (pc := 202) hF dX11_told_202 1 rfl ?_
      refine y_bipush (pc := 203) hF dX11_told_203 (by decide) ?_
      refine y_isub (pc := 205) hF dX11_told_205 ?_
      refine y_iaload (pc := 206) hF dX11_told_206 (by omega) rfl ⟨by omega, by show _ < (7 : Int); omega⟩ (by decide) ?_
      refine y_goto (pc := 207) hF dX11_told_207 219 rfl ?_
      exact y_iret (pc := 219) hF dX11_told_219 (Nat.zero_le _) (Nat.zero_le _) ⟨_, rfl, Nat.le_refl _, Or.inl ⟨(by omega), (by first | (exfalso; omega) | (rcases (show a = 16 ∨ a = 17 ∨ a = 18 by omega) with zq | zq | zq <;> subst zq; (exact zS_σ0.1.2.2.2.2.1); (exact zS_σ0.1.2.2.2.2.2.1); (exact zS_σ0.1.2.2.2.2.2.2))), zO_σ0⟩⟩
  · subst zv15; subst zs15
    refine y_if_ne (pc := 18) hF dX11_told_18 23 rfl (by decide) (fun zc18 => absurd zc18 (by decide)) (fun _ => ?_)
    refine y_iconst (pc := 21) hF dX11_told_21 ?_
    exact y_iret (pc := 22) hF dX11_told_22 (Nat.zero_le _) (Nat.zero_le _) ⟨_, rfl, Nat.le_refl _, Or.inr ⟨(fun ze => by simp at zb15; omega), zO_σ0.bA 1⟩⟩

theorem dX11_dot_0 : decode cX11_dot 0 = .ok (.aload_n 0, 1) := by decide +kernel
theorem dX11_dot_1 : decode cX11_dot 1 = .ok (.iconst 0, 1) := by decide +kernel
theorem dX11_dot_2 : decode cX11_dot 2 = .ok (.putfield 1, 3) := by decide +kernel
theorem dX11_dot_5 : decode cX11_dot 5 = .ok (.aload_n 0, 1) := by decide +kernel
theorem dX11_dot_6 : decode cX11_dot 6 = .ok (.iload_n 1, 1) := by decide +kernel
theorem dX11_dot_7 : decode cX11_dot 7 = .ok (.iload_n 2, 1) := by decide +kernel
theorem dX11_dot_8 : decode cX11_dot 8 = .ok (.invokevirtual 307, 3) := by decide +kernel
theorem dX11_dot_11 : decode cX11_dot 11 = .ok (.ifCond .eq 19, 3) := by decide +kernel
theorem dX11_dot_14 : decode cX11_dot 14 = .ok (.aload_n 0, 1) := by decide +kernel
theorem dX11_dot_15 : decode cX11_dot 15 = .ok (.iload_n 3, 1) := by decide +kernel
theorem dX11_dot_16 : decode cX11_dot 16 = .ok (.iconst 0, 1) := by decide +kernel
theorem dX11_dot_17 : decode cX11_dot 17 = .ok (.bipush 9, 2) := by decide +kernel
theorem dX11_dot_19 : decode cX11_dot 19 = .ok (.invokestatic 68, 3) := by decide +kernel
theorem dX11_dot_22 : decode cX11_dot 22 = .ok (.iconst 2, 1) := by decide +kernel
theorem dX11_dot_23 : decode cX11_dot 23 = .ok (.iconst 1, 1) := by decide +kernel
theorem dX11_dot_24 : decode cX11_dot 24 = .ok (.invokevirtual 284, 3) := by decide +kernel
theorem dX11_dot_27 : decode cX11_dot 27 = .ok (.ifCond .ne 5, 3) := by decide +kernel
theorem dX11_dot_30 : decode cX11_dot 30 = .ok (.iconst 0, 1) := by decide +kernel
theorem dX11_dot_31 : decode cX11_dot 31 = .ok (.ireturn, 1) := by decide +kernel
theorem dX11_dot_32 : decode cX11_dot 32 = .ok (.iload_n 1, 1) := by decide +kernel
theorem dX11_dot_33 : decode cX11_dot 33 = .ok (.iload_n 2, 1) := by decide +kernel
theorem dX11_dot_34 : decode cX11_dot 34 = .ok (.invokestatic 56, 3) := by decide +kernel
theorem dX11_dot_37 : decode cX11_dot 37 = .ok (.istore 4, 2) := by decide +kernel
theorem dX11_dot_39 : decode cX11_dot 39 = .ok (.iload_n 3, 1) := by decide +kernel
theorem dX11_dot_40 : decode cX11_dot 40 = .ok (.tableswitch 190 0 8 #[52, 64, 78, 94, 111, 128, 145, 162, 174], 52) := by decide +kernel
theorem dX11_dot_92 : decode cX11_dot 92 = .ok (.aload_n 0, 1) := by decide +kernel
theorem dX11_dot_93 : decode cX11_dot 93 = .ok (.getfield 19, 3) := by decide +kernel
theorem dX11_dot_96 : decode cX11_dot 96 = .ok (.iconst 0, 1) := by decide +kernel
theorem dX11_dot_97 : decode cX11_dot 97 = .ok (.aaload, 1) := by decide +kernel
theorem dX11_dot_98 : decode cX11_dot 98 = .ok (.iconst 0, 1) := by decide +kernel
theorem dX11_dot_99 : decode cX11_dot 99 = .ok (.iload 4, 2) := by decide +kernel
theorem dX11_dot_101 : decode cX11_dot 101 = .ok (.iadd, 1) := by decide +kernel
theorem dX11_dot_102 : decode cX11_dot 102 = .ok (.iaload, 1) := by decide +kernel
theorem dX11_dot_103 : decode cX11_dot 103 = .ok (.ireturn, 1) := by decide +kernel
theorem dX11_dot_104 : decode cX11_dot 104 = .ok (.aload_n 0, 1) := by decide +kernel
theorem dX11_dot_105 : decode cX11_dot 105 = .ok (.getfield 19, 3) := by decide +kernel
theorem dX11_dot_108 : decode cX11_dot 108 = .ok (.iconst 0, 1) := by decide +kernel
theorem dX11_dot_109 : decode cX11_dot 109 = .ok (.aaload, 1) := by decide +kernel
theorem dX11_dot_110 : decode cX11_dot 110 = .ok (.sipush 400, 3) := by decide +kernel
theorem dX11_dot_113 : decode cX11_dot 113 = .ok (.iload 4, 2) := by decide +kernel
theorem dX11_dot_115 : decode cX11_dot 115 = .ok (.iadd, 1) := by decide +kernel
theorem dX11_dot_116 : decode cX11_dot 116 = .ok (.iaload, 1) := by decide +kernel
theorem dX11_dot_117 : decode cX11_dot 117 = .ok (.ireturn, 1) := by decide +kernel
theorem dX11_dot_118 : decode cX11_dot 118 = .ok (.aload_n 0, 1) := by decide +kernel
theorem dX11_dot_119 : decode cX11_dot 119 = .ok (.iconst 0, 1) := by decide +kernel
theorem dX11_dot_120 : decode cX11_dot 120 = .ok (.iload_n 1, 1) := by decide +kernel
theorem dX11_dot_121 : decode cX11_dot 121 = .ok (.iload_n 2, 1) := by decide +kernel
theorem dX11_dot_122 : decode cX11_dot 122 = .ok (.invokevirtual 127, 3) := by decide +kernel
theorem dX11_dot_125 : decode cX11_dot 125 = .ok (.ifCond .eq 7, 3) := by decide +kernel
theorem dX11_dot_128 : decode cX11_dot 128 = .ok (.iconst 1, 1) := by decide +kernel
theorem dX11_dot_129 : decode cX11_dot 129 = .ok (.goto 4, 3) := by decide +kernel
theorem dX11_dot_132 : decode cX11_dot 132 = .ok (.iconst 0, 1) := by decide +kernel
theorem dX11_dot_133 : decode cX11_dot 133 = .ok (.ireturn, 1) := by decide +kernel
theorem dX11_dot_134 : decode cX11_dot 134 = .ok (.aload_n 0, 1) := by decide +kernel
theorem dX11_dot_135 : decode cX11_dot 135 = .ok (.getfield 19, 3) := by decide +kernel
theorem dX11_dot_138 : decode cX11_dot 138 = .ok (.iconst 0, 1) := by decide +kernel
theorem dX11_dot_139 : decode cX11_dot 139 = .ok (.aaload, 1) := by decide +kernel
theorem dX11_dot_140 : decode cX11_dot 140 = .ok (.sipush 1200, 3) := by decide +kernel
theorem dX11_dot_143 : decode cX11_dot 143 = .ok (.iload 4, 2) := by decide +kernel
theorem dX11_dot_145 : decode cX11_dot 145 = .ok (.iadd, 1) := by decide +kernel
theorem dX11_dot_146 : decode cX11_dot 146 = .ok (.iaload, 1) := by decide +kernel
theorem dX11_dot_147 : decode cX11_dot 147 = .ok (.invokestatic 344, 3) := by decide +kernel
theorem dX11_dot_150 : decode cX11_dot 150 = .ok (.ireturn, 1) := by decide +kernel
theorem dX11_dot_151 : decode cX11_dot 151 = .ok (.aload_n 0, 1) := by decide +kernel
theorem dX11_dot_152 : decode cX11_dot 152 = .ok (.getfield 19, 3) := by decide +kernel
theorem dX11_dot_155 : decode cX11_dot 155 = .ok (.iconst 0, 1) := by decide +kernel
theorem dX11_dot_156 : decode cX11_dot 156 = .ok (.aaload, 1) := by decide +kernel
theorem dX11_dot_157 : decode cX11_dot 157 = .ok (.sipush 1200, 3) := by decide +kernel
theorem dX11_dot_160 : decode cX11_dot 160 = .ok (.iload 4, 2) := by decide +kernel
theorem dX11_dot_162 : decode cX11_dot 162 = .ok (.iadd, 1) := by decide +kernel
theorem dX11_dot_163 : decode cX11_dot 163 = .ok (.iaload, 1) := by decide +kernel
theorem dX11_dot_164 : decode cX11_dot 164 = .ok (.invokestatic 347, 3) := by decide +kernel
theorem dX11_dot_167 : decode cX11_dot 167 = .ok (.ireturn, 1) := by decide +kernel
theorem dX11_dot_168 : decode cX11_dot 168 = .ok (.aload_n 0, 1) := by decide +kernel
theorem dX11_dot_169 : decode cX11_dot 169 = .ok (.getfield 19, 3) := by decide +kernel
theorem dX11_dot_172 : decode cX11_dot 172 = .ok (.iconst 0, 1) := by decide +kernel
theorem dX11_dot_173 : decode cX11_dot 173 = .ok (.aaload, 1) := by decide +kernel
theorem dX11_dot_174 : decode cX11_dot 174 = .ok (.sipush 1600, 3) := by decide +kernel
theorem dX11_dot_177 : decode cX11_dot 177 = .ok (.iload 4, 2) := by decide +kernel
theorem dX11_dot_179 : decode cX11_dot 179 = .ok (.iadd, 1) := by decide +kernel
theorem dX11_dot_180 : decode cX11_dot 180 = .ok (.iaload, 1) := by decide +kernel
theorem dX11_dot_181 : decode cX11_dot 181 = .ok (.invokestatic 344, 3) := by decide +kernel
theorem dX11_dot_184 : decode cX11_dot 184 = .ok (.ireturn, 1) := by decide +kernel
theorem dX11_dot_185 : decode cX11_dot 185 = .ok (.aload_n 0, 1) := by decide +kernel
theorem dX11_dot_186 : decode cX11_dot 186 = .ok (.getfield 19, 3) := by decide +kernel
theorem dX11_dot_189 : decode cX11_dot 189 = .ok (.iconst 0, 1) := by decide +kernel
theorem dX11_dot_190 : decode cX11_dot 190 = .ok (.aaload, 1) := by decide +kernel
theorem dX11_dot_191 : decode cX11_dot 191 = .ok (.sipush 1600, 3) := by decide +kernel
theorem dX11_dot_194 : decode cX11_dot 194 = .ok (.iload 4, 2) := by decide +kernel
theorem dX11_dot_196 : decode cX11_dot 196 = .ok (.iadd, 1) := by decide +kernel
theorem dX11_dot_197 : decode cX11_dot 197 = .ok (.iaload, 1) := by decide +kernel
theorem dX11_dot_198 : decode cX11_dot 198 = .ok (.invokestatic 347, 3) := by decide +kernel
theorem dX11_dot_201 : decode cX11_dot 201 = .ok (.ireturn, 1) := by decide +kernel
theorem dX11_dot_202 : decode cX11_dot 202 = .ok (.aload_n 0, 1) := by decide +kernel
theorem dX11_dot_203 : decode cX11_dot 203 = .ok (.invokevirtual 329, 3) := by decide +kernel
theorem dX11_dot_206 : decode cX11_dot 206 = .ok (.aload_n 0, 1) := by decide +kernel
theorem dX11_dot_207 : decode cX11_dot 207 = .ok (.getfield 50, 3) := by decide +kernel
theorem dX11_dot_210 : decode cX11_dot 210 = .ok (.iload 4, 2) := by decide +kernel
theorem dX11_dot_212 : decode cX11_dot 212 = .ok (.iaload, 1) := by decide +kernel
theorem dX11_dot_213 : decode cX11_dot 213 = .ok (.ireturn, 1) := by decide +kernel
theorem dX11_dot_214 : decode cX11_dot 214 = .ok (.aload_n 0, 1) := by decide +kernel
theorem dX11_dot_215 : decode cX11_dot 215 = .ok (.iconst 0, 1) := by decide +kernel
theorem dX11_dot_216 : decode cX11_dot 216 = .ok (.iload_n 1, 1) := by decide +kernel
theorem dX11_dot_217 : decode cX11_dot 217 = .ok (.iload_n 2, 1) := by decide +kernel
theorem dX11_dot_218 : decode cX11_dot 218 = .ok (.invokevirtual 121, 3) := by decide +kernel
theorem dX11_dot_221 : decode cX11_dot 221 = .ok (.ifCond .eq 7, 3) := by decide +kernel
theorem dX11_dot_224 : decode cX11_dot 224 = .ok (.iconst 1, 1) := by decide +kernel
theorem dX11_dot_225 : decode cX11_dot 225 = .ok (.goto 4, 3) := by decide +kernel
theorem dX11_dot_228 : decode cX11_dot 228 = .ok (.iconst 0, 1) := by decide +kernel
theorem dX11_dot_229 : decode cX11_dot 229 = .ok (.ireturn, 1) := by decide +kernel
theorem dX11_dot_230 : decode cX11_dot 230 = .ok (.aload_n 0, 1) := by decide +kernel
theorem dX11_dot_231 : decode cX11_dot 231 = .ok (.getfield 19, 3) := by decide +kernel
theorem dX11_dot_234 : decode cX11_dot 234 = .ok (.iconst 0, 1) := by decide +kernel
theorem dX11_dot_235 : decode cX11_dot 235 = .ok (.aaload, 1) := by decide +kernel
theorem dX11_dot_236 : decode cX11_dot 236 = .ok (.sipush 800, 3) := by decide +kernel
theorem dX11_dot_239 : decode cX11_dot 239 = .ok (.iload 4, 2) := by decide +kernel
theorem dX11_dot_241 : decode cX11_dot 241 = .ok (.iadd, 1) := by decide +kernel
theorem dX11_dot_242 : decode cX11_dot 242 = .ok (.iaload, 1) := by decide +kernel
theorem dX11_dot_243 : decode cX11_dot 243 = .ok (.ireturn, 1) := by decide +kernel
set_option maxHeartbeats 4000000 in
set_option maxRecDepth 100000 in
theorem tX11_dot {l : Launch} {g : yG} {n : Nat} {σ : yM} (hn : 172 ≤ n) (w h : Int) (T S F P O : Int → Int → Int) (nf df nl : Int) (lg : Int → Int → Int) (s re fo ra tu we sh : Int) (H : List aX) (ht : Bool) (K : Int → Int → Int) (tl : Int) (tb : Int → Int) (fa r1 r2 N : Int) (hV : mV σ (w, h, (T, S, F, P, O, nf, df, nl, lg), (s, re, fo, ra, tu, we, sh), H, ht, K, tl, tb, fa, r1, r2)) (hW : aW N (w, h, (T, S, F, P, O, nf, df, nl, lg), (s, re, fo, ra, tu, we, sh), H, ht, K, tl, tb, fa, r1, r2)) (x y a : Int) (hx : -2147483648 ≤ x ∧ x < 2147483648) (hy : -2147483648 ≤ y ∧ y < 2147483648) (ha : -2147483648 ≤ a ∧ a < 2147483648) : yMet l g yX11_dot cX11_dot 5 (some .int) (rmL 6) [yR g 155, yI x, yI y, yI a] (SC g) n σ (SC g) (yPi (fun zv n' σ' => n ≤ n' ∧ (((sIn w h x y = true) ∧ (0 ≤ a ∧ a ≤ 9) ∧ zv = dV w h T S F P O x y a ∧ mO σ σ' (w, h, (T, S, F, P, O, nf, df, nl, lg), (s, re, fo, ra, tu, we, sh), H, ht, K, tl, tb, fa, r1, r2) 0) ∨ (¬ (sIn w h x y = true) ∧ mO σ σ' (bN (w, h, (T, S, F, P, O, nf, df, nl, lg), (s, re, fo, ra, tu, we, sh), H, ht, K, tl, tb, fa, r1, r2)) 1) ∨ ((sIn w h x y = true) ∧ ¬ (0 ≤ a ∧ a ≤ 9) ∧ mO σ σ' (bA (w, h, (T, S, F, P, O, nf, df, nl, lg), (s, re, fo, ra, tu, we, sh), H, ht, K, tl, tb, fa, r1, r2)) 2)))) := by
  obtain ⟨⟨hA, hL⟩, hS, hH, ⟨hb1, hb2⟩, ⟨ht1, ht2⟩, hfa, hr1, hr2⟩ := id hV
  obtain ⟨hw1, hw2, hw3, hw4⟩ := id hA.1.1
  obtain ⟨hs1, hs2, hs3, hs4, hs5, hs6, hs7⟩ := id hS.2
  have hz : (0 : Nat) < 3 := by omega
  refine y_start (by decide) (Nat.le_of_ble_eq_true rfl) (fun X0 hF => ?_)
  show yV X0 g 5 (yQ X0 g (SC g) (yPi (fun zv n' σ' => n ≤ n' ∧ (((sIn w h x y = true) ∧ (0 ≤ a ∧ a ≤ 9) ∧ zv = dV w h T S F P O x y a ∧ mO σ σ' (w, h, (T, S, F, P, O, nf, df, nl, lg), (s, re, fo, ra, tu, we, sh), H, ht, K, tl, tb, fa, r1, r2) 0) ∨ (¬ (sIn w h x y = true) ∧ mO σ σ' (bN (w, h, (T, S, F, P, O, nf, df, nl, lg), (s, re, fo, ra, tu, we, sh), H, ht, K, tl, tb, fa, r1, r2)) 1) ∨ ((sIn w h x y = true) ∧ ¬ (0 ≤ a ∧ a ≤ 9) ∧ mO σ σ' (bA (w, h, (T, S, F, P, O, nf, df, nl, lg), (s, re, fo, ra, tu, we, sh), H, ht, K, tl, tb, fa, r1, r2)) 2)))) (rmL 6)) (SC g) n σ 0 0 0 [(0, yR g 155), (1, yI x), (2, yI y), (3, yI a)] []
  refine y_aload_n (pc := 0) hF dX11_dot_0 0 rfl ?_
  refine y_iconst (pc := 1) hF dX11_dot_1 ?_
  refine y_putf (pc := 2) (ci := 11) (σ' := yset σ 155 0 0) (sch' := (SC g)) hF dX11_dot_2 (by omega) rfl rfl rfl iX11 0 (by decide) w_1247 tyX11 tyX11_ok nmX11 rfl rfl rfl rfl (Nat.le_of_ble_eq_true rfl) rfl (y_ps rfl) (fun k' h => ⟨yset_n h, rfl⟩) ?_
  obtain ⟨σ0, hσ0⟩ : ∃ s, s = yset σ 155 0 0 := ⟨_, rfl⟩
  rw [← hσ0]
  have zO_σ0 := hV.t0 hσ0
  obtain ⟨⟨zA_σ0, zL_σ0⟩, zS_σ0, zH_σ0, ⟨zb1_σ0, zb2_σ0⟩, ⟨zt1_σ0, zt2_σ0⟩, zfa_σ0, zr1_σ0, zr2_σ0⟩ := id zO_σ0.2.2
  refine y_aload_n (pc := 5) hF dX11_dot_5 0 rfl ?_
  refine y_iload_n (pc := 6) hF dX11_dot_6 1 rfl ?_
  refine y_iload_n (pc := 7) hF dX11_dot_7 2 rfl ?_
  refine y_ci (y_rV (pc := 8) hF (tX11_isThere w h T S F P O hn zA_σ0 zO_σ0.2.1 x y hx hy) dX11_dot_8 (by omega) rfl rfl rfl w_1468 qX11_isThere rfl ⟨Nat.le_of_ble_eq_true rfl, Nat.le_of_ble_eq_true rfl⟩ ⟨Nat.zero_le _, Nat.zero_le _⟩ (Nat.le_of_ble_eq_true rfl) rfl) rfl rfl (fun r8 n' σ8 zp8 => ?_)
  obtain ⟨zn8, zp8⟩ := zp8
  have zn8 := zn8.symm
  subst zn8
  rcases zp8 with ⟨zb8, zv8, zs8⟩ | ⟨zb8, zv8, zs8⟩
  · subst zv8; have zs8 := zs8.symm; subst zs8
    refine y_if_eq (pc := 11) hF dX11_dot_11 30 rfl (by decide) (fun zc11 => absurd zc11 (by decide)) (fun _ => ?_)
    refine y_aload_n (pc := 14) hF dX11_dot_14 0 rfl ?_
    refine y_iload_n (pc := 15) hF dX11_dot_15 3 rfl ?_
    refine y_iconst (pc := 16) hF dX11_dot_16 ?_
    refine y_bipush (pc := 17) hF dX11_dot_17 (by decide) ?_
    have zz19 := y_rS (pc := 19) (As := [yI a, yI 0, yI 9]) (kk := 0) hF (tX11_within (n := n) (σ := σ0) a 0 9 (by omega) (by omega) (by omega)) dX11_dot_19 w_1392 qX11_within rfl ⟨Nat.le_of_ble_eq_true rfl, Nat.le_of_ble_eq_true rfl⟩ ⟨Nat.zero_le _, Nat.zero_le _⟩ (Nat.le_of_ble_eq_true rfl) rfl (rest := [yR g 155]) (cells := 0) (slots := 0) (lv := [(0, yR g 155), (1, yI x), (2, yI y), (3, yI a)])
    refine y_cp (zz19) ?_
    refine y_iconst (pc := 22) hF dX11_dot_22 ?_
    refine y_iconst (pc := 23) hF dX11_dot_23 ?_
    refine y_ci (y_rV (pc := 24) hF (tX11_isFine hn zO_σ0.2.1 (decide (0 ≤ a) && decide (a ≤ 9)) 2 1 (by decide) (by decide)) dX11_dot_24 (by omega) rfl rfl rfl w_1395 qX11_isFine rfl ⟨Nat.le_of_ble_eq_true rfl, Nat.le_of_ble_eq_true rfl⟩ ⟨Nat.zero_le _, Nat.zero_le _⟩ (Nat.le_of_ble_eq_true rfl) rfl) rfl rfl (fun r24 n' σ24 zp24 => ?_)
    obtain ⟨zn24, zp24⟩ := zp24
    have zn24 := zn24.symm
    subst zn24
    rcases zp24 with ⟨zb24, zv24, zs24⟩ | ⟨zb24, zv24, zs24⟩
    · subst zv24; have zs24 := zs24.symm; subst zs24
      refine y_if_ne (pc := 27) hF dX11_dot_27 32 rfl (by decide) (fun _ => ?_) (fun zc27 => absurd zc27 (by decide))
      simp at zb24
      have zi := sIn_iff.mp zb8
      have zm := zA_σ0.2.2.2 x y zi.1 zi.2.1 zi.2.2.1 zi.2.2.2
      have zt := zA_σ0.1.2 x y zi.1 zi.2.1 zi.2.2.1 zi.2.2.2
      have zix : 0 ≤ 20 * y + x ∧ 20 * y + x < 400 := by omega
      refine y_iload_n (pc := 32) hF dX11_dot_32 1 rfl ?_
      refine y_iload_n (pc := 33) hF dX11_dot_33 2 rfl ?_
      have zz34 := y_rS (pc := 34) (As := [yI x, yI y]) (kk := 0) hF (tX11_at (n := n) (σ := σ0) x y) dX11_dot_34 w_1236 qX11_at rfl ⟨Nat.le_of_ble_eq_true rfl, Nat.le_of_ble_eq_true rfl⟩ ⟨Nat.zero_le _, Nat.zero_le _⟩ (Nat.le_of_ble_eq_true rfl) rfl (rest := []) (cells := 0) (slots := 0) (lv := [(0, yR g 155), (1, yI x), (2, yI y), (3, yI a)])
      refine y_cp (zz34) ?_
      refine y_istore (pc := 37) (lv' := [(0, yR g 155), (1, yI x), (2, yI y), (3, yI a), (4, yI (20 * y + x))]) hF dX11_dot_37 (by decide) rfl rfl ?_
      refine y_iload_n (pc := 39) hF dX11_dot_39 3 rfl ?_
      rcases Decidable.em (a = 0) with zw40_0 | zw40_0
      · refine y_tswI (pc := 40) hF dX11_dot_40 (off := 52) 0 zw40_0 (by decide) rfl 92 rfl ?_
        refine y_aload_n (pc := 92) hF dX11_dot_92 0 rfl ?_
        refine y_get (pc := 93) (ci := 11) hF dX11_dot_93 (by omega) rfl rfl rfl iX11 2 (by decide) w_1249 rfl ?_
        refine y_iconst (pc := 96) hF dX11_dot_96 ?_
        refine y_aaM0 (pc := 97) hF dX11_dot_97 hn rfl ?_
        refine y_iconst (pc := 98) hF dX11_dot_98 ?_
        refine y_iload (pc := 99) hF dX11_dot_99 4 rfl ?_
        refine y_iadd (pc := 101) hF dX11_dot_101 ?_
        rw [show 0 + (20 * y + x) = 20 * y + x from (Int.zero_add _)]
        refine y_iaload (pc := 102) hF dX11_dot_102 (by omega) rfl ⟨by omega, by show _ < (2273 : Int); omega⟩ (by decide) ?_
        rw [show σ0 158 (20 * y + x) = T x y from zm.1]
        exact y_iret (pc := 103) hF dX11_dot_103 (Nat.zero_le _) (Nat.zero_le _) ⟨_, rfl, Nat.le_refl _, Or.inl ⟨zb8, (by omega), (by unfold dV; simp [zw40_0]), zO_σ0⟩⟩
      rcases Decidable.em (a = 1) with zw40_1 | zw40_1
      · refine y_tswI (pc := 40) hF dX11_dot_40 (off := 64) 1 zw40_1 (by decide) rfl 104 rfl ?_
        refine y_aload_n (pc := 104) hF dX11_dot_104 0 rfl ?_
        refine y_get (pc := 105) (ci := 11) hF dX11_dot_105 (by omega) rfl rfl rfl iX11 2 (by decide) w_1249 rfl ?_
        refine y_iconst (pc := 108) hF dX11_dot_108 ?_
        refine y_aaM0 (pc := 109) hF dX11_dot_109 hn rfl ?_
        refine y_sipush (pc := 110) hF dX11_dot_110 (by decide) ?_
        refine y_iload (pc := 113) hF dX11_dot_113 4 rfl ?_
        refine y_iadd (pc := 115) hF dX11_dot_115 ?_
        refine y_iaload (pc := 116) hF dX11_dot_116 (by omega) rfl ⟨by omega, by show _ < (2273 : Int); omega⟩ (by decide) ?_
        rw [show σ0 158 (400 + (20 * y + x)) = S x y from zm.2.1]
        exact y_iret (pc := 117) hF dX11_dot_117 (Nat.zero_le _) (Nat.zero_le _) ⟨_, rfl, Nat.le_refl _, Or.inl ⟨zb8, (by omega), (by unfold dV; simp [zw40_1]), zO_σ0⟩⟩
      rcases Decidable.em (a = 2) with zw40_2 | zw40_2
      · refine y_tswI (pc := 40) hF dX11_dot_40 (off := 78) 2 zw40_2 (by decide) rfl 118 rfl ?_
        refine y_aload_n (pc := 118) hF dX11_dot_118 0 rfl ?_
        refine y_iconst (pc := 119) hF dX11_dot_119 ?_
        refine y_iload_n (pc := 120) hF dX11_dot_120 1 rfl ?_
        refine y_iload_n (pc := 121) hF dX11_dot_121 2 rfl ?_
        have zz122 := y_rV (pc := 122) hF (tX11_isFilled (n := n) (σ := σ0) 0 w h T S F P O hn (by omega) zA_σ0 x y zb8) dX11_dot_122 (by omega) rfl rfl rfl w_1545 qX11_isFilled rfl ⟨Nat.le_of_ble_eq_true rfl, Nat.le_of_ble_eq_true rfl⟩ ⟨Nat.zero_le _, Nat.zero_le _⟩ (Nat.le_of_ble_eq_true rfl) rfl (rest := []) (cells := 0) (slots := 0) (lv := [(0, yR g 155), (1, yI x), (2, yI y), (3, yI a), (4, yI (20 * y + x))])
        refine y_cp (zz122) ?_
        refine y_if_eq (pc := 125) hF dX11_dot_125 132 rfl bi_r (fun zc125 => ?_) (fun zc125 => ?_)
        · replace zc125 := bi_0.mp zc125
          refine y_iconst (pc := 132) hF dX11_dot_132 ?_
          exact y_iret (pc := 133) hF dX11_dot_133 (Nat.zero_le _) (Nat.zero_le _) ⟨_, rfl, Nat.le_refl _, Or.inl ⟨zb8, (by omega), (by unfold dV; simp [zw40_2, bi, zc125]), zO_σ0⟩⟩
        · replace zc125 := bi_n0.mp zc125
          refine y_iconst (pc := 128) hF dX11_dot_128 ?_
          refine y_goto (pc := 129) hF dX11_dot_129 133 rfl ?_
          exact y_iret (pc := 133) hF dX11_dot_133 (Nat.zero_le _) (Nat.zero_le _) ⟨_, rfl, Nat.le_refl _, Or.inl ⟨zb8, (by omega), (by unfold dV; simp [zw40_2, bi, zc125]), zO_σ0⟩⟩
      rcases Decidable.em (a = 3) with zw40_3 | zw40_3
      · refine y_tswI (pc := 40) hF dX11_dot_40 (off := 94) 3 zw40_3 (by decide) rfl 134 rfl ?_
        refine y_aload_n (pc := 134) hF dX11_dot_134 0 rfl ?_
        refine y_get (pc := 135) (ci := 11) hF dX11_dot_135 (by omega) rfl rfl rfl iX11 2 (by decide) w_1249 rfl ?_
        refine y_iconst (pc := 138) hF dX11_dot_138 ?_
        refine y_aaM0 (pc := 139) hF dX11_dot_139 hn rfl ?_
        refine y_sipush (pc := 140) hF dX11_dot_140 (by decide) ?_
        refine y_iload (pc := 143) hF dX11_dot_143 4 rfl ?_
        refine y_iadd (pc := 145) hF dX11_dot_145 ?_
        refine y_iaload (pc := 146) hF dX11_dot_146 (by omega) rfl ⟨by omega, by show _ < (2273 : Int); omega⟩ (by decide) ?_
        rw [show σ0 158 (1200 + (20 * y + x)) = P x y from zm.2.2.2.1]
        have zz147 := y_rS (pc := 147) (As := [yI (P x y)]) (kk := 0) hF (tX11_xOf (n := n) (σ := σ0) (P x y) (by have zk := zt.2.2.2.1; unfold cOk at zk; omega)) dX11_dot_147 w_1657 qX11_xOf rfl ⟨Nat.le_of_ble_eq_true rfl, Nat.le_of_ble_eq_true rfl⟩ ⟨Nat.zero_le _, Nat.zero_le _⟩ (Nat.le_of_ble_eq_true rfl) rfl (rest := []) (cells := 0) (slots := 0) (lv := [(0, yR g 155), (1, yI x), (2, yI y), (3, yI a), (4, yI (20 * y + x))])
        refine y_cp (zz147) ?_
        exact y_iret (pc := 150) hF dX11_dot_150 (Nat.zero_le _) (Nat.zero_le _) ⟨_, rfl, Nat.le_refl _, Or.inl ⟨zb8, (by omega), (by unfold dV; simp [zw40_3]), zO_σ0⟩⟩
      rcases Decidable.em (a = 4) with zw40_4 | zw40_4
      · refine y_tswI (pc := 40) hF dX11_dot_40 (off := 111) 4 zw40_4 (by decide) rfl 151 rfl ?_
        refine y_aload_n (pc := 151) hF dX11_dot_151 0 rfl ?_
        refine y_get (pc := 152) (ci := 11) hF dX11_dot_152 (by omega) rfl rfl rfl iX11 2 (by decide) w_1249 rfl ?_
        refine y_iconst (pc := 155) hF dX11_dot_155 ?_
        refine y_aaM0 (pc := 156) hF dX11_dot_156 hn rfl ?_
        refine y_sipush (pc := 157) hF dX11_dot_157 (by decide) ?_
        refine y_iload (pc := 160) hF dX11_dot_160 4 rfl ?_
        refine y_iadd (pc := 162) hF dX11_dot_162 ?_
        refine y_iaload (pc := 163) hF dX11_dot_163 (by omega) rfl ⟨by omega, by show _ < (2273 : Int); omega⟩ (by decide) ?_
        rw [show σ0 158 (1200 + (20 * y + x)) = P x y from zm.2.2.2.1]
        have zz164 := y_rS (pc := 164) (As := [yI (P x y)]) (kk := 0) hF (tX11_yOf (n := n) (σ := σ0) (P x y) (by have zk := zt.2.2.2.1; unfold cOk at zk; omega)) dX11_dot_164 w_1660 qX11_yOf rfl ⟨Nat.le_of_ble_eq_true rfl, Nat.le_of_ble_eq_true rfl⟩ ⟨Nat.zero_le _, Nat.zero_le _⟩ (Nat.le_of_ble_eq_true rfl) rfl (rest := []) (cells := 0) (slots := 0) (lv := [(0, yR g 155), (1, yI x), (2, yI y), (3, yI a), (4, yI (20 * y + x))])
        refine y_cp (zz164) ?_
        exact y_iret (pc := 167) hF dX11_dot_167 (Nat.zero_le _) (Nat.zero_le _) ⟨_, rfl, Nat.le_refl _, Or.inl ⟨zb8, (by omega), (by unfold dV; simp [zw40_4]), zO_σ0⟩⟩
      rcases Decidable.em (a = 5) with zw40_5 | zw40_5
      · refine y_tswI (pc := 40) hF dX11_dot_40 (off := 128) 5 zw40_5 (by decide) rfl 168 rfl ?_
        refine y_aload_n (pc := 168) hF dX11_dot_168 0 rfl ?_
        refine y_get (pc := 169) (ci := 11) hF dX11_dot_169 (by omega) rfl rfl rfl iX11 2 (by decide) w_1249 rfl ?_
        refine y_iconst (pc := 172) hF dX11_dot_172 ?_
        refine y_aaM0 (pc := 173) hF dX11_dot_173 hn rfl ?_
        refine y_sipush (pc := 174) hF dX11_dot_174 (by decide) ?_
        refine y_iload (pc := 177) hF dX11_dot_177 4 rfl ?_
        refine y_iadd (pc := 179) hF dX11_dot_179 ?_
        refine y_iaload (pc := 180) hF dX11_dot_180 (by omega) rfl ⟨by omega, by show _ < (2273 : Int); omega⟩ (by decide) ?_
        rw [show σ0 158 (1600 + (20 * y + x)) = O x y from zm.2.2.2.2]
        have zz181 := y_rS (pc := 181) (As := [yI (O x y)]) (kk := 0) hF (tX11_xOf (n := n) (σ := σ0) (O x y) (by have zk := zt.2.2.2.2.1; unfold cOk at zk; omega)) dX11_dot_181 w_1657 qX11_xOf rfl ⟨Nat.le_of_ble_eq_true rfl, Nat.le_of_ble_eq_true rfl⟩ ⟨Nat.zero_le _, Nat.zero_le _⟩ (Nat.le_of_ble_eq_true rfl) rfl (rest := []) (cells := 0) (slots := 0) (lv := [(0, yR g 155), (1, yI x), (2, yI y), (3, yI a), (4, yI (20 * y + x))])
        refine y_cp (zz181) ?_
        exact y_iret (pc := 184) hF dX11_dot_184 (Nat.zero_le _) (Nat.zero_le _) ⟨_, rfl, Nat.le_refl _, Or.inl ⟨zb8, (by omega), (by unfold dV; simp [zw40_5]), zO_σ0⟩⟩
      rcases Decidable.em (a = 6) with zw40_6 | zw40_6
      · refine y_tswI (pc := 40) hF dX11_dot_40 (off := 145) 6 zw40_6 (by decide) rfl 185 rfl ?_
        refine y_aload_n (pc := 185) hF dX11_dot_185 0 rfl ?_
        refine y_get (pc := 186) (ci := 11) hF dX11_dot_186 (by omega) rfl rfl rfl iX11 2 (by decide) w_1249 rfl ?_
        refine y_iconst (pc := 189) hF dX11_dot_189 ?_
        refine y_aaM0 (pc := 190) hF dX11_dot_190 hn rfl ?_
        refine y_sipush (pc := 191) hF dX11_dot_191 (by decide) ?_
        refine y_iload (pc := 194) hF dX11_dot_194 4 rfl ?_
        refine y_iadd (pc := 196) hF dX11_dot_196 ?_
        refine y_iaload (pc := 197) hF dX11_dot_197 (by omega) rfl ⟨by omega, by show _ < (2273 : Int); omega⟩ (by decide) ?_
        rw [show σ0 158 (1600 + (20 * y + x)) = O x y from zm.2.2.2.2]
        have zz198 := y_rS (pc := 198) (As := [yI (O x y)]) (kk := 0) hF (tX11_yOf (n := n) (σ := σ0) (O x y) (by have zk := zt.2.2.2.2.1; unfold cOk at zk; omega)) dX11_dot_198 w_1660 qX11_yOf rfl ⟨Nat.le_of_ble_eq_true rfl, Nat.le_of_ble_eq_true rfl⟩ ⟨Nat.zero_le _, Nat.zero_le _⟩ (Nat.le_of_ble_eq_true rfl) rfl (rest := []) (cells := 0) (slots := 0) (lv := [(0, yR g 155), (1, yI x), (2, yI y), (3, yI a), (4, yI (20 * y + x))])
        refine y_cp (zz198) ?_
        exact y_iret (pc := 201) hF dX11_dot_201 (Nat.zero_le _) (Nat.zero_le _) ⟨_, rfl, Nat.le_refl _, Or.inl ⟨zb8, (by omega), (by unfold dV; simp [zw40_6]), zO_σ0⟩⟩
      rcases Decidable.em (a = 7) with zw40_7 | zw40_7
      · refine y_tswI (pc := 40) hF dX11_dot_40 (off := 162) 7 zw40_7 (by decide) rfl 202 rfl ?_
        refine y_aload_n (pc := 202) hF dX11_dot_202 0 rfl ?_
        refine y_cv (y_rV (pc := 203) hF (tX11_parts w h T S F P O hn zA_σ0) dX11_dot_203 (by omega) rfl rfl rfl w_1625 qX11_parts rfl ⟨Nat.le_of_ble_eq_true rfl, Nat.le_of_ble_eq_true rfl⟩ ⟨Nat.zero_le _, Nat.zero_le _⟩ (Nat.le_of_ble_eq_true rfl) rfl) rfl rfl (fun n' σ203 zp203 => ?_)
        obtain ⟨zn203, zp203⟩ := zp203
        have zn203 := zn203.symm
        subst zn203
        have zA_σ203 := zA_σ0.fQ (by omega) zp203.1
        have zO_σ203 := zO_σ0.fQ zp203.1
        refine y_aload_n (pc := 206) hF dX11_dot_206 0 rfl ?_
        refine y_get (pc := 207) (ci := 11) hF dX11_dot_207 (by omega) rfl rfl rfl iX11 38 (by decide) w_1285 rfl ?_
        refine y_iload (pc := 210) hF dX11_dot_210 4 rfl ?_
        refine y_iaload (pc := 212) hF dX11_dot_212 (by omega) rfl ⟨by omega, by show _ < (400 : Int); omega⟩ (by decide) ?_
        rw [show σ203 169 (20 * y + x) = (sPt w h T).1 x y from (zp203.2.2 x y zi.1 zi.2.1 zi.2.2.1 zi.2.2.2)]
        exact y_iret (pc := 213) hF dX11_dot_213 (Nat.zero_le _) (Nat.zero_le _) ⟨_, rfl, Nat.le_refl _, Or.inl ⟨zb8, (by omega), (by unfold dV; simp [zw40_7]), zO_σ203⟩⟩
      rcases Decidable.em (a = 8) with zw40_8 | zw40_8
      · refine y_tswI (pc := 40) hF dX11_dot_40 (off := 174) 8 zw40_8 (by decide) rfl 214 rfl ?_
        refine y_aload_n (pc := 214) hF dX11_dot_214 0 rfl ?_
        refine y_iconst (pc := 215) hF dX11_dot_215 ?_
        refine y_iload_n (pc := 216) hF dX11_dot_216 1 rfl ?_
        refine y_iload_n (pc := 217) hF dX11_dot_217 2 rfl ?_
        have zz218 := y_rV (pc := 218) hF (tX11_isFront (n := n) (σ := σ0) 0 w h T S F P O hn (by omega) zA_σ0 x y (by omega) (by omega)) dX11_dot_218 (by omega) rfl rfl rfl w_1500 qX11_isFront rfl ⟨Nat.le_of_ble_eq_true rfl, Nat.le_of_ble_eq_true rfl⟩ ⟨Nat.zero_le _, Nat.zero_le _⟩ (Nat.le_of_ble_eq_true rfl) rfl (rest := []) (cells := 0) (slots := 0) (lv := [(0, yR g 155), (1, yI x), (2, yI y), (3, yI a), (4, yI (20 * y + x))])
        refine y_cp (zz218) ?_
        refine y_if_eq (pc := 221) hF dX11_dot_221 228 rfl bi_r (fun zc221 => ?_) (fun zc221 => ?_)
        · replace zc221 := bi_0.mp zc221
          refine y_iconst (pc := 228) hF dX11_dot_228 ?_
          exact y_iret (pc := 229) hF dX11_dot_229 (Nat.zero_le _) (Nat.zero_le _) ⟨_, rfl, Nat.le_refl _, Or.inl ⟨zb8, (by omega), (by unfold dV; simp [zw40_8, bi, zc221]), zO_σ0⟩⟩
        · replace zc221 := bi_n0.mp zc221
          refine y_iconst (pc := 224) hF dX11_dot_224 ?_
          refine y_goto (pc := 225) hF dX11_dot_225 229 rfl ?_
          exact y_iret (pc := 229) hF dX11_dot_229 (Nat.zero_le _) (Nat.zero_le _) ⟨_, rfl, Nat.le_refl _, Or.inl ⟨zb8, (by omega), (by unfold dV; simp [zw40_8, bi, zc221]), zO_σ0⟩⟩
      refine y_tswO (pc := 40) hF dX11_dot_40 (by omega) (by omega) 230 rfl ?_
      refine y_aload_n (pc := 230) hF dX11_dot_230 0 rfl ?_
      refine y_get (pc := 231) (ci := 11) hF dX11_dot_231 (by omega) rfl rfl rfl iX11 2 (by decide) w_1249 rfl ?_
      refine y_iconst (pc := 234) hF dX11_dot_234 ?_
      refine y_aaM0 (pc := 235) hF dX11_dot_235 hn rfl ?_
      refine y_sipush (pc := 236) hF dX11_dot_236 (by decide) ?_
      refine y_iload (pc := 239) hF dX11_dot_239 4 rfl ?_
      refine y_iadd (pc := 241) hF dX11_dot_241 ?_
      refine y_iaload (pc := 242) hF dX11_dot_242 (by omega) rfl ⟨by omega, by show _ < (2273 : Int); omega⟩ (by decide) ?_
      rw [show σ0 158 (800 + (20 * y + x)) = F x y from zm.2.2.1]
      exact y_iret (pc := 243) hF dX11_dot_243 (Nat.zero_le _) (Nat.zero_le _) ⟨_, rfl, Nat.le_refl _, Or.inl ⟨zb8, (by omega), (by unfold dV; simp [show a = 9 by omega]), zO_σ0⟩⟩
    · subst zv24; subst zs24
      refine y_if_ne (pc := 27) hF dX11_dot_27 32 rfl (by decide) (fun zc27 => absurd zc27 (by decide)) (fun _ => ?_)
      refine y_iconst (pc := 30) hF dX11_dot_30 ?_
      exact y_iret (pc := 31) hF dX11_dot_31 (Nat.zero_le _) (Nat.zero_le _) ⟨_, rfl, Nat.le_refl _, Or.inr (Or.inr ⟨zb8, (fun ze => by simp at zb24; omega), zO_σ0.bA 2⟩)⟩
  · subst zv8; subst zs8
    refine y_if_eq (pc := 11) hF dX11_dot_11 30 rfl (by decide) (fun _ => ?_) (fun zc11 => absurd zc11 (by decide))
    refine y_iconst (pc := 30) hF dX11_dot_30 ?_
    exact y_iret (pc := 31) hF dX11_dot_31 (Nat.zero_le _) (Nat.zero_le _) ⟨_, rfl, Nat.le_refl _, Or.inr (Or.inl ⟨(by rw [zb8]; decide), zO_σ0.bN 1⟩)⟩

theorem dX11_rank_0 : decode cX11_rank 0 = .ok (.aload_n 0, 1) := by decide +kernel
theorem dX11_rank_1 : decode cX11_rank 1 = .ok (.iconst 0, 1) := by decide +kernel
theorem dX11_rank_2 : decode cX11_rank 2 = .ok (.putfield 1, 3) := by decide +kernel
theorem dX11_rank_5 : decode cX11_rank 5 = .ok (.aload_n 0, 1) := by decide +kernel
theorem dX11_rank_6 : decode cX11_rank 6 = .ok (.iload_n 1, 1) := by decide +kernel
theorem dX11_rank_7 : decode cX11_rank 7 = .ok (.iload_n 2, 1) := by decide +kernel
theorem dX11_rank_8 : decode cX11_rank 8 = .ok (.invokevirtual 307, 3) := by decide +kernel
theorem dX11_rank_11 : decode cX11_rank 11 = .ok (.ifCond .eq 19, 3) := by decide +kernel
theorem dX11_rank_14 : decode cX11_rank 14 = .ok (.aload_n 0, 1) := by decide +kernel
theorem dX11_rank_15 : decode cX11_rank 15 = .ok (.iload_n 3, 1) := by decide +kernel
theorem dX11_rank_16 : decode cX11_rank 16 = .ok (.iconst 0, 1) := by decide +kernel
theorem dX11_rank_17 : decode cX11_rank 17 = .ok (.bipush 6, 2) := by decide +kernel
theorem dX11_rank_19 : decode cX11_rank 19 = .ok (.invokestatic 68, 3) := by decide +kernel
theorem dX11_rank_22 : decode cX11_rank 22 = .ok (.iconst 2, 1) := by decide +kernel
theorem dX11_rank_23 : decode cX11_rank 23 = .ok (.iconst 1, 1) := by decide +kernel
theorem dX11_rank_24 : decode cX11_rank 24 = .ok (.invokevirtual 284, 3) := by decide +kernel
theorem dX11_rank_27 : decode cX11_rank 27 = .ok (.ifCond .ne 5, 3) := by decide +kernel
theorem dX11_rank_30 : decode cX11_rank 30 = .ok (.iconst 0, 1) := by decide +kernel
theorem dX11_rank_31 : decode cX11_rank 31 = .ok (.ireturn, 1) := by decide +kernel
theorem dX11_rank_32 : decode cX11_rank 32 = .ok (.aload_n 0, 1) := by decide +kernel
theorem dX11_rank_33 : decode cX11_rank 33 = .ok (.iconst 0, 1) := by decide +kernel
theorem dX11_rank_34 : decode cX11_rank 34 = .ok (.iload_n 1, 1) := by decide +kernel
theorem dX11_rank_35 : decode cX11_rank 35 = .ok (.iload_n 2, 1) := by decide +kernel
theorem dX11_rank_36 : decode cX11_rank 36 = .ok (.invokevirtual 75, 3) := by decide +kernel
theorem dX11_rank_39 : decode cX11_rank 39 = .ok (.ifCond .ne 5, 3) := by decide +kernel
theorem dX11_rank_42 : decode cX11_rank 42 = .ok (.iconst 0, 1) := by decide +kernel
theorem dX11_rank_43 : decode cX11_rank 43 = .ok (.ireturn, 1) := by decide +kernel
theorem dX11_rank_44 : decode cX11_rank 44 = .ok (.aload_n 0, 1) := by decide +kernel
theorem dX11_rank_45 : decode cX11_rank 45 = .ok (.iconst 0, 1) := by decide +kernel
theorem dX11_rank_46 : decode cX11_rank 46 = .ok (.iload_n 1, 1) := by decide +kernel
theorem dX11_rank_47 : decode cX11_rank 47 = .ok (.iload_n 2, 1) := by decide +kernel
theorem dX11_rank_48 : decode cX11_rank 48 = .ok (.invokevirtual 97, 3) := by decide +kernel
theorem dX11_rank_51 : decode cX11_rank 51 = .ok (.iload_n 3, 1) := by decide +kernel
theorem dX11_rank_52 : decode cX11_rank 52 = .ok (.tableswitch 82 0 5 #[40, 48, 53, 58, 66, 74], 40) := by decide +kernel
theorem dX11_rank_92 : decode cX11_rank 92 = .ok (.aload_n 0, 1) := by decide +kernel
theorem dX11_rank_93 : decode cX11_rank 93 = .ok (.iconst 0, 1) := by decide +kernel
theorem dX11_rank_94 : decode cX11_rank 94 = .ok (.iload_n 1, 1) := by decide +kernel
theorem dX11_rank_95 : decode cX11_rank 95 = .ok (.iload_n 2, 1) := by decide +kernel
theorem dX11_rank_96 : decode cX11_rank 96 = .ok (.invokevirtual 106, 3) := by decide +kernel
theorem dX11_rank_99 : decode cX11_rank 99 = .ok (.ireturn, 1) := by decide +kernel
theorem dX11_rank_100 : decode cX11_rank 100 = .ok (.aload_n 0, 1) := by decide +kernel
theorem dX11_rank_101 : decode cX11_rank 101 = .ok (.getfield 81, 3) := by decide +kernel
theorem dX11_rank_104 : decode cX11_rank 104 = .ok (.ireturn, 1) := by decide +kernel
theorem dX11_rank_105 : decode cX11_rank 105 = .ok (.aload_n 0, 1) := by decide +kernel
theorem dX11_rank_106 : decode cX11_rank 106 = .ok (.getfield 84, 3) := by decide +kernel
theorem dX11_rank_109 : decode cX11_rank 109 = .ok (.ireturn, 1) := by decide +kernel
theorem dX11_rank_110 : decode cX11_rank 110 = .ok (.aload_n 0, 1) := by decide +kernel
theorem dX11_rank_111 : decode cX11_rank 111 = .ok (.iconst 0, 1) := by decide +kernel
theorem dX11_rank_112 : decode cX11_rank 112 = .ok (.iload_n 1, 1) := by decide +kernel
theorem dX11_rank_113 : decode cX11_rank 113 = .ok (.iload_n 2, 1) := by decide +kernel
theorem dX11_rank_114 : decode cX11_rank 114 = .ok (.invokevirtual 103, 3) := by decide +kernel
theorem dX11_rank_117 : decode cX11_rank 117 = .ok (.ireturn, 1) := by decide +kernel
theorem dX11_rank_118 : decode cX11_rank 118 = .ok (.aload_n 0, 1) := by decide +kernel
theorem dX11_rank_119 : decode cX11_rank 119 = .ok (.iconst 0, 1) := by decide +kernel
theorem dX11_rank_120 : decode cX11_rank 120 = .ok (.iload_n 1, 1) := by decide +kernel
theorem dX11_rank_121 : decode cX11_rank 121 = .ok (.iload_n 2, 1) := by decide +kernel
theorem dX11_rank_122 : decode cX11_rank 122 = .ok (.invokevirtual 100, 3) := by decide +kernel
theorem dX11_rank_125 : decode cX11_rank 125 = .ok (.ireturn, 1) := by decide +kernel
theorem dX11_rank_126 : decode cX11_rank 126 = .ok (.aload_n 0, 1) := by decide +kernel
theorem dX11_rank_127 : decode cX11_rank 127 = .ok (.iconst 0, 1) := by decide +kernel
theorem dX11_rank_128 : decode cX11_rank 128 = .ok (.iload_n 1, 1) := by decide +kernel
theorem dX11_rank_129 : decode cX11_rank 129 = .ok (.iload_n 2, 1) := by decide +kernel
theorem dX11_rank_130 : decode cX11_rank 130 = .ok (.invokevirtual 109, 3) := by decide +kernel
theorem dX11_rank_133 : decode cX11_rank 133 = .ok (.ireturn, 1) := by decide +kernel
theorem dX11_rank_134 : decode cX11_rank 134 = .ok (.aload_n 0, 1) := by decide +kernel
theorem dX11_rank_135 : decode cX11_rank 135 = .ok (.iconst 0, 1) := by decide +kernel
theorem dX11_rank_136 : decode cX11_rank 136 = .ok (.iload_n 1, 1) := by decide +kernel
theorem dX11_rank_137 : decode cX11_rank 137 = .ok (.iload_n 2, 1) := by decide +kernel
theorem dX11_rank_138 : decode cX11_rank 138 = .ok (.invokevirtual 124, 3) := by decide +kernel
theorem dX11_rank_141 : decode cX11_rank 141 = .ok (.ireturn, 1) := by decide +kernel
set_option maxHeartbeats 4000000 in
set_option maxRecDepth 100000 in
theorem tX11_rank {l : Launch} {g : yG} {n : Nat} {σ : yM} (hn : 172 ≤ n) (w h : Int) (T S F P O : Int → Int → Int) (nf df nl : Int) (lg : Int → Int → Int) (s re fo ra tu we sh : Int) (H : List aX) (ht : Bool) (K : Int → Int → Int) (tl : Int) (tb : Int → Int) (fa r1 r2 N : Int) (hV : mV σ (w, h, (T, S, F, P, O, nf, df, nl, lg), (s, re, fo, ra, tu, we, sh), H, ht, K, tl, tb, fa, r1, r2)) (hW : aW N (w, h, (T, S, F, P, O, nf, df, nl, lg), (s, re, fo, ra, tu, we, sh), H, ht, K, tl, tb, fa, r1, r2)) (x y a : Int) (hx : -2147483648 ≤ x ∧ x < 2147483648) (hy : -2147483648 ≤ y ∧ y < 2147483648) (ha : -2147483648 ≤ a ∧ a < 2147483648) : yMet l g yX11_rank cX11_rank 4 (some .int) (rmL 7) [yR g 155, yI x, yI y, yI a] (SC g) n σ (SC g) (yPi (fun zv n' σ' => n ≤ n' ∧ (((sIn w h x y = true) ∧ (0 ≤ a ∧ a ≤ 6) ∧ zv = rV w h T S s ra x y a ∧ mO σ σ' (w, h, (T, S, F, P, O, nf, df, nl, lg), (s, re, fo, ra, tu, we, sh), H, ht, K, tl, tb, fa, r1, r2) 0) ∨ (¬ (sIn w h x y = true) ∧ mO σ σ' (bN (w, h, (T, S, F, P, O, nf, df, nl, lg), (s, re, fo, ra, tu, we, sh), H, ht, K, tl, tb, fa, r1, r2)) 1) ∨ ((sIn w h x y = true) ∧ ¬ (0 ≤ a ∧ a ≤ 6) ∧ mO σ σ' (bA (w, h, (T, S, F, P, O, nf, df, nl, lg), (s, re, fo, ra, tu, we, sh), H, ht, K, tl, tb, fa, r1, r2)) 2)))) := by
  obtain ⟨⟨hA, hL⟩, hS, hH, ⟨hb1, hb2⟩, ⟨ht1, ht2⟩, hfa, hr1, hr2⟩ := id hV
  obtain ⟨hw1, hw2, hw3, hw4⟩ := id hA.1.1
  obtain ⟨hs1, hs2, hs3, hs4, hs5, hs6, hs7⟩ := id hS.2
  have hz : (0 : Nat) < 3 := by omega
  refine y_start (by decide) (Nat.le_of_ble_eq_true rfl) (fun X0 hF => ?_)
  show yV X0 g 4 (yQ X0 g (SC g) (yPi (fun zv n' σ' => n ≤ n' ∧ (((sIn w h x y = true) ∧ (0 ≤ a ∧ a ≤ 6) ∧ zv = rV w h T S s ra x y a ∧ mO σ σ' (w, h, (T, S, F, P, O, nf, df, nl, lg), (s, re, fo, ra, tu, we, sh), H, ht, K, tl, tb, fa, r1, r2) 0) ∨ (¬ (sIn w h x y = true) ∧ mO σ σ' (bN (w, h, (T, S, F, P, O, nf, df, nl, lg), (s, re, fo, ra, tu, we, sh), H, ht, K, tl, tb, fa, r1, r2)) 1) ∨ ((sIn w h x y = true) ∧ ¬ (0 ≤ a ∧ a ≤ 6) ∧ mO σ σ' (bA (w, h, (T, S, F, P, O, nf, df, nl, lg), (s, re, fo, ra, tu, we, sh), H, ht, K, tl, tb, fa, r1, r2)) 2)))) (rmL 7)) (SC g) n σ 0 0 0 [(0, yR g 155), (1, yI x), (2, yI y), (3, yI a)] []
  refine y_aload_n (pc := 0) hF dX11_rank_0 0 rfl ?_
  refine y_iconst (pc := 1) hF dX11_rank_1 ?_
  refine y_putf (pc := 2) (ci := 11) (σ' := yset σ 155 0 0) (sch' := (SC g)) hF dX11_rank_2 (by omega) rfl rfl rfl iX11 0 (by decide) w_1247 tyX11 tyX11_ok nmX11 rfl rfl rfl rfl (Nat.le_of_ble_eq_true rfl) rfl (y_ps rfl) (fun k' h => ⟨yset_n h, rfl⟩) ?_
  obtain ⟨σ0, hσ0⟩ : ∃ s, s = yset σ 155 0 0 := ⟨_, rfl⟩
  rw [← hσ0]
  have zO_σ0 := hV.t0 hσ0
  obtain ⟨⟨zA_σ0, zL_σ0⟩, zS_σ0, zH_σ0, ⟨zb1_σ0, zb2_σ0⟩, ⟨zt1_σ0, zt2_σ0⟩, zfa_σ0, zr1_σ0, zr2_σ0⟩ := id zO_σ0.2.2
  refine y_aload_n (pc := 5) hF dX11_rank_5 0 rfl ?_
  refine y_iload_n (pc := 6) hF dX11_rank_6 1 rfl ?_
  refine y_iload_n (pc := 7) hF dX11_rank_7 2 rfl ?_
  refine y_ci (y_rV (pc := 8) hF (tX11_isThere w h T S F P O hn zA_σ0 zO_σ0.2.1 x y hx hy) dX11_rank_8 (by omega) rfl rfl rfl w_1468 qX11_isThere rfl ⟨Nat.le_of_ble_eq_true rfl, Nat.le_of_ble_eq_true rfl⟩ ⟨Nat.zero_le _, Nat.zero_le _⟩ (Nat.le_of_ble_eq_true rfl) rfl) rfl rfl (fun r8 n' σ8 zp8 => ?_)
  obtain ⟨zn8, zp8⟩ := zp8
  have zn8 := zn8.symm
  subst zn8
  rcases zp8 with ⟨zb8, zv8, zs8⟩ | ⟨zb8, zv8, zs8⟩
  · subst zv8; have zs8 := zs8.symm; subst zs8
    refine y_if_eq (pc := 11) hF dX11_rank_11 30 rfl (by decide) (fun zc11 => absurd zc11 (by decide)) (fun _ => ?_)
    refine y_aload_n (pc := 14) hF dX11_rank_14 0 rfl ?_
    refine y_iload_n (pc := 15) hF dX11_rank_15 3 rfl ?_
    refine y_iconst (pc := 16) hF dX11_rank_16 ?_
    refine y_bipush (pc := 17) hF dX11_rank_17 (by decide) ?_
    have zz19 := y_rS (pc := 19) (As := [yI a, yI 0, yI 6]) (kk := 0) hF (tX11_within (n := n) (σ := σ0) a 0 6 (by omega) (by omega) (by omega)) dX11_rank_19 w_1392 qX11_within rfl ⟨Nat.le_of_ble_eq_true rfl, Nat.le_of_ble_eq_true rfl⟩ ⟨Nat.zero_le _, Nat.zero_le _⟩ (Nat.le_of_ble_eq_true rfl) rfl (rest := [yR g 155]) (cells := 0) (slots := 0) (lv := [(0, yR g 155), (1, yI x), (2, yI y), (3, yI a)])
    refine y_cp (zz19) ?_
    refine y_iconst (pc := 22) hF dX11_rank_22 ?_
    refine y_iconst (pc := 23) hF dX11_rank_23 ?_
    refine y_ci (y_rV (pc := 24) hF (tX11_isFine hn zO_σ0.2.1 (decide (0 ≤ a) && decide (a ≤ 6)) 2 1 (by decide) (by decide)) dX11_rank_24 (by omega) rfl rfl rfl w_1395 qX11_isFine rfl ⟨Nat.le_of_ble_eq_true rfl, Nat.le_of_ble_eq_true rfl⟩ ⟨Nat.zero_le _, Nat.zero_le _⟩ (Nat.le_of_ble_eq_true rfl) rfl) rfl rfl (fun r24 n' σ24 zp24 => ?_)
    obtain ⟨zn24, zp24⟩ := zp24
    have zn24 := zn24.symm
    subst zn24
    rcases zp24 with ⟨zb24, zv24, zs24⟩ | ⟨zb24, zv24, zs24⟩
    · subst zv24; have zs24 := zs24.symm; subst zs24
      refine y_if_ne (pc := 27) hF dX11_rank_27 32 rfl (by decide) (fun _ => ?_) (fun zc27 => absurd zc27 (by decide))
      simp at zb24
      have zi := sIn_iff.mp zb8
      refine y_aload_n (pc := 32) hF dX11_rank_32 0 rfl ?_
      refine y_iconst (pc := 33) hF dX11_rank_33 ?_
      refine y_iload_n (pc := 34) hF dX11_rank_34 1 rfl ?_
      refine y_iload_n (pc := 35) hF dX11_rank_35 2 rfl ?_
      have zz36 := y_rV (pc := 36) hF (tX11_isMissing (n := n) (σ := σ0) 0 w h T S F P O hn (by omega) zA_σ0 x y (by omega) (by omega)) dX11_rank_36 (by omega) rfl rfl rfl w_1504 qX11_isMissing rfl ⟨Nat.le_of_ble_eq_true rfl, Nat.le_of_ble_eq_true rfl⟩ ⟨Nat.zero_le _, Nat.zero_le _⟩ (Nat.le_of_ble_eq_true rfl) rfl (rest := []) (cells := 0) (slots := 0) (lv := [(0, yR g 155), (1, yI x), (2, yI y), (3, yI a)])
      refine y_cp (zz36) ?_
      refine y_if_ne (pc := 39) hF dX11_rank_39 44 rfl bi_r (fun zc39 => ?_) (fun zc39 => ?_)
      · replace zc39 := bi_n0.mp zc39
        refine y_aload_n (pc := 44) hF dX11_rank_44 0 rfl ?_
        refine y_iconst (pc := 45) hF dX11_rank_45 ?_
        refine y_iload_n (pc := 46) hF dX11_rank_46 1 rfl ?_
        refine y_iload_n (pc := 47) hF dX11_rank_47 2 rfl ?_
        refine y_cv (y_rV (pc := 48) hF (tX11_slopes 0 w h T S F P O s re fo ra tu we sh hn (by omega) zA_σ0 zS_σ0 x y zb8) dX11_rank_48 (by omega) rfl rfl rfl w_1520 qX11_slopes rfl ⟨Nat.le_of_ble_eq_true rfl, Nat.le_of_ble_eq_true rfl⟩ ⟨Nat.zero_le _, Nat.zero_le _⟩ (Nat.le_of_ble_eq_true rfl) rfl) rfl rfl (fun n' σ48 zp48 => ?_)
        obtain ⟨zn48, zp48⟩ := zp48
        have zn48 := zn48.symm
        subst zn48
        have zA_σ48 := zA_σ0.fR hz zp48.1
        have zS_σ48 := zS_σ0.fR (by omega) zp48.1
        have zO_σ48 := zO_σ0.fR zp48.1 (by omega) (by omega)
        have zL_σ48 := zO_σ48.2.2.1.2
        refine y_iload_n (pc := 51) hF dX11_rank_51 3 rfl ?_
        rcases Decidable.em (a = 0) with zw52_0 | zw52_0
        · refine y_tswI (pc := 52) hF dX11_rank_52 (off := 40) 0 zw52_0 (by decide) rfl 92 rfl ?_
          refine y_aload_n (pc := 92) hF dX11_rank_92 0 rfl ?_
          refine y_iconst (pc := 93) hF dX11_rank_93 ?_
          refine y_iload_n (pc := 94) hF dX11_rank_94 1 rfl ?_
          refine y_iload_n (pc := 95) hF dX11_rank_95 2 rfl ?_
          have zz96 := y_rV (pc := 96) hF (tX11_steady (n := n) (σ := σ48) 0 w h T S F P O s re fo ra tu we sh hn (by omega) zA_σ48 zS_σ48 x y zb8) dX11_rank_96 (by omega) rfl rfl rfl w_1512 qX11_steady rfl ⟨Nat.le_of_ble_eq_true rfl, Nat.le_of_ble_eq_true rfl⟩ ⟨Nat.zero_le _, Nat.zero_le _⟩ (Nat.le_of_ble_eq_true rfl) rfl (rest := []) (cells := 0) (slots := 0) (lv := [(0, yR g 155), (1, yI x), (2, yI y), (3, yI a)])
          refine y_cp (zz96) ?_
          exact y_iret (pc := 99) hF dX11_rank_99 (Nat.zero_le _) (Nat.zero_le _) ⟨_, rfl, Nat.le_refl _, Or.inl ⟨zb8, (by omega), (by unfold rV; rw [if_pos zc39]; simp [zw52_0]), zO_σ48⟩⟩
        rcases Decidable.em (a = 1) with zw52_1 | zw52_1
        · refine y_tswI (pc := 52) hF dX11_rank_52 (off := 48) 1 zw52_1 (by decide) rfl 100 rfl ?_
          refine y_aload_n (pc := 100) hF dX11_rank_100 0 rfl ?_
          refine y_get (pc := 101) (ci := 11) hF dX11_rank_101 (by omega) rfl rfl rfl iX11 11 (by decide) w_1258 rfl ?_
          rw [show σ48 155 11 = (sSl w h T s x y).1 from zp48.2.1]
          exact y_iret (pc := 104) hF dX11_rank_104 (Nat.zero_le _) (Nat.zero_le _) ⟨_, rfl, Nat.le_refl _, Or.inl ⟨zb8, (by omega), (by unfold rV; rw [if_pos zc39]; simp [zw52_1]), zO_σ48⟩⟩
        rcases Decidable.em (a = 2) with zw52_2 | zw52_2
        · refine y_tswI (pc := 52) hF dX11_rank_52 (off := 53) 2 zw52_2 (by decide) rfl 105 rfl ?_
          refine y_aload_n (pc := 105) hF dX11_rank_105 0 rfl ?_
          refine y_get (pc := 106) (ci := 11) hF dX11_rank_106 (by omega) rfl rfl rfl iX11 12 (by decide) w_1259 rfl ?_
          rw [show σ48 155 12 = (sSl w h T s x y).2 from zp48.2.2]
          exact y_iret (pc := 109) hF dX11_rank_109 (Nat.zero_le _) (Nat.zero_le _) ⟨_, rfl, Nat.le_refl _, Or.inl ⟨zb8, (by omega), (by unfold rV; rw [if_pos zc39]; simp [zw52_2]), zO_σ48⟩⟩
        rcases Decidable.em (a = 3) with zw52_3 | zw52_3
        · refine y_tswI (pc := 52) hF dX11_rank_52 (off := 58) 3 zw52_3 (by decide) rfl 110 rfl ?_
          refine y_aload_n (pc := 110) hF dX11_rank_110 0 rfl ?_
          refine y_iconst (pc := 111) hF dX11_rank_111 ?_
          refine y_iload_n (pc := 112) hF dX11_rank_112 1 rfl ?_
          refine y_iload_n (pc := 113) hF dX11_rank_113 2 rfl ?_
          have zz114 := y_rV (pc := 114) hF (tX11_outX (n := n) (σ := σ48) 0 w h T S F P O hn (by omega) zA_σ48 x y zb8) dX11_rank_114 (by omega) rfl rfl rfl w_1529 qX11_outX rfl ⟨Nat.le_of_ble_eq_true rfl, Nat.le_of_ble_eq_true rfl⟩ ⟨Nat.zero_le _, Nat.zero_le _⟩ (Nat.le_of_ble_eq_true rfl) rfl (rest := []) (cells := 0) (slots := 0) (lv := [(0, yR g 155), (1, yI x), (2, yI y), (3, yI a)])
          refine y_cp (zz114) ?_
          exact y_iret (pc := 117) hF dX11_rank_117 (Nat.zero_le _) (Nat.zero_le _) ⟨_, rfl, Nat.le_refl _, Or.inl ⟨zb8, (by omega), (by unfold rV; rw [if_pos zc39]; simp [zw52_3]), zO_σ48⟩⟩
        rcases Decidable.em (a = 4) with zw52_4 | zw52_4
        · refine y_tswI (pc := 52) hF dX11_rank_52 (off := 66) 4 zw52_4 (by decide) rfl 118 rfl ?_
          refine y_aload_n (pc := 118) hF dX11_rank_118 0 rfl ?_
          refine y_iconst (pc := 119) hF dX11_rank_119 ?_
          refine y_iload_n (pc := 120) hF dX11_rank_120 1 rfl ?_
          refine y_iload_n (pc := 121) hF dX11_rank_121 2 rfl ?_
          have zz122 := y_rV (pc := 122) hF (tX11_outY (n := n) (σ := σ48) 0 w h T S F P O hn (by omega) zA_σ48 x y zb8) dX11_rank_122 (by omega) rfl rfl rfl w_1525 qX11_outY rfl ⟨Nat.le_of_ble_eq_true rfl, Nat.le_of_ble_eq_true rfl⟩ ⟨Nat.zero_le _, Nat.zero_le _⟩ (Nat.le_of_ble_eq_true rfl) rfl (rest := []) (cells := 0) (slots := 0) (lv := [(0, yR g 155), (1, yI x), (2, yI y), (3, yI a)])
          refine y_cp (zz122) ?_
          exact y_iret (pc := 125) hF dX11_rank_125 (Nat.zero_le _) (Nat.zero_le _) ⟨_, rfl, Nat.le_refl _, Or.inl ⟨zb8, (by omega), (by unfold rV; rw [if_pos zc39]; simp [zw52_4]), zO_σ48⟩⟩
        rcases Decidable.em (a = 5) with zw52_5 | zw52_5
        · refine y_tswI (pc := 52) hF dX11_rank_52 (off := 74) 5 zw52_5 (by decide) rfl 126 rfl ?_
          refine y_aload_n (pc := 126) hF dX11_rank_126 0 rfl ?_
          refine y_iconst (pc := 127) hF dX11_rank_127 ?_
          refine y_iload_n (pc := 128) hF dX11_rank_128 1 rfl ?_
          refine y_iload_n (pc := 129) hF dX11_rank_129 2 rfl ?_
          refine y_ci (y_rV (pc := 130) hF (tX11_flow 0 w h T S F P O s re fo ra tu we sh hn (by omega) zA_σ48 zS_σ48 x y zb8) dX11_rank_130 (by omega) rfl rfl rfl w_1516 qX11_flow rfl ⟨Nat.le_of_ble_eq_true rfl, Nat.le_of_ble_eq_true rfl⟩ ⟨Nat.zero_le _, Nat.zero_le _⟩ (Nat.le_of_ble_eq_true rfl) rfl) rfl rfl (fun r130 n' σ130 zp130 => ?_)
          obtain ⟨zn130, zp130⟩ := zp130
          have zn130 := zn130.symm
          subst zn130
          have zA_σ130 := zA_σ48.fR hz zp130.2
          have zS_σ130 := zS_σ48.fR (by omega) zp130.2
          have zO_σ130 := zO_σ48.fR zp130.2 (by omega) (by omega)
          have zL_σ130 := zO_σ130.2.2.1.2
          exact y_iret (pc := 133) hF dX11_rank_133 (Nat.zero_le _) (Nat.zero_le _) ⟨_, rfl, Nat.le_refl _, Or.inl ⟨zb8, (by omega), (by unfold rV; rw [if_pos zc39]; simp [zw52_5]; exact zp130.1), zO_σ130⟩⟩
        refine y_tswO (pc := 52) hF dX11_rank_52 (by omega) (by omega) 134 rfl ?_
        refine y_aload_n (pc := 134) hF dX11_rank_134 0 rfl ?_
        refine y_iconst (pc := 135) hF dX11_rank_135 ?_
        refine y_iload_n (pc := 136) hF dX11_rank_136 1 rfl ?_
        refine y_iload_n (pc := 137) hF dX11_rank_137 2 rfl ?_
        refine y_ci (y_rV (pc := 138) hF (tX11_rankOf 0 w h T S F P O s re fo ra tu we sh hn (by omega) zA_σ48 zS_σ48 x y zb8) dX11_rank_138 (by omega) rfl rfl rfl w_1508 qX11_rankOf rfl ⟨Nat.le_of_ble_eq_true rfl, Nat.le_of_ble_eq_true rfl⟩ ⟨Nat.zero_le _, Nat.zero_le _⟩ (Nat.le_of_ble_eq_true rfl) rfl) rfl rfl (fun r138 n' σ138 zp138 => ?_)
        obtain ⟨zn138, zp138⟩ := zp138
        have zn138 := zn138.symm
        subst zn138
        have zA_σ138 := zA_σ48.fR hz zp138.2
        have zS_σ138 := zS_σ48.fR (by omega) zp138.2
        have zO_σ138 := zO_σ48.fR zp138.2 (by omega) (by omega)
        have zL_σ138 := zO_σ138.2.2.1.2
        exact y_iret (pc := 141) hF dX11_rank_141 (Nat.zero_le _) (Nat.zero_le _) ⟨_, rfl, Nat.le_refl _, Or.inl ⟨zb8, (by omega), (by unfold rV; rw [if_pos zc39]; simp [show ¬ a = 0 by omega, show ¬ a = 1 by omega, show ¬ a = 2 by omega, show ¬ a = 3 by omega, show ¬ a = 4 by omega, show ¬ a = 5 by omega]; exact zp138.1), zO_σ138⟩⟩
      · replace zc39 := bi_0.mp zc39
        refine y_iconst (pc := 42) hF dX11_rank_42 ?_
        exact y_iret (pc := 43) hF dX11_rank_43 (Nat.zero_le _) (Nat.zero_le _) ⟨_, rfl, Nat.le_refl _, Or.inl ⟨zb8, (by omega), (by unfold rV; rw [if_neg (by rw [zc39]; decide)]), zO_σ0⟩⟩
    · subst zv24; subst zs24
      refine y_if_ne (pc := 27) hF dX11_rank_27 32 rfl (by decide) (fun zc27 => absurd zc27 (by decide)) (fun _ => ?_)
      refine y_iconst (pc := 30) hF dX11_rank_30 ?_
      exact y_iret (pc := 31) hF dX11_rank_31 (Nat.zero_le _) (Nat.zero_le _) ⟨_, rfl, Nat.le_refl _, Or.inr (Or.inr ⟨zb8, (fun ze => by simp at zb24; omega), zO_σ0.bA 2⟩)⟩
  · subst zv8; subst zs8
    refine y_if_eq (pc := 11) hF dX11_rank_11 30 rfl (by decide) (fun _ => ?_) (fun zc11 => absurd zc11 (by decide))
    refine y_iconst (pc := 30) hF dX11_rank_30 ?_
    exact y_iret (pc := 31) hF dX11_rank_31 (Nat.zero_le _) (Nat.zero_le _) ⟨_, rfl, Nat.le_refl _, Or.inr (Or.inl ⟨(by rw [zb8]; decide), zO_σ0.bN 1⟩)⟩

theorem dX11_search_0 : decode cX11_search 0 = .ok (.aload_n 0, 1) := by decide +kernel
theorem dX11_search_1 : decode cX11_search 1 = .ok (.iconst 0, 1) := by decide +kernel
theorem dX11_search_2 : decode cX11_search 2 = .ok (.putfield 1, 3) := by decide +kernel
theorem dX11_search_5 : decode cX11_search 5 = .ok (.aload_n 0, 1) := by decide +kernel
theorem dX11_search_6 : decode cX11_search 6 = .ok (.iload_n 1, 1) := by decide +kernel
theorem dX11_search_7 : decode cX11_search 7 = .ok (.iload_n 2, 1) := by decide +kernel
theorem dX11_search_8 : decode cX11_search 8 = .ok (.invokevirtual 307, 3) := by decide +kernel
theorem dX11_search_11 : decode cX11_search 11 = .ok (.ifCond .eq 19, 3) := by decide +kernel
theorem dX11_search_14 : decode cX11_search 14 = .ok (.aload_n 0, 1) := by decide +kernel
theorem dX11_search_15 : decode cX11_search 15 = .ok (.iload_n 3, 1) := by decide +kernel
theorem dX11_search_16 : decode cX11_search 16 = .ok (.iconst 0, 1) := by decide +kernel
theorem dX11_search_17 : decode cX11_search 17 = .ok (.bipush 8, 2) := by decide +kernel
theorem dX11_search_19 : decode cX11_search 19 = .ok (.invokestatic 68, 3) := by decide +kernel
theorem dX11_search_22 : decode cX11_search 22 = .ok (.iconst 2, 1) := by decide +kernel
theorem dX11_search_23 : decode cX11_search 23 = .ok (.iconst 1, 1) := by decide +kernel
theorem dX11_search_24 : decode cX11_search 24 = .ok (.invokevirtual 284, 3) := by decide +kernel
theorem dX11_search_27 : decode cX11_search 27 = .ok (.ifCond .ne 5, 3) := by decide +kernel
theorem dX11_search_30 : decode cX11_search 30 = .ok (.iconst 0, 1) := by decide +kernel
theorem dX11_search_31 : decode cX11_search 31 = .ok (.ireturn, 1) := by decide +kernel
theorem dX11_search_32 : decode cX11_search 32 = .ok (.aload_n 0, 1) := by decide +kernel
theorem dX11_search_33 : decode cX11_search 33 = .ok (.iconst 0, 1) := by decide +kernel
theorem dX11_search_34 : decode cX11_search 34 = .ok (.iload_n 1, 1) := by decide +kernel
theorem dX11_search_35 : decode cX11_search 35 = .ok (.iload_n 2, 1) := by decide +kernel
theorem dX11_search_36 : decode cX11_search 36 = .ok (.aload_n 0, 1) := by decide +kernel
theorem dX11_search_37 : decode cX11_search 37 = .ok (.getfield 37, 3) := by decide +kernel
theorem dX11_search_40 : decode cX11_search 40 = .ok (.iconst 1, 1) := by decide +kernel
theorem dX11_search_41 : decode cX11_search 41 = .ok (.iaload, 1) := by decide +kernel
theorem dX11_search_42 : decode cX11_search 42 = .ok (.invokevirtual 199, 3) := by decide +kernel
theorem dX11_search_45 : decode cX11_search 45 = .ok (.iload_n 3, 1) := by decide +kernel
theorem dX11_search_46 : decode cX11_search 46 = .ok (.tableswitch 86 0 7 #[46, 51, 56, 61, 66, 71, 76, 81], 46) := by decide +kernel
theorem dX11_search_92 : decode cX11_search 92 = .ok (.aload_n 0, 1) := by decide +kernel
theorem dX11_search_93 : decode cX11_search 93 = .ok (.getfield 152, 3) := by decide +kernel
theorem dX11_search_96 : decode cX11_search 96 = .ok (.ireturn, 1) := by decide +kernel
theorem dX11_search_97 : decode cX11_search 97 = .ok (.aload_n 0, 1) := by decide +kernel
theorem dX11_search_98 : decode cX11_search 98 = .ok (.getfield 155, 3) := by decide +kernel
theorem dX11_search_101 : decode cX11_search 101 = .ok (.ireturn, 1) := by decide +kernel
theorem dX11_search_102 : decode cX11_search 102 = .ok (.aload_n 0, 1) := by decide +kernel
theorem dX11_search_103 : decode cX11_search 103 = .ok (.getfield 164, 3) := by decide +kernel
theorem dX11_search_106 : decode cX11_search 106 = .ok (.ireturn, 1) := by decide +kernel
theorem dX11_search_107 : decode cX11_search 107 = .ok (.aload_n 0, 1) := by decide +kernel
theorem dX11_search_108 : decode cX11_search 108 = .ok (.getfield 167, 3) := by decide +kernel
theorem dX11_search_111 : decode cX11_search 111 = .ok (.ireturn, 1) := by decide +kernel
theorem dX11_search_112 : decode cX11_search 112 = .ok (.aload_n 0, 1) := by decide +kernel
theorem dX11_search_113 : decode cX11_search 113 = .ok (.getfield 170, 3) := by decide +kernel
theorem dX11_search_116 : decode cX11_search 116 = .ok (.ireturn, 1) := by decide +kernel
theorem dX11_search_117 : decode cX11_search 117 = .ok (.aload_n 0, 1) := by decide +kernel
theorem dX11_search_118 : decode cX11_search 118 = .ok (.getfield 173, 3) := by decide +kernel
theorem dX11_search_121 : decode cX11_search 121 = .ok (.ireturn, 1) := by decide +kernel
theorem dX11_search_122 : decode cX11_search 122 = .ok (.aload_n 0, 1) := by decide +kernel
theorem dX11_search_123 : decode cX11_search 123 = .ok (.getfield 149, 3) := by decide +kernel
theorem dX11_search_126 : decode cX11_search 126 = .ok (.ireturn, 1) := by decide +kernel
theorem dX11_search_127 : decode cX11_search 127 = .ok (.aload_n 0, 1) := by decide +kernel
theorem dX11_search_128 : decode cX11_search 128 = .ok (.getfield 158, 3) := by decide +kernel
theorem dX11_search_131 : decode cX11_search 131 = .ok (.ireturn, 1) := by decide +kernel
theorem dX11_search_132 : decode cX11_search 132 = .ok (.aload_n 0, 1) := by decide +kernel
theorem dX11_search_133 : decode cX11_search 133 = .ok (.getfield 161, 3) := by decide +kernel
theorem dX11_search_136 : decode cX11_search 136 = .ok (.ireturn, 1) := by decide +kernel
set_option maxHeartbeats 4000000 in
set_option maxRecDepth 100000 in
theorem tX11_search {l : Launch} {g : yG} {n : Nat} {σ : yM} (hn : 172 ≤ n) (w h : Int) (T S F P O : Int → Int → Int) (nf df nl : Int) (lg : Int → Int → Int) (s re fo ra tu we sh : Int) (H : List aX) (ht : Bool) (K : Int → Int → Int) (tl : Int) (tb : Int → Int) (fa r1 r2 N : Int) (hV : mV σ (w, h, (T, S, F, P, O, nf, df, nl, lg), (s, re, fo, ra, tu, we, sh), H, ht, K, tl, tb, fa, r1, r2)) (hW : aW N (w, h, (T, S, F, P, O, nf, df, nl, lg), (s, re, fo, ra, tu, we, sh), H, ht, K, tl, tb, fa, r1, r2)) (x y a : Int) (hx : -2147483648 ≤ x ∧ x < 2147483648) (hy : -2147483648 ≤ y ∧ y < 2147483648) (ha : -2147483648 ≤ a ∧ a < 2147483648) : yMet l g yX11_search cX11_search 4 (some .int) (rmL 7) [yR g 155, yI x, yI y, yI a] (SC g) n σ (SC g) (yPi (fun zv n' σ' => n ≤ n' ∧ (((sIn w h x y = true) ∧ (0 ≤ a ∧ a ≤ 8) ∧ zv = qV (sSe w h T S F s fo tu we sh x y re) a ∧ mO σ σ' (w, h, (T, S, F, P, O, nf, df, nl, lg), (s, re, fo, ra, tu, we, sh), H, ht, K, tl, tb, fa, r1, r2) 0) ∨ (¬ (sIn w h x y = true) ∧ mO σ σ' (bN (w, h, (T, S, F, P, O, nf, df, nl, lg), (s, re, fo, ra, tu, we, sh), H, ht, K, tl, tb, fa, r1, r2)) 1) ∨ ((sIn w h x y = true) ∧ ¬ (0 ≤ a ∧ a ≤ 8) ∧ mO σ σ' (bA (w, h, (T, S, F, P, O, nf, df, nl, lg), (s, re, fo, ra, tu, we, sh), H, ht, K, tl, tb, fa, r1, r2)) 2)))) := by
  obtain ⟨⟨hA, hL⟩, hS, hH, ⟨hb1, hb2⟩, ⟨ht1, ht2⟩, hfa, hr1, hr2⟩ := id hV
  obtain ⟨hw1, hw2, hw3, hw4⟩ := id hA.1.1
  obtain ⟨hs1, hs2, hs3, hs4, hs5, hs6, hs7⟩ := id hS.2
  have hz : (0 : Nat) < 3 := by omega
  refine y_start (by decide) (Nat.le_of_ble_eq_true rfl) (fun X0 hF => ?_)
  show yV X0 g 4 (yQ X0 g (SC g) (yPi (fun zv n' σ' => n ≤ n' ∧ (((sIn w h x y = true) ∧ (0 ≤ a ∧ a ≤ 8) ∧ zv = qV (sSe w h T S F s fo tu we sh x y re) a ∧ mO σ σ' (w, h, (T, S, F, P, O, nf, df, nl, lg), (s, re, fo, ra, tu, we, sh), H, ht, K, tl, tb, fa, r1, r2) 0) ∨ (¬ (sIn w h x y = true) ∧ mO σ σ' (bN (w, h, (T, S, F, P, O, nf, df, nl, lg), (s, re, fo, ra, tu, we, sh), H, ht, K, tl, tb, fa, r1, r2)) 1) ∨ ((sIn w h x y = true) ∧ ¬ (0 ≤ a ∧ a ≤ 8) ∧ mO σ σ' (bA (w, h, (T, S, F, P, O, nf, df, nl, lg), (s, re, fo, ra, tu, we, sh), H, ht, K, tl, tb, fa, r1, r2)) 2)))) (rmL 7)) (SC g) n σ 0 0 0 [(0, yR g 155), (1, yI x), (2, yI y), (3, yI a)] []
  refine y_aload_n (pc := 0) hF dX11_search_0 0 rfl ?_
  refine y_iconst (pc := 1) hF dX11_search_1 ?_
  refine y_putf (pc := 2) (ci := 11) (σ' := yset σ 155 0 0) (sch' := (SC g)) hF dX11_search_2 (by omega) rfl rfl rfl iX11 0 (by decide) w_1247 tyX11 tyX11_ok nmX11 rfl rfl rfl rfl (Nat.le_of_ble_eq_true rfl) rfl (y_ps rfl) (fun k' h => ⟨yset_n h, rfl⟩) ?_
  obtain ⟨σ0, hσ0⟩ : ∃ s, s = yset σ 155 0 0 := ⟨_, rfl⟩
  rw [← hσ0]
  have zO_σ0 := hV.t0 hσ0
  obtain ⟨⟨zA_σ0, zL_σ0⟩, zS_σ0, zH_σ0, ⟨zb1_σ0, zb2_σ0⟩, ⟨zt1_σ0, zt2_σ0⟩, zfa_σ0, zr1_σ0, zr2_σ0⟩ := id zO_σ0.2.2
  refine y_aload_n (pc := 5) hF dX11_search_5 0 rfl ?_
  refine y_iload_n (pc := 6) hF dX11_search_6 1 rfl ?_
  refine y_iload_n (pc := 7) hF dX11_search_7 2 rfl ?_
  refine y_ci (y_rV (pc := 8) hF (tX11_isThere w h T S F P O hn zA_σ0 zO_σ0.2.1 x y hx hy) dX11_search_8 (by omega) rfl rfl rfl w_1468 qX11_isThere rfl ⟨Nat.le_of_ble_eq_true rfl, Nat.le_of_ble_eq_true rfl⟩ ⟨Nat.zero_le _, Nat.zero_le _⟩ (Nat.le_of_ble_eq_true rfl) rfl) rfl rfl (fun r8 n' σ8 zp8 => ?_)
  obtain ⟨zn8, zp8⟩ := zp8
  have zn8 := zn8.symm
  subst zn8
  rcases zp8 with ⟨zb8, zv8, zs8⟩ | ⟨zb8, zv8, zs8⟩
  · subst zv8; have zs8 := zs8.symm; subst zs8
    refine y_if_eq (pc := 11) hF dX11_search_11 30 rfl (by decide) (fun zc11 => absurd zc11 (by decide)) (fun _ => ?_)
    refine y_aload_n (pc := 14) hF dX11_search_14 0 rfl ?_
    refine y_iload_n (pc := 15) hF dX11_search_15 3 rfl ?_
    refine y_iconst (pc := 16) hF dX11_search_16 ?_
    refine y_bipush (pc := 17) hF dX11_search_17 (by decide) ?_
    have zz19 := y_rS (pc := 19) (As := [yI a, yI 0, yI 8]) (kk := 0) hF (tX11_within (n := n) (σ := σ0) a 0 8 (by omega) (by omega) (by omega)) dX11_search_19 w_1392 qX11_within rfl ⟨Nat.le_of_ble_eq_true rfl, Nat.le_of_ble_eq_true rfl⟩ ⟨Nat.zero_le _, Nat.zero_le _⟩ (Nat.le_of_ble_eq_true rfl) rfl (rest := [yR g 155]) (cells := 0) (slots := 0) (lv := [(0, yR g 155), (1, yI x), (2, yI y), (3, yI a)])
    refine y_cp (zz19) ?_
    refine y_iconst (pc := 22) hF dX11_search_22 ?_
    refine y_iconst (pc := 23) hF dX11_search_23 ?_
    refine y_ci (y_rV (pc := 24) hF (tX11_isFine hn zO_σ0.2.1 (decide (0 ≤ a) && decide (a ≤ 8)) 2 1 (by decide) (by decide)) dX11_search_24 (by omega) rfl rfl rfl w_1395 qX11_isFine rfl ⟨Nat.le_of_ble_eq_true rfl, Nat.le_of_ble_eq_true rfl⟩ ⟨Nat.zero_le _, Nat.zero_le _⟩ (Nat.le_of_ble_eq_true rfl) rfl) rfl rfl (fun r24 n' σ24 zp24 => ?_)
    obtain ⟨zn24, zp24⟩ := zp24
    have zn24 := zn24.symm
    subst zn24
    rcases zp24 with ⟨zb24, zv24, zs24⟩ | ⟨zb24, zv24, zs24⟩
    · subst zv24; have zs24 := zs24.symm; subst zs24
      refine y_if_ne (pc := 27) hF dX11_search_27 32 rfl (by decide) (fun _ => ?_) (fun zc27 => absurd zc27 (by decide))
      simp at zb24
      have zi := sIn_iff.mp zb8
      refine y_aload_n (pc := 32) hF dX11_search_32 0 rfl ?_
      refine y_iconst (pc := 33) hF dX11_search_33 ?_
      refine y_iload_n (pc := 34) hF dX11_search_34 1 rfl ?_
      refine y_iload_n (pc := 35) hF dX11_search_35 2 rfl ?_
      refine y_aload_n (pc := 36) hF dX11_search_36 0 rfl ?_
      refine y_get (pc := 37) (ci := 11) hF dX11_search_37 (by omega) rfl rfl rfl iX11 10 (by decide) w_1257 rfl ?_
      refine y_iconst (pc := 40) hF dX11_search_40 ?_
      refine y_iaload (pc := 41) hF dX11_search_41 (by omega) rfl (by omega) (by decide) ?_
      rw [show σ0 166 1 = re from zS_σ0.1.2.1]
      refine y_cv (y_rV (pc := 42) hF (tX11_searches 0 w h T S F P O s re fo ra tu we sh hn (by omega) zA_σ0 zS_σ0 x y zb8 re hs2) dX11_search_42 (by omega) rfl rfl rfl w_1576 qX11_searches rfl ⟨Nat.le_of_ble_eq_true rfl, Nat.le_of_ble_eq_true rfl⟩ ⟨Nat.zero_le _, Nat.zero_le _⟩ (Nat.le_of_ble_eq_true rfl) rfl) rfl rfl (fun n' σ42 zp42 => ?_)
      obtain ⟨zn42, zp42⟩ := zp42
      have zn42 := zn42.symm
      subst zn42
      have zA_σ42 := zA_σ0.fR hz zp42.1
      have zS_σ42 := zS_σ0.fR (by omega) zp42.1
      have zO_σ42 := zO_σ0.fR zp42.1 (by omega) (by omega)
      have zL_σ42 := zO_σ42.2.2.1.2
      refine y_iload_n (pc := 45) hF dX11_search_45 3 rfl ?_
      rcases Decidable.em (a = 0) with zw46_0 | zw46_0
      · refine y_tswI (pc := 46) hF dX11_search_46 (off := 46) 0 zw46_0 (by decide) rfl 92 rfl ?_
        refine y_aload_n (pc := 92) hF dX11_search_92 0 rfl ?_
        refine y_get (pc := 93) (ci := 11) hF dX11_search_93 (by omega) rfl rfl rfl iX11 19 (by decide) w_1266 rfl ?_
        exact y_iret (pc := 96) hF dX11_search_96 (Nat.zero_le _) (Nat.zero_le _) ⟨_, rfl, Nat.le_refl _, Or.inl ⟨zb8, (by omega), (by rw [← zp42.2.1]; unfold qV; simp [zw46_0]), zO_σ42⟩⟩
      rcases Decidable.em (a = 1) with zw46_1 | zw46_1
      · refine y_tswI (pc := 46) hF dX11_search_46 (off := 51) 1 zw46_1 (by decide) rfl 97 rfl ?_
        refine y_aload_n (pc := 97) hF dX11_search_97 0 rfl ?_
        refine y_get (pc := 98) (ci := 11) hF dX11_search_98 (by omega) rfl rfl rfl iX11 20 (by decide) w_1267 rfl ?_
        exact y_iret (pc := 101) hF dX11_search_101 (Nat.zero_le _) (Nat.zero_le _) ⟨_, rfl, Nat.le_refl _, Or.inl ⟨zb8, (by omega), (by rw [← zp42.2.1]; unfold qV; simp [zw46_1]), zO_σ42⟩⟩
      rcases Decidable.em (a = 2) with zw46_2 | zw46_2
      · refine y_tswI (pc := 46) hF dX11_search_46 (off := 56) 2 zw46_2 (by decide) rfl 102 rfl ?_
        refine y_aload_n (pc := 102) hF dX11_search_102 0 rfl ?_
        refine y_get (pc := 103) (ci := 11) hF dX11_search_103 (by omega) rfl rfl rfl iX11 23 (by decide) w_1270 rfl ?_
        exact y_iret (pc := 106) hF dX11_search_106 (Nat.zero_le _) (Nat.zero_le _) ⟨_, rfl, Nat.le_refl _, Or.inl ⟨zb8, (by omega), (by rw [← zp42.2.1]; unfold qV; simp [zw46_2]), zO_σ42⟩⟩
      rcases Decidable.em (a = 3) with zw46_3 | zw46_3
      · refine y_tswI (pc := 46) hF dX11_search_46 (off := 61) 3 zw46_3 (by decide) rfl 107 rfl ?_
        refine y_aload_n (pc := 107) hF dX11_search_107 0 rfl ?_
        refine y_get (pc := 108) (ci := 11) hF dX11_search_108 (by omega) rfl rfl rfl iX11 24 (by decide) w_1271 rfl ?_
        exact y_iret (pc := 111) hF dX11_search_111 (Nat.zero_le _) (Nat.zero_le _) ⟨_, rfl, Nat.le_refl _, Or.inl ⟨zb8, (by omega), (by rw [← zp42.2.1]; unfold qV; simp [zw46_3]), zO_σ42⟩⟩
      rcases Decidable.em (a = 4) with zw46_4 | zw46_4
      · refine y_tswI (pc := 46) hF dX11_search_46 (off := 66) 4 zw46_4 (by decide) rfl 112 rfl ?_
        refine y_aload_n (pc := 112) hF dX11_search_112 0 rfl ?_
        refine y_get (pc := 113) (ci := 11) hF dX11_search_113 (by omega) rfl rfl rfl iX11 25 (by decide) w_1272 rfl ?_
        exact y_iret (pc := 116) hF dX11_search_116 (Nat.zero_le _) (Nat.zero_le _) ⟨_, rfl, Nat.le_refl _, Or.inl ⟨zb8, (by omega), (by rw [← zp42.2.1]; unfold qV; simp [zw46_4]), zO_σ42⟩⟩
      rcases Decidable.em (a = 5) with zw46_5 | zw46_5
      · refine y_tswI (pc := 46) hF dX11_search_46 (off := 71) 5 zw46_5 (by decide) rfl 117 rfl ?_
        refine y_aload_n (pc := 117) hF dX11_search_117 0 rfl ?_
        refine y_get (pc := 118) (ci := 11) hF dX11_search_118 (by omega) rfl rfl rfl iX11 26 (by decide) w_1273 rfl ?_
        exact y_iret (pc := 121) hF dX11_search_121 (Nat.zero_le _) (Nat.zero_le _) ⟨_, rfl, Nat.le_refl _, Or.inl ⟨zb8, (by omega), (by rw [← zp42.2.1]; unfold qV; simp [zw46_5]), zO_σ42⟩⟩
      rcases Decidable.em (a = 6) with zw46_6 | zw46_6
      · refine y_tswI (pc := 46) hF dX11_search_46 (off := 76) 6 zw46_6 (by decide) rfl 122 rfl ?_
        refine y_aload_n (pc := 122) hF dX11_search_122 0 rfl ?_
        refine y_get (pc := 123) (ci := 11) hF dX11_search_123 (by omega) rfl rfl rfl iX11 18 (by decide) w_1265 rfl ?_
        exact y_iret (pc := 126) hF dX11_search_126 (Nat.zero_le _) (Nat.zero_le _) ⟨_, rfl, Nat.le_refl _, Or.inl ⟨zb8, (by omega), (by rw [← zp42.2.1]; unfold qV; simp [zw46_6]), zO_σ42⟩⟩
      rcases Decidable.em (a = 7) with zw46_7 | zw46_7
      · refine y_tswI (pc := 46) hF dX11_search_46 (off := 81) 7 zw46_7 (by decide) rfl 127 rfl ?_
        refine y_aload_n (pc := 127) hF dX11_search_127 0 rfl ?_
        refine y_get (pc := 128) (ci := 11) hF dX11_search_128 (by omega) rfl rfl rfl iX11 21 (by decide) w_1268 rfl ?_
        exact y_iret (pc := 131) hF dX11_search_131 (Nat.zero_le _) (Nat.zero_le _) ⟨_, rfl, Nat.le_refl _, Or.inl ⟨zb8, (by omega), (by rw [← zp42.2.1]; unfold qV; simp [zw46_7]), zO_σ42⟩⟩
      refine y_tswO (pc := 46) hF dX11_search_46 (by omega) (by omega) 132 rfl ?_
      refine y_aload_n (pc := 132) hF dX11_search_132 0 rfl ?_
      refine y_get (pc := 133) (ci := 11) hF dX11_search_133 (by omega) rfl rfl rfl iX11 22 (by decide) w_1269 rfl ?_
      exact y_iret (pc := 136) hF dX11_search_136 (Nat.zero_le _) (Nat.zero_le _) ⟨_, rfl, Nat.le_refl _, Or.inl ⟨zb8, (by omega), (by rw [← zp42.2.1]; unfold qV; simp [show ¬ a = 0 by omega, show ¬ a = 1 by omega, show ¬ a = 2 by omega, show ¬ a = 3 by omega, show ¬ a = 4 by omega, show ¬ a = 5 by omega, show ¬ a = 6 by omega, show ¬ a = 7 by omega]), zO_σ42⟩⟩
    · subst zv24; subst zs24
      refine y_if_ne (pc := 27) hF dX11_search_27 32 rfl (by decide) (fun zc27 => absurd zc27 (by decide)) (fun _ => ?_)
      refine y_iconst (pc := 30) hF dX11_search_30 ?_
      exact y_iret (pc := 31) hF dX11_search_31 (Nat.zero_le _) (Nat.zero_le _) ⟨_, rfl, Nat.le_refl _, Or.inr (Or.inr ⟨zb8, (fun ze => by simp at zb24; omega), zO_σ0.bA 2⟩)⟩
  · subst zv8; subst zs8
    refine y_if_eq (pc := 11) hF dX11_search_11 30 rfl (by decide) (fun _ => ?_) (fun zc11 => absurd zc11 (by decide))
    refine y_iconst (pc := 30) hF dX11_search_30 ?_
    exact y_iret (pc := 31) hF dX11_search_31 (Nat.zero_le _) (Nat.zero_le _) ⟨_, rfl, Nat.le_refl _, Or.inr (Or.inl ⟨(by rw [zb8]; decide), zO_σ0.bN 1⟩)⟩

theorem dX11_next_0 : decode cX11_next 0 = .ok (.aload_n 0, 1) := by decide +kernel
theorem dX11_next_1 : decode cX11_next 1 = .ok (.iconst 0, 1) := by decide +kernel
theorem dX11_next_2 : decode cX11_next 2 = .ok (.putfield 1, 3) := by decide +kernel
theorem dX11_next_5 : decode cX11_next 5 = .ok (.aload_n 0, 1) := by decide +kernel
theorem dX11_next_6 : decode cX11_next 6 = .ok (.iload_n 1, 1) := by decide +kernel
theorem dX11_next_7 : decode cX11_next 7 = .ok (.iconst 0, 1) := by decide +kernel
theorem dX11_next_8 : decode cX11_next 8 = .ok (.bipush 6, 2) := by decide +kernel
theorem dX11_next_10 : decode cX11_next 10 = .ok (.invokestatic 68, 3) := by decide +kernel
theorem dX11_next_13 : decode cX11_next 13 = .ok (.iconst 1, 1) := by decide +kernel
theorem dX11_next_14 : decode cX11_next 14 = .ok (.iconst 1, 1) := by decide +kernel
theorem dX11_next_15 : decode cX11_next 15 = .ok (.invokevirtual 284, 3) := by decide +kernel
theorem dX11_next_18 : decode cX11_next 18 = .ok (.ifCond .ne 5, 3) := by decide +kernel
theorem dX11_next_21 : decode cX11_next 21 = .ok (.iconst 0, 1) := by decide +kernel
theorem dX11_next_22 : decode cX11_next 22 = .ok (.ireturn, 1) := by decide +kernel
theorem dX11_next_23 : decode cX11_next 23 = .ok (.aload_n 0, 1) := by decide +kernel
theorem dX11_next_24 : decode cX11_next 24 = .ok (.iconst 0, 1) := by decide +kernel
theorem dX11_next_25 : decode cX11_next 25 = .ok (.invokevirtual 203, 3) := by decide +kernel
theorem dX11_next_28 : decode cX11_next 28 = .ok (.istore_n 2, 1) := by decide +kernel
theorem dX11_next_29 : decode cX11_next 29 = .ok (.iload_n 1, 1) := by decide +kernel
theorem dX11_next_30 : decode cX11_next 30 = .ok (.iconst 3, 1) := by decide +kernel
theorem dX11_next_31 : decode cX11_next 31 = .ok (.if_icmp .ge 31, 3) := by decide +kernel
theorem dX11_next_34 : decode cX11_next 34 = .ok (.iload_n 1, 1) := by decide +kernel
theorem dX11_next_35 : decode cX11_next 35 = .ok (.ifCond .ne 10, 3) := by decide +kernel
theorem dX11_next_38 : decode cX11_next 38 = .ok (.aload_n 0, 1) := by decide +kernel
theorem dX11_next_39 : decode cX11_next 39 = .ok (.getfield 112, 3) := by decide +kernel
theorem dX11_next_42 : decode cX11_next 42 = .ok (.goto 19, 3) := by decide +kernel
theorem dX11_next_45 : decode cX11_next 45 = .ok (.iload_n 1, 1) := by decide +kernel
theorem dX11_next_46 : decode cX11_next 46 = .ok (.iconst 1, 1) := by decide +kernel
theorem dX11_next_47 : decode cX11_next 47 = .ok (.if_icmp .ne 10, 3) := by decide +kernel
theorem dX11_next_50 : decode cX11_next 50 = .ok (.aload_n 0, 1) := by decide +kernel
theorem dX11_next_51 : decode cX11_next 51 = .ok (.getfield 115, 3) := by decide +kernel
theorem dX11_next_54 : decode cX11_next 54 = .ok (.goto 7, 3) := by decide +kernel
theorem dX11_next_57 : decode cX11_next 57 = .ok (.aload_n 0, 1) := by decide +kernel
theorem dX11_next_58 : decode cX11_next 58 = .ok (.getfield 118, 3) := by decide +kernel
theorem dX11_next_61 : decode cX11_next 61 = .ok (.ireturn, 1) := by decide +kernel
theorem dX11_next_62 : decode cX11_next 62 = .ok (.iload_n 2, 1) := by decide +kernel
theorem dX11_next_63 : decode cX11_next 63 = .ok (.ifCond .ne 5, 3) := by decide +kernel
theorem dX11_next_66 : decode cX11_next 66 = .ok (.iconst (-1), 1) := by decide +kernel
theorem dX11_next_67 : decode cX11_next 67 = .ok (.ireturn, 1) := by decide +kernel
theorem dX11_next_68 : decode cX11_next 68 = .ok (.aload_n 0, 1) := by decide +kernel
theorem dX11_next_69 : decode cX11_next 69 = .ok (.iconst 0, 1) := by decide +kernel
theorem dX11_next_70 : decode cX11_next 70 = .ok (.aload_n 0, 1) := by decide +kernel
theorem dX11_next_71 : decode cX11_next 71 = .ok (.getfield 112, 3) := by decide +kernel
theorem dX11_next_74 : decode cX11_next 74 = .ok (.aload_n 0, 1) := by decide +kernel
theorem dX11_next_75 : decode cX11_next 75 = .ok (.getfield 115, 3) := by decide +kernel
theorem dX11_next_78 : decode cX11_next 78 = .ok (.aload_n 0, 1) := by decide +kernel
theorem dX11_next_79 : decode cX11_next 79 = .ok (.getfield 37, 3) := by decide +kernel
theorem dX11_next_82 : decode cX11_next 82 = .ok (.iconst 1, 1) := by decide +kernel
theorem dX11_next_83 : decode cX11_next 83 = .ok (.iaload, 1) := by decide +kernel
theorem dX11_next_84 : decode cX11_next 84 = .ok (.invokevirtual 199, 3) := by decide +kernel
theorem dX11_next_87 : decode cX11_next 87 = .ok (.iload_n 1, 1) := by decide +kernel
theorem dX11_next_88 : decode cX11_next 88 = .ok (.iconst 3, 1) := by decide +kernel
theorem dX11_next_89 : decode cX11_next 89 = .ok (.if_icmp .ne 10, 3) := by decide +kernel
theorem dX11_next_92 : decode cX11_next 92 = .ok (.aload_n 0, 1) := by decide +kernel
theorem dX11_next_93 : decode cX11_next 93 = .ok (.getfield 152, 3) := by decide +kernel
theorem dX11_next_96 : decode cX11_next 96 = .ok (.goto 31, 3) := by decide +kernel
theorem dX11_next_99 : decode cX11_next 99 = .ok (.iload_n 1, 1) := by decide +kernel
theorem dX11_next_100 : decode cX11_next 100 = .ok (.iconst 4, 1) := by decide +kernel
theorem dX11_next_101 : decode cX11_next 101 = .ok (.if_icmp .ne 10, 3) := by decide +kernel
theorem dX11_next_104 : decode cX11_next 104 = .ok (.aload_n 0, 1) := by decide +kernel
theorem dX11_next_105 : decode cX11_next 105 = .ok (.getfield 155, 3) := by decide +kernel
theorem dX11_next_108 : decode cX11_next 108 = .ok (.goto 19, 3) := by decide +kernel
theorem dX11_next_111 : decode cX11_next 111 = .ok (.iload_n 1, 1) := by decide +kernel
theorem dX11_next_112 : decode cX11_next 112 = .ok (.iconst 5, 1) := by decide +kernel
theorem dX11_next_113 : decode cX11_next 113 = .ok (.if_icmp .ne 10, 3) := by decide +kernel
theorem dX11_next_116 : decode cX11_next 116 = .ok (.aload_n 0, 1) := by decide +kernel
theorem dX11_next_117 : decode cX11_next 117 = .ok (.getfield 164, 3) := by decide +kernel
theorem dX11_next_120 : decode cX11_next 120 = .ok (.goto 7, 3) := by decide +kernel
theorem dX11_next_123 : decode cX11_next 123 = .ok (.aload_n 0, 1) := by decide +kernel
theorem dX11_next_124 : decode cX11_next 124 = .ok (.getfield 158, 3) := by decide +kernel
theorem dX11_next_127 : decode cX11_next 127 = .ok (.ireturn, 1) := by decide +kernel
set_option maxHeartbeats 4000000 in
set_option maxRecDepth 100000 in
theorem tX11_next {l : Launch} {g : yG} {n : Nat} {σ : yM} (hn : 172 ≤ n) (w h : Int) (T S F P O : Int → Int → Int) (nf df nl : Int) (lg : Int → Int → Int) (s re fo ra tu we sh : Int) (H : List aX) (ht : Bool) (K : Int → Int → Int) (tl : Int) (tb : Int → Int) (fa r1 r2 N : Int) (hV : mV σ (w, h, (T, S, F, P, O, nf, df, nl, lg), (s, re, fo, ra, tu, we, sh), H, ht, K, tl, tb, fa, r1, r2)) (hW : aW N (w, h, (T, S, F, P, O, nf, df, nl, lg), (s, re, fo, ra, tu, we, sh), H, ht, K, tl, tb, fa, r1, r2)) (a : Int) (ha : -2147483648 ≤ a ∧ a < 2147483648) : yMet l g yX11_next cX11_next 3 (some .int) (rmL 8) [yR g 155, yI a] (SC g) n σ (SC g) (yPi (fun zv n' σ' => n ≤ n' ∧ (((0 ≤ a ∧ a ≤ 6) ∧ zv = nV w h T S F s re fo ra tu we sh a ∧ mO σ σ' (w, h, (T, S, F, P, O, nf, df, nl, lg), (s, re, fo, ra, tu, we, sh), H, ht, K, tl, tb, fa, r1, r2) 0) ∨ (¬ (0 ≤ a ∧ a ≤ 6) ∧ mO σ σ' (bA (w, h, (T, S, F, P, O, nf, df, nl, lg), (s, re, fo, ra, tu, we, sh), H, ht, K, tl, tb, fa, r1, r2)) 1)))) := by
  obtain ⟨⟨hA, hL⟩, hS, hH, ⟨hb1, hb2⟩, ⟨ht1, ht2⟩, hfa, hr1, hr2⟩ := id hV
  obtain ⟨hw1, hw2, hw3, hw4⟩ := id hA.1.1
  obtain ⟨hs1, hs2, hs3, hs4, hs5, hs6, hs7⟩ := id hS.2
  have hz : (0 : Nat) < 3 := by omega
  refine y_start (by decide) (Nat.le_of_ble_eq_true rfl) (fun X0 hF => ?_)
  show yV X0 g 3 (yQ X0 g (SC g) (yPi (fun zv n' σ' => n ≤ n' ∧ (((0 ≤ a ∧ a ≤ 6) ∧ zv = nV w h T S F s re fo ra tu we sh a ∧ mO σ σ' (w, h, (T, S, F, P, O, nf, df, nl, lg), (s, re, fo, ra, tu, we, sh), H, ht, K, tl, tb, fa, r1, r2) 0) ∨ (¬ (0 ≤ a ∧ a ≤ 6) ∧ mO σ σ' (bA (w, h, (T, S, F, P, O, nf, df, nl, lg), (s, re, fo, ra, tu, we, sh), H, ht, K, tl, tb, fa, r1, r2)) 1)))) (rmL 8)) (SC g) n σ 0 0 0 [(0, yR g 155), (1, yI a)] []
  refine y_aload_n (pc := 0) hF dX11_next_0 0 rfl ?_
  refine y_iconst (pc := 1) hF dX11_next_1 ?_
  refine y_putf (pc := 2) (ci := 11) (σ' := yset σ 155 0 0) (sch' := (SC g)) hF dX11_next_2 (by omega) rfl rfl rfl iX11 0 (by decide) w_1247 tyX11 tyX11_ok nmX11 rfl rfl rfl rfl (Nat.le_of_ble_eq_true rfl) rfl (y_ps rfl) (fun k' h => ⟨yset_n h, rfl⟩) ?_
  obtain ⟨σ0, hσ0⟩ : ∃ s, s = yset σ 155 0 0 := ⟨_, rfl⟩
  rw [← hσ0]
  have zO_σ0 := hV.t0 hσ0
  obtain ⟨⟨zA_σ0, zL_σ0⟩, zS_σ0, zH_σ0, ⟨zb1_σ0, zb2_σ0⟩, ⟨zt1_σ0, zt2_σ0⟩, zfa_σ0, zr1_σ0, zr2_σ0⟩ := id zO_σ0.2.2
  refine y_aload_n (pc := 5) hF dX11_next_5 0 rfl ?_
  refine y_iload_n (pc := 6) hF dX11_next_6 1 rfl ?_
  refine y_iconst (pc := 7) hF dX11_next_7 ?_
  refine y_bipush (pc := 8) hF dX11_next_8 (by decide) ?_
  have zz10 := y_rS (pc := 10) (As := [yI a, yI 0, yI 6]) (kk := 0) hF (tX11_within (n := n) (σ := σ0) a 0 6 (by omega) (by omega) (by omega)) dX11_next_10 w_1392 qX11_within rfl ⟨Nat.le_of_ble_eq_true rfl, Nat.le_of_ble_eq_true rfl⟩ ⟨Nat.zero_le _, Nat.zero_le _⟩ (Nat.le_of_ble_eq_true rfl) rfl (rest := [yR g 155]) (cells := 0) (slots := 0) (lv := [(0, yR g 155), (1, yI a)])
  refine y_cp (zz10) ?_
  refine y_iconst (pc := 13) hF dX11_next_13 ?_
  refine y_iconst (pc := 14) hF dX11_next_14 ?_
  refine y_ci (y_rV (pc := 15) hF (tX11_isFine hn zO_σ0.2.1 (decide (0 ≤ a) && decide (a ≤ 6)) 1 1 (by decide) (by decide)) dX11_next_15 (by omega) rfl rfl rfl w_1395 qX11_isFine rfl ⟨Nat.le_of_ble_eq_true rfl, Nat.le_of_ble_eq_true rfl⟩ ⟨Nat.zero_le _, Nat.zero_le _⟩ (Nat.le_of_ble_eq_true rfl) rfl) rfl rfl (fun r15 n' σ15 zp15 => ?_)
  obtain ⟨zn15, zp15⟩ := zp15
  have zn15 := zn15.symm
  subst zn15
  rcases zp15 with ⟨zb15, zv15, zs15⟩ | ⟨zb15, zv15, zs15⟩
  · subst zv15; have zs15 := zs15.symm; subst zs15
    refine y_if_ne (pc := 18) hF dX11_next_18 23 rfl (by decide) (fun _ => ?_) (fun zc18 => absurd zc18 (by decide))
    simp at zb15
    refine y_aload_n (pc := 23) hF dX11_next_23 0 rfl ?_
    refine y_iconst (pc := 24) hF dX11_next_24 ?_
    refine y_ci (y_rV (pc := 25) hF (tX11_findsNext 0 w h T S F P O s re fo ra tu we sh hn (by omega) zA_σ0 zS_σ0) dX11_next_25 (by omega) rfl rfl rfl w_1496 qX11_findsNext rfl ⟨Nat.le_of_ble_eq_true rfl, Nat.le_of_ble_eq_true rfl⟩ ⟨Nat.zero_le _, Nat.zero_le _⟩ (Nat.le_of_ble_eq_true rfl) rfl) rfl rfl (fun r25 n' σ25 zp25 => ?_)
    obtain ⟨zn25, zv25, zp25⟩ := zp25
    have zn25 := zn25.symm
    subst zn25
    subst zv25
    have zA_σ25 := zA_σ0.fR hz zp25.1
    have zS_σ25 := zS_σ0.fR (by omega) zp25.1
    have zO_σ25 := zO_σ0.fR zp25.1 (by omega) (by omega)
    have zL_σ25 := zO_σ25.2.2.1.2
    refine y_istore_n (pc := 28) (lv' := [(0, yR g 155), (1, yI a), (2, yI (bi (decide ((sNx w h T S s ra).1 ≠ -1))))]) hF dX11_next_28 (by decide) rfl rfl ?_
    refine y_iload_n (pc := 29) hF dX11_next_29 1 rfl ?_
    refine y_iconst (pc := 30) hF dX11_next_30 ?_
    refine y_icmp_ge (pc := 31) hF dX11_next_31 62 rfl (by omega) (by omega) (fun zc31 => ?_) (fun zc31 => ?_)
    · skip
      refine y_iload_n (pc := 62) hF dX11_next_62 2 rfl ?_
      refine y_if_ne (pc := 63) hF dX11_next_63 68 rfl bi_r (fun zc63 => ?_) (fun zc63 => ?_)
      · replace zc63 := bi_n0.mp zc63
        have zn1 : (sNx w h T S s ra).1 ≠ -1 := by simpa using zc63
        have zin := sFr_in (sNx_fr zn1)
        refine y_aload_n (pc := 68) hF dX11_next_68 0 rfl ?_
        refine y_iconst (pc := 69) hF dX11_next_69 ?_
        refine y_aload_n (pc := 70) hF dX11_next_70 0 rfl ?_
        refine y_get (pc := 71) (ci := 11) hF dX11_next_71 (by omega) rfl rfl rfl iX11 13 (by decide) w_1260 rfl ?_
        rw [show σ25 155 13 = (sNx w h T S s ra).1 from (congrArg Prod.fst zp25.2)]
        refine y_aload_n (pc := 74) hF dX11_next_74 0 rfl ?_
        refine y_get (pc := 75) (ci := 11) hF dX11_next_75 (by omega) rfl rfl rfl iX11 14 (by decide) w_1261 rfl ?_
        rw [show σ25 155 14 = (sNx w h T S s ra).2.1 from (congrArg (fun q => q.2.1) zp25.2)]
        refine y_aload_n (pc := 78) hF dX11_next_78 0 rfl ?_
        refine y_get (pc := 79) (ci := 11) hF dX11_next_79 (by omega) rfl rfl rfl iX11 10 (by decide) w_1257 rfl ?_
        refine y_iconst (pc := 82) hF dX11_next_82 ?_
        refine y_iaload (pc := 83) hF dX11_next_83 (by omega) rfl (by omega) (by decide) ?_
        rw [show σ25 166 1 = re from zS_σ25.1.2.1]
        refine y_cv (y_rV (pc := 84) hF (tX11_searches 0 w h T S F P O s re fo ra tu we sh hn (by omega) zA_σ25 zS_σ25 ((sNx w h T S s ra).1) ((sNx w h T S s ra).2.1) zin re hs2) dX11_next_84 (by omega) rfl rfl rfl w_1576 qX11_searches rfl ⟨Nat.le_of_ble_eq_true rfl, Nat.le_of_ble_eq_true rfl⟩ ⟨Nat.zero_le _, Nat.zero_le _⟩ (Nat.le_of_ble_eq_true rfl) rfl) rfl rfl (fun n' σ84 zp84 => ?_)
        obtain ⟨zn84, zp84⟩ := zp84
        have zn84 := zn84.symm
        subst zn84
        have zA_σ84 := zA_σ25.fR hz zp84.1
        have zS_σ84 := zS_σ25.fR (by omega) zp84.1
        have zO_σ84 := zO_σ25.fR zp84.1 (by omega) (by omega)
        have zL_σ84 := zO_σ84.2.2.1.2
        refine y_iload_n (pc := 87) hF dX11_next_87 1 rfl ?_
        refine y_iconst (pc := 88) hF dX11_next_88 ?_
        refine y_icmp_ne (pc := 89) hF dX11_next_89 99 rfl (by omega) (by omega) (fun zc89 => ?_) (fun zc89 => ?_)
        · skip
          refine y_iload_n (pc := 99) hF dX11_next_99 1 rfl ?_
          refine y_iconst (pc := 100) hF dX11_next_100 ?_
          refine y_icmp_ne (pc := 101) hF dX11_next_101 111 rfl (by omega) (by omega) (fun zc101 => ?_) (fun zc101 => ?_)
          · skip
            refine y_iload_n (pc := 111) hF dX11_next_111 1 rfl ?_
            refine y_iconst (pc := 112) hF dX11_next_112 ?_
            refine y_icmp_ne (pc := 113) hF dX11_next_113 123 rfl (by omega) (by omega) (fun zc113 => ?_) (fun zc113 => ?_)
            · skip
              refine y_aload_n (pc := 123) hF dX11_next_123 0 rfl ?_
              refine y_get (pc := 124) (ci := 11) hF dX11_next_124 (by omega) rfl rfl rfl iX11 21 (by decide) w_1268 rfl ?_
              exact y_iret (pc := 127) hF dX11_next_127 (Nat.zero_le _) (Nat.zero_le _) ⟨_, rfl, Nat.le_refl _, Or.inl ⟨(by omega), (by unfold nV; rw [if_neg zn1, if_neg (by omega), if_neg (by omega), if_neg (by omega), ← zp84.2.1]; simp only [qV]; (repeat' split) <;> first | rfl | omega | (exfalso; omega)), zO_σ84⟩⟩
            · skip
              refine y_aload_n (pc := 116) hF dX11_next_116 0 rfl ?_
              refine y_get (pc := 117) (ci := 11) hF dX11_next_117 (by omega) rfl rfl rfl iX11 23 (by decide) w_1270 rfl ?_
              refine y_goto (pc := 120) hF dX11_next_120 127 rfl ?_
              exact y_iret (pc := 127) hF dX11_next_127 (Nat.zero_le _) (Nat.zero_le _) ⟨_, rfl, Nat.le_refl _, Or.inl ⟨(by omega), (by unfold nV; rw [if_neg zn1, if_neg (by omega), if_neg (by omega), if_neg (by omega), ← zp84.2.1]; simp only [qV]; (repeat' split) <;> first | rfl | omega | (exfalso; omega)), zO_σ84⟩⟩
          · skip
            refine y_aload_n (pc := 104) hF dX11_next_104 0 rfl ?_
            refine y_get (pc := 105) (ci := 11) hF dX11_next_105 (by omega) rfl rfl rfl iX11 20 (by decide) w_1267 rfl ?_
            refine y_goto (pc := 108) hF dX11_next_108 127 rfl ?_
            exact y_iret (pc := 127) hF dX11_next_127 (Nat.zero_le _) (Nat.zero_le _) ⟨_, rfl, Nat.le_refl _, Or.inl ⟨(by omega), (by unfold nV; rw [if_neg zn1, if_neg (by omega), if_neg (by omega), if_neg (by omega), ← zp84.2.1]; simp only [qV]; (repeat' split) <;> first | rfl | omega | (exfalso; omega)), zO_σ84⟩⟩
        · skip
          refine y_aload_n (pc := 92) hF dX11_next_92 0 rfl ?_
          refine y_get (pc := 93) (ci := 11) hF dX11_next_93 (by omega) rfl rfl rfl iX11 19 (by decide) w_1266 rfl ?_
          refine y_goto (pc := 96) hF dX11_next_96 127 rfl ?_
          exact y_iret (pc := 127) hF dX11_next_127 (Nat.zero_le _) (Nat.zero_le _) ⟨_, rfl, Nat.le_refl _, Or.inl ⟨(by omega), (by unfold nV; rw [if_neg zn1, if_neg (by omega), if_neg (by omega), if_neg (by omega), ← zp84.2.1]; simp only [qV]; (repeat' split) <;> first | rfl | omega | (exfalso; omega)), zO_σ84⟩⟩
      · replace zc63 := bi_0.mp zc63
        refine y_iconst (pc := 66) hF dX11_next_66 ?_
        exact y_iret (pc := 67) hF dX11_next_67 (Nat.zero_le _) (Nat.zero_le _) ⟨_, rfl, Nat.le_refl _, Or.inl ⟨(by omega), (by unfold nV; rw [if_pos (by simpa using zc63)]), zO_σ25⟩⟩
    · skip
      refine y_iload_n (pc := 34) hF dX11_next_34 1 rfl ?_
      refine y_if_ne (pc := 35) hF dX11_next_35 45 rfl (by omega) (fun zc35 => ?_) (fun zc35 => ?_)
      · skip
        refine y_iload_n (pc := 45) hF dX11_next_45 1 rfl ?_
        refine y_iconst (pc := 46) hF dX11_next_46 ?_
        refine y_icmp_ne (pc := 47) hF dX11_next_47 57 rfl (by omega) (by omega) (fun zc47 => ?_) (fun zc47 => ?_)
        · skip
          refine y_aload_n (pc := 57) hF dX11_next_57 0 rfl ?_
          refine y_get (pc := 58) (ci := 11) hF dX11_next_58 (by omega) rfl rfl rfl iX11 15 (by decide) w_1262 rfl ?_
          exact y_iret (pc := 61) hF dX11_next_61 (Nat.zero_le _) (Nat.zero_le _) ⟨_, rfl, Nat.le_refl _, Or.inl ⟨(by omega), (by have zz := zp25.2; by_cases zq : (sNx w h T S s ra).1 = -1; (unfold nV; rw [if_pos zq]; rw [sNx_no zq] at zz; simp only [Prod.mk.injEq] at zz; omega); (unfold nV; rw [if_neg zq, ← zz]; (repeat' split) <;> first | rfl | omega | (exfalso; omega))), zO_σ25⟩⟩
        · skip
          refine y_aload_n (pc := 50) hF dX11_next_50 0 rfl ?_
          refine y_get (pc := 51) (ci := 11) hF dX11_next_51 (by omega) rfl rfl rfl iX11 14 (by decide) w_1261 rfl ?_
          refine y_goto (pc := 54) hF dX11_next_54 61 rfl ?_
          exact y_iret (pc := 61) hF dX11_next_61 (Nat.zero_le _) (Nat.zero_le _) ⟨_, rfl, Nat.le_refl _, Or.inl ⟨(by omega), (by have zz := zp25.2; by_cases zq : (sNx w h T S s ra).1 = -1; (unfold nV; rw [if_pos zq]; rw [sNx_no zq] at zz; simp only [Prod.mk.injEq] at zz; omega); (unfold nV; rw [if_neg zq, ← zz]; (repeat' split) <;> first | rfl | omega | (exfalso; omega))), zO_σ25⟩⟩
      · skip
        refine y_aload_n (pc := 38) hF dX11_next_38 0 rfl ?_
        refine y_get (pc := 39) (ci := 11) hF dX11_next_39 (by omega) rfl rfl rfl iX11 13 (by decide) w_1260 rfl ?_
        refine y_goto (pc := 42) hF dX11_next_42 61 rfl ?_
        exact y_iret (pc := 61) hF dX11_next_61 (Nat.zero_le _) (Nat.zero_le _) ⟨_, rfl, Nat.le_refl _, Or.inl ⟨(by omega), (by have zz := zp25.2; by_cases zq : (sNx w h T S s ra).1 = -1; (unfold nV; rw [if_pos zq]; rw [sNx_no zq] at zz; simp only [Prod.mk.injEq] at zz; omega); (unfold nV; rw [if_neg zq, ← zz]; (repeat' split) <;> first | rfl | omega | (exfalso; omega))), zO_σ25⟩⟩
  · subst zv15; subst zs15
    refine y_if_ne (pc := 18) hF dX11_next_18 23 rfl (by decide) (fun zc18 => absurd zc18 (by decide)) (fun _ => ?_)
    refine y_iconst (pc := 21) hF dX11_next_21 ?_
    exact y_iret (pc := 22) hF dX11_next_22 (Nat.zero_le _) (Nat.zero_le _) ⟨_, rfl, Nat.le_refl _, Or.inr ⟨(fun ze => by simp at zb15; omega), zO_σ0.bA 1⟩⟩

theorem dX11_difference_0 : decode cX11_difference 0 = .ok (.aload_n 0, 1) := by decide +kernel
theorem dX11_difference_1 : decode cX11_difference 1 = .ok (.iconst 0, 1) := by decide +kernel
theorem dX11_difference_2 : decode cX11_difference 2 = .ok (.putfield 1, 3) := by decide +kernel
theorem dX11_difference_5 : decode cX11_difference 5 = .ok (.aload_n 0, 1) := by decide +kernel
theorem dX11_difference_6 : decode cX11_difference 6 = .ok (.aload_n 0, 1) := by decide +kernel
theorem dX11_difference_7 : decode cX11_difference 7 = .ok (.iconst 0, 1) := by decide +kernel
theorem dX11_difference_8 : decode cX11_difference 8 = .ok (.iload_n 1, 1) := by decide +kernel
theorem dX11_difference_9 : decode cX11_difference 9 = .ok (.iload_n 2, 1) := by decide +kernel
theorem dX11_difference_10 : decode cX11_difference 10 = .ok (.invokevirtual 72, 3) := by decide +kernel
theorem dX11_difference_13 : decode cX11_difference 13 = .ok (.ifCond .eq 18, 3) := by decide +kernel
theorem dX11_difference_16 : decode cX11_difference 16 = .ok (.aload_n 0, 1) := by decide +kernel
theorem dX11_difference_17 : decode cX11_difference 17 = .ok (.iconst 0, 1) := by decide +kernel
theorem dX11_difference_18 : decode cX11_difference 18 = .ok (.iload_n 3, 1) := by decide +kernel
theorem dX11_difference_19 : decode cX11_difference 19 = .ok (.iload 4, 2) := by decide +kernel
theorem dX11_difference_21 : decode cX11_difference 21 = .ok (.invokevirtual 72, 3) := by decide +kernel
theorem dX11_difference_24 : decode cX11_difference 24 = .ok (.ifCond .eq 7, 3) := by decide +kernel
theorem dX11_difference_27 : decode cX11_difference 27 = .ok (.iconst 1, 1) := by decide +kernel
theorem dX11_difference_28 : decode cX11_difference 28 = .ok (.goto 4, 3) := by decide +kernel
theorem dX11_difference_31 : decode cX11_difference 31 = .ok (.iconst 0, 1) := by decide +kernel
theorem dX11_difference_32 : decode cX11_difference 32 = .ok (.iconst 1, 1) := by decide +kernel
theorem dX11_difference_33 : decode cX11_difference 33 = .ok (.iconst 0, 1) := by decide +kernel
theorem dX11_difference_34 : decode cX11_difference 34 = .ok (.invokevirtual 284, 3) := by decide +kernel
theorem dX11_difference_37 : decode cX11_difference 37 = .ok (.ifCond .eq 20, 3) := by decide +kernel
theorem dX11_difference_40 : decode cX11_difference 40 = .ok (.aload_n 0, 1) := by decide +kernel
theorem dX11_difference_41 : decode cX11_difference 41 = .ok (.iload 5, 2) := by decide +kernel
theorem dX11_difference_43 : decode cX11_difference 43 = .ok (.iconst 0, 1) := by decide +kernel
theorem dX11_difference_44 : decode cX11_difference 44 = .ok (.bipush 15, 2) := by decide +kernel
theorem dX11_difference_46 : decode cX11_difference 46 = .ok (.invokestatic 68, 3) := by decide +kernel
theorem dX11_difference_49 : decode cX11_difference 49 = .ok (.iconst 2, 1) := by decide +kernel
theorem dX11_difference_50 : decode cX11_difference 50 = .ok (.iconst 1, 1) := by decide +kernel
theorem dX11_difference_51 : decode cX11_difference 51 = .ok (.invokevirtual 284, 3) := by decide +kernel
theorem dX11_difference_54 : decode cX11_difference 54 = .ok (.ifCond .ne 5, 3) := by decide +kernel
theorem dX11_difference_57 : decode cX11_difference 57 = .ok (.iconst 0, 1) := by decide +kernel
theorem dX11_difference_58 : decode cX11_difference 58 = .ok (.ireturn, 1) := by decide +kernel
theorem dX11_difference_59 : decode cX11_difference 59 = .ok (.aload_n 0, 1) := by decide +kernel
theorem dX11_difference_60 : decode cX11_difference 60 = .ok (.iload_n 1, 1) := by decide +kernel
theorem dX11_difference_61 : decode cX11_difference 61 = .ok (.iload_n 2, 1) := by decide +kernel
theorem dX11_difference_62 : decode cX11_difference 62 = .ok (.iload_n 3, 1) := by decide +kernel
theorem dX11_difference_63 : decode cX11_difference 63 = .ok (.iload 4, 2) := by decide +kernel
theorem dX11_difference_65 : decode cX11_difference 65 = .ok (.aload_n 0, 1) := by decide +kernel
theorem dX11_difference_66 : decode cX11_difference 66 = .ok (.getfield 37, 3) := by decide +kernel
theorem dX11_difference_69 : decode cX11_difference 69 = .ok (.iconst 1, 1) := by decide +kernel
theorem dX11_difference_70 : decode cX11_difference 70 = .ok (.iaload, 1) := by decide +kernel
theorem dX11_difference_71 : decode cX11_difference 71 = .ok (.invokevirtual 188, 3) := by decide +kernel
theorem dX11_difference_74 : decode cX11_difference 74 = .ok (.ifCond .eq 14, 3) := by decide +kernel
theorem dX11_difference_77 : decode cX11_difference 77 = .ok (.aload_n 0, 1) := by decide +kernel
theorem dX11_difference_78 : decode cX11_difference 78 = .ok (.iconst 0, 1) := by decide +kernel
theorem dX11_difference_79 : decode cX11_difference 79 = .ok (.iload_n 3, 1) := by decide +kernel
theorem dX11_difference_80 : decode cX11_difference 80 = .ok (.iload 4, 2) := by decide +kernel
theorem dX11_difference_82 : decode cX11_difference 82 = .ok (.invokevirtual 192, 3) := by decide +kernel
theorem dX11_difference_85 : decode cX11_difference 85 = .ok (.ifCond .ne 5, 3) := by decide +kernel
theorem dX11_difference_88 : decode cX11_difference 88 = .ok (.iconst (-1), 1) := by decide +kernel
theorem dX11_difference_89 : decode cX11_difference 89 = .ok (.ireturn, 1) := by decide +kernel
theorem dX11_difference_90 : decode cX11_difference 90 = .ok (.aload_n 0, 1) := by decide +kernel
theorem dX11_difference_91 : decode cX11_difference 91 = .ok (.iconst 0, 1) := by decide +kernel
theorem dX11_difference_92 : decode cX11_difference 92 = .ok (.iload_n 1, 1) := by decide +kernel
theorem dX11_difference_93 : decode cX11_difference 93 = .ok (.iload_n 2, 1) := by decide +kernel
theorem dX11_difference_94 : decode cX11_difference 94 = .ok (.iload_n 3, 1) := by decide +kernel
theorem dX11_difference_95 : decode cX11_difference 95 = .ok (.iload 4, 2) := by decide +kernel
theorem dX11_difference_97 : decode cX11_difference 97 = .ok (.iload 5, 2) := by decide +kernel
theorem dX11_difference_99 : decode cX11_difference 99 = .ok (.iconst 2, 1) := by decide +kernel
theorem dX11_difference_100 : decode cX11_difference 100 = .ok (.idiv, 1) := by decide +kernel
theorem dX11_difference_101 : decode cX11_difference 101 = .ok (.invokevirtual 176, 3) := by decide +kernel
theorem dX11_difference_104 : decode cX11_difference 104 = .ok (.iload 5, 2) := by decide +kernel
theorem dX11_difference_106 : decode cX11_difference 106 = .ok (.iconst 2, 1) := by decide +kernel
theorem dX11_difference_107 : decode cX11_difference 107 = .ok (.irem, 1) := by decide +kernel
theorem dX11_difference_108 : decode cX11_difference 108 = .ok (.iconst 1, 1) := by decide +kernel
theorem dX11_difference_109 : decode cX11_difference 109 = .ok (.if_icmp .ne 10, 3) := by decide +kernel
theorem dX11_difference_112 : decode cX11_difference 112 = .ok (.aload_n 0, 1) := by decide +kernel
theorem dX11_difference_113 : decode cX11_difference 113 = .ok (.getfield 146, 3) := by decide +kernel
theorem dX11_difference_116 : decode cX11_difference 116 = .ok (.goto 19, 3) := by decide +kernel
theorem dX11_difference_119 : decode cX11_difference 119 = .ok (.aload_n 0, 1) := by decide +kernel
theorem dX11_difference_120 : decode cX11_difference 120 = .ok (.iconst 0, 1) := by decide +kernel
theorem dX11_difference_121 : decode cX11_difference 121 = .ok (.iload_n 1, 1) := by decide +kernel
theorem dX11_difference_122 : decode cX11_difference 122 = .ok (.iload_n 2, 1) := by decide +kernel
theorem dX11_difference_123 : decode cX11_difference 123 = .ok (.iload_n 3, 1) := by decide +kernel
theorem dX11_difference_124 : decode cX11_difference 124 = .ok (.iload 4, 2) := by decide +kernel
theorem dX11_difference_126 : decode cX11_difference 126 = .ok (.iload 5, 2) := by decide +kernel
theorem dX11_difference_128 : decode cX11_difference 128 = .ok (.iconst 2, 1) := by decide +kernel
theorem dX11_difference_129 : decode cX11_difference 129 = .ok (.idiv, 1) := by decide +kernel
theorem dX11_difference_130 : decode cX11_difference 130 = .ok (.ldc 180, 2) := by decide +kernel
theorem dX11_difference_132 : decode cX11_difference 132 = .ok (.invokevirtual 181, 3) := by decide +kernel
theorem dX11_difference_135 : decode cX11_difference 135 = .ok (.ireturn, 1) := by decide +kernel
set_option maxHeartbeats 4000000 in
set_option maxRecDepth 100000 in
theorem tX11_difference {l : Launch} {g : yG} {n : Nat} {σ : yM} (hn : 172 ≤ n) (w h : Int) (T S F P O : Int → Int → Int) (nf df nl : Int) (lg : Int → Int → Int) (s re fo ra tu we sh : Int) (H : List aX) (ht : Bool) (K : Int → Int → Int) (tl : Int) (tb : Int → Int) (fa r1 r2 N : Int) (hV : mV σ (w, h, (T, S, F, P, O, nf, df, nl, lg), (s, re, fo, ra, tu, we, sh), H, ht, K, tl, tb, fa, r1, r2)) (hW : aW N (w, h, (T, S, F, P, O, nf, df, nl, lg), (s, re, fo, ra, tu, we, sh), H, ht, K, tl, tb, fa, r1, r2)) (x y u vv a : Int) (hx : -2147483648 ≤ x ∧ x < 2147483648) (hy : -2147483648 ≤ y ∧ y < 2147483648) (hu : -2147483648 ≤ u ∧ u < 2147483648) (hvv : -2147483648 ≤ vv ∧ vv < 2147483648) (ha : -2147483648 ≤ a ∧ a < 2147483648) : yMet l g yX11_difference cX11_difference 6 (some .int) (rmL 6) [yR g 155, yI x, yI y, yI u, yI vv, yI a] (SC g) n σ (SC g) (yPi (fun zv n' σ' => n ≤ n' ∧ (((sIn w h x y = true ∧ sIn w h u vv = true) ∧ (0 ≤ a ∧ a ≤ 15) ∧ zv = dfV w h T S F s re fo we sh x y u vv a ∧ mO σ σ' (w, h, (T, S, F, P, O, nf, df, nl, lg), (s, re, fo, ra, tu, we, sh), H, ht, K, tl, tb, fa, r1, r2) 0) ∨ (¬ (sIn w h x y = true ∧ sIn w h u vv = true) ∧ mO σ σ' (bN (w, h, (T, S, F, P, O, nf, df, nl, lg), (s, re, fo, ra, tu, we, sh), H, ht, K, tl, tb, fa, r1, r2)) 1) ∨ ((sIn w h x y = true ∧ sIn w h u vv = true) ∧ ¬ (0 ≤ a ∧ a ≤ 15) ∧ mO σ σ' (bA (w, h, (T, S, F, P, O, nf, df, nl, lg), (s, re, fo, ra, tu, we, sh), H, ht, K, tl, tb, fa, r1, r2)) 2)))) := by
  obtain ⟨⟨hA, hL⟩, hS, hH, ⟨hb1, hb2⟩, ⟨ht1, ht2⟩, hfa, hr1, hr2⟩ := id hV
  obtain ⟨hw1, hw2, hw3, hw4⟩ := id hA.1.1
  obtain ⟨hs1, hs2, hs3, hs4, hs5, hs6, hs7⟩ := id hS.2
  have hz : (0 : Nat) < 3 := by omega
  refine y_start (by decide) (Nat.le_of_ble_eq_true rfl) (fun X0 hF => ?_)
  show yV X0 g 6 (yQ X0 g (SC g) (yPi (fun zv n' σ' => n ≤ n' ∧ (((sIn w h x y = true ∧ sIn w h u vv = true) ∧ (0 ≤ a ∧ a ≤ 15) ∧ zv = dfV w h T S F s re fo we sh x y u vv a ∧ mO σ σ' (w, h, (T, S, F, P, O, nf, df, nl, lg), (s, re, fo, ra, tu, we, sh), H, ht, K, tl, tb, fa, r1, r2) 0) ∨ (¬ (sIn w h x y = true ∧ sIn w h u vv = true) ∧ mO σ σ' (bN (w, h, (T, S, F, P, O, nf, df, nl, lg), (s, re, fo, ra, tu, we, sh), H, ht, K, tl, tb, fa, r1, r2)) 1) ∨ ((sIn w h x y = true ∧ sIn w h u vv = true) ∧ ¬ (0 ≤ a ∧ a ≤ 15) ∧ mO σ σ' (bA (w, h, (T, S, F, P, O, nf, df, nl, lg), (s, re, fo, ra, tu, we, sh), H, ht, K, tl, tb, fa, r1, r2)) 2)))) (rmL 6)) (SC g) n σ 0 0 0 [(0, yR g 155), (1, yI x), (2, yI y), (3, yI u), (4, yI vv), (5, yI a)] []
  refine y_aload_n (pc := 0) hF dX11_difference_0 0 rfl ?_
  refine y_iconst (pc := 1) hF dX11_difference_1 ?_
  refine y_putf (pc := 2) (ci := 11) (σ' := yset σ 155 0 0) (sch' := (SC g)) hF dX11_difference_2 (by omega) rfl rfl rfl iX11 0 (by decide) w_1247 tyX11 tyX11_ok nmX11 rfl rfl rfl rfl (Nat.le_of_ble_eq_true rfl) rfl (y_ps rfl) (fun k' h => ⟨yset_n h, rfl⟩) ?_
  obtain ⟨σ0, hσ0⟩ : ∃ s, s = yset σ 155 0 0 := ⟨_, rfl⟩
  rw [← hσ0]
  have zO_σ0 := hV.t0 hσ0
  obtain ⟨⟨zA_σ0, zL_σ0⟩, zS_σ0, zH_σ0, ⟨zb1_σ0, zb2_σ0⟩, ⟨zt1_σ0, zt2_σ0⟩, zfa_σ0, zr1_σ0, zr2_σ0⟩ := id zO_σ0.2.2
  have zJ32 : ∀ (zb : Bool), (zb = (sIn w h x y && sIn w h u vv)) → yV X0 g 6 (yQ X0 g (SC g) (yPi (fun zv n' σ' => n ≤ n' ∧ (((sIn w h x y = true ∧ sIn w h u vv = true) ∧ (0 ≤ a ∧ a ≤ 15) ∧ zv = dfV w h T S F s re fo we sh x y u vv a ∧ mO σ σ' (w, h, (T, S, F, P, O, nf, df, nl, lg), (s, re, fo, ra, tu, we, sh), H, ht, K, tl, tb, fa, r1, r2) 0) ∨ (¬ (sIn w h x y = true ∧ sIn w h u vv = true) ∧ mO σ σ' (bN (w, h, (T, S, F, P, O, nf, df, nl, lg), (s, re, fo, ra, tu, we, sh), H, ht, K, tl, tb, fa, r1, r2)) 1) ∨ ((sIn w h x y = true ∧ sIn w h u vv = true) ∧ ¬ (0 ≤ a ∧ a ≤ 15) ∧ mO σ σ' (bA (w, h, (T, S, F, P, O, nf, df, nl, lg), (s, re, fo, ra, tu, we, sh), H, ht, K, tl, tb, fa, r1, r2)) 2)))) (rmL 6)) (SC g) n σ0 0 0 32 [(0, yR g 155), (1, yI x), (2, yI y), (3, yI u), (4, yI vv), (5, yI a)] [yI (bi zb), yR g 155] := by
    intro zb  zhb
    refine y_iconst (pc := 32) hF dX11_difference_32 ?_
    refine y_iconst (pc := 33) hF dX11_difference_33 ?_
    refine y_ci (y_rV (pc := 34) hF (tX11_isFine hn zO_σ0.2.1 zb 1 0 (by decide) (by decide)) dX11_difference_34 (by omega) rfl rfl rfl w_1395 qX11_isFine rfl ⟨Nat.le_of_ble_eq_true rfl, Nat.le_of_ble_eq_true rfl⟩ ⟨Nat.zero_le _, Nat.zero_le _⟩ (Nat.le_of_ble_eq_true rfl) rfl) rfl rfl (fun r34 n' σ34 zp34 => ?_)
    obtain ⟨zn34, zp34⟩ := zp34
    have zn34 := zn34.symm
    subst zn34
    rcases zp34 with ⟨zb34, zv34, zs34⟩ | ⟨zb34, zv34, zs34⟩
    · subst zv34; have zs34 := zs34.symm; subst zs34
      refine y_if_eq (pc := 37) hF dX11_difference_37 57 rfl (by decide) (fun zc37 => absurd zc37 (by decide)) (fun _ => ?_)
      refine y_aload_n (pc := 40) hF dX11_difference_40 0 rfl ?_
      refine y_iload (pc := 41) hF dX11_difference_41 5 rfl ?_
      refine y_iconst (pc := 43) hF dX11_difference_43 ?_
      refine y_bipush (pc := 44) hF dX11_difference_44 (by decide) ?_
      have zz46 := y_rS (pc := 46) (As := [yI a, yI 0, yI 15]) (kk := 0) hF (tX11_within (n := n) (σ := σ0) a 0 15 (by omega) (by omega) (by omega)) dX11_difference_46 w_1392 qX11_within rfl ⟨Nat.le_of_ble_eq_true rfl, Nat.le_of_ble_eq_true rfl⟩ ⟨Nat.zero_le _, Nat.zero_le _⟩ (Nat.le_of_ble_eq_true rfl) rfl (rest := [yR g 155]) (cells := 0) (slots := 0) (lv := [(0, yR g 155), (1, yI x), (2, yI y), (3, yI u), (4, yI vv), (5, yI a)])
      refine y_cp (zz46) ?_
      refine y_iconst (pc := 49) hF dX11_difference_49 ?_
      refine y_iconst (pc := 50) hF dX11_difference_50 ?_
      refine y_ci (y_rV (pc := 51) hF (tX11_isFine hn zO_σ0.2.1 (decide (0 ≤ a) && decide (a ≤ 15)) 2 1 (by decide) (by decide)) dX11_difference_51 (by omega) rfl rfl rfl w_1395 qX11_isFine rfl ⟨Nat.le_of_ble_eq_true rfl, Nat.le_of_ble_eq_true rfl⟩ ⟨Nat.zero_le _, Nat.zero_le _⟩ (Nat.le_of_ble_eq_true rfl) rfl) rfl rfl (fun r51 n' σ51 zp51 => ?_)
      obtain ⟨zn51, zp51⟩ := zp51
      have zn51 := zn51.symm
      subst zn51
      rcases zp51 with ⟨zb51, zv51, zs51⟩ | ⟨zb51, zv51, zs51⟩
      · subst zv51; have zs51 := zs51.symm; subst zs51
        refine y_if_ne (pc := 54) hF dX11_difference_54 59 rfl (by decide) (fun _ => ?_) (fun zc54 => absurd zc54 (by decide))
        simp at zb51
        simp only [zhb, Bool.and_eq_true] at zb34
        have zi := sIn_iff.mp zb34.1
        have zj := sIn_iff.mp zb34.2
        refine y_aload_n (pc := 59) hF dX11_difference_59 0 rfl ?_
        refine y_iload_n (pc := 60) hF dX11_difference_60 1 rfl ?_
        refine y_iload_n (pc := 61) hF dX11_difference_61 2 rfl ?_
        refine y_iload_n (pc := 62) hF dX11_difference_62 3 rfl ?_
        refine y_iload (pc := 63) hF dX11_difference_63 4 rfl ?_
        refine y_aload_n (pc := 65) hF dX11_difference_65 0 rfl ?_
        refine y_get (pc := 66) (ci := 11) hF dX11_difference_66 (by omega) rfl rfl rfl iX11 10 (by decide) w_1257 rfl ?_
        refine y_iconst (pc := 69) hF dX11_difference_69 ?_
        refine y_iaload (pc := 70) hF dX11_difference_70 (by omega) rfl (by omega) (by decide) ?_
        rw [show σ0 166 1 = re from zS_σ0.1.2.1]
        have zz71 := y_rV (pc := 71) hF (tX11_isNear (n := n) (σ := σ0) x y u vv re (by omega) (by omega) (by omega) (by omega) (by omega)) dX11_difference_71 (by omega) rfl rfl rfl w_1580 qX11_isNear rfl ⟨Nat.le_of_ble_eq_true rfl, Nat.le_of_ble_eq_true rfl⟩ ⟨Nat.zero_le _, Nat.zero_le _⟩ (Nat.le_of_ble_eq_true rfl) rfl (rest := []) (cells := 0) (slots := 0) (lv := [(0, yR g 155), (1, yI x), (2, yI y), (3, yI u), (4, yI vv), (5, yI a)])
        refine y_cp (zz71) ?_
        refine y_if_eq (pc := 74) hF dX11_difference_74 88 rfl bi_r (fun zc74 => ?_) (fun zc74 => ?_)
        · replace zc74 := bi_0.mp zc74
          refine y_iconst (pc := 88) hF dX11_difference_88 ?_
          exact y_iret (pc := 89) hF dX11_difference_89 (Nat.zero_le _) (Nat.zero_le _) ⟨_, rfl, Nat.le_refl _, Or.inl ⟨(by first | exact zb34 | (rw [zhb] at zb34; simpa using zb34)), (by omega), (by unfold dfV; rw [if_neg (fun ze => by rw [ze.1] at zc74; cases zc74)]), zO_σ0⟩⟩
        · replace zc74 := bi_n0.mp zc74
          refine y_aload_n (pc := 77) hF dX11_difference_77 0 rfl ?_
          refine y_iconst (pc := 78) hF dX11_difference_78 ?_
          refine y_iload_n (pc := 79) hF dX11_difference_79 3 rfl ?_
          refine y_iload (pc := 80) hF dX11_difference_80 4 rfl ?_
          have zz82 := y_rV (pc := 82) hF (tX11_isWholeSource (n := n) (σ := σ0) 0 w h T S F P O s re fo ra tu we sh hn (by omega) zA_σ0 zS_σ0 u vv (by omega) (by omega)) dX11_difference_82 (by omega) rfl rfl rfl w_1541 qX11_isWholeSource rfl ⟨Nat.le_of_ble_eq_true rfl, Nat.le_of_ble_eq_true rfl⟩ ⟨Nat.zero_le _, Nat.zero_le _⟩ (Nat.le_of_ble_eq_true rfl) rfl (rest := []) (cells := 0) (slots := 0) (lv := [(0, yR g 155), (1, yI x), (2, yI y), (3, yI u), (4, yI vv), (5, yI a)])
          refine y_cp (zz82) ?_
          refine y_if_ne (pc := 85) hF dX11_difference_85 90 rfl bi_r (fun zc85 => ?_) (fun zc85 => ?_)
          · replace zc85 := bi_n0.mp zc85
            have zpl := sWs.pl (by omega) zc85
            refine y_aload_n (pc := 90) hF dX11_difference_90 0 rfl ?_
            refine y_iconst (pc := 91) hF dX11_difference_91 ?_
            refine y_iload_n (pc := 92) hF dX11_difference_92 1 rfl ?_
            refine y_iload_n (pc := 93) hF dX11_difference_93 2 rfl ?_
            refine y_iload_n (pc := 94) hF dX11_difference_94 3 rfl ?_
            refine y_iload (pc := 95) hF dX11_difference_95 4 rfl ?_
            refine y_iload (pc := 97) hF dX11_difference_97 5 rfl ?_
            refine y_iconst (pc := 99) hF dX11_difference_99 ?_
            refine y_idiv (pc := 100) hF dX11_difference_100 (by omega) (by omega) (by omega) ?_
            refine y_cv (y_rV (pc := 101) hF (tX11_bounds 0 w h T S F P O s re fo ra tu we sh hn (by omega) zA_σ0 zS_σ0 x y u vv (Int.tdiv a 2) zb34.1 zpl zb34.2 (by rw [Int.tdiv_eq_ediv_of_nonneg (by omega)]; omega)) dX11_difference_101 (by omega) rfl rfl rfl w_1553 qX11_bounds rfl ⟨Nat.le_of_ble_eq_true rfl, Nat.le_of_ble_eq_true rfl⟩ ⟨Nat.zero_le _, Nat.zero_le _⟩ (Nat.le_of_ble_eq_true rfl) rfl) rfl rfl (fun n' σ101 zp101 => ?_)
            obtain ⟨zn101, zp101⟩ := zp101
            have zn101 := zn101.symm
            subst zn101
            have zA_σ101 := zA_σ0.fR hz zp101.1
            have zS_σ101 := zS_σ0.fR (by omega) zp101.1
            have zO_σ101 := zO_σ0.fR zp101.1 (by omega) (by omega)
            have zL_σ101 := zO_σ101.2.2.1.2
            have zm2r : a - Int.tdiv a 2 * 2 = a % 2 := by rw [Int.tdiv_eq_ediv_of_nonneg (by omega)]; omega
            have zd2 : Int.tdiv a 2 = a / 2 := Int.tdiv_eq_ediv_of_nonneg (by omega)
            refine y_iload (pc := 104) hF dX11_difference_104 5 rfl ?_
            refine y_iconst (pc := 106) hF dX11_difference_106 ?_
            refine y_irem (pc := 107) hF dX11_difference_107 (by omega) (by omega) (by omega) ?_
            refine y_iconst (pc := 108) hF dX11_difference_108 ?_
            refine y_icmp_ne (pc := 109) hF dX11_difference_109 119 rfl (by omega) (by omega) (fun zc109 => ?_) (fun zc109 => ?_)
            · skip
              have zm2 : ¬ a % 2 = 1 := by omega
              refine y_aload_n (pc := 119) hF dX11_difference_119 0 rfl ?_
              refine y_iconst (pc := 120) hF dX11_difference_120 ?_
              refine y_iload_n (pc := 121) hF dX11_difference_121 1 rfl ?_
              refine y_iload_n (pc := 122) hF dX11_difference_122 2 rfl ?_
              refine y_iload_n (pc := 123) hF dX11_difference_123 3 rfl ?_
              refine y_iload (pc := 124) hF dX11_difference_124 4 rfl ?_
              refine y_iload (pc := 126) hF dX11_difference_126 5 rfl ?_
              refine y_iconst (pc := 128) hF dX11_difference_128 ?_
              refine y_idiv (pc := 129) hF dX11_difference_129 (by omega) (by omega) (by omega) ?_
              refine y_ldc (pc := 130) (v := 1000000000) hF dX11_difference_130 wk_1571 ?_
              refine y_ci (y_rV (pc := 132) hF (tX11_differs 0 w h T S F P O s re fo ra tu we sh hn (by omega) zA_σ101 zS_σ101 x y u vv (Int.tdiv a 2) zb34.1 zpl zb34.2 (by rw [zd2]; omega) 1000000000 (by decide) (by rw [zp101.2.1]; exact sSh_bd hA.1 ⟨by omega, by omega⟩ zpl)) dX11_difference_132 (by omega) rfl rfl rfl w_1572 qX11_differs rfl ⟨Nat.le_of_ble_eq_true rfl, Nat.le_of_ble_eq_true rfl⟩ ⟨Nat.zero_le _, Nat.zero_le _⟩ (Nat.le_of_ble_eq_true rfl) rfl) rfl rfl (fun r132 n' σ132 zp132 => ?_)
              obtain ⟨zn132, zp132⟩ := zp132
              have zn132 := zn132.symm
              subst zn132
              have zA_σ132 := zA_σ101.fR hz zp132.2.1
              have zS_σ132 := zS_σ101.fR (by omega) zp132.2.1
              have zO_σ132 := zO_σ101.fR zp132.2.1 (by omega) (by omega)
              have zL_σ132 := zO_σ132.2.2.1.2
              exact y_iret (pc := 135) hF dX11_difference_135 (Nat.zero_le _) (Nat.zero_le _) ⟨_, rfl, Nat.le_refl _, Or.inl ⟨(by first | exact zb34 | (rw [zhb] at zb34; simpa using zb34)), (by omega), (by unfold dfV; rw [if_pos ⟨zc74, zc85⟩, if_neg zm2, ← zd2, ← zp101.2.1]; exact zp132.1), zO_σ132⟩⟩
            · skip
              have zm2 : a % 2 = 1 := by omega
              refine y_aload_n (pc := 112) hF dX11_difference_112 0 rfl ?_
              refine y_get (pc := 113) (ci := 11) hF dX11_difference_113 (by omega) rfl rfl rfl iX11 17 (by decide) w_1264 rfl ?_
              rw [show σ101 155 17 = sBo w h T S s we sh x y u vv (Int.tdiv a 2) from zp101.2.2]
              refine y_goto (pc := 116) hF dX11_difference_116 135 rfl ?_
              exact y_iret (pc := 135) hF dX11_difference_135 (Nat.zero_le _) (Nat.zero_le _) ⟨_, rfl, Nat.le_refl _, Or.inl ⟨(by first | exact zb34 | (rw [zhb] at zb34; simpa using zb34)), (by omega), (by unfold dfV; rw [if_pos ⟨zc74, zc85⟩, if_pos zm2, ← zd2]), zO_σ101⟩⟩
          · replace zc85 := bi_0.mp zc85
            refine y_iconst (pc := 88) hF dX11_difference_88 ?_
            exact y_iret (pc := 89) hF dX11_difference_89 (Nat.zero_le _) (Nat.zero_le _) ⟨_, rfl, Nat.le_refl _, Or.inl ⟨(by first | exact zb34 | (rw [zhb] at zb34; simpa using zb34)), (by omega), (by unfold dfV; rw [if_neg (fun ze => by rw [ze.2] at zc85; cases zc85)]), zO_σ0⟩⟩
      · subst zv51; subst zs51
        refine y_if_ne (pc := 54) hF dX11_difference_54 59 rfl (by decide) (fun zc54 => absurd zc54 (by decide)) (fun _ => ?_)
        refine y_iconst (pc := 57) hF dX11_difference_57 ?_
        exact y_iret (pc := 58) hF dX11_difference_58 (Nat.zero_le _) (Nat.zero_le _) ⟨_, rfl, Nat.le_refl _, Or.inr (Or.inr ⟨(by first | exact zb34 | (rw [zhb] at zb34; simpa using zb34)), (fun ze => by simp at zb51; omega), zO_σ0.bA 2⟩)⟩
    · subst zv34; subst zs34
      refine y_if_eq (pc := 37) hF dX11_difference_37 57 rfl (by decide) (fun _ => ?_) (fun zc37 => absurd zc37 (by decide))
      refine y_iconst (pc := 57) hF dX11_difference_57 ?_
      exact y_iret (pc := 58) hF dX11_difference_58 (Nat.zero_le _) (Nat.zero_le _) ⟨_, rfl, Nat.le_refl _, Or.inr (Or.inl ⟨(by rw [zhb] at zb34; intro ze; rw [ze.1, ze.2] at zb34; cases zb34), zO_σ0.bN 1⟩)⟩
  refine y_aload_n (pc := 5) hF dX11_difference_5 0 rfl ?_
  refine y_aload_n (pc := 6) hF dX11_difference_6 0 rfl ?_
  refine y_iconst (pc := 7) hF dX11_difference_7 ?_
  refine y_iload_n (pc := 8) hF dX11_difference_8 1 rfl ?_
  refine y_iload_n (pc := 9) hF dX11_difference_9 2 rfl ?_
  have zz10 := y_rV (pc := 10) hF (tX11_has (n := n) (σ := σ0) 0 w h T S F P O hn (by omega) zA_σ0 x y hx hy) dX11_difference_10 (by omega) rfl rfl rfl w_1444 qX11_has rfl ⟨Nat.le_of_ble_eq_true rfl, Nat.le_of_ble_eq_true rfl⟩ ⟨Nat.zero_le _, Nat.zero_le _⟩ (Nat.le_of_ble_eq_true rfl) rfl (rest := [yR g 155]) (cells := 0) (slots := 0) (lv := [(0, yR g 155), (1, yI x), (2, yI y), (3, yI u), (4, yI vv), (5, yI a)])
  refine y_cp (zz10) ?_
  refine y_if_eq (pc := 13) hF dX11_difference_13 31 rfl bi_r (fun zc13 => ?_) (fun zc13 => ?_)
  · replace zc13 := bi_0.mp zc13
    refine y_iconst (pc := 31) hF dX11_difference_31 ?_
    exact zJ32 false (by simp [*])
  · replace zc13 := bi_n0.mp zc13
    refine y_aload_n (pc := 16) hF dX11_difference_16 0 rfl ?_
    refine y_iconst (pc := 17) hF dX11_difference_17 ?_
    refine y_iload_n (pc := 18) hF dX11_difference_18 3 rfl ?_
    refine y_iload (pc := 19) hF dX11_difference_19 4 rfl ?_
    have zz21 := y_rV (pc := 21) hF (tX11_has (n := n) (σ := σ0) 0 w h T S F P O hn (by omega) zA_σ0 u vv hu hvv) dX11_difference_21 (by omega) rfl rfl rfl w_1444 qX11_has rfl ⟨Nat.le_of_ble_eq_true rfl, Nat.le_of_ble_eq_true rfl⟩ ⟨Nat.zero_le _, Nat.zero_le _⟩ (Nat.le_of_ble_eq_true rfl) rfl (rest := [yR g 155]) (cells := 0) (slots := 0) (lv := [(0, yR g 155), (1, yI x), (2, yI y), (3, yI u), (4, yI vv), (5, yI a)])
    refine y_cp (zz21) ?_
    refine y_if_eq (pc := 24) hF dX11_difference_24 31 rfl bi_r (fun zc24 => ?_) (fun zc24 => ?_)
    · replace zc24 := bi_0.mp zc24
      refine y_iconst (pc := 31) hF dX11_difference_31 ?_
      exact zJ32 false (by simp [*])
    · replace zc24 := bi_n0.mp zc24
      refine y_iconst (pc := 27) hF dX11_difference_27 ?_
      refine y_goto (pc := 28) hF dX11_difference_28 32 rfl ?_
      exact zJ32 true (by simp [*])

theorem dX11_log_0 : decode cX11_log 0 = .ok (.aload_n 0, 1) := by decide +kernel
theorem dX11_log_1 : decode cX11_log 1 = .ok (.iconst 0, 1) := by decide +kernel
theorem dX11_log_2 : decode cX11_log 2 = .ok (.putfield 1, 3) := by decide +kernel
theorem dX11_log_5 : decode cX11_log 5 = .ok (.aload_n 0, 1) := by decide +kernel
theorem dX11_log_6 : decode cX11_log 6 = .ok (.iload_n 1, 1) := by decide +kernel
theorem dX11_log_7 : decode cX11_log 7 = .ok (.iconst 0, 1) := by decide +kernel
theorem dX11_log_8 : decode cX11_log 8 = .ok (.aload_n 0, 1) := by decide +kernel
theorem dX11_log_9 : decode cX11_log 9 = .ok (.getfield 19, 3) := by decide +kernel
theorem dX11_log_12 : decode cX11_log 12 = .ok (.iconst 0, 1) := by decide +kernel
theorem dX11_log_13 : decode cX11_log 13 = .ok (.aaload, 1) := by decide +kernel
theorem dX11_log_14 : decode cX11_log 14 = .ok (.sipush 2002, 3) := by decide +kernel
theorem dX11_log_17 : decode cX11_log 17 = .ok (.iaload, 1) := by decide +kernel
theorem dX11_log_18 : decode cX11_log 18 = .ok (.iconst 1, 1) := by decide +kernel
theorem dX11_log_19 : decode cX11_log 19 = .ok (.isub, 1) := by decide +kernel
theorem dX11_log_20 : decode cX11_log 20 = .ok (.invokestatic 68, 3) := by decide +kernel
theorem dX11_log_23 : decode cX11_log 23 = .ok (.iconst 1, 1) := by decide +kernel
theorem dX11_log_24 : decode cX11_log 24 = .ok (.iconst 0, 1) := by decide +kernel
theorem dX11_log_25 : decode cX11_log 25 = .ok (.invokevirtual 284, 3) := by decide +kernel
theorem dX11_log_28 : decode cX11_log 28 = .ok (.ifCond .eq 19, 3) := by decide +kernel
theorem dX11_log_31 : decode cX11_log 31 = .ok (.aload_n 0, 1) := by decide +kernel
theorem dX11_log_32 : decode cX11_log 32 = .ok (.iload_n 2, 1) := by decide +kernel
theorem dX11_log_33 : decode cX11_log 33 = .ok (.iconst 0, 1) := by decide +kernel
theorem dX11_log_34 : decode cX11_log 34 = .ok (.bipush 8, 2) := by decide +kernel
theorem dX11_log_36 : decode cX11_log 36 = .ok (.invokestatic 68, 3) := by decide +kernel
theorem dX11_log_39 : decode cX11_log 39 = .ok (.iconst 2, 1) := by decide +kernel
theorem dX11_log_40 : decode cX11_log 40 = .ok (.iconst 1, 1) := by decide +kernel
theorem dX11_log_41 : decode cX11_log 41 = .ok (.invokevirtual 284, 3) := by decide +kernel
theorem dX11_log_44 : decode cX11_log 44 = .ok (.ifCond .ne 5, 3) := by decide +kernel
theorem dX11_log_47 : decode cX11_log 47 = .ok (.iconst 0, 1) := by decide +kernel
theorem dX11_log_48 : decode cX11_log 48 = .ok (.ireturn, 1) := by decide +kernel
theorem dX11_log_49 : decode cX11_log 49 = .ok (.aload_n 0, 1) := by decide +kernel
theorem dX11_log_50 : decode cX11_log 50 = .ok (.getfield 19, 3) := by decide +kernel
theorem dX11_log_53 : decode cX11_log 53 = .ok (.iconst 0, 1) := by decide +kernel
theorem dX11_log_54 : decode cX11_log 54 = .ok (.aaload, 1) := by decide +kernel
theorem dX11_log_55 : decode cX11_log 55 = .ok (.sipush 2003, 3) := by decide +kernel
theorem dX11_log_58 : decode cX11_log 58 = .ok (.bipush 9, 2) := by decide +kernel
theorem dX11_log_60 : decode cX11_log 60 = .ok (.iload_n 1, 1) := by decide +kernel
theorem dX11_log_61 : decode cX11_log 61 = .ok (.imul, 1) := by decide +kernel
theorem dX11_log_62 : decode cX11_log 62 = .ok (.iadd, 1) := by decide +kernel
theorem dX11_log_63 : decode cX11_log 63 = .ok (.iload_n 2, 1) := by decide +kernel
theorem dX11_log_64 : decode cX11_log 64 = .ok (.iadd, 1) := by decide +kernel
theorem dX11_log_65 : decode cX11_log 65 = .ok (.iaload, 1) := by decide +kernel
theorem dX11_log_66 : decode cX11_log 66 = .ok (.ireturn, 1) := by decide +kernel
set_option maxHeartbeats 4000000 in
set_option maxRecDepth 100000 in
theorem tX11_log {l : Launch} {g : yG} {n : Nat} {σ : yM} (hn : 172 ≤ n) (w h : Int) (T S F P O : Int → Int → Int) (nf df nl : Int) (lg : Int → Int → Int) (s re fo ra tu we sh : Int) (H : List aX) (ht : Bool) (K : Int → Int → Int) (tl : Int) (tb : Int → Int) (fa r1 r2 N : Int) (hV : mV σ (w, h, (T, S, F, P, O, nf, df, nl, lg), (s, re, fo, ra, tu, we, sh), H, ht, K, tl, tb, fa, r1, r2)) (hW : aW N (w, h, (T, S, F, P, O, nf, df, nl, lg), (s, re, fo, ra, tu, we, sh), H, ht, K, tl, tb, fa, r1, r2)) (k a : Int) (hk : -2147483648 ≤ k ∧ k < 2147483648) (ha : -2147483648 ≤ a ∧ a < 2147483648) : yMet l g yX11_log cX11_log 3 (some .int) (rmL 2) [yR g 155, yI k, yI a] (SC g) n σ (SC g) (yPi (fun zv n' σ' => n ≤ n' ∧ (((0 ≤ k ∧ k < nl) ∧ (0 ≤ a ∧ a ≤ 8) ∧ zv = lg k a ∧ mO σ σ' (w, h, (T, S, F, P, O, nf, df, nl, lg), (s, re, fo, ra, tu, we, sh), H, ht, K, tl, tb, fa, r1, r2) 0) ∨ (¬ (0 ≤ k ∧ k < nl) ∧ mO σ σ' (bN (w, h, (T, S, F, P, O, nf, df, nl, lg), (s, re, fo, ra, tu, we, sh), H, ht, K, tl, tb, fa, r1, r2)) 1) ∨ ((0 ≤ k ∧ k < nl) ∧ ¬ (0 ≤ a ∧ a ≤ 8) ∧ mO σ σ' (bA (w, h, (T, S, F, P, O, nf, df, nl, lg), (s, re, fo, ra, tu, we, sh), H, ht, K, tl, tb, fa, r1, r2)) 2)))) := by
  obtain ⟨⟨hA, hL⟩, hS, hH, ⟨hb1, hb2⟩, ⟨ht1, ht2⟩, hfa, hr1, hr2⟩ := id hV
  obtain ⟨hw1, hw2, hw3, hw4⟩ := id hA.1.1
  obtain ⟨hs1, hs2, hs3, hs4, hs5, hs6, hs7⟩ := id hS.2
  have hz : (0 : Nat) < 3 := by omega
  refine y_start (by decide) (Nat.le_of_ble_eq_true rfl) (fun X0 hF => ?_)
  show yV X0 g 3 (yQ X0 g (SC g) (yPi (fun zv n' σ' => n ≤ n' ∧ (((0 ≤ k ∧ k < nl) ∧ (0 ≤ a ∧ a ≤ 8) ∧ zv = lg k a ∧ mO σ σ' (w, h, (T, S, F, P, O, nf, df, nl, lg), (s, re, fo, ra, tu, we, sh), H, ht, K, tl, tb, fa, r1, r2) 0) ∨ (¬ (0 ≤ k ∧ k < nl) ∧ mO σ σ' (bN (w, h, (T, S, F, P, O, nf, df, nl, lg), (s, re, fo, ra, tu, we, sh), H, ht, K, tl, tb, fa, r1, r2)) 1) ∨ ((0 ≤ k ∧ k < nl) ∧ ¬ (0 ≤ a ∧ a ≤ 8) ∧ mO σ σ' (bA (w, h, (T, S, F, P, O, nf, df, nl, lg), (s, re, fo, ra, tu, we, sh), H, ht, K, tl, tb, fa, r1, r2)) 2)))) (rmL 2)) (SC g) n σ 0 0 0 [(0, yR g 155), (1, yI k), (2, yI a)] []
  refine y_aload_n (pc := 0) hF dX11_log_0 0 rfl ?_
  refine y_iconst (pc := 1) hF dX11_log_1 ?_
  refine y_putf (pc := 2) (ci := 11) (σ' := yset σ 155 0 0) (sch' := (SC g)) hF dX11_log_2 (by omega) rfl rfl rfl iX11 0 (by decide) w_1247 tyX11 tyX11_ok nmX11 rfl rfl rfl rfl (Nat.le_of_ble_eq_true rfl) rfl (y_ps rfl) (fun k' h => ⟨yset_n h, rfl⟩) ?_
  obtain ⟨σ0, hσ0⟩ : ∃ s, s = yset σ 155 0 0 := ⟨_, rfl⟩
  rw [← hσ0]
  have zO_σ0 := hV.t0 hσ0
  obtain ⟨⟨zA_σ0, zL_σ0⟩, zS_σ0, zH_σ0, ⟨zb1_σ0, zb2_σ0⟩, ⟨zt1_σ0, zt2_σ0⟩, zfa_σ0, zr1_σ0, zr2_σ0⟩ := id zO_σ0.2.2
  have znl := zL_σ0.2.2.2.2.1
  refine y_aload_n (pc := 5) hF dX11_log_5 0 rfl ?_
  refine y_iload_n (pc := 6) hF dX11_log_6 1 rfl ?_
  refine y_iconst (pc := 7) hF dX11_log_7 ?_
  refine y_aload_n (pc := 8) hF dX11_log_8 0 rfl ?_
  refine y_get (pc := 9) (ci := 11) hF dX11_log_9 (by omega) rfl rfl rfl iX11 2 (by decide) w_1249 rfl ?_
  refine y_iconst (pc := 12) hF dX11_log_12 ?_
  refine y_aaM0 (pc := 13) hF dX11_log_13 hn rfl ?_
  refine y_sipush (pc := 14) hF dX11_log_14 (by decide) ?_
  refine y_iaload (pc := 17) hF dX11_log_17 (by omega) rfl (by omega) (by decide) ?_
  rw [show σ0 158 2002 = nl from zL_σ0.2.2.1]
  refine y_iconst (pc := 18) hF dX11_log_18 ?_
  refine y_isub (pc := 19) hF dX11_log_19 ?_
  have zz20 := y_rS (pc := 20) (As := [yI k, yI 0, yI (nl - 1)]) (kk := 0) hF (tX11_within (n := n) (σ := σ0) k 0 (nl - 1) (by omega) (by omega) (by omega)) dX11_log_20 w_1392 qX11_within rfl ⟨Nat.le_of_ble_eq_true rfl, Nat.le_of_ble_eq_true rfl⟩ ⟨Nat.zero_le _, Nat.zero_le _⟩ (Nat.le_of_ble_eq_true rfl) rfl (rest := [yR g 155]) (cells := 0) (slots := 0) (lv := [(0, yR g 155), (1, yI k), (2, yI a)])
  refine y_cp (zz20) ?_
  refine y_iconst (pc := 23) hF dX11_log_23 ?_
  refine y_iconst (pc := 24) hF dX11_log_24 ?_
  refine y_ci (y_rV (pc := 25) hF (tX11_isFine hn zO_σ0.2.1 (decide (0 ≤ k) && decide (k ≤ (nl - 1))) 1 0 (by decide) (by decide)) dX11_log_25 (by omega) rfl rfl rfl w_1395 qX11_isFine rfl ⟨Nat.le_of_ble_eq_true rfl, Nat.le_of_ble_eq_true rfl⟩ ⟨Nat.zero_le _, Nat.zero_le _⟩ (Nat.le_of_ble_eq_true rfl) rfl) rfl rfl (fun r25 n' σ25 zp25 => ?_)
  obtain ⟨zn25, zp25⟩ := zp25
  have zn25 := zn25.symm
  subst zn25
  rcases zp25 with ⟨zb25, zv25, zs25⟩ | ⟨zb25, zv25, zs25⟩
  · subst zv25; have zs25 := zs25.symm; subst zs25
    refine y_if_eq (pc := 28) hF dX11_log_28 47 rfl (by decide) (fun zc28 => absurd zc28 (by decide)) (fun _ => ?_)
    refine y_aload_n (pc := 31) hF dX11_log_31 0 rfl ?_
    refine y_iload_n (pc := 32) hF dX11_log_32 2 rfl ?_
    refine y_iconst (pc := 33) hF dX11_log_33 ?_
    refine y_bipush (pc := 34) hF dX11_log_34 (by decide) ?_
    have zz36 := y_rS (pc := 36) (As := [yI a, yI 0, yI 8]) (kk := 0) hF (tX11_within (n := n) (σ := σ0) a 0 8 (by omega) (by omega) (by omega)) dX11_log_36 w_1392 qX11_within rfl ⟨Nat.le_of_ble_eq_true rfl, Nat.le_of_ble_eq_true rfl⟩ ⟨Nat.zero_le _, Nat.zero_le _⟩ (Nat.le_of_ble_eq_true rfl) rfl (rest := [yR g 155]) (cells := 0) (slots := 0) (lv := [(0, yR g 155), (1, yI k), (2, yI a)])
    refine y_cp (zz36) ?_
    refine y_iconst (pc := 39) hF dX11_log_39 ?_
    refine y_iconst (pc := 40) hF dX11_log_40 ?_
    refine y_ci (y_rV (pc := 41) hF (tX11_isFine hn zO_σ0.2.1 (decide (0 ≤ a) && decide (a ≤ 8)) 2 1 (by decide) (by decide)) dX11_log_41 (by omega) rfl rfl rfl w_1395 qX11_isFine rfl ⟨Nat.le_of_ble_eq_true rfl, Nat.le_of_ble_eq_true rfl⟩ ⟨Nat.zero_le _, Nat.zero_le _⟩ (Nat.le_of_ble_eq_true rfl) rfl) rfl rfl (fun r41 n' σ41 zp41 => ?_)
    obtain ⟨zn41, zp41⟩ := zp41
    have zn41 := zn41.symm
    subst zn41
    rcases zp41 with ⟨zb41, zv41, zs41⟩ | ⟨zb41, zv41, zs41⟩
    · subst zv41; have zs41 := zs41.symm; subst zs41
      refine y_if_ne (pc := 44) hF dX11_log_44 49 rfl (by decide) (fun _ => ?_) (fun zc44 => absurd zc44 (by decide))
      simp at zb25
      simp at zb41
      have zlg := zL_σ0.2.2.2.2.2 k a (by omega) (by omega) (by omega) (by omega)
      refine y_aload_n (pc := 49) hF dX11_log_49 0 rfl ?_
      refine y_get (pc := 50) (ci := 11) hF dX11_log_50 (by omega) rfl rfl rfl iX11 2 (by decide) w_1249 rfl ?_
      refine y_iconst (pc := 53) hF dX11_log_53 ?_
      refine y_aaM0 (pc := 54) hF dX11_log_54 hn rfl ?_
      refine y_sipush (pc := 55) hF dX11_log_55 (by decide) ?_
      refine y_bipush (pc := 58) hF dX11_log_58 (by decide) ?_
      refine y_iload_n (pc := 60) hF dX11_log_60 1 rfl ?_
      refine y_imul (pc := 61) hF dX11_log_61 ?_
      refine y_iadd (pc := 62) hF dX11_log_62 ?_
      refine y_iload_n (pc := 63) hF dX11_log_63 2 rfl ?_
      refine y_iadd (pc := 64) hF dX11_log_64 ?_
      refine y_iaload (pc := 65) hF dX11_log_65 (by omega) rfl ⟨by omega, by show _ < (2273 : Int); omega⟩ (by decide) ?_
      rw [show σ0 158 ((2003 + (9 * k)) + a) = lg k a from (by rw [show 2003 + 9 * k + a = 2003 + (9 * k + a) by omega]; exact zlg)]
      exact y_iret (pc := 66) hF dX11_log_66 (Nat.zero_le _) (Nat.zero_le _) ⟨_, rfl, Nat.le_refl _, Or.inl ⟨(by first | omega | (simp at zb25; omega)), (by omega), rfl, zO_σ0⟩⟩
    · subst zv41; subst zs41
      refine y_if_ne (pc := 44) hF dX11_log_44 49 rfl (by decide) (fun zc44 => absurd zc44 (by decide)) (fun _ => ?_)
      refine y_iconst (pc := 47) hF dX11_log_47 ?_
      exact y_iret (pc := 48) hF dX11_log_48 (Nat.zero_le _) (Nat.zero_le _) ⟨_, rfl, Nat.le_refl _, Or.inr (Or.inr ⟨(by first | omega | (simp at zb25; omega)), (fun ze => by simp at zb41; omega), zO_σ0.bA 2⟩)⟩
  · subst zv25; subst zs25
    refine y_if_eq (pc := 28) hF dX11_log_28 47 rfl (by decide) (fun _ => ?_) (fun zc28 => absurd zc28 (by decide))
    refine y_iconst (pc := 47) hF dX11_log_47 ?_
    exact y_iret (pc := 48) hF dX11_log_48 (Nat.zero_le _) (Nat.zero_le _) ⟨_, rfl, Nat.le_refl _, Or.inr (Or.inl ⟨(fun ze => by simp at zb25; omega), zO_σ0.bN 1⟩)⟩
