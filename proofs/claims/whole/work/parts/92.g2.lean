theorem dX9_hasRoom_0 : decode cX9_hasRoom 0 = .ok (.aload_n 0, 1) := by decide +kernel
theorem dX9_hasRoom_1 : decode cX9_hasRoom 1 = .ok (.getfield 15, 3) := by decide +kernel
theorem dX9_hasRoom_4 : decode cX9_hasRoom 4 = .ok (.bipush 20, 2) := by decide +kernel
theorem dX9_hasRoom_6 : decode cX9_hasRoom 6 = .ok (.iadd, 1) := by decide +kernel
theorem dX9_hasRoom_7 : decode cX9_hasRoom 7 = .ok (.sipush 300, 3) := by decide +kernel
theorem dX9_hasRoom_10 : decode cX9_hasRoom 10 = .ok (.if_icmp .gt 7, 3) := by decide +kernel
theorem dX9_hasRoom_13 : decode cX9_hasRoom 13 = .ok (.iconst 1, 1) := by decide +kernel
theorem dX9_hasRoom_14 : decode cX9_hasRoom 14 = .ok (.goto 4, 3) := by decide +kernel
theorem dX9_hasRoom_17 : decode cX9_hasRoom 17 = .ok (.iconst 0, 1) := by decide +kernel
theorem dX9_hasRoom_18 : decode cX9_hasRoom 18 = .ok (.ireturn, 1) := by decide +kernel
set_option maxHeartbeats 4000000 in
set_option maxRecDepth 100000 in
theorem tX9_hasRoom {l : Launch} {g : yG} {n : Nat} {σ : yM} (hn : 172 ≤ n) (L : Int) (tb : Int → Int) (hL : rTp σ L tb) (hl : 0 ≤ L ∧ L ≤ 300) : yMet l g yX9_hasRoom cX9_hasRoom 1 (some .boolean) (rmL 1) [yR g 1] (SC g) n σ (SC g) (yPp (bi (decide (L + 20 ≤ 300))) n σ) := by
  refine y_start (by decide) (Nat.le_of_ble_eq_true rfl) (fun X0 hF => ?_)
  show yV X0 g 1 (yQ X0 g (SC g) (yPp (bi (decide (L + 20 ≤ 300))) n σ) (rmL 1)) (SC g) n σ 0 0 0 [(0, yR g 1)] []
  refine y_aload_n (pc := 0) hF dX9_hasRoom_0 0 rfl ?_
  refine y_get (pc := 1) (ci := 9) hF dX9_hasRoom_1 (by omega) rfl rfl rfl iX9 1 (by decide) w_121 rfl ?_
  rw [show σ 1 1 = L from hL.1]
  refine y_bipush (pc := 4) hF dX9_hasRoom_4 (by decide) ?_
  refine y_iadd (pc := 6) hF dX9_hasRoom_6 ?_
  refine y_sipush (pc := 7) hF dX9_hasRoom_7 (by decide) ?_
  refine y_icmp_gt (pc := 10) hF dX9_hasRoom_10 17 rfl (by omega) (by omega) (fun zc10 => ?_) (fun zc10 => ?_)
  · skip
    refine y_iconst (pc := 17) hF dX9_hasRoom_17 ?_
    exact y_zret (pc := 18) hF dX9_hasRoom_18 (by decide) (Nat.zero_le _) (Nat.zero_le _) ⟨_, rfl, by rw [show decide (L + 20 ≤ 300) = false by simp; omega]; rfl, rfl, rfl⟩
  · skip
    refine y_iconst (pc := 13) hF dX9_hasRoom_13 ?_
    refine y_goto (pc := 14) hF dX9_hasRoom_14 18 rfl ?_
    exact y_zret (pc := 18) hF dX9_hasRoom_18 (by decide) (Nat.zero_le _) (Nat.zero_le _) ⟨_, rfl, by rw [show decide (L + 20 ≤ 300) = true by simp; omega]; rfl, rfl, rfl⟩

theorem dX9_append_0 : decode cX9_append 0 = .ok (.bipush 24, 2) := by decide +kernel
theorem dX9_append_2 : decode cX9_append 2 = .ok (.istore_n 2, 1) := by decide +kernel
theorem dX9_append_3 : decode cX9_append 3 = .ok (.iload_n 2, 1) := by decide +kernel
theorem dX9_append_4 : decode cX9_append 4 = .ok (.ifCond .lt 45, 3) := by decide +kernel
theorem dX9_append_7 : decode cX9_append 7 = .ok (.aload_n 0, 1) := by decide +kernel
theorem dX9_append_8 : decode cX9_append 8 = .ok (.getfield 15, 3) := by decide +kernel
theorem dX9_append_11 : decode cX9_append 11 = .ok (.sipush 300, 3) := by decide +kernel
theorem dX9_append_14 : decode cX9_append 14 = .ok (.if_icmp .ge 29, 3) := by decide +kernel
theorem dX9_append_17 : decode cX9_append 17 = .ok (.aload_n 0, 1) := by decide +kernel
theorem dX9_append_18 : decode cX9_append 18 = .ok (.getfield 11, 3) := by decide +kernel
theorem dX9_append_21 : decode cX9_append 21 = .ok (.aload_n 0, 1) := by decide +kernel
theorem dX9_append_22 : decode cX9_append 22 = .ok (.getfield 15, 3) := by decide +kernel
theorem dX9_append_25 : decode cX9_append 25 = .ok (.iload_n 1, 1) := by decide +kernel
theorem dX9_append_26 : decode cX9_append 26 = .ok (.iload_n 2, 1) := by decide +kernel
theorem dX9_append_27 : decode cX9_append 27 = .ok (.iushr, 1) := by decide +kernel
theorem dX9_append_28 : decode cX9_append 28 = .ok (.sipush 255, 3) := by decide +kernel
theorem dX9_append_31 : decode cX9_append 31 = .ok (.iand, 1) := by decide +kernel
theorem dX9_append_32 : decode cX9_append 32 = .ok (.iastore, 1) := by decide +kernel
theorem dX9_append_33 : decode cX9_append 33 = .ok (.aload_n 0, 1) := by decide +kernel
theorem dX9_append_34 : decode cX9_append 34 = .ok (.dup, 1) := by decide +kernel
theorem dX9_append_35 : decode cX9_append 35 = .ok (.getfield 15, 3) := by decide +kernel
theorem dX9_append_38 : decode cX9_append 38 = .ok (.iconst 1, 1) := by decide +kernel
theorem dX9_append_39 : decode cX9_append 39 = .ok (.iadd, 1) := by decide +kernel
theorem dX9_append_40 : decode cX9_append 40 = .ok (.putfield 15, 3) := by decide +kernel
theorem dX9_append_43 : decode cX9_append 43 = .ok (.iinc 2 (-8), 3) := by decide +kernel
theorem dX9_append_46 : decode cX9_append 46 = .ok (.goto (-43), 3) := by decide +kernel
theorem dX9_append_49 : decode cX9_append 49 = .ok (.return_, 1) := by decide +kernel
set_option maxHeartbeats 4000000 in
set_option maxRecDepth 100000 in
theorem tX9_append {l : Launch} {g : yG} {n : Nat} {σ : yM} (hn : 172 ≤ n) (L : Int) (tb : Int → Int) (hL : rTp σ L tb) (hl : 0 ≤ L ∧ L ≤ 296) (v : Int) : yMet l g yX9_append cX9_append 3 none (rmL 1) [yR g 1, yI v] (SC g) n σ (SC g) (yPv (fun n' σ' => n' = n ∧ fTp σ σ' ∧ rTp σ' (L + 4) (apB L tb v))) := by
  refine y_start (by decide) (Nat.le_of_ble_eq_true rfl) (fun X0 hF => ?_)
  show yV X0 g 3 (yQ X0 g (SC g) (yPv (fun n' σ' => n' = n ∧ fTp σ σ' ∧ rTp σ' (L + 4) (apB L tb v))) (rmL 1)) (SC g) n σ 0 0 0 [(0, yR g 1), (1, yI v)] []
  refine y_bipush (pc := 0) hF dX9_append_0 (by decide) ?_
  refine y_istore_n (pc := 2) (lv' := [(0, yR g 1), (1, yI v), (2, yI 24)]) hF dX9_append_2 (by decide) rfl rfl ?_
  have zL3 : ∀ (N : Nat) (τ : yM) (k : Int), N = (k + 8).toNat → ((k = 24 ∨ k = 16 ∨ k = 8 ∨ k = 0 ∨ k = -8) ∧ fTp σ τ ∧ τ 1 1 = (L + (24 - k) / 8) ∧ ∀ j : Int, 0 ≤ j → j < (L + (24 - k) / 8) → τ 2 j = apB L tb v j) → yV X0 g 3 (yQ X0 g (SC g) (yPv (fun n' σ' => n' = n ∧ fTp σ σ' ∧ rTp σ' (L + 4) (apB L tb v))) (rmL 1)) (SC g) n τ 0 0 3 [(0, yR g 1), (1, yI v), (2, yI k)] [] := by
    intro N
    induction N using Nat.strongRecOn with
    | ind N zh3 =>
      intro τ  k  zN3 zI3
      have zlv := zI3.2.2.1
      refine y_iload_n (pc := 3) hF dX9_append_3 2 rfl ?_
      refine y_if_lt (pc := 4) hF dX9_append_4 49 rfl (by omega) (fun zc4 => ?_) (fun zc4 => ?_)
      · skip
        exact y_vret (pc := 49) hF dX9_append_49 (Nat.zero_le _) (Nat.zero_le _) ⟨rfl, rfl, zI3.2.1, by rw [zI3.2.2.1]; omega, fun j a b => zI3.2.2.2 j a (by omega)⟩
      · skip
        refine y_aload_n (pc := 7) hF dX9_append_7 0 rfl ?_
        refine y_get (pc := 8) (ci := 9) hF dX9_append_8 (by omega) rfl rfl rfl iX9 1 (by decide) w_121 rfl ?_
        rw [show τ 1 1 = (L + (24 - k) / 8) from zlv]
        refine y_sipush (pc := 11) hF dX9_append_11 (by decide) ?_
        refine y_icmp_ge (pc := 14) hF dX9_append_14 43 rfl (by omega) (by omega) (fun zc14 => ?_) (fun zc14 => ?_)
        · skip
          refine y_iinc (pc := 43) (lv' := [(0, yR g 1), (1, yI v), (2, yI (k + (-8)))]) hF dX9_append_43 2 rfl (by decide) rfl rfl ?_
          refine y_goto (pc := 46) hF dX9_append_46 3 rfl ?_
          exact zh3 _ (by omega) τ (k + (-8)) rfl (by exfalso; omega)
        · skip
          refine y_aload_n (pc := 17) hF dX9_append_17 0 rfl ?_
          refine y_get (pc := 18) (ci := 9) hF dX9_append_18 (by omega) rfl rfl rfl iX9 0 (by decide) w_120 rfl ?_
          refine y_aload_n (pc := 21) hF dX9_append_21 0 rfl ?_
          refine y_get (pc := 22) (ci := 9) hF dX9_append_22 (by omega) rfl rfl rfl iX9 1 (by decide) w_121 rfl ?_
          rw [show τ 1 1 = (L + (24 - k) / 8) from zlv]
          refine y_iload_n (pc := 25) hF dX9_append_25 1 rfl ?_
          refine y_iload_n (pc := 26) hF dX9_append_26 2 rfl ?_
          refine y_iushr (pc := 27) hF dX9_append_27 (by omega) ?_
          refine y_sipush (pc := 28) hF dX9_append_28 (by decide) ?_
          refine y_iand255 (pc := 31) hF dX9_append_31 ?_
          refine y_iastore (pc := 32) hF dX9_append_32 (by omega) rfl ⟨by omega, by show _ < (300 : Int); omega⟩ (by decide) ?_
          obtain ⟨τ1, hτ1⟩ : ∃ s, s = yset τ 2 (L + (24 - k) / 8) ((v % 4294967296 / 2 ^ (k).toNat) % 256) := ⟨_, rfl⟩
          rw [← hτ1]
          have zlw : τ1 1 1 = (L + (24 - k) / 8) := by rw [hτ1, yset_n (by omega)]; exact zlv
          refine y_aload_n (pc := 33) hF dX9_append_33 0 rfl ?_
          refine y_dup (pc := 34) hF dX9_append_34 rfl ?_
          refine y_get (pc := 35) (ci := 9) hF dX9_append_35 (by omega) rfl rfl rfl iX9 1 (by decide) w_121 rfl ?_
          rw [show τ1 1 1 = (L + (24 - k) / 8) from zlw]
          refine y_iconst (pc := 38) hF dX9_append_38 ?_
          refine y_iadd (pc := 39) hF dX9_append_39 ?_
          refine y_putf (pc := 40) (ci := 9) (σ' := yset τ1 1 1 ((L + (24 - k) / 8) + 1)) (sch' := (SC g)) hF dX9_append_40 (by omega) rfl rfl rfl iX9 1 (by decide) w_121 tyX9 tyX9_ok nmX9 rfl rfl rfl rfl (Nat.le_of_ble_eq_true rfl) rfl (y_ps rfl) (fun k' h => ⟨yset_n h, rfl⟩) ?_
          obtain ⟨τ2, hτ2⟩ : ∃ s, s = yset τ1 1 1 ((L + (24 - k) / 8) + 1) := ⟨_, rfl⟩
          rw [← hτ2]
          refine y_iinc (pc := 43) (lv' := [(0, yR g 1), (1, yI v), (2, yI (k + (-8)))]) hF dX9_append_43 2 rfl (by decide) rfl rfl ?_
          refine y_goto (pc := 46) hF dX9_append_46 3 rfl ?_
          exact zh3 _ (by omega) τ2 (k + (-8)) rfl ⟨by omega, zI3.2.1.tr ⟨fun c a b => by rw [hτ2, yset_n a, hτ1, yset_n b], fun j a => by rw [hτ2, yset_o (fun _ => a), hτ1, yset_n (by omega)]⟩, by rw [hτ2, yset_e]; omega, fun j a b => by rw [hτ2, yset_n (by omega), hτ1]; by_cases zj : j = (L + (24 - k) / 8); (rw [zj, yset_e]; unfold apB bY; rw [if_pos (by omega), show (24 - 8 * ((L + (24 - k) / 8) - L)).toNat = k.toNat by omega]); (rw [yset_o (fun _ => zj)]; exact zI3.2.2.2 j a (by omega))⟩
  exact zL3 _ σ (24) rfl ⟨by omega, fTp.rf σ, by rw [hL.1]; omega, fun j a b => by rw [hL.2 j a (by omega)]; unfold apB; rw [if_neg (by omega)]⟩

theorem dX10_feed_0 : decode cX10_feed 0 = .ok (.aload_n 0, 1) := by decide +kernel
theorem dX10_feed_1 : decode cX10_feed 1 = .ok (.getfield 12, 3) := by decide +kernel
theorem dX10_feed_4 : decode cX10_feed 4 = .ok (.invokevirtual 99, 3) := by decide +kernel
theorem dX10_feed_7 : decode cX10_feed 7 = .ok (.ifCond .ne 5, 3) := by decide +kernel
theorem dX10_feed_10 : decode cX10_feed 10 = .ok (.iconst (-1), 1) := by decide +kernel
theorem dX10_feed_11 : decode cX10_feed 11 = .ok (.ireturn, 1) := by decide +kernel
theorem dX10_feed_12 : decode cX10_feed 12 = .ok (.aload_n 0, 1) := by decide +kernel
theorem dX10_feed_13 : decode cX10_feed 13 = .ok (.getfield 12, 3) := by decide +kernel
theorem dX10_feed_16 : decode cX10_feed 16 = .ok (.iload_n 1, 1) := by decide +kernel
theorem dX10_feed_17 : decode cX10_feed 17 = .ok (.invokevirtual 103, 3) := by decide +kernel
theorem dX10_feed_20 : decode cX10_feed 20 = .ok (.aload_n 0, 1) := by decide +kernel
theorem dX10_feed_21 : decode cX10_feed 21 = .ok (.getfield 12, 3) := by decide +kernel
theorem dX10_feed_24 : decode cX10_feed 24 = .ok (.iload_n 2, 1) := by decide +kernel
theorem dX10_feed_25 : decode cX10_feed 25 = .ok (.invokevirtual 103, 3) := by decide +kernel
theorem dX10_feed_28 : decode cX10_feed 28 = .ok (.aload_n 0, 1) := by decide +kernel
theorem dX10_feed_29 : decode cX10_feed 29 = .ok (.getfield 12, 3) := by decide +kernel
theorem dX10_feed_32 : decode cX10_feed 32 = .ok (.iload_n 3, 1) := by decide +kernel
theorem dX10_feed_33 : decode cX10_feed 33 = .ok (.invokevirtual 103, 3) := by decide +kernel
theorem dX10_feed_36 : decode cX10_feed 36 = .ok (.aload_n 0, 1) := by decide +kernel
theorem dX10_feed_37 : decode cX10_feed 37 = .ok (.getfield 12, 3) := by decide +kernel
theorem dX10_feed_40 : decode cX10_feed 40 = .ok (.iload 4, 2) := by decide +kernel
theorem dX10_feed_42 : decode cX10_feed 42 = .ok (.invokevirtual 103, 3) := by decide +kernel
theorem dX10_feed_45 : decode cX10_feed 45 = .ok (.aload_n 0, 1) := by decide +kernel
theorem dX10_feed_46 : decode cX10_feed 46 = .ok (.getfield 12, 3) := by decide +kernel
theorem dX10_feed_49 : decode cX10_feed 49 = .ok (.iload 5, 2) := by decide +kernel
theorem dX10_feed_51 : decode cX10_feed 51 = .ok (.invokevirtual 103, 3) := by decide +kernel
theorem dX10_feed_54 : decode cX10_feed 54 = .ok (.aload_n 0, 1) := by decide +kernel
theorem dX10_feed_55 : decode cX10_feed 55 = .ok (.getfield 12, 3) := by decide +kernel
theorem dX10_feed_58 : decode cX10_feed 58 = .ok (.getfield 107, 3) := by decide +kernel
theorem dX10_feed_61 : decode cX10_feed 61 = .ok (.ireturn, 1) := by decide +kernel
set_option maxHeartbeats 4000000 in
set_option maxRecDepth 100000 in
theorem tX10_feed {l : Launch} {g : yG} {n : Nat} {σ : yM} (hn : 172 ≤ n) (w h : Int) (T S F P O : Int → Int → Int) (nf df nl : Int) (lg : Int → Int → Int) (s re fo ra tu we sh : Int) (H : List aX) (ht : Bool) (K : Int → Int → Int) (tl : Int) (tb : Int → Int) (fa r1 r2 N : Int) (hV : cV σ (w, h, (T, S, F, P, O, nf, df, nl, lg), (s, re, fo, ra, tu, we, sh), H, ht, K, tl, tb, fa, r1, r2)) (hW : aW N (w, h, (T, S, F, P, O, nf, df, nl, lg), (s, re, fo, ra, tu, we, sh), H, ht, K, tl, tb, fa, r1, r2)) (a b c d e_ : Int) : yMet l g yX10_feed cX10_feed 6 (some .int) (rmL 2) [yR g 0, yI a, yI b, yI c, yI d, yI e_] (SC g) n σ (SC g) (yPi (fun zv n' σ' => n ≤ n' ∧ (True) ∧ zv = (if tl + 20 ≤ 300 then tl + 20 else -1) ∧ cV σ' (if tl + 20 ≤ 300 then (w, h, (T, S, F, P, O, nf, df, nl, lg), (s, re, fo, ra, tu, we, sh), H, ht, K, tl + 20, fdB tl tb a b c d e_, fa, r1, r2) else (w, h, (T, S, F, P, O, nf, df, nl, lg), (s, re, fo, ra, tu, we, sh), H, ht, K, tl, tb, fa, r1, r2)) ∧ cF σ σ')) := by
  obtain ⟨⟨hA, hJ⟩, hS, hH, ⟨hb1, hb2⟩, ⟨ht1, ht2⟩, hfa, hr1, hr2, hT⟩ := id hV
  obtain ⟨hw1, hw2, hw3, hw4⟩ := id hA.1.1
  obtain ⟨hs1, hs2, hs3, hs4, hs5, hs6, hs7⟩ := id hS.2
  have z128 : 128 < n := by omega
  have z129 : 129 < n := by omega
  have z130 : 130 < n := by omega
  have zTp0 : rTp σ tl tb := ⟨ht1, ht2⟩
  have ztl := hW.2.2.2.1
  refine y_start (by decide) (Nat.le_of_ble_eq_true rfl) (fun X0 hF => ?_)
  show yV X0 g 6 (yQ X0 g (SC g) (yPi (fun zv n' σ' => n ≤ n' ∧ (True) ∧ zv = (if tl + 20 ≤ 300 then tl + 20 else -1) ∧ cV σ' (if tl + 20 ≤ 300 then (w, h, (T, S, F, P, O, nf, df, nl, lg), (s, re, fo, ra, tu, we, sh), H, ht, K, tl + 20, fdB tl tb a b c d e_, fa, r1, r2) else (w, h, (T, S, F, P, O, nf, df, nl, lg), (s, re, fo, ra, tu, we, sh), H, ht, K, tl, tb, fa, r1, r2)) ∧ cF σ σ')) (rmL 2)) (SC g) n σ 0 0 0 [(0, yR g 0), (1, yI a), (2, yI b), (3, yI c), (4, yI d), (5, yI e_)] []
  refine y_aload_n (pc := 0) hF dX10_feed_0 0 rfl ?_
  refine y_get (pc := 1) (ci := 10) hF dX10_feed_1 (by omega) rfl rfl rfl iX10 0 (by decide) w_487 rfl ?_
  have zz4 := y_rV (pc := 4) hF (tX9_hasRoom (n := n) (σ := σ) hn tl tb zTp0 (by omega)) dX10_feed_4 (by omega) rfl rfl rfl w_540 qX9_hasRoom rfl ⟨Nat.le_of_ble_eq_true rfl, Nat.le_of_ble_eq_true rfl⟩ ⟨Nat.zero_le _, Nat.zero_le _⟩ (Nat.le_of_ble_eq_true rfl) rfl (rest := []) (cells := 0) (slots := 0) (lv := [(0, yR g 0), (1, yI a), (2, yI b), (3, yI c), (4, yI d), (5, yI e_)])
  refine y_cp (zz4) ?_
  refine y_if_ne (pc := 7) hF dX10_feed_7 12 rfl bi_r (fun zc7 => ?_) (fun zc7 => ?_)
  · replace zc7 := bi_n0.mp zc7
    have zrm : tl + 20 ≤ 300 := by simpa using zc7
    refine y_aload_n (pc := 12) hF dX10_feed_12 0 rfl ?_
    refine y_get (pc := 13) (ci := 10) hF dX10_feed_13 (by omega) rfl rfl rfl iX10 0 (by decide) w_487 rfl ?_
    refine y_iload_n (pc := 16) hF dX10_feed_16 1 rfl ?_
    refine y_cv (y_rV (pc := 17) hF (tX9_append hn tl tb zTp0 (by omega) a) dX10_feed_17 (by omega) rfl rfl rfl w_544 qX9_append rfl ⟨Nat.le_of_ble_eq_true rfl, Nat.le_of_ble_eq_true rfl⟩ ⟨Nat.zero_le _, Nat.zero_le _⟩ (Nat.le_of_ble_eq_true rfl) rfl) rfl rfl (fun n' σ17 zp17 => ?_)
    obtain ⟨zn17, zp17⟩ := zp17
    have zn17 := zn17.symm
    subst zn17
    refine y_aload_n (pc := 20) hF dX10_feed_20 0 rfl ?_
    refine y_get (pc := 21) (ci := 10) hF dX10_feed_21 (by omega) rfl rfl rfl iX10 0 (by decide) w_487 rfl ?_
    refine y_iload_n (pc := 24) hF dX10_feed_24 2 rfl ?_
    refine y_cv (y_rV (pc := 25) hF (tX9_append hn (tl + 4) (apB tl tb a) zp17.2 (by omega) b) dX10_feed_25 (by omega) rfl rfl rfl w_544 qX9_append rfl ⟨Nat.le_of_ble_eq_true rfl, Nat.le_of_ble_eq_true rfl⟩ ⟨Nat.zero_le _, Nat.zero_le _⟩ (Nat.le_of_ble_eq_true rfl) rfl) rfl rfl (fun n' σ25 zp25 => ?_)
    obtain ⟨zn25, zp25⟩ := zp25
    have zn25 := zn25.symm
    subst zn25
    refine y_aload_n (pc := 28) hF dX10_feed_28 0 rfl ?_
    refine y_get (pc := 29) (ci := 10) hF dX10_feed_29 (by omega) rfl rfl rfl iX10 0 (by decide) w_487 rfl ?_
    refine y_iload_n (pc := 32) hF dX10_feed_32 3 rfl ?_
    refine y_cv (y_rV (pc := 33) hF (tX9_append hn (tl + 4 + 4) (apB (tl + 4) (apB tl tb a) b) zp25.2 (by omega) c) dX10_feed_33 (by omega) rfl rfl rfl w_544 qX9_append rfl ⟨Nat.le_of_ble_eq_true rfl, Nat.le_of_ble_eq_true rfl⟩ ⟨Nat.zero_le _, Nat.zero_le _⟩ (Nat.le_of_ble_eq_true rfl) rfl) rfl rfl (fun n' σ33 zp33 => ?_)
    obtain ⟨zn33, zp33⟩ := zp33
    have zn33 := zn33.symm
    subst zn33
    refine y_aload_n (pc := 36) hF dX10_feed_36 0 rfl ?_
    refine y_get (pc := 37) (ci := 10) hF dX10_feed_37 (by omega) rfl rfl rfl iX10 0 (by decide) w_487 rfl ?_
    refine y_iload (pc := 40) hF dX10_feed_40 4 rfl ?_
    refine y_cv (y_rV (pc := 42) hF (tX9_append hn (tl + 4 + 4 + 4) (apB (tl + 4 + 4) (apB (tl + 4) (apB tl tb a) b) c) zp33.2 (by omega) d) dX10_feed_42 (by omega) rfl rfl rfl w_544 qX9_append rfl ⟨Nat.le_of_ble_eq_true rfl, Nat.le_of_ble_eq_true rfl⟩ ⟨Nat.zero_le _, Nat.zero_le _⟩ (Nat.le_of_ble_eq_true rfl) rfl) rfl rfl (fun n' σ42 zp42 => ?_)
    obtain ⟨zn42, zp42⟩ := zp42
    have zn42 := zn42.symm
    subst zn42
    refine y_aload_n (pc := 45) hF dX10_feed_45 0 rfl ?_
    refine y_get (pc := 46) (ci := 10) hF dX10_feed_46 (by omega) rfl rfl rfl iX10 0 (by decide) w_487 rfl ?_
    refine y_iload (pc := 49) hF dX10_feed_49 5 rfl ?_
    refine y_cv (y_rV (pc := 51) hF (tX9_append hn (tl + 4 + 4 + 4 + 4) (apB (tl + 4 + 4 + 4) (apB (tl + 4 + 4) (apB (tl + 4) (apB tl tb a) b) c) d) zp42.2 (by omega) e_) dX10_feed_51 (by omega) rfl rfl rfl w_544 qX9_append rfl ⟨Nat.le_of_ble_eq_true rfl, Nat.le_of_ble_eq_true rfl⟩ ⟨Nat.zero_le _, Nat.zero_le _⟩ (Nat.le_of_ble_eq_true rfl) rfl) rfl rfl (fun n' σ51 zp51 => ?_)
    obtain ⟨zn51, zp51⟩ := zp51
    have zn51 := zn51.symm
    subst zn51
    have zfr := (((zp17.1.tr zp25.1).tr zp33.1).tr zp42.1).tr zp51.1
    refine y_aload_n (pc := 54) hF dX10_feed_54 0 rfl ?_
    refine y_get (pc := 55) (ci := 10) hF dX10_feed_55 (by omega) rfl rfl rfl iX10 0 (by decide) w_487 rfl ?_
    refine y_getN (pc := 58) (ci := 9) hF dX10_feed_58 (by omega) rfl rfl rfl iX9 1 (by decide) w_122 rfl ?_
    rw [show σ51 1 1 = tl + 4 + 4 + 4 + 4 + 4 from zp51.2.1]
    exact y_iret (pc := 61) hF dX10_feed_61 (Nat.zero_le _) (Nat.zero_le _) ⟨_, rfl, Nat.le_refl _, trivial, by rw [if_pos zrm]; omega, by rw [if_pos zrm]; exact cV_tape hV zfr ⟨by rw [zp51.2.1]; omega, fun j a b => zp51.2.2 j a (by omega)⟩, fun c hc => zfr.1 c (by omega) (by omega)⟩
  · replace zc7 := bi_0.mp zc7
    refine y_iconst (pc := 10) hF dX10_feed_10 ?_
    exact y_iret (pc := 11) hF dX10_feed_11 (Nat.zero_le _) (Nat.zero_le _) ⟨_, rfl, Nat.le_refl _, trivial, by rw [if_neg (by simpa using zc7)], by rw [if_neg (by simpa using zc7)]; exact hV, cF.rf σ⟩
