theorem dX10_status_0 : decode cX10_status 0 = .ok (.iload_n 1, 1) := by decide +kernel
theorem dX10_status_1 : decode cX10_status 1 = .ok (.lookupswitch 37 #[(0, 27), (1, 32)], 27) := by decide +kernel
theorem dX10_status_28 : decode cX10_status 28 = .ok (.aload_n 0, 1) := by decide +kernel
theorem dX10_status_29 : decode cX10_status 29 = .ok (.getfield 92, 3) := by decide +kernel
theorem dX10_status_32 : decode cX10_status 32 = .ok (.ireturn, 1) := by decide +kernel
theorem dX10_status_33 : decode cX10_status 33 = .ok (.aload_n 0, 1) := by decide +kernel
theorem dX10_status_34 : decode cX10_status 34 = .ok (.getfield 96, 3) := by decide +kernel
theorem dX10_status_37 : decode cX10_status 37 = .ok (.ireturn, 1) := by decide +kernel
theorem dX10_status_38 : decode cX10_status 38 = .ok (.iconst (-1), 1) := by decide +kernel
theorem dX10_status_39 : decode cX10_status 39 = .ok (.ireturn, 1) := by decide +kernel
set_option maxHeartbeats 4000000 in
set_option maxRecDepth 100000 in
theorem tX10_status {l : Launch} {g : yG} {n : Nat} {σ : yM} (hn : 172 ≤ n) (w h : Int) (T S F P O : Int → Int → Int) (nf df nl : Int) (lg : Int → Int → Int) (s re fo ra tu we sh : Int) (H : List aX) (ht : Bool) (K : Int → Int → Int) (tl : Int) (tb : Int → Int) (fa r1 r2 N : Int) (hV : cV σ (w, h, (T, S, F, P, O, nf, df, nl, lg), (s, re, fo, ra, tu, we, sh), H, ht, K, tl, tb, fa, r1, r2)) (hW : aW N (w, h, (T, S, F, P, O, nf, df, nl, lg), (s, re, fo, ra, tu, we, sh), H, ht, K, tl, tb, fa, r1, r2)) (a : Int) (ha : -2147483648 ≤ a ∧ a < 2147483648) : yMet l g yX10_status cX10_status 2 (some .int) (rmL 1) [yR g 0, yI a] (SC g) n σ (SC g) (yPp (if a = 0 then r1 else if a = 1 then r2 else -1) n σ) := by
  obtain ⟨⟨hA, hJ⟩, hS, hH, ⟨hb1, hb2⟩, ⟨ht1, ht2⟩, hfa, hr1, hr2, hT⟩ := id hV
  obtain ⟨hw1, hw2, hw3, hw4⟩ := id hA.1.1
  obtain ⟨hs1, hs2, hs3, hs4, hs5, hs6, hs7⟩ := id hS.2
  have z128 : 128 < n := by omega
  have z129 : 129 < n := by omega
  have z130 : 130 < n := by omega
  refine y_start (by decide) (Nat.le_of_ble_eq_true rfl) (fun X0 hF => ?_)
  show yV X0 g 2 (yQ X0 g (SC g) (yPp (if a = 0 then r1 else if a = 1 then r2 else -1) n σ) (rmL 1)) (SC g) n σ 0 0 0 [(0, yR g 0), (1, yI a)] []
  refine y_iload_n (pc := 0) hF dX10_status_0 1 rfl ?_
  rcases Decidable.em (a = 0) with zw1_0 | zw1_0
  · refine y_lsw (pc := 1) hF dX10_status_1 (by decide) (by omega) (off := 27) (by rw [zw1_0]; rfl) 28 rfl ?_
    refine y_aload_n (pc := 28) hF dX10_status_28 0 rfl ?_
    refine y_get (pc := 29) (ci := 10) hF dX10_status_29 (by omega) rfl rfl rfl iX10 14 (by decide) w_501 rfl ?_
    rw [show σ 0 14 = r1 from hr1]
    exact y_iret (pc := 32) hF dX10_status_32 (Nat.zero_le _) (Nat.zero_le _) ⟨_, rfl, by simp [zw1_0], rfl, rfl⟩
  rcases Decidable.em (a = 1) with zw1_1 | zw1_1
  · refine y_lsw (pc := 1) hF dX10_status_1 (by decide) (by omega) (off := 32) (by rw [zw1_1]; rfl) 33 rfl ?_
    refine y_aload_n (pc := 33) hF dX10_status_33 0 rfl ?_
    refine y_get (pc := 34) (ci := 10) hF dX10_status_34 (by omega) rfl rfl rfl iX10 15 (by decide) w_502 rfl ?_
    rw [show σ 0 15 = r2 from hr2]
    exact y_iret (pc := 37) hF dX10_status_37 (Nat.zero_le _) (Nat.zero_le _) ⟨_, rfl, by simp [zw1_1], rfl, rfl⟩
  refine y_lsw (pc := 1) hF dX10_status_1 (by decide) (by omega) (off := 37) (by simp [Op.lookupswitch.offset, zw1_0, Ne.symm zw1_0, zw1_1, Ne.symm zw1_1]) 38 rfl ?_
  refine y_iconst (pc := 38) hF dX10_status_38 ?_
  exact y_iret (pc := 39) hF dX10_status_39 (Nat.zero_le _) (Nat.zero_le _) ⟨_, rfl, by rw [if_neg zw1_0, if_neg zw1_1], rfl, rfl⟩

theorem dX10_fault_0 : decode cX10_fault 0 = .ok (.aload_n 0, 1) := by decide +kernel
theorem dX10_fault_1 : decode cX10_fault 1 = .ok (.getfield 12, 3) := by decide +kernel
theorem dX10_fault_4 : decode cX10_fault 4 = .ok (.getfield 142, 3) := by decide +kernel
theorem dX10_fault_7 : decode cX10_fault 7 = .ok (.ireturn, 1) := by decide +kernel
set_option maxHeartbeats 4000000 in
set_option maxRecDepth 100000 in
theorem tX10_fault {l : Launch} {g : yG} {n : Nat} {σ : yM} (hn : 172 ≤ n) (w h : Int) (T S F P O : Int → Int → Int) (nf df nl : Int) (lg : Int → Int → Int) (s re fo ra tu we sh : Int) (H : List aX) (ht : Bool) (K : Int → Int → Int) (tl : Int) (tb : Int → Int) (fa r1 r2 N : Int) (hV : cV σ (w, h, (T, S, F, P, O, nf, df, nl, lg), (s, re, fo, ra, tu, we, sh), H, ht, K, tl, tb, fa, r1, r2)) (hW : aW N (w, h, (T, S, F, P, O, nf, df, nl, lg), (s, re, fo, ra, tu, we, sh), H, ht, K, tl, tb, fa, r1, r2))  : yMet l g yX10_fault cX10_fault 1 (some .int) (rmL 1) [yR g 0] (SC g) n σ (SC g) (yPp fa n σ) := by
  obtain ⟨⟨hA, hJ⟩, hS, hH, ⟨hb1, hb2⟩, ⟨ht1, ht2⟩, hfa, hr1, hr2, hT⟩ := id hV
  obtain ⟨hw1, hw2, hw3, hw4⟩ := id hA.1.1
  obtain ⟨hs1, hs2, hs3, hs4, hs5, hs6, hs7⟩ := id hS.2
  have z128 : 128 < n := by omega
  have z129 : 129 < n := by omega
  have z130 : 130 < n := by omega
  refine y_start (by decide) (Nat.le_of_ble_eq_true rfl) (fun X0 hF => ?_)
  show yV X0 g 1 (yQ X0 g (SC g) (yPp fa n σ) (rmL 1)) (SC g) n σ 0 0 0 [(0, yR g 0)] []
  refine y_aload_n (pc := 0) hF dX10_fault_0 0 rfl ?_
  refine y_get (pc := 1) (ci := 10) hF dX10_fault_1 (by omega) rfl rfl rfl iX10 0 (by decide) w_487 rfl ?_
  refine y_getN (pc := 4) (ci := 9) hF dX10_fault_4 (by omega) rfl rfl rfl iX9 5 (by decide) w_130 rfl ?_
  rw [show σ 1 5 = fa from hfa]
  exact y_iret (pc := 7) hF dX10_fault_7 (Nat.zero_le _) (Nat.zero_le _) ⟨_, rfl, rfl, rfl, rfl⟩

theorem dX10_countFront_0 : decode cX10_countFront 0 = .ok (.iconst 0, 1) := by decide +kernel
theorem dX10_countFront_1 : decode cX10_countFront 1 = .ok (.istore_n 1, 1) := by decide +kernel
theorem dX10_countFront_2 : decode cX10_countFront 2 = .ok (.iconst 0, 1) := by decide +kernel
theorem dX10_countFront_3 : decode cX10_countFront 3 = .ok (.istore_n 2, 1) := by decide +kernel
theorem dX10_countFront_4 : decode cX10_countFront 4 = .ok (.iload_n 2, 1) := by decide +kernel
theorem dX10_countFront_5 : decode cX10_countFront 5 = .ok (.aload_n 0, 1) := by decide +kernel
theorem dX10_countFront_6 : decode cX10_countFront 6 = .ok (.getfield 26, 3) := by decide +kernel
theorem dX10_countFront_9 : decode cX10_countFront 9 = .ok (.invokevirtual 181, 3) := by decide +kernel
theorem dX10_countFront_12 : decode cX10_countFront 12 = .ok (.if_icmp .ge 43, 3) := by decide +kernel
theorem dX10_countFront_15 : decode cX10_countFront 15 = .ok (.iload_n 1, 1) := by decide +kernel
theorem dX10_countFront_16 : decode cX10_countFront 16 = .ok (.aload_n 0, 1) := by decide +kernel
theorem dX10_countFront_17 : decode cX10_countFront 17 = .ok (.getfield 26, 3) := by decide +kernel
theorem dX10_countFront_20 : decode cX10_countFront 20 = .ok (.aload_n 0, 1) := by decide +kernel
theorem dX10_countFront_21 : decode cX10_countFront 21 = .ok (.getfield 26, 3) := by decide +kernel
theorem dX10_countFront_24 : decode cX10_countFront 24 = .ok (.iload_n 2, 1) := by decide +kernel
theorem dX10_countFront_25 : decode cX10_countFront 25 = .ok (.invokevirtual 242, 3) := by decide +kernel
theorem dX10_countFront_28 : decode cX10_countFront 28 = .ok (.aload_n 0, 1) := by decide +kernel
theorem dX10_countFront_29 : decode cX10_countFront 29 = .ok (.getfield 26, 3) := by decide +kernel
theorem dX10_countFront_32 : decode cX10_countFront 32 = .ok (.iload_n 2, 1) := by decide +kernel
theorem dX10_countFront_33 : decode cX10_countFront 33 = .ok (.invokevirtual 245, 3) := by decide +kernel
theorem dX10_countFront_36 : decode cX10_countFront 36 = .ok (.invokevirtual 254, 3) := by decide +kernel
theorem dX10_countFront_39 : decode cX10_countFront 39 = .ok (.ifCond .eq 7, 3) := by decide +kernel
theorem dX10_countFront_42 : decode cX10_countFront 42 = .ok (.iconst 1, 1) := by decide +kernel
theorem dX10_countFront_43 : decode cX10_countFront 43 = .ok (.goto 4, 3) := by decide +kernel
theorem dX10_countFront_46 : decode cX10_countFront 46 = .ok (.iconst 0, 1) := by decide +kernel
theorem dX10_countFront_47 : decode cX10_countFront 47 = .ok (.iadd, 1) := by decide +kernel
theorem dX10_countFront_48 : decode cX10_countFront 48 = .ok (.istore_n 1, 1) := by decide +kernel
theorem dX10_countFront_49 : decode cX10_countFront 49 = .ok (.iinc 2 1, 3) := by decide +kernel
theorem dX10_countFront_52 : decode cX10_countFront 52 = .ok (.goto (-48), 3) := by decide +kernel
theorem dX10_countFront_55 : decode cX10_countFront 55 = .ok (.iload_n 1, 1) := by decide +kernel
theorem dX10_countFront_56 : decode cX10_countFront 56 = .ok (.ireturn, 1) := by decide +kernel
set_option maxHeartbeats 4000000 in
set_option maxRecDepth 100000 in
theorem tX10_countFront {l : Launch} {g : yG} {n : Nat} {σ : yM} (hn : 172 ≤ n) (w h : Int) (T S F P O : Int → Int → Int) (nf df nl : Int) (lg : Int → Int → Int) (s re fo ra tu we sh : Int) (H : List aX) (ht : Bool) (K : Int → Int → Int) (tl : Int) (tb : Int → Int) (fa r1 r2 N : Int) (hV : cV σ (w, h, (T, S, F, P, O, nf, df, nl, lg), (s, re, fo, ra, tu, we, sh), H, ht, K, tl, tb, fa, r1, r2)) (hW : aW N (w, h, (T, S, F, P, O, nf, df, nl, lg), (s, re, fo, ra, tu, we, sh), H, ht, K, tl, tb, fa, r1, r2))  : yMet l g yX10_countFront cX10_countFront 3 (some .int) (rmL 4) [yR g 0] (SC g) n σ (SC g) (yPp (sCt w h (fun x y => sFr w h T x y)) n σ) := by
  obtain ⟨⟨hA, hJ⟩, hS, hH, ⟨hb1, hb2⟩, ⟨ht1, ht2⟩, hfa, hr1, hr2, hT⟩ := id hV
  obtain ⟨hw1, hw2, hw3, hw4⟩ := id hA.1.1
  obtain ⟨hs1, hs2, hs3, hs4, hs5, hs6, hs7⟩ := id hS.2
  have z128 : 128 < n := by omega
  have z129 : 129 < n := by omega
  have z130 : 130 < n := by omega
  have zwh := y_wh ⟨hw1, hw2⟩ ⟨hw3, hw4⟩
  refine y_start (by decide) (Nat.le_of_ble_eq_true rfl) (fun X0 hF => ?_)
  show yV X0 g 3 (yQ X0 g (SC g) (yPp (sCt w h (fun x y => sFr w h T x y)) n σ) (rmL 4)) (SC g) n σ 0 0 0 [(0, yR g 0)] []
  refine y_iconst (pc := 0) hF dX10_countFront_0 ?_
  refine y_istore_n (pc := 1) (lv' := [(0, yR g 0), (1, yI 0)]) hF dX10_countFront_1 (by decide) rfl rfl ?_
  refine y_iconst (pc := 2) hF dX10_countFront_2 ?_
  refine y_istore_n (pc := 3) (lv' := [(0, yR g 0), (1, yI 0), (2, yI 0)]) hF dX10_countFront_3 (by decide) rfl rfl ?_
  have zL4 : ∀ (N : Nat) (i c : Int), N = (w * h - i).toNat → (0 ≤ i ∧ i ≤ w * h ∧ c = fr (fun s i => s + bi ((fun x y => sFr w h T x y) (i % w) (i / w))) 0 i.toNat 0) → yV X0 g 3 (yQ X0 g (SC g) (yPp (sCt w h (fun x y => sFr w h T x y)) n σ) (rmL 4)) (SC g) n σ 0 0 4 [(0, yR g 0), (1, yI c), (2, yI i)] [] := by
    intro N
    induction N using Nat.strongRecOn with
    | ind N zh4 =>
      intro i c  zN4 zI4
      refine y_iload_n (pc := 4) hF dX10_countFront_4 2 rfl ?_
      refine y_aload_n (pc := 5) hF dX10_countFront_5 0 rfl ?_
      refine y_get (pc := 6) (ci := 10) hF dX10_countFront_6 (by omega) rfl rfl rfl iX10 2 (by decide) w_489 rfl ?_
      have zz9 := y_rV (pc := 9) hF (tX4_dots (n := n) (σ := σ) 5 w h T S F P O hn pic_5 hA) dX10_countFront_9 (by have := pic_5.1; omega) (pic_5.2 g).1 rfl rfl w_567 qX4_dots rfl ⟨Nat.le_of_ble_eq_true rfl, Nat.le_of_ble_eq_true rfl⟩ ⟨Nat.zero_le _, Nat.zero_le _⟩ (Nat.le_of_ble_eq_true rfl) rfl (rest := [yI i]) (cells := 0) (slots := 0) (lv := [(0, yR g 0), (1, yI c), (2, yI i)])
      refine y_cp (zz9) ?_
      refine y_icmp_ge (pc := 12) hF dX10_countFront_12 55 rfl (by omega) (by omega) (fun zc12 => ?_) (fun zc12 => ?_)
      · skip
        refine y_iload_n (pc := 55) hF dX10_countFront_55 1 rfl ?_
        exact y_iret (pc := 56) hF dX10_countFront_56 (Nat.zero_le _) (Nat.zero_le _) ⟨_, rfl, by rw [zI4.2.2, show i = w * h by omega]; exact cnt_lin2 (w := w) (h := h) (fun x y => sFr w h T x y) (by omega) (by omega), rfl, rfl⟩
      · skip
        have zd := y_de (h := h) hw1 zI4.1 (by omega)
        have zri : -2147483648 ≤ i ∧ i < 2147483648 := by omega
        refine y_iload_n (pc := 15) hF dX10_countFront_15 1 rfl ?_
        refine y_aload_n (pc := 16) hF dX10_countFront_16 0 rfl ?_
        refine y_get (pc := 17) (ci := 10) hF dX10_countFront_17 (by omega) rfl rfl rfl iX10 2 (by decide) w_489 rfl ?_
        refine y_aload_n (pc := 20) hF dX10_countFront_20 0 rfl ?_
        refine y_get (pc := 21) (ci := 10) hF dX10_countFront_21 (by omega) rfl rfl rfl iX10 2 (by decide) w_489 rfl ?_
        refine y_iload_n (pc := 24) hF dX10_countFront_24 2 rfl ?_
        have zz25 := y_rV (pc := 25) hF (tX4_xOf (n := n) (σ := σ) 5 w h T S F P O hn pic_5 hA i zri) dX10_countFront_25 (by have := pic_5.1; omega) (pic_5.2 g).1 rfl rfl w_994 qX4_xOf rfl ⟨Nat.le_of_ble_eq_true rfl, Nat.le_of_ble_eq_true rfl⟩ ⟨Nat.zero_le _, Nat.zero_le _⟩ (Nat.le_of_ble_eq_true rfl) rfl (rest := [yR g 5, yI c]) (cells := 0) (slots := 0) (lv := [(0, yR g 0), (1, yI c), (2, yI i)])
        refine y_cp (zz25) ?_
        rw [show cx w i = i % w from (by unfold cx; rw [if_neg (by omega)])]
        refine y_aload_n (pc := 28) hF dX10_countFront_28 0 rfl ?_
        refine y_get (pc := 29) (ci := 10) hF dX10_countFront_29 (by omega) rfl rfl rfl iX10 2 (by decide) w_489 rfl ?_
        refine y_iload_n (pc := 32) hF dX10_countFront_32 2 rfl ?_
        have zz33 := y_rV (pc := 33) hF (tX4_yOf (n := n) (σ := σ) 5 w h T S F P O hn pic_5 hA i zri) dX10_countFront_33 (by have := pic_5.1; omega) (pic_5.2 g).1 rfl rfl w_995 qX4_yOf rfl ⟨Nat.le_of_ble_eq_true rfl, Nat.le_of_ble_eq_true rfl⟩ ⟨Nat.zero_le _, Nat.zero_le _⟩ (Nat.le_of_ble_eq_true rfl) rfl (rest := [yI (i % w), yR g 5, yI c]) (cells := 0) (slots := 0) (lv := [(0, yR g 0), (1, yI c), (2, yI i)])
        refine y_cp (zz33) ?_
        rw [show cy w i = i / w from (by unfold cy; rw [if_neg (by omega)])]
        have zz36 := y_rV (pc := 36) hF (tX4_isOnFront (n := n) (σ := σ) 5 w h T S F P O hn pic_5 hA (i % w) (i / w) (by omega) (by omega)) dX10_countFront_36 (by have := pic_5.1; omega) (pic_5.2 g).1 rfl rfl w_996 qX4_isOnFront rfl ⟨Nat.le_of_ble_eq_true rfl, Nat.le_of_ble_eq_true rfl⟩ ⟨Nat.zero_le _, Nat.zero_le _⟩ (Nat.le_of_ble_eq_true rfl) rfl (rest := [yI c]) (cells := 0) (slots := 0) (lv := [(0, yR g 0), (1, yI c), (2, yI i)])
        refine y_cp (zz36) ?_
        refine y_t_if_eq (pc := 39) hF dX10_countFront_39 dX10_countFront_42 dX10_countFront_43 dX10_countFront_46 bi_r ?_
        rw [show (if (bi (sFr w h T (i % w) (i / w))) = 0 then 0 else 1) = bi (sFr w h T (i % w) (i / w)) from bi_t]
        refine y_iadd (pc := 47) hF dX10_countFront_47 ?_
        refine y_istore_n (pc := 48) (lv' := [(0, yR g 0), (1, yI (c + (bi (sFr w h T (i % w) (i / w))))), (2, yI i)]) hF dX10_countFront_48 (by decide) rfl rfl ?_
        refine y_iinc (pc := 49) (lv' := [(0, yR g 0), (1, yI (c + (bi (sFr w h T (i % w) (i / w))))), (2, yI (i + 1))]) hF dX10_countFront_49 2 rfl (by decide) rfl rfl ?_
        refine y_goto (pc := 52) hF dX10_countFront_52 4 rfl ?_
        exact zh4 _ (by omega) (i + 1) (c + (bi (sFr w h T (i % w) (i / w)))) rfl ⟨by omega, by omega, by rw [fr_up _ _ _ _ zI4.1, ← zI4.2.2, Int.zero_add]⟩
  exact zL4 _ (0) (0) rfl ⟨by omega, by omega, rfl⟩

theorem dX10_told_0 : decode cX10_told 0 = .ok (.aload_n 0, 1) := by decide +kernel
theorem dX10_told_1 : decode cX10_told 1 = .ok (.iload_n 1, 1) := by decide +kernel
theorem dX10_told_2 : decode cX10_told 2 = .ok (.ifCond .lt 13, 3) := by decide +kernel
theorem dX10_told_5 : decode cX10_told 5 = .ok (.iload_n 1, 1) := by decide +kernel
theorem dX10_told_6 : decode cX10_told 6 = .ok (.bipush 18, 2) := by decide +kernel
theorem dX10_told_8 : decode cX10_told 8 = .ok (.if_icmp .gt 7, 3) := by decide +kernel
theorem dX10_told_11 : decode cX10_told 11 = .ok (.iconst 1, 1) := by decide +kernel
theorem dX10_told_12 : decode cX10_told 12 = .ok (.goto 4, 3) := by decide +kernel
theorem dX10_told_15 : decode cX10_told 15 = .ok (.iconst 0, 1) := by decide +kernel
theorem dX10_told_16 : decode cX10_told 16 = .ok (.invokevirtual 110, 3) := by decide +kernel
theorem dX10_told_19 : decode cX10_told 19 = .ok (.iload_n 1, 1) := by decide +kernel
theorem dX10_told_20 : decode cX10_told 20 = .ok (.tableswitch 247 0 17 #[88, 96, 104, 120, 128, 136, 141, 153, 161, 169, 177, 185, 193, 201, 209, 222, 231, 239], 88) := by decide +kernel
theorem dX10_told_108 : decode cX10_told 108 = .ok (.aload_n 0, 1) := by decide +kernel
theorem dX10_told_109 : decode cX10_told 109 = .ok (.getfield 26, 3) := by decide +kernel
theorem dX10_told_112 : decode cX10_told 112 = .ok (.getfield 121, 3) := by decide +kernel
theorem dX10_told_115 : decode cX10_told 115 = .ok (.ireturn, 1) := by decide +kernel
theorem dX10_told_116 : decode cX10_told 116 = .ok (.aload_n 0, 1) := by decide +kernel
theorem dX10_told_117 : decode cX10_told 117 = .ok (.getfield 26, 3) := by decide +kernel
theorem dX10_told_120 : decode cX10_told 120 = .ok (.getfield 125, 3) := by decide +kernel
theorem dX10_told_123 : decode cX10_told 123 = .ok (.ireturn, 1) := by decide +kernel
theorem dX10_told_124 : decode cX10_told 124 = .ok (.aload_n 0, 1) := by decide +kernel
theorem dX10_told_125 : decode cX10_told 125 = .ok (.getfield 26, 3) := by decide +kernel
theorem dX10_told_128 : decode cX10_told 128 = .ok (.invokevirtual 181, 3) := by decide +kernel
theorem dX10_told_131 : decode cX10_told 131 = .ok (.aload_n 0, 1) := by decide +kernel
theorem dX10_told_132 : decode cX10_told 132 = .ok (.getfield 26, 3) := by decide +kernel
theorem dX10_told_135 : decode cX10_told 135 = .ok (.invokevirtual 138, 3) := by decide +kernel
theorem dX10_told_138 : decode cX10_told 138 = .ok (.isub, 1) := by decide +kernel
theorem dX10_told_139 : decode cX10_told 139 = .ok (.ireturn, 1) := by decide +kernel
theorem dX10_told_140 : decode cX10_told 140 = .ok (.aload_n 0, 1) := by decide +kernel
theorem dX10_told_141 : decode cX10_told 141 = .ok (.getfield 26, 3) := by decide +kernel
theorem dX10_told_144 : decode cX10_told 144 = .ok (.invokevirtual 138, 3) := by decide +kernel
theorem dX10_told_147 : decode cX10_told 147 = .ok (.ireturn, 1) := by decide +kernel
theorem dX10_told_148 : decode cX10_told 148 = .ok (.aload_n 0, 1) := by decide +kernel
theorem dX10_told_149 : decode cX10_told 149 = .ok (.getfield 26, 3) := by decide +kernel
theorem dX10_told_152 : decode cX10_told 152 = .ok (.invokevirtual 192, 3) := by decide +kernel
theorem dX10_told_155 : decode cX10_told 155 = .ok (.ireturn, 1) := by decide +kernel
theorem dX10_told_156 : decode cX10_told 156 = .ok (.aload_n 0, 1) := by decide +kernel
theorem dX10_told_157 : decode cX10_told 157 = .ok (.invokevirtual 195, 3) := by decide +kernel
theorem dX10_told_160 : decode cX10_told 160 = .ok (.ireturn, 1) := by decide +kernel
theorem dX10_told_161 : decode cX10_told 161 = .ok (.aload_n 0, 1) := by decide +kernel
theorem dX10_told_162 : decode cX10_told 162 = .ok (.getfield 70, 3) := by decide +kernel
theorem dX10_told_165 : decode cX10_told 165 = .ok (.aload_n 0, 1) := by decide +kernel
theorem dX10_told_166 : decode cX10_told 166 = .ok (.getfield 26, 3) := by decide +kernel
theorem dX10_told_169 : decode cX10_told 169 = .ok (.invokevirtual 198, 3) := by decide +kernel
theorem dX10_told_172 : decode cX10_told 172 = .ok (.ireturn, 1) := by decide +kernel
theorem dX10_told_173 : decode cX10_told 173 = .ok (.aload_n 0, 1) := by decide +kernel
theorem dX10_told_174 : decode cX10_told 174 = .ok (.getfield 33, 3) := by decide +kernel
theorem dX10_told_177 : decode cX10_told 177 = .ok (.getfield 202, 3) := by decide +kernel
theorem dX10_told_180 : decode cX10_told 180 = .ok (.ireturn, 1) := by decide +kernel
theorem dX10_told_181 : decode cX10_told 181 = .ok (.aload_n 0, 1) := by decide +kernel
theorem dX10_told_182 : decode cX10_told 182 = .ok (.getfield 40, 3) := by decide +kernel
theorem dX10_told_185 : decode cX10_told 185 = .ok (.getfield 205, 3) := by decide +kernel
theorem dX10_told_188 : decode cX10_told 188 = .ok (.ireturn, 1) := by decide +kernel
theorem dX10_told_189 : decode cX10_told 189 = .ok (.aload_n 0, 1) := by decide +kernel
theorem dX10_told_190 : decode cX10_told 190 = .ok (.getfield 12, 3) := by decide +kernel
theorem dX10_told_193 : decode cX10_told 193 = .ok (.getfield 107, 3) := by decide +kernel
theorem dX10_told_196 : decode cX10_told 196 = .ok (.ireturn, 1) := by decide +kernel
theorem dX10_told_197 : decode cX10_told 197 = .ok (.aload_n 0, 1) := by decide +kernel
theorem dX10_told_198 : decode cX10_told 198 = .ok (.getfield 19, 3) := by decide +kernel
theorem dX10_told_201 : decode cX10_told 201 = .ok (.getfield 208, 3) := by decide +kernel
theorem dX10_told_204 : decode cX10_told 204 = .ok (.ireturn, 1) := by decide +kernel
theorem dX10_told_205 : decode cX10_told 205 = .ok (.aload_n 0, 1) := by decide +kernel
theorem dX10_told_206 : decode cX10_told 206 = .ok (.getfield 19, 3) := by decide +kernel
theorem dX10_told_209 : decode cX10_told 209 = .ok (.getfield 211, 3) := by decide +kernel
theorem dX10_told_212 : decode cX10_told 212 = .ok (.ireturn, 1) := by decide +kernel
theorem dX10_told_213 : decode cX10_told 213 = .ok (.aload_n 0, 1) := by decide +kernel
theorem dX10_told_214 : decode cX10_told 214 = .ok (.getfield 19, 3) := by decide +kernel
theorem dX10_told_217 : decode cX10_told 217 = .ok (.getfield 214, 3) := by decide +kernel
theorem dX10_told_220 : decode cX10_told 220 = .ok (.ireturn, 1) := by decide +kernel
theorem dX10_told_221 : decode cX10_told 221 = .ok (.aload_n 0, 1) := by decide +kernel
theorem dX10_told_222 : decode cX10_told 222 = .ok (.getfield 19, 3) := by decide +kernel
theorem dX10_told_225 : decode cX10_told 225 = .ok (.getfield 217, 3) := by decide +kernel
theorem dX10_told_228 : decode cX10_told 228 = .ok (.ireturn, 1) := by decide +kernel
theorem dX10_told_229 : decode cX10_told 229 = .ok (.aload_n 0, 1) := by decide +kernel
theorem dX10_told_230 : decode cX10_told 230 = .ok (.getfield 47, 3) := by decide +kernel
theorem dX10_told_233 : decode cX10_told 233 = .ok (.ifCond .eq 7, 3) := by decide +kernel
theorem dX10_told_236 : decode cX10_told 236 = .ok (.iconst 1, 1) := by decide +kernel
theorem dX10_told_237 : decode cX10_told 237 = .ok (.goto 4, 3) := by decide +kernel
theorem dX10_told_240 : decode cX10_told 240 = .ok (.iconst 0, 1) := by decide +kernel
theorem dX10_told_241 : decode cX10_told 241 = .ok (.ireturn, 1) := by decide +kernel
theorem dX10_told_242 : decode cX10_told 242 = .ok (.aload_n 0, 1) := by decide +kernel
theorem dX10_told_243 : decode cX10_told 243 = .ok (.getfield 33, 3) := by decide +kernel
theorem dX10_told_246 : decode cX10_told 246 = .ok (.getfield 220, 3) := by decide +kernel
theorem dX10_told_249 : decode cX10_told 249 = .ok (.l2i, 1) := by decide +kernel
theorem dX10_told_250 : decode cX10_told 250 = .ok (.ireturn, 1) := by decide +kernel
theorem dX10_told_251 : decode cX10_told 251 = .ok (.aload_n 0, 1) := by decide +kernel
theorem dX10_told_252 : decode cX10_told 252 = .ok (.getfield 19, 3) := by decide +kernel
theorem dX10_told_255 : decode cX10_told 255 = .ok (.getfield 224, 3) := by decide +kernel
theorem dX10_told_258 : decode cX10_told 258 = .ok (.ireturn, 1) := by decide +kernel
theorem dX10_told_259 : decode cX10_told 259 = .ok (.aload_n 0, 1) := by decide +kernel
theorem dX10_told_260 : decode cX10_told 260 = .ok (.getfield 19, 3) := by decide +kernel
theorem dX10_told_263 : decode cX10_told 263 = .ok (.getfield 227, 3) := by decide +kernel
theorem dX10_told_266 : decode cX10_told 266 = .ok (.ireturn, 1) := by decide +kernel
theorem dX10_told_267 : decode cX10_told 267 = .ok (.aload_n 0, 1) := by decide +kernel
theorem dX10_told_268 : decode cX10_told 268 = .ok (.getfield 19, 3) := by decide +kernel
theorem dX10_told_271 : decode cX10_told 271 = .ok (.getfield 230, 3) := by decide +kernel
theorem dX10_told_274 : decode cX10_told 274 = .ok (.ireturn, 1) := by decide +kernel
set_option maxHeartbeats 4000000 in
set_option maxRecDepth 100000 in
theorem tX10_told {l : Launch} {g : yG} {n : Nat} {σ : yM} (hlt : l.stackTraces = false) (hn : 172 ≤ n) (w h : Int) (T S F P O : Int → Int → Int) (nf df nl : Int) (lg : Int → Int → Int) (s re fo ra tu we sh : Int) (H : List aX) (ht : Bool) (K : Int → Int → Int) (tl : Int) (tb : Int → Int) (fa r1 r2 N : Int) (hV : cV σ (w, h, (T, S, F, P, O, nf, df, nl, lg), (s, re, fo, ra, tu, we, sh), H, ht, K, tl, tb, fa, r1, r2)) (hW : aW N (w, h, (T, S, F, P, O, nf, df, nl, lg), (s, re, fo, ra, tu, we, sh), H, ht, K, tl, tb, fa, r1, r2)) (a : Int) (ha : -2147483648 ≤ a ∧ a < 2147483648) : yMX l g yX10_told cX10_told 2 (some .int) (rmA 8 3 18) [yR g 0, yI a] (SC g) n σ (SC g) (yPi (fun v n' σ' => n ≤ n' ∧ (0 ≤ a ∧ a ≤ 18) ∧ v = tV w h T F nf df (H.length : Int) tl s re fo ra tu we sh ht a ∧ cV σ' (w, h, (T, S, F, P, O, nf, df, nl, lg), (s, re, fo, ra, tu, we, sh), H, ht, K, tl, tb, fa, r1, r2) ∧ cF σ σ')) (fun E n' σ' => E = eA ∧ n ≤ n' ∧ ¬ (0 ≤ a ∧ a ≤ 18) ∧ cV σ' (bA (w, h, (T, S, F, P, O, nf, df, nl, lg), (s, re, fo, ra, tu, we, sh), H, ht, K, tl, tb, fa, r1, r2)) ∧ cF σ σ') := by
  obtain ⟨⟨hA, hJ⟩, hS, hH, ⟨hb1, hb2⟩, ⟨ht1, ht2⟩, hfa, hr1, hr2, hT⟩ := id hV
  obtain ⟨hw1, hw2, hw3, hw4⟩ := id hA.1.1
  obtain ⟨hs1, hs2, hs3, hs4, hs5, hs6, hs7⟩ := id hS.2
  have z128 : 128 < n := by omega
  have z129 : 129 < n := by omega
  have z130 : 130 < n := by omega
  have zdp : σ 13 2 = (H.length : Int) := by obtain ⟨zq, z1, z2, z3, z4⟩ := hH; exact z3
  refine y_startX (by decide) (Nat.le_of_ble_eq_true rfl) (fun X0 hX => ?_)
  have hF := hX.1
  show yV X0 g 2 (yQX X0 g (SC g) (yPi (fun v n' σ' => n ≤ n' ∧ (0 ≤ a ∧ a ≤ 18) ∧ v = tV w h T F nf df (H.length : Int) tl s re fo ra tu we sh ht a ∧ cV σ' (w, h, (T, S, F, P, O, nf, df, nl, lg), (s, re, fo, ra, tu, we, sh), H, ht, K, tl, tb, fa, r1, r2) ∧ cF σ σ')) (fun E n' σ' => E = eA ∧ n ≤ n' ∧ ¬ (0 ≤ a ∧ a ≤ 18) ∧ cV σ' (bA (w, h, (T, S, F, P, O, nf, df, nl, lg), (s, re, fo, ra, tu, we, sh), H, ht, K, tl, tb, fa, r1, r2)) ∧ cF σ σ') (rmA 8 3 18)) (SC g) n σ 0 0 0 [(0, yR g 0), (1, yI a)] []
  have zJ16 : ∀ (zb : Bool), (zb = decide (0 ≤ a ∧ a ≤ 18)) → yV X0 g 2 (yQX X0 g (SC g) (yPi (fun v n' σ' => n ≤ n' ∧ (0 ≤ a ∧ a ≤ 18) ∧ v = tV w h T F nf df (H.length : Int) tl s re fo ra tu we sh ht a ∧ cV σ' (w, h, (T, S, F, P, O, nf, df, nl, lg), (s, re, fo, ra, tu, we, sh), H, ht, K, tl, tb, fa, r1, r2) ∧ cF σ σ')) (fun E n' σ' => E = eA ∧ n ≤ n' ∧ ¬ (0 ≤ a ∧ a ≤ 18) ∧ cV σ' (bA (w, h, (T, S, F, P, O, nf, df, nl, lg), (s, re, fo, ra, tu, we, sh), H, ht, K, tl, tb, fa, r1, r2)) ∧ cF σ σ') (rmA 8 3 18)) (SC g) n σ 0 0 16 [(0, yR g 0), (1, yI a)] [yI (bi zb), yR g 0] := by
    intro zb  zhb
    refine y_contX (cells' := 0 + 1) (slots' := 0 + 6) hX (y_rVX (pc := 16) hX (tX10_demand hlt hn zb) dX10_told_16 (by omega) rfl rfl rfl w_611 qX10_demand rfl ⟨Nat.le_of_ble_eq_true rfl, Nat.le_of_ble_eq_true rfl⟩ ⟨Nat.le_of_ble_eq_true rfl, Nat.le_of_ble_eq_true rfl⟩ (Nat.le_of_ble_eq_true rfl) rfl) rfl rfl ⟨Nat.le_of_ble_eq_true rfl, Nat.le_of_ble_eq_true rfl⟩ (fun E n' σ' zx => ⟨zx.1, zx.2.1, by have zq := zx.2.2.1; rw [zhb] at zq; simpa using zq, by rw [zx.2.2.2]; exact hV.bA, by rw [zx.2.2.2]; exact cF_N⟩) (fun r16 n' σ16 zp16 => ?_)
    obtain ⟨zr16, zp16⟩ := zp16
    subst zr16
    obtain ⟨zn16, zs16, zb16⟩ := zp16
    have zs16 := zs16.symm
    subst zs16
    have zn16 := zn16.symm
    subst zn16
    skip
    show yV X0 g 2 (yQX X0 g (SC g) (yPi (fun v n' σ' => n ≤ n' ∧ (0 ≤ a ∧ a ≤ 18) ∧ v = tV w h T F nf df (H.length : Int) tl s re fo ra tu we sh ht a ∧ cV σ' (w, h, (T, S, F, P, O, nf, df, nl, lg), (s, re, fo, ra, tu, we, sh), H, ht, K, tl, tb, fa, r1, r2) ∧ cF σ σ')) (fun E n' σ' => E = eA ∧ n ≤ n' ∧ ¬ (0 ≤ a ∧ a ≤ 18) ∧ cV σ' (bA (w, h, (T, S, F, P, O, nf, df, nl, lg), (s, re, fo, ra, tu, we, sh), H, ht, K, tl, tb, fa, r1, r2)) ∧ cF σ σ') (rmA 8 3 18)) (SC g) n σ (0 + 1) (0 + 6) 19 [(0, yR g 0), (1, yI a)] []
    have zok : 0 ≤ a ∧ a ≤ 18 := by have zq := zb16; rw [zhb] at zq; simpa using zq
    refine y_iload_n (pc := 19) hF dX10_told_19 1 rfl ?_
    rcases Decidable.em (a = 0) with zw20_0 | zw20_0
    · refine y_tswI (pc := 20) hF dX10_told_20 (off := 88) 0 zw20_0 (by decide) rfl 108 rfl ?_
      refine y_aload_n (pc := 108) hF dX10_told_108 0 rfl ?_
      refine y_get (pc := 109) (ci := 10) hF dX10_told_109 (by omega) rfl rfl rfl iX10 2 (by decide) w_489 rfl ?_
      refine y_getN (pc := 112) (ci := 4) hF dX10_told_112 (by have := pic_5.1; omega) (pic_5.2 g).1 rfl rfl iX4 0 (by decide) w_213 rfl ?_
      rw [show σ 5 0 = w from hA.2.1]
      exact y_retX (y_iret (pc := 115) hF dX10_told_115 (Nat.le_of_ble_eq_true rfl) (Nat.le_of_ble_eq_true rfl) ⟨_, rfl, Nat.le_refl _, zok, by unfold tV; simp [zw20_0, nMi], hV, cF.rf σ⟩)
    rcases Decidable.em (a = 1) with zw20_1 | zw20_1
    · refine y_tswI (pc := 20) hF dX10_told_20 (off := 96) 1 zw20_1 (by decide) rfl 116 rfl ?_
      refine y_aload_n (pc := 116) hF dX10_told_116 0 rfl ?_
      refine y_get (pc := 117) (ci := 10) hF dX10_told_117 (by omega) rfl rfl rfl iX10 2 (by decide) w_489 rfl ?_
      refine y_getN (pc := 120) (ci := 4) hF dX10_told_120 (by have := pic_5.1; omega) (pic_5.2 g).1 rfl rfl iX4 1 (by decide) w_217 rfl ?_
      rw [show σ 5 1 = h from hA.2.2.1]
      exact y_retX (y_iret (pc := 123) hF dX10_told_123 (Nat.le_of_ble_eq_true rfl) (Nat.le_of_ble_eq_true rfl) ⟨_, rfl, Nat.le_refl _, zok, by unfold tV; simp [zw20_1, nMi], hV, cF.rf σ⟩)
    rcases Decidable.em (a = 2) with zw20_2 | zw20_2
    · refine y_tswI (pc := 20) hF dX10_told_20 (off := 104) 2 zw20_2 (by decide) rfl 124 rfl ?_
      refine y_aload_n (pc := 124) hF dX10_told_124 0 rfl ?_
      refine y_get (pc := 125) (ci := 10) hF dX10_told_125 (by omega) rfl rfl rfl iX10 2 (by decide) w_489 rfl ?_
      have zz128 := y_rV (pc := 128) hF (tX4_dots (n := n) (σ := σ) 5 w h T S F P O hn pic_5 hA) dX10_told_128 (by have := pic_5.1; omega) (pic_5.2 g).1 rfl rfl w_567 qX4_dots rfl ⟨Nat.le_of_ble_eq_true rfl, Nat.le_of_ble_eq_true rfl⟩ ⟨Nat.le_of_ble_eq_true rfl, Nat.le_of_ble_eq_true rfl⟩ (Nat.le_of_ble_eq_true rfl) rfl (rest := []) (cells := 0 + 1) (slots := 0 + 6) (lv := [(0, yR g 0), (1, yI a)])
      refine y_cp (zz128) ?_
      refine y_aload_n (pc := 131) hF dX10_told_131 0 rfl ?_
      refine y_get (pc := 132) (ci := 10) hF dX10_told_132 (by omega) rfl rfl rfl iX10 2 (by decide) w_489 rfl ?_
      have zz135 := y_rV (pc := 135) hF (tX4_countMissing (n := n) (σ := σ) 5 w h T S F P O hn pic_5 hA) dX10_told_135 (by have := pic_5.1; omega) (pic_5.2 g).1 rfl rfl w_568 qX4_countMissing rfl ⟨Nat.le_of_ble_eq_true rfl, Nat.le_of_ble_eq_true rfl⟩ ⟨Nat.le_of_ble_eq_true rfl, Nat.le_of_ble_eq_true rfl⟩ (Nat.le_of_ble_eq_true rfl) rfl (rest := [yI (w * h)]) (cells := 0 + 1) (slots := 0 + 6) (lv := [(0, yR g 0), (1, yI a)])
      refine y_cp (zz135) ?_
      refine y_isub (pc := 138) hF dX10_told_138 ?_
      exact y_retX (y_iret (pc := 139) hF dX10_told_139 (Nat.le_of_ble_eq_true rfl) (Nat.le_of_ble_eq_true rfl) ⟨_, rfl, Nat.le_refl _, zok, by unfold tV; simp [zw20_2, nMi], hV, cF.rf σ⟩)
    rcases Decidable.em (a = 3) with zw20_3 | zw20_3
    · refine y_tswI (pc := 20) hF dX10_told_20 (off := 120) 3 zw20_3 (by decide) rfl 140 rfl ?_
      refine y_aload_n (pc := 140) hF dX10_told_140 0 rfl ?_
      refine y_get (pc := 141) (ci := 10) hF dX10_told_141 (by omega) rfl rfl rfl iX10 2 (by decide) w_489 rfl ?_
      have zz144 := y_rV (pc := 144) hF (tX4_countMissing (n := n) (σ := σ) 5 w h T S F P O hn pic_5 hA) dX10_told_144 (by have := pic_5.1; omega) (pic_5.2 g).1 rfl rfl w_568 qX4_countMissing rfl ⟨Nat.le_of_ble_eq_true rfl, Nat.le_of_ble_eq_true rfl⟩ ⟨Nat.le_of_ble_eq_true rfl, Nat.le_of_ble_eq_true rfl⟩ (Nat.le_of_ble_eq_true rfl) rfl (rest := []) (cells := 0 + 1) (slots := 0 + 6) (lv := [(0, yR g 0), (1, yI a)])
      refine y_cp (zz144) ?_
      exact y_retX (y_iret (pc := 147) hF dX10_told_147 (Nat.le_of_ble_eq_true rfl) (Nat.le_of_ble_eq_true rfl) ⟨_, rfl, Nat.le_refl _, zok, by unfold tV; simp [zw20_3, nMi], hV, cF.rf σ⟩)
    rcases Decidable.em (a = 4) with zw20_4 | zw20_4
    · refine y_tswI (pc := 20) hF dX10_told_20 (off := 128) 4 zw20_4 (by decide) rfl 148 rfl ?_
      refine y_aload_n (pc := 148) hF dX10_told_148 0 rfl ?_
      refine y_get (pc := 149) (ci := 10) hF dX10_told_149 (by omega) rfl rfl rfl iX10 2 (by decide) w_489 rfl ?_
      have zz152 := y_rV (pc := 152) hF (tX4_countFilledIn (n := n) (σ := σ) 5 w h T S F P O hn pic_5 hA) dX10_told_152 (by have := pic_5.1; omega) (pic_5.2 g).1 rfl rfl w_986 qX4_countFilledIn rfl ⟨Nat.le_of_ble_eq_true rfl, Nat.le_of_ble_eq_true rfl⟩ ⟨Nat.le_of_ble_eq_true rfl, Nat.le_of_ble_eq_true rfl⟩ (Nat.le_of_ble_eq_true rfl) rfl (rest := []) (cells := 0 + 1) (slots := 0 + 6) (lv := [(0, yR g 0), (1, yI a)])
      refine y_cp (zz152) ?_
      exact y_retX (y_iret (pc := 155) hF dX10_told_155 (Nat.le_of_ble_eq_true rfl) (Nat.le_of_ble_eq_true rfl) ⟨_, rfl, Nat.le_refl _, zok, by unfold tV; simp [zw20_4, nMi], hV, cF.rf σ⟩)
    rcases Decidable.em (a = 5) with zw20_5 | zw20_5
    · refine y_tswI (pc := 20) hF dX10_told_20 (off := 136) 5 zw20_5 (by decide) rfl 156 rfl ?_
      refine y_aload_n (pc := 156) hF dX10_told_156 0 rfl ?_
      have zz157 := y_rV (pc := 157) hF (tX10_countFront (n := n) (σ := σ) hn w h T S F P O nf df nl lg s re fo ra tu we sh H ht K tl tb fa r1 r2 N hV hW) dX10_told_157 (by omega) rfl rfl rfl w_990 qX10_countFront rfl ⟨Nat.le_of_ble_eq_true rfl, Nat.le_of_ble_eq_true rfl⟩ ⟨Nat.le_of_ble_eq_true rfl, Nat.le_of_ble_eq_true rfl⟩ (Nat.le_of_ble_eq_true rfl) rfl (rest := []) (cells := 0 + 1) (slots := 0 + 6) (lv := [(0, yR g 0), (1, yI a)])
      refine y_cp (zz157) ?_
      exact y_retX (y_iret (pc := 160) hF dX10_told_160 (Nat.le_of_ble_eq_true rfl) (Nat.le_of_ble_eq_true rfl) ⟨_, rfl, Nat.le_refl _, zok, by unfold tV; simp [zw20_5, nMi], hV, cF.rf σ⟩)
    rcases Decidable.em (a = 6) with zw20_6 | zw20_6
    · refine y_tswI (pc := 20) hF dX10_told_20 (off := 141) 6 zw20_6 (by decide) rfl 161 rfl ?_
      refine y_aload_n (pc := 161) hF dX10_told_161 0 rfl ?_
      refine y_get (pc := 162) (ci := 10) hF dX10_told_162 (by omega) rfl rfl rfl iX10 9 (by decide) w_496 rfl ?_
      refine y_aload_n (pc := 165) hF dX10_told_165 0 rfl ?_
      refine y_get (pc := 166) (ci := 10) hF dX10_told_166 (by omega) rfl rfl rfl iX10 2 (by decide) w_489 rfl ?_
      refine y_ci (y_rV (pc := 169) hF (tX3_number 5 w h T S F P O hn pic_5 hA (by omega)) dX10_told_169 z128 rfl rfl rfl w_997 qX3_number rfl ⟨Nat.le_of_ble_eq_true rfl, Nat.le_of_ble_eq_true rfl⟩ ⟨Nat.le_of_ble_eq_true rfl, Nat.le_of_ble_eq_true rfl⟩ (Nat.le_of_ble_eq_true rfl) rfl) rfl rfl (fun r169 n' σ169 zp169 => ?_)
      obtain ⟨zn169, zv169, zp169⟩ := zp169
      have zn169 := zn169.symm
      subst zn169
      subst zv169
      have zV_σ169 := hV.scr zp169.1 (by omega) (hT.fr (zp169.1 127 (by omega)))
      exact y_retX (y_iret (pc := 172) hF dX10_told_172 (Nat.le_of_ble_eq_true rfl) (Nat.le_of_ble_eq_true rfl) ⟨_, rfl, Nat.le_refl _, zok, by unfold tV; simp [zw20_6, nMi], zV_σ169, zp169.1.cF (by omega)⟩)
    rcases Decidable.em (a = 7) with zw20_7 | zw20_7
    · refine y_tswI (pc := 20) hF dX10_told_20 (off := 153) 7 zw20_7 (by decide) rfl 173 rfl ?_
      refine y_aload_n (pc := 173) hF dX10_told_173 0 rfl ?_
      refine y_get (pc := 174) (ci := 10) hF dX10_told_174 (by omega) rfl rfl rfl iX10 3 (by decide) w_490 rfl ?_
      refine y_getN (pc := 177) (ci := 2) hF dX10_told_177 (by omega) rfl rfl rfl iX2 0 (by decide) w_259 rfl ?_
      rw [show σ 11 0 = nf from hJ.1]
      exact y_retX (y_iret (pc := 180) hF dX10_told_180 (Nat.le_of_ble_eq_true rfl) (Nat.le_of_ble_eq_true rfl) ⟨_, rfl, Nat.le_refl _, zok, by unfold tV; simp [zw20_7, nMi], hV, cF.rf σ⟩)
    rcases Decidable.em (a = 8) with zw20_8 | zw20_8
    · refine y_tswI (pc := 20) hF dX10_told_20 (off := 161) 8 zw20_8 (by decide) rfl 181 rfl ?_
      refine y_aload_n (pc := 181) hF dX10_told_181 0 rfl ?_
      refine y_get (pc := 182) (ci := 10) hF dX10_told_182 (by omega) rfl rfl rfl iX10 4 (by decide) w_491 rfl ?_
      refine y_getN (pc := 185) (ci := 1) hF dX10_told_185 (by omega) rfl rfl rfl iX1 2 (by decide) w_299 rfl ?_
      rw [show σ 13 2 = (H.length : Int) from zdp]
      exact y_retX (y_iret (pc := 188) hF dX10_told_188 (Nat.le_of_ble_eq_true rfl) (Nat.le_of_ble_eq_true rfl) ⟨_, rfl, Nat.le_refl _, zok, by unfold tV; simp [zw20_8, nMi], hV, cF.rf σ⟩)
    rcases Decidable.em (a = 9) with zw20_9 | zw20_9
    · refine y_tswI (pc := 20) hF dX10_told_20 (off := 169) 9 zw20_9 (by decide) rfl 189 rfl ?_
      refine y_aload_n (pc := 189) hF dX10_told_189 0 rfl ?_
      refine y_get (pc := 190) (ci := 10) hF dX10_told_190 (by omega) rfl rfl rfl iX10 0 (by decide) w_487 rfl ?_
      refine y_getN (pc := 193) (ci := 9) hF dX10_told_193 (by omega) rfl rfl rfl iX9 1 (by decide) w_122 rfl ?_
      rw [show σ 1 1 = tl from ht1]
      exact y_retX (y_iret (pc := 196) hF dX10_told_196 (Nat.le_of_ble_eq_true rfl) (Nat.le_of_ble_eq_true rfl) ⟨_, rfl, Nat.le_refl _, zok, by unfold tV; simp [zw20_9, nMi], hV, cF.rf σ⟩)
    rcases Decidable.em (a = 10) with zw20_10 | zw20_10
    · refine y_tswI (pc := 20) hF dX10_told_20 (off := 177) 10 zw20_10 (by decide) rfl 197 rfl ?_
      refine y_aload_n (pc := 197) hF dX10_told_197 0 rfl ?_
      refine y_get (pc := 198) (ci := 10) hF dX10_told_198 (by omega) rfl rfl rfl iX10 1 (by decide) w_488 rfl ?_
      refine y_getN (pc := 201) (ci := 7) hF dX10_told_201 (by omega) rfl rfl rfl iX7 0 (by decide) w_167 rfl ?_
      rw [show σ 4 0 = s from hS.1.1]
      exact y_retX (y_iret (pc := 204) hF dX10_told_204 (Nat.le_of_ble_eq_true rfl) (Nat.le_of_ble_eq_true rfl) ⟨_, rfl, Nat.le_refl _, zok, by unfold tV; simp [zw20_10, nMi], hV, cF.rf σ⟩)
    rcases Decidable.em (a = 11) with zw20_11 | zw20_11
    · refine y_tswI (pc := 20) hF dX10_told_20 (off := 185) 11 zw20_11 (by decide) rfl 205 rfl ?_
      refine y_aload_n (pc := 205) hF dX10_told_205 0 rfl ?_
      refine y_get (pc := 206) (ci := 10) hF dX10_told_206 (by omega) rfl rfl rfl iX10 1 (by decide) w_488 rfl ?_
      refine y_getN (pc := 209) (ci := 7) hF dX10_told_209 (by omega) rfl rfl rfl iX7 1 (by decide) w_170 rfl ?_
      rw [show σ 4 1 = re from hS.1.2.1]
      exact y_retX (y_iret (pc := 212) hF dX10_told_212 (Nat.le_of_ble_eq_true rfl) (Nat.le_of_ble_eq_true rfl) ⟨_, rfl, Nat.le_refl _, zok, by unfold tV; simp [zw20_11, nMi], hV, cF.rf σ⟩)
    rcases Decidable.em (a = 12) with zw20_12 | zw20_12
    · refine y_tswI (pc := 20) hF dX10_told_20 (off := 193) 12 zw20_12 (by decide) rfl 213 rfl ?_
      refine y_aload_n (pc := 213) hF dX10_told_213 0 rfl ?_
      refine y_get (pc := 214) (ci := 10) hF dX10_told_214 (by omega) rfl rfl rfl iX10 1 (by decide) w_488 rfl ?_
      refine y_getN (pc := 217) (ci := 7) hF dX10_told_217 (by omega) rfl rfl rfl iX7 2 (by decide) w_173 rfl ?_
      rw [show σ 4 2 = fo from hS.1.2.2.1]
      exact y_retX (y_iret (pc := 220) hF dX10_told_220 (Nat.le_of_ble_eq_true rfl) (Nat.le_of_ble_eq_true rfl) ⟨_, rfl, Nat.le_refl _, zok, by unfold tV; simp [zw20_12, nMi], hV, cF.rf σ⟩)
    rcases Decidable.em (a = 13) with zw20_13 | zw20_13
    · refine y_tswI (pc := 20) hF dX10_told_20 (off := 201) 13 zw20_13 (by decide) rfl 221 rfl ?_
      refine y_aload_n (pc := 221) hF dX10_told_221 0 rfl ?_
      refine y_get (pc := 222) (ci := 10) hF dX10_told_222 (by omega) rfl rfl rfl iX10 1 (by decide) w_488 rfl ?_
      refine y_getN (pc := 225) (ci := 7) hF dX10_told_225 (by omega) rfl rfl rfl iX7 3 (by decide) w_176 rfl ?_
      rw [show σ 4 3 = ra from hS.1.2.2.2.1]
      exact y_retX (y_iret (pc := 228) hF dX10_told_228 (Nat.le_of_ble_eq_true rfl) (Nat.le_of_ble_eq_true rfl) ⟨_, rfl, Nat.le_refl _, zok, by unfold tV; simp [zw20_13, nMi], hV, cF.rf σ⟩)
    rcases Decidable.em (a = 14) with zw20_14 | zw20_14
    · refine y_tswI (pc := 20) hF dX10_told_20 (off := 209) 14 zw20_14 (by decide) rfl 229 rfl ?_
      refine y_aload_n (pc := 229) hF dX10_told_229 0 rfl ?_
      refine y_get (pc := 230) (ci := 10) hF dX10_told_230 (by omega) rfl rfl rfl iX10 6 (by decide) w_493 rfl ?_
      rw [show σ 0 6 = bi ht from hb1]
      refine y_if_eq (pc := 233) hF dX10_told_233 240 rfl bi_r (fun zc233 => ?_) (fun zc233 => ?_)
      · replace zc233 := bi_0.mp zc233
        refine y_iconst (pc := 240) hF dX10_told_240 ?_
        exact y_retX (y_iret (pc := 241) hF dX10_told_241 (Nat.le_of_ble_eq_true rfl) (Nat.le_of_ble_eq_true rfl) ⟨_, rfl, Nat.le_refl _, zok, by unfold tV; simp [zw20_14, nMi, zc233, bi], hV, cF.rf σ⟩)
      · replace zc233 := bi_n0.mp zc233
        refine y_iconst (pc := 236) hF dX10_told_236 ?_
        refine y_goto (pc := 237) hF dX10_told_237 241 rfl ?_
        exact y_retX (y_iret (pc := 241) hF dX10_told_241 (Nat.le_of_ble_eq_true rfl) (Nat.le_of_ble_eq_true rfl) ⟨_, rfl, Nat.le_refl _, zok, by unfold tV; simp [zw20_14, nMi, zc233, bi], hV, cF.rf σ⟩)
    rcases Decidable.em (a = 15) with zw20_15 | zw20_15
    · refine y_tswI (pc := 20) hF dX10_told_20 (off := 222) 15 zw20_15 (by decide) rfl 242 rfl ?_
      refine y_aload_n (pc := 242) hF dX10_told_242 0 rfl ?_
      refine y_get (pc := 243) (ci := 10) hF dX10_told_243 (by omega) rfl rfl rfl iX10 3 (by decide) w_490 rfl ?_
      refine y_getN (pc := 246) (ci := 2) hF dX10_told_246 (by omega) rfl rfl rfl iX2 1 (by decide) w_261 rfl ?_
      rw [show σ 11 1 = df from hJ.2.1]
      refine y_l2i (pc := 249) hF dX10_told_249 ?_
      exact y_retX (y_iret (pc := 250) hF dX10_told_250 (Nat.le_of_ble_eq_true rfl) (Nat.le_of_ble_eq_true rfl) ⟨_, rfl, Nat.le_refl _, zok, by unfold tV; simp [zw20_15, nMi], hV, cF.rf σ⟩)
    rcases Decidable.em (a = 16) with zw20_16 | zw20_16
    · refine y_tswI (pc := 20) hF dX10_told_20 (off := 231) 16 zw20_16 (by decide) rfl 251 rfl ?_
      refine y_aload_n (pc := 251) hF dX10_told_251 0 rfl ?_
      refine y_get (pc := 252) (ci := 10) hF dX10_told_252 (by omega) rfl rfl rfl iX10 1 (by decide) w_488 rfl ?_
      refine y_getN (pc := 255) (ci := 7) hF dX10_told_255 (by omega) rfl rfl rfl iX7 4 (by decide) w_179 rfl ?_
      rw [show σ 4 4 = tu from hS.1.2.2.2.2.1]
      exact y_retX (y_iret (pc := 258) hF dX10_told_258 (Nat.le_of_ble_eq_true rfl) (Nat.le_of_ble_eq_true rfl) ⟨_, rfl, Nat.le_refl _, zok, by unfold tV; simp [zw20_16, nMi], hV, cF.rf σ⟩)
    rcases Decidable.em (a = 17) with zw20_17 | zw20_17
    · refine y_tswI (pc := 20) hF dX10_told_20 (off := 239) 17 zw20_17 (by decide) rfl 259 rfl ?_
      refine y_aload_n (pc := 259) hF dX10_told_259 0 rfl ?_
      refine y_get (pc := 260) (ci := 10) hF dX10_told_260 (by omega) rfl rfl rfl iX10 1 (by decide) w_488 rfl ?_
      refine y_getN (pc := 263) (ci := 7) hF dX10_told_263 (by omega) rfl rfl rfl iX7 5 (by decide) w_182 rfl ?_
      rw [show σ 4 5 = we from hS.1.2.2.2.2.2.1]
      exact y_retX (y_iret (pc := 266) hF dX10_told_266 (Nat.le_of_ble_eq_true rfl) (Nat.le_of_ble_eq_true rfl) ⟨_, rfl, Nat.le_refl _, zok, by unfold tV; simp [zw20_17, nMi], hV, cF.rf σ⟩)
    refine y_tswO (pc := 20) hF dX10_told_20 (by omega) (by omega) 267 rfl ?_
    refine y_aload_n (pc := 267) hF dX10_told_267 0 rfl ?_
    refine y_get (pc := 268) (ci := 10) hF dX10_told_268 (by omega) rfl rfl rfl iX10 1 (by decide) w_488 rfl ?_
    refine y_getN (pc := 271) (ci := 7) hF dX10_told_271 (by omega) rfl rfl rfl iX7 6 (by decide) w_185 rfl ?_
    rw [show σ 4 6 = sh from hS.1.2.2.2.2.2.2]
    exact y_retX (y_iret (pc := 274) hF dX10_told_274 (Nat.le_of_ble_eq_true rfl) (Nat.le_of_ble_eq_true rfl) ⟨_, rfl, Nat.le_refl _, zok, by unfold tV; simp [show a = 18 by omega, nMi], hV, cF.rf σ⟩)
  refine y_aload_n (pc := 0) hF dX10_told_0 0 rfl ?_
  refine y_iload_n (pc := 1) hF dX10_told_1 1 rfl ?_
  refine y_if_lt (pc := 2) hF dX10_told_2 15 rfl (by omega) (fun zc2 => ?_) (fun zc2 => ?_)
  · skip
    refine y_iconst (pc := 15) hF dX10_told_15 ?_
    exact zJ16 false (by simp; omega)
  · skip
    refine y_iload_n (pc := 5) hF dX10_told_5 1 rfl ?_
    refine y_bipush (pc := 6) hF dX10_told_6 (by decide) ?_
    refine y_icmp_gt (pc := 8) hF dX10_told_8 15 rfl (by omega) (by omega) (fun zc8 => ?_) (fun zc8 => ?_)
    · skip
      refine y_iconst (pc := 15) hF dX10_told_15 ?_
      exact zJ16 false (by simp; omega)
    · skip
      refine y_iconst (pc := 11) hF dX10_told_11 ?_
      refine y_goto (pc := 12) hF dX10_told_12 16 rfl ?_
      exact zJ16 true (by simp; omega)

theorem dX10_dot_0 : decode cX10_dot 0 = .ok (.aload_n 0, 1) := by decide +kernel
theorem dX10_dot_1 : decode cX10_dot 1 = .ok (.iload_n 1, 1) := by decide +kernel
theorem dX10_dot_2 : decode cX10_dot 2 = .ok (.iload_n 2, 1) := by decide +kernel
theorem dX10_dot_3 : decode cX10_dot 3 = .ok (.invokevirtual 156, 3) := by decide +kernel
theorem dX10_dot_6 : decode cX10_dot 6 = .ok (.aload_n 0, 1) := by decide +kernel
theorem dX10_dot_7 : decode cX10_dot 7 = .ok (.iload_n 3, 1) := by decide +kernel
theorem dX10_dot_8 : decode cX10_dot 8 = .ok (.ifCond .lt 13, 3) := by decide +kernel
theorem dX10_dot_11 : decode cX10_dot 11 = .ok (.iload_n 3, 1) := by decide +kernel
theorem dX10_dot_12 : decode cX10_dot 12 = .ok (.bipush 9, 2) := by decide +kernel
theorem dX10_dot_14 : decode cX10_dot 14 = .ok (.if_icmp .gt 7, 3) := by decide +kernel
theorem dX10_dot_17 : decode cX10_dot 17 = .ok (.iconst 1, 1) := by decide +kernel
theorem dX10_dot_18 : decode cX10_dot 18 = .ok (.goto 4, 3) := by decide +kernel
theorem dX10_dot_21 : decode cX10_dot 21 = .ok (.iconst 0, 1) := by decide +kernel
theorem dX10_dot_22 : decode cX10_dot 22 = .ok (.invokevirtual 110, 3) := by decide +kernel
theorem dX10_dot_25 : decode cX10_dot 25 = .ok (.aload_n 0, 1) := by decide +kernel
theorem dX10_dot_26 : decode cX10_dot 26 = .ok (.getfield 26, 3) := by decide +kernel
theorem dX10_dot_29 : decode cX10_dot 29 = .ok (.iload_n 1, 1) := by decide +kernel
theorem dX10_dot_30 : decode cX10_dot 30 = .ok (.iload_n 2, 1) := by decide +kernel
theorem dX10_dot_31 : decode cX10_dot 31 = .ok (.invokevirtual 169, 3) := by decide +kernel
theorem dX10_dot_34 : decode cX10_dot 34 = .ok (.istore 4, 2) := by decide +kernel
theorem dX10_dot_36 : decode cX10_dot 36 = .ok (.iload_n 3, 1) := by decide +kernel
theorem dX10_dot_37 : decode cX10_dot 37 = .ok (.tableswitch 205 0 8 #[51, 62, 73, 92, 110, 128, 146, 164, 187], 51) := by decide +kernel
theorem dX10_dot_88 : decode cX10_dot 88 = .ok (.aload_n 0, 1) := by decide +kernel
theorem dX10_dot_89 : decode cX10_dot 89 = .ok (.getfield 26, 3) := by decide +kernel
theorem dX10_dot_92 : decode cX10_dot 92 = .ok (.getfield 176, 3) := by decide +kernel
theorem dX10_dot_95 : decode cX10_dot 95 = .ok (.iload 4, 2) := by decide +kernel
theorem dX10_dot_97 : decode cX10_dot 97 = .ok (.iaload, 1) := by decide +kernel
theorem dX10_dot_98 : decode cX10_dot 98 = .ok (.ireturn, 1) := by decide +kernel
theorem dX10_dot_99 : decode cX10_dot 99 = .ok (.aload_n 0, 1) := by decide +kernel
theorem dX10_dot_100 : decode cX10_dot 100 = .ok (.getfield 26, 3) := by decide +kernel
theorem dX10_dot_103 : decode cX10_dot 103 = .ok (.getfield 233, 3) := by decide +kernel
theorem dX10_dot_106 : decode cX10_dot 106 = .ok (.iload 4, 2) := by decide +kernel
theorem dX10_dot_108 : decode cX10_dot 108 = .ok (.iaload, 1) := by decide +kernel
theorem dX10_dot_109 : decode cX10_dot 109 = .ok (.ireturn, 1) := by decide +kernel
theorem dX10_dot_110 : decode cX10_dot 110 = .ok (.aload_n 0, 1) := by decide +kernel
theorem dX10_dot_111 : decode cX10_dot 111 = .ok (.getfield 26, 3) := by decide +kernel
theorem dX10_dot_114 : decode cX10_dot 114 = .ok (.getfield 236, 3) := by decide +kernel
theorem dX10_dot_117 : decode cX10_dot 117 = .ok (.iload 4, 2) := by decide +kernel
theorem dX10_dot_119 : decode cX10_dot 119 = .ok (.iaload, 1) := by decide +kernel
theorem dX10_dot_120 : decode cX10_dot 120 = .ok (.ifCond .le 7, 3) := by decide +kernel
theorem dX10_dot_123 : decode cX10_dot 123 = .ok (.iconst 1, 1) := by decide +kernel
theorem dX10_dot_124 : decode cX10_dot 124 = .ok (.goto 4, 3) := by decide +kernel
theorem dX10_dot_127 : decode cX10_dot 127 = .ok (.iconst 0, 1) := by decide +kernel
theorem dX10_dot_128 : decode cX10_dot 128 = .ok (.ireturn, 1) := by decide +kernel
theorem dX10_dot_129 : decode cX10_dot 129 = .ok (.aload_n 0, 1) := by decide +kernel
theorem dX10_dot_130 : decode cX10_dot 130 = .ok (.getfield 26, 3) := by decide +kernel
theorem dX10_dot_133 : decode cX10_dot 133 = .ok (.aload_n 0, 1) := by decide +kernel
theorem dX10_dot_134 : decode cX10_dot 134 = .ok (.getfield 26, 3) := by decide +kernel
theorem dX10_dot_137 : decode cX10_dot 137 = .ok (.getfield 239, 3) := by decide +kernel
theorem dX10_dot_140 : decode cX10_dot 140 = .ok (.iload 4, 2) := by decide +kernel
theorem dX10_dot_142 : decode cX10_dot 142 = .ok (.iaload, 1) := by decide +kernel
theorem dX10_dot_143 : decode cX10_dot 143 = .ok (.invokevirtual 242, 3) := by decide +kernel
theorem dX10_dot_146 : decode cX10_dot 146 = .ok (.ireturn, 1) := by decide +kernel
theorem dX10_dot_147 : decode cX10_dot 147 = .ok (.aload_n 0, 1) := by decide +kernel
theorem dX10_dot_148 : decode cX10_dot 148 = .ok (.getfield 26, 3) := by decide +kernel
theorem dX10_dot_151 : decode cX10_dot 151 = .ok (.aload_n 0, 1) := by decide +kernel
theorem dX10_dot_152 : decode cX10_dot 152 = .ok (.getfield 26, 3) := by decide +kernel
theorem dX10_dot_155 : decode cX10_dot 155 = .ok (.getfield 239, 3) := by decide +kernel
theorem dX10_dot_158 : decode cX10_dot 158 = .ok (.iload 4, 2) := by decide +kernel
theorem dX10_dot_160 : decode cX10_dot 160 = .ok (.iaload, 1) := by decide +kernel
theorem dX10_dot_161 : decode cX10_dot 161 = .ok (.invokevirtual 245, 3) := by decide +kernel
theorem dX10_dot_164 : decode cX10_dot 164 = .ok (.ireturn, 1) := by decide +kernel
theorem dX10_dot_165 : decode cX10_dot 165 = .ok (.aload_n 0, 1) := by decide +kernel
theorem dX10_dot_166 : decode cX10_dot 166 = .ok (.getfield 26, 3) := by decide +kernel
theorem dX10_dot_169 : decode cX10_dot 169 = .ok (.aload_n 0, 1) := by decide +kernel
theorem dX10_dot_170 : decode cX10_dot 170 = .ok (.getfield 26, 3) := by decide +kernel
theorem dX10_dot_173 : decode cX10_dot 173 = .ok (.getfield 248, 3) := by decide +kernel
theorem dX10_dot_176 : decode cX10_dot 176 = .ok (.iload 4, 2) := by decide +kernel
theorem dX10_dot_178 : decode cX10_dot 178 = .ok (.iaload, 1) := by decide +kernel
theorem dX10_dot_179 : decode cX10_dot 179 = .ok (.invokevirtual 242, 3) := by decide +kernel
theorem dX10_dot_182 : decode cX10_dot 182 = .ok (.ireturn, 1) := by decide +kernel
theorem dX10_dot_183 : decode cX10_dot 183 = .ok (.aload_n 0, 1) := by decide +kernel
theorem dX10_dot_184 : decode cX10_dot 184 = .ok (.getfield 26, 3) := by decide +kernel
theorem dX10_dot_187 : decode cX10_dot 187 = .ok (.aload_n 0, 1) := by decide +kernel
theorem dX10_dot_188 : decode cX10_dot 188 = .ok (.getfield 26, 3) := by decide +kernel
theorem dX10_dot_191 : decode cX10_dot 191 = .ok (.getfield 248, 3) := by decide +kernel
theorem dX10_dot_194 : decode cX10_dot 194 = .ok (.iload 4, 2) := by decide +kernel
theorem dX10_dot_196 : decode cX10_dot 196 = .ok (.iaload, 1) := by decide +kernel
theorem dX10_dot_197 : decode cX10_dot 197 = .ok (.invokevirtual 245, 3) := by decide +kernel
theorem dX10_dot_200 : decode cX10_dot 200 = .ok (.ireturn, 1) := by decide +kernel
theorem dX10_dot_201 : decode cX10_dot 201 = .ok (.aload_n 0, 1) := by decide +kernel
theorem dX10_dot_202 : decode cX10_dot 202 = .ok (.getfield 70, 3) := by decide +kernel
theorem dX10_dot_205 : decode cX10_dot 205 = .ok (.aload_n 0, 1) := by decide +kernel
theorem dX10_dot_206 : decode cX10_dot 206 = .ok (.getfield 26, 3) := by decide +kernel
theorem dX10_dot_209 : decode cX10_dot 209 = .ok (.invokevirtual 198, 3) := by decide +kernel
theorem dX10_dot_212 : decode cX10_dot 212 = .ok (.pop, 1) := by decide +kernel
theorem dX10_dot_213 : decode cX10_dot 213 = .ok (.aload_n 0, 1) := by decide +kernel
theorem dX10_dot_214 : decode cX10_dot 214 = .ok (.getfield 70, 3) := by decide +kernel
theorem dX10_dot_217 : decode cX10_dot 217 = .ok (.getfield 251, 3) := by decide +kernel
theorem dX10_dot_220 : decode cX10_dot 220 = .ok (.iload 4, 2) := by decide +kernel
theorem dX10_dot_222 : decode cX10_dot 222 = .ok (.iaload, 1) := by decide +kernel
theorem dX10_dot_223 : decode cX10_dot 223 = .ok (.ireturn, 1) := by decide +kernel
theorem dX10_dot_224 : decode cX10_dot 224 = .ok (.aload_n 0, 1) := by decide +kernel
theorem dX10_dot_225 : decode cX10_dot 225 = .ok (.getfield 26, 3) := by decide +kernel
theorem dX10_dot_228 : decode cX10_dot 228 = .ok (.iload_n 1, 1) := by decide +kernel
theorem dX10_dot_229 : decode cX10_dot 229 = .ok (.iload_n 2, 1) := by decide +kernel
theorem dX10_dot_230 : decode cX10_dot 230 = .ok (.invokevirtual 254, 3) := by decide +kernel
theorem dX10_dot_233 : decode cX10_dot 233 = .ok (.ifCond .eq 7, 3) := by decide +kernel
theorem dX10_dot_236 : decode cX10_dot 236 = .ok (.iconst 1, 1) := by decide +kernel
theorem dX10_dot_237 : decode cX10_dot 237 = .ok (.goto 4, 3) := by decide +kernel
theorem dX10_dot_240 : decode cX10_dot 240 = .ok (.iconst 0, 1) := by decide +kernel
theorem dX10_dot_241 : decode cX10_dot 241 = .ok (.ireturn, 1) := by decide +kernel
theorem dX10_dot_242 : decode cX10_dot 242 = .ok (.aload_n 0, 1) := by decide +kernel
theorem dX10_dot_243 : decode cX10_dot 243 = .ok (.getfield 26, 3) := by decide +kernel
theorem dX10_dot_246 : decode cX10_dot 246 = .ok (.getfield 236, 3) := by decide +kernel
theorem dX10_dot_249 : decode cX10_dot 249 = .ok (.iload 4, 2) := by decide +kernel
theorem dX10_dot_251 : decode cX10_dot 251 = .ok (.iaload, 1) := by decide +kernel
theorem dX10_dot_252 : decode cX10_dot 252 = .ok (.ireturn, 1) := by decide +kernel
set_option maxHeartbeats 4000000 in
set_option maxRecDepth 100000 in
theorem tX10_dot {l : Launch} {g : yG} {n : Nat} {σ : yM} (hlt : l.stackTraces = false) (hn : 172 ≤ n) (w h : Int) (T S F P O : Int → Int → Int) (nf df nl : Int) (lg : Int → Int → Int) (s re fo ra tu we sh : Int) (H : List aX) (ht : Bool) (K : Int → Int → Int) (tl : Int) (tb : Int → Int) (fa r1 r2 N : Int) (hV : cV σ (w, h, (T, S, F, P, O, nf, df, nl, lg), (s, re, fo, ra, tu, we, sh), H, ht, K, tl, tb, fa, r1, r2)) (hW : aW N (w, h, (T, S, F, P, O, nf, df, nl, lg), (s, re, fo, ra, tu, we, sh), H, ht, K, tl, tb, fa, r1, r2)) (x y a : Int) (hx : -2147483648 ≤ x ∧ x < 2147483648) (hy : -2147483648 ≤ y ∧ y < 2147483648) (ha : -2147483648 ≤ a ∧ a < 2147483648) : yMX l g yX10_dot cX10_dot 5 (some .int) (rmA 8 3 18) [yR g 0, yI x, yI y, yI a] (SC g) n σ (SC g) (yPi (fun v n' σ' => n ≤ n' ∧ (sIn w h x y = true ∧ 0 ≤ a ∧ a ≤ 9) ∧ v = dV w h T S F P O x y a ∧ cV σ' (w, h, (T, S, F, P, O, nf, df, nl, lg), (s, re, fo, ra, tu, we, sh), H, ht, K, tl, tb, fa, r1, r2) ∧ cF σ σ')) (fun E n' σ' => n ≤ n' ∧ ((E = eN ∧ ¬ (sIn w h x y = true) ∧ cV σ' (bN (w, h, (T, S, F, P, O, nf, df, nl, lg), (s, re, fo, ra, tu, we, sh), H, ht, K, tl, tb, fa, r1, r2))) ∨ (E = eA ∧ (sIn w h x y = true) ∧ ¬ (0 ≤ a ∧ a ≤ 9) ∧ cV σ' (bA (w, h, (T, S, F, P, O, nf, df, nl, lg), (s, re, fo, ra, tu, we, sh), H, ht, K, tl, tb, fa, r1, r2)))) ∧ cF σ σ') := by
  obtain ⟨⟨hA, hJ⟩, hS, hH, ⟨hb1, hb2⟩, ⟨ht1, ht2⟩, hfa, hr1, hr2, hT⟩ := id hV
  obtain ⟨hw1, hw2, hw3, hw4⟩ := id hA.1.1
  obtain ⟨hs1, hs2, hs3, hs4, hs5, hs6, hs7⟩ := id hS.2
  have z128 : 128 < n := by omega
  have z129 : 129 < n := by omega
  have z130 : 130 < n := by omega
  refine y_startX (by decide) (Nat.le_of_ble_eq_true rfl) (fun X0 hX => ?_)
  have hF := hX.1
  show yV X0 g 5 (yQX X0 g (SC g) (yPi (fun v n' σ' => n ≤ n' ∧ (sIn w h x y = true ∧ 0 ≤ a ∧ a ≤ 9) ∧ v = dV w h T S F P O x y a ∧ cV σ' (w, h, (T, S, F, P, O, nf, df, nl, lg), (s, re, fo, ra, tu, we, sh), H, ht, K, tl, tb, fa, r1, r2) ∧ cF σ σ')) (fun E n' σ' => n ≤ n' ∧ ((E = eN ∧ ¬ (sIn w h x y = true) ∧ cV σ' (bN (w, h, (T, S, F, P, O, nf, df, nl, lg), (s, re, fo, ra, tu, we, sh), H, ht, K, tl, tb, fa, r1, r2))) ∨ (E = eA ∧ (sIn w h x y = true) ∧ ¬ (0 ≤ a ∧ a ≤ 9) ∧ cV σ' (bA (w, h, (T, S, F, P, O, nf, df, nl, lg), (s, re, fo, ra, tu, we, sh), H, ht, K, tl, tb, fa, r1, r2)))) ∧ cF σ σ') (rmA 8 3 18)) (SC g) n σ 0 0 0 [(0, yR g 0), (1, yI x), (2, yI y), (3, yI a)] []
  refine y_aload_n (pc := 0) hF dX10_dot_0 0 rfl ?_
  refine y_iload_n (pc := 1) hF dX10_dot_1 1 rfl ?_
  refine y_iload_n (pc := 2) hF dX10_dot_2 2 rfl ?_
  refine y_contX (cells' := 0 + 1) (slots' := 0 + 6) hX (y_rVX (pc := 3) hX (tX10_demandDot hlt hn w h T S F P O hA x y (by omega) (by omega)) dX10_dot_3 (by omega) rfl rfl rfl w_752 qX10_demandDot rfl ⟨Nat.le_of_ble_eq_true rfl, Nat.le_of_ble_eq_true rfl⟩ ⟨Nat.le_of_ble_eq_true rfl, Nat.le_of_ble_eq_true rfl⟩ (Nat.le_of_ble_eq_true rfl) rfl) rfl rfl ⟨Nat.le_of_ble_eq_true rfl, Nat.le_of_ble_eq_true rfl⟩ (fun E n' σ' zx => ⟨zx.2.1, Or.inl ⟨zx.1, by rw [zx.2.2.1]; decide, by rw [zx.2.2.2]; exact hV.bN⟩, by rw [zx.2.2.2]; exact cF_N⟩) (fun r3 n' σ3 zp3 => ?_)
  obtain ⟨zr3, zp3⟩ := zp3
  subst zr3
  obtain ⟨zn3, zs3, zb3⟩ := zp3
  have zs3 := zs3.symm
  subst zs3
  have zn3 := zn3.symm
  subst zn3
  skip
  show yV X0 g 5 (yQX X0 g (SC g) (yPi (fun v n' σ' => n ≤ n' ∧ (sIn w h x y = true ∧ 0 ≤ a ∧ a ≤ 9) ∧ v = dV w h T S F P O x y a ∧ cV σ' (w, h, (T, S, F, P, O, nf, df, nl, lg), (s, re, fo, ra, tu, we, sh), H, ht, K, tl, tb, fa, r1, r2) ∧ cF σ σ')) (fun E n' σ' => n ≤ n' ∧ ((E = eN ∧ ¬ (sIn w h x y = true) ∧ cV σ' (bN (w, h, (T, S, F, P, O, nf, df, nl, lg), (s, re, fo, ra, tu, we, sh), H, ht, K, tl, tb, fa, r1, r2))) ∨ (E = eA ∧ (sIn w h x y = true) ∧ ¬ (0 ≤ a ∧ a ≤ 9) ∧ cV σ' (bA (w, h, (T, S, F, P, O, nf, df, nl, lg), (s, re, fo, ra, tu, we, sh), H, ht, K, tl, tb, fa, r1, r2)))) ∧ cF σ σ') (rmA 8 3 18)) (SC g) n σ (0 + 1) (0 + 6) 6 [(0, yR g 0), (1, yI x), (2, yI y), (3, yI a)] []
  have zJ22 : ∀ (zb : Bool), (zb = decide (0 ≤ a ∧ a ≤ 9)) → yV X0 g 5 (yQX X0 g (SC g) (yPi (fun v n' σ' => n ≤ n' ∧ (sIn w h x y = true ∧ 0 ≤ a ∧ a ≤ 9) ∧ v = dV w h T S F P O x y a ∧ cV σ' (w, h, (T, S, F, P, O, nf, df, nl, lg), (s, re, fo, ra, tu, we, sh), H, ht, K, tl, tb, fa, r1, r2) ∧ cF σ σ')) (fun E n' σ' => n ≤ n' ∧ ((E = eN ∧ ¬ (sIn w h x y = true) ∧ cV σ' (bN (w, h, (T, S, F, P, O, nf, df, nl, lg), (s, re, fo, ra, tu, we, sh), H, ht, K, tl, tb, fa, r1, r2))) ∨ (E = eA ∧ (sIn w h x y = true) ∧ ¬ (0 ≤ a ∧ a ≤ 9) ∧ cV σ' (bA (w, h, (T, S, F, P, O, nf, df, nl, lg), (s, re, fo, ra, tu, we, sh), H, ht, K, tl, tb, fa, r1, r2)))) ∧ cF σ σ') (rmA 8 3 18)) (SC g) n σ (0 + 1) (0 + 6) 22 [(0, yR g 0), (1, yI x), (2, yI y), (3, yI a)] [yI (bi zb), yR g 0] := by
    intro zb  zhb
    refine y_contX (cells' := 0 + 1 + 1) (slots' := 0 + 6 + 6) hX (y_rVX (pc := 22) hX (tX10_demand hlt hn zb) dX10_dot_22 (by omega) rfl rfl rfl w_611 qX10_demand rfl ⟨Nat.le_of_ble_eq_true rfl, Nat.le_of_ble_eq_true rfl⟩ ⟨Nat.le_of_ble_eq_true rfl, Nat.le_of_ble_eq_true rfl⟩ (Nat.le_of_ble_eq_true rfl) rfl) rfl rfl ⟨Nat.le_of_ble_eq_true rfl, Nat.le_of_ble_eq_true rfl⟩ (fun E n' σ' zx => ⟨zx.2.1, Or.inr ⟨zx.1, zb3, by have zq := zx.2.2.1; rw [zhb] at zq; simpa using zq, by rw [zx.2.2.2]; exact hV.bA⟩, by rw [zx.2.2.2]; exact cF_N⟩) (fun r22 n' σ22 zp22 => ?_)
    obtain ⟨zr22, zp22⟩ := zp22
    subst zr22
    obtain ⟨zn22, zs22, zb22⟩ := zp22
    have zs22 := zs22.symm
    subst zs22
    have zn22 := zn22.symm
    subst zn22
    skip
    show yV X0 g 5 (yQX X0 g (SC g) (yPi (fun v n' σ' => n ≤ n' ∧ (sIn w h x y = true ∧ 0 ≤ a ∧ a ≤ 9) ∧ v = dV w h T S F P O x y a ∧ cV σ' (w, h, (T, S, F, P, O, nf, df, nl, lg), (s, re, fo, ra, tu, we, sh), H, ht, K, tl, tb, fa, r1, r2) ∧ cF σ σ')) (fun E n' σ' => n ≤ n' ∧ ((E = eN ∧ ¬ (sIn w h x y = true) ∧ cV σ' (bN (w, h, (T, S, F, P, O, nf, df, nl, lg), (s, re, fo, ra, tu, we, sh), H, ht, K, tl, tb, fa, r1, r2))) ∨ (E = eA ∧ (sIn w h x y = true) ∧ ¬ (0 ≤ a ∧ a ≤ 9) ∧ cV σ' (bA (w, h, (T, S, F, P, O, nf, df, nl, lg), (s, re, fo, ra, tu, we, sh), H, ht, K, tl, tb, fa, r1, r2)))) ∧ cF σ σ') (rmA 8 3 18)) (SC g) n σ (0 + 1 + 1) (0 + 6 + 6) 25 [(0, yR g 0), (1, yI x), (2, yI y), (3, yI a)] []
    have zi := sIn_iff.mp zb3
    have zx := y_ix (w := w) (h := h) (x := x) (y := y) ⟨hw1, hw2⟩ ⟨hw3, hw4⟩ (by omega) (by omega)
    have zm := hA.2.2.2 x y zi.1 zi.2.1 zi.2.2.1 zi.2.2.2
    have za := hA.1.2 x y zi.1 zi.2.1 zi.2.2.1 zi.2.2.2
    have zcp := cI_bd ⟨hw1, hw2⟩ ⟨hw3, hw4⟩ za.2.2.2.1
    have zco := cI_bd ⟨hw1, hw2⟩ ⟨hw3, hw4⟩ za.2.2.2.2.1
    have zmp := cI_m hw1 za.2.2.2.1
    have zmo := cI_m hw1 za.2.2.2.2.1
    have zi4 : 0 ≤ y * w + x ∧ y * w + x < (400 : Int) := by omega
    have zrp : -2147483648 ≤ cI w (P x y) ∧ cI w (P x y) < 2147483648 := by omega
    have zro : -2147483648 ≤ cI w (O x y) ∧ cI w (O x y) < 2147483648 := by omega
    have zok : (sIn w h x y = true) ∧ 0 ≤ a ∧ a ≤ 9 := ⟨zb3, by have zq := zb22; rw [zhb] at zq; simpa using zq⟩
    refine y_aload_n (pc := 25) hF dX10_dot_25 0 rfl ?_
    refine y_get (pc := 26) (ci := 10) hF dX10_dot_26 (by omega) rfl rfl rfl iX10 2 (by decide) w_489 rfl ?_
    refine y_iload_n (pc := 29) hF dX10_dot_29 1 rfl ?_
    refine y_iload_n (pc := 30) hF dX10_dot_30 2 rfl ?_
    have zz31 := y_rV (pc := 31) hF (tX4_at (n := n) (σ := σ) 5 w h T S F P O hn pic_5 hA x y) dX10_dot_31 (by have := pic_5.1; omega) (pic_5.2 g).1 rfl rfl w_794 qX4_at rfl ⟨Nat.le_of_ble_eq_true rfl, Nat.le_of_ble_eq_true rfl⟩ ⟨Nat.le_of_ble_eq_true rfl, Nat.le_of_ble_eq_true rfl⟩ (Nat.le_of_ble_eq_true rfl) rfl (rest := []) (cells := 0 + 1 + 1) (slots := 0 + 6 + 6) (lv := [(0, yR g 0), (1, yI x), (2, yI y), (3, yI a)])
    refine y_cp (zz31) ?_
    refine y_istore (pc := 34) (lv' := [(0, yR g 0), (1, yI x), (2, yI y), (3, yI a), (4, yI (y * w + x))]) hF dX10_dot_34 (by decide) rfl rfl ?_
    refine y_iload_n (pc := 36) hF dX10_dot_36 3 rfl ?_
    rcases Decidable.em (a = 0) with zw37_0 | zw37_0
    · refine y_tswI (pc := 37) hF dX10_dot_37 (off := 51) 0 zw37_0 (by decide) rfl 88 rfl ?_
      refine y_aload_n (pc := 88) hF dX10_dot_88 0 rfl ?_
      refine y_get (pc := 89) (ci := 10) hF dX10_dot_89 (by omega) rfl rfl rfl iX10 2 (by decide) w_489 rfl ?_
      refine y_getN (pc := 92) (ci := 4) hF dX10_dot_92 (by have := pic_5.1; omega) (pic_5.2 g).1 rfl rfl iX4 2 (by decide) w_223 rfl ?_
      refine y_iload (pc := 95) hF dX10_dot_95 4 rfl ?_
      refine y_iaload (pc := 97) hF dX10_dot_97 (by have := pic_5.1; omega) (pic_5.2 g).2.1 zi4 (by decide) ?_
      rw [show σ (5 + 1) (y * w + x) = T x y from zm.1]
      exact y_retX (y_iret (pc := 98) hF dX10_dot_98 (Nat.le_of_ble_eq_true rfl) (Nat.le_of_ble_eq_true rfl) ⟨_, rfl, Nat.le_refl _, zok, by unfold dV; simp [zw37_0], hV, cF.rf σ⟩)
    rcases Decidable.em (a = 1) with zw37_1 | zw37_1
    · refine y_tswI (pc := 37) hF dX10_dot_37 (off := 62) 1 zw37_1 (by decide) rfl 99 rfl ?_
      refine y_aload_n (pc := 99) hF dX10_dot_99 0 rfl ?_
      refine y_get (pc := 100) (ci := 10) hF dX10_dot_100 (by omega) rfl rfl rfl iX10 2 (by decide) w_489 rfl ?_
      refine y_getN (pc := 103) (ci := 4) hF dX10_dot_103 (by have := pic_5.1; omega) (pic_5.2 g).1 rfl rfl iX4 3 (by decide) w_227 rfl ?_
      refine y_iload (pc := 106) hF dX10_dot_106 4 rfl ?_
      refine y_iaload (pc := 108) hF dX10_dot_108 (by have := pic_5.1; omega) (pic_5.2 g).2.2.1 zi4 (by decide) ?_
      rw [show σ (5 + 2) (y * w + x) = S x y from zm.2.1]
      exact y_retX (y_iret (pc := 109) hF dX10_dot_109 (Nat.le_of_ble_eq_true rfl) (Nat.le_of_ble_eq_true rfl) ⟨_, rfl, Nat.le_refl _, zok, by unfold dV; simp [zw37_1], hV, cF.rf σ⟩)
    rcases Decidable.em (a = 2) with zw37_2 | zw37_2
    · refine y_tswI (pc := 37) hF dX10_dot_37 (off := 73) 2 zw37_2 (by decide) rfl 110 rfl ?_
      refine y_aload_n (pc := 110) hF dX10_dot_110 0 rfl ?_
      refine y_get (pc := 111) (ci := 10) hF dX10_dot_111 (by omega) rfl rfl rfl iX10 2 (by decide) w_489 rfl ?_
      refine y_getN (pc := 114) (ci := 4) hF dX10_dot_114 (by have := pic_5.1; omega) (pic_5.2 g).1 rfl rfl iX4 4 (by decide) w_230 rfl ?_
      refine y_iload (pc := 117) hF dX10_dot_117 4 rfl ?_
      refine y_iaload (pc := 119) hF dX10_dot_119 (by have := pic_5.1; omega) (pic_5.2 g).2.2.2.1 zi4 (by decide) ?_
      rw [show σ (5 + 3) (y * w + x) = F x y from zm.2.2.1]
      refine y_if_le (pc := 120) hF dX10_dot_120 127 rfl (by omega) (fun zc120 => ?_) (fun zc120 => ?_)
      · skip
        refine y_iconst (pc := 127) hF dX10_dot_127 ?_
        exact y_retX (y_iret (pc := 128) hF dX10_dot_128 (Nat.le_of_ble_eq_true rfl) (Nat.le_of_ble_eq_true rfl) ⟨_, rfl, Nat.le_refl _, zok, by unfold dV; simp [zw37_2, bi, show ¬ (0 < F x y) by omega], hV, cF.rf σ⟩)
      · skip
        refine y_iconst (pc := 123) hF dX10_dot_123 ?_
        refine y_goto (pc := 124) hF dX10_dot_124 128 rfl ?_
        exact y_retX (y_iret (pc := 128) hF dX10_dot_128 (Nat.le_of_ble_eq_true rfl) (Nat.le_of_ble_eq_true rfl) ⟨_, rfl, Nat.le_refl _, zok, by unfold dV; simp [zw37_2, bi, show 0 < F x y by omega], hV, cF.rf σ⟩)
    rcases Decidable.em (a = 3) with zw37_3 | zw37_3
    · refine y_tswI (pc := 37) hF dX10_dot_37 (off := 92) 3 zw37_3 (by decide) rfl 129 rfl ?_
      refine y_aload_n (pc := 129) hF dX10_dot_129 0 rfl ?_
      refine y_get (pc := 130) (ci := 10) hF dX10_dot_130 (by omega) rfl rfl rfl iX10 2 (by decide) w_489 rfl ?_
      refine y_aload_n (pc := 133) hF dX10_dot_133 0 rfl ?_
      refine y_get (pc := 134) (ci := 10) hF dX10_dot_134 (by omega) rfl rfl rfl iX10 2 (by decide) w_489 rfl ?_
      refine y_getN (pc := 137) (ci := 4) hF dX10_dot_137 (by have := pic_5.1; omega) (pic_5.2 g).1 rfl rfl iX4 5 (by decide) w_233 rfl ?_
      refine y_iload (pc := 140) hF dX10_dot_140 4 rfl ?_
      refine y_iaload (pc := 142) hF dX10_dot_142 (by have := pic_5.1; omega) (pic_5.2 g).2.2.2.2.1 zi4 (by decide) ?_
      rw [show σ (5 + 4) (y * w + x) = cI w (P x y) from zm.2.2.2.1]
      have zz143 := y_rV (pc := 143) hF (tX4_xOf (n := n) (σ := σ) 5 w h T S F P O hn pic_5 hA (cI w (P x y)) zrp) dX10_dot_143 (by have := pic_5.1; omega) (pic_5.2 g).1 rfl rfl w_994 qX4_xOf rfl ⟨Nat.le_of_ble_eq_true rfl, Nat.le_of_ble_eq_true rfl⟩ ⟨Nat.le_of_ble_eq_true rfl, Nat.le_of_ble_eq_true rfl⟩ (Nat.le_of_ble_eq_true rfl) rfl (rest := []) (cells := 0 + 1 + 1) (slots := 0 + 6 + 6) (lv := [(0, yR g 0), (1, yI x), (2, yI y), (3, yI a), (4, yI (y * w + x))])
      refine y_cp (zz143) ?_
      rw [show cx w (cI w (P x y)) = mx (P x y) from zmp.1]
      exact y_retX (y_iret (pc := 146) hF dX10_dot_146 (Nat.le_of_ble_eq_true rfl) (Nat.le_of_ble_eq_true rfl) ⟨_, rfl, Nat.le_refl _, zok, by unfold dV; simp [zw37_3], hV, cF.rf σ⟩)
    rcases Decidable.em (a = 4) with zw37_4 | zw37_4
    · refine y_tswI (pc := 37) hF dX10_dot_37 (off := 110) 4 zw37_4 (by decide) rfl 147 rfl ?_
      refine y_aload_n (pc := 147) hF dX10_dot_147 0 rfl ?_
      refine y_get (pc := 148) (ci := 10) hF dX10_dot_148 (by omega) rfl rfl rfl iX10 2 (by decide) w_489 rfl ?_
      refine y_aload_n (pc := 151) hF dX10_dot_151 0 rfl ?_
      refine y_get (pc := 152) (ci := 10) hF dX10_dot_152 (by omega) rfl rfl rfl iX10 2 (by decide) w_489 rfl ?_
      refine y_getN (pc := 155) (ci := 4) hF dX10_dot_155 (by have := pic_5.1; omega) (pic_5.2 g).1 rfl rfl iX4 5 (by decide) w_233 rfl ?_
      refine y_iload (pc := 158) hF dX10_dot_158 4 rfl ?_
      refine y_iaload (pc := 160) hF dX10_dot_160 (by have := pic_5.1; omega) (pic_5.2 g).2.2.2.2.1 zi4 (by decide) ?_
      rw [show σ (5 + 4) (y * w + x) = cI w (P x y) from zm.2.2.2.1]
      have zz161 := y_rV (pc := 161) hF (tX4_yOf (n := n) (σ := σ) 5 w h T S F P O hn pic_5 hA (cI w (P x y)) zrp) dX10_dot_161 (by have := pic_5.1; omega) (pic_5.2 g).1 rfl rfl w_995 qX4_yOf rfl ⟨Nat.le_of_ble_eq_true rfl, Nat.le_of_ble_eq_true rfl⟩ ⟨Nat.le_of_ble_eq_true rfl, Nat.le_of_ble_eq_true rfl⟩ (Nat.le_of_ble_eq_true rfl) rfl (rest := []) (cells := 0 + 1 + 1) (slots := 0 + 6 + 6) (lv := [(0, yR g 0), (1, yI x), (2, yI y), (3, yI a), (4, yI (y * w + x))])
      refine y_cp (zz161) ?_
      rw [show cy w (cI w (P x y)) = my (P x y) from zmp.2]
      exact y_retX (y_iret (pc := 164) hF dX10_dot_164 (Nat.le_of_ble_eq_true rfl) (Nat.le_of_ble_eq_true rfl) ⟨_, rfl, Nat.le_refl _, zok, by unfold dV; simp [zw37_4], hV, cF.rf σ⟩)
    rcases Decidable.em (a = 5) with zw37_5 | zw37_5
    · refine y_tswI (pc := 37) hF dX10_dot_37 (off := 128) 5 zw37_5 (by decide) rfl 165 rfl ?_
      refine y_aload_n (pc := 165) hF dX10_dot_165 0 rfl ?_
      refine y_get (pc := 166) (ci := 10) hF dX10_dot_166 (by omega) rfl rfl rfl iX10 2 (by decide) w_489 rfl ?_
      refine y_aload_n (pc := 169) hF dX10_dot_169 0 rfl ?_
      refine y_get (pc := 170) (ci := 10) hF dX10_dot_170 (by omega) rfl rfl rfl iX10 2 (by decide) w_489 rfl ?_
      refine y_getN (pc := 173) (ci := 4) hF dX10_dot_173 (by have := pic_5.1; omega) (pic_5.2 g).1 rfl rfl iX4 6 (by decide) w_235 rfl ?_
      refine y_iload (pc := 176) hF dX10_dot_176 4 rfl ?_
      refine y_iaload (pc := 178) hF dX10_dot_178 (by have := pic_5.1; omega) (pic_5.2 g).2.2.2.2.2 zi4 (by decide) ?_
      rw [show σ (5 + 5) (y * w + x) = cI w (O x y) from zm.2.2.2.2]
      have zz179 := y_rV (pc := 179) hF (tX4_xOf (n := n) (σ := σ) 5 w h T S F P O hn pic_5 hA (cI w (O x y)) zro) dX10_dot_179 (by have := pic_5.1; omega) (pic_5.2 g).1 rfl rfl w_994 qX4_xOf rfl ⟨Nat.le_of_ble_eq_true rfl, Nat.le_of_ble_eq_true rfl⟩ ⟨Nat.le_of_ble_eq_true rfl, Nat.le_of_ble_eq_true rfl⟩ (Nat.le_of_ble_eq_true rfl) rfl (rest := []) (cells := 0 + 1 + 1) (slots := 0 + 6 + 6) (lv := [(0, yR g 0), (1, yI x), (2, yI y), (3, yI a), (4, yI (y * w + x))])
      refine y_cp (zz179) ?_
      rw [show cx w (cI w (O x y)) = mx (O x y) from zmo.1]
      exact y_retX (y_iret (pc := 182) hF dX10_dot_182 (Nat.le_of_ble_eq_true rfl) (Nat.le_of_ble_eq_true rfl) ⟨_, rfl, Nat.le_refl _, zok, by unfold dV; simp [zw37_5], hV, cF.rf σ⟩)
    rcases Decidable.em (a = 6) with zw37_6 | zw37_6
    · refine y_tswI (pc := 37) hF dX10_dot_37 (off := 146) 6 zw37_6 (by decide) rfl 183 rfl ?_
      refine y_aload_n (pc := 183) hF dX10_dot_183 0 rfl ?_
      refine y_get (pc := 184) (ci := 10) hF dX10_dot_184 (by omega) rfl rfl rfl iX10 2 (by decide) w_489 rfl ?_
      refine y_aload_n (pc := 187) hF dX10_dot_187 0 rfl ?_
      refine y_get (pc := 188) (ci := 10) hF dX10_dot_188 (by omega) rfl rfl rfl iX10 2 (by decide) w_489 rfl ?_
      refine y_getN (pc := 191) (ci := 4) hF dX10_dot_191 (by have := pic_5.1; omega) (pic_5.2 g).1 rfl rfl iX4 6 (by decide) w_235 rfl ?_
      refine y_iload (pc := 194) hF dX10_dot_194 4 rfl ?_
      refine y_iaload (pc := 196) hF dX10_dot_196 (by have := pic_5.1; omega) (pic_5.2 g).2.2.2.2.2 zi4 (by decide) ?_
      rw [show σ (5 + 5) (y * w + x) = cI w (O x y) from zm.2.2.2.2]
      have zz197 := y_rV (pc := 197) hF (tX4_yOf (n := n) (σ := σ) 5 w h T S F P O hn pic_5 hA (cI w (O x y)) zro) dX10_dot_197 (by have := pic_5.1; omega) (pic_5.2 g).1 rfl rfl w_995 qX4_yOf rfl ⟨Nat.le_of_ble_eq_true rfl, Nat.le_of_ble_eq_true rfl⟩ ⟨Nat.le_of_ble_eq_true rfl, Nat.le_of_ble_eq_true rfl⟩ (Nat.le_of_ble_eq_true rfl) rfl (rest := []) (cells := 0 + 1 + 1) (slots := 0 + 6 + 6) (lv := [(0, yR g 0), (1, yI x), (2, yI y), (3, yI a), (4, yI (y * w + x))])
      refine y_cp (zz197) ?_
      rw [show cy w (cI w (O x y)) = my (O x y) from zmo.2]
      exact y_retX (y_iret (pc := 200) hF dX10_dot_200 (Nat.le_of_ble_eq_true rfl) (Nat.le_of_ble_eq_true rfl) ⟨_, rfl, Nat.le_refl _, zok, by unfold dV; simp [zw37_6], hV, cF.rf σ⟩)
    rcases Decidable.em (a = 7) with zw37_7 | zw37_7
    · refine y_tswI (pc := 37) hF dX10_dot_37 (off := 164) 7 zw37_7 (by decide) rfl 201 rfl ?_
      refine y_aload_n (pc := 201) hF dX10_dot_201 0 rfl ?_
      refine y_get (pc := 202) (ci := 10) hF dX10_dot_202 (by omega) rfl rfl rfl iX10 9 (by decide) w_496 rfl ?_
      refine y_aload_n (pc := 205) hF dX10_dot_205 0 rfl ?_
      refine y_get (pc := 206) (ci := 10) hF dX10_dot_206 (by omega) rfl rfl rfl iX10 2 (by decide) w_489 rfl ?_
      refine y_ci (y_rV (pc := 209) hF (tX3_number 5 w h T S F P O hn pic_5 hA (by omega)) dX10_dot_209 z128 rfl rfl rfl w_997 qX3_number rfl ⟨Nat.le_of_ble_eq_true rfl, Nat.le_of_ble_eq_true rfl⟩ ⟨Nat.le_of_ble_eq_true rfl, Nat.le_of_ble_eq_true rfl⟩ (Nat.le_of_ble_eq_true rfl) rfl) rfl rfl (fun r209 n' σ209 zp209 => ?_)
      obtain ⟨zn209, zv209, zp209⟩ := zp209
      have zn209 := zn209.symm
      subst zn209
      subst zv209
      have zV_σ209 := hV.scr zp209.1 (by omega) (hT.fr (zp209.1 127 (by omega)))
      refine y_pop (pc := 212) hF dX10_dot_212 rfl ?_
      refine y_aload_n (pc := 213) hF dX10_dot_213 0 rfl ?_
      refine y_get (pc := 214) (ci := 10) hF dX10_dot_214 (by omega) rfl rfl rfl iX10 9 (by decide) w_496 rfl ?_
      refine y_getN (pc := 217) (ci := 3) hF dX10_dot_217 z128 rfl rfl rfl iX3 0 (by decide) w_449 rfl ?_
      refine y_iload (pc := 220) hF dX10_dot_220 4 rfl ?_
      refine y_iaload (pc := 222) hF dX10_dot_222 z129 rfl zi4 (by decide) ?_
      rw [show σ209 129 (y * w + x) = (sPt w h T).1 x y from (zp209.2 x y zi.1 zi.2.1 zi.2.2.1 zi.2.2.2)]
      exact y_retX (y_iret (pc := 223) hF dX10_dot_223 (Nat.le_of_ble_eq_true rfl) (Nat.le_of_ble_eq_true rfl) ⟨_, rfl, Nat.le_refl _, zok, by unfold dV; simp [zw37_7], zV_σ209, zp209.1.cF (by omega)⟩)
    rcases Decidable.em (a = 8) with zw37_8 | zw37_8
    · refine y_tswI (pc := 37) hF dX10_dot_37 (off := 187) 8 zw37_8 (by decide) rfl 224 rfl ?_
      refine y_aload_n (pc := 224) hF dX10_dot_224 0 rfl ?_
      refine y_get (pc := 225) (ci := 10) hF dX10_dot_225 (by omega) rfl rfl rfl iX10 2 (by decide) w_489 rfl ?_
      refine y_iload_n (pc := 228) hF dX10_dot_228 1 rfl ?_
      refine y_iload_n (pc := 229) hF dX10_dot_229 2 rfl ?_
      have zz230 := y_rV (pc := 230) hF (tX4_isOnFront (n := n) (σ := σ) 5 w h T S F P O hn pic_5 hA x y (by omega) (by omega)) dX10_dot_230 (by have := pic_5.1; omega) (pic_5.2 g).1 rfl rfl w_996 qX4_isOnFront rfl ⟨Nat.le_of_ble_eq_true rfl, Nat.le_of_ble_eq_true rfl⟩ ⟨Nat.le_of_ble_eq_true rfl, Nat.le_of_ble_eq_true rfl⟩ (Nat.le_of_ble_eq_true rfl) rfl (rest := []) (cells := 0 + 1 + 1) (slots := 0 + 6 + 6) (lv := [(0, yR g 0), (1, yI x), (2, yI y), (3, yI a), (4, yI (y * w + x))])
      refine y_cp (zz230) ?_
      refine y_if_eq (pc := 233) hF dX10_dot_233 240 rfl bi_r (fun zc233 => ?_) (fun zc233 => ?_)
      · replace zc233 := bi_0.mp zc233
        refine y_iconst (pc := 240) hF dX10_dot_240 ?_
        exact y_retX (y_iret (pc := 241) hF dX10_dot_241 (Nat.le_of_ble_eq_true rfl) (Nat.le_of_ble_eq_true rfl) ⟨_, rfl, Nat.le_refl _, zok, by unfold dV; simp [zw37_8, zc233, bi], hV, cF.rf σ⟩)
      · replace zc233 := bi_n0.mp zc233
        refine y_iconst (pc := 236) hF dX10_dot_236 ?_
        refine y_goto (pc := 237) hF dX10_dot_237 241 rfl ?_
        exact y_retX (y_iret (pc := 241) hF dX10_dot_241 (Nat.le_of_ble_eq_true rfl) (Nat.le_of_ble_eq_true rfl) ⟨_, rfl, Nat.le_refl _, zok, by unfold dV; simp [zw37_8, zc233, bi], hV, cF.rf σ⟩)
    refine y_tswO (pc := 37) hF dX10_dot_37 (by omega) (by omega) 242 rfl ?_
    refine y_aload_n (pc := 242) hF dX10_dot_242 0 rfl ?_
    refine y_get (pc := 243) (ci := 10) hF dX10_dot_243 (by omega) rfl rfl rfl iX10 2 (by decide) w_489 rfl ?_
    refine y_getN (pc := 246) (ci := 4) hF dX10_dot_246 (by have := pic_5.1; omega) (pic_5.2 g).1 rfl rfl iX4 4 (by decide) w_230 rfl ?_
    refine y_iload (pc := 249) hF dX10_dot_249 4 rfl ?_
    refine y_iaload (pc := 251) hF dX10_dot_251 (by have := pic_5.1; omega) (pic_5.2 g).2.2.2.1 zi4 (by decide) ?_
    rw [show σ (5 + 3) (y * w + x) = F x y from zm.2.2.1]
    exact y_retX (y_iret (pc := 252) hF dX10_dot_252 (Nat.le_of_ble_eq_true rfl) (Nat.le_of_ble_eq_true rfl) ⟨_, rfl, Nat.le_refl _, zok, by unfold dV; simp [show a = 9 by omega], hV, cF.rf σ⟩)
  refine y_aload_n (pc := 6) hF dX10_dot_6 0 rfl ?_
  refine y_iload_n (pc := 7) hF dX10_dot_7 3 rfl ?_
  refine y_if_lt (pc := 8) hF dX10_dot_8 21 rfl (by omega) (fun zc8 => ?_) (fun zc8 => ?_)
  · skip
    refine y_iconst (pc := 21) hF dX10_dot_21 ?_
    exact zJ22 false (by simp; omega)
  · skip
    refine y_iload_n (pc := 11) hF dX10_dot_11 3 rfl ?_
    refine y_bipush (pc := 12) hF dX10_dot_12 (by decide) ?_
    refine y_icmp_gt (pc := 14) hF dX10_dot_14 21 rfl (by omega) (by omega) (fun zc14 => ?_) (fun zc14 => ?_)
    · skip
      refine y_iconst (pc := 21) hF dX10_dot_21 ?_
      exact zJ22 false (by simp; omega)
    · skip
      refine y_iconst (pc := 17) hF dX10_dot_17 ?_
      refine y_goto (pc := 18) hF dX10_dot_18 22 rfl ?_
      exact zJ22 true (by simp; omega)
