theorem dX11_knownMany_0 : decode cX11_knownMany 0 = .ok (.iconst 0, 1) := by decide +kernel
theorem dX11_knownMany_1 : decode cX11_knownMany 1 = .ok (.istore_n 1, 1) := by decide +kernel
theorem dX11_knownMany_2 : decode cX11_knownMany 2 = .ok (.iconst 0, 1) := by decide +kernel
theorem dX11_knownMany_3 : decode cX11_knownMany 3 = .ok (.istore_n 2, 1) := by decide +kernel
theorem dX11_knownMany_4 : decode cX11_knownMany 4 = .ok (.iload_n 2, 1) := by decide +kernel
theorem dX11_knownMany_5 : decode cX11_knownMany 5 = .ok (.aload_n 0, 1) := by decide +kernel
theorem dX11_knownMany_6 : decode cX11_knownMany 6 = .ok (.getfield 25, 3) := by decide +kernel
theorem dX11_knownMany_9 : decode cX11_knownMany 9 = .ok (.iconst 0, 1) := by decide +kernel
theorem dX11_knownMany_10 : decode cX11_knownMany 10 = .ok (.iaload, 1) := by decide +kernel
theorem dX11_knownMany_11 : decode cX11_knownMany 11 = .ok (.if_icmp .ge 45, 3) := by decide +kernel
theorem dX11_knownMany_14 : decode cX11_knownMany 14 = .ok (.iconst 0, 1) := by decide +kernel
theorem dX11_knownMany_15 : decode cX11_knownMany 15 = .ok (.istore_n 3, 1) := by decide +kernel
theorem dX11_knownMany_16 : decode cX11_knownMany 16 = .ok (.iload_n 3, 1) := by decide +kernel
theorem dX11_knownMany_17 : decode cX11_knownMany 17 = .ok (.aload_n 0, 1) := by decide +kernel
theorem dX11_knownMany_18 : decode cX11_knownMany 18 = .ok (.getfield 22, 3) := by decide +kernel
theorem dX11_knownMany_21 : decode cX11_knownMany 21 = .ok (.iconst 0, 1) := by decide +kernel
theorem dX11_knownMany_22 : decode cX11_knownMany 22 = .ok (.iaload, 1) := by decide +kernel
theorem dX11_knownMany_23 : decode cX11_knownMany 23 = .ok (.if_icmp .ge 27, 3) := by decide +kernel
theorem dX11_knownMany_26 : decode cX11_knownMany 26 = .ok (.iload_n 1, 1) := by decide +kernel
theorem dX11_knownMany_27 : decode cX11_knownMany 27 = .ok (.aload_n 0, 1) := by decide +kernel
theorem dX11_knownMany_28 : decode cX11_knownMany 28 = .ok (.iconst 0, 1) := by decide +kernel
theorem dX11_knownMany_29 : decode cX11_knownMany 29 = .ok (.iload_n 3, 1) := by decide +kernel
theorem dX11_knownMany_30 : decode cX11_knownMany 30 = .ok (.iload_n 2, 1) := by decide +kernel
theorem dX11_knownMany_31 : decode cX11_knownMany 31 = .ok (.invokevirtual 78, 3) := by decide +kernel
theorem dX11_knownMany_34 : decode cX11_knownMany 34 = .ok (.ifCond .eq 7, 3) := by decide +kernel
theorem dX11_knownMany_37 : decode cX11_knownMany 37 = .ok (.iconst 1, 1) := by decide +kernel
theorem dX11_knownMany_38 : decode cX11_knownMany 38 = .ok (.goto 4, 3) := by decide +kernel
theorem dX11_knownMany_41 : decode cX11_knownMany 41 = .ok (.iconst 0, 1) := by decide +kernel
theorem dX11_knownMany_42 : decode cX11_knownMany 42 = .ok (.iadd, 1) := by decide +kernel
theorem dX11_knownMany_43 : decode cX11_knownMany 43 = .ok (.istore_n 1, 1) := by decide +kernel
theorem dX11_knownMany_44 : decode cX11_knownMany 44 = .ok (.iinc 3 1, 3) := by decide +kernel
theorem dX11_knownMany_47 : decode cX11_knownMany 47 = .ok (.goto (-31), 3) := by decide +kernel
theorem dX11_knownMany_50 : decode cX11_knownMany 50 = .ok (.iinc 2 1, 3) := by decide +kernel
theorem dX11_knownMany_53 : decode cX11_knownMany 53 = .ok (.goto (-49), 3) := by decide +kernel
theorem dX11_knownMany_56 : decode cX11_knownMany 56 = .ok (.iload_n 1, 1) := by decide +kernel
theorem dX11_knownMany_57 : decode cX11_knownMany 57 = .ok (.ireturn, 1) := by decide +kernel
set_option maxHeartbeats 4000000 in
set_option maxRecDepth 100000 in
theorem tX11_knownMany {l : Launch} {g : yG} {n : Nat} {σ : yM} (w h : Int) (T S F P O : Int → Int → Int) (hn : 172 ≤ n) (hA : rM σ 0 w h T S F P O) : yMet l g yX11_knownMany cX11_knownMany 4 (some .int) (rmL 4) [yR g 155] (SC g) n σ (SC g) (yPp (sCt w h (fun x y => sKn w h T x y)) n σ) := by
  obtain ⟨hw1, hw2, hw3, hw4⟩ := id hA.1.1
  refine y_start (by decide) (Nat.le_of_ble_eq_true rfl) (fun X0 hF => ?_)
  show yV X0 g 4 (yQ X0 g (SC g) (yPp (sCt w h (fun x y => sKn w h T x y)) n σ) (rmL 4)) (SC g) n σ 0 0 0 [(0, yR g 155)] []
  refine y_iconst (pc := 0) hF dX11_knownMany_0 ?_
  refine y_istore_n (pc := 1) (lv' := [(0, yR g 155), (1, yI 0)]) hF dX11_knownMany_1 (by decide) rfl rfl ?_
  refine y_iconst (pc := 2) hF dX11_knownMany_2 ?_
  refine y_istore_n (pc := 3) (lv' := [(0, yR g 155), (1, yI 0), (2, yI 0)]) hF dX11_knownMany_3 (by decide) rfl rfl ?_
  have zL4 : ∀ (N : Nat) (y c : Int), N = (h - y).toNat → ((0 ≤ y ∧ y ≤ h) ∧ c = fr (fun s y => fr (fun s x => s + bi (sKn w h T x y)) 0 w.toNat s) 0 y.toNat 0) → yV X0 g 4 (yQ X0 g (SC g) (yPp (sCt w h (fun x y => sKn w h T x y)) n σ) (rmL 4)) (SC g) n σ 0 0 4 [(0, yR g 155), (1, yI c), (2, yI y)] [] := by
    intro N
    induction N using Nat.strongRecOn with
    | ind N zh4 =>
      intro y c  zN4 zI4
      refine y_iload_n (pc := 4) hF dX11_knownMany_4 2 rfl ?_
      refine y_aload_n (pc := 5) hF dX11_knownMany_5 0 rfl ?_
      refine y_get (pc := 6) (ci := 11) hF dX11_knownMany_6 (by omega) rfl rfl rfl iX11 4 (by decide) w_1251 rfl ?_
      refine y_iconst (pc := 9) hF dX11_knownMany_9 ?_
      refine y_iaload (pc := 10) hF dX11_knownMany_10 (by omega) rfl (by omega) (by decide) ?_
      rw [show σ 162 0 = h from hA.2.2.1]
      refine y_icmp_ge (pc := 11) hF dX11_knownMany_11 56 rfl (by omega) (by omega) (fun zc11 => ?_) (fun zc11 => ?_)
      · skip
        refine y_iload_n (pc := 56) hF dX11_knownMany_56 1 rfl ?_
        exact y_iret (pc := 57) hF dX11_knownMany_57 (Nat.zero_le _) (Nat.zero_le _) ⟨_, rfl, by rw [zI4.2]; unfold sCt fr2; rw [show y.toNat = h.toNat by omega], rfl, rfl⟩
      · skip
        refine y_iconst (pc := 14) hF dX11_knownMany_14 ?_
        refine y_istore_n (pc := 15) (lv' := [(0, yR g 155), (1, yI c), (2, yI y), (3, yI 0)]) hF dX11_knownMany_15 (by decide) rfl rfl ?_
        have zL16 : ∀ (N : Nat) (x c2 : Int), N = (w - x).toNat → ((0 ≤ x ∧ x ≤ w) ∧ c2 = fr (fun s x => s + bi (sKn w h T x y)) 0 x.toNat c) → yV X0 g 4 (yQ X0 g (SC g) (yPp (sCt w h (fun x y => sKn w h T x y)) n σ) (rmL 4)) (SC g) n σ 0 0 16 [(0, yR g 155), (1, yI c2), (2, yI y), (3, yI x)] [] := by
          intro N
          induction N using Nat.strongRecOn with
          | ind N zh16 =>
            intro x c2  zN16 zI16
            refine y_iload_n (pc := 16) hF dX11_knownMany_16 3 rfl ?_
            refine y_aload_n (pc := 17) hF dX11_knownMany_17 0 rfl ?_
            refine y_get (pc := 18) (ci := 11) hF dX11_knownMany_18 (by omega) rfl rfl rfl iX11 3 (by decide) w_1250 rfl ?_
            refine y_iconst (pc := 21) hF dX11_knownMany_21 ?_
            refine y_iaload (pc := 22) hF dX11_knownMany_22 (by omega) rfl (by omega) (by decide) ?_
            rw [show σ 161 0 = w from hA.2.1]
            refine y_icmp_ge (pc := 23) hF dX11_knownMany_23 50 rfl (by omega) (by omega) (fun zc23 => ?_) (fun zc23 => ?_)
            · skip
              refine y_iinc (pc := 50) (lv' := [(0, yR g 155), (1, yI c2), (2, yI (y + 1)), (3, yI x)]) hF dX11_knownMany_50 2 rfl (by decide) rfl rfl ?_
              refine y_goto (pc := 53) hF dX11_knownMany_53 4 rfl ?_
              refine y_sub [0, 1, 2] rfl ?_
              exact zh4 _ (by omega) (y + 1) (c2) rfl ⟨by omega, by rw [fr_up _ _ _ _ zI4.1.1, ← zI4.2, zI16.2, Int.zero_add, show x.toNat = w.toNat by omega]⟩
            · skip
              have zin : sIn w h x y = true := sIn_iff.mpr (by omega)
              refine y_iload_n (pc := 26) hF dX11_knownMany_26 1 rfl ?_
              refine y_aload_n (pc := 27) hF dX11_knownMany_27 0 rfl ?_
              refine y_iconst (pc := 28) hF dX11_knownMany_28 ?_
              refine y_iload_n (pc := 29) hF dX11_knownMany_29 3 rfl ?_
              refine y_iload_n (pc := 30) hF dX11_knownMany_30 2 rfl ?_
              have zz31 := y_rV (pc := 31) hF (tX11_isKnown (n := n) (σ := σ) 0 w h T S F P O hn (by omega) hA x y (by omega) (by omega)) dX11_knownMany_31 (by omega) rfl rfl rfl w_1440 qX11_isKnown rfl ⟨Nat.le_of_ble_eq_true rfl, Nat.le_of_ble_eq_true rfl⟩ ⟨Nat.zero_le _, Nat.zero_le _⟩ (Nat.le_of_ble_eq_true rfl) rfl (rest := [yI c2]) (cells := 0) (slots := 0) (lv := [(0, yR g 155), (1, yI c2), (2, yI y), (3, yI x)])
              refine y_cp (zz31) ?_
              refine y_t_if_eq (pc := 34) hF dX11_knownMany_34 dX11_knownMany_37 dX11_knownMany_38 dX11_knownMany_41 bi_r ?_
              rw [show (if (bi (sKn w h T x y)) = 0 then 0 else 1) = bi (sKn w h T x y) from bi_t]
              refine y_iadd (pc := 42) hF dX11_knownMany_42 ?_
              refine y_istore_n (pc := 43) (lv' := [(0, yR g 155), (1, yI (c2 + (bi (sKn w h T x y)))), (2, yI y), (3, yI x)]) hF dX11_knownMany_43 (by decide) rfl rfl ?_
              refine y_iinc (pc := 44) (lv' := [(0, yR g 155), (1, yI (c2 + (bi (sKn w h T x y)))), (2, yI y), (3, yI (x + 1))]) hF dX11_knownMany_44 3 rfl (by decide) rfl rfl ?_
              refine y_goto (pc := 47) hF dX11_knownMany_47 16 rfl ?_
              exact zh16 _ (by omega) (x + 1) (c2 + (bi (sKn w h T x y))) rfl ⟨by omega, by rw [fr_up _ _ _ _ zI16.1.1, ← zI16.2, Int.zero_add]⟩
        exact zL16 _ (0) (c) rfl ⟨by omega, rfl⟩
  exact zL4 _ (0) (0) rfl ⟨by omega, rfl⟩

theorem dX11_filledMany_0 : decode cX11_filledMany 0 = .ok (.iconst 0, 1) := by decide +kernel
theorem dX11_filledMany_1 : decode cX11_filledMany 1 = .ok (.istore_n 1, 1) := by decide +kernel
theorem dX11_filledMany_2 : decode cX11_filledMany 2 = .ok (.iconst 0, 1) := by decide +kernel
theorem dX11_filledMany_3 : decode cX11_filledMany 3 = .ok (.istore_n 2, 1) := by decide +kernel
theorem dX11_filledMany_4 : decode cX11_filledMany 4 = .ok (.iload_n 2, 1) := by decide +kernel
theorem dX11_filledMany_5 : decode cX11_filledMany 5 = .ok (.aload_n 0, 1) := by decide +kernel
theorem dX11_filledMany_6 : decode cX11_filledMany 6 = .ok (.getfield 25, 3) := by decide +kernel
theorem dX11_filledMany_9 : decode cX11_filledMany 9 = .ok (.iconst 0, 1) := by decide +kernel
theorem dX11_filledMany_10 : decode cX11_filledMany 10 = .ok (.iaload, 1) := by decide +kernel
theorem dX11_filledMany_11 : decode cX11_filledMany 11 = .ok (.if_icmp .ge 45, 3) := by decide +kernel
theorem dX11_filledMany_14 : decode cX11_filledMany 14 = .ok (.iconst 0, 1) := by decide +kernel
theorem dX11_filledMany_15 : decode cX11_filledMany 15 = .ok (.istore_n 3, 1) := by decide +kernel
theorem dX11_filledMany_16 : decode cX11_filledMany 16 = .ok (.iload_n 3, 1) := by decide +kernel
theorem dX11_filledMany_17 : decode cX11_filledMany 17 = .ok (.aload_n 0, 1) := by decide +kernel
theorem dX11_filledMany_18 : decode cX11_filledMany 18 = .ok (.getfield 22, 3) := by decide +kernel
theorem dX11_filledMany_21 : decode cX11_filledMany 21 = .ok (.iconst 0, 1) := by decide +kernel
theorem dX11_filledMany_22 : decode cX11_filledMany 22 = .ok (.iaload, 1) := by decide +kernel
theorem dX11_filledMany_23 : decode cX11_filledMany 23 = .ok (.if_icmp .ge 27, 3) := by decide +kernel
theorem dX11_filledMany_26 : decode cX11_filledMany 26 = .ok (.iload_n 1, 1) := by decide +kernel
theorem dX11_filledMany_27 : decode cX11_filledMany 27 = .ok (.aload_n 0, 1) := by decide +kernel
theorem dX11_filledMany_28 : decode cX11_filledMany 28 = .ok (.iconst 0, 1) := by decide +kernel
theorem dX11_filledMany_29 : decode cX11_filledMany 29 = .ok (.iload_n 3, 1) := by decide +kernel
theorem dX11_filledMany_30 : decode cX11_filledMany 30 = .ok (.iload_n 2, 1) := by decide +kernel
theorem dX11_filledMany_31 : decode cX11_filledMany 31 = .ok (.invokevirtual 127, 3) := by decide +kernel
theorem dX11_filledMany_34 : decode cX11_filledMany 34 = .ok (.ifCond .eq 7, 3) := by decide +kernel
theorem dX11_filledMany_37 : decode cX11_filledMany 37 = .ok (.iconst 1, 1) := by decide +kernel
theorem dX11_filledMany_38 : decode cX11_filledMany 38 = .ok (.goto 4, 3) := by decide +kernel
theorem dX11_filledMany_41 : decode cX11_filledMany 41 = .ok (.iconst 0, 1) := by decide +kernel
theorem dX11_filledMany_42 : decode cX11_filledMany 42 = .ok (.iadd, 1) := by decide +kernel
theorem dX11_filledMany_43 : decode cX11_filledMany 43 = .ok (.istore_n 1, 1) := by decide +kernel
theorem dX11_filledMany_44 : decode cX11_filledMany 44 = .ok (.iinc 3 1, 3) := by decide +kernel
theorem dX11_filledMany_47 : decode cX11_filledMany 47 = .ok (.goto (-31), 3) := by decide +kernel
theorem dX11_filledMany_50 : decode cX11_filledMany 50 = .ok (.iinc 2 1, 3) := by decide +kernel
theorem dX11_filledMany_53 : decode cX11_filledMany 53 = .ok (.goto (-49), 3) := by decide +kernel
theorem dX11_filledMany_56 : decode cX11_filledMany 56 = .ok (.iload_n 1, 1) := by decide +kernel
theorem dX11_filledMany_57 : decode cX11_filledMany 57 = .ok (.ireturn, 1) := by decide +kernel
set_option maxHeartbeats 4000000 in
set_option maxRecDepth 100000 in
theorem tX11_filledMany {l : Launch} {g : yG} {n : Nat} {σ : yM} (w h : Int) (T S F P O : Int → Int → Int) (hn : 172 ≤ n) (hA : rM σ 0 w h T S F P O) : yMet l g yX11_filledMany cX11_filledMany 4 (some .int) (rmL 4) [yR g 155] (SC g) n σ (SC g) (yPp (sCt w h (fun x y => decide (0 < F x y))) n σ) := by
  obtain ⟨hw1, hw2, hw3, hw4⟩ := id hA.1.1
  refine y_start (by decide) (Nat.le_of_ble_eq_true rfl) (fun X0 hF => ?_)
  show yV X0 g 4 (yQ X0 g (SC g) (yPp (sCt w h (fun x y => decide (0 < F x y))) n σ) (rmL 4)) (SC g) n σ 0 0 0 [(0, yR g 155)] []
  refine y_iconst (pc := 0) hF dX11_filledMany_0 ?_
  refine y_istore_n (pc := 1) (lv' := [(0, yR g 155), (1, yI 0)]) hF dX11_filledMany_1 (by decide) rfl rfl ?_
  refine y_iconst (pc := 2) hF dX11_filledMany_2 ?_
  refine y_istore_n (pc := 3) (lv' := [(0, yR g 155), (1, yI 0), (2, yI 0)]) hF dX11_filledMany_3 (by decide) rfl rfl ?_
  have zL4 : ∀ (N : Nat) (y c : Int), N = (h - y).toNat → ((0 ≤ y ∧ y ≤ h) ∧ c = fr (fun s y => fr (fun s x => s + bi (decide (0 < F x y))) 0 w.toNat s) 0 y.toNat 0) → yV X0 g 4 (yQ X0 g (SC g) (yPp (sCt w h (fun x y => decide (0 < F x y))) n σ) (rmL 4)) (SC g) n σ 0 0 4 [(0, yR g 155), (1, yI c), (2, yI y)] [] := by
    intro N
    induction N using Nat.strongRecOn with
    | ind N zh4 =>
      intro y c  zN4 zI4
      refine y_iload_n (pc := 4) hF dX11_filledMany_4 2 rfl ?_
      refine y_aload_n (pc := 5) hF dX11_filledMany_5 0 rfl ?_
      refine y_get (pc := 6) (ci := 11) hF dX11_filledMany_6 (by omega) rfl rfl rfl iX11 4 (by decide) w_1251 rfl ?_
      refine y_iconst (pc := 9) hF dX11_filledMany_9 ?_
      refine y_iaload (pc := 10) hF dX11_filledMany_10 (by omega) rfl (by omega) (by decide) ?_
      rw [show σ 162 0 = h from hA.2.2.1]
      refine y_icmp_ge (pc := 11) hF dX11_filledMany_11 56 rfl (by omega) (by omega) (fun zc11 => ?_) (fun zc11 => ?_)
      · skip
        refine y_iload_n (pc := 56) hF dX11_filledMany_56 1 rfl ?_
        exact y_iret (pc := 57) hF dX11_filledMany_57 (Nat.zero_le _) (Nat.zero_le _) ⟨_, rfl, by rw [zI4.2]; unfold sCt fr2; rw [show y.toNat = h.toNat by omega], rfl, rfl⟩
      · skip
        refine y_iconst (pc := 14) hF dX11_filledMany_14 ?_
        refine y_istore_n (pc := 15) (lv' := [(0, yR g 155), (1, yI c), (2, yI y), (3, yI 0)]) hF dX11_filledMany_15 (by decide) rfl rfl ?_
        have zL16 : ∀ (N : Nat) (x c2 : Int), N = (w - x).toNat → ((0 ≤ x ∧ x ≤ w) ∧ c2 = fr (fun s x => s + bi (decide (0 < F x y))) 0 x.toNat c) → yV X0 g 4 (yQ X0 g (SC g) (yPp (sCt w h (fun x y => decide (0 < F x y))) n σ) (rmL 4)) (SC g) n σ 0 0 16 [(0, yR g 155), (1, yI c2), (2, yI y), (3, yI x)] [] := by
          intro N
          induction N using Nat.strongRecOn with
          | ind N zh16 =>
            intro x c2  zN16 zI16
            refine y_iload_n (pc := 16) hF dX11_filledMany_16 3 rfl ?_
            refine y_aload_n (pc := 17) hF dX11_filledMany_17 0 rfl ?_
            refine y_get (pc := 18) (ci := 11) hF dX11_filledMany_18 (by omega) rfl rfl rfl iX11 3 (by decide) w_1250 rfl ?_
            refine y_iconst (pc := 21) hF dX11_filledMany_21 ?_
            refine y_iaload (pc := 22) hF dX11_filledMany_22 (by omega) rfl (by omega) (by decide) ?_
            rw [show σ 161 0 = w from hA.2.1]
            refine y_icmp_ge (pc := 23) hF dX11_filledMany_23 50 rfl (by omega) (by omega) (fun zc23 => ?_) (fun zc23 => ?_)
            · skip
              refine y_iinc (pc := 50) (lv' := [(0, yR g 155), (1, yI c2), (2, yI (y + 1)), (3, yI x)]) hF dX11_filledMany_50 2 rfl (by decide) rfl rfl ?_
              refine y_goto (pc := 53) hF dX11_filledMany_53 4 rfl ?_
              refine y_sub [0, 1, 2] rfl ?_
              exact zh4 _ (by omega) (y + 1) (c2) rfl ⟨by omega, by rw [fr_up _ _ _ _ zI4.1.1, ← zI4.2, zI16.2, Int.zero_add, show x.toNat = w.toNat by omega]⟩
            · skip
              have zin : sIn w h x y = true := sIn_iff.mpr (by omega)
              refine y_iload_n (pc := 26) hF dX11_filledMany_26 1 rfl ?_
              refine y_aload_n (pc := 27) hF dX11_filledMany_27 0 rfl ?_
              refine y_iconst (pc := 28) hF dX11_filledMany_28 ?_
              refine y_iload_n (pc := 29) hF dX11_filledMany_29 3 rfl ?_
              refine y_iload_n (pc := 30) hF dX11_filledMany_30 2 rfl ?_
              have zz31 := y_rV (pc := 31) hF (tX11_isFilled (n := n) (σ := σ) 0 w h T S F P O hn (by omega) hA x y zin) dX11_filledMany_31 (by omega) rfl rfl rfl w_1545 qX11_isFilled rfl ⟨Nat.le_of_ble_eq_true rfl, Nat.le_of_ble_eq_true rfl⟩ ⟨Nat.zero_le _, Nat.zero_le _⟩ (Nat.le_of_ble_eq_true rfl) rfl (rest := [yI c2]) (cells := 0) (slots := 0) (lv := [(0, yR g 155), (1, yI c2), (2, yI y), (3, yI x)])
              refine y_cp (zz31) ?_
              refine y_t_if_eq (pc := 34) hF dX11_filledMany_34 dX11_filledMany_37 dX11_filledMany_38 dX11_filledMany_41 bi_r ?_
              rw [show (if (bi (decide (0 < F x y))) = 0 then 0 else 1) = bi (decide (0 < F x y)) from bi_t]
              refine y_iadd (pc := 42) hF dX11_filledMany_42 ?_
              refine y_istore_n (pc := 43) (lv' := [(0, yR g 155), (1, yI (c2 + (bi (decide (0 < F x y))))), (2, yI y), (3, yI x)]) hF dX11_filledMany_43 (by decide) rfl rfl ?_
              refine y_iinc (pc := 44) (lv' := [(0, yR g 155), (1, yI (c2 + (bi (decide (0 < F x y))))), (2, yI y), (3, yI (x + 1))]) hF dX11_filledMany_44 3 rfl (by decide) rfl rfl ?_
              refine y_goto (pc := 47) hF dX11_filledMany_47 16 rfl ?_
              exact zh16 _ (by omega) (x + 1) (c2 + (bi (decide (0 < F x y)))) rfl ⟨by omega, by rw [fr_up _ _ _ _ zI16.1.1, ← zI16.2, Int.zero_add]⟩
        exact zL16 _ (0) (c) rfl ⟨by omega, rfl⟩
  exact zL4 _ (0) (0) rfl ⟨by omega, rfl⟩

theorem dX11_frontMany_0 : decode cX11_frontMany 0 = .ok (.iconst 0, 1) := by decide +kernel
theorem dX11_frontMany_1 : decode cX11_frontMany 1 = .ok (.istore_n 1, 1) := by decide +kernel
theorem dX11_frontMany_2 : decode cX11_frontMany 2 = .ok (.iconst 0, 1) := by decide +kernel
theorem dX11_frontMany_3 : decode cX11_frontMany 3 = .ok (.istore_n 2, 1) := by decide +kernel
theorem dX11_frontMany_4 : decode cX11_frontMany 4 = .ok (.iload_n 2, 1) := by decide +kernel
theorem dX11_frontMany_5 : decode cX11_frontMany 5 = .ok (.aload_n 0, 1) := by decide +kernel
theorem dX11_frontMany_6 : decode cX11_frontMany 6 = .ok (.getfield 25, 3) := by decide +kernel
theorem dX11_frontMany_9 : decode cX11_frontMany 9 = .ok (.iconst 0, 1) := by decide +kernel
theorem dX11_frontMany_10 : decode cX11_frontMany 10 = .ok (.iaload, 1) := by decide +kernel
theorem dX11_frontMany_11 : decode cX11_frontMany 11 = .ok (.if_icmp .ge 45, 3) := by decide +kernel
theorem dX11_frontMany_14 : decode cX11_frontMany 14 = .ok (.iconst 0, 1) := by decide +kernel
theorem dX11_frontMany_15 : decode cX11_frontMany 15 = .ok (.istore_n 3, 1) := by decide +kernel
theorem dX11_frontMany_16 : decode cX11_frontMany 16 = .ok (.iload_n 3, 1) := by decide +kernel
theorem dX11_frontMany_17 : decode cX11_frontMany 17 = .ok (.aload_n 0, 1) := by decide +kernel
theorem dX11_frontMany_18 : decode cX11_frontMany 18 = .ok (.getfield 22, 3) := by decide +kernel
theorem dX11_frontMany_21 : decode cX11_frontMany 21 = .ok (.iconst 0, 1) := by decide +kernel
theorem dX11_frontMany_22 : decode cX11_frontMany 22 = .ok (.iaload, 1) := by decide +kernel
theorem dX11_frontMany_23 : decode cX11_frontMany 23 = .ok (.if_icmp .ge 27, 3) := by decide +kernel
theorem dX11_frontMany_26 : decode cX11_frontMany 26 = .ok (.iload_n 1, 1) := by decide +kernel
theorem dX11_frontMany_27 : decode cX11_frontMany 27 = .ok (.aload_n 0, 1) := by decide +kernel
theorem dX11_frontMany_28 : decode cX11_frontMany 28 = .ok (.iconst 0, 1) := by decide +kernel
theorem dX11_frontMany_29 : decode cX11_frontMany 29 = .ok (.iload_n 3, 1) := by decide +kernel
theorem dX11_frontMany_30 : decode cX11_frontMany 30 = .ok (.iload_n 2, 1) := by decide +kernel
theorem dX11_frontMany_31 : decode cX11_frontMany 31 = .ok (.invokevirtual 121, 3) := by decide +kernel
theorem dX11_frontMany_34 : decode cX11_frontMany 34 = .ok (.ifCond .eq 7, 3) := by decide +kernel
theorem dX11_frontMany_37 : decode cX11_frontMany 37 = .ok (.iconst 1, 1) := by decide +kernel
theorem dX11_frontMany_38 : decode cX11_frontMany 38 = .ok (.goto 4, 3) := by decide +kernel
theorem dX11_frontMany_41 : decode cX11_frontMany 41 = .ok (.iconst 0, 1) := by decide +kernel
theorem dX11_frontMany_42 : decode cX11_frontMany 42 = .ok (.iadd, 1) := by decide +kernel
theorem dX11_frontMany_43 : decode cX11_frontMany 43 = .ok (.istore_n 1, 1) := by decide +kernel
theorem dX11_frontMany_44 : decode cX11_frontMany 44 = .ok (.iinc 3 1, 3) := by decide +kernel
theorem dX11_frontMany_47 : decode cX11_frontMany 47 = .ok (.goto (-31), 3) := by decide +kernel
theorem dX11_frontMany_50 : decode cX11_frontMany 50 = .ok (.iinc 2 1, 3) := by decide +kernel
theorem dX11_frontMany_53 : decode cX11_frontMany 53 = .ok (.goto (-49), 3) := by decide +kernel
theorem dX11_frontMany_56 : decode cX11_frontMany 56 = .ok (.iload_n 1, 1) := by decide +kernel
theorem dX11_frontMany_57 : decode cX11_frontMany 57 = .ok (.ireturn, 1) := by decide +kernel
set_option maxHeartbeats 4000000 in
set_option maxRecDepth 100000 in
theorem tX11_frontMany {l : Launch} {g : yG} {n : Nat} {σ : yM} (w h : Int) (T S F P O : Int → Int → Int) (hn : 172 ≤ n) (hA : rM σ 0 w h T S F P O) : yMet l g yX11_frontMany cX11_frontMany 4 (some .int) (rmL 5) [yR g 155] (SC g) n σ (SC g) (yPp (sCt w h (fun x y => sFr w h T x y)) n σ) := by
  obtain ⟨hw1, hw2, hw3, hw4⟩ := id hA.1.1
  refine y_start (by decide) (Nat.le_of_ble_eq_true rfl) (fun X0 hF => ?_)
  show yV X0 g 4 (yQ X0 g (SC g) (yPp (sCt w h (fun x y => sFr w h T x y)) n σ) (rmL 5)) (SC g) n σ 0 0 0 [(0, yR g 155)] []
  refine y_iconst (pc := 0) hF dX11_frontMany_0 ?_
  refine y_istore_n (pc := 1) (lv' := [(0, yR g 155), (1, yI 0)]) hF dX11_frontMany_1 (by decide) rfl rfl ?_
  refine y_iconst (pc := 2) hF dX11_frontMany_2 ?_
  refine y_istore_n (pc := 3) (lv' := [(0, yR g 155), (1, yI 0), (2, yI 0)]) hF dX11_frontMany_3 (by decide) rfl rfl ?_
  have zL4 : ∀ (N : Nat) (y c : Int), N = (h - y).toNat → ((0 ≤ y ∧ y ≤ h) ∧ c = fr (fun s y => fr (fun s x => s + bi (sFr w h T x y)) 0 w.toNat s) 0 y.toNat 0) → yV X0 g 4 (yQ X0 g (SC g) (yPp (sCt w h (fun x y => sFr w h T x y)) n σ) (rmL 5)) (SC g) n σ 0 0 4 [(0, yR g 155), (1, yI c), (2, yI y)] [] := by
    intro N
    induction N using Nat.strongRecOn with
    | ind N zh4 =>
      intro y c  zN4 zI4
      refine y_iload_n (pc := 4) hF dX11_frontMany_4 2 rfl ?_
      refine y_aload_n (pc := 5) hF dX11_frontMany_5 0 rfl ?_
      refine y_get (pc := 6) (ci := 11) hF dX11_frontMany_6 (by omega) rfl rfl rfl iX11 4 (by decide) w_1251 rfl ?_
      refine y_iconst (pc := 9) hF dX11_frontMany_9 ?_
      refine y_iaload (pc := 10) hF dX11_frontMany_10 (by omega) rfl (by omega) (by decide) ?_
      rw [show σ 162 0 = h from hA.2.2.1]
      refine y_icmp_ge (pc := 11) hF dX11_frontMany_11 56 rfl (by omega) (by omega) (fun zc11 => ?_) (fun zc11 => ?_)
      · skip
        refine y_iload_n (pc := 56) hF dX11_frontMany_56 1 rfl ?_
        exact y_iret (pc := 57) hF dX11_frontMany_57 (Nat.zero_le _) (Nat.zero_le _) ⟨_, rfl, by rw [zI4.2]; unfold sCt fr2; rw [show y.toNat = h.toNat by omega], rfl, rfl⟩
      · skip
        refine y_iconst (pc := 14) hF dX11_frontMany_14 ?_
        refine y_istore_n (pc := 15) (lv' := [(0, yR g 155), (1, yI c), (2, yI y), (3, yI 0)]) hF dX11_frontMany_15 (by decide) rfl rfl ?_
        have zL16 : ∀ (N : Nat) (x c2 : Int), N = (w - x).toNat → ((0 ≤ x ∧ x ≤ w) ∧ c2 = fr (fun s x => s + bi (sFr w h T x y)) 0 x.toNat c) → yV X0 g 4 (yQ X0 g (SC g) (yPp (sCt w h (fun x y => sFr w h T x y)) n σ) (rmL 5)) (SC g) n σ 0 0 16 [(0, yR g 155), (1, yI c2), (2, yI y), (3, yI x)] [] := by
          intro N
          induction N using Nat.strongRecOn with
          | ind N zh16 =>
            intro x c2  zN16 zI16
            refine y_iload_n (pc := 16) hF dX11_frontMany_16 3 rfl ?_
            refine y_aload_n (pc := 17) hF dX11_frontMany_17 0 rfl ?_
            refine y_get (pc := 18) (ci := 11) hF dX11_frontMany_18 (by omega) rfl rfl rfl iX11 3 (by decide) w_1250 rfl ?_
            refine y_iconst (pc := 21) hF dX11_frontMany_21 ?_
            refine y_iaload (pc := 22) hF dX11_frontMany_22 (by omega) rfl (by omega) (by decide) ?_
            rw [show σ 161 0 = w from hA.2.1]
            refine y_icmp_ge (pc := 23) hF dX11_frontMany_23 50 rfl (by omega) (by omega) (fun zc23 => ?_) (fun zc23 => ?_)
            · skip
              refine y_iinc (pc := 50) (lv' := [(0, yR g 155), (1, yI c2), (2, yI (y + 1)), (3, yI x)]) hF dX11_frontMany_50 2 rfl (by decide) rfl rfl ?_
              refine y_goto (pc := 53) hF dX11_frontMany_53 4 rfl ?_
              refine y_sub [0, 1, 2] rfl ?_
              exact zh4 _ (by omega) (y + 1) (c2) rfl ⟨by omega, by rw [fr_up _ _ _ _ zI4.1.1, ← zI4.2, zI16.2, Int.zero_add, show x.toNat = w.toNat by omega]⟩
            · skip
              have zin : sIn w h x y = true := sIn_iff.mpr (by omega)
              refine y_iload_n (pc := 26) hF dX11_frontMany_26 1 rfl ?_
              refine y_aload_n (pc := 27) hF dX11_frontMany_27 0 rfl ?_
              refine y_iconst (pc := 28) hF dX11_frontMany_28 ?_
              refine y_iload_n (pc := 29) hF dX11_frontMany_29 3 rfl ?_
              refine y_iload_n (pc := 30) hF dX11_frontMany_30 2 rfl ?_
              have zz31 := y_rV (pc := 31) hF (tX11_isFront (n := n) (σ := σ) 0 w h T S F P O hn (by omega) hA x y (by omega) (by omega)) dX11_frontMany_31 (by omega) rfl rfl rfl w_1500 qX11_isFront rfl ⟨Nat.le_of_ble_eq_true rfl, Nat.le_of_ble_eq_true rfl⟩ ⟨Nat.zero_le _, Nat.zero_le _⟩ (Nat.le_of_ble_eq_true rfl) rfl (rest := [yI c2]) (cells := 0) (slots := 0) (lv := [(0, yR g 155), (1, yI c2), (2, yI y), (3, yI x)])
              refine y_cp (zz31) ?_
              refine y_t_if_eq (pc := 34) hF dX11_frontMany_34 dX11_frontMany_37 dX11_frontMany_38 dX11_frontMany_41 bi_r ?_
              rw [show (if (bi (sFr w h T x y)) = 0 then 0 else 1) = bi (sFr w h T x y) from bi_t]
              refine y_iadd (pc := 42) hF dX11_frontMany_42 ?_
              refine y_istore_n (pc := 43) (lv' := [(0, yR g 155), (1, yI (c2 + (bi (sFr w h T x y)))), (2, yI y), (3, yI x)]) hF dX11_frontMany_43 (by decide) rfl rfl ?_
              refine y_iinc (pc := 44) (lv' := [(0, yR g 155), (1, yI (c2 + (bi (sFr w h T x y)))), (2, yI y), (3, yI (x + 1))]) hF dX11_frontMany_44 3 rfl (by decide) rfl rfl ?_
              refine y_goto (pc := 47) hF dX11_frontMany_47 16 rfl ?_
              exact zh16 _ (by omega) (x + 1) (c2 + (bi (sFr w h T x y))) rfl ⟨by omega, by rw [fr_up _ _ _ _ zI16.1.1, ← zI16.2, Int.zero_add]⟩
        exact zL16 _ (0) (c) rfl ⟨by omega, rfl⟩
  exact zL4 _ (0) (0) rfl ⟨by omega, rfl⟩

theorem dX11_missingMany_0 : decode cX11_missingMany 0 = .ok (.aload_n 0, 1) := by decide +kernel
theorem dX11_missingMany_1 : decode cX11_missingMany 1 = .ok (.getfield 22, 3) := by decide +kernel
theorem dX11_missingMany_4 : decode cX11_missingMany 4 = .ok (.iconst 0, 1) := by decide +kernel
theorem dX11_missingMany_5 : decode cX11_missingMany 5 = .ok (.iaload, 1) := by decide +kernel
theorem dX11_missingMany_6 : decode cX11_missingMany 6 = .ok (.aload_n 0, 1) := by decide +kernel
theorem dX11_missingMany_7 : decode cX11_missingMany 7 = .ok (.getfield 25, 3) := by decide +kernel
theorem dX11_missingMany_10 : decode cX11_missingMany 10 = .ok (.iconst 0, 1) := by decide +kernel
theorem dX11_missingMany_11 : decode cX11_missingMany 11 = .ok (.iaload, 1) := by decide +kernel
theorem dX11_missingMany_12 : decode cX11_missingMany 12 = .ok (.imul, 1) := by decide +kernel
theorem dX11_missingMany_13 : decode cX11_missingMany 13 = .ok (.aload_n 0, 1) := by decide +kernel
theorem dX11_missingMany_14 : decode cX11_missingMany 14 = .ok (.invokevirtual 311, 3) := by decide +kernel
theorem dX11_missingMany_17 : decode cX11_missingMany 17 = .ok (.isub, 1) := by decide +kernel
theorem dX11_missingMany_18 : decode cX11_missingMany 18 = .ok (.ireturn, 1) := by decide +kernel
set_option maxHeartbeats 4000000 in
set_option maxRecDepth 100000 in
theorem tX11_missingMany {l : Launch} {g : yG} {n : Nat} {σ : yM} (w h : Int) (T S F P O : Int → Int → Int) (hn : 172 ≤ n) (hA : rM σ 0 w h T S F P O) : yMet l g yX11_missingMany cX11_missingMany 1 (some .int) (rmL 5) [yR g 155] (SC g) n σ (SC g) (yPp (w * h - sCt w h (fun x y => sKn w h T x y)) n σ) := by
  obtain ⟨hw1, hw2, hw3, hw4⟩ := id hA.1.1
  refine y_start (by decide) (Nat.le_of_ble_eq_true rfl) (fun X0 hF => ?_)
  show yV X0 g 1 (yQ X0 g (SC g) (yPp (w * h - sCt w h (fun x y => sKn w h T x y)) n σ) (rmL 5)) (SC g) n σ 0 0 0 [(0, yR g 155)] []
  refine y_aload_n (pc := 0) hF dX11_missingMany_0 0 rfl ?_
  refine y_get (pc := 1) (ci := 11) hF dX11_missingMany_1 (by omega) rfl rfl rfl iX11 3 (by decide) w_1250 rfl ?_
  refine y_iconst (pc := 4) hF dX11_missingMany_4 ?_
  refine y_iaload (pc := 5) hF dX11_missingMany_5 (by omega) rfl (by omega) (by decide) ?_
  rw [show σ 161 0 = w from hA.2.1]
  refine y_aload_n (pc := 6) hF dX11_missingMany_6 0 rfl ?_
  refine y_get (pc := 7) (ci := 11) hF dX11_missingMany_7 (by omega) rfl rfl rfl iX11 4 (by decide) w_1251 rfl ?_
  refine y_iconst (pc := 10) hF dX11_missingMany_10 ?_
  refine y_iaload (pc := 11) hF dX11_missingMany_11 (by omega) rfl (by omega) (by decide) ?_
  rw [show σ 162 0 = h from hA.2.2.1]
  refine y_imul (pc := 12) hF dX11_missingMany_12 ?_
  refine y_aload_n (pc := 13) hF dX11_missingMany_13 0 rfl ?_
  have zz14 := y_rV (pc := 14) hF (tX11_knownMany (n := n) (σ := σ) w h T S F P O hn hA) dX11_missingMany_14 (by omega) rfl rfl rfl w_1436 qX11_knownMany rfl ⟨Nat.le_of_ble_eq_true rfl, Nat.le_of_ble_eq_true rfl⟩ ⟨Nat.zero_le _, Nat.zero_le _⟩ (Nat.le_of_ble_eq_true rfl) rfl (rest := [yI (w * h)]) (cells := 0) (slots := 0) (lv := [(0, yR g 155)])
  refine y_cp (zz14) ?_
  refine y_isub (pc := 17) hF dX11_missingMany_17 ?_
  exact y_iret (pc := 18) hF dX11_missingMany_18 (Nat.zero_le _) (Nat.zero_le _) ⟨_, rfl, rfl, rfl, rfl⟩

theorem dX11_flawNow_0 : decode cX11_flawNow 0 = .ok (.iconst 0, 1) := by decide +kernel
theorem dX11_flawNow_1 : decode cX11_flawNow 1 = .ok (.istore_n 1, 1) := by decide +kernel
theorem dX11_flawNow_2 : decode cX11_flawNow 2 = .ok (.iconst 0, 1) := by decide +kernel
theorem dX11_flawNow_3 : decode cX11_flawNow 3 = .ok (.istore_n 2, 1) := by decide +kernel
theorem dX11_flawNow_4 : decode cX11_flawNow 4 = .ok (.iload_n 2, 1) := by decide +kernel
theorem dX11_flawNow_5 : decode cX11_flawNow 5 = .ok (.aload_n 0, 1) := by decide +kernel
theorem dX11_flawNow_6 : decode cX11_flawNow 6 = .ok (.getfield 25, 3) := by decide +kernel
theorem dX11_flawNow_9 : decode cX11_flawNow 9 = .ok (.iconst 0, 1) := by decide +kernel
theorem dX11_flawNow_10 : decode cX11_flawNow 10 = .ok (.iaload, 1) := by decide +kernel
theorem dX11_flawNow_11 : decode cX11_flawNow 11 = .ok (.if_icmp .ge 82, 3) := by decide +kernel
theorem dX11_flawNow_14 : decode cX11_flawNow 14 = .ok (.iconst 0, 1) := by decide +kernel
theorem dX11_flawNow_15 : decode cX11_flawNow 15 = .ok (.istore_n 3, 1) := by decide +kernel
theorem dX11_flawNow_16 : decode cX11_flawNow 16 = .ok (.iload_n 3, 1) := by decide +kernel
theorem dX11_flawNow_17 : decode cX11_flawNow 17 = .ok (.aload_n 0, 1) := by decide +kernel
theorem dX11_flawNow_18 : decode cX11_flawNow 18 = .ok (.getfield 22, 3) := by decide +kernel
theorem dX11_flawNow_21 : decode cX11_flawNow 21 = .ok (.iconst 0, 1) := by decide +kernel
theorem dX11_flawNow_22 : decode cX11_flawNow 22 = .ok (.iaload, 1) := by decide +kernel
theorem dX11_flawNow_23 : decode cX11_flawNow 23 = .ok (.if_icmp .ge 64, 3) := by decide +kernel
theorem dX11_flawNow_26 : decode cX11_flawNow 26 = .ok (.aload_n 0, 1) := by decide +kernel
theorem dX11_flawNow_27 : decode cX11_flawNow 27 = .ok (.iconst 0, 1) := by decide +kernel
theorem dX11_flawNow_28 : decode cX11_flawNow 28 = .ok (.iload_n 3, 1) := by decide +kernel
theorem dX11_flawNow_29 : decode cX11_flawNow 29 = .ok (.iload_n 2, 1) := by decide +kernel
theorem dX11_flawNow_30 : decode cX11_flawNow 30 = .ok (.invokevirtual 127, 3) := by decide +kernel
theorem dX11_flawNow_33 : decode cX11_flawNow 33 = .ok (.ifCond .eq 48, 3) := by decide +kernel
theorem dX11_flawNow_36 : decode cX11_flawNow 36 = .ok (.aload_n 0, 1) := by decide +kernel
theorem dX11_flawNow_37 : decode cX11_flawNow 37 = .ok (.getfield 34, 3) := by decide +kernel
theorem dX11_flawNow_40 : decode cX11_flawNow 40 = .ok (.iload_n 3, 1) := by decide +kernel
theorem dX11_flawNow_41 : decode cX11_flawNow 41 = .ok (.iload_n 2, 1) := by decide +kernel
theorem dX11_flawNow_42 : decode cX11_flawNow 42 = .ok (.invokestatic 56, 3) := by decide +kernel
theorem dX11_flawNow_45 : decode cX11_flawNow 45 = .ok (.iaload, 1) := by decide +kernel
theorem dX11_flawNow_46 : decode cX11_flawNow 46 = .ok (.iconst (-1), 1) := by decide +kernel
theorem dX11_flawNow_47 : decode cX11_flawNow 47 = .ok (.if_icmp .ne 6, 3) := by decide +kernel
theorem dX11_flawNow_50 : decode cX11_flawNow 50 = .ok (.goto 31, 3) := by decide +kernel
theorem dX11_flawNow_53 : decode cX11_flawNow 53 = .ok (.aload_n 0, 1) := by decide +kernel
theorem dX11_flawNow_54 : decode cX11_flawNow 54 = .ok (.iconst 0, 1) := by decide +kernel
theorem dX11_flawNow_55 : decode cX11_flawNow 55 = .ok (.iload_n 3, 1) := by decide +kernel
theorem dX11_flawNow_56 : decode cX11_flawNow 56 = .ok (.iload_n 2, 1) := by decide +kernel
theorem dX11_flawNow_57 : decode cX11_flawNow 57 = .ok (.invokevirtual 87, 3) := by decide +kernel
theorem dX11_flawNow_60 : decode cX11_flawNow 60 = .ok (.aload_n 0, 1) := by decide +kernel
theorem dX11_flawNow_61 : decode cX11_flawNow 61 = .ok (.getfield 34, 3) := by decide +kernel
theorem dX11_flawNow_64 : decode cX11_flawNow 64 = .ok (.iload_n 3, 1) := by decide +kernel
theorem dX11_flawNow_65 : decode cX11_flawNow 65 = .ok (.iload_n 2, 1) := by decide +kernel
theorem dX11_flawNow_66 : decode cX11_flawNow 66 = .ok (.invokestatic 56, 3) := by decide +kernel
theorem dX11_flawNow_69 : decode cX11_flawNow 69 = .ok (.iaload, 1) := by decide +kernel
theorem dX11_flawNow_70 : decode cX11_flawNow 70 = .ok (.isub, 1) := by decide +kernel
theorem dX11_flawNow_71 : decode cX11_flawNow 71 = .ok (.istore 4, 2) := by decide +kernel
theorem dX11_flawNow_73 : decode cX11_flawNow 73 = .ok (.iload_n 1, 1) := by decide +kernel
theorem dX11_flawNow_74 : decode cX11_flawNow 74 = .ok (.iload 4, 2) := by decide +kernel
theorem dX11_flawNow_76 : decode cX11_flawNow 76 = .ok (.iload 4, 2) := by decide +kernel
theorem dX11_flawNow_78 : decode cX11_flawNow 78 = .ok (.imul, 1) := by decide +kernel
theorem dX11_flawNow_79 : decode cX11_flawNow 79 = .ok (.iadd, 1) := by decide +kernel
theorem dX11_flawNow_80 : decode cX11_flawNow 80 = .ok (.istore_n 1, 1) := by decide +kernel
theorem dX11_flawNow_81 : decode cX11_flawNow 81 = .ok (.iinc 3 1, 3) := by decide +kernel
theorem dX11_flawNow_84 : decode cX11_flawNow 84 = .ok (.goto (-68), 3) := by decide +kernel
theorem dX11_flawNow_87 : decode cX11_flawNow 87 = .ok (.iinc 2 1, 3) := by decide +kernel
theorem dX11_flawNow_90 : decode cX11_flawNow 90 = .ok (.goto (-86), 3) := by decide +kernel
theorem dX11_flawNow_93 : decode cX11_flawNow 93 = .ok (.iload_n 1, 1) := by decide +kernel
theorem dX11_flawNow_94 : decode cX11_flawNow 94 = .ok (.ireturn, 1) := by decide +kernel
set_option maxHeartbeats 4000000 in
set_option maxRecDepth 100000 in
theorem tX11_flawNow {l : Launch} {g : yG} {n : Nat} {σ : yM} (w h : Int) (T S F P O : Int → Int → Int) (hn : 172 ≤ n) (hA : rM σ 0 w h T S F P O) (K : Int → Int → Int) (hK : ∀ x y : Int, 0 ≤ x → x < w → 0 ≤ y → y < h → σ 165 (20 * y + x) = K x y ∧ -1 ≤ K x y ∧ K x y ≤ 255) : yMet l g yX11_flawNow cX11_flawNow 5 (some .int) (rmL 3) [yR g 155] (SC g) n σ (SC g) (yPp (sFw w h T F K) n σ) := by
  obtain ⟨hw1, hw2, hw3, hw4⟩ := id hA.1.1
  refine y_start (by decide) (Nat.le_of_ble_eq_true rfl) (fun X0 hF => ?_)
  show yV X0 g 5 (yQ X0 g (SC g) (yPp (sFw w h T F K) n σ) (rmL 3)) (SC g) n σ 0 0 0 [(0, yR g 155)] []
  refine y_iconst (pc := 0) hF dX11_flawNow_0 ?_
  refine y_istore_n (pc := 1) (lv' := [(0, yR g 155), (1, yI 0)]) hF dX11_flawNow_1 (by decide) rfl rfl ?_
  refine y_iconst (pc := 2) hF dX11_flawNow_2 ?_
  refine y_istore_n (pc := 3) (lv' := [(0, yR g 155), (1, yI 0), (2, yI 0)]) hF dX11_flawNow_3 (by decide) rfl rfl ?_
  have zL4 : ∀ (N : Nat) (y c : Int), N = (h - y).toNat → ((0 ≤ y ∧ y ≤ h) ∧ c = fr (fun s y => fr (fun s x => flF T F K s x y) 0 w.toNat s) 0 y.toNat 0) → yV X0 g 5 (yQ X0 g (SC g) (yPp (sFw w h T F K) n σ) (rmL 3)) (SC g) n σ 0 0 4 [(0, yR g 155), (1, yI c), (2, yI y)] [] := by
    intro N
    induction N using Nat.strongRecOn with
    | ind N zh4 =>
      intro y c  zN4 zI4
      refine y_iload_n (pc := 4) hF dX11_flawNow_4 2 rfl ?_
      refine y_aload_n (pc := 5) hF dX11_flawNow_5 0 rfl ?_
      refine y_get (pc := 6) (ci := 11) hF dX11_flawNow_6 (by omega) rfl rfl rfl iX11 4 (by decide) w_1251 rfl ?_
      refine y_iconst (pc := 9) hF dX11_flawNow_9 ?_
      refine y_iaload (pc := 10) hF dX11_flawNow_10 (by omega) rfl (by omega) (by decide) ?_
      rw [show σ 162 0 = h from hA.2.2.1]
      refine y_icmp_ge (pc := 11) hF dX11_flawNow_11 93 rfl (by omega) (by omega) (fun zc11 => ?_) (fun zc11 => ?_)
      · skip
        refine y_iload_n (pc := 93) hF dX11_flawNow_93 1 rfl ?_
        exact y_iret (pc := 94) hF dX11_flawNow_94 (Nat.zero_le _) (Nat.zero_le _) ⟨_, rfl, by rw [zI4.2]; unfold sFw fr2; rw [show y.toNat = h.toNat by omega], rfl, rfl⟩
      · skip
        refine y_iconst (pc := 14) hF dX11_flawNow_14 ?_
        refine y_istore_n (pc := 15) (lv' := [(0, yR g 155), (1, yI c), (2, yI y), (3, yI 0)]) hF dX11_flawNow_15 (by decide) rfl rfl ?_
        have zL16 : ∀ (N : Nat) (x c2 : Int), N = (w - x).toNat → ((0 ≤ x ∧ x ≤ w) ∧ c2 = fr (fun s x => flF T F K s x y) 0 x.toNat c) → yV X0 g 5 (yQ X0 g (SC g) (yPp (sFw w h T F K) n σ) (rmL 3)) (SC g) n σ 0 0 16 [(0, yR g 155), (1, yI c2), (2, yI y), (3, yI x)] [] := by
          intro N
          induction N using Nat.strongRecOn with
          | ind N zh16 =>
            intro x c2  zN16 zI16
            refine y_iload_n (pc := 16) hF dX11_flawNow_16 3 rfl ?_
            refine y_aload_n (pc := 17) hF dX11_flawNow_17 0 rfl ?_
            refine y_get (pc := 18) (ci := 11) hF dX11_flawNow_18 (by omega) rfl rfl rfl iX11 3 (by decide) w_1250 rfl ?_
            refine y_iconst (pc := 21) hF dX11_flawNow_21 ?_
            refine y_iaload (pc := 22) hF dX11_flawNow_22 (by omega) rfl (by omega) (by decide) ?_
            rw [show σ 161 0 = w from hA.2.1]
            refine y_icmp_ge (pc := 23) hF dX11_flawNow_23 87 rfl (by omega) (by omega) (fun zc23 => ?_) (fun zc23 => ?_)
            · skip
              refine y_iinc (pc := 87) (lv' := [(0, yR g 155), (1, yI c2), (2, yI (y + 1)), (3, yI x)]) hF dX11_flawNow_87 2 rfl (by decide) rfl rfl ?_
              refine y_goto (pc := 90) hF dX11_flawNow_90 4 rfl ?_
              refine y_sub [0, 1, 2] rfl ?_
              exact zh4 _ (by omega) (y + 1) (c2) rfl ⟨by omega, by rw [fr_up _ _ _ _ zI4.1.1, ← zI4.2, zI16.2, Int.zero_add, show x.toNat = w.toNat by omega]⟩
            · skip
              have zin : sIn w h x y = true := sIn_iff.mpr (by omega)
              have zk := hK x y (by omega) (by omega) (by omega) (by omega)
              refine y_aload_n (pc := 26) hF dX11_flawNow_26 0 rfl ?_
              refine y_iconst (pc := 27) hF dX11_flawNow_27 ?_
              refine y_iload_n (pc := 28) hF dX11_flawNow_28 3 rfl ?_
              refine y_iload_n (pc := 29) hF dX11_flawNow_29 2 rfl ?_
              have zz30 := y_rV (pc := 30) hF (tX11_isFilled (n := n) (σ := σ) 0 w h T S F P O hn (by omega) hA x y zin) dX11_flawNow_30 (by omega) rfl rfl rfl w_1545 qX11_isFilled rfl ⟨Nat.le_of_ble_eq_true rfl, Nat.le_of_ble_eq_true rfl⟩ ⟨Nat.zero_le _, Nat.zero_le _⟩ (Nat.le_of_ble_eq_true rfl) rfl (rest := []) (cells := 0) (slots := 0) (lv := [(0, yR g 155), (1, yI c2), (2, yI y), (3, yI x)])
              refine y_cp (zz30) ?_
              refine y_if_eq (pc := 33) hF dX11_flawNow_33 81 rfl bi_r (fun zc33 => ?_) (fun zc33 => ?_)
              · replace zc33 := bi_0.mp zc33
                refine y_iinc (pc := 81) (lv' := [(0, yR g 155), (1, yI c2), (2, yI y), (3, yI (x + 1))]) hF dX11_flawNow_81 3 rfl (by decide) rfl rfl ?_
                refine y_goto (pc := 84) hF dX11_flawNow_84 16 rfl ?_
                exact zh16 _ (by omega) (x + 1) (c2) rfl ⟨by omega, by rw [fr_up _ _ _ _ zI16.1.1, ← zI16.2, Int.zero_add]; unfold flF; rw [if_neg (fun ze => by have := ze.1; simp at zc33; omega)]⟩
              · replace zc33 := bi_n0.mp zc33
                refine y_aload_n (pc := 36) hF dX11_flawNow_36 0 rfl ?_
                refine y_get (pc := 37) (ci := 11) hF dX11_flawNow_37 (by omega) rfl rfl rfl iX11 7 (by decide) w_1254 rfl ?_
                refine y_iload_n (pc := 40) hF dX11_flawNow_40 3 rfl ?_
                refine y_iload_n (pc := 41) hF dX11_flawNow_41 2 rfl ?_
                have zz42 := y_rS (pc := 42) (As := [yI x, yI y]) (kk := 0) hF (tX11_at (n := n) (σ := σ) x y) dX11_flawNow_42 w_1236 qX11_at rfl ⟨Nat.le_of_ble_eq_true rfl, Nat.le_of_ble_eq_true rfl⟩ ⟨Nat.zero_le _, Nat.zero_le _⟩ (Nat.le_of_ble_eq_true rfl) rfl (rest := [yR g 165]) (cells := 0) (slots := 0) (lv := [(0, yR g 155), (1, yI c2), (2, yI y), (3, yI x)])
                refine y_cp (zz42) ?_
                refine y_iaload (pc := 45) hF dX11_flawNow_45 (by omega) rfl (by omega) (by decide) ?_
                rw [show σ 165 (20 * y + x) = K x y from zk.1]
                refine y_iconst (pc := 46) hF dX11_flawNow_46 ?_
                refine y_icmp_ne (pc := 47) hF dX11_flawNow_47 53 rfl (by omega) (by omega) (fun zc47 => ?_) (fun zc47 => ?_)
                · skip
                  refine y_aload_n (pc := 53) hF dX11_flawNow_53 0 rfl ?_
                  refine y_iconst (pc := 54) hF dX11_flawNow_54 ?_
                  refine y_iload_n (pc := 55) hF dX11_flawNow_55 3 rfl ?_
                  refine y_iload_n (pc := 56) hF dX11_flawNow_56 2 rfl ?_
                  have zz57 := y_rV (pc := 57) hF (tX11_toneOf (n := n) (σ := σ) 0 w h T S F P O hn (by omega) hA x y zin) dX11_flawNow_57 (by omega) rfl rfl rfl w_1472 qX11_toneOf rfl ⟨Nat.le_of_ble_eq_true rfl, Nat.le_of_ble_eq_true rfl⟩ ⟨Nat.zero_le _, Nat.zero_le _⟩ (Nat.le_of_ble_eq_true rfl) rfl (rest := []) (cells := 0) (slots := 0) (lv := [(0, yR g 155), (1, yI c2), (2, yI y), (3, yI x)])
                  refine y_cp (zz57) ?_
                  refine y_aload_n (pc := 60) hF dX11_flawNow_60 0 rfl ?_
                  refine y_get (pc := 61) (ci := 11) hF dX11_flawNow_61 (by omega) rfl rfl rfl iX11 7 (by decide) w_1254 rfl ?_
                  refine y_iload_n (pc := 64) hF dX11_flawNow_64 3 rfl ?_
                  refine y_iload_n (pc := 65) hF dX11_flawNow_65 2 rfl ?_
                  have zz66 := y_rS (pc := 66) (As := [yI x, yI y]) (kk := 0) hF (tX11_at (n := n) (σ := σ) x y) dX11_flawNow_66 w_1236 qX11_at rfl ⟨Nat.le_of_ble_eq_true rfl, Nat.le_of_ble_eq_true rfl⟩ ⟨Nat.zero_le _, Nat.zero_le _⟩ (Nat.le_of_ble_eq_true rfl) rfl (rest := [yR g 165, yI (T x y)]) (cells := 0) (slots := 0) (lv := [(0, yR g 155), (1, yI c2), (2, yI y), (3, yI x)])
                  refine y_cp (zz66) ?_
                  refine y_iaload (pc := 69) hF dX11_flawNow_69 (by omega) rfl (by omega) (by decide) ?_
                  rw [show σ 165 (20 * y + x) = K x y from zk.1]
                  refine y_isub (pc := 70) hF dX11_flawNow_70 ?_
                  refine y_istore (pc := 71) (lv' := [(0, yR g 155), (1, yI c2), (2, yI y), (3, yI x), (4, yI ((T x y) - (K x y)))]) hF dX11_flawNow_71 (by decide) rfl rfl ?_
                  refine y_iload_n (pc := 73) hF dX11_flawNow_73 1 rfl ?_
                  refine y_iload (pc := 74) hF dX11_flawNow_74 4 rfl ?_
                  refine y_iload (pc := 76) hF dX11_flawNow_76 4 rfl ?_
                  refine y_imul (pc := 78) hF dX11_flawNow_78 ?_
                  refine y_iadd (pc := 79) hF dX11_flawNow_79 ?_
                  refine y_istore_n (pc := 80) (lv' := [(0, yR g 155), (1, yI (c2 + (((T x y) - (K x y)) * ((T x y) - (K x y))))), (2, yI y), (3, yI x), (4, yI ((T x y) - (K x y)))]) hF dX11_flawNow_80 (by decide) rfl rfl ?_
                  refine y_iinc (pc := 81) (lv' := [(0, yR g 155), (1, yI (c2 + (((T x y) - (K x y)) * ((T x y) - (K x y))))), (2, yI y), (3, yI (x + 1)), (4, yI ((T x y) - (K x y)))]) hF dX11_flawNow_81 3 rfl (by decide) rfl rfl ?_
                  refine y_goto (pc := 84) hF dX11_flawNow_84 16 rfl ?_
                  refine y_sub [0, 1, 2, 3] rfl ?_
                  exact zh16 _ (by omega) (x + 1) (c2 + (((T x y) - (K x y)) * ((T x y) - (K x y)))) rfl ⟨by omega, by rw [fr_up _ _ _ _ zI16.1.1, ← zI16.2, Int.zero_add]; unfold flF; rw [if_pos ⟨by simpa using zc33, zc47⟩]⟩
                · skip
                  refine y_goto (pc := 50) hF dX11_flawNow_50 81 rfl ?_
                  refine y_iinc (pc := 81) (lv' := [(0, yR g 155), (1, yI c2), (2, yI y), (3, yI (x + 1))]) hF dX11_flawNow_81 3 rfl (by decide) rfl rfl ?_
                  refine y_goto (pc := 84) hF dX11_flawNow_84 16 rfl ?_
                  exact zh16 _ (by omega) (x + 1) (c2) rfl ⟨by omega, by rw [fr_up _ _ _ _ zI16.1.1, ← zI16.2, Int.zero_add]; unfold flF; rw [if_neg (fun ze => ze.2 zc47)]⟩
        exact zL16 _ (0) (c) rfl ⟨by omega, rfl⟩
  exact zL4 _ (0) (0) rfl ⟨by omega, rfl⟩

theorem dX11_leastSure_0 : decode cX11_leastSure 0 = .ok (.iconst (-1), 1) := by decide +kernel
theorem dX11_leastSure_1 : decode cX11_leastSure 1 = .ok (.istore_n 1, 1) := by decide +kernel
theorem dX11_leastSure_2 : decode cX11_leastSure 2 = .ok (.iconst 0, 1) := by decide +kernel
theorem dX11_leastSure_3 : decode cX11_leastSure 3 = .ok (.istore_n 2, 1) := by decide +kernel
theorem dX11_leastSure_4 : decode cX11_leastSure 4 = .ok (.iload_n 2, 1) := by decide +kernel
theorem dX11_leastSure_5 : decode cX11_leastSure 5 = .ok (.aload_n 0, 1) := by decide +kernel
theorem dX11_leastSure_6 : decode cX11_leastSure 6 = .ok (.getfield 25, 3) := by decide +kernel
theorem dX11_leastSure_9 : decode cX11_leastSure 9 = .ok (.iconst 0, 1) := by decide +kernel
theorem dX11_leastSure_10 : decode cX11_leastSure 10 = .ok (.iaload, 1) := by decide +kernel
theorem dX11_leastSure_11 : decode cX11_leastSure 11 = .ok (.if_icmp .ge 69, 3) := by decide +kernel
theorem dX11_leastSure_14 : decode cX11_leastSure 14 = .ok (.iconst 0, 1) := by decide +kernel
theorem dX11_leastSure_15 : decode cX11_leastSure 15 = .ok (.istore_n 3, 1) := by decide +kernel
theorem dX11_leastSure_16 : decode cX11_leastSure 16 = .ok (.iload_n 3, 1) := by decide +kernel
theorem dX11_leastSure_17 : decode cX11_leastSure 17 = .ok (.aload_n 0, 1) := by decide +kernel
theorem dX11_leastSure_18 : decode cX11_leastSure 18 = .ok (.getfield 22, 3) := by decide +kernel
theorem dX11_leastSure_21 : decode cX11_leastSure 21 = .ok (.iconst 0, 1) := by decide +kernel
theorem dX11_leastSure_22 : decode cX11_leastSure 22 = .ok (.iaload, 1) := by decide +kernel
theorem dX11_leastSure_23 : decode cX11_leastSure 23 = .ok (.if_icmp .ge 51, 3) := by decide +kernel
theorem dX11_leastSure_26 : decode cX11_leastSure 26 = .ok (.aload_n 0, 1) := by decide +kernel
theorem dX11_leastSure_27 : decode cX11_leastSure 27 = .ok (.getfield 19, 3) := by decide +kernel
theorem dX11_leastSure_30 : decode cX11_leastSure 30 = .ok (.iconst 0, 1) := by decide +kernel
theorem dX11_leastSure_31 : decode cX11_leastSure 31 = .ok (.aaload, 1) := by decide +kernel
theorem dX11_leastSure_32 : decode cX11_leastSure 32 = .ok (.sipush 400, 3) := by decide +kernel
theorem dX11_leastSure_35 : decode cX11_leastSure 35 = .ok (.iload_n 3, 1) := by decide +kernel
theorem dX11_leastSure_36 : decode cX11_leastSure 36 = .ok (.iload_n 2, 1) := by decide +kernel
theorem dX11_leastSure_37 : decode cX11_leastSure 37 = .ok (.invokestatic 56, 3) := by decide +kernel
theorem dX11_leastSure_40 : decode cX11_leastSure 40 = .ok (.iadd, 1) := by decide +kernel
theorem dX11_leastSure_41 : decode cX11_leastSure 41 = .ok (.iaload, 1) := by decide +kernel
theorem dX11_leastSure_42 : decode cX11_leastSure 42 = .ok (.istore 4, 2) := by decide +kernel
theorem dX11_leastSure_44 : decode cX11_leastSure 44 = .ok (.aload_n 0, 1) := by decide +kernel
theorem dX11_leastSure_45 : decode cX11_leastSure 45 = .ok (.iconst 0, 1) := by decide +kernel
theorem dX11_leastSure_46 : decode cX11_leastSure 46 = .ok (.iload_n 3, 1) := by decide +kernel
theorem dX11_leastSure_47 : decode cX11_leastSure 47 = .ok (.iload_n 2, 1) := by decide +kernel
theorem dX11_leastSure_48 : decode cX11_leastSure 48 = .ok (.invokevirtual 127, 3) := by decide +kernel
theorem dX11_leastSure_51 : decode cX11_leastSure 51 = .ok (.ifCond .eq 17, 3) := by decide +kernel
theorem dX11_leastSure_54 : decode cX11_leastSure 54 = .ok (.iload_n 1, 1) := by decide +kernel
theorem dX11_leastSure_55 : decode cX11_leastSure 55 = .ok (.iconst (-1), 1) := by decide +kernel
theorem dX11_leastSure_56 : decode cX11_leastSure 56 = .ok (.if_icmp .eq 9, 3) := by decide +kernel
theorem dX11_leastSure_59 : decode cX11_leastSure 59 = .ok (.iload 4, 2) := by decide +kernel
theorem dX11_leastSure_61 : decode cX11_leastSure 61 = .ok (.iload_n 1, 1) := by decide +kernel
theorem dX11_leastSure_62 : decode cX11_leastSure 62 = .ok (.if_icmp .ge 6, 3) := by decide +kernel
theorem dX11_leastSure_65 : decode cX11_leastSure 65 = .ok (.iload 4, 2) := by decide +kernel
theorem dX11_leastSure_67 : decode cX11_leastSure 67 = .ok (.istore_n 1, 1) := by decide +kernel
theorem dX11_leastSure_68 : decode cX11_leastSure 68 = .ok (.iinc 3 1, 3) := by decide +kernel
theorem dX11_leastSure_71 : decode cX11_leastSure 71 = .ok (.goto (-55), 3) := by decide +kernel
theorem dX11_leastSure_74 : decode cX11_leastSure 74 = .ok (.iinc 2 1, 3) := by decide +kernel
theorem dX11_leastSure_77 : decode cX11_leastSure 77 = .ok (.goto (-73), 3) := by decide +kernel
theorem dX11_leastSure_80 : decode cX11_leastSure 80 = .ok (.iload_n 1, 1) := by decide +kernel
theorem dX11_leastSure_81 : decode cX11_leastSure 81 = .ok (.ireturn, 1) := by decide +kernel
set_option maxHeartbeats 4000000 in
set_option maxRecDepth 100000 in
theorem tX11_leastSure {l : Launch} {g : yG} {n : Nat} {σ : yM} (w h : Int) (T S F P O : Int → Int → Int) (hn : 172 ≤ n) (hA : rM σ 0 w h T S F P O) : yMet l g yX11_leastSure cX11_leastSure 5 (some .int) (rmL 3) [yR g 155] (SC g) n σ (SC g) (yPp (sLs w h S F) n σ) := by
  obtain ⟨hw1, hw2, hw3, hw4⟩ := id hA.1.1
  refine y_start (by decide) (Nat.le_of_ble_eq_true rfl) (fun X0 hF => ?_)
  show yV X0 g 5 (yQ X0 g (SC g) (yPp (sLs w h S F) n σ) (rmL 3)) (SC g) n σ 0 0 0 [(0, yR g 155)] []
  refine y_iconst (pc := 0) hF dX11_leastSure_0 ?_
  refine y_istore_n (pc := 1) (lv' := [(0, yR g 155), (1, yI (-1))]) hF dX11_leastSure_1 (by decide) rfl rfl ?_
  refine y_iconst (pc := 2) hF dX11_leastSure_2 ?_
  refine y_istore_n (pc := 3) (lv' := [(0, yR g 155), (1, yI (-1)), (2, yI 0)]) hF dX11_leastSure_3 (by decide) rfl rfl ?_
  have zL4 : ∀ (N : Nat) (y c : Int), N = (h - y).toNat → ((0 ≤ y ∧ y ≤ h) ∧ (-1 ≤ c ∧ c ≤ 1000) ∧ c = fr (fun s y => fr (fun s x => lsF S F s x y) 0 w.toNat s) 0 y.toNat (-1)) → yV X0 g 5 (yQ X0 g (SC g) (yPp (sLs w h S F) n σ) (rmL 3)) (SC g) n σ 0 0 4 [(0, yR g 155), (1, yI c), (2, yI y)] [] := by
    intro N
    induction N using Nat.strongRecOn with
    | ind N zh4 =>
      intro y c  zN4 zI4
      refine y_iload_n (pc := 4) hF dX11_leastSure_4 2 rfl ?_
      refine y_aload_n (pc := 5) hF dX11_leastSure_5 0 rfl ?_
      refine y_get (pc := 6) (ci := 11) hF dX11_leastSure_6 (by omega) rfl rfl rfl iX11 4 (by decide) w_1251 rfl ?_
      refine y_iconst (pc := 9) hF dX11_leastSure_9 ?_
      refine y_iaload (pc := 10) hF dX11_leastSure_10 (by omega) rfl (by omega) (by decide) ?_
      rw [show σ 162 0 = h from hA.2.2.1]
      refine y_icmp_ge (pc := 11) hF dX11_leastSure_11 80 rfl (by omega) (by omega) (fun zc11 => ?_) (fun zc11 => ?_)
      · skip
        refine y_iload_n (pc := 80) hF dX11_leastSure_80 1 rfl ?_
        exact y_iret (pc := 81) hF dX11_leastSure_81 (Nat.zero_le _) (Nat.zero_le _) ⟨_, rfl, by rw [zI4.2.2]; unfold sLs fr2; rw [show y.toNat = h.toNat by omega], rfl, rfl⟩
      · skip
        refine y_iconst (pc := 14) hF dX11_leastSure_14 ?_
        refine y_istore_n (pc := 15) (lv' := [(0, yR g 155), (1, yI c), (2, yI y), (3, yI 0)]) hF dX11_leastSure_15 (by decide) rfl rfl ?_
        have zL16 : ∀ (N : Nat) (x c2 : Int), N = (w - x).toNat → ((0 ≤ x ∧ x ≤ w) ∧ (-1 ≤ c2 ∧ c2 ≤ 1000) ∧ c2 = fr (fun s x => lsF S F s x y) 0 x.toNat c) → yV X0 g 5 (yQ X0 g (SC g) (yPp (sLs w h S F) n σ) (rmL 3)) (SC g) n σ 0 0 16 [(0, yR g 155), (1, yI c2), (2, yI y), (3, yI x)] [] := by
          intro N
          induction N using Nat.strongRecOn with
          | ind N zh16 =>
            intro x c2  zN16 zI16
            refine y_iload_n (pc := 16) hF dX11_leastSure_16 3 rfl ?_
            refine y_aload_n (pc := 17) hF dX11_leastSure_17 0 rfl ?_
            refine y_get (pc := 18) (ci := 11) hF dX11_leastSure_18 (by omega) rfl rfl rfl iX11 3 (by decide) w_1250 rfl ?_
            refine y_iconst (pc := 21) hF dX11_leastSure_21 ?_
            refine y_iaload (pc := 22) hF dX11_leastSure_22 (by omega) rfl (by omega) (by decide) ?_
            rw [show σ 161 0 = w from hA.2.1]
            refine y_icmp_ge (pc := 23) hF dX11_leastSure_23 74 rfl (by omega) (by omega) (fun zc23 => ?_) (fun zc23 => ?_)
            · skip
              refine y_iinc (pc := 74) (lv' := [(0, yR g 155), (1, yI c2), (2, yI (y + 1)), (3, yI x)]) hF dX11_leastSure_74 2 rfl (by decide) rfl rfl ?_
              refine y_goto (pc := 77) hF dX11_leastSure_77 4 rfl ?_
              refine y_sub [0, 1, 2] rfl ?_
              exact zh4 _ (by omega) (y + 1) (c2) rfl ⟨by omega, zI16.2.1, by rw [fr_up _ _ _ _ zI4.1.1, ← zI4.2.2, zI16.2.2, Int.zero_add, show x.toNat = w.toNat by omega]⟩
            · skip
              have zin : sIn w h x y = true := sIn_iff.mpr (by omega)
              have zm := hA.2.2.2 x y (by omega) (by omega) (by omega) (by omega)
              have zsb := hA.1.S x y zin
              refine y_aload_n (pc := 26) hF dX11_leastSure_26 0 rfl ?_
              refine y_get (pc := 27) (ci := 11) hF dX11_leastSure_27 (by omega) rfl rfl rfl iX11 2 (by decide) w_1249 rfl ?_
              refine y_iconst (pc := 30) hF dX11_leastSure_30 ?_
              refine y_aaM0 (pc := 31) hF dX11_leastSure_31 hn rfl ?_
              refine y_sipush (pc := 32) hF dX11_leastSure_32 (by decide) ?_
              refine y_iload_n (pc := 35) hF dX11_leastSure_35 3 rfl ?_
              refine y_iload_n (pc := 36) hF dX11_leastSure_36 2 rfl ?_
              have zz37 := y_rS (pc := 37) (As := [yI x, yI y]) (kk := 0) hF (tX11_at (n := n) (σ := σ) x y) dX11_leastSure_37 w_1236 qX11_at rfl ⟨Nat.le_of_ble_eq_true rfl, Nat.le_of_ble_eq_true rfl⟩ ⟨Nat.zero_le _, Nat.zero_le _⟩ (Nat.le_of_ble_eq_true rfl) rfl (rest := [yI 400, yR g 158]) (cells := 0) (slots := 0) (lv := [(0, yR g 155), (1, yI c2), (2, yI y), (3, yI x)])
              refine y_cp (zz37) ?_
              refine y_iadd (pc := 40) hF dX11_leastSure_40 ?_
              refine y_iaload (pc := 41) hF dX11_leastSure_41 (by omega) rfl (by omega) (by decide) ?_
              rw [show σ 158 (400 + (20 * y + x)) = S x y from zm.2.1]
              refine y_istore (pc := 42) (lv' := [(0, yR g 155), (1, yI c2), (2, yI y), (3, yI x), (4, yI (S x y))]) hF dX11_leastSure_42 (by decide) rfl rfl ?_
              refine y_aload_n (pc := 44) hF dX11_leastSure_44 0 rfl ?_
              refine y_iconst (pc := 45) hF dX11_leastSure_45 ?_
              refine y_iload_n (pc := 46) hF dX11_leastSure_46 3 rfl ?_
              refine y_iload_n (pc := 47) hF dX11_leastSure_47 2 rfl ?_
              have zz48 := y_rV (pc := 48) hF (tX11_isFilled (n := n) (σ := σ) 0 w h T S F P O hn (by omega) hA x y zin) dX11_leastSure_48 (by omega) rfl rfl rfl w_1545 qX11_isFilled rfl ⟨Nat.le_of_ble_eq_true rfl, Nat.le_of_ble_eq_true rfl⟩ ⟨Nat.zero_le _, Nat.zero_le _⟩ (Nat.le_of_ble_eq_true rfl) rfl (rest := []) (cells := 0) (slots := 0) (lv := [(0, yR g 155), (1, yI c2), (2, yI y), (3, yI x), (4, yI (S x y))])
              refine y_cp (zz48) ?_
              refine y_if_eq (pc := 51) hF dX11_leastSure_51 68 rfl bi_r (fun zc51 => ?_) (fun zc51 => ?_)
              · replace zc51 := bi_0.mp zc51
                refine y_iinc (pc := 68) (lv' := [(0, yR g 155), (1, yI c2), (2, yI y), (3, yI (x + 1)), (4, yI (S x y))]) hF dX11_leastSure_68 3 rfl (by decide) rfl rfl ?_
                refine y_goto (pc := 71) hF dX11_leastSure_71 16 rfl ?_
                refine y_sub [0, 1, 2, 3] rfl ?_
                exact zh16 _ (by omega) (x + 1) (c2) rfl ⟨by omega, by omega, by rw [fr_up _ _ _ _ zI16.1.1, ← zI16.2.2, Int.zero_add]; unfold lsF; rw [if_neg (fun ze => by have := ze.1; simp at zc51; omega)]⟩
              · replace zc51 := bi_n0.mp zc51
                refine y_iload_n (pc := 54) hF dX11_leastSure_54 1 rfl ?_
                refine y_iconst (pc := 55) hF dX11_leastSure_55 ?_
                refine y_icmp_eq (pc := 56) hF dX11_leastSure_56 65 rfl (by omega) (by omega) (fun zc56 => ?_) (fun zc56 => ?_)
                · skip
                  refine y_iload (pc := 65) hF dX11_leastSure_65 4 rfl ?_
                  refine y_istore_n (pc := 67) (lv' := [(0, yR g 155), (1, yI (S x y)), (2, yI y), (3, yI x), (4, yI (S x y))]) hF dX11_leastSure_67 (by decide) rfl rfl ?_
                  refine y_iinc (pc := 68) (lv' := [(0, yR g 155), (1, yI (S x y)), (2, yI y), (3, yI (x + 1)), (4, yI (S x y))]) hF dX11_leastSure_68 3 rfl (by decide) rfl rfl ?_
                  refine y_goto (pc := 71) hF dX11_leastSure_71 16 rfl ?_
                  refine y_sub [0, 1, 2, 3] rfl ?_
                  exact zh16 _ (by omega) (x + 1) (S x y) rfl ⟨by omega, by omega, by rw [fr_up _ _ _ _ zI16.1.1, ← zI16.2.2, Int.zero_add]; unfold lsF; rw [if_pos ⟨by simpa using zc51, by omega⟩]⟩
                · skip
                  refine y_iload (pc := 59) hF dX11_leastSure_59 4 rfl ?_
                  refine y_iload_n (pc := 61) hF dX11_leastSure_61 1 rfl ?_
                  refine y_icmp_ge (pc := 62) hF dX11_leastSure_62 68 rfl (by omega) (by omega) (fun zc62 => ?_) (fun zc62 => ?_)
                  · skip
                    refine y_iinc (pc := 68) (lv' := [(0, yR g 155), (1, yI c2), (2, yI y), (3, yI (x + 1)), (4, yI (S x y))]) hF dX11_leastSure_68 3 rfl (by decide) rfl rfl ?_
                    refine y_goto (pc := 71) hF dX11_leastSure_71 16 rfl ?_
                    refine y_sub [0, 1, 2, 3] rfl ?_
                    exact zh16 _ (by omega) (x + 1) (c2) rfl ⟨by omega, by omega, by rw [fr_up _ _ _ _ zI16.1.1, ← zI16.2.2, Int.zero_add]; unfold lsF; rw [if_neg (fun ze => by rcases ze.2 with zq | zq <;> omega)]⟩
                  · skip
                    refine y_iload (pc := 65) hF dX11_leastSure_65 4 rfl ?_
                    refine y_istore_n (pc := 67) (lv' := [(0, yR g 155), (1, yI (S x y)), (2, yI y), (3, yI x), (4, yI (S x y))]) hF dX11_leastSure_67 (by decide) rfl rfl ?_
                    refine y_iinc (pc := 68) (lv' := [(0, yR g 155), (1, yI (S x y)), (2, yI y), (3, yI (x + 1)), (4, yI (S x y))]) hF dX11_leastSure_68 3 rfl (by decide) rfl rfl ?_
                    refine y_goto (pc := 71) hF dX11_leastSure_71 16 rfl ?_
                    refine y_sub [0, 1, 2, 3] rfl ?_
                    exact zh16 _ (by omega) (x + 1) (S x y) rfl ⟨by omega, by omega, by rw [fr_up _ _ _ _ zI16.1.1, ← zI16.2.2, Int.zero_add]; unfold lsF; rw [if_pos ⟨by simpa using zc51, by omega⟩]⟩
        exact zL16 _ (0) (c) rfl ⟨by omega, zI4.2.1, rfl⟩
  exact zL4 _ (0) (-1) rfl ⟨by omega, by omega, rfl⟩

theorem dX11_xOf_0 : decode cX11_xOf 0 = .ok (.iload_n 0, 1) := by decide +kernel
theorem dX11_xOf_1 : decode cX11_xOf 1 = .ok (.iconst (-1), 1) := by decide +kernel
theorem dX11_xOf_2 : decode cX11_xOf 2 = .ok (.if_icmp .ne 7, 3) := by decide +kernel
theorem dX11_xOf_5 : decode cX11_xOf 5 = .ok (.iconst (-1), 1) := by decide +kernel
theorem dX11_xOf_6 : decode cX11_xOf 6 = .ok (.goto 7, 3) := by decide +kernel
theorem dX11_xOf_9 : decode cX11_xOf 9 = .ok (.iload_n 0, 1) := by decide +kernel
theorem dX11_xOf_10 : decode cX11_xOf 10 = .ok (.bipush 20, 2) := by decide +kernel
theorem dX11_xOf_12 : decode cX11_xOf 12 = .ok (.irem, 1) := by decide +kernel
theorem dX11_xOf_13 : decode cX11_xOf 13 = .ok (.ireturn, 1) := by decide +kernel
set_option maxHeartbeats 4000000 in
set_option maxRecDepth 100000 in
theorem tX11_xOf {l : Launch} {g : yG} {n : Nat} {σ : yM} (c : Int) (hc : c = -1 ∨ (0 ≤ c ∧ c < 2147483648)) : yMet l g yX11_xOf cX11_xOf 1 (some .int) (rmL 1) [yI c] (SC g) n σ (SC g) (yPp (mx c) n σ) := by
  refine y_start (by decide) (Nat.le_of_ble_eq_true rfl) (fun X0 hF => ?_)
  show yV X0 g 1 (yQ X0 g (SC g) (yPp (mx c) n σ) (rmL 1)) (SC g) n σ 0 0 0 [(0, yI c)] []
  refine y_iload_n (pc := 0) hF dX11_xOf_0 0 rfl ?_
  refine y_iconst (pc := 1) hF dX11_xOf_1 ?_
  refine y_icmp_ne (pc := 2) hF dX11_xOf_2 9 rfl (by omega) (by omega) (fun zc2 => ?_) (fun zc2 => ?_)
  · skip
    refine y_iload_n (pc := 9) hF dX11_xOf_9 0 rfl ?_
    refine y_bipush (pc := 10) hF dX11_xOf_10 (by decide) ?_
    refine y_irem (pc := 12) hF dX11_xOf_12 (by omega) (by omega) (by omega) ?_
    exact y_iret (pc := 13) hF dX11_xOf_13 (Nat.zero_le _) (Nat.zero_le _) ⟨_, rfl, by unfold mx; rw [if_neg (by omega), y_rem (by omega) (by omega)], rfl, rfl⟩
  · skip
    refine y_iconst (pc := 5) hF dX11_xOf_5 ?_
    refine y_goto (pc := 6) hF dX11_xOf_6 13 rfl ?_
    exact y_iret (pc := 13) hF dX11_xOf_13 (Nat.zero_le _) (Nat.zero_le _) ⟨_, rfl, by unfold mx; rw [if_pos (by omega)], rfl, rfl⟩

theorem dX11_yOf_0 : decode cX11_yOf 0 = .ok (.iload_n 0, 1) := by decide +kernel
theorem dX11_yOf_1 : decode cX11_yOf 1 = .ok (.iconst (-1), 1) := by decide +kernel
theorem dX11_yOf_2 : decode cX11_yOf 2 = .ok (.if_icmp .ne 7, 3) := by decide +kernel
theorem dX11_yOf_5 : decode cX11_yOf 5 = .ok (.iconst (-1), 1) := by decide +kernel
theorem dX11_yOf_6 : decode cX11_yOf 6 = .ok (.goto 7, 3) := by decide +kernel
theorem dX11_yOf_9 : decode cX11_yOf 9 = .ok (.iload_n 0, 1) := by decide +kernel
theorem dX11_yOf_10 : decode cX11_yOf 10 = .ok (.bipush 20, 2) := by decide +kernel
theorem dX11_yOf_12 : decode cX11_yOf 12 = .ok (.idiv, 1) := by decide +kernel
theorem dX11_yOf_13 : decode cX11_yOf 13 = .ok (.ireturn, 1) := by decide +kernel
set_option maxHeartbeats 4000000 in
set_option maxRecDepth 100000 in
theorem tX11_yOf {l : Launch} {g : yG} {n : Nat} {σ : yM} (c : Int) (hc : c = -1 ∨ (0 ≤ c ∧ c < 2147483648)) : yMet l g yX11_yOf cX11_yOf 1 (some .int) (rmL 1) [yI c] (SC g) n σ (SC g) (yPp (my c) n σ) := by
  refine y_start (by decide) (Nat.le_of_ble_eq_true rfl) (fun X0 hF => ?_)
  show yV X0 g 1 (yQ X0 g (SC g) (yPp (my c) n σ) (rmL 1)) (SC g) n σ 0 0 0 [(0, yI c)] []
  refine y_iload_n (pc := 0) hF dX11_yOf_0 0 rfl ?_
  refine y_iconst (pc := 1) hF dX11_yOf_1 ?_
  refine y_icmp_ne (pc := 2) hF dX11_yOf_2 9 rfl (by omega) (by omega) (fun zc2 => ?_) (fun zc2 => ?_)
  · skip
    refine y_iload_n (pc := 9) hF dX11_yOf_9 0 rfl ?_
    refine y_bipush (pc := 10) hF dX11_yOf_10 (by decide) ?_
    refine y_idiv (pc := 12) hF dX11_yOf_12 (by omega) (by omega) (by omega) ?_
    exact y_iret (pc := 13) hF dX11_yOf_13 (Nat.zero_le _) (Nat.zero_le _) ⟨_, rfl, by unfold my; rw [if_neg (by omega), y_quo (by omega)], rfl, rfl⟩
  · skip
    refine y_iconst (pc := 5) hF dX11_yOf_5 ?_
    refine y_goto (pc := 6) hF dX11_yOf_6 13 rfl ?_
    exact y_iret (pc := 13) hF dX11_yOf_13 (Nat.zero_le _) (Nat.zero_le _) ⟨_, rfl, by unfold my; rw [if_pos (by omega)], rfl, rfl⟩

theorem dX11_isAhead_0 : decode cX11_isAhead 0 = .ok (.iload_n 1, 1) := by decide +kernel
theorem dX11_isAhead_1 : decode cX11_isAhead 1 = .ok (.iload_n 3, 1) := by decide +kernel
theorem dX11_isAhead_2 : decode cX11_isAhead 2 = .ok (.if_icmp .gt 14, 3) := by decide +kernel
theorem dX11_isAhead_5 : decode cX11_isAhead 5 = .ok (.iload_n 1, 1) := by decide +kernel
theorem dX11_isAhead_6 : decode cX11_isAhead 6 = .ok (.iload_n 3, 1) := by decide +kernel
theorem dX11_isAhead_7 : decode cX11_isAhead 7 = .ok (.if_icmp .ne 13, 3) := by decide +kernel
theorem dX11_isAhead_10 : decode cX11_isAhead 10 = .ok (.iload_n 2, 1) := by decide +kernel
theorem dX11_isAhead_11 : decode cX11_isAhead 11 = .ok (.iload 4, 2) := by decide +kernel
theorem dX11_isAhead_13 : decode cX11_isAhead 13 = .ok (.if_icmp .ge 7, 3) := by decide +kernel
theorem dX11_isAhead_16 : decode cX11_isAhead 16 = .ok (.iconst 1, 1) := by decide +kernel
theorem dX11_isAhead_17 : decode cX11_isAhead 17 = .ok (.goto 4, 3) := by decide +kernel
theorem dX11_isAhead_20 : decode cX11_isAhead 20 = .ok (.iconst 0, 1) := by decide +kernel
theorem dX11_isAhead_21 : decode cX11_isAhead 21 = .ok (.ireturn, 1) := by decide +kernel
set_option maxHeartbeats 4000000 in
set_option maxRecDepth 100000 in
theorem tX11_isAhead {l : Launch} {g : yG} {n : Nat} {σ : yM} (a k b o_ : Int) (ha : -2147483648 ≤ a ∧ a < 2147483648) (hk : -2147483648 ≤ k ∧ k < 2147483648) (hb : -2147483648 ≤ b ∧ b < 2147483648) (ho_ : -2147483648 ≤ o_ ∧ o_ < 2147483648) : yMet l g yX11_isAhead cX11_isAhead 5 (some .boolean) (rmL 1) [yR g 155, yI a, yI k, yI b, yI o_] (SC g) n σ (SC g) (yPp (bi (decide (b < a) || (decide (a = b) && decide (k < o_)))) n σ) := by
  refine y_start (by decide) (Nat.le_of_ble_eq_true rfl) (fun X0 hF => ?_)
  show yV X0 g 5 (yQ X0 g (SC g) (yPp (bi (decide (b < a) || (decide (a = b) && decide (k < o_)))) n σ) (rmL 1)) (SC g) n σ 0 0 0 [(0, yR g 155), (1, yI a), (2, yI k), (3, yI b), (4, yI o_)] []
  refine y_iload_n (pc := 0) hF dX11_isAhead_0 1 rfl ?_
  refine y_iload_n (pc := 1) hF dX11_isAhead_1 3 rfl ?_
  refine y_icmp_gt (pc := 2) hF dX11_isAhead_2 16 rfl (by omega) (by omega) (fun zc2 => ?_) (fun zc2 => ?_)
  · skip
    refine y_iconst (pc := 16) hF dX11_isAhead_16 ?_
    refine y_goto (pc := 17) hF dX11_isAhead_17 21 rfl ?_
    exact y_zret (pc := 21) hF dX11_isAhead_21 (by decide) (Nat.zero_le _) (Nat.zero_le _) ⟨_, rfl, by rw [show (decide (b < a) || (decide (a = b) && decide (k < o_))) = true by simp only [Bool.or_eq_true, Bool.and_eq_true, decide_eq_true_eq]; omega]; rfl, rfl, rfl⟩
  · skip
    refine y_iload_n (pc := 5) hF dX11_isAhead_5 1 rfl ?_
    refine y_iload_n (pc := 6) hF dX11_isAhead_6 3 rfl ?_
    refine y_icmp_ne (pc := 7) hF dX11_isAhead_7 20 rfl (by omega) (by omega) (fun zc7 => ?_) (fun zc7 => ?_)
    · skip
      refine y_iconst (pc := 20) hF dX11_isAhead_20 ?_
      exact y_zret (pc := 21) hF dX11_isAhead_21 (by decide) (Nat.zero_le _) (Nat.zero_le _) ⟨_, rfl, by rw [show (decide (b < a) || (decide (a = b) && decide (k < o_))) = false by rw [Bool.eq_false_iff]; simp only [ne_eq, Bool.or_eq_true, Bool.and_eq_true, decide_eq_true_eq]; omega]; rfl, rfl, rfl⟩
    · skip
      refine y_iload_n (pc := 10) hF dX11_isAhead_10 2 rfl ?_
      refine y_iload (pc := 11) hF dX11_isAhead_11 4 rfl ?_
      refine y_icmp_ge (pc := 13) hF dX11_isAhead_13 20 rfl (by omega) (by omega) (fun zc13 => ?_) (fun zc13 => ?_)
      · skip
        refine y_iconst (pc := 20) hF dX11_isAhead_20 ?_
        exact y_zret (pc := 21) hF dX11_isAhead_21 (by decide) (Nat.zero_le _) (Nat.zero_le _) ⟨_, rfl, by rw [show (decide (b < a) || (decide (a = b) && decide (k < o_))) = false by rw [Bool.eq_false_iff]; simp only [ne_eq, Bool.or_eq_true, Bool.and_eq_true, decide_eq_true_eq]; omega]; rfl, rfl, rfl⟩
      · skip
        refine y_iconst (pc := 16) hF dX11_isAhead_16 ?_
        refine y_goto (pc := 17) hF dX11_isAhead_17 21 rfl ?_
        exact y_zret (pc := 21) hF dX11_isAhead_21 (by decide) (Nat.zero_le _) (Nat.zero_le _) ⟨_, rfl, by rw [show (decide (b < a) || (decide (a = b) && decide (k < o_))) = true by simp only [Bool.or_eq_true, Bool.and_eq_true, decide_eq_true_eq]; omega]; rfl, rfl, rfl⟩

theorem dX11_joint_0 : decode cX11_joint 0 = .ok (.aload_n 0, 1) := by decide +kernel
theorem dX11_joint_1 : decode cX11_joint 1 = .ok (.iconst 0, 1) := by decide +kernel
theorem dX11_joint_2 : decode cX11_joint 2 = .ok (.iload_n 1, 1) := by decide +kernel
theorem dX11_joint_3 : decode cX11_joint 3 = .ok (.iload_n 2, 1) := by decide +kernel
theorem dX11_joint_4 : decode cX11_joint 4 = .ok (.invokevirtual 78, 3) := by decide +kernel
theorem dX11_joint_7 : decode cX11_joint 7 = .ok (.ifCond .eq 32, 3) := by decide +kernel
theorem dX11_joint_10 : decode cX11_joint 10 = .ok (.aload_n 0, 1) := by decide +kernel
theorem dX11_joint_11 : decode cX11_joint 11 = .ok (.iconst 0, 1) := by decide +kernel
theorem dX11_joint_12 : decode cX11_joint 12 = .ok (.iload_n 3, 1) := by decide +kernel
theorem dX11_joint_13 : decode cX11_joint 13 = .ok (.iload 4, 2) := by decide +kernel
theorem dX11_joint_15 : decode cX11_joint 15 = .ok (.invokevirtual 78, 3) := by decide +kernel
theorem dX11_joint_18 : decode cX11_joint 18 = .ok (.ifCond .eq 21, 3) := by decide +kernel
theorem dX11_joint_21 : decode cX11_joint 21 = .ok (.aload_n 0, 1) := by decide +kernel
theorem dX11_joint_22 : decode cX11_joint 22 = .ok (.iconst 0, 1) := by decide +kernel
theorem dX11_joint_23 : decode cX11_joint 23 = .ok (.iload_n 1, 1) := by decide +kernel
theorem dX11_joint_24 : decode cX11_joint 24 = .ok (.iload_n 2, 1) := by decide +kernel
theorem dX11_joint_25 : decode cX11_joint 25 = .ok (.invokevirtual 127, 3) := by decide +kernel
theorem dX11_joint_28 : decode cX11_joint 28 = .ok (.aload_n 0, 1) := by decide +kernel
theorem dX11_joint_29 : decode cX11_joint 29 = .ok (.iconst 0, 1) := by decide +kernel
theorem dX11_joint_30 : decode cX11_joint 30 = .ok (.iload_n 3, 1) := by decide +kernel
theorem dX11_joint_31 : decode cX11_joint 31 = .ok (.iload 4, 2) := by decide +kernel
theorem dX11_joint_33 : decode cX11_joint 33 = .ok (.invokevirtual 127, 3) := by decide +kernel
theorem dX11_joint_36 : decode cX11_joint 36 = .ok (.if_icmp .ne 4, 3) := by decide +kernel
theorem dX11_joint_39 : decode cX11_joint 39 = .ok (.return_, 1) := by decide +kernel
theorem dX11_joint_40 : decode cX11_joint 40 = .ok (.aload_n 0, 1) := by decide +kernel
theorem dX11_joint_41 : decode cX11_joint 41 = .ok (.iconst 0, 1) := by decide +kernel
theorem dX11_joint_42 : decode cX11_joint 42 = .ok (.iload_n 1, 1) := by decide +kernel
theorem dX11_joint_43 : decode cX11_joint 43 = .ok (.iload_n 2, 1) := by decide +kernel
theorem dX11_joint_44 : decode cX11_joint 44 = .ok (.invokevirtual 87, 3) := by decide +kernel
theorem dX11_joint_47 : decode cX11_joint 47 = .ok (.aload_n 0, 1) := by decide +kernel
theorem dX11_joint_48 : decode cX11_joint 48 = .ok (.iconst 0, 1) := by decide +kernel
theorem dX11_joint_49 : decode cX11_joint 49 = .ok (.iload_n 3, 1) := by decide +kernel
theorem dX11_joint_50 : decode cX11_joint 50 = .ok (.iload 4, 2) := by decide +kernel
theorem dX11_joint_52 : decode cX11_joint 52 = .ok (.invokevirtual 87, 3) := by decide +kernel
theorem dX11_joint_55 : decode cX11_joint 55 = .ok (.isub, 1) := by decide +kernel
theorem dX11_joint_56 : decode cX11_joint 56 = .ok (.invokestatic 91, 3) := by decide +kernel
theorem dX11_joint_59 : decode cX11_joint 59 = .ok (.istore 5, 2) := by decide +kernel
theorem dX11_joint_61 : decode cX11_joint 61 = .ok (.aload_n 0, 1) := by decide +kernel
theorem dX11_joint_62 : decode cX11_joint 62 = .ok (.dup, 1) := by decide +kernel
theorem dX11_joint_63 : decode cX11_joint 63 = .ok (.getfield 364, 3) := by decide +kernel
theorem dX11_joint_66 : decode cX11_joint 66 = .ok (.iload 5, 2) := by decide +kernel
theorem dX11_joint_68 : decode cX11_joint 68 = .ok (.iadd, 1) := by decide +kernel
theorem dX11_joint_69 : decode cX11_joint 69 = .ok (.putfield 364, 3) := by decide +kernel
theorem dX11_joint_72 : decode cX11_joint 72 = .ok (.aload_n 0, 1) := by decide +kernel
theorem dX11_joint_73 : decode cX11_joint 73 = .ok (.dup, 1) := by decide +kernel
theorem dX11_joint_74 : decode cX11_joint 74 = .ok (.getfield 367, 3) := by decide +kernel
theorem dX11_joint_77 : decode cX11_joint 77 = .ok (.iconst 1, 1) := by decide +kernel
theorem dX11_joint_78 : decode cX11_joint 78 = .ok (.iadd, 1) := by decide +kernel
theorem dX11_joint_79 : decode cX11_joint 79 = .ok (.putfield 367, 3) := by decide +kernel
theorem dX11_joint_82 : decode cX11_joint 82 = .ok (.aload_n 0, 1) := by decide +kernel
theorem dX11_joint_83 : decode cX11_joint 83 = .ok (.aload_n 0, 1) := by decide +kernel
theorem dX11_joint_84 : decode cX11_joint 84 = .ok (.getfield 370, 3) := by decide +kernel
theorem dX11_joint_87 : decode cX11_joint 87 = .ok (.iload 5, 2) := by decide +kernel
theorem dX11_joint_89 : decode cX11_joint 89 = .ok (.invokestatic 219, 3) := by decide +kernel
theorem dX11_joint_92 : decode cX11_joint 92 = .ok (.putfield 370, 3) := by decide +kernel
theorem dX11_joint_95 : decode cX11_joint 95 = .ok (.return_, 1) := by decide +kernel
set_option maxHeartbeats 4000000 in
set_option maxRecDepth 100000 in
theorem tX11_joint {l : Launch} {g : yG} {n : Nat} {σ : yM} (w h : Int) (T S F P O : Int → Int → Int) (hn : 172 ≤ n) (hA : rM σ 0 w h T S F P O) (x y i j : Int) (hx : -1000 ≤ x ∧ x ≤ 1000) (hy : -1000 ≤ y ∧ y ≤ 1000) (hi : -1000 ≤ i ∧ i ≤ 1000) (hj : -1000 ≤ j ∧ j ≤ 1000) (a1 a2 a3 : Int) (h41 : σ 155 41 = a1) (h42 : σ 155 42 = a2) (h43 : σ 155 43 = a3) (ha3 : 0 ≤ a3 ∧ a3 ≤ 1000) : yMet l g yX11_joint cX11_joint 6 none (rmL 4) [yR g 155, yI x, yI y, yI i, yI j] (SC g) n σ (SC g) (yPv (fun n' σ' => n' = n ∧ fk 155 41 43 σ σ' ∧ (σ' 155 41, σ' 155 42, σ' 155 43) = jtF w h T F (a1, a2, a3) x y i j)) := by
  obtain ⟨hw1, hw2, hw3, hw4⟩ := id hA.1.1
  refine y_start (by decide) (Nat.le_of_ble_eq_true rfl) (fun X0 hF => ?_)
  show yV X0 g 6 (yQ X0 g (SC g) (yPv (fun n' σ' => n' = n ∧ fk 155 41 43 σ σ' ∧ (σ' 155 41, σ' 155 42, σ' 155 43) = jtF w h T F (a1, a2, a3) x y i j)) (rmL 4)) (SC g) n σ 0 0 0 [(0, yR g 155), (1, yI x), (2, yI y), (3, yI i), (4, yI j)] []
  refine y_aload_n (pc := 0) hF dX11_joint_0 0 rfl ?_
  refine y_iconst (pc := 1) hF dX11_joint_1 ?_
  refine y_iload_n (pc := 2) hF dX11_joint_2 1 rfl ?_
  refine y_iload_n (pc := 3) hF dX11_joint_3 2 rfl ?_
  have zz4 := y_rV (pc := 4) hF (tX11_isKnown (n := n) (σ := σ) 0 w h T S F P O hn (by omega) hA x y (by omega) (by omega)) dX11_joint_4 (by omega) rfl rfl rfl w_1440 qX11_isKnown rfl ⟨Nat.le_of_ble_eq_true rfl, Nat.le_of_ble_eq_true rfl⟩ ⟨Nat.zero_le _, Nat.zero_le _⟩ (Nat.le_of_ble_eq_true rfl) rfl (rest := []) (cells := 0) (slots := 0) (lv := [(0, yR g 155), (1, yI x), (2, yI y), (3, yI i), (4, yI j)])
  refine y_cp (zz4) ?_
  refine y_if_eq (pc := 7) hF dX11_joint_7 39 rfl bi_r (fun zc7 => ?_) (fun zc7 => ?_)
  · replace zc7 := bi_0.mp zc7
    exact y_vret (pc := 39) hF dX11_joint_39 (Nat.zero_le _) (Nat.zero_le _) ⟨rfl, rfl, fk.rf σ, by rw [h41, h42, h43]; unfold jtF; rw [if_neg (fun ze => by have := ze.1; rw [zc7] at this; cases this)]⟩
  · replace zc7 := bi_n0.mp zc7
    refine y_aload_n (pc := 10) hF dX11_joint_10 0 rfl ?_
    refine y_iconst (pc := 11) hF dX11_joint_11 ?_
    refine y_iload_n (pc := 12) hF dX11_joint_12 3 rfl ?_
    refine y_iload (pc := 13) hF dX11_joint_13 4 rfl ?_
    have zz15 := y_rV (pc := 15) hF (tX11_isKnown (n := n) (σ := σ) 0 w h T S F P O hn (by omega) hA i j (by omega) (by omega)) dX11_joint_15 (by omega) rfl rfl rfl w_1440 qX11_isKnown rfl ⟨Nat.le_of_ble_eq_true rfl, Nat.le_of_ble_eq_true rfl⟩ ⟨Nat.zero_le _, Nat.zero_le _⟩ (Nat.le_of_ble_eq_true rfl) rfl (rest := []) (cells := 0) (slots := 0) (lv := [(0, yR g 155), (1, yI x), (2, yI y), (3, yI i), (4, yI j)])
    refine y_cp (zz15) ?_
    refine y_if_eq (pc := 18) hF dX11_joint_18 39 rfl bi_r (fun zc18 => ?_) (fun zc18 => ?_)
    · replace zc18 := bi_0.mp zc18
      exact y_vret (pc := 39) hF dX11_joint_39 (Nat.zero_le _) (Nat.zero_le _) ⟨rfl, rfl, fk.rf σ, by rw [h41, h42, h43]; unfold jtF; rw [if_neg (fun ze => by have := ze.2.1; rw [zc18] at this; cases this)]⟩
    · replace zc18 := bi_n0.mp zc18
      refine y_aload_n (pc := 21) hF dX11_joint_21 0 rfl ?_
      refine y_iconst (pc := 22) hF dX11_joint_22 ?_
      refine y_iload_n (pc := 23) hF dX11_joint_23 1 rfl ?_
      refine y_iload_n (pc := 24) hF dX11_joint_24 2 rfl ?_
      have zz25 := y_rV (pc := 25) hF (tX11_isFilled (n := n) (σ := σ) 0 w h T S F P O hn (by omega) hA x y (sKn_in zc7)) dX11_joint_25 (by omega) rfl rfl rfl w_1545 qX11_isFilled rfl ⟨Nat.le_of_ble_eq_true rfl, Nat.le_of_ble_eq_true rfl⟩ ⟨Nat.zero_le _, Nat.zero_le _⟩ (Nat.le_of_ble_eq_true rfl) rfl (rest := []) (cells := 0) (slots := 0) (lv := [(0, yR g 155), (1, yI x), (2, yI y), (3, yI i), (4, yI j)])
      refine y_cp (zz25) ?_
      refine y_aload_n (pc := 28) hF dX11_joint_28 0 rfl ?_
      refine y_iconst (pc := 29) hF dX11_joint_29 ?_
      refine y_iload_n (pc := 30) hF dX11_joint_30 3 rfl ?_
      refine y_iload (pc := 31) hF dX11_joint_31 4 rfl ?_
      have zz33 := y_rV (pc := 33) hF (tX11_isFilled (n := n) (σ := σ) 0 w h T S F P O hn (by omega) hA i j (sKn_in zc18)) dX11_joint_33 (by omega) rfl rfl rfl w_1545 qX11_isFilled rfl ⟨Nat.le_of_ble_eq_true rfl, Nat.le_of_ble_eq_true rfl⟩ ⟨Nat.zero_le _, Nat.zero_le _⟩ (Nat.le_of_ble_eq_true rfl) rfl (rest := [yI (bi (decide (0 < F x y)))]) (cells := 0) (slots := 0) (lv := [(0, yR g 155), (1, yI x), (2, yI y), (3, yI i), (4, yI j)])
      refine y_cp (zz33) ?_
      refine y_icmp_ne (pc := 36) hF dX11_joint_36 40 rfl bi_r bi_r (fun zc36 => ?_) (fun zc36 => ?_)
      · skip
        have zt1 := sKn_T hA.1 zc7
        have zt2 := sKn_T hA.1 zc18
        have zne : decide (0 < F x y) ≠ decide (0 < F i j) := fun ze => zc36 (by rw [ze])
        refine y_aload_n (pc := 40) hF dX11_joint_40 0 rfl ?_
        refine y_iconst (pc := 41) hF dX11_joint_41 ?_
        refine y_iload_n (pc := 42) hF dX11_joint_42 1 rfl ?_
        refine y_iload_n (pc := 43) hF dX11_joint_43 2 rfl ?_
        have zz44 := y_rV (pc := 44) hF (tX11_toneOf (n := n) (σ := σ) 0 w h T S F P O hn (by omega) hA x y (sKn_in zc7)) dX11_joint_44 (by omega) rfl rfl rfl w_1472 qX11_toneOf rfl ⟨Nat.le_of_ble_eq_true rfl, Nat.le_of_ble_eq_true rfl⟩ ⟨Nat.zero_le _, Nat.zero_le _⟩ (Nat.le_of_ble_eq_true rfl) rfl (rest := []) (cells := 0) (slots := 0) (lv := [(0, yR g 155), (1, yI x), (2, yI y), (3, yI i), (4, yI j)])
        refine y_cp (zz44) ?_
        refine y_aload_n (pc := 47) hF dX11_joint_47 0 rfl ?_
        refine y_iconst (pc := 48) hF dX11_joint_48 ?_
        refine y_iload_n (pc := 49) hF dX11_joint_49 3 rfl ?_
        refine y_iload (pc := 50) hF dX11_joint_50 4 rfl ?_
        have zz52 := y_rV (pc := 52) hF (tX11_toneOf (n := n) (σ := σ) 0 w h T S F P O hn (by omega) hA i j (sKn_in zc18)) dX11_joint_52 (by omega) rfl rfl rfl w_1472 qX11_toneOf rfl ⟨Nat.le_of_ble_eq_true rfl, Nat.le_of_ble_eq_true rfl⟩ ⟨Nat.zero_le _, Nat.zero_le _⟩ (Nat.le_of_ble_eq_true rfl) rfl (rest := [yI (T x y)]) (cells := 0) (slots := 0) (lv := [(0, yR g 155), (1, yI x), (2, yI y), (3, yI i), (4, yI j)])
        refine y_cp (zz52) ?_
        refine y_isub (pc := 55) hF dX11_joint_55 ?_
        refine y_mabs (pc := 56) hF dX11_joint_56 w_1524 w_883 w_103 w_884 (Nat.le_of_ble_eq_true rfl) (Nat.le_of_ble_eq_true rfl) ⟨Nat.zero_le _, Nat.zero_le _⟩ (by omega) ?_
        refine y_istore (pc := 59) (lv' := [(0, yR g 155), (1, yI x), (2, yI y), (3, yI i), (4, yI j), (5, yI (Int.natAbs ((T x y) - (T i j)) : Int))]) hF dX11_joint_59 (by decide) rfl rfl ?_
        refine y_aload_n (pc := 61) hF dX11_joint_61 0 rfl ?_
        refine y_dup (pc := 62) hF dX11_joint_62 rfl ?_
        refine y_get (pc := 63) (ci := 11) hF dX11_joint_63 (by omega) rfl rfl rfl iX11 41 (by decide) w_1288 rfl ?_
        rw [show σ 155 41 = a1 from h41]
        refine y_iload (pc := 66) hF dX11_joint_66 5 rfl ?_
        refine y_iadd (pc := 68) hF dX11_joint_68 ?_
        refine y_putf (pc := 69) (ci := 11) (σ' := yset σ 155 41 (a1 + (Int.natAbs ((T x y) - (T i j)) : Int))) (sch' := (SC g)) hF dX11_joint_69 (by omega) rfl rfl rfl iX11 41 (by decide) w_1288 tyX11 tyX11_ok nmX11 rfl rfl rfl rfl (Nat.le_of_ble_eq_true rfl) rfl (y_ps rfl) (fun k' h => ⟨yset_n h, rfl⟩) ?_
        refine y_aload_n (pc := 72) hF dX11_joint_72 0 rfl ?_
        refine y_dup (pc := 73) hF dX11_joint_73 rfl ?_
        refine y_get (pc := 74) (ci := 11) hF dX11_joint_74 (by omega) rfl rfl rfl iX11 42 (by decide) w_1289 rfl ?_
        rw [show (yset σ 155 41 (a1 + (Int.natAbs ((T x y) - (T i j)) : Int))) 155 42 = a2 from (by rw [yset_o (by omega)]; exact h42)]
        refine y_iconst (pc := 77) hF dX11_joint_77 ?_
        refine y_iadd (pc := 78) hF dX11_joint_78 ?_
        refine y_putf (pc := 79) (ci := 11) (σ' := yset (yset σ 155 41 (a1 + (Int.natAbs ((T x y) - (T i j)) : Int))) 155 42 (a2 + 1)) (sch' := (SC g)) hF dX11_joint_79 (by omega) rfl rfl rfl iX11 42 (by decide) w_1289 tyX11 tyX11_ok nmX11 rfl rfl rfl rfl (Nat.le_of_ble_eq_true rfl) rfl (y_ps rfl) (fun k' h => ⟨yset_n h, rfl⟩) ?_
        refine y_aload_n (pc := 82) hF dX11_joint_82 0 rfl ?_
        refine y_aload_n (pc := 83) hF dX11_joint_83 0 rfl ?_
        refine y_get (pc := 84) (ci := 11) hF dX11_joint_84 (by omega) rfl rfl rfl iX11 43 (by decide) w_1290 rfl ?_
        rw [show (yset (yset σ 155 41 (a1 + (Int.natAbs ((T x y) - (T i j)) : Int))) 155 42 (a2 + 1)) 155 43 = a3 from (by rw [yset_o (by omega), yset_o (by omega)]; exact h43)]
        refine y_iload (pc := 87) hF dX11_joint_87 5 rfl ?_
        refine y_mmax (pc := 89) hF dX11_joint_89 w_1588 w_876 w_103 w_877 (Nat.le_of_ble_eq_true rfl) (Nat.le_of_ble_eq_true rfl) ⟨Nat.zero_le _, Nat.zero_le _⟩ (by omega) (by omega) ?_
        refine y_putf (pc := 92) (ci := 11) (σ' := yset (yset (yset σ 155 41 (a1 + (Int.natAbs ((T x y) - (T i j)) : Int))) 155 42 (a2 + 1)) 155 43 (max a3 (Int.natAbs ((T x y) - (T i j)) : Int))) (sch' := (SC g)) hF dX11_joint_92 (by omega) rfl rfl rfl iX11 43 (by decide) w_1290 tyX11 tyX11_ok nmX11 rfl rfl rfl rfl (Nat.le_of_ble_eq_true rfl) rfl (y_ps rfl) (fun k' h => ⟨yset_n h, rfl⟩) ?_
        exact y_vret (pc := 95) hF dX11_joint_95 (Nat.zero_le _) (Nat.zero_le _) ⟨rfl, rfl, (((fk.rf σ).st (by omega)).st (by omega)).st (by omega), by unfold jtF; rw [if_pos ⟨zc7, zc18, zne⟩, yset_e, yset_o (by omega), yset_o (by omega), yset_e, yset_o (by omega), yset_e]⟩
      · skip
        exact y_vret (pc := 39) hF dX11_joint_39 (Nat.zero_le _) (Nat.zero_le _) ⟨rfl, rfl, fk.rf σ, by rw [h41, h42, h43]; unfold jtF; rw [if_neg (fun ze => ze.2.2 (bi_inj zc36))]⟩

theorem dX11_laysAside_0 : decode cX11_laysAside 0 = .ok (.iconst 0, 1) := by decide +kernel
theorem dX11_laysAside_1 : decode cX11_laysAside 1 = .ok (.istore_n 1, 1) := by decide +kernel
theorem dX11_laysAside_2 : decode cX11_laysAside 2 = .ok (.iload_n 1, 1) := by decide +kernel
theorem dX11_laysAside_3 : decode cX11_laysAside 3 = .ok (.sipush 2273, 3) := by decide +kernel
theorem dX11_laysAside_6 : decode cX11_laysAside 6 = .ok (.if_icmp .ge 23, 3) := by decide +kernel
theorem dX11_laysAside_9 : decode cX11_laysAside 9 = .ok (.aload_n 0, 1) := by decide +kernel
theorem dX11_laysAside_10 : decode cX11_laysAside 10 = .ok (.getfield 28, 3) := by decide +kernel
theorem dX11_laysAside_13 : decode cX11_laysAside 13 = .ok (.iload_n 1, 1) := by decide +kernel
theorem dX11_laysAside_14 : decode cX11_laysAside 14 = .ok (.aload_n 0, 1) := by decide +kernel
theorem dX11_laysAside_15 : decode cX11_laysAside 15 = .ok (.getfield 19, 3) := by decide +kernel
theorem dX11_laysAside_18 : decode cX11_laysAside 18 = .ok (.iconst 0, 1) := by decide +kernel
theorem dX11_laysAside_19 : decode cX11_laysAside 19 = .ok (.aaload, 1) := by decide +kernel
theorem dX11_laysAside_20 : decode cX11_laysAside 20 = .ok (.iload_n 1, 1) := by decide +kernel
theorem dX11_laysAside_21 : decode cX11_laysAside 21 = .ok (.iaload, 1) := by decide +kernel
theorem dX11_laysAside_22 : decode cX11_laysAside 22 = .ok (.iastore, 1) := by decide +kernel
theorem dX11_laysAside_23 : decode cX11_laysAside 23 = .ok (.iinc 1 1, 3) := by decide +kernel
theorem dX11_laysAside_26 : decode cX11_laysAside 26 = .ok (.goto (-24), 3) := by decide +kernel
theorem dX11_laysAside_29 : decode cX11_laysAside 29 = .ok (.return_, 1) := by decide +kernel
set_option maxHeartbeats 4000000 in
set_option maxRecDepth 100000 in
theorem tX11_laysAside {l : Launch} {g : yG} {n : Nat} {σ : yM} (hn : 172 ≤ n) : yMet l g yX11_laysAside cX11_laysAside 2 none (rmL 1) [yR g 155] (SC g) n σ (SC g) (yPv (fun n' σ' => n' = n ∧ fc 163 163 σ σ' ∧ ∀ j : Int, 0 ≤ j → j < 2273 → σ' 163 j = σ 158 j)) := by
  refine y_start (by decide) (Nat.le_of_ble_eq_true rfl) (fun X0 hF => ?_)
  show yV X0 g 2 (yQ X0 g (SC g) (yPv (fun n' σ' => n' = n ∧ fc 163 163 σ σ' ∧ ∀ j : Int, 0 ≤ j → j < 2273 → σ' 163 j = σ 158 j)) (rmL 1)) (SC g) n σ 0 0 0 [(0, yR g 155)] []
  refine y_iconst (pc := 0) hF dX11_laysAside_0 ?_
  refine y_istore_n (pc := 1) (lv' := [(0, yR g 155), (1, yI 0)]) hF dX11_laysAside_1 (by decide) rfl rfl ?_
  have zL2 : ∀ (N : Nat) (τ : yM) (i : Int), N = (2273 - i).toNat → (fc 163 163 σ τ ∧ (0 ≤ i ∧ i ≤ 2273) ∧ ∀ j : Int, 0 ≤ j → j < i → τ 163 j = σ 158 j) → yV X0 g 2 (yQ X0 g (SC g) (yPv (fun n' σ' => n' = n ∧ fc 163 163 σ σ' ∧ ∀ j : Int, 0 ≤ j → j < 2273 → σ' 163 j = σ 158 j)) (rmL 1)) (SC g) n τ 0 0 2 [(0, yR g 155), (1, yI i)] [] := by
    intro N
    induction N using Nat.strongRecOn with
    | ind N zh2 =>
      intro τ  i  zN2 zI2
      refine y_iload_n (pc := 2) hF dX11_laysAside_2 1 rfl ?_
      refine y_sipush (pc := 3) hF dX11_laysAside_3 (by decide) ?_
      refine y_icmp_ge (pc := 6) hF dX11_laysAside_6 29 rfl (by omega) (by omega) (fun zc6 => ?_) (fun zc6 => ?_)
      · skip
        exact y_vret (pc := 29) hF dX11_laysAside_29 (Nat.zero_le _) (Nat.zero_le _) ⟨rfl, rfl, zI2.1, fun j h0 h1 => zI2.2.2 j h0 (by omega)⟩
      · skip
        refine y_aload_n (pc := 9) hF dX11_laysAside_9 0 rfl ?_
        refine y_get (pc := 10) (ci := 11) hF dX11_laysAside_10 (by omega) rfl rfl rfl iX11 5 (by decide) w_1252 rfl ?_
        refine y_iload_n (pc := 13) hF dX11_laysAside_13 1 rfl ?_
        refine y_aload_n (pc := 14) hF dX11_laysAside_14 0 rfl ?_
        refine y_get (pc := 15) (ci := 11) hF dX11_laysAside_15 (by omega) rfl rfl rfl iX11 2 (by decide) w_1249 rfl ?_
        refine y_iconst (pc := 18) hF dX11_laysAside_18 ?_
        refine y_aaM0 (pc := 19) hF dX11_laysAside_19 hn rfl ?_
        refine y_iload_n (pc := 20) hF dX11_laysAside_20 1 rfl ?_
        refine y_iaload (pc := 21) hF dX11_laysAside_21 (by omega) rfl (by omega) (by decide) ?_
        refine y_iastore (pc := 22) hF dX11_laysAside_22 (by omega) rfl (by omega) (by decide) ?_
        refine y_iinc (pc := 23) (lv' := [(0, yR g 155), (1, yI (i + 1))]) hF dX11_laysAside_23 1 rfl (by decide) rfl rfl ?_
        refine y_goto (pc := 26) hF dX11_laysAside_26 2 rfl ?_
        exact zh2 _ (by omega) (yset τ 163 i (τ 158 i)) (i + 1) rfl ⟨zI2.1.st (by omega), by omega, fun j h0 h1 => by { rcases Decidable.em (j = i) with e | e; (rw [e, yset_e, zI2.1 158 (by omega)]); (rw [yset_o (by omega)]; exact zI2.2.2 j h0 (by omega)) }⟩
  exact zL2 _ σ (0) rfl ⟨fc.rf σ, by omega, fun j a b => by omega⟩

theorem dX11_laysBack_0 : decode cX11_laysBack 0 = .ok (.iconst 0, 1) := by decide +kernel
theorem dX11_laysBack_1 : decode cX11_laysBack 1 = .ok (.istore_n 1, 1) := by decide +kernel
theorem dX11_laysBack_2 : decode cX11_laysBack 2 = .ok (.iload_n 1, 1) := by decide +kernel
theorem dX11_laysBack_3 : decode cX11_laysBack 3 = .ok (.sipush 2273, 3) := by decide +kernel
theorem dX11_laysBack_6 : decode cX11_laysBack 6 = .ok (.if_icmp .ge 23, 3) := by decide +kernel
theorem dX11_laysBack_9 : decode cX11_laysBack 9 = .ok (.aload_n 0, 1) := by decide +kernel
theorem dX11_laysBack_10 : decode cX11_laysBack 10 = .ok (.getfield 19, 3) := by decide +kernel
theorem dX11_laysBack_13 : decode cX11_laysBack 13 = .ok (.iconst 0, 1) := by decide +kernel
theorem dX11_laysBack_14 : decode cX11_laysBack 14 = .ok (.aaload, 1) := by decide +kernel
theorem dX11_laysBack_15 : decode cX11_laysBack 15 = .ok (.iload_n 1, 1) := by decide +kernel
theorem dX11_laysBack_16 : decode cX11_laysBack 16 = .ok (.aload_n 0, 1) := by decide +kernel
theorem dX11_laysBack_17 : decode cX11_laysBack 17 = .ok (.getfield 28, 3) := by decide +kernel
theorem dX11_laysBack_20 : decode cX11_laysBack 20 = .ok (.iload_n 1, 1) := by decide +kernel
theorem dX11_laysBack_21 : decode cX11_laysBack 21 = .ok (.iaload, 1) := by decide +kernel
theorem dX11_laysBack_22 : decode cX11_laysBack 22 = .ok (.iastore, 1) := by decide +kernel
theorem dX11_laysBack_23 : decode cX11_laysBack 23 = .ok (.iinc 1 1, 3) := by decide +kernel
theorem dX11_laysBack_26 : decode cX11_laysBack 26 = .ok (.goto (-24), 3) := by decide +kernel
theorem dX11_laysBack_29 : decode cX11_laysBack 29 = .ok (.return_, 1) := by decide +kernel
set_option maxHeartbeats 4000000 in
set_option maxRecDepth 100000 in
theorem tX11_laysBack {l : Launch} {g : yG} {n : Nat} {σ : yM} (hn : 172 ≤ n) : yMet l g yX11_laysBack cX11_laysBack 2 none (rmL 1) [yR g 155] (SC g) n σ (SC g) (yPv (fun n' σ' => n' = n ∧ fc 158 158 σ σ' ∧ ∀ j : Int, 0 ≤ j → j < 2273 → σ' 158 j = σ 163 j)) := by
  refine y_start (by decide) (Nat.le_of_ble_eq_true rfl) (fun X0 hF => ?_)
  show yV X0 g 2 (yQ X0 g (SC g) (yPv (fun n' σ' => n' = n ∧ fc 158 158 σ σ' ∧ ∀ j : Int, 0 ≤ j → j < 2273 → σ' 158 j = σ 163 j)) (rmL 1)) (SC g) n σ 0 0 0 [(0, yR g 155)] []
  refine y_iconst (pc := 0) hF dX11_laysBack_0 ?_
  refine y_istore_n (pc := 1) (lv' := [(0, yR g 155), (1, yI 0)]) hF dX11_laysBack_1 (by decide) rfl rfl ?_
  have zL2 : ∀ (N : Nat) (τ : yM) (i : Int), N = (2273 - i).toNat → (fc 158 158 σ τ ∧ (0 ≤ i ∧ i ≤ 2273) ∧ ∀ j : Int, 0 ≤ j → j < i → τ 158 j = σ 163 j) → yV X0 g 2 (yQ X0 g (SC g) (yPv (fun n' σ' => n' = n ∧ fc 158 158 σ σ' ∧ ∀ j : Int, 0 ≤ j → j < 2273 → σ' 158 j = σ 163 j)) (rmL 1)) (SC g) n τ 0 0 2 [(0, yR g 155), (1, yI i)] [] := by
    intro N
    induction N using Nat.strongRecOn with
    | ind N zh2 =>
      intro τ  i  zN2 zI2
      refine y_iload_n (pc := 2) hF dX11_laysBack_2 1 rfl ?_
      refine y_sipush (pc := 3) hF dX11_laysBack_3 (by decide) ?_
      refine y_icmp_ge (pc := 6) hF dX11_laysBack_6 29 rfl (by omega) (by omega) (fun zc6 => ?_) (fun zc6 => ?_)
      · skip
        exact y_vret (pc := 29) hF dX11_laysBack_29 (Nat.zero_le _) (Nat.zero_le _) ⟨rfl, rfl, zI2.1, fun j h0 h1 => zI2.2.2 j h0 (by omega)⟩
      · skip
        refine y_aload_n (pc := 9) hF dX11_laysBack_9 0 rfl ?_
        refine y_get (pc := 10) (ci := 11) hF dX11_laysBack_10 (by omega) rfl rfl rfl iX11 2 (by decide) w_1249 rfl ?_
        refine y_iconst (pc := 13) hF dX11_laysBack_13 ?_
        refine y_aaM0 (pc := 14) hF dX11_laysBack_14 hn rfl ?_
        refine y_iload_n (pc := 15) hF dX11_laysBack_15 1 rfl ?_
        refine y_aload_n (pc := 16) hF dX11_laysBack_16 0 rfl ?_
        refine y_get (pc := 17) (ci := 11) hF dX11_laysBack_17 (by omega) rfl rfl rfl iX11 5 (by decide) w_1252 rfl ?_
        refine y_iload_n (pc := 20) hF dX11_laysBack_20 1 rfl ?_
        refine y_iaload (pc := 21) hF dX11_laysBack_21 (by omega) rfl (by omega) (by decide) ?_
        refine y_iastore (pc := 22) hF dX11_laysBack_22 (by omega) rfl (by omega) (by decide) ?_
        refine y_iinc (pc := 23) (lv' := [(0, yR g 155), (1, yI (i + 1))]) hF dX11_laysBack_23 1 rfl (by decide) rfl rfl ?_
        refine y_goto (pc := 26) hF dX11_laysBack_26 2 rfl ?_
        exact zh2 _ (by omega) (yset τ 158 i (τ 163 i)) (i + 1) rfl ⟨zI2.1.st (by omega), by omega, fun j h0 h1 => by { rcases Decidable.em (j = i) with e | e; (rw [e, yset_e, zI2.1 163 (by omega)]); (rw [yset_o (by omega)]; exact zI2.2.2 j h0 (by omega)) }⟩
  exact zL2 _ σ (0) rfl ⟨fc.rf σ, by omega, fun j a b => by omega⟩

theorem dX11_keeps_0 : decode cX11_keeps 0 = .ok (.aload_n 0, 1) := by decide +kernel
theorem dX11_keeps_1 : decode cX11_keeps 1 = .ok (.getfield 301, 3) := by decide +kernel
theorem dX11_keeps_4 : decode cX11_keeps 4 = .ok (.bipush 10, 2) := by decide +kernel
theorem dX11_keeps_6 : decode cX11_keeps 6 = .ok (.if_icmp .ne 44, 3) := by decide +kernel
theorem dX11_keeps_9 : decode cX11_keeps 9 = .ok (.iconst 0, 1) := by decide +kernel
theorem dX11_keeps_10 : decode cX11_keeps 10 = .ok (.istore_n 1, 1) := by decide +kernel
theorem dX11_keeps_11 : decode cX11_keeps 11 = .ok (.iload_n 1, 1) := by decide +kernel
theorem dX11_keeps_12 : decode cX11_keeps 12 = .ok (.sipush 20457, 3) := by decide +kernel
theorem dX11_keeps_15 : decode cX11_keeps 15 = .ok (.if_icmp .ge 25, 3) := by decide +kernel
theorem dX11_keeps_18 : decode cX11_keeps 18 = .ok (.aload_n 0, 1) := by decide +kernel
theorem dX11_keeps_19 : decode cX11_keeps 19 = .ok (.getfield 31, 3) := by decide +kernel
theorem dX11_keeps_22 : decode cX11_keeps 22 = .ok (.iload_n 1, 1) := by decide +kernel
theorem dX11_keeps_23 : decode cX11_keeps 23 = .ok (.aload_n 0, 1) := by decide +kernel
theorem dX11_keeps_24 : decode cX11_keeps 24 = .ok (.getfield 31, 3) := by decide +kernel
theorem dX11_keeps_27 : decode cX11_keeps 27 = .ok (.iload_n 1, 1) := by decide +kernel
theorem dX11_keeps_28 : decode cX11_keeps 28 = .ok (.sipush 2273, 3) := by decide +kernel
theorem dX11_keeps_31 : decode cX11_keeps 31 = .ok (.iadd, 1) := by decide +kernel
theorem dX11_keeps_32 : decode cX11_keeps 32 = .ok (.iaload, 1) := by decide +kernel
theorem dX11_keeps_33 : decode cX11_keeps 33 = .ok (.iastore, 1) := by decide +kernel
theorem dX11_keeps_34 : decode cX11_keeps 34 = .ok (.iinc 1 1, 3) := by decide +kernel
theorem dX11_keeps_37 : decode cX11_keeps 37 = .ok (.goto (-26), 3) := by decide +kernel
theorem dX11_keeps_40 : decode cX11_keeps 40 = .ok (.aload_n 0, 1) := by decide +kernel
theorem dX11_keeps_41 : decode cX11_keeps 41 = .ok (.dup, 1) := by decide +kernel
theorem dX11_keeps_42 : decode cX11_keeps 42 = .ok (.getfield 301, 3) := by decide +kernel
theorem dX11_keeps_45 : decode cX11_keeps 45 = .ok (.iconst 1, 1) := by decide +kernel
theorem dX11_keeps_46 : decode cX11_keeps 46 = .ok (.isub, 1) := by decide +kernel
theorem dX11_keeps_47 : decode cX11_keeps 47 = .ok (.putfield 301, 3) := by decide +kernel
theorem dX11_keeps_50 : decode cX11_keeps 50 = .ok (.iconst 0, 1) := by decide +kernel
theorem dX11_keeps_51 : decode cX11_keeps 51 = .ok (.istore_n 1, 1) := by decide +kernel
theorem dX11_keeps_52 : decode cX11_keeps 52 = .ok (.iload_n 1, 1) := by decide +kernel
theorem dX11_keeps_53 : decode cX11_keeps 53 = .ok (.sipush 2273, 3) := by decide +kernel
theorem dX11_keeps_56 : decode cX11_keeps 56 = .ok (.if_icmp .ge 32, 3) := by decide +kernel
theorem dX11_keeps_59 : decode cX11_keeps 59 = .ok (.aload_n 0, 1) := by decide +kernel
theorem dX11_keeps_60 : decode cX11_keeps 60 = .ok (.getfield 31, 3) := by decide +kernel
theorem dX11_keeps_63 : decode cX11_keeps 63 = .ok (.sipush 2273, 3) := by decide +kernel
theorem dX11_keeps_66 : decode cX11_keeps 66 = .ok (.aload_n 0, 1) := by decide +kernel
theorem dX11_keeps_67 : decode cX11_keeps 67 = .ok (.getfield 301, 3) := by decide +kernel
theorem dX11_keeps_70 : decode cX11_keeps 70 = .ok (.imul, 1) := by decide +kernel
theorem dX11_keeps_71 : decode cX11_keeps 71 = .ok (.iload_n 1, 1) := by decide +kernel
theorem dX11_keeps_72 : decode cX11_keeps 72 = .ok (.iadd, 1) := by decide +kernel
theorem dX11_keeps_73 : decode cX11_keeps 73 = .ok (.aload_n 0, 1) := by decide +kernel
theorem dX11_keeps_74 : decode cX11_keeps 74 = .ok (.getfield 19, 3) := by decide +kernel
theorem dX11_keeps_77 : decode cX11_keeps 77 = .ok (.iconst 0, 1) := by decide +kernel
theorem dX11_keeps_78 : decode cX11_keeps 78 = .ok (.aaload, 1) := by decide +kernel
theorem dX11_keeps_79 : decode cX11_keeps 79 = .ok (.iload_n 1, 1) := by decide +kernel
theorem dX11_keeps_80 : decode cX11_keeps 80 = .ok (.iaload, 1) := by decide +kernel
theorem dX11_keeps_81 : decode cX11_keeps 81 = .ok (.iastore, 1) := by decide +kernel
theorem dX11_keeps_82 : decode cX11_keeps 82 = .ok (.iinc 1 1, 3) := by decide +kernel
theorem dX11_keeps_85 : decode cX11_keeps 85 = .ok (.goto (-33), 3) := by decide +kernel
theorem dX11_keeps_88 : decode cX11_keeps 88 = .ok (.aload_n 0, 1) := by decide +kernel
theorem dX11_keeps_89 : decode cX11_keeps 89 = .ok (.dup, 1) := by decide +kernel
theorem dX11_keeps_90 : decode cX11_keeps 90 = .ok (.getfield 301, 3) := by decide +kernel
theorem dX11_keeps_93 : decode cX11_keeps 93 = .ok (.iconst 1, 1) := by decide +kernel
theorem dX11_keeps_94 : decode cX11_keeps 94 = .ok (.iadd, 1) := by decide +kernel
theorem dX11_keeps_95 : decode cX11_keeps 95 = .ok (.putfield 301, 3) := by decide +kernel
theorem dX11_keeps_98 : decode cX11_keeps 98 = .ok (.return_, 1) := by decide +kernel
set_option maxHeartbeats 4000000 in
set_option maxRecDepth 100000 in
theorem tX11_keeps {l : Launch} {g : yG} {n : Nat} {σ : yM} (hn : 172 ≤ n) (U : Int) (hU : σ 155 8 = U) (hUr : 0 ≤ U ∧ U ≤ 10) : yMet l g yX11_keeps cX11_keeps 2 none (rmL 1) [yR g 155] (SC g) n σ (SC g) (yPv (fun n' σ' => n' = n ∧ ((∀ (c : Nat) (j : Int), c ≠ 164 → (c ≠ 155 ∨ j ≠ 8) → σ' c j = σ c j) ∧ σ' 155 8 = min (U + 1) 10) ∧ (∀ r j : Int, 0 ≤ r → r < min (U + 1) 10 - 1 → 0 ≤ j → j < 2273 → σ' 164 (2273 * r + j) = σ 164 (2273 * (r + (if U = 10 then 1 else 0)) + j)) ∧ ∀ j : Int, 0 ≤ j → j < 2273 → σ' 164 (2273 * (min (U + 1) 10 - 1) + j) = σ 158 j)) := by
  refine y_start (by decide) (Nat.le_of_ble_eq_true rfl) (fun X0 hF => ?_)
  show yV X0 g 2 (yQ X0 g (SC g) (yPv (fun n' σ' => n' = n ∧ ((∀ (c : Nat) (j : Int), c ≠ 164 → (c ≠ 155 ∨ j ≠ 8) → σ' c j = σ c j) ∧ σ' 155 8 = min (U + 1) 10) ∧ (∀ r j : Int, 0 ≤ r → r < min (U + 1) 10 - 1 → 0 ≤ j → j < 2273 → σ' 164 (2273 * r + j) = σ 164 (2273 * (r + (if U = 10 then 1 else 0)) + j)) ∧ ∀ j : Int, 0 ≤ j → j < 2273 → σ' 164 (2273 * (min (U + 1) 10 - 1) + j) = σ 158 j)) (rmL 1)) (SC g) n σ 0 0 0 [(0, yR g 155)] []
  have zJ50 : ∀ (τ1 : yM) (V : Int), (τ1 155 8 = V ∧ V = min (U + 1) 10 - 1 ∧ (0 ≤ V ∧ V ≤ 9) ∧ (∀ (c : Nat) (j : Int), c ≠ 164 → (c ≠ 155 ∨ j ≠ 8) → τ1 c j = σ c j) ∧ (∀ r j : Int, 0 ≤ r → r < V → 0 ≤ j → j < 2273 → τ1 164 (2273 * r + j) = σ 164 (2273 * (r + (if U = 10 then 1 else 0)) + j)) ∧ True ∧ ∀ j : Int, τ1 158 j = σ 158 j) → yV X0 g 2 (yQ X0 g (SC g) (yPv (fun n' σ' => n' = n ∧ ((∀ (c : Nat) (j : Int), c ≠ 164 → (c ≠ 155 ∨ j ≠ 8) → σ' c j = σ c j) ∧ σ' 155 8 = min (U + 1) 10) ∧ (∀ r j : Int, 0 ≤ r → r < min (U + 1) 10 - 1 → 0 ≤ j → j < 2273 → σ' 164 (2273 * r + j) = σ 164 (2273 * (r + (if U = 10 then 1 else 0)) + j)) ∧ ∀ j : Int, 0 ≤ j → j < 2273 → σ' 164 (2273 * (min (U + 1) 10 - 1) + j) = σ 158 j)) (rmL 1)) (SC g) n τ1 0 0 50 [(0, yR g 155)] [] := by
    intro τ1  V  zj
    have zv := zj.2.2.1
    refine y_iconst (pc := 50) hF dX11_keeps_50 ?_
    refine y_istore_n (pc := 51) (lv' := [(0, yR g 155), (1, yI 0)]) hF dX11_keeps_51 (by decide) rfl rfl ?_
    have zL52 : ∀ (N : Nat) (υ : yM) (i : Int), N = (2273 - i).toNat → ((∀ (c : Nat), c ≠ 164 → υ c = τ1 c) ∧ (0 ≤ i ∧ i ≤ 2273) ∧ (∀ j : Int, 0 ≤ j → j < i → υ 164 (2273 * V + j) = σ 158 j) ∧ ∀ j : Int, j < 2273 * V → υ 164 j = τ1 164 j) → yV X0 g 2 (yQ X0 g (SC g) (yPv (fun n' σ' => n' = n ∧ ((∀ (c : Nat) (j : Int), c ≠ 164 → (c ≠ 155 ∨ j ≠ 8) → σ' c j = σ c j) ∧ σ' 155 8 = min (U + 1) 10) ∧ (∀ r j : Int, 0 ≤ r → r < min (U + 1) 10 - 1 → 0 ≤ j → j < 2273 → σ' 164 (2273 * r + j) = σ 164 (2273 * (r + (if U = 10 then 1 else 0)) + j)) ∧ ∀ j : Int, 0 ≤ j → j < 2273 → σ' 164 (2273 * (min (U + 1) 10 - 1) + j) = σ 158 j)) (rmL 1)) (SC g) n υ 0 0 52 [(0, yR g 155), (1, yI i)] [] := by
      intro N
      induction N using Nat.strongRecOn with
      | ind N zh52 =>
        intro υ  i  zN52 zI52
        refine y_iload_n (pc := 52) hF dX11_keeps_52 1 rfl ?_
        refine y_sipush (pc := 53) hF dX11_keeps_53 (by decide) ?_
        refine y_icmp_ge (pc := 56) hF dX11_keeps_56 88 rfl (by omega) (by omega) (fun zc56 => ?_) (fun zc56 => ?_)
        · skip
          refine y_aload_n (pc := 88) hF dX11_keeps_88 0 rfl ?_
          refine y_dup (pc := 89) hF dX11_keeps_89 rfl ?_
          refine y_get (pc := 90) (ci := 11) hF dX11_keeps_90 (by omega) rfl rfl rfl iX11 8 (by decide) w_1255 rfl ?_
          rw [show υ 155 8 = V from (by rw [zI52.1 155 (by omega)]; exact zj.1)]
          refine y_iconst (pc := 93) hF dX11_keeps_93 ?_
          refine y_iadd (pc := 94) hF dX11_keeps_94 ?_
          refine y_putf (pc := 95) (ci := 11) (σ' := yset υ 155 8 (V + 1)) (sch' := (SC g)) hF dX11_keeps_95 (by omega) rfl rfl rfl iX11 8 (by decide) w_1255 tyX11 tyX11_ok nmX11 rfl rfl rfl rfl (Nat.le_of_ble_eq_true rfl) rfl (y_ps rfl) (fun k' h => ⟨yset_n h, rfl⟩) ?_
          exact y_vret (pc := 98) hF dX11_keeps_98 (Nat.zero_le _) (Nat.zero_le _) ⟨rfl, rfl, ⟨fun c j h1 h2 => by rw [yset_o (by omega), zI52.1 c h1]; exact zj.2.2.2.1 c j h1 h2, by rw [yset_e]; omega⟩, fun r j h0 h1 h2 h3 => by rw [yset_n (by omega), zI52.2.2.2 _ (by omega)]; exact zj.2.2.2.2.1 r j h0 (by omega) h2 h3, fun j h0 h1 => by rw [yset_n (by omega), ← zj.2.1]; exact zI52.2.2.1 j h0 (by omega)⟩
        · skip
          refine y_aload_n (pc := 59) hF dX11_keeps_59 0 rfl ?_
          refine y_get (pc := 60) (ci := 11) hF dX11_keeps_60 (by omega) rfl rfl rfl iX11 6 (by decide) w_1253 rfl ?_
          refine y_sipush (pc := 63) hF dX11_keeps_63 (by decide) ?_
          refine y_aload_n (pc := 66) hF dX11_keeps_66 0 rfl ?_
          refine y_get (pc := 67) (ci := 11) hF dX11_keeps_67 (by omega) rfl rfl rfl iX11 8 (by decide) w_1255 rfl ?_
          rw [show υ 155 8 = V from (by rw [zI52.1 155 (by omega)]; exact zj.1)]
          refine y_imul (pc := 70) hF dX11_keeps_70 ?_
          refine y_iload_n (pc := 71) hF dX11_keeps_71 1 rfl ?_
          refine y_iadd (pc := 72) hF dX11_keeps_72 ?_
          refine y_aload_n (pc := 73) hF dX11_keeps_73 0 rfl ?_
          refine y_get (pc := 74) (ci := 11) hF dX11_keeps_74 (by omega) rfl rfl rfl iX11 2 (by decide) w_1249 rfl ?_
          refine y_iconst (pc := 77) hF dX11_keeps_77 ?_
          refine y_aaM0 (pc := 78) hF dX11_keeps_78 hn rfl ?_
          refine y_iload_n (pc := 79) hF dX11_keeps_79 1 rfl ?_
          refine y_iaload (pc := 80) hF dX11_keeps_80 (by omega) rfl (by omega) (by decide) ?_
          refine y_iastore (pc := 81) hF dX11_keeps_81 (by omega) rfl (by omega) (by decide) ?_
          refine y_iinc (pc := 82) (lv' := [(0, yR g 155), (1, yI (i + 1))]) hF dX11_keeps_82 1 rfl (by decide) rfl rfl ?_
          refine y_goto (pc := 85) hF dX11_keeps_85 52 rfl ?_
          exact zh52 _ (by omega) (yset υ 164 ((2273 * V) + i) (υ 158 i)) (i + 1) rfl ⟨fun c hc => by rw [yset_n hc]; exact zI52.1 c hc, by omega, fun j h0 h1 => by { rcases Decidable.em (j = i) with e | e; (rw [e, yset_e, zI52.1 158 (by omega)]; exact zj.2.2.2.2.2.2 i); (rw [yset_o (by omega)]; exact zI52.2.2.1 j h0 (by omega)) }, fun j h0 => by rw [yset_o (by omega)]; exact zI52.2.2.2 j h0⟩
    exact zL52 _ τ1 (0) rfl ⟨fun c _ => rfl, by omega, fun j a b => by omega, fun j _ => rfl⟩
  refine y_aload_n (pc := 0) hF dX11_keeps_0 0 rfl ?_
  refine y_get (pc := 1) (ci := 11) hF dX11_keeps_1 (by omega) rfl rfl rfl iX11 8 (by decide) w_1255 rfl ?_
  rw [show σ 155 8 = U from hU]
  refine y_bipush (pc := 4) hF dX11_keeps_4 (by decide) ?_
  refine y_icmp_ne (pc := 6) hF dX11_keeps_6 50 rfl (by omega) (by omega) (fun zc6 => ?_) (fun zc6 => ?_)
  · skip
    exact zJ50 σ U ⟨hU, by omega, by omega, fun _ _ _ _ => rfl, fun r j _ _ _ _ => by rw [if_neg zc6, Int.add_zero], trivial, fun _ => rfl⟩
  · skip
    refine y_iconst (pc := 9) hF dX11_keeps_9 ?_
    refine y_istore_n (pc := 10) (lv' := [(0, yR g 155), (1, yI 0)]) hF dX11_keeps_10 (by decide) rfl rfl ?_
    have zL11 : ∀ (N : Nat) (τ : yM) (i : Int), N = (20457 - i).toNat → (fc 164 164 σ τ ∧ (0 ≤ i ∧ i ≤ 20457) ∧ (∀ j : Int, 0 ≤ j → j < i → τ 164 j = σ 164 (j + 2273)) ∧ ∀ j : Int, i ≤ j → τ 164 j = σ 164 j) → yV X0 g 2 (yQ X0 g (SC g) (yPv (fun n' σ' => n' = n ∧ ((∀ (c : Nat) (j : Int), c ≠ 164 → (c ≠ 155 ∨ j ≠ 8) → σ' c j = σ c j) ∧ σ' 155 8 = min (U + 1) 10) ∧ (∀ r j : Int, 0 ≤ r → r < min (U + 1) 10 - 1 → 0 ≤ j → j < 2273 → σ' 164 (2273 * r + j) = σ 164 (2273 * (r + (if U = 10 then 1 else 0)) + j)) ∧ ∀ j : Int, 0 ≤ j → j < 2273 → σ' 164 (2273 * (min (U + 1) 10 - 1) + j) = σ 158 j)) (rmL 1)) (SC g) n τ 0 0 11 [(0, yR g 155), (1, yI i)] [] := by
      intro N
      induction N using Nat.strongRecOn with
      | ind N zh11 =>
        intro τ  i  zN11 zI11
        refine y_iload_n (pc := 11) hF dX11_keeps_11 1 rfl ?_
        refine y_sipush (pc := 12) hF dX11_keeps_12 (by decide) ?_
        refine y_icmp_ge (pc := 15) hF dX11_keeps_15 40 rfl (by omega) (by omega) (fun zc15 => ?_) (fun zc15 => ?_)
        · skip
          refine y_aload_n (pc := 40) hF dX11_keeps_40 0 rfl ?_
          refine y_dup (pc := 41) hF dX11_keeps_41 rfl ?_
          refine y_get (pc := 42) (ci := 11) hF dX11_keeps_42 (by omega) rfl rfl rfl iX11 8 (by decide) w_1255 rfl ?_
          rw [show τ 155 8 = τ 155 8 from rfl]
          refine y_iconst (pc := 45) hF dX11_keeps_45 ?_
          refine y_isub (pc := 46) hF dX11_keeps_46 ?_
          refine y_putf (pc := 47) (ci := 11) (σ' := yset τ 155 8 ((τ 155 8) - 1)) (sch' := (SC g)) hF dX11_keeps_47 (by omega) rfl rfl rfl iX11 8 (by decide) w_1255 tyX11 tyX11_ok nmX11 rfl rfl rfl rfl (Nat.le_of_ble_eq_true rfl) rfl (y_ps rfl) (fun k' h => ⟨yset_n h, rfl⟩) ?_
          refine y_sub [0] rfl ?_
          exact zJ50 (yset τ 155 8 ((τ 155 8) - 1)) 9 ⟨by rw [yset_e, zI11.1 155 (by omega), hU]; omega, by omega, by omega, fun c j h1 h2 => by rw [yset_o (by omega), zI11.1 c (by omega)], fun r j h0 h1 h2 h3 => by rw [yset_n (by omega), if_pos (by omega), zI11.2.2.1 _ (by omega) (by omega), show 2273 * r + j + 2273 = 2273 * (r + 1) + j by omega], trivial, fun j => by rw [yset_n (by omega), zI11.1 158 (by omega)]⟩
        · skip
          refine y_aload_n (pc := 18) hF dX11_keeps_18 0 rfl ?_
          refine y_get (pc := 19) (ci := 11) hF dX11_keeps_19 (by omega) rfl rfl rfl iX11 6 (by decide) w_1253 rfl ?_
          refine y_iload_n (pc := 22) hF dX11_keeps_22 1 rfl ?_
          refine y_aload_n (pc := 23) hF dX11_keeps_23 0 rfl ?_
          refine y_get (pc := 24) (ci := 11) hF dX11_keeps_24 (by omega) rfl rfl rfl iX11 6 (by decide) w_1253 rfl ?_
          refine y_iload_n (pc := 27) hF dX11_keeps_27 1 rfl ?_
          refine y_sipush (pc := 28) hF dX11_keeps_28 (by decide) ?_
          refine y_iadd (pc := 31) hF dX11_keeps_31 ?_
          refine y_iaload (pc := 32) hF dX11_keeps_32 (by omega) rfl (by omega) (by decide) ?_
          refine y_iastore (pc := 33) hF dX11_keeps_33 (by omega) rfl (by omega) (by decide) ?_
          refine y_iinc (pc := 34) (lv' := [(0, yR g 155), (1, yI (i + 1))]) hF dX11_keeps_34 1 rfl (by decide) rfl rfl ?_
          refine y_goto (pc := 37) hF dX11_keeps_37 11 rfl ?_
          exact zh11 _ (by omega) (yset τ 164 i (τ 164 (i + 2273))) (i + 1) rfl ⟨zI11.1.st (by omega), by omega, fun j h0 h1 => by { rcases Decidable.em (j = i) with e | e; (rw [e, yset_e, zI11.2.2.2 _ (by omega)]); (rw [yset_o (by omega)]; exact zI11.2.2.1 j h0 (by omega)) }, fun j h0 => by rw [yset_o (by omega)]; exact zI11.2.2.2 j (by omega)⟩
    exact zL11 _ σ (0) rfl ⟨fc.rf σ, by omega, fun j a b => by omega, fun j _ => rfl⟩

theorem dX11_keepsAside_0 : decode cX11_keepsAside 0 = .ok (.iload_n 1, 1) := by decide +kernel
theorem dX11_keepsAside_1 : decode cX11_keepsAside 1 = .ok (.ifCond .ne 5, 3) := by decide +kernel
theorem dX11_keepsAside_4 : decode cX11_keepsAside 4 = .ok (.iconst 0, 1) := by decide +kernel
theorem dX11_keepsAside_5 : decode cX11_keepsAside 5 = .ok (.ireturn, 1) := by decide +kernel
theorem dX11_keepsAside_6 : decode cX11_keepsAside 6 = .ok (.aload_n 0, 1) := by decide +kernel
theorem dX11_keepsAside_7 : decode cX11_keepsAside 7 = .ok (.invokevirtual 304, 3) := by decide +kernel
theorem dX11_keepsAside_10 : decode cX11_keepsAside 10 = .ok (.iconst 0, 1) := by decide +kernel
theorem dX11_keepsAside_11 : decode cX11_keepsAside 11 = .ok (.istore_n 2, 1) := by decide +kernel
theorem dX11_keepsAside_12 : decode cX11_keepsAside 12 = .ok (.iload_n 2, 1) := by decide +kernel
theorem dX11_keepsAside_13 : decode cX11_keepsAside 13 = .ok (.sipush 2273, 3) := by decide +kernel
theorem dX11_keepsAside_16 : decode cX11_keepsAside 16 = .ok (.if_icmp .ge 32, 3) := by decide +kernel
theorem dX11_keepsAside_19 : decode cX11_keepsAside 19 = .ok (.aload_n 0, 1) := by decide +kernel
theorem dX11_keepsAside_20 : decode cX11_keepsAside 20 = .ok (.getfield 31, 3) := by decide +kernel
theorem dX11_keepsAside_23 : decode cX11_keepsAside 23 = .ok (.sipush 2273, 3) := by decide +kernel
theorem dX11_keepsAside_26 : decode cX11_keepsAside 26 = .ok (.aload_n 0, 1) := by decide +kernel
theorem dX11_keepsAside_27 : decode cX11_keepsAside 27 = .ok (.getfield 301, 3) := by decide +kernel
theorem dX11_keepsAside_30 : decode cX11_keepsAside 30 = .ok (.iconst 1, 1) := by decide +kernel
theorem dX11_keepsAside_31 : decode cX11_keepsAside 31 = .ok (.isub, 1) := by decide +kernel
theorem dX11_keepsAside_32 : decode cX11_keepsAside 32 = .ok (.imul, 1) := by decide +kernel
theorem dX11_keepsAside_33 : decode cX11_keepsAside 33 = .ok (.iload_n 2, 1) := by decide +kernel
theorem dX11_keepsAside_34 : decode cX11_keepsAside 34 = .ok (.iadd, 1) := by decide +kernel
theorem dX11_keepsAside_35 : decode cX11_keepsAside 35 = .ok (.aload_n 0, 1) := by decide +kernel
theorem dX11_keepsAside_36 : decode cX11_keepsAside 36 = .ok (.getfield 28, 3) := by decide +kernel
theorem dX11_keepsAside_39 : decode cX11_keepsAside 39 = .ok (.iload_n 2, 1) := by decide +kernel
theorem dX11_keepsAside_40 : decode cX11_keepsAside 40 = .ok (.iaload, 1) := by decide +kernel
theorem dX11_keepsAside_41 : decode cX11_keepsAside 41 = .ok (.iastore, 1) := by decide +kernel
theorem dX11_keepsAside_42 : decode cX11_keepsAside 42 = .ok (.iinc 2 1, 3) := by decide +kernel
theorem dX11_keepsAside_45 : decode cX11_keepsAside 45 = .ok (.goto (-33), 3) := by decide +kernel
theorem dX11_keepsAside_48 : decode cX11_keepsAside 48 = .ok (.iload_n 1, 1) := by decide +kernel
theorem dX11_keepsAside_49 : decode cX11_keepsAside 49 = .ok (.ireturn, 1) := by decide +kernel
set_option maxHeartbeats 4000000 in
set_option maxRecDepth 100000 in
theorem tX11_keepsAside {l : Launch} {g : yG} {n : Nat} {σ : yM} (hn : 172 ≤ n) (U : Int) (hU : σ 155 8 = U) (hUr : 0 ≤ U ∧ U ≤ 10) (c : Int) (hc : 0 ≤ c ∧ c ≤ 100000) : yMet l g yX11_keepsAside cX11_keepsAside 3 (some .int) (rmL 2) [yR g 155, yI c] (SC g) n σ (SC g) (yPi (fun v n' σ' => n' = n ∧ v = c ∧ ((c = 0 ∧ σ' = σ) ∨ (0 < c ∧ ((∀ (c : Nat) (j : Int), c ≠ 164 → (c ≠ 155 ∨ j ≠ 8) → σ' c j = σ c j) ∧ σ' 155 8 = min (U + 1) 10) ∧ (∀ r j : Int, 0 ≤ r → r < min (U + 1) 10 - 1 → 0 ≤ j → j < 2273 → σ' 164 (2273 * r + j) = σ 164 (2273 * (r + (if U = 10 then 1 else 0)) + j)) ∧ ∀ j : Int, 0 ≤ j → j < 2273 → σ' 164 (2273 * (min (U + 1) 10 - 1) + j) = σ 163 j)))) := by
  refine y_start (by decide) (Nat.le_of_ble_eq_true rfl) (fun X0 hF => ?_)
  show yV X0 g 3 (yQ X0 g (SC g) (yPi (fun v n' σ' => n' = n ∧ v = c ∧ ((c = 0 ∧ σ' = σ) ∨ (0 < c ∧ ((∀ (c : Nat) (j : Int), c ≠ 164 → (c ≠ 155 ∨ j ≠ 8) → σ' c j = σ c j) ∧ σ' 155 8 = min (U + 1) 10) ∧ (∀ r j : Int, 0 ≤ r → r < min (U + 1) 10 - 1 → 0 ≤ j → j < 2273 → σ' 164 (2273 * r + j) = σ 164 (2273 * (r + (if U = 10 then 1 else 0)) + j)) ∧ ∀ j : Int, 0 ≤ j → j < 2273 → σ' 164 (2273 * (min (U + 1) 10 - 1) + j) = σ 163 j)))) (rmL 2)) (SC g) n σ 0 0 0 [(0, yR g 155), (1, yI c)] []
  refine y_iload_n (pc := 0) hF dX11_keepsAside_0 1 rfl ?_
  refine y_if_ne (pc := 1) hF dX11_keepsAside_1 6 rfl (by omega) (fun zc1 => ?_) (fun zc1 => ?_)
  · skip
    refine y_aload_n (pc := 6) hF dX11_keepsAside_6 0 rfl ?_
    refine y_cv (y_rV (pc := 7) hF (tX11_keeps hn U hU hUr) dX11_keepsAside_7 (by omega) rfl rfl rfl w_1460 qX11_keeps rfl ⟨Nat.le_of_ble_eq_true rfl, Nat.le_of_ble_eq_true rfl⟩ ⟨Nat.zero_le _, Nat.zero_le _⟩ (Nat.le_of_ble_eq_true rfl) rfl) rfl rfl (fun n' σ7 zp7 => ?_)
    obtain ⟨zn7, zp7⟩ := zp7
    have zn7 := zn7.symm
    subst zn7
    refine y_iconst (pc := 10) hF dX11_keepsAside_10 ?_
    refine y_istore_n (pc := 11) (lv' := [(0, yR g 155), (1, yI c), (2, yI 0)]) hF dX11_keepsAside_11 (by decide) rfl rfl ?_
    have zL12 : ∀ (N : Nat) (υ : yM) (i : Int), N = (2273 - i).toNat → ((∀ (c : Nat), c ≠ 164 → υ c = σ7 c) ∧ (0 ≤ i ∧ i ≤ 2273) ∧ (∀ j : Int, 0 ≤ j → j < i → υ 164 (2273 * (min (U + 1) 10 - 1) + j) = σ 163 j) ∧ ∀ j : Int, j < 2273 * (min (U + 1) 10 - 1) → υ 164 j = σ7 164 j) → yV X0 g 3 (yQ X0 g (SC g) (yPi (fun v n' σ' => n' = n ∧ v = c ∧ ((c = 0 ∧ σ' = σ) ∨ (0 < c ∧ ((∀ (c : Nat) (j : Int), c ≠ 164 → (c ≠ 155 ∨ j ≠ 8) → σ' c j = σ c j) ∧ σ' 155 8 = min (U + 1) 10) ∧ (∀ r j : Int, 0 ≤ r → r < min (U + 1) 10 - 1 → 0 ≤ j → j < 2273 → σ' 164 (2273 * r + j) = σ 164 (2273 * (r + (if U = 10 then 1 else 0)) + j)) ∧ ∀ j : Int, 0 ≤ j → j < 2273 → σ' 164 (2273 * (min (U + 1) 10 - 1) + j) = σ 163 j)))) (rmL 2)) (SC g) n υ 0 0 12 [(0, yR g 155), (1, yI c), (2, yI i)] [] := by
      intro N
      induction N using Nat.strongRecOn with
      | ind N zh12 =>
        intro υ  i  zN12 zI12
        refine y_iload_n (pc := 12) hF dX11_keepsAside_12 2 rfl ?_
        refine y_sipush (pc := 13) hF dX11_keepsAside_13 (by decide) ?_
        refine y_icmp_ge (pc := 16) hF dX11_keepsAside_16 48 rfl (by omega) (by omega) (fun zc16 => ?_) (fun zc16 => ?_)
        · skip
          refine y_iload_n (pc := 48) hF dX11_keepsAside_48 1 rfl ?_
          exact y_iret (pc := 49) hF dX11_keepsAside_49 (Nat.zero_le _) (Nat.zero_le _) ⟨_, rfl, rfl, rfl, Or.inr ⟨by omega, ⟨fun c j h1 h2 => by rw [zI12.1 c h1]; exact zp7.1.1 c j h1 h2, by rw [zI12.1 155 (by omega)]; exact zp7.1.2⟩, fun r j h0 h1 h2 h3 => by rw [zI12.2.2.2 _ (by omega)]; exact zp7.2.1 r j h0 h1 h2 h3, fun j h0 h1 => zI12.2.2.1 j h0 (by omega)⟩⟩
        · skip
          refine y_aload_n (pc := 19) hF dX11_keepsAside_19 0 rfl ?_
          refine y_get (pc := 20) (ci := 11) hF dX11_keepsAside_20 (by omega) rfl rfl rfl iX11 6 (by decide) w_1253 rfl ?_
          refine y_sipush (pc := 23) hF dX11_keepsAside_23 (by decide) ?_
          refine y_aload_n (pc := 26) hF dX11_keepsAside_26 0 rfl ?_
          refine y_get (pc := 27) (ci := 11) hF dX11_keepsAside_27 (by omega) rfl rfl rfl iX11 8 (by decide) w_1255 rfl ?_
          rw [show υ 155 8 = min (U + 1) 10 from (by rw [zI12.1 155 (by omega)]; exact zp7.1.2)]
          refine y_iconst (pc := 30) hF dX11_keepsAside_30 ?_
          refine y_isub (pc := 31) hF dX11_keepsAside_31 ?_
          refine y_imul (pc := 32) hF dX11_keepsAside_32 ?_
          refine y_iload_n (pc := 33) hF dX11_keepsAside_33 2 rfl ?_
          refine y_iadd (pc := 34) hF dX11_keepsAside_34 ?_
          refine y_aload_n (pc := 35) hF dX11_keepsAside_35 0 rfl ?_
          refine y_get (pc := 36) (ci := 11) hF dX11_keepsAside_36 (by omega) rfl rfl rfl iX11 5 (by decide) w_1252 rfl ?_
          refine y_iload_n (pc := 39) hF dX11_keepsAside_39 2 rfl ?_
          refine y_iaload (pc := 40) hF dX11_keepsAside_40 (by omega) rfl (by omega) (by decide) ?_
          refine y_iastore (pc := 41) hF dX11_keepsAside_41 (by omega) rfl (by omega) (by decide) ?_
          refine y_iinc (pc := 42) (lv' := [(0, yR g 155), (1, yI c), (2, yI (i + 1))]) hF dX11_keepsAside_42 2 rfl (by decide) rfl rfl ?_
          refine y_goto (pc := 45) hF dX11_keepsAside_45 12 rfl ?_
          exact zh12 _ (by omega) (yset υ 164 ((2273 * ((min (U + 1) 10) - 1)) + i) (υ 163 i)) (i + 1) rfl ⟨fun c hc => by rw [yset_n hc]; exact zI12.1 c hc, by omega, fun j h0 h1 => by { rcases Decidable.em (j = i) with e | e; (rw [e, yset_e, zI12.1 163 (by omega)]; exact zp7.1.1 163 i (by omega) (by omega)); (rw [yset_o (by omega)]; exact zI12.2.2.1 j h0 (by omega)) }, fun j h0 => by rw [yset_o (by omega)]; exact zI12.2.2.2 j h0⟩
    exact zL12 _ σ7 (0) rfl ⟨fun c _ => rfl, by omega, fun j a b => by omega, fun j _ => rfl⟩
  · skip
    refine y_iconst (pc := 4) hF dX11_keepsAside_4 ?_
    exact y_iret (pc := 5) hF dX11_keepsAside_5 (Nat.zero_le _) (Nat.zero_le _) ⟨_, rfl, rfl, by omega, Or.inl ⟨by omega, rfl⟩⟩
