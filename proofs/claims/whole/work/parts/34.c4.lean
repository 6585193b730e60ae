theorem dX5_lineUp_0 : decode cX5_lineUp 0 = .ok (.aload_n 0, 1) := by decide +kernel
theorem dX5_lineUp_1 : decode cX5_lineUp 1 = .ok (.iconst 0, 1) := by decide +kernel
theorem dX5_lineUp_2 : decode cX5_lineUp 2 = .ok (.putfield 40, 3) := by decide +kernel
theorem dX5_lineUp_5 : decode cX5_lineUp 5 = .ok (.iconst 0, 1) := by decide +kernel
theorem dX5_lineUp_6 : decode cX5_lineUp 6 = .ok (.istore_n 3, 1) := by decide +kernel
theorem dX5_lineUp_7 : decode cX5_lineUp 7 = .ok (.iload_n 3, 1) := by decide +kernel
theorem dX5_lineUp_8 : decode cX5_lineUp 8 = .ok (.aload_n 1, 1) := by decide +kernel
theorem dX5_lineUp_9 : decode cX5_lineUp 9 = .ok (.invokevirtual 89, 3) := by decide +kernel
theorem dX5_lineUp_12 : decode cX5_lineUp 12 = .ok (.if_icmp .ge 77, 3) := by decide +kernel
theorem dX5_lineUp_15 : decode cX5_lineUp 15 = .ok (.aload_n 1, 1) := by decide +kernel
theorem dX5_lineUp_16 : decode cX5_lineUp 16 = .ok (.iload_n 3, 1) := by decide +kernel
theorem dX5_lineUp_17 : decode cX5_lineUp 17 = .ok (.invokevirtual 93, 3) := by decide +kernel
theorem dX5_lineUp_20 : decode cX5_lineUp 20 = .ok (.istore 4, 2) := by decide +kernel
theorem dX5_lineUp_22 : decode cX5_lineUp 22 = .ok (.aload_n 1, 1) := by decide +kernel
theorem dX5_lineUp_23 : decode cX5_lineUp 23 = .ok (.iload_n 3, 1) := by decide +kernel
theorem dX5_lineUp_24 : decode cX5_lineUp 24 = .ok (.invokevirtual 96, 3) := by decide +kernel
theorem dX5_lineUp_27 : decode cX5_lineUp 27 = .ok (.istore 5, 2) := by decide +kernel
theorem dX5_lineUp_29 : decode cX5_lineUp 29 = .ok (.aload_n 1, 1) := by decide +kernel
theorem dX5_lineUp_30 : decode cX5_lineUp 30 = .ok (.iload 4, 2) := by decide +kernel
theorem dX5_lineUp_32 : decode cX5_lineUp 32 = .ok (.iload 5, 2) := by decide +kernel
theorem dX5_lineUp_34 : decode cX5_lineUp 34 = .ok (.invokevirtual 99, 3) := by decide +kernel
theorem dX5_lineUp_37 : decode cX5_lineUp 37 = .ok (.ifCond .eq 46, 3) := by decide +kernel
theorem dX5_lineUp_40 : decode cX5_lineUp 40 = .ok (.aload_n 0, 1) := by decide +kernel
theorem dX5_lineUp_41 : decode cX5_lineUp 41 = .ok (.aload_n 1, 1) := by decide +kernel
theorem dX5_lineUp_42 : decode cX5_lineUp 42 = .ok (.aload_n 2, 1) := by decide +kernel
theorem dX5_lineUp_43 : decode cX5_lineUp 43 = .ok (.iload 4, 2) := by decide +kernel
theorem dX5_lineUp_45 : decode cX5_lineUp 45 = .ok (.iload 5, 2) := by decide +kernel
theorem dX5_lineUp_47 : decode cX5_lineUp 47 = .ok (.invokevirtual 102, 3) := by decide +kernel
theorem dX5_lineUp_50 : decode cX5_lineUp 50 = .ok (.aload_n 0, 1) := by decide +kernel
theorem dX5_lineUp_51 : decode cX5_lineUp 51 = .ok (.getfield 33, 3) := by decide +kernel
theorem dX5_lineUp_54 : decode cX5_lineUp 54 = .ok (.aload_n 0, 1) := by decide +kernel
theorem dX5_lineUp_55 : decode cX5_lineUp 55 = .ok (.getfield 40, 3) := by decide +kernel
theorem dX5_lineUp_58 : decode cX5_lineUp 58 = .ok (.iload_n 3, 1) := by decide +kernel
theorem dX5_lineUp_59 : decode cX5_lineUp 59 = .ok (.iastore, 1) := by decide +kernel
theorem dX5_lineUp_60 : decode cX5_lineUp 60 = .ok (.aload_n 0, 1) := by decide +kernel
theorem dX5_lineUp_61 : decode cX5_lineUp 61 = .ok (.getfield 37, 3) := by decide +kernel
theorem dX5_lineUp_64 : decode cX5_lineUp 64 = .ok (.aload_n 0, 1) := by decide +kernel
theorem dX5_lineUp_65 : decode cX5_lineUp 65 = .ok (.getfield 40, 3) := by decide +kernel
theorem dX5_lineUp_68 : decode cX5_lineUp 68 = .ok (.aload_n 0, 1) := by decide +kernel
theorem dX5_lineUp_69 : decode cX5_lineUp 69 = .ok (.getfield 30, 3) := by decide +kernel
theorem dX5_lineUp_72 : decode cX5_lineUp 72 = .ok (.iastore, 1) := by decide +kernel
theorem dX5_lineUp_73 : decode cX5_lineUp 73 = .ok (.aload_n 0, 1) := by decide +kernel
theorem dX5_lineUp_74 : decode cX5_lineUp 74 = .ok (.dup, 1) := by decide +kernel
theorem dX5_lineUp_75 : decode cX5_lineUp 75 = .ok (.getfield 40, 3) := by decide +kernel
theorem dX5_lineUp_78 : decode cX5_lineUp 78 = .ok (.iconst 1, 1) := by decide +kernel
theorem dX5_lineUp_79 : decode cX5_lineUp 79 = .ok (.iadd, 1) := by decide +kernel
theorem dX5_lineUp_80 : decode cX5_lineUp 80 = .ok (.putfield 40, 3) := by decide +kernel
theorem dX5_lineUp_83 : decode cX5_lineUp 83 = .ok (.iinc 3 1, 3) := by decide +kernel
theorem dX5_lineUp_86 : decode cX5_lineUp 86 = .ok (.goto (-79), 3) := by decide +kernel
theorem dX5_lineUp_89 : decode cX5_lineUp 89 = .ok (.return_, 1) := by decide +kernel
set_option maxHeartbeats 4000000 in
set_option maxRecDepth 100000 in
theorem tX5_lineUp {l : Launch} {g : yG} {n : Nat} {σ : yM} (k cs : Nat) (w h : Int) (T S F P O : Int → Int → Int) (s re fo ra tu we sh : Int) (hn : 172 ≤ n) (hP : isPic k) (hcs : isSet cs) (hA : rC σ k w h T S F P O) (hS : rS σ cs s re fo ra tu we sh) (hk : k + 5 < 120 ∨ 130 < k) (hc2 : cs < 120 ∨ 130 < cs) : yMet l g yX5_lineUp cX5_lineUp 6 none (rmL 4) [yR g 120, yR g k, yR g cs] (SC g) n σ (SC g) (yPv (fun n' σ' => n' = n ∧ fc 120 122 σ σ' ∧ rF σ' (sFt w h T S s ra))) := by
  obtain ⟨hw1, hw2, hw3, hw4⟩ := id hA.1.1
  have zwh := y_wh ⟨hw1, hw2⟩ ⟨hw3, hw4⟩
  have zkn : k < n := by have := hP.1; omega
  have z120 : 120 < n := by omega
  have z121 : 121 < n := by omega
  have z122 : 122 < n := by omega
  have zcsn : cs < n := by have := hcs.1; omega
  obtain ⟨hs1, hs2, hs3, hs4, hs5, hs6, hs7⟩ := id hS.2
  refine y_start (by decide) (Nat.le_of_ble_eq_true rfl) (fun X0 hF => ?_)
  show yV X0 g 6 (yQ X0 g (SC g) (yPv (fun n' σ' => n' = n ∧ fc 120 122 σ σ' ∧ rF σ' (sFt w h T S s ra))) (rmL 4)) (SC g) n σ 0 0 0 [(0, yR g 120), (1, yR g k), (2, yR g cs)] []
  refine y_aload_n (pc := 0) hF dX5_lineUp_0 0 rfl ?_
  refine y_iconst (pc := 1) hF dX5_lineUp_1 ?_
  refine y_putf (pc := 2) (ci := 5) (σ' := yset σ 120 9 0) (sch' := (SC g)) hF dX5_lineUp_2 z120 rfl rfl rfl iX5 9 (by decide) w_333 tyX5 tyX5_ok nmX5 rfl rfl rfl rfl (Nat.le_of_ble_eq_true rfl) rfl (y_ps rfl) (fun k' h => ⟨yset_n h, rfl⟩) ?_
  refine y_iconst (pc := 5) hF dX5_lineUp_5 ?_
  refine y_istore_n (pc := 6) (lv' := [(0, yR g 120), (1, yR g k), (2, yR g cs), (3, yI 0)]) hF dX5_lineUp_6 (by decide) rfl rfl ?_
  have zL7 : ∀ (N : Nat) (τ : yM) (i : Int), N = (w * h - i).toNat → (fc 120 122 σ τ ∧ (0 ≤ i ∧ i ≤ w * h) ∧ rF τ (lnF w h T S s ra i)) → yV X0 g 6 (yQ X0 g (SC g) (yPv (fun n' σ' => n' = n ∧ fc 120 122 σ σ' ∧ rF σ' (sFt w h T S s ra))) (rmL 4)) (SC g) n τ 0 0 7 [(0, yR g 120), (1, yR g k), (2, yR g cs), (3, yI i)] [] := by
    intro N
    induction N using Nat.strongRecOn with
    | ind N zh7 =>
      intro τ  i  zN7 zI7
      have zA_τ := hA.fc (by omega) zI7.1
      have zS_τ := hS.fc (by omega) zI7.1
      refine y_iload_n (pc := 7) hF dX5_lineUp_7 3 rfl ?_
      refine y_aload_n (pc := 8) hF dX5_lineUp_8 1 rfl ?_
      have zz9 := y_rV (pc := 9) hF (tX4_dots k w h T S F P O hn hP zA_τ) dX5_lineUp_9 zkn (hP.2 g).1 rfl rfl w_855 qX4_dots rfl ⟨Nat.le_of_ble_eq_true rfl, Nat.le_of_ble_eq_true rfl⟩ ⟨Nat.zero_le _, Nat.zero_le _⟩ (Nat.le_of_ble_eq_true rfl) rfl (rest := [yI i]) (cells := 0) (slots := 0) (lv := [(0, yR g 120), (1, yR g k), (2, yR g cs), (3, yI i)])
      refine y_cp (zz9) ?_
      refine y_icmp_ge (pc := 12) hF dX5_lineUp_12 89 rfl (by omega) (by omega) (fun zc12 => ?_) (fun zc12 => ?_)
      · skip
        exact y_vret (pc := 89) hF dX5_lineUp_89 (Nat.zero_le _) (Nat.zero_le _) ⟨rfl, rfl, zI7.1, by have zq := zI7.2.2; rw [show i = w * h by omega, lnF_all (by omega) (by omega)] at zq; exact zq⟩
      · skip
        have zd := y_de (h := h) hw1 zI7.2.1.1 (by omega)
        have zll := lnF_len (w := w) (h := h) (T := T) (S := S) (s := s) (ra := ra) zI7.2.1.1
        have zri : -2147483648 ≤ i ∧ i < 2147483648 := by omega
        have zrx : -1000000 ≤ i % w ∧ i % w ≤ 1000000 := by omega
        have zry : -1000000 ≤ i / w ∧ i / w ≤ 1000000 := by omega
        have zin : sIn w h (i % w) (i / w) = true := sIn_iff.mpr (by omega)
        have zl0 : 0 ≤ ((lnF w h T S s ra i).length : Int) := Int.natCast_nonneg _
        have zl1 : ((lnF w h T S s ra i).length : Int) < 400 := by omega
        refine y_aload_n (pc := 15) hF dX5_lineUp_15 1 rfl ?_
        refine y_iload_n (pc := 16) hF dX5_lineUp_16 3 rfl ?_
        have zz17 := y_rV (pc := 17) hF (tX4_xOf k w h T S F P O hn hP zA_τ i zri) dX5_lineUp_17 zkn (hP.2 g).1 rfl rfl w_856 qX4_xOf rfl ⟨Nat.le_of_ble_eq_true rfl, Nat.le_of_ble_eq_true rfl⟩ ⟨Nat.zero_le _, Nat.zero_le _⟩ (Nat.le_of_ble_eq_true rfl) rfl (rest := []) (cells := 0) (slots := 0) (lv := [(0, yR g 120), (1, yR g k), (2, yR g cs), (3, yI i)])
        refine y_cp (zz17) ?_
        rw [show cx w i = i % w from (by unfold cx; rw [if_neg (by omega)])]
        refine y_istore (pc := 20) (lv' := [(0, yR g 120), (1, yR g k), (2, yR g cs), (3, yI i), (4, yI (i % w))]) hF dX5_lineUp_20 (by decide) rfl rfl ?_
        refine y_aload_n (pc := 22) hF dX5_lineUp_22 1 rfl ?_
        refine y_iload_n (pc := 23) hF dX5_lineUp_23 3 rfl ?_
        have zz24 := y_rV (pc := 24) hF (tX4_yOf k w h T S F P O hn hP zA_τ i zri) dX5_lineUp_24 zkn (hP.2 g).1 rfl rfl w_857 qX4_yOf rfl ⟨Nat.le_of_ble_eq_true rfl, Nat.le_of_ble_eq_true rfl⟩ ⟨Nat.zero_le _, Nat.zero_le _⟩ (Nat.le_of_ble_eq_true rfl) rfl (rest := []) (cells := 0) (slots := 0) (lv := [(0, yR g 120), (1, yR g k), (2, yR g cs), (3, yI i), (4, yI (i % w))])
        refine y_cp (zz24) ?_
        rw [show cy w i = i / w from (by unfold cy; rw [if_neg (by omega)])]
        refine y_istore (pc := 27) (lv' := [(0, yR g 120), (1, yR g k), (2, yR g cs), (3, yI i), (4, yI (i % w)), (5, yI (i / w))]) hF dX5_lineUp_27 (by decide) rfl rfl ?_
        refine y_aload_n (pc := 29) hF dX5_lineUp_29 1 rfl ?_
        refine y_iload (pc := 30) hF dX5_lineUp_30 4 rfl ?_
        refine y_iload (pc := 32) hF dX5_lineUp_32 5 rfl ?_
        have zz34 := y_rV (pc := 34) hF (tX4_isOnFront k w h T S F P O hn hP zA_τ (i % w) (i / w) zrx zry) dX5_lineUp_34 zkn (hP.2 g).1 rfl rfl w_858 qX4_isOnFront rfl ⟨Nat.le_of_ble_eq_true rfl, Nat.le_of_ble_eq_true rfl⟩ ⟨Nat.zero_le _, Nat.zero_le _⟩ (Nat.le_of_ble_eq_true rfl) rfl (rest := []) (cells := 0) (slots := 0) (lv := [(0, yR g 120), (1, yR g k), (2, yR g cs), (3, yI i), (4, yI (i % w)), (5, yI (i / w))])
        refine y_cp (zz34) ?_
        refine y_if_eq (pc := 37) hF dX5_lineUp_37 83 rfl bi_r (fun zc37 => ?_) (fun zc37 => ?_)
        · replace zc37 := bi_0.mp zc37
          skip
          skip
          refine y_iinc (pc := 83) (lv' := [(0, yR g 120), (1, yR g k), (2, yR g cs), (3, yI (i + 1)), (4, yI (i % w)), (5, yI (i / w))]) hF dX5_lineUp_83 3 rfl (by decide) rfl rfl ?_
          refine y_goto (pc := 86) hF dX5_lineUp_86 7 rfl ?_
          refine y_sub [0, 1, 2, 3] rfl ?_
          exact zh7 _ (by omega) τ (i + 1) rfl ⟨zI7.1, by omega, by rw [lnF_up zI7.2.1.1]; unfold frF; rw [if_neg (by simp [zc37])]; exact zI7.2.2⟩
        · replace zc37 := bi_n0.mp zc37
          refine y_aload_n (pc := 40) hF dX5_lineUp_40 0 rfl ?_
          refine y_aload_n (pc := 41) hF dX5_lineUp_41 1 rfl ?_
          refine y_aload_n (pc := 42) hF dX5_lineUp_42 2 rfl ?_
          refine y_iload (pc := 43) hF dX5_lineUp_43 4 rfl ?_
          refine y_iload (pc := 45) hF dX5_lineUp_45 5 rfl ?_
          refine y_cv (y_rV (pc := 47) hF (tX5_measure k cs w h T S F P O s re fo ra tu we sh hn hP hcs zA_τ zS_τ hk hc2 (i % w) (i / w) zin) dX5_lineUp_47 z120 rfl rfl rfl w_866 qX5_measure rfl ⟨Nat.le_of_ble_eq_true rfl, Nat.le_of_ble_eq_true rfl⟩ ⟨Nat.zero_le _, Nat.zero_le _⟩ (Nat.le_of_ble_eq_true rfl) rfl) rfl rfl (fun n' σ47 zp47 => ?_)
          obtain ⟨zn47, zp47⟩ := zp47
          have zn47 := zn47.symm
          subst zn47
          have zA_σ47 := zA_τ.fc (by omega) zp47.1.fc
          have zS_σ47 := zS_τ.fc (by omega) zp47.1.fc
          have zc9 : σ47 120 9 = ((lnF w h T S s ra i).length : Int) := by rw [zp47.1 120 9 (by decide)]; exact zI7.2.2.1
          have zrk : σ47 120 6 = sRk w h T S s ra (i % w) (i / w) := zp47.2.2.2.2.2.2.2
          refine y_aload_n (pc := 50) hF dX5_lineUp_50 0 rfl ?_
          refine y_get (pc := 51) (ci := 5) hF dX5_lineUp_51 z120 rfl rfl rfl iX5 7 (by decide) w_328 rfl ?_
          refine y_aload_n (pc := 54) hF dX5_lineUp_54 0 rfl ?_
          refine y_get (pc := 55) (ci := 5) hF dX5_lineUp_55 z120 rfl rfl rfl iX5 9 (by decide) w_333 rfl ?_
          rw [show σ47 120 9 = ((lnF w h T S s ra i).length : Int) from zc9]
          refine y_iload_n (pc := 58) hF dX5_lineUp_58 3 rfl ?_
          refine y_iastore (pc := 59) hF dX5_lineUp_59 z121 rfl ⟨zl0, zl1⟩ (by decide) ?_
          refine y_aload_n (pc := 60) hF dX5_lineUp_60 0 rfl ?_
          refine y_get (pc := 61) (ci := 5) hF dX5_lineUp_61 z120 rfl rfl rfl iX5 8 (by decide) w_331 rfl ?_
          refine y_aload_n (pc := 64) hF dX5_lineUp_64 0 rfl ?_
          refine y_get (pc := 65) (ci := 5) hF dX5_lineUp_65 z120 rfl rfl rfl iX5 9 (by decide) w_333 rfl ?_
          rw [show (yset σ47 121 ((lnF w h T S s ra i).length : Int) i) 120 9 = ((lnF w h T S s ra i).length : Int) from (by simp [yset_ap]; exact zc9)]
          refine y_aload_n (pc := 68) hF dX5_lineUp_68 0 rfl ?_
          refine y_get (pc := 69) (ci := 5) hF dX5_lineUp_69 z120 rfl rfl rfl iX5 6 (by decide) w_326 rfl ?_
          rw [show (yset σ47 121 ((lnF w h T S s ra i).length : Int) i) 120 6 = sRk w h T S s ra (i % w) (i / w) from (by simp [yset_ap]; exact zrk)]
          refine y_iastore (pc := 72) hF dX5_lineUp_72 z122 rfl ⟨zl0, zl1⟩ (by decide) ?_
          refine y_aload_n (pc := 73) hF dX5_lineUp_73 0 rfl ?_
          refine y_dup (pc := 74) hF dX5_lineUp_74 rfl ?_
          refine y_get (pc := 75) (ci := 5) hF dX5_lineUp_75 z120 rfl rfl rfl iX5 9 (by decide) w_333 rfl ?_
          rw [show (yset (yset σ47 121 ((lnF w h T S s ra i).length : Int) i) 122 ((lnF w h T S s ra i).length : Int) (sRk w h T S s ra (i % w) (i / w))) 120 9 = ((lnF w h T S s ra i).length : Int) from (by simp [yset_ap]; exact zc9)]
          refine y_iconst (pc := 78) hF dX5_lineUp_78 ?_
          refine y_iadd (pc := 79) hF dX5_lineUp_79 ?_
          refine y_putf (pc := 80) (ci := 5) (σ' := yset (yset (yset σ47 121 ((lnF w h T S s ra i).length : Int) i) 122 ((lnF w h T S s ra i).length : Int) (sRk w h T S s ra (i % w) (i / w))) 120 9 (((lnF w h T S s ra i).length : Int) + 1)) (sch' := (SC g)) hF dX5_lineUp_80 z120 rfl rfl rfl iX5 9 (by decide) w_333 tyX5 tyX5_ok nmX5 rfl rfl rfl rfl (Nat.le_of_ble_eq_true rfl) rfl (y_ps rfl) (fun k' h => ⟨yset_n h, rfl⟩) ?_
          have zfe : fc 120 122 σ (yset (yset (yset σ47 121 ((lnF w h T S s ra i).length : Int) i) 122 ((lnF w h T S s ra i).length : Int) (sRk w h T S s ra (i % w) (i / w))) 120 9 (((lnF w h T S s ra i).length : Int) + 1)) := (((zI7.1.tr (zp47.1.fc.wk (by omega) (by omega))).st (by omega)).st (by omega)).st (by omega)
          have zre : rF (yset (yset (yset σ47 121 ((lnF w h T S s ra i).length : Int) i) 122 ((lnF w h T S s ra i).length : Int) (sRk w h T S s ra (i % w) (i / w))) 120 9 (((lnF w h T S s ra i).length : Int) + 1)) (lnF w h T S s ra (i + 1)) := by rw [lnF_up zI7.2.1.1]; unfold frF; rw [if_pos zc37, zd.1]; exact zI7.2.2.app (by omega) (by simp [yset_ap]) (fun j => by simp [yset_ap]; rw [show σ47 121 = τ 121 from funext fun q => zp47.1 121 q (Or.inl (by decide))]) (fun j => by simp [yset_ap]; rw [show σ47 122 = τ 122 from funext fun q => zp47.1 122 q (Or.inl (by decide))])
          refine y_iinc (pc := 83) (lv' := [(0, yR g 120), (1, yR g k), (2, yR g cs), (3, yI (i + 1)), (4, yI (i % w)), (5, yI (i / w))]) hF dX5_lineUp_83 3 rfl (by decide) rfl rfl ?_
          refine y_goto (pc := 86) hF dX5_lineUp_86 7 rfl ?_
          refine y_sub [0, 1, 2, 3] rfl ?_
          exact zh7 _ (by omega) (yset (yset (yset σ47 121 ((lnF w h T S s ra i).length : Int) i) 122 ((lnF w h T S s ra i).length : Int) (sRk w h T S s ra (i % w) (i / w))) 120 9 (((lnF w h T S s ra i).length : Int) + 1)) (i + 1) rfl ⟨zfe, by omega, zre⟩
  exact zL7 _ (yset σ 120 9 0) (0) rfl ⟨(fc.rf σ).st (by omega), by omega, ⟨by simp [yset_ap, lnF, fr], by simp [lnF, fr], fun i h0 h1 => by simp [lnF, fr] at h1; omega⟩⟩

theorem dX5_foremost_0 : decode cX5_foremost 0 = .ok (.iconst (-1), 1) := by decide +kernel
theorem dX5_foremost_1 : decode cX5_foremost 1 = .ok (.istore_n 1, 1) := by decide +kernel
theorem dX5_foremost_2 : decode cX5_foremost 2 = .ok (.iconst 0, 1) := by decide +kernel
theorem dX5_foremost_3 : decode cX5_foremost 3 = .ok (.istore_n 2, 1) := by decide +kernel
theorem dX5_foremost_4 : decode cX5_foremost 4 = .ok (.iload_n 2, 1) := by decide +kernel
theorem dX5_foremost_5 : decode cX5_foremost 5 = .ok (.aload_n 0, 1) := by decide +kernel
theorem dX5_foremost_6 : decode cX5_foremost 6 = .ok (.getfield 40, 3) := by decide +kernel
theorem dX5_foremost_9 : decode cX5_foremost 9 = .ok (.if_icmp .ge 31, 3) := by decide +kernel
theorem dX5_foremost_12 : decode cX5_foremost 12 = .ok (.iload_n 1, 1) := by decide +kernel
theorem dX5_foremost_13 : decode cX5_foremost 13 = .ok (.iconst (-1), 1) := by decide +kernel
theorem dX5_foremost_14 : decode cX5_foremost 14 = .ok (.if_icmp .eq 18, 3) := by decide +kernel
theorem dX5_foremost_17 : decode cX5_foremost 17 = .ok (.aload_n 0, 1) := by decide +kernel
theorem dX5_foremost_18 : decode cX5_foremost 18 = .ok (.getfield 37, 3) := by decide +kernel
theorem dX5_foremost_21 : decode cX5_foremost 21 = .ok (.iload_n 2, 1) := by decide +kernel
theorem dX5_foremost_22 : decode cX5_foremost 22 = .ok (.iaload, 1) := by decide +kernel
theorem dX5_foremost_23 : decode cX5_foremost 23 = .ok (.aload_n 0, 1) := by decide +kernel
theorem dX5_foremost_24 : decode cX5_foremost 24 = .ok (.getfield 37, 3) := by decide +kernel
theorem dX5_foremost_27 : decode cX5_foremost 27 = .ok (.iload_n 1, 1) := by decide +kernel
theorem dX5_foremost_28 : decode cX5_foremost 28 = .ok (.iaload, 1) := by decide +kernel
theorem dX5_foremost_29 : decode cX5_foremost 29 = .ok (.if_icmp .le 5, 3) := by decide +kernel
theorem dX5_foremost_32 : decode cX5_foremost 32 = .ok (.iload_n 2, 1) := by decide +kernel
theorem dX5_foremost_33 : decode cX5_foremost 33 = .ok (.istore_n 1, 1) := by decide +kernel
theorem dX5_foremost_34 : decode cX5_foremost 34 = .ok (.iinc 2 1, 3) := by decide +kernel
theorem dX5_foremost_37 : decode cX5_foremost 37 = .ok (.goto (-33), 3) := by decide +kernel
theorem dX5_foremost_40 : decode cX5_foremost 40 = .ok (.iload_n 1, 1) := by decide +kernel
theorem dX5_foremost_41 : decode cX5_foremost 41 = .ok (.ireturn, 1) := by decide +kernel
set_option maxHeartbeats 4000000 in
set_option maxRecDepth 100000 in
theorem tX5_foremost {l : Launch} {g : yG} {n : Nat} {σ : yM} (L : List (Int × Int)) (hn : 172 ≤ n) (hF0 : rF σ L) (hr0 : ∀ i : Int, 0 ≤ i → i < L.length → -2147483648 ≤ (gk L i).2 ∧ (gk L i).2 < 2147483648) : yMet l g yX5_foremost cX5_foremost 3 (some .int) (rmL 1) [yR g 120] (SC g) n σ (SC g) (yPp (fm L) n σ) := by
  have z120 : 120 < n := by omega
  have z122 : 122 < n := by omega
  have zln := hF0.2.1
  refine y_start (by decide) (Nat.le_of_ble_eq_true rfl) (fun X0 hF => ?_)
  show yV X0 g 3 (yQ X0 g (SC g) (yPp (fm L) n σ) (rmL 1)) (SC g) n σ 0 0 0 [(0, yR g 120)] []
  refine y_iconst (pc := 0) hF dX5_foremost_0 ?_
  refine y_istore_n (pc := 1) (lv' := [(0, yR g 120), (1, yI (-1))]) hF dX5_foremost_1 (by decide) rfl rfl ?_
  refine y_iconst (pc := 2) hF dX5_foremost_2 ?_
  refine y_istore_n (pc := 3) (lv' := [(0, yR g 120), (1, yI (-1)), (2, yI 0)]) hF dX5_foremost_3 (by decide) rfl rfl ?_
  have zL4 : ∀ (N : Nat) (i p : Int), N = ((L.length : Int) - i).toNat → ((0 ≤ i ∧ i ≤ L.length) ∧ p = fr (fmF L) 0 i.toNat (-1)) → yV X0 g 3 (yQ X0 g (SC g) (yPp (fm L) n σ) (rmL 1)) (SC g) n σ 0 0 4 [(0, yR g 120), (1, yI p), (2, yI i)] [] := by
    intro N
    induction N using Nat.strongRecOn with
    | ind N zh4 =>
      intro i p  zN4 zI4
      have zfi := fm_in L i.toNat
      rw [← zI4.2] at zfi
      refine y_iload_n (pc := 4) hF dX5_foremost_4 2 rfl ?_
      refine y_aload_n (pc := 5) hF dX5_foremost_5 0 rfl ?_
      refine y_get (pc := 6) (ci := 5) hF dX5_foremost_6 z120 rfl rfl rfl iX5 9 (by decide) w_333 rfl ?_
      rw [show σ 120 9 = (L.length : Int) from hF0.1]
      refine y_icmp_ge (pc := 9) hF dX5_foremost_9 40 rfl (by omega) (by omega) (fun zc9 => ?_) (fun zc9 => ?_)
      · skip
        refine y_iload_n (pc := 40) hF dX5_foremost_40 1 rfl ?_
        exact y_iret (pc := 41) hF dX5_foremost_41 (Nat.zero_le _) (Nat.zero_le _) ⟨_, rfl, by rw [zI4.2]; unfold fm; congr 1; omega, rfl, rfl⟩
      · skip
        refine y_iload_n (pc := 12) hF dX5_foremost_12 1 rfl ?_
        refine y_iconst (pc := 13) hF dX5_foremost_13 ?_
        refine y_icmp_eq (pc := 14) hF dX5_foremost_14 32 rfl (by omega) (by omega) (fun zc14 => ?_) (fun zc14 => ?_)
        · skip
          refine y_iload_n (pc := 32) hF dX5_foremost_32 2 rfl ?_
          refine y_istore_n (pc := 33) (lv' := [(0, yR g 120), (1, yI i), (2, yI i)]) hF dX5_foremost_33 (by decide) rfl rfl ?_
          refine y_iinc (pc := 34) (lv' := [(0, yR g 120), (1, yI i), (2, yI (i + 1))]) hF dX5_foremost_34 2 rfl (by decide) rfl rfl ?_
          refine y_goto (pc := 37) hF dX5_foremost_37 4 rfl ?_
          exact zh4 _ (by omega) (i + 1) (i) rfl ⟨by omega, by rw [fr_up _ _ _ _ zI4.1.1, ← zI4.2, Int.zero_add]; unfold fmF; rw [if_pos (Or.inl zc14)]⟩
        · skip
          have zp0 : 0 ≤ p ∧ p < L.length := by omega
          have zi0 : 0 ≤ i ∧ i < 400 := by omega
          have zp1 : 0 ≤ p ∧ p < 400 := by omega
          have zg1 := hr0 i zI4.1.1 (by omega)
          have zg2 := hr0 p zp0.1 zp0.2
          refine y_aload_n (pc := 17) hF dX5_foremost_17 0 rfl ?_
          refine y_get (pc := 18) (ci := 5) hF dX5_foremost_18 z120 rfl rfl rfl iX5 8 (by decide) w_331 rfl ?_
          refine y_iload_n (pc := 21) hF dX5_foremost_21 2 rfl ?_
          refine y_iaload (pc := 22) hF dX5_foremost_22 z122 rfl (by omega) (by decide) ?_
          rw [show σ 122 i = (gk L i).2 from (hF0.2.2 i zI4.1.1 (by omega)).2]
          refine y_aload_n (pc := 23) hF dX5_foremost_23 0 rfl ?_
          refine y_get (pc := 24) (ci := 5) hF dX5_foremost_24 z120 rfl rfl rfl iX5 8 (by decide) w_331 rfl ?_
          refine y_iload_n (pc := 27) hF dX5_foremost_27 1 rfl ?_
          refine y_iaload (pc := 28) hF dX5_foremost_28 z122 rfl (by omega) (by decide) ?_
          rw [show σ 122 p = (gk L p).2 from (hF0.2.2 p zp0.1 zp0.2).2]
          refine y_icmp_le (pc := 29) hF dX5_foremost_29 34 rfl (by omega) (by omega) (fun zc29 => ?_) (fun zc29 => ?_)
          · skip
            refine y_iinc (pc := 34) (lv' := [(0, yR g 120), (1, yI p), (2, yI (i + 1))]) hF dX5_foremost_34 2 rfl (by decide) rfl rfl ?_
            refine y_goto (pc := 37) hF dX5_foremost_37 4 rfl ?_
            exact zh4 _ (by omega) (i + 1) (p) rfl ⟨by omega, by rw [fr_up _ _ _ _ zI4.1.1, ← zI4.2, Int.zero_add]; unfold fmF; rw [if_neg (fun hh => hh.elim zc14 (fun hh => absurd hh (by omega)))]⟩
          · skip
            refine y_iload_n (pc := 32) hF dX5_foremost_32 2 rfl ?_
            refine y_istore_n (pc := 33) (lv' := [(0, yR g 120), (1, yI i), (2, yI i)]) hF dX5_foremost_33 (by decide) rfl rfl ?_
            refine y_iinc (pc := 34) (lv' := [(0, yR g 120), (1, yI i), (2, yI (i + 1))]) hF dX5_foremost_34 2 rfl (by decide) rfl rfl ?_
            refine y_goto (pc := 37) hF dX5_foremost_37 4 rfl ?_
            exact zh4 _ (by omega) (i + 1) (i) rfl ⟨by omega, by rw [fr_up _ _ _ _ zI4.1.1, ← zI4.2, Int.zero_add]; unfold fmF; rw [if_pos (Or.inr zc29)]⟩
  exact zL4 _ (0) (-1) rfl ⟨by omega, rfl⟩
