theorem dX5_measure_0 : decode cX5_measure 0 = .ok (.aload_n 2, 1) := by decide +kernel
theorem dX5_measure_1 : decode cX5_measure 1 = .ok (.getfield 43, 3) := by decide +kernel
theorem dX5_measure_4 : decode cX5_measure 4 = .ok (.istore 5, 2) := by decide +kernel
theorem dX5_measure_6 : decode cX5_measure 6 = .ok (.aload_n 0, 1) := by decide +kernel
theorem dX5_measure_7 : decode cX5_measure 7 = .ok (.aload_n 1, 1) := by decide +kernel
theorem dX5_measure_8 : decode cX5_measure 8 = .ok (.iload 5, 2) := by decide +kernel
theorem dX5_measure_10 : decode cX5_measure 10 = .ok (.iload_n 3, 1) := by decide +kernel
theorem dX5_measure_11 : decode cX5_measure 11 = .ok (.iload 4, 2) := by decide +kernel
theorem dX5_measure_13 : decode cX5_measure 13 = .ok (.invokevirtual 48, 3) := by decide +kernel
theorem dX5_measure_16 : decode cX5_measure 16 = .ok (.aload_n 0, 1) := by decide +kernel
theorem dX5_measure_17 : decode cX5_measure 17 = .ok (.aload_n 1, 1) := by decide +kernel
theorem dX5_measure_18 : decode cX5_measure 18 = .ok (.iload 5, 2) := by decide +kernel
theorem dX5_measure_20 : decode cX5_measure 20 = .ok (.iload_n 3, 1) := by decide +kernel
theorem dX5_measure_21 : decode cX5_measure 21 = .ok (.iload 4, 2) := by decide +kernel
theorem dX5_measure_23 : decode cX5_measure 23 = .ok (.invokevirtual 52, 3) := by decide +kernel
theorem dX5_measure_26 : decode cX5_measure 26 = .ok (.aload_n 0, 1) := by decide +kernel
theorem dX5_measure_27 : decode cX5_measure 27 = .ok (.aload_n 1, 1) := by decide +kernel
theorem dX5_measure_28 : decode cX5_measure 28 = .ok (.iload_n 3, 1) := by decide +kernel
theorem dX5_measure_29 : decode cX5_measure 29 = .ok (.iconst 1, 1) := by decide +kernel
theorem dX5_measure_30 : decode cX5_measure 30 = .ok (.iadd, 1) := by decide +kernel
theorem dX5_measure_31 : decode cX5_measure 31 = .ok (.iload 4, 2) := by decide +kernel
theorem dX5_measure_33 : decode cX5_measure 33 = .ok (.invokevirtual 55, 3) := by decide +kernel
theorem dX5_measure_36 : decode cX5_measure 36 = .ok (.ifCond .eq 7, 3) := by decide +kernel
theorem dX5_measure_39 : decode cX5_measure 39 = .ok (.iconst 1, 1) := by decide +kernel
theorem dX5_measure_40 : decode cX5_measure 40 = .ok (.goto 4, 3) := by decide +kernel
theorem dX5_measure_43 : decode cX5_measure 43 = .ok (.iconst 0, 1) := by decide +kernel
theorem dX5_measure_44 : decode cX5_measure 44 = .ok (.aload_n 1, 1) := by decide +kernel
theorem dX5_measure_45 : decode cX5_measure 45 = .ok (.iload_n 3, 1) := by decide +kernel
theorem dX5_measure_46 : decode cX5_measure 46 = .ok (.iconst 1, 1) := by decide +kernel
theorem dX5_measure_47 : decode cX5_measure 47 = .ok (.isub, 1) := by decide +kernel
theorem dX5_measure_48 : decode cX5_measure 48 = .ok (.iload 4, 2) := by decide +kernel
theorem dX5_measure_50 : decode cX5_measure 50 = .ok (.invokevirtual 55, 3) := by decide +kernel
theorem dX5_measure_53 : decode cX5_measure 53 = .ok (.ifCond .eq 7, 3) := by decide +kernel
theorem dX5_measure_56 : decode cX5_measure 56 = .ok (.iconst 1, 1) := by decide +kernel
theorem dX5_measure_57 : decode cX5_measure 57 = .ok (.goto 4, 3) := by decide +kernel
theorem dX5_measure_60 : decode cX5_measure 60 = .ok (.iconst 0, 1) := by decide +kernel
theorem dX5_measure_61 : decode cX5_measure 61 = .ok (.isub, 1) := by decide +kernel
theorem dX5_measure_62 : decode cX5_measure 62 = .ok (.putfield 21, 3) := by decide +kernel
theorem dX5_measure_65 : decode cX5_measure 65 = .ok (.aload_n 0, 1) := by decide +kernel
theorem dX5_measure_66 : decode cX5_measure 66 = .ok (.aload_n 1, 1) := by decide +kernel
theorem dX5_measure_67 : decode cX5_measure 67 = .ok (.iload_n 3, 1) := by decide +kernel
theorem dX5_measure_68 : decode cX5_measure 68 = .ok (.iload 4, 2) := by decide +kernel
theorem dX5_measure_70 : decode cX5_measure 70 = .ok (.iconst 1, 1) := by decide +kernel
theorem dX5_measure_71 : decode cX5_measure 71 = .ok (.iadd, 1) := by decide +kernel
theorem dX5_measure_72 : decode cX5_measure 72 = .ok (.invokevirtual 55, 3) := by decide +kernel
theorem dX5_measure_75 : decode cX5_measure 75 = .ok (.ifCond .eq 7, 3) := by decide +kernel
theorem dX5_measure_78 : decode cX5_measure 78 = .ok (.iconst 1, 1) := by decide +kernel
theorem dX5_measure_79 : decode cX5_measure 79 = .ok (.goto 4, 3) := by decide +kernel
theorem dX5_measure_82 : decode cX5_measure 82 = .ok (.iconst 0, 1) := by decide +kernel
theorem dX5_measure_83 : decode cX5_measure 83 = .ok (.aload_n 1, 1) := by decide +kernel
theorem dX5_measure_84 : decode cX5_measure 84 = .ok (.iload_n 3, 1) := by decide +kernel
theorem dX5_measure_85 : decode cX5_measure 85 = .ok (.iload 4, 2) := by decide +kernel
theorem dX5_measure_87 : decode cX5_measure 87 = .ok (.iconst 1, 1) := by decide +kernel
theorem dX5_measure_88 : decode cX5_measure 88 = .ok (.isub, 1) := by decide +kernel
theorem dX5_measure_89 : decode cX5_measure 89 = .ok (.invokevirtual 55, 3) := by decide +kernel
theorem dX5_measure_92 : decode cX5_measure 92 = .ok (.ifCond .eq 7, 3) := by decide +kernel
theorem dX5_measure_95 : decode cX5_measure 95 = .ok (.iconst 1, 1) := by decide +kernel
theorem dX5_measure_96 : decode cX5_measure 96 = .ok (.goto 4, 3) := by decide +kernel
theorem dX5_measure_99 : decode cX5_measure 99 = .ok (.iconst 0, 1) := by decide +kernel
theorem dX5_measure_100 : decode cX5_measure 100 = .ok (.isub, 1) := by decide +kernel
theorem dX5_measure_101 : decode cX5_measure 101 = .ok (.putfield 24, 3) := by decide +kernel
theorem dX5_measure_104 : decode cX5_measure 104 = .ok (.aload_n 0, 1) := by decide +kernel
theorem dX5_measure_105 : decode cX5_measure 105 = .ok (.aload_n 0, 1) := by decide +kernel
theorem dX5_measure_106 : decode cX5_measure 106 = .ok (.getfield 15, 3) := by decide +kernel
theorem dX5_measure_109 : decode cX5_measure 109 = .ok (.aload_n 0, 1) := by decide +kernel
theorem dX5_measure_110 : decode cX5_measure 110 = .ok (.getfield 24, 3) := by decide +kernel
theorem dX5_measure_113 : decode cX5_measure 113 = .ok (.imul, 1) := by decide +kernel
theorem dX5_measure_114 : decode cX5_measure 114 = .ok (.aload_n 0, 1) := by decide +kernel
theorem dX5_measure_115 : decode cX5_measure 115 = .ok (.getfield 18, 3) := by decide +kernel
theorem dX5_measure_118 : decode cX5_measure 118 = .ok (.aload_n 0, 1) := by decide +kernel
theorem dX5_measure_119 : decode cX5_measure 119 = .ok (.getfield 21, 3) := by decide +kernel
theorem dX5_measure_122 : decode cX5_measure 122 = .ok (.imul, 1) := by decide +kernel
theorem dX5_measure_123 : decode cX5_measure 123 = .ok (.isub, 1) := by decide +kernel
theorem dX5_measure_124 : decode cX5_measure 124 = .ok (.invokestatic 61, 3) := by decide +kernel
theorem dX5_measure_127 : decode cX5_measure 127 = .ok (.iconst 1, 1) := by decide +kernel
theorem dX5_measure_128 : decode cX5_measure 128 = .ok (.iadd, 1) := by decide +kernel
theorem dX5_measure_129 : decode cX5_measure 129 = .ok (.putfield 27, 3) := by decide +kernel
theorem dX5_measure_132 : decode cX5_measure 132 = .ok (.aload_n 2, 1) := by decide +kernel
theorem dX5_measure_133 : decode cX5_measure 133 = .ok (.getfield 67, 3) := by decide +kernel
theorem dX5_measure_136 : decode cX5_measure 136 = .ok (.lookupswitch 50 #[(1, 28), (2, 39)], 28) := by decide +kernel
theorem dX5_measure_164 : decode cX5_measure 164 = .ok (.aload_n 0, 1) := by decide +kernel
theorem dX5_measure_165 : decode cX5_measure 165 = .ok (.aload_n 0, 1) := by decide +kernel
theorem dX5_measure_166 : decode cX5_measure 166 = .ok (.getfield 9, 3) := by decide +kernel
theorem dX5_measure_169 : decode cX5_measure 169 = .ok (.putfield 30, 3) := by decide +kernel
theorem dX5_measure_172 : decode cX5_measure 172 = .ok (.goto 27, 3) := by decide +kernel
theorem dX5_measure_175 : decode cX5_measure 175 = .ok (.aload_n 0, 1) := by decide +kernel
theorem dX5_measure_176 : decode cX5_measure 176 = .ok (.aload_n 0, 1) := by decide +kernel
theorem dX5_measure_177 : decode cX5_measure 177 = .ok (.getfield 27, 3) := by decide +kernel
theorem dX5_measure_180 : decode cX5_measure 180 = .ok (.putfield 30, 3) := by decide +kernel
theorem dX5_measure_183 : decode cX5_measure 183 = .ok (.goto 16, 3) := by decide +kernel
theorem dX5_measure_186 : decode cX5_measure 186 = .ok (.aload_n 0, 1) := by decide +kernel
theorem dX5_measure_187 : decode cX5_measure 187 = .ok (.aload_n 0, 1) := by decide +kernel
theorem dX5_measure_188 : decode cX5_measure 188 = .ok (.getfield 9, 3) := by decide +kernel
theorem dX5_measure_191 : decode cX5_measure 191 = .ok (.aload_n 0, 1) := by decide +kernel
theorem dX5_measure_192 : decode cX5_measure 192 = .ok (.getfield 27, 3) := by decide +kernel
theorem dX5_measure_195 : decode cX5_measure 195 = .ok (.imul, 1) := by decide +kernel
theorem dX5_measure_196 : decode cX5_measure 196 = .ok (.putfield 30, 3) := by decide +kernel
theorem dX5_measure_199 : decode cX5_measure 199 = .ok (.return_, 1) := by decide +kernel
set_option maxHeartbeats 4000000 in
set_option maxRecDepth 100000 in
theorem tX5_measure {l : Launch} {g : yG} {n : Nat} {σ : yM} (k cs : Nat) (w h : Int) (T S F P O : Int → Int → Int) (s re fo ra tu we sh : Int) (hn : 172 ≤ n) (hP : isPic k) (hcs : isSet cs) (hA : rC σ k w h T S F P O) (hS : rS σ cs s re fo ra tu we sh) (hk : k + 5 < 120 ∨ 130 < k) (hc2 : cs < 120 ∨ 130 < cs) (x y : Int) (hi : sIn w h x y = true) : yMet l g yX5_measure cX5_measure 6 none (rmL 3) [yR g 120, yR g k, yR g cs, yI x, yI y] (SC g) n σ (SC g) (yPv (fun n' σ' => n' = n ∧ fk 120 0 6 σ σ' ∧ rK σ' w h T S s ra x y)) := by
  obtain ⟨hw1, hw2, hw3, hw4⟩ := id hA.1.1
  have zi := sIn_iff.mp hi
  have zkn : k < n := by have := hP.1; omega
  have z120 : 120 < n := by omega
  have zcsn : cs < n := by have := hcs.1; omega
  have zr0x : -2147483648 ≤ x ∧ x < 2147483648 := by omega
  have zr0y : -2147483648 ≤ y ∧ y < 2147483648 := by omega
  have zr1 : -2147483648 ≤ x + 1 ∧ x + 1 < 2147483648 := by omega
  have zr2 : -2147483648 ≤ x - 1 ∧ x - 1 < 2147483648 := by omega
  have zr3 : -2147483648 ≤ y + 1 ∧ y + 1 < 2147483648 := by omega
  have zr4 : -2147483648 ≤ y - 1 ∧ y - 1 < 2147483648 := by omega
  obtain ⟨hs1, hs2, hs3, hs4, hs5, hs6, hs7⟩ := id hS.2
  refine y_start (by decide) (Nat.le_of_ble_eq_true rfl) (fun X0 hF => ?_)
  show yV X0 g 6 (yQ X0 g (SC g) (yPv (fun n' σ' => n' = n ∧ fk 120 0 6 σ σ' ∧ rK σ' w h T S s ra x y)) (rmL 3)) (SC g) n σ 0 0 0 [(0, yR g 120), (1, yR g k), (2, yR g cs), (3, yI x), (4, yI y)] []
  refine y_aload_n (pc := 0) hF dX5_measure_0 2 rfl ?_
  refine y_getN (pc := 1) (ci := 7) hF dX5_measure_1 zcsn (hcs.2 g) rfl rfl iX7 0 (by decide) w_164 rfl ?_
  rw [show σ cs 0 = s from hS.1.1]
  refine y_istore (pc := 4) (lv' := [(0, yR g 120), (1, yR g k), (2, yR g cs), (3, yI x), (4, yI y), (5, yI s)]) hF dX5_measure_4 (by decide) rfl rfl ?_
  refine y_aload_n (pc := 6) hF dX5_measure_6 0 rfl ?_
  refine y_aload_n (pc := 7) hF dX5_measure_7 1 rfl ?_
  refine y_iload (pc := 8) hF dX5_measure_8 5 rfl ?_
  refine y_iload_n (pc := 10) hF dX5_measure_10 3 rfl ?_
  refine y_iload (pc := 11) hF dX5_measure_11 4 rfl ?_
  refine y_cv (y_rV (pc := 13) hF (tX5_measureSteady k w h T S F P O hn hP hA hk s hs1 x y hi) dX5_measure_13 z120 rfl rfl rfl w_870 qX5_measureSteady rfl ⟨Nat.le_of_ble_eq_true rfl, Nat.le_of_ble_eq_true rfl⟩ ⟨Nat.zero_le _, Nat.zero_le _⟩ (Nat.le_of_ble_eq_true rfl) rfl) rfl rfl (fun n' σ' zp13 => ?_)
  obtain ⟨zn13, rfl⟩ := zp13
  have zn13 := zn13.symm
  subst zn13
  obtain ⟨τ0, hτ0⟩ : ∃ t, t = yset σ 120 0 (sSd w h S s x y) := ⟨_, rfl⟩
  rw [← hτ0]
  have zf0 : fk 120 0 6 σ τ0 := by rw [hτ0]; exact (fk.rf σ).st (by omega)
  have zA_τ0 := hA.fc (by omega) zf0.fc
  have zS_τ0 := hS.fc (by omega) zf0.fc
  skip
  refine y_aload_n (pc := 16) hF dX5_measure_16 0 rfl ?_
  refine y_aload_n (pc := 17) hF dX5_measure_17 1 rfl ?_
  refine y_iload (pc := 18) hF dX5_measure_18 5 rfl ?_
  refine y_iload_n (pc := 20) hF dX5_measure_20 3 rfl ?_
  refine y_iload (pc := 21) hF dX5_measure_21 4 rfl ?_
  refine y_cv (y_rV (pc := 23) hF (tX5_measureSlope k w h T S F P O hn hP zA_τ0 hk s hs1 x y hi) dX5_measure_23 z120 rfl rfl rfl w_878 qX5_measureSlope rfl ⟨Nat.le_of_ble_eq_true rfl, Nat.le_of_ble_eq_true rfl⟩ ⟨Nat.zero_le _, Nat.zero_le _⟩ (Nat.le_of_ble_eq_true rfl) rfl) rfl rfl (fun n' σ23 zp23 => ?_)
  obtain ⟨zn23, zp23⟩ := zp23
  have zn23 := zn23.symm
  subst zn23
  have zA_σ23 := hA.fc (by omega) (zf0.tr (zp23.1.wk (by omega) (by omega))).fc
  have zS_σ23 := hS.fc (by omega) (zf0.tr (zp23.1.wk (by omega) (by omega))).fc
  have zst : σ23 120 0 = sSd w h S s x y := by rw [zp23.1 120 0 (Or.inr (Or.inl (by decide))), hτ0, yset_ap, if_pos ⟨rfl, rfl⟩]
  refine y_aload_n (pc := 26) hF dX5_measure_26 0 rfl ?_
  refine y_aload_n (pc := 27) hF dX5_measure_27 1 rfl ?_
  refine y_iload_n (pc := 28) hF dX5_measure_28 3 rfl ?_
  refine y_iconst (pc := 29) hF dX5_measure_29 ?_
  refine y_iadd (pc := 30) hF dX5_measure_30 ?_
  refine y_iload (pc := 31) hF dX5_measure_31 4 rfl ?_
  have zz33 := y_rV (pc := 33) hF (tX4_isMissing k w h T S F P O hn hP zA_σ23 (x + 1) y zr1 zr0y) dX5_measure_33 zkn (hP.2 g).1 rfl rfl w_885 qX4_isMissing rfl ⟨Nat.le_of_ble_eq_true rfl, Nat.le_of_ble_eq_true rfl⟩ ⟨Nat.zero_le _, Nat.zero_le _⟩ (Nat.le_of_ble_eq_true rfl) rfl (rest := [yR g 120]) (cells := 0) (slots := 0) (lv := [(0, yR g 120), (1, yR g k), (2, yR g cs), (3, yI x), (4, yI y), (5, yI s)])
  refine y_cp (zz33) ?_
  refine y_t_if_eq (pc := 36) hF dX5_measure_36 dX5_measure_39 dX5_measure_40 dX5_measure_43 bi_r ?_
  rw [show (if (bi (sMi w h T (x + 1) y)) = 0 then 0 else 1) = bi (sMi w h T (x + 1) y) from bi_t]
  refine y_aload_n (pc := 44) hF dX5_measure_44 1 rfl ?_
  refine y_iload_n (pc := 45) hF dX5_measure_45 3 rfl ?_
  refine y_iconst (pc := 46) hF dX5_measure_46 ?_
  refine y_isub (pc := 47) hF dX5_measure_47 ?_
  refine y_iload (pc := 48) hF dX5_measure_48 4 rfl ?_
  have zz50 := y_rV (pc := 50) hF (tX4_isMissing k w h T S F P O hn hP zA_σ23 (x - 1) y zr2 zr0y) dX5_measure_50 zkn (hP.2 g).1 rfl rfl w_885 qX4_isMissing rfl ⟨Nat.le_of_ble_eq_true rfl, Nat.le_of_ble_eq_true rfl⟩ ⟨Nat.zero_le _, Nat.zero_le _⟩ (Nat.le_of_ble_eq_true rfl) rfl (rest := [yI (bi (sMi w h T (x + 1) y)), yR g 120]) (cells := 0) (slots := 0) (lv := [(0, yR g 120), (1, yR g k), (2, yR g cs), (3, yI x), (4, yI y), (5, yI s)])
  refine y_cp (zz50) ?_
  refine y_t_if_eq (pc := 53) hF dX5_measure_53 dX5_measure_56 dX5_measure_57 dX5_measure_60 bi_r ?_
  rw [show (if (bi (sMi w h T (x - 1) y)) = 0 then 0 else 1) = bi (sMi w h T (x - 1) y) from bi_t]
  refine y_isub (pc := 61) hF dX5_measure_61 ?_
  refine y_putf (pc := 62) (ci := 5) (σ' := yset σ23 120 3 ((bi (sMi w h T (x + 1) y)) - (bi (sMi w h T (x - 1) y)))) (sch' := (SC g)) hF dX5_measure_62 z120 rfl rfl rfl iX5 3 (by decide) w_320 tyX5 tyX5_ok nmX5 rfl rfl rfl rfl (Nat.le_of_ble_eq_true rfl) rfl (y_ps rfl) (fun k' h => ⟨yset_n h, rfl⟩) ?_
  obtain ⟨τ1, hτ1⟩ : ∃ t, t = yset σ23 120 3 (sOx w h T x y) := ⟨_, rfl⟩
  show yV X0 g 6 _ _ _ (yset σ23 120 3 (sOx w h T x y)) _ _ _ _ _
  rw [← hτ1]
  have zf1 : fk 120 0 6 σ τ1 := by rw [hτ1]; exact (zf0.tr (zp23.1.wk (by omega) (by omega))).st (by omega)
  have zA_τ1 := hA.fc (by omega) zf1.fc
  have zS_τ1 := hS.fc (by omega) zf1.fc
  skip
  refine y_aload_n (pc := 65) hF dX5_measure_65 0 rfl ?_
  refine y_aload_n (pc := 66) hF dX5_measure_66 1 rfl ?_
  refine y_iload_n (pc := 67) hF dX5_measure_67 3 rfl ?_
  refine y_iload (pc := 68) hF dX5_measure_68 4 rfl ?_
  refine y_iconst (pc := 70) hF dX5_measure_70 ?_
  refine y_iadd (pc := 71) hF dX5_measure_71 ?_
  have zz72 := y_rV (pc := 72) hF (tX4_isMissing k w h T S F P O hn hP zA_τ1 x (y + 1) zr0x zr3) dX5_measure_72 zkn (hP.2 g).1 rfl rfl w_885 qX4_isMissing rfl ⟨Nat.le_of_ble_eq_true rfl, Nat.le_of_ble_eq_true rfl⟩ ⟨Nat.zero_le _, Nat.zero_le _⟩ (Nat.le_of_ble_eq_true rfl) rfl (rest := [yR g 120]) (cells := 0) (slots := 0) (lv := [(0, yR g 120), (1, yR g k), (2, yR g cs), (3, yI x), (4, yI y), (5, yI s)])
  refine y_cp (zz72) ?_
  refine y_t_if_eq (pc := 75) hF dX5_measure_75 dX5_measure_78 dX5_measure_79 dX5_measure_82 bi_r ?_
  rw [show (if (bi (sMi w h T x (y + 1))) = 0 then 0 else 1) = bi (sMi w h T x (y + 1)) from bi_t]
  refine y_aload_n (pc := 83) hF dX5_measure_83 1 rfl ?_
  refine y_iload_n (pc := 84) hF dX5_measure_84 3 rfl ?_
  refine y_iload (pc := 85) hF dX5_measure_85 4 rfl ?_
  refine y_iconst (pc := 87) hF dX5_measure_87 ?_
  refine y_isub (pc := 88) hF dX5_measure_88 ?_
  have zz89 := y_rV (pc := 89) hF (tX4_isMissing k w h T S F P O hn hP zA_τ1 x (y - 1) zr0x zr4) dX5_measure_89 zkn (hP.2 g).1 rfl rfl w_885 qX4_isMissing rfl ⟨Nat.le_of_ble_eq_true rfl, Nat.le_of_ble_eq_true rfl⟩ ⟨Nat.zero_le _, Nat.zero_le _⟩ (Nat.le_of_ble_eq_true rfl) rfl (rest := [yI (bi (sMi w h T x (y + 1))), yR g 120]) (cells := 0) (slots := 0) (lv := [(0, yR g 120), (1, yR g k), (2, yR g cs), (3, yI x), (4, yI y), (5, yI s)])
  refine y_cp (zz89) ?_
  refine y_t_if_eq (pc := 92) hF dX5_measure_92 dX5_measure_95 dX5_measure_96 dX5_measure_99 bi_r ?_
  rw [show (if (bi (sMi w h T x (y - 1))) = 0 then 0 else 1) = bi (sMi w h T x (y - 1)) from bi_t]
  refine y_isub (pc := 100) hF dX5_measure_100 ?_
  refine y_putf (pc := 101) (ci := 5) (σ' := yset τ1 120 4 ((bi (sMi w h T x (y + 1))) - (bi (sMi w h T x (y - 1))))) (sch' := (SC g)) hF dX5_measure_101 z120 rfl rfl rfl iX5 4 (by decide) w_322 tyX5 tyX5_ok nmX5 rfl rfl rfl rfl (Nat.le_of_ble_eq_true rfl) rfl (y_ps rfl) (fun k' h => ⟨yset_n h, rfl⟩) ?_
  obtain ⟨τ2, hτ2⟩ : ∃ t, t = yset τ1 120 4 (sOy w h T x y) := ⟨_, rfl⟩
  show yV X0 g 6 _ _ _ (yset τ1 120 4 (sOy w h T x y)) _ _ _ _ _
  rw [← hτ2]
  have zf2 : fk 120 0 6 σ τ2 := by rw [hτ2]; exact zf1.st (by omega)
  have zA_τ2 := hA.fc (by omega) zf2.fc
  have zS_τ2 := hS.fc (by omega) zf2.fc
  have zg0 : τ2 120 0 = sSd w h S s x y := by rw [hτ2, hτ1]; simp [yset_ap]; exact zst
  have zg1 : τ2 120 1 = (sSl w h T s x y).1 := by rw [hτ2, hτ1]; simp [yset_ap]; exact zp23.2.1
  have zg2 : τ2 120 2 = (sSl w h T s x y).2 := by rw [hτ2, hτ1]; simp [yset_ap]; exact zp23.2.2
  have zg3 : τ2 120 3 = sOx w h T x y := by rw [hτ2, hτ1]; simp [yset_ap]
  have zg4 : τ2 120 4 = sOy w h T x y := by rw [hτ2]; simp [yset_ap]
  skip
  refine y_aload_n (pc := 104) hF dX5_measure_104 0 rfl ?_
  refine y_aload_n (pc := 105) hF dX5_measure_105 0 rfl ?_
  refine y_get (pc := 106) (ci := 5) hF dX5_measure_106 z120 rfl rfl rfl iX5 1 (by decide) w_316 rfl ?_
  rw [show τ2 120 1 = (sSl w h T s x y).1 from zg1]
  refine y_aload_n (pc := 109) hF dX5_measure_109 0 rfl ?_
  refine y_get (pc := 110) (ci := 5) hF dX5_measure_110 z120 rfl rfl rfl iX5 4 (by decide) w_322 rfl ?_
  rw [show τ2 120 4 = sOy w h T x y from zg4]
  refine y_imul (pc := 113) hF dX5_measure_113 ?_
  refine y_aload_n (pc := 114) hF dX5_measure_114 0 rfl ?_
  refine y_get (pc := 115) (ci := 5) hF dX5_measure_115 z120 rfl rfl rfl iX5 2 (by decide) w_318 rfl ?_
  rw [show τ2 120 2 = (sSl w h T s x y).2 from zg2]
  refine y_aload_n (pc := 118) hF dX5_measure_118 0 rfl ?_
  refine y_get (pc := 119) (ci := 5) hF dX5_measure_119 z120 rfl rfl rfl iX5 3 (by decide) w_320 rfl ?_
  rw [show τ2 120 3 = sOx w h T x y from zg3]
  refine y_imul (pc := 122) hF dX5_measure_122 ?_
  refine y_isub (pc := 123) hF dX5_measure_123 ?_
  refine y_mabs (pc := 124) hF dX5_measure_124 w_882 w_883 w_103 w_884 (Nat.le_of_ble_eq_true rfl) (Nat.le_of_ble_eq_true rfl) ⟨Nat.zero_le _, Nat.zero_le _⟩ (by have := sFl_in (sSl_bd (s := s) (x := x) (y := y) hA.1.T).1 (sSl_bd (s := s) (x := x) (y := y) hA.1.T).2 (sOx_bd w h T x y).2 (sOx_bd w h T x y).1; omega) ?_
  refine y_iconst (pc := 127) hF dX5_measure_127 ?_
  refine y_iadd (pc := 128) hF dX5_measure_128 ?_
  refine y_putf (pc := 129) (ci := 5) (σ' := yset τ2 120 5 ((Int.natAbs ((((sSl w h T s x y).1) * (sOy w h T x y)) - (((sSl w h T s x y).2) * (sOx w h T x y))) : Int) + 1)) (sch' := (SC g)) hF dX5_measure_129 z120 rfl rfl rfl iX5 5 (by decide) w_324 tyX5 tyX5_ok nmX5 rfl rfl rfl rfl (Nat.le_of_ble_eq_true rfl) rfl (y_ps rfl) (fun k' h => ⟨yset_n h, rfl⟩) ?_
  obtain ⟨τ3, hτ3⟩ : ∃ t, t = yset τ2 120 5 (sFl w h T s x y) := ⟨_, rfl⟩
  show yV X0 g 6 _ _ _ (yset τ2 120 5 (sFl w h T s x y)) _ _ _ _ _
  rw [← hτ3]
  have zf3 : fk 120 0 6 σ τ3 := by rw [hτ3]; exact zf2.st (by omega)
  have zA_τ3 := hA.fc (by omega) zf3.fc
  have zS_τ3 := hS.fc (by omega) zf3.fc
  have zk0 : τ3 120 0 = sSd w h S s x y := by rw [hτ3]; simp [yset_ap]; exact zg0
  have zk5 : τ3 120 5 = sFl w h T s x y := by rw [hτ3]; simp [yset_ap]
  skip
  refine y_aload_n (pc := 132) hF dX5_measure_132 2 rfl ?_
  refine y_getN (pc := 133) (ci := 7) hF dX5_measure_133 zcsn (hcs.2 g) rfl rfl iX7 3 (by decide) w_175 rfl ?_
  rw [show τ3 cs 3 = ra from zS_τ3.1.2.2.2.1]
  rcases Decidable.em (ra = 1) with zw136_0 | zw136_0
  · refine y_lsw (pc := 136) hF dX5_measure_136 (by decide) (by omega) (off := 28) (by rw [zw136_0]; rfl) 164 rfl ?_
    refine y_aload_n (pc := 164) hF dX5_measure_164 0 rfl ?_
    refine y_aload_n (pc := 165) hF dX5_measure_165 0 rfl ?_
    refine y_get (pc := 166) (ci := 5) hF dX5_measure_166 z120 rfl rfl rfl iX5 0 (by decide) w_313 rfl ?_
    rw [show τ3 120 0 = sSd w h S s x y from zk0]
    refine y_putf (pc := 169) (ci := 5) (σ' := yset τ3 120 6 (sSd w h S s x y)) (sch' := (SC g)) hF dX5_measure_169 z120 rfl rfl rfl iX5 6 (by decide) w_326 tyX5 tyX5_ok nmX5 rfl rfl rfl rfl (Nat.le_of_ble_eq_true rfl) rfl (y_ps rfl) (fun k' h => ⟨yset_n h, rfl⟩) ?_
    refine y_goto (pc := 172) hF dX5_measure_172 199 rfl ?_
    exact y_vret (pc := 199) hF dX5_measure_199 (Nat.zero_le _) (Nat.zero_le _) ⟨rfl, rfl, zf3.st (by omega), by rw [hτ3]; simp [yset_ap]; exact zg0, by rw [hτ3]; simp [yset_ap]; exact zg1, by rw [hτ3]; simp [yset_ap]; exact zg2, by rw [hτ3]; simp [yset_ap]; exact zg3, by rw [hτ3]; simp [yset_ap]; exact zg4, by rw [hτ3]; simp [yset_ap], by simp [yset_ap]; unfold sRk; rw [if_pos zw136_0]⟩
  rcases Decidable.em (ra = 2) with zw136_1 | zw136_1
  · refine y_lsw (pc := 136) hF dX5_measure_136 (by decide) (by omega) (off := 39) (by rw [zw136_1]; rfl) 175 rfl ?_
    refine y_aload_n (pc := 175) hF dX5_measure_175 0 rfl ?_
    refine y_aload_n (pc := 176) hF dX5_measure_176 0 rfl ?_
    refine y_get (pc := 177) (ci := 5) hF dX5_measure_177 z120 rfl rfl rfl iX5 5 (by decide) w_324 rfl ?_
    rw [show τ3 120 5 = sFl w h T s x y from zk5]
    refine y_putf (pc := 180) (ci := 5) (σ' := yset τ3 120 6 (sFl w h T s x y)) (sch' := (SC g)) hF dX5_measure_180 z120 rfl rfl rfl iX5 6 (by decide) w_326 tyX5 tyX5_ok nmX5 rfl rfl rfl rfl (Nat.le_of_ble_eq_true rfl) rfl (y_ps rfl) (fun k' h => ⟨yset_n h, rfl⟩) ?_
    refine y_goto (pc := 183) hF dX5_measure_183 199 rfl ?_
    exact y_vret (pc := 199) hF dX5_measure_199 (Nat.zero_le _) (Nat.zero_le _) ⟨rfl, rfl, zf3.st (by omega), by rw [hτ3]; simp [yset_ap]; exact zg0, by rw [hτ3]; simp [yset_ap]; exact zg1, by rw [hτ3]; simp [yset_ap]; exact zg2, by rw [hτ3]; simp [yset_ap]; exact zg3, by rw [hτ3]; simp [yset_ap]; exact zg4, by rw [hτ3]; simp [yset_ap], by simp [yset_ap]; unfold sRk; rw [if_neg zw136_0, if_pos zw136_1]⟩
  refine y_lsw (pc := 136) hF dX5_measure_136 (by decide) (by omega) (off := 50) (by simp [Op.lookupswitch.offset, zw136_0, Ne.symm zw136_0, zw136_1, Ne.symm zw136_1]) 186 rfl ?_
  refine y_aload_n (pc := 186) hF dX5_measure_186 0 rfl ?_
  refine y_aload_n (pc := 187) hF dX5_measure_187 0 rfl ?_
  refine y_get (pc := 188) (ci := 5) hF dX5_measure_188 z120 rfl rfl rfl iX5 0 (by decide) w_313 rfl ?_
  rw [show τ3 120 0 = sSd w h S s x y from zk0]
  refine y_aload_n (pc := 191) hF dX5_measure_191 0 rfl ?_
  refine y_get (pc := 192) (ci := 5) hF dX5_measure_192 z120 rfl rfl rfl iX5 5 (by decide) w_324 rfl ?_
  rw [show τ3 120 5 = sFl w h T s x y from zk5]
  refine y_imul (pc := 195) hF dX5_measure_195 ?_
  refine y_putf (pc := 196) (ci := 5) (σ' := yset τ3 120 6 ((sSd w h S s x y) * (sFl w h T s x y))) (sch' := (SC g)) hF dX5_measure_196 z120 rfl rfl rfl iX5 6 (by decide) w_326 tyX5 tyX5_ok nmX5 rfl rfl rfl rfl (Nat.le_of_ble_eq_true rfl) rfl (y_ps rfl) (fun k' h => ⟨yset_n h, rfl⟩) ?_
  exact y_vret (pc := 199) hF dX5_measure_199 (Nat.zero_le _) (Nat.zero_le _) ⟨rfl, rfl, zf3.st (by omega), by rw [hτ3]; simp [yset_ap]; exact zg0, by rw [hτ3]; simp [yset_ap]; exact zg1, by rw [hτ3]; simp [yset_ap]; exact zg2, by rw [hτ3]; simp [yset_ap]; exact zg3, by rw [hτ3]; simp [yset_ap]; exact zg4, by rw [hτ3]; simp [yset_ap], by simp [yset_ap]; unfold sRk; rw [if_neg zw136_0, if_neg zw136_1]⟩
