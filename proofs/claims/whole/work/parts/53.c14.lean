theorem dX6_scanGuided_0 : decode cX6_scanGuided 0 = .ok (.aload_n 0, 1) := by decide +kernel
theorem dX6_scanGuided_1 : decode cX6_scanGuided 1 = .ok (.getfield 9, 3) := by decide +kernel
theorem dX6_scanGuided_4 : decode cX6_scanGuided 4 = .ok (.iconst 2, 1) := by decide +kernel
theorem dX6_scanGuided_5 : decode cX6_scanGuided 5 = .ok (.idiv, 1) := by decide +kernel
theorem dX6_scanGuided_6 : decode cX6_scanGuided 6 = .ok (.istore_n 2, 1) := by decide +kernel
theorem dX6_scanGuided_7 : decode cX6_scanGuided 7 = .ok (.aload_n 0, 1) := by decide +kernel
theorem dX6_scanGuided_8 : decode cX6_scanGuided 8 = .ok (.getfield 15, 3) := by decide +kernel
theorem dX6_scanGuided_11 : decode cX6_scanGuided 11 = .ok (.iconst 2, 1) := by decide +kernel
theorem dX6_scanGuided_12 : decode cX6_scanGuided 12 = .ok (.idiv, 1) := by decide +kernel
theorem dX6_scanGuided_13 : decode cX6_scanGuided 13 = .ok (.istore_n 3, 1) := by decide +kernel
theorem dX6_scanGuided_14 : decode cX6_scanGuided 14 = .ok (.aload_n 1, 1) := by decide +kernel
theorem dX6_scanGuided_15 : decode cX6_scanGuided 15 = .ok (.iload_n 2, 1) := by decide +kernel
theorem dX6_scanGuided_16 : decode cX6_scanGuided 16 = .ok (.iload_n 3, 1) := by decide +kernel
theorem dX6_scanGuided_17 : decode cX6_scanGuided 17 = .ok (.invokevirtual 147, 3) := by decide +kernel
theorem dX6_scanGuided_20 : decode cX6_scanGuided 20 = .ok (.ifCond .ne 4, 3) := by decide +kernel
theorem dX6_scanGuided_23 : decode cX6_scanGuided 23 = .ok (.return_, 1) := by decide +kernel
theorem dX6_scanGuided_24 : decode cX6_scanGuided 24 = .ok (.aload_n 1, 1) := by decide +kernel
theorem dX6_scanGuided_25 : decode cX6_scanGuided 25 = .ok (.getfield 150, 3) := by decide +kernel
theorem dX6_scanGuided_28 : decode cX6_scanGuided 28 = .ok (.aload_n 1, 1) := by decide +kernel
theorem dX6_scanGuided_29 : decode cX6_scanGuided 29 = .ok (.iload_n 2, 1) := by decide +kernel
theorem dX6_scanGuided_30 : decode cX6_scanGuided 30 = .ok (.iload_n 3, 1) := by decide +kernel
theorem dX6_scanGuided_31 : decode cX6_scanGuided 31 = .ok (.invokevirtual 95, 3) := by decide +kernel
theorem dX6_scanGuided_34 : decode cX6_scanGuided 34 = .ok (.iaload, 1) := by decide +kernel
theorem dX6_scanGuided_35 : decode cX6_scanGuided 35 = .ok (.istore 4, 2) := by decide +kernel
theorem dX6_scanGuided_37 : decode cX6_scanGuided 37 = .ok (.iload 4, 2) := by decide +kernel
theorem dX6_scanGuided_39 : decode cX6_scanGuided 39 = .ok (.iconst (-1), 1) := by decide +kernel
theorem dX6_scanGuided_40 : decode cX6_scanGuided 40 = .ok (.if_icmp .eq 43, 3) := by decide +kernel
theorem dX6_scanGuided_43 : decode cX6_scanGuided 43 = .ok (.iconst 2, 1) := by decide +kernel
theorem dX6_scanGuided_44 : decode cX6_scanGuided 44 = .ok (.aload_n 1, 1) := by decide +kernel
theorem dX6_scanGuided_45 : decode cX6_scanGuided 45 = .ok (.iload 4, 2) := by decide +kernel
theorem dX6_scanGuided_47 : decode cX6_scanGuided 47 = .ok (.invokevirtual 153, 3) := by decide +kernel
theorem dX6_scanGuided_50 : decode cX6_scanGuided 50 = .ok (.imul, 1) := by decide +kernel
theorem dX6_scanGuided_51 : decode cX6_scanGuided 51 = .ok (.iconst 1, 1) := by decide +kernel
theorem dX6_scanGuided_52 : decode cX6_scanGuided 52 = .ok (.isub, 1) := by decide +kernel
theorem dX6_scanGuided_53 : decode cX6_scanGuided 53 = .ok (.istore 5, 2) := by decide +kernel
theorem dX6_scanGuided_55 : decode cX6_scanGuided 55 = .ok (.iconst 2, 1) := by decide +kernel
theorem dX6_scanGuided_56 : decode cX6_scanGuided 56 = .ok (.aload_n 1, 1) := by decide +kernel
theorem dX6_scanGuided_57 : decode cX6_scanGuided 57 = .ok (.iload 4, 2) := by decide +kernel
theorem dX6_scanGuided_59 : decode cX6_scanGuided 59 = .ok (.invokevirtual 156, 3) := by decide +kernel
theorem dX6_scanGuided_62 : decode cX6_scanGuided 62 = .ok (.imul, 1) := by decide +kernel
theorem dX6_scanGuided_63 : decode cX6_scanGuided 63 = .ok (.iconst 1, 1) := by decide +kernel
theorem dX6_scanGuided_64 : decode cX6_scanGuided 64 = .ok (.isub, 1) := by decide +kernel
theorem dX6_scanGuided_65 : decode cX6_scanGuided 65 = .ok (.istore 6, 2) := by decide +kernel
theorem dX6_scanGuided_67 : decode cX6_scanGuided 67 = .ok (.aload_n 0, 1) := by decide +kernel
theorem dX6_scanGuided_68 : decode cX6_scanGuided 68 = .ok (.iload 5, 2) := by decide +kernel
theorem dX6_scanGuided_70 : decode cX6_scanGuided 70 = .ok (.iload 6, 2) := by decide +kernel
theorem dX6_scanGuided_72 : decode cX6_scanGuided 72 = .ok (.iload 5, 2) := by decide +kernel
theorem dX6_scanGuided_74 : decode cX6_scanGuided 74 = .ok (.iconst 3, 1) := by decide +kernel
theorem dX6_scanGuided_75 : decode cX6_scanGuided 75 = .ok (.iadd, 1) := by decide +kernel
theorem dX6_scanGuided_76 : decode cX6_scanGuided 76 = .ok (.iload 6, 2) := by decide +kernel
theorem dX6_scanGuided_78 : decode cX6_scanGuided 78 = .ok (.iconst 3, 1) := by decide +kernel
theorem dX6_scanGuided_79 : decode cX6_scanGuided 79 = .ok (.iadd, 1) := by decide +kernel
theorem dX6_scanGuided_80 : decode cX6_scanGuided 80 = .ok (.invokevirtual 143, 3) := by decide +kernel
theorem dX6_scanGuided_83 : decode cX6_scanGuided 83 = .ok (.return_, 1) := by decide +kernel
set_option maxHeartbeats 4000000 in
set_option maxRecDepth 100000 in
theorem tX6_scanGuided {l : Launch} {g : yG} {n : Nat} {σ : yM} (k cs : Nat) (w h : Int) (T S F P O : Int → Int → Int) (s re fo ra tu we sh : Int) (hn : 172 ≤ n) (hP : isPic k) (hcs : isSet cs) (hA : rC σ k w h T S F P O) (hS : rS σ cs s re fo ra tu we sh) (hk : k + 5 < 120 ∨ 130 < k) (hc2 : cs < 120 ∨ 130 < cs) (ax ay : Int) (hB : rA σ k cs ax ay) (k2 : Nat) (w2 h2 : Int) (T2 S2 F2 P2 O2 : Int → Int → Int) (hP2 : isPic k2) (hA2 : rC σ k2 w2 h2 T2 S2 F2 P2 O2) (hi2 : sIn w2 h2 (ax / 2) (ay / 2) = true) (hi : sIn w h ax ay = true) (hU : rU σ w h T F fo) (hG : rG σ w T S we ax ay (kL w h T s ax ay)) (q0_ : aQ) (hQ : rQ σ w q0_) (hqo : qOk w h T s q0_) (hqs : qSo q0_ ≤ 10000) : yMet l g yX6_scanGuided cX6_scanGuided 7 none (rmL 4) [yR g 123, yR g k2] (SC g) n σ (SC g) (yPv (fun n' σ' => n' = n ∧ fk 123 10 19 σ σ' ∧ rQ σ' w (if 0 < F2 (ax / 2) (ay / 2) then fr2 (sgF w h T S F s fo tu we sh ax ay) (2 * ((P2 (ax / 2) (ay / 2)) % 20) - 1) 4 (2 * ((P2 (ax / 2) (ay / 2)) / 20) - 1) 4 q0_ else q0_) ∧ qOk w h T s (if 0 < F2 (ax / 2) (ay / 2) then fr2 (sgF w h T S F s fo tu we sh ax ay) (2 * ((P2 (ax / 2) (ay / 2)) % 20) - 1) 4 (2 * ((P2 (ax / 2) (ay / 2)) / 20) - 1) 4 q0_ else q0_))) := by
  obtain ⟨hw1, hw2, hw3, hw4⟩ := id hA.1.1
  obtain ⟨hs1, hs2, hs3, hs4, hs5, hs6, hs7⟩ := id hS.2
  have zkn : k < n := by have := hP.1; omega
  have zcsn : cs < n := by have := hcs.1; omega
  have z123 : 123 < n := by omega
  have z124 : 124 < n := by omega
  have z125 : 125 < n := by omega
  have z126 : 126 < n := by omega
  have z127 : 127 < n := by omega
  have zkn1 : k + 1 < n := by have := hP.1; omega
  have zkn2 : k + 2 < n := by have := hP.1; omega
  have zkn3 : k + 3 < n := by have := hP.1; omega
  have zkn4 : k + 4 < n := by have := hP.1; omega
  have zkn5 : k + 5 < n := by have := hP.1; omega
  have zi := sIn_iff.mp hi
  have zi2 := sIn_iff.mp hi2
  obtain ⟨hv1, hv2, hv3, hv4⟩ := id hA2.1.1
  have zm2 := hA2.2.2.2 (ax / 2) (ay / 2) (by omega) (by omega) (by omega) (by omega)
  have zt2 := hA2.1.2 (ax / 2) (ay / 2) (by omega) (by omega) (by omega) (by omega)
  have zx2 := y_ix (w := w2) (h := h2) (x := ax / 2) (y := ay / 2) ⟨hv1, hv2⟩ ⟨hv3, hv4⟩ (by omega) (by omega)
  have zcb := cI_bd ⟨hv1, hv2⟩ ⟨hv3, hv4⟩ zt2.2.2.2.1
  have zrc : -2147483648 ≤ cI w2 (P2 (ax / 2) (ay / 2)) ∧ cI w2 (P2 (ax / 2) (ay / 2)) < 2147483648 := by omega
  refine y_start (by decide) (Nat.le_of_ble_eq_true rfl) (fun X0 hF => ?_)
  show yV X0 g 7 (yQ X0 g (SC g) (yPv (fun n' σ' => n' = n ∧ fk 123 10 19 σ σ' ∧ rQ σ' w (if 0 < F2 (ax / 2) (ay / 2) then fr2 (sgF w h T S F s fo tu we sh ax ay) (2 * ((P2 (ax / 2) (ay / 2)) % 20) - 1) 4 (2 * ((P2 (ax / 2) (ay / 2)) / 20) - 1) 4 q0_ else q0_) ∧ qOk w h T s (if 0 < F2 (ax / 2) (ay / 2) then fr2 (sgF w h T S F s fo tu we sh ax ay) (2 * ((P2 (ax / 2) (ay / 2)) % 20) - 1) 4 (2 * ((P2 (ax / 2) (ay / 2)) / 20) - 1) 4 q0_ else q0_))) (rmL 4)) (SC g) n σ 0 0 0 [(0, yR g 123), (1, yR g k2)] []
  refine y_aload_n (pc := 0) hF dX6_scanGuided_0 0 rfl ?_
  refine y_get (pc := 1) (ci := 6) hF dX6_scanGuided_1 z123 rfl rfl rfl iX6 2 (by decide) w_363 rfl ?_
  rw [show σ 123 2 = ax from hB.2.2.1]
  refine y_iconst (pc := 4) hF dX6_scanGuided_4 ?_
  refine y_idiv (pc := 5) hF dX6_scanGuided_5 (by omega) (by omega) (by omega) ?_
  rw [show Int.tdiv ax 2 = ax / 2 from (y_quo (by omega))]
  refine y_istore_n (pc := 6) (lv' := [(0, yR g 123), (1, yR g k2), (2, yI (ax / 2))]) hF dX6_scanGuided_6 (by decide) rfl rfl ?_
  refine y_aload_n (pc := 7) hF dX6_scanGuided_7 0 rfl ?_
  refine y_get (pc := 8) (ci := 6) hF dX6_scanGuided_8 z123 rfl rfl rfl iX6 3 (by decide) w_366 rfl ?_
  rw [show σ 123 3 = ay from hB.2.2.2]
  refine y_iconst (pc := 11) hF dX6_scanGuided_11 ?_
  refine y_idiv (pc := 12) hF dX6_scanGuided_12 (by omega) (by omega) (by omega) ?_
  rw [show Int.tdiv ay 2 = ay / 2 from (y_quo (by omega))]
  refine y_istore_n (pc := 13) (lv' := [(0, yR g 123), (1, yR g k2), (2, yI (ax / 2)), (3, yI (ay / 2))]) hF dX6_scanGuided_13 (by decide) rfl rfl ?_
  refine y_aload_n (pc := 14) hF dX6_scanGuided_14 1 rfl ?_
  refine y_iload_n (pc := 15) hF dX6_scanGuided_15 2 rfl ?_
  refine y_iload_n (pc := 16) hF dX6_scanGuided_16 3 rfl ?_
  have zz17 := y_rV (pc := 17) hF (tX4_has k2 w2 h2 T2 S2 F2 P2 O2 hn hP2 hA2 (ax / 2) (ay / 2) (by omega) (by omega)) dX6_scanGuided_17 (by have := hP2.1; omega) (hP2.2 g).1 rfl rfl w_923 qX4_has rfl ⟨Nat.le_of_ble_eq_true rfl, Nat.le_of_ble_eq_true rfl⟩ ⟨Nat.zero_le _, Nat.zero_le _⟩ (Nat.le_of_ble_eq_true rfl) rfl (rest := []) (cells := 0) (slots := 0) (lv := [(0, yR g 123), (1, yR g k2), (2, yI (ax / 2)), (3, yI (ay / 2))])
  refine y_cp (zz17) ?_
  refine y_if_ne (pc := 20) hF dX6_scanGuided_20 24 rfl bi_r (fun zc20 => ?_) (fun zc20 => ?_)
  · replace zc20 := bi_n0.mp zc20
    refine y_aload_n (pc := 24) hF dX6_scanGuided_24 1 rfl ?_
    refine y_getN (pc := 25) (ci := 4) hF dX6_scanGuided_25 (by have := hP2.1; omega) (hP2.2 g).1 rfl rfl iX4 5 (by decide) w_232 rfl ?_
    refine y_aload_n (pc := 28) hF dX6_scanGuided_28 1 rfl ?_
    refine y_iload_n (pc := 29) hF dX6_scanGuided_29 2 rfl ?_
    refine y_iload_n (pc := 30) hF dX6_scanGuided_30 3 rfl ?_
    have zz31 := y_rV (pc := 31) hF (tX4_at k2 w2 h2 T2 S2 F2 P2 O2 hn hP2 hA2 (ax / 2) (ay / 2)) dX6_scanGuided_31 (by have := hP2.1; omega) (hP2.2 g).1 rfl rfl w_901 qX4_at rfl ⟨Nat.le_of_ble_eq_true rfl, Nat.le_of_ble_eq_true rfl⟩ ⟨Nat.zero_le _, Nat.zero_le _⟩ (Nat.le_of_ble_eq_true rfl) rfl (rest := [yR g (k2 + 4)]) (cells := 0) (slots := 0) (lv := [(0, yR g 123), (1, yR g k2), (2, yI (ax / 2)), (3, yI (ay / 2))])
    refine y_cp (zz31) ?_
    refine y_iaload (pc := 34) hF dX6_scanGuided_34 (by have := hP2.1; omega) (hP2.2 g).2.2.2.2.1 (by omega) (by decide) ?_
    rw [show σ (k2 + 4) ((ay / 2) * w2 + (ax / 2)) = cI w2 (P2 (ax / 2) (ay / 2)) from zm2.2.2.2.1]
    refine y_istore (pc := 35) (lv' := [(0, yR g 123), (1, yR g k2), (2, yI (ax / 2)), (3, yI (ay / 2)), (4, yI (cI w2 (P2 (ax / 2) (ay / 2))))]) hF dX6_scanGuided_35 (by decide) rfl rfl ?_
    refine y_iload (pc := 37) hF dX6_scanGuided_37 4 rfl ?_
    refine y_iconst (pc := 39) hF dX6_scanGuided_39 ?_
    refine y_icmp_eq (pc := 40) hF dX6_scanGuided_40 83 rfl zrc (by decide) (fun zc40 => ?_) (fun zc40 => ?_)
    · skip
      exact y_vret (pc := 83) hF dX6_scanGuided_83 (Nat.zero_le _) (Nat.zero_le _) ⟨rfl, rfl, fk.rf σ, by rw [if_neg (fun ze => absurd (zt2.2.2.2.2.2.1.mp ze) (by omega))]; exact ⟨hQ, hqo⟩⟩
    · skip
      have zp0 : 0 ≤ (P2 (ax / 2) (ay / 2)) := by omega
      have zcx := cI_xy hv1 zt2.2.2.2.1 zp0
      have zco : (P2 (ax / 2) (ay / 2)) % 20 < w2 ∧ (P2 (ax / 2) (ay / 2)) / 20 < h2 := by rcases zt2.2.2.2.1 with e | e; (omega); exact e.2
      refine y_iconst (pc := 43) hF dX6_scanGuided_43 ?_
      refine y_aload_n (pc := 44) hF dX6_scanGuided_44 1 rfl ?_
      refine y_iload (pc := 45) hF dX6_scanGuided_45 4 rfl ?_
      have zz47 := y_rV (pc := 47) hF (tX4_xOf k2 w2 h2 T2 S2 F2 P2 O2 hn hP2 hA2 (cI w2 (P2 (ax / 2) (ay / 2))) zrc) dX6_scanGuided_47 (by have := hP2.1; omega) (hP2.2 g).1 rfl rfl w_924 qX4_xOf rfl ⟨Nat.le_of_ble_eq_true rfl, Nat.le_of_ble_eq_true rfl⟩ ⟨Nat.zero_le _, Nat.zero_le _⟩ (Nat.le_of_ble_eq_true rfl) rfl (rest := [yI 2]) (cells := 0) (slots := 0) (lv := [(0, yR g 123), (1, yR g k2), (2, yI (ax / 2)), (3, yI (ay / 2)), (4, yI (cI w2 (P2 (ax / 2) (ay / 2))))])
      refine y_cp (zz47) ?_
      rw [show cx w2 (cI w2 (P2 (ax / 2) (ay / 2))) = (P2 (ax / 2) (ay / 2)) % 20 from zcx.1]
      refine y_imul (pc := 50) hF dX6_scanGuided_50 ?_
      refine y_iconst (pc := 51) hF dX6_scanGuided_51 ?_
      refine y_isub (pc := 52) hF dX6_scanGuided_52 ?_
      refine y_istore (pc := 53) (lv' := [(0, yR g 123), (1, yR g k2), (2, yI (ax / 2)), (3, yI (ay / 2)), (4, yI (cI w2 (P2 (ax / 2) (ay / 2)))), (5, yI ((2 * ((P2 (ax / 2) (ay / 2)) % 20)) - 1))]) hF dX6_scanGuided_53 (by decide) rfl rfl ?_
      refine y_iconst (pc := 55) hF dX6_scanGuided_55 ?_
      refine y_aload_n (pc := 56) hF dX6_scanGuided_56 1 rfl ?_
      refine y_iload (pc := 57) hF dX6_scanGuided_57 4 rfl ?_
      have zz59 := y_rV (pc := 59) hF (tX4_yOf k2 w2 h2 T2 S2 F2 P2 O2 hn hP2 hA2 (cI w2 (P2 (ax / 2) (ay / 2))) zrc) dX6_scanGuided_59 (by have := hP2.1; omega) (hP2.2 g).1 rfl rfl w_925 qX4_yOf rfl ⟨Nat.le_of_ble_eq_true rfl, Nat.le_of_ble_eq_true rfl⟩ ⟨Nat.zero_le _, Nat.zero_le _⟩ (Nat.le_of_ble_eq_true rfl) rfl (rest := [yI 2]) (cells := 0) (slots := 0) (lv := [(0, yR g 123), (1, yR g k2), (2, yI (ax / 2)), (3, yI (ay / 2)), (4, yI (cI w2 (P2 (ax / 2) (ay / 2)))), (5, yI ((2 * ((P2 (ax / 2) (ay / 2)) % 20)) - 1))])
      refine y_cp (zz59) ?_
      rw [show cy w2 (cI w2 (P2 (ax / 2) (ay / 2))) = (P2 (ax / 2) (ay / 2)) / 20 from zcx.2.1]
      refine y_imul (pc := 62) hF dX6_scanGuided_62 ?_
      refine y_iconst (pc := 63) hF dX6_scanGuided_63 ?_
      refine y_isub (pc := 64) hF dX6_scanGuided_64 ?_
      refine y_istore (pc := 65) (lv' := [(0, yR g 123), (1, yR g k2), (2, yI (ax / 2)), (3, yI (ay / 2)), (4, yI (cI w2 (P2 (ax / 2) (ay / 2)))), (5, yI ((2 * ((P2 (ax / 2) (ay / 2)) % 20)) - 1)), (6, yI ((2 * ((P2 (ax / 2) (ay / 2)) / 20)) - 1))]) hF dX6_scanGuided_65 (by decide) rfl rfl ?_
      refine y_aload_n (pc := 67) hF dX6_scanGuided_67 0 rfl ?_
      refine y_iload (pc := 68) hF dX6_scanGuided_68 5 rfl ?_
      refine y_iload (pc := 70) hF dX6_scanGuided_70 6 rfl ?_
      refine y_iload (pc := 72) hF dX6_scanGuided_72 5 rfl ?_
      refine y_iconst (pc := 74) hF dX6_scanGuided_74 ?_
      refine y_iadd (pc := 75) hF dX6_scanGuided_75 ?_
      refine y_iload (pc := 76) hF dX6_scanGuided_76 6 rfl ?_
      refine y_iconst (pc := 78) hF dX6_scanGuided_78 ?_
      refine y_iadd (pc := 79) hF dX6_scanGuided_79 ?_
      refine y_cv (y_rV (pc := 80) hF (tX6_scan k cs w h T S F P O s re fo ra tu we sh hn hP hcs hA hS hk hc2 ax ay hB hU hG ((2 * ((P2 (ax / 2) (ay / 2)) % 20)) - 1) ((2 * ((P2 (ax / 2) (ay / 2)) / 20)) - 1) (((2 * ((P2 (ax / 2) (ay / 2)) % 20)) - 1) + 3) (((2 * ((P2 (ax / 2) (ay / 2)) / 20)) - 1) + 3) (by omega) (by omega) (by omega) (by omega) q0_ hQ hqo hqs) dX6_scanGuided_80 z123 rfl rfl rfl w_926 qX6_scan rfl ⟨Nat.le_of_ble_eq_true rfl, Nat.le_of_ble_eq_true rfl⟩ ⟨Nat.zero_le _, Nat.zero_le _⟩ (Nat.le_of_ble_eq_true rfl) rfl) rfl rfl (fun n' σ80 zp80 => ?_)
      obtain ⟨zn80, zp80⟩ := zp80
      have zn80 := zn80.symm
      subst zn80
      exact y_vret (pc := 83) hF dX6_scanGuided_83 (Nat.zero_le _) (Nat.zero_le _) ⟨rfl, rfl, zp80.1, by rw [if_pos (zt2.2.2.2.2.2.1.mpr zp0), scan_gu]; exact zp80.2⟩
  · replace zc20 := bi_0.mp zc20
    exact y_vret (pc := 23) hF dX6_scanGuided_23 (Nat.zero_le _) (Nat.zero_le _) ⟨rfl, rfl, by rw [hi2] at zc20; exact absurd zc20 (by decide)⟩
