theorem dX6_scanInReach_0 : decode cX6_scanInReach 0 = .ok (.aload_n 0, 1) := by decide +kernel
theorem dX6_scanInReach_1 : decode cX6_scanInReach 1 = .ok (.getfield 72, 3) := by decide +kernel
theorem dX6_scanInReach_4 : decode cX6_scanInReach 4 = .ok (.getfield 140, 3) := by decide +kernel
theorem dX6_scanInReach_7 : decode cX6_scanInReach 7 = .ok (.istore_n 1, 1) := by decide +kernel
theorem dX6_scanInReach_8 : decode cX6_scanInReach 8 = .ok (.aload_n 0, 1) := by decide +kernel
theorem dX6_scanInReach_9 : decode cX6_scanInReach 9 = .ok (.aload_n 0, 1) := by decide +kernel
theorem dX6_scanInReach_10 : decode cX6_scanInReach 10 = .ok (.getfield 9, 3) := by decide +kernel
theorem dX6_scanInReach_13 : decode cX6_scanInReach 13 = .ok (.iload_n 1, 1) := by decide +kernel
theorem dX6_scanInReach_14 : decode cX6_scanInReach 14 = .ok (.isub, 1) := by decide +kernel
theorem dX6_scanInReach_15 : decode cX6_scanInReach 15 = .ok (.aload_n 0, 1) := by decide +kernel
theorem dX6_scanInReach_16 : decode cX6_scanInReach 16 = .ok (.getfield 15, 3) := by decide +kernel
theorem dX6_scanInReach_19 : decode cX6_scanInReach 19 = .ok (.iload_n 1, 1) := by decide +kernel
theorem dX6_scanInReach_20 : decode cX6_scanInReach 20 = .ok (.isub, 1) := by decide +kernel
theorem dX6_scanInReach_21 : decode cX6_scanInReach 21 = .ok (.aload_n 0, 1) := by decide +kernel
theorem dX6_scanInReach_22 : decode cX6_scanInReach 22 = .ok (.getfield 9, 3) := by decide +kernel
theorem dX6_scanInReach_25 : decode cX6_scanInReach 25 = .ok (.iload_n 1, 1) := by decide +kernel
theorem dX6_scanInReach_26 : decode cX6_scanInReach 26 = .ok (.iadd, 1) := by decide +kernel
theorem dX6_scanInReach_27 : decode cX6_scanInReach 27 = .ok (.aload_n 0, 1) := by decide +kernel
theorem dX6_scanInReach_28 : decode cX6_scanInReach 28 = .ok (.getfield 15, 3) := by decide +kernel
theorem dX6_scanInReach_31 : decode cX6_scanInReach 31 = .ok (.iload_n 1, 1) := by decide +kernel
theorem dX6_scanInReach_32 : decode cX6_scanInReach 32 = .ok (.iadd, 1) := by decide +kernel
theorem dX6_scanInReach_33 : decode cX6_scanInReach 33 = .ok (.invokevirtual 143, 3) := by decide +kernel
theorem dX6_scanInReach_36 : decode cX6_scanInReach 36 = .ok (.return_, 1) := by decide +kernel
set_option maxHeartbeats 4000000 in
set_option maxRecDepth 100000 in
theorem tX6_scanInReach {l : Launch} {g : yG} {n : Nat} {σ : yM} (k cs : Nat) (w h : Int) (T S F P O : Int → Int → Int) (s re fo ra tu we sh : Int) (hn : 172 ≤ n) (hP : isPic k) (hcs : isSet cs) (hA : rC σ k w h T S F P O) (hS : rS σ cs s re fo ra tu we sh) (hk : k + 5 < 120 ∨ 130 < k) (hc2 : cs < 120 ∨ 130 < cs) (ax ay : Int) (hB : rA σ k cs ax ay) (hi : sIn w h ax ay = true) (hU : rU σ w h T F fo) (hG : rG σ w T S we ax ay (kL w h T s ax ay)) (q0_ : aQ) (hQ : rQ σ w q0_) (hqo : qOk w h T s q0_) (hqs : qSo q0_ ≤ 10000) : yMet l g yX6_scanInReach cX6_scanInReach 2 none (rmL 4) [yR g 123] (SC g) n σ (SC g) (yPv (fun n' σ' => n' = n ∧ fk 123 10 19 σ σ' ∧ rQ σ' w (fr2 (scF w h T S F s fo tu we sh ax ay re) 0 w.toNat 0 h.toNat q0_) ∧ qOk w h T s (fr2 (scF w h T S F s fo tu we sh ax ay re) 0 w.toNat 0 h.toNat q0_))) := by
  obtain ⟨hw1, hw2, hw3, hw4⟩ := id hA.1.1
  obtain ⟨hs1, hs2, hs3, hs4, hs5, hs6, hs7⟩ := id hS.2
  have zkn : k < n := by have := hP.1; omega
  have zcsn : cs < n := by have := hcs.1; omega
  have z123 : 123 < n := by omega
  have z124 : 124 < n := by omega
  have z125 : 125 < n := by omega
  have z126 : 126 < n := by omega
  have z127 : 127 < n := by omega
  have zkn1 : k + 1 < n := by have := hP.1; omega
  have zkn2 : k + 2 < n := by have := hP.1; omega
  have zkn3 : k + 3 < n := by have := hP.1; omega
  have zkn4 : k + 4 < n := by have := hP.1; omega
  have zkn5 : k + 5 < n := by have := hP.1; omega
  have zi := sIn_iff.mp hi
  refine y_start (by decide) (Nat.le_of_ble_eq_true rfl) (fun X0 hF => ?_)
  show yV X0 g 2 (yQ X0 g (SC g) (yPv (fun n' σ' => n' = n ∧ fk 123 10 19 σ σ' ∧ rQ σ' w (fr2 (scF w h T S F s fo tu we sh ax ay re) 0 w.toNat 0 h.toNat q0_) ∧ qOk w h T s (fr2 (scF w h T S F s fo tu we sh ax ay re) 0 w.toNat 0 h.toNat q0_))) (rmL 4)) (SC g) n σ 0 0 0 [(0, yR g 123)] []
  refine y_aload_n (pc := 0) hF dX6_scanInReach_0 0 rfl ?_
  refine y_get (pc := 1) (ci := 6) hF dX6_scanInReach_1 z123 rfl rfl rfl iX6 1 (by decide) w_362 rfl ?_
  rw [show (σ 123 1).toNat = cs from hB.c]
  refine y_getN (pc := 4) (ci := 7) hF dX6_scanInReach_4 zcsn (hcs.2 g) rfl rfl iX7 1 (by decide) w_169 rfl ?_
  rw [show σ cs 1 = re from hS.1.2.1]
  refine y_istore_n (pc := 7) (lv' := [(0, yR g 123), (1, yI re)]) hF dX6_scanInReach_7 (by decide) rfl rfl ?_
  refine y_aload_n (pc := 8) hF dX6_scanInReach_8 0 rfl ?_
  refine y_aload_n (pc := 9) hF dX6_scanInReach_9 0 rfl ?_
  refine y_get (pc := 10) (ci := 6) hF dX6_scanInReach_10 z123 rfl rfl rfl iX6 2 (by decide) w_363 rfl ?_
  rw [show σ 123 2 = ax from hB.2.2.1]
  refine y_iload_n (pc := 13) hF dX6_scanInReach_13 1 rfl ?_
  refine y_isub (pc := 14) hF dX6_scanInReach_14 ?_
  refine y_aload_n (pc := 15) hF dX6_scanInReach_15 0 rfl ?_
  refine y_get (pc := 16) (ci := 6) hF dX6_scanInReach_16 z123 rfl rfl rfl iX6 3 (by decide) w_366 rfl ?_
  rw [show σ 123 3 = ay from hB.2.2.2]
  refine y_iload_n (pc := 19) hF dX6_scanInReach_19 1 rfl ?_
  refine y_isub (pc := 20) hF dX6_scanInReach_20 ?_
  refine y_aload_n (pc := 21) hF dX6_scanInReach_21 0 rfl ?_
  refine y_get (pc := 22) (ci := 6) hF dX6_scanInReach_22 z123 rfl rfl rfl iX6 2 (by decide) w_363 rfl ?_
  rw [show σ 123 2 = ax from hB.2.2.1]
  refine y_iload_n (pc := 25) hF dX6_scanInReach_25 1 rfl ?_
  refine y_iadd (pc := 26) hF dX6_scanInReach_26 ?_
  refine y_aload_n (pc := 27) hF dX6_scanInReach_27 0 rfl ?_
  refine y_get (pc := 28) (ci := 6) hF dX6_scanInReach_28 z123 rfl rfl rfl iX6 3 (by decide) w_366 rfl ?_
  rw [show σ 123 3 = ay from hB.2.2.2]
  refine y_iload_n (pc := 31) hF dX6_scanInReach_31 1 rfl ?_
  refine y_iadd (pc := 32) hF dX6_scanInReach_32 ?_
  refine y_cv (y_rV (pc := 33) hF (tX6_scan k cs w h T S F P O s re fo ra tu we sh hn hP hcs hA hS hk hc2 ax ay hB hU hG (ax - re) (ay - re) (ax + re) (ay + re) (by omega) (by omega) (by omega) (by omega) q0_ hQ hqo hqs) dX6_scanInReach_33 z123 rfl rfl rfl w_926 qX6_scan rfl ⟨Nat.le_of_ble_eq_true rfl, Nat.le_of_ble_eq_true rfl⟩ ⟨Nat.zero_le _, Nat.zero_le _⟩ (Nat.le_of_ble_eq_true rfl) rfl) rfl rfl (fun n' σ33 zp33 => ?_)
  obtain ⟨zn33, zp33⟩ := zp33
  have zn33 := zn33.symm
  subst zn33
  exact y_vret (pc := 36) hF dX6_scanInReach_36 (Nat.zero_le _) (Nat.zero_le _) ⟨rfl, rfl, zp33.1, by rw [scan_re hw1 hw3]; exact zp33.2⟩
