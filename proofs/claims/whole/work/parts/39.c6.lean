theorem dX6_placeStep_0 : decode cX6_placeStep 0 = .ok (.getstatic 122, 3) := by decide +kernel
theorem dX6_placeStep_3 : decode cX6_placeStep 3 = .ok (.iload_n 3, 1) := by decide +kernel
theorem dX6_placeStep_4 : decode cX6_placeStep 4 = .ok (.iaload, 1) := by decide +kernel
theorem dX6_placeStep_5 : decode cX6_placeStep 5 = .ok (.iload_n 1, 1) := by decide +kernel
theorem dX6_placeStep_6 : decode cX6_placeStep 6 = .ok (.imul, 1) := by decide +kernel
theorem dX6_placeStep_7 : decode cX6_placeStep 7 = .ok (.getstatic 125, 3) := by decide +kernel
theorem dX6_placeStep_10 : decode cX6_placeStep 10 = .ok (.iload_n 3, 1) := by decide +kernel
theorem dX6_placeStep_11 : decode cX6_placeStep 11 = .ok (.iaload, 1) := by decide +kernel
theorem dX6_placeStep_12 : decode cX6_placeStep 12 = .ok (.iload_n 2, 1) := by decide +kernel
theorem dX6_placeStep_13 : decode cX6_placeStep 13 = .ok (.imul, 1) := by decide +kernel
theorem dX6_placeStep_14 : decode cX6_placeStep 14 = .ok (.iadd, 1) := by decide +kernel
theorem dX6_placeStep_15 : decode cX6_placeStep 15 = .ok (.istore 4, 2) := by decide +kernel
theorem dX6_placeStep_17 : decode cX6_placeStep 17 = .ok (.getstatic 128, 3) := by decide +kernel
theorem dX6_placeStep_20 : decode cX6_placeStep 20 = .ok (.iload_n 3, 1) := by decide +kernel
theorem dX6_placeStep_21 : decode cX6_placeStep 21 = .ok (.iaload, 1) := by decide +kernel
theorem dX6_placeStep_22 : decode cX6_placeStep 22 = .ok (.iload_n 1, 1) := by decide +kernel
theorem dX6_placeStep_23 : decode cX6_placeStep 23 = .ok (.imul, 1) := by decide +kernel
theorem dX6_placeStep_24 : decode cX6_placeStep 24 = .ok (.getstatic 131, 3) := by decide +kernel
theorem dX6_placeStep_27 : decode cX6_placeStep 27 = .ok (.iload_n 3, 1) := by decide +kernel
theorem dX6_placeStep_28 : decode cX6_placeStep 28 = .ok (.iaload, 1) := by decide +kernel
theorem dX6_placeStep_29 : decode cX6_placeStep 29 = .ok (.iload_n 2, 1) := by decide +kernel
theorem dX6_placeStep_30 : decode cX6_placeStep 30 = .ok (.imul, 1) := by decide +kernel
theorem dX6_placeStep_31 : decode cX6_placeStep 31 = .ok (.iadd, 1) := by decide +kernel
theorem dX6_placeStep_32 : decode cX6_placeStep 32 = .ok (.istore 5, 2) := by decide +kernel
theorem dX6_placeStep_34 : decode cX6_placeStep 34 = .ok (.iload 5, 2) := by decide +kernel
theorem dX6_placeStep_36 : decode cX6_placeStep 36 = .ok (.aload_n 0, 1) := by decide +kernel
theorem dX6_placeStep_37 : decode cX6_placeStep 37 = .ok (.getfield 68, 3) := by decide +kernel
theorem dX6_placeStep_40 : decode cX6_placeStep 40 = .ok (.getfield 92, 3) := by decide +kernel
theorem dX6_placeStep_43 : decode cX6_placeStep 43 = .ok (.imul, 1) := by decide +kernel
theorem dX6_placeStep_44 : decode cX6_placeStep 44 = .ok (.iload 4, 2) := by decide +kernel
theorem dX6_placeStep_46 : decode cX6_placeStep 46 = .ok (.iadd, 1) := by decide +kernel
theorem dX6_placeStep_47 : decode cX6_placeStep 47 = .ok (.ireturn, 1) := by decide +kernel
set_option maxHeartbeats 4000000 in
set_option maxRecDepth 100000 in
theorem tX6_placeStep {l : Launch} {g : yG} {n : Nat} {σ : yM} (k cs : Nat) (w h : Int) (T S F P O : Int → Int → Int) (s re fo ra tu we sh : Int) (hn : 172 ≤ n) (hP : isPic k) (hcs : isSet cs) (hA : rC σ k w h T S F P O) (hS : rS σ cs s re fo ra tu we sh) (hk : k + 5 < 120 ∨ 130 < k) (hc2 : cs < 120 ∨ 130 < cs) (ax ay : Int) (hB : rA σ k cs ax ay) (dx dy way : Int) (hwy : 0 ≤ way ∧ way < 8) : yMet l g yX6_placeStep cX6_placeStep 6 (some .int) (rmL 1) [yR g 123, yI dx, yI dy, yI way] (SC g) n σ (SC g) (yPp (wY way dx dy * w + wX way dx dy) n σ) := by
  obtain ⟨hw1, hw2, hw3, hw4⟩ := id hA.1.1
  have zkn : k < n := by have := hP.1; omega
  have zcsn : cs < n := by have := hcs.1; omega
  have z123 : 123 < n := by omega
  have z124 : 124 < n := by omega
  have z125 : 125 < n := by omega
  have z126 : 126 < n := by omega
  have z127 : 127 < n := by omega
  have zkn1 : k + 1 < n := by have := hP.1; omega
  have zkn2 : k + 2 < n := by have := hP.1; omega
  have zkn3 : k + 3 < n := by have := hP.1; omega
  have zkn4 : k + 4 < n := by have := hP.1; omega
  have zkn5 : k + 5 < n := by have := hP.1; omega
  refine y_start (by decide) (Nat.le_of_ble_eq_true rfl) (fun X0 hF => ?_)
  show yV X0 g 6 (yQ X0 g (SC g) (yPp (wY way dx dy * w + wX way dx dy) n σ) (rmL 1)) (SC g) n σ 0 0 0 [(0, yR g 123), (1, yI dx), (2, yI dy), (3, yI way)] []
  refine y_gets (pc := 0) (host := "") hF dX6_placeStep_0 4 rfl w_911 ?_
  refine y_iload_n (pc := 3) hF dX6_placeStep_3 3 rfl ?_
  refine y_sald (pc := 4) hF dX6_placeStep_4 4 rfl ⟨by omega, by show _ < (8 : Int); omega⟩ (by decide) ?_
  refine y_iload_n (pc := 5) hF dX6_placeStep_5 1 rfl ?_
  refine y_imul (pc := 6) hF dX6_placeStep_6 ?_
  refine y_gets (pc := 7) (host := "") hF dX6_placeStep_7 5 rfl w_913 ?_
  refine y_iload_n (pc := 10) hF dX6_placeStep_10 3 rfl ?_
  refine y_sald (pc := 11) hF dX6_placeStep_11 5 rfl ⟨by omega, by show _ < (8 : Int); omega⟩ (by decide) ?_
  refine y_iload_n (pc := 12) hF dX6_placeStep_12 2 rfl ?_
  refine y_imul (pc := 13) hF dX6_placeStep_13 ?_
  refine y_iadd (pc := 14) hF dX6_placeStep_14 ?_
  rw [show ((ys 4 way) * dx) + ((ys 5 way) * dy) = wX way dx dy from (ys_X hwy)]
  refine y_istore (pc := 15) (lv' := [(0, yR g 123), (1, yI dx), (2, yI dy), (3, yI way), (4, yI (wX way dx dy))]) hF dX6_placeStep_15 (by decide) rfl rfl ?_
  refine y_gets (pc := 17) (host := "") hF dX6_placeStep_17 6 rfl w_915 ?_
  refine y_iload_n (pc := 20) hF dX6_placeStep_20 3 rfl ?_
  refine y_sald (pc := 21) hF dX6_placeStep_21 6 rfl ⟨by omega, by show _ < (8 : Int); omega⟩ (by decide) ?_
  refine y_iload_n (pc := 22) hF dX6_placeStep_22 1 rfl ?_
  refine y_imul (pc := 23) hF dX6_placeStep_23 ?_
  refine y_gets (pc := 24) (host := "") hF dX6_placeStep_24 7 rfl w_917 ?_
  refine y_iload_n (pc := 27) hF dX6_placeStep_27 3 rfl ?_
  refine y_sald (pc := 28) hF dX6_placeStep_28 7 rfl ⟨by omega, by show _ < (8 : Int); omega⟩ (by decide) ?_
  refine y_iload_n (pc := 29) hF dX6_placeStep_29 2 rfl ?_
  refine y_imul (pc := 30) hF dX6_placeStep_30 ?_
  refine y_iadd (pc := 31) hF dX6_placeStep_31 ?_
  rw [show ((ys 6 way) * dx) + ((ys 7 way) * dy) = wY way dx dy from (ys_Y hwy)]
  refine y_istore (pc := 32) (lv' := [(0, yR g 123), (1, yI dx), (2, yI dy), (3, yI way), (4, yI (wX way dx dy)), (5, yI (wY way dx dy))]) hF dX6_placeStep_32 (by decide) rfl rfl ?_
  refine y_iload (pc := 34) hF dX6_placeStep_34 5 rfl ?_
  refine y_aload_n (pc := 36) hF dX6_placeStep_36 0 rfl ?_
  refine y_get (pc := 37) (ci := 6) hF dX6_placeStep_37 z123 rfl rfl rfl iX6 0 (by decide) w_361 rfl ?_
  rw [show (σ 123 0).toNat = k from hB.k]
  refine y_getN (pc := 40) (ci := 4) hF dX6_placeStep_40 zkn (hP.2 g).1 rfl rfl iX4 0 (by decide) w_212 rfl ?_
  rw [show σ k 0 = w from hA.2.1]
  refine y_imul (pc := 43) hF dX6_placeStep_43 ?_
  refine y_iload (pc := 44) hF dX6_placeStep_44 4 rfl ?_
  refine y_iadd (pc := 46) hF dX6_placeStep_46 ?_
  exact y_iret (pc := 47) hF dX6_placeStep_47 (Nat.zero_le _) (Nat.zero_le _) ⟨_, rfl, rfl, rfl, rfl⟩
