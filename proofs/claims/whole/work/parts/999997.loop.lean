theorem dW_23 : decode code 23 = .ok (.iload 4, 2) := by decide +kernel
theorem dW_25 : decode code 25 = .ok (.aload_n 0, 1) := by decide +kernel
theorem dW_26 : decode code 26 = .ok (.arraylength, 1) := by decide +kernel
theorem dW_27 : decode code 27 = .ok (.bipush 6, 2) := by decide +kernel
theorem dW_29 : decode code 29 = .ok (.isub, 1) := by decide +kernel
theorem dW_30 : decode code 30 = .ok (.if_icmp .gt 2036, 3) := by decide +kernel
theorem dW_33 : decode code 33 = .ok (.aload_n 0, 1) := by decide +kernel
theorem dW_34 : decode code 34 = .ok (.iload 4, 2) := by decide +kernel
theorem dW_36 : decode code 36 = .ok (.iaload, 1) := by decide +kernel
theorem dW_37 : decode code 37 = .ok (.bipush 31, 2) := by decide +kernel
theorem dW_39 : decode code 39 = .ok (.iand, 1) := by decide +kernel
theorem dW_40 : decode code 40 = .ok (.tableswitch 2020 0 31 #[144, 217, 273, 286, 354, 446, 526, 539, 595, 651, 664, 720, 800, 880, 936, 1016, 1120, 1188, 1256, 1324, 1392, 1472, 1540, 1553, 1609, 1665, 1745, 1801, 1857, 1913, 1981, 1995], 144) := by decide +kernel
theorem dW_2060 : decode code 2060 = .ok (.iinc 4 6, 3) := by decide +kernel
theorem dW_2063 : decode code 2063 = .ok (.goto (-2040), 3) := by decide +kernel
section YLA
variable {x : yC} {l : Launch} {g : yG} {b L : Nat} {xs : Nat → Int32} {Q : State → Prop} {n : Nat} {σ : yM} {cells slots : Nat}
set_option maxHeartbeats 4000000 in
set_option maxRecDepth 100000 in
theorem zc_all (E : zE x l g b L xs) {N : Int} {A : aA} (G : zG N σ A) (hN0 : 0 ≤ N) (hN : N ≤ 400000000) (hn : 172 ≤ n) {i : Int} (hi : 0 ≤ i ∧ i + 6 ≤ (L : Int)) (hc : cells + 408 ≤ 601024) (hs : slots + 3660 ≤ 7293033) (k : zK x g b Q n N cells slots i) {v : Int} (hv : 0 ≤ v ∧ v < 32) : yV x g 7 Q (SC g) n σ cells slots 40 (zL g b i) [yI v] := by
  obtain ⟨j, hj, e⟩ : ∃ j : Nat, j < 32 ∧ v = (j : Int) := ⟨v.toNat, by omega, by omega⟩
  rw [e]
  match j, hj with
  | 0, _ => exact y_tab (pc := 40) E.1 dW_40 (by decide) (by decide) (by decide) rfl rfl (zc_feed E G hN0 hN hn hi hc hs k)
  | 1, _ => exact y_tab (pc := 40) E.1 dW_40 (by decide) (by decide) (by decide) rfl rfl (zc_text E G hN0 hN hn hi hc hs k)
  | 2, _ => exact y_tab (pc := 40) E.1 dW_40 (by decide) (by decide) (by decide) rfl rfl (zc_fault E G hN0 hN hn hi hc hs k)
  | 3, _ => exact y_tab (pc := 40) E.1 dW_40 (by decide) (by decide) (by decide) rfl rfl (zc_set E G hN0 hN hn hi hc hs k)
  | 4, _ => exact y_tab (pc := 40) E.1 dW_40 (by decide) (by decide) (by decide) rfl rfl (zc_hole E G hN0 hN hn hi hc hs k)
  | 5, _ => exact y_tab (pc := 40) E.1 dW_40 (by decide) (by decide) (by decide) rfl rfl (zc_paint E G hN0 hN hn hi hc hs k)
  | 6, _ => exact y_tab (pc := 40) E.1 dW_40 (by decide) (by decide) (by decide) rfl rfl (zc_keep E G hN0 hN hn hi hc hs k)
  | 7, _ => exact y_tab (pc := 40) E.1 dW_40 (by decide) (by decide) (by decide) rfl rfl (zc_fill E G hN0 hN hn hi hc hs k)
  | 8, _ => exact y_tab (pc := 40) E.1 dW_40 (by decide) (by decide) (by decide) rfl rfl (zc_guide E G hN0 hN hn hi hc hs k)
  | 9, _ => exact y_tab (pc := 40) E.1 dW_40 (by decide) (by decide) (by decide) rfl rfl (zc_undo E G hN0 hN hn hi hc hs k)
  | 10, _ => exact y_tab (pc := 40) E.1 dW_40 (by decide) (by decide) (by decide) rfl rfl (zc_told E G hN0 hN hn hi hc hs k)
  | 11, _ => exact y_tab (pc := 40) E.1 dW_40 (by decide) (by decide) (by decide) rfl rfl (zc_dot E G hN0 hN hn hi hc hs k)
  | 12, _ => exact y_tab (pc := 40) E.1 dW_40 (by decide) (by decide) (by decide) rfl rfl (zc_rank E G hN0 hN hn hi hc hs k)
  | 13, _ => exact y_tab (pc := 40) E.1 dW_40 (by decide) (by decide) (by decide) rfl rfl (zc_next E G hN0 hN hn hi hc hs k)
  | 14, _ => exact y_tab (pc := 40) E.1 dW_40 (by decide) (by decide) (by decide) rfl rfl (zc_search E G hN0 hN hn hi hc hs k)
  | 15, _ => exact y_tab (pc := 40) E.1 dW_40 (by decide) (by decide) (by decide) rfl rfl (zc_difference E G hN0 hN hn hi hc hs k)
  | 16, _ => exact y_tab (pc := 40) E.1 dW_40 (by decide) (by decide) (by decide) rfl rfl (zc_front E G hN0 hN hn hi hc hs k)
  | 17, _ => exact y_tab (pc := 40) E.1 dW_40 (by decide) (by decide) (by decide) rfl rfl (zc_part E G hN0 hN hn hi hc hs k)
  | 18, _ => exact y_tab (pc := 40) E.1 dW_40 (by decide) (by decide) (by decide) rfl rfl (zc_ring E G hN0 hN hn hi hc hs k)
  | 19, _ => exact y_tab (pc := 40) E.1 dW_40 (by decide) (by decide) (by decide) rfl rfl (zc_log E G hN0 hN hn hi hc hs k)
  | 20, _ => exact y_tab (pc := 40) E.1 dW_40 (by decide) (by decide) (by decide) rfl rfl (zc_half E G hN0 hN hn hi hc hs k)
  | 21, _ => exact y_tab (pc := 40) E.1 dW_40 (by decide) (by decide) (by decide) rfl rfl (zc_ahead E G hN0 hN hn hi hc hs k)
  | 22, _ => exact y_tab (pc := 40) E.1 dW_40 (by decide) (by decide) (by decide) rfl rfl (zc_flaw E G hN0 hN hn hi hc hs k)
  | 23, _ => exact y_tab (pc := 40) E.1 dW_40 (by decide) (by decide) (by decide) rfl rfl (zc_flawBy E G hN0 hN hn hi hc hs k)
  | 24, _ => exact y_tab (pc := 40) E.1 dW_40 (by decide) (by decide) (by decide) rfl rfl (zc_tune E G hN0 hN hn hi hc hs k)
  | 25, _ => exact y_tab (pc := 40) E.1 dW_40 (by decide) (by decide) (by decide) rfl rfl (zc_reach E G hN0 hN hn hi hc hs k)
  | 26, _ => exact y_tab (pc := 40) E.1 dW_40 (by decide) (by decide) (by decide) rfl rfl (zc_seams E G hN0 hN hn hi hc hs k)
  | 27, _ => exact y_tab (pc := 40) E.1 dW_40 (by decide) (by decide) (by decide) rfl rfl (zc_favourite E G hN0 hN hn hi hc hs k)
  | 28, _ => exact y_tab (pc := 40) E.1 dW_40 (by decide) (by decide) (by decide) rfl rfl (zc_turning E G hN0 hN hn hi hc hs k)
  | 29, _ => exact y_tab (pc := 40) E.1 dW_40 (by decide) (by decide) (by decide) rfl rfl (zc_lent E G hN0 hN hn hi hc hs k)
  | 30, _ => exact y_tab (pc := 40) E.1 dW_40 (by decide) (by decide) (by decide) rfl rfl (zc_print E G hN0 hN hn hi hc hs k)
  | 31, _ => exact y_tab (pc := 40) E.1 dW_40 (by decide) (by decide) (by decide) rfl rfl (zc_status E G hN0 hN hn hi hc hs k)
  | j + 32, h => exact absurd h (by omega)
set_option maxHeartbeats 4000000 in
set_option maxRecDepth 100000 in
theorem zloop (E : zE x l g b L xs) (ke : ∀ (n : Nat) (σ : yM) (cells slots : Nat) (i : Int), cells ≤ 601024 → slots ≤ 7293033 → yV x g 7 Q (SC g) n σ cells slots 2066 (zL g b i) []) : ∀ (r : Nat) (i N : Int) (n : Nat) (σ : yM) (A : aA) (cells slots : Nat), 172 ≤ n → zG N σ A → 0 ≤ N → N + 400 * (r : Int) ≤ 400000000 → 0 ≤ i → i ≤ 3072 → (L : Int) ≤ i + 6 * (r : Int) + 5 → cells + 408 * r ≤ 601024 → slots + 3660 * r ≤ 7293033 → yV x g 7 Q (SC g) n σ cells slots 23 (zL g b i) [] := by
  intro r
  induction r with
  | zero =>
    intro i N n σ A cells slots hn G hN0 hN hi hi2 hL hc hs
    have hF := E.1
    have hL2 := E.2.2.2.2.2.2
    refine y_iload (pc := 23) hF dW_23 4 rfl ?_
    refine y_aloadQ_n (pc := 25) hF dW_25 0 rfl ?_
    refine y_scl (pc := 26) hF E.2.2.2.2.1 E.2.2.2.2.2.1 dW_26 ?_
    refine y_bipush (pc := 27) hF dW_27 (by decide) ?_
    refine y_isub (pc := 29) hF dW_29 ?_
    refine y_icmp_gt (pc := 30) hF dW_30 2066 rfl (by omega) (by omega) (fun _ => ke n σ cells slots i (by omega) (by omega)) (fun zi => ?_)
    exact absurd zi (by omega)
  | succ r ih =>
    intro i N n σ A cells slots hn G hN0 hN hi hi2 hL hc hs
    have hF := E.1
    have hL2 := E.2.2.2.2.2.2
    refine y_iload (pc := 23) hF dW_23 4 rfl ?_
    refine y_aloadQ_n (pc := 25) hF dW_25 0 rfl ?_
    refine y_scl (pc := 26) hF E.2.2.2.2.1 E.2.2.2.2.2.1 dW_26 ?_
    refine y_bipush (pc := 27) hF dW_27 (by decide) ?_
    refine y_isub (pc := 29) hF dW_29 ?_
    refine y_icmp_gt (pc := 30) hF dW_30 2066 rfl (by omega) (by omega) (fun _ => ke n σ cells slots i (by omega) (by omega)) (fun zi => ?_)
    refine y_aloadQ_n (pc := 33) hF dW_33 0 rfl ?_
    refine y_iload (pc := 34) hF dW_34 4 rfl ?_
    refine y_sci (pc := 36) hF E.2.2.2.2.1 E.2.2.2.2.2.1 dW_36 (by omega) (by omega) ?_
    refine y_bipush (pc := 37) hF dW_37 (by decide) ?_
    refine y_iand31 (pc := 39) hF dW_39 ?_
    refine zc_all E G hN0 (by omega) hn (by omega) (by omega) (by omega) (fun n' σ' A' hn' G' => ?_) (by omega)
    refine y_iinc (pc := 2060) (lv' := zL g b (i + 6)) hF dW_2060 4 rfl (by decide) rfl rfl ?_
    refine y_goto (pc := 2063) hF dW_2063 23 rfl ?_
    exact ih (i + 6) (N + 400) n' σ' A' (cells + 408) (slots + 3660) (by omega) G' (by omega) (by omega) (by omega) (by omega) (by omega) (by omega) (by omega)
end YLA
