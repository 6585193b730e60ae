/-! the guided scan -/
theorem scan_gu {w h : Int} {T S F : Int → Int → Int} {s fo tu we sh x y a b : Int} {q : aQ} : fr2 (sgF w h T S F s fo tu we sh x y) a 4 b 4 q = fr (fun q v => fr (fun q u => if sWs w h T F s fo u v then sAs w h T S s tu we sh x y u v q else q) (max a 0) (min (a + 3) (w - 1) + 1 - max a 0).toNat q) (max b 0) (min (b + 3) (h - 1) + 1 - max b 0).toNat q := by
  have out : ∀ (q : aQ) (u v : Int), (u < 0 ∨ w - 1 < u ∨ v < 0 ∨ h - 1 < v) → sgF w h T S F s fo tu we sh x y q u v = q := by
    intro q u v ho
    unfold sgF
    rw [if_neg]
    intro hc
    have := sIn_iff.mp (Bool.and_eq_true _ _ ▸ hc).1
    omega
  unfold fr2
  rw [fr_clip (lo := 0) (hi := h - 1) (fun q v hv => fr_skip (fun q u _ _ => out q u v (by omega)))]
  rw [show b + ((4 : Nat) : Int) - 1 = b + 3 by omega]
  refine fr_congr (fun q v v1 v2 => ?_)
  rw [fr_clip (lo := 0) (hi := w - 1) (fun q u hu => out q u v (by omega))]
  rw [show a + ((4 : Nat) : Int) - 1 = a + 3 by omega]
  refine fr_congr (fun q u u1 u2 => ?_)
  unfold sgF
  rw [sIn_iff.mpr (by omega), Bool.true_and]
theorem cI_xy {w h c : Int} (hw : 1 ≤ w) (hc : cOk w h c) (h0 : 0 ≤ c) : cx w (cI w c) = c % 20 ∧ cy w (cI w c) = c / 20 ∧ 0 ≤ cI w c := by
  rcases hc with e | ⟨_, h1, h2⟩
  · omega
  · have hq : 0 ≤ c / 20 := by omega
    have h3 : 0 ≤ c / 20 * w := Int.mul_nonneg hq (by omega)
    have h4 : 0 ≤ c % 20 := by omega
    unfold cx cy cI
    rw [if_neg (show ¬ c < 0 by omega), if_neg (by omega), if_neg (by omega)]
    refine ⟨?_, ?_, by omega⟩
    · rw [Int.add_comm, Int.add_mul_emod_self_right, Int.emod_eq_of_lt h4 h1]
    · rw [Int.add_comm, Int.add_mul_ediv_right _ _ (by omega), Int.ediv_eq_zero_of_lt h4 h1, Int.zero_add]
theorem cI_bd {w h c : Int} (hw : 1 ≤ w ∧ w ≤ 20) (hh : 1 ≤ h ∧ h ≤ 20) (hc : cOk w h c) : -1 ≤ cI w c ∧ cI w c < 400 ∧ (cI w c = -1 ↔ c < 0) := by
  rcases hc with e | ⟨h0, h1, h2⟩
  · unfold cI
    rw [if_pos (by omega)]
    omega
  · have := y_ix (w := w) (h := h) (x := c % 20) (y := c / 20) hw hh (by omega) (by omega)
    unfold cI
    rw [if_neg (by omega)]
    omega
