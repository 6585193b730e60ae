/-! the scans -/
def wsF (w h : Int) (T S F : Int → Int → Int) (s fo tu we sh x y : Int) (q : aQ) (u v : Int) : aQ := if sWs w h T F s fo u v then sAs w h T S s tu we sh x y u v q else q
theorem sNr_iff {x y u v re : Int} : sNr x y u v re = true ↔ (x - re ≤ u ∧ u ≤ x + re) ∧ (y - re ≤ v ∧ v ≤ y + re) := by
  simp only [sNr, Bool.and_eq_true, decide_eq_true_eq]
  omega
theorem scan_re {w h : Int} {T S F : Int → Int → Int} {s fo tu we sh x y re : Int} {q : aQ} (hw : 1 ≤ w) (hh : 1 ≤ h) : fr2 (scF w h T S F s fo tu we sh x y re) 0 w.toNat 0 h.toNat q = fr (fun q v => fr (fun q u => if sWs w h T F s fo u v then sAs w h T S s tu we sh x y u v q else q) (max (x - re) 0) (min (x + re) (w - 1) + 1 - max (x - re) 0).toNat q) (max (y - re) 0) (min (y + re) (h - 1) + 1 - max (y - re) 0).toNat q := by
  have out : ∀ (q : aQ) (u v : Int), (u < x - re ∨ x + re < u ∨ v < y - re ∨ y + re < v) → scF w h T S F s fo tu we sh x y re q u v = q := by
    intro q u v ho
    unfold scF
    rw [if_neg]
    intro hc
    have := sNr_iff.mp (Bool.and_eq_true _ _ ▸ hc).1
    omega
  unfold fr2
  rw [fr_clip (lo := y - re) (hi := y + re) (fun q v hv => fr_skip (fun q u _ _ => out q u v (by omega)))]
  rw [show max 0 (y - re) = max (y - re) 0 by omega, show min ((0 : Int) + (h.toNat : Int) - 1) (y + re) = min (y + re) (h - 1) by omega]
  refine fr_congr (fun q v v1 v2 => ?_)
  rw [fr_clip (lo := x - re) (hi := x + re) (fun q u hu => out q u v (by omega))]
  rw [show max 0 (x - re) = max (x - re) 0 by omega, show min ((0 : Int) + (w.toNat : Int) - 1) (x + re) = min (x + re) (w - 1) by omega]
  refine fr_congr (fun q u u1 u2 => ?_)
  unfold scF
  rw [sNr_iff.mpr (by omega), Bool.true_and]
