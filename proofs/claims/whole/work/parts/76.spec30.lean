/-! more answers -/
def dfV (w h : Int) (T S F : Int → Int → Int) (s re fo we sh x y u v a : Int) : Int :=
  if sNr x y u v re = true ∧ sWs w h T F s fo u v = true then (if a % 2 = 1 then sBo w h T S s we sh x y u v (a / 2) else (sDf w h T S s we x y u v (a / 2) (sSh w h T S s we sh x y u v (a / 2)) 1000000000).1) else -1
def ftV (w h : Int) (T S : Int → Int → Int) (s ra k a : Int) : Int :=
  if sPo (sFt w h T S s ra) k = -1 then -1 else if a = 0 then (gk (sFt w h T S s ra) (sPo (sFt w h T S s ra) k)).1 % w else if a = 1 then (gk (sFt w h T S s ra) (sPo (sFt w h T S s ra) k)).1 / w else (gk (sFt w h T S s ra) (sPo (sFt w h T S s ra) k)).2
def hfV (w h : Int) (T : Int → Int → Int) (lv x y : Int) : Int :=
  if nHf w h lv < lv then -2 else if lv = 1 then (if sIn ((w + 1) / 2) ((h + 1) / 2) x y = true then sHf w h T x y else -2) else (if sIn (((w + 1) / 2 + 1) / 2) (((h + 1) / 2 + 1) / 2) x y = true then sHf ((w + 1) / 2) ((h + 1) / 2) (sHf w h T) x y else -2)
def lnV (w h : Int) (O : Int → Int → Int) (s x y : Int) : Int := sCt w h (fun i j => decide (0 ≤ O i j) && sNr x y (mx (O i j)) (my (O i j)) s)
def pV (w h : Int) (T : Int → Int → Int) : Int := fr2 (fun v x y => 31 * v + T x y) 0 w.toNat 0 h.toNat 0
theorem sPo_in (L : List (Int × Int)) (k : Int) : sPo L k = -1 ∨ (0 ≤ sPo L k ∧ sPo L k < L.length) := by
  unfold sPo
  have := fr_ix (f := plF L k) (a := 0) (n := L.length) (s := -1) (fun m q => q = -1 ∨ (0 ≤ q ∧ q < (m : Int))) (Or.inl rfl) (fun m q hm hq => by
    unfold plF
    split
    · right
      omega
    · rcases hq with hq | hq
      · exact Or.inl hq
      · right
        omega)
  exact this
theorem sFt_at {w h : Int} {T S F P O : Int → Int → Int} (A : aOk w h T S F P O) {s ra i : Int} (h0 : 0 ≤ i) (hi : i < (sFt w h T S s ra).length) : 0 ≤ (gk (sFt w h T S s ra) i).1 ∧ (gk (sFt w h T S s ra) i).1 < w * h ∧ w * h ≤ 400 := by
  obtain ⟨x, y, hx, hy, he, hf⟩ := frF_in _ (gk_mem h0 hi)
  obtain ⟨a1, a2, a3, a4⟩ := A.1
  rw [he]
  have h2 := y_ix (w := w) (h := h) (x := x) (y := y) ⟨a1, a2⟩ ⟨a3, a4⟩ (by omega) (by omega)
  exact ⟨h2.1, h2.2.1, h2.2.2.1⟩
theorem fm_in' (L : List (Int × Int)) : fm L = -1 ∨ (0 ≤ fm L ∧ fm L < L.length) := by
  rcases fm_in L L.length with e | e
  · exact Or.inl e.2
  · exact Or.inr e
theorem fm_nx' {w h : Int} {T S : Int → Int → Int} {s ra : Int} (hr : ∀ x y : Int, 0 ≤ x → x < w → 0 ≤ y → y < h → -1 < sRk w h T S s ra x y) : (fm (sFt w h T S s ra) = -1 ∧ (sNx w h T S s ra).1 = -1) ∨ (0 ≤ fm (sFt w h T S s ra) ∧ fm (sFt w h T S s ra) < (sFt w h T S s ra).length ∧ (0 ≤ (sNx w h T S s ra).1 ∧ (sNx w h T S s ra).1 < w) ∧ (0 ≤ (sNx w h T S s ra).2.1 ∧ (sNx w h T S s ra).2.1 < h) ∧ gk (sFt w h T S s ra) (fm (sFt w h T S s ra)) = ((sNx w h T S s ra).2.1 * w + (sNx w h T S s ra).1, (sNx w h T S s ra).2.2)) := by
  rcases fmR_all hr with ⟨e1, e2⟩ | e
  · exact Or.inl ⟨e1, by rw [e2]⟩
  · exact Or.inr e
