/-! the reference's state, changed -/
theorem mO_gen {σ σ0 σ' : yM} {w h : Int} {X X' : aX} {sv : Int × Int × Int × Int × Int × Int × Int} {H H' : List aX} {ht ht' : Bool} {K K' : Int → Int → Int} {tl : Int} {tb : Int → Int} {fa r1 r2 : Int} (V : mO σ σ0 (w, h, X, sv, H, ht, K, tl, tb, fa, r1, r2) 0) (hf : mF σ0 σ') (h0 : σ' 155 0 = σ0 155 0) (hX : rX σ' 0 w h X') (e166 : σ' 166 = σ0 166) (hH : mH σ' w h H') (hb : σ' 155 9 = bi ht' ∧ (ht' = true → mK σ' w h K')) (e29 : σ' 155 29 = σ0 155 29) (e167 : σ' 167 = σ0 167) (e30 : σ' 155 30 = σ0 155 30) (e156 : σ' 156 = σ0 156) : mO σ σ' (w, h, X', sv, H', ht', K', tl, tb, fa, r1, r2) 0 := by
  obtain ⟨h1, h2, h3⟩ := V
  obtain ⟨s, re, fo, ra, tu, we, sh⟩ := sv
  obtain ⟨v1, v2, v3, ⟨v4, v5⟩, ⟨v6, v7⟩, v8, v9, v10⟩ := h3
  exact ⟨h1.tr hf, h0.trans h2, hX, v2.fr e166, hH, hb, ⟨e29.trans v6, fun j a b => by rw [e167]; exact v7 j a b⟩, e30.trans v8, by rw [e156]; exact v9, by rw [e156]; exact v10⟩
theorem mO_set {σ σ0 : yM} {w h : Int} {X : aX} {s re fo ra tu we sh a v : Int} {H : List aX} {ht : Bool} {K : Int → Int → Int} {tl : Int} {tb : Int → Int} {fa r1 r2 : Int} (V : mO σ σ0 (w, h, X, (s, re, fo, ra, tu, we, sh), H, ht, K, tl, tb, fa, r1, r2) 0) (hal : sAl a v = true) : mO σ (yset σ0 166 a v) (w, h, X, ((if a = 0 then v else s), (if a = 1 then v else re), (if a = 2 then v else fo), (if a = 3 then v else ra), (if a = 4 then v else tu), (if a = 5 then v else we), (if a = 6 then v else sh)), H, ht, K, tl, tb, fa, r1, r2) 0 := by
  obtain ⟨h1, h2, v1, v2, v3, ⟨v4, v5⟩, ⟨v6, v7⟩, v8, v9, v10⟩ := V
  have en : ∀ c, c ≠ 166 → yset σ0 166 a v c = σ0 c := fun c hc => yset_n hc
  exact ⟨h1.st (by omega), by rw [en 155 (by omega)]; exact h2, v1.fr0 (en 158 (by omega)) (by rw [en 161 (by omega)]) (by rw [en 162 (by omega)]), rS_set v2 hal, v3.fr (by rw [en 155 (by omega)]) (en 164 (by omega)), ⟨by rw [en 155 (by omega)]; exact v4, fun q x y a b c d => by rw [en 165 (by omega)]; exact v5 q x y a b c d⟩, ⟨by rw [en 155 (by omega)]; exact v6, fun j a b => by rw [en 167 (by omega)]; exact v7 j a b⟩, by rw [en 155 (by omega)]; exact v8, by rw [en 156 (by omega)]; exact v9, by rw [en 156 (by omega)]; exact v10⟩
/-- what keeps() does -/
def kpR (σ σ' : yM) (U : Int) : Prop := ((∀ (c : Nat) (j : Int), c ≠ 164 → (c ≠ 155 ∨ j ≠ 8) → σ' c j = σ c j) ∧ σ' 155 8 = min (U + 1) 10) ∧ (∀ r j : Int, 0 ≤ r → r < min (U + 1) 10 - 1 → 0 ≤ j → j < 2273 → σ' 164 (2273 * r + j) = σ 164 (2273 * (r + (if U = 10 then 1 else 0)) + j))
theorem kpR.c {σ σ' : yM} {U : Int} (h : kpR σ σ' U) {c : Nat} (h1 : c ≠ 164) (h2 : c ≠ 155) : σ' c = σ c := funext fun j => h.1.1 c j h1 (Or.inl h2)
theorem kpR.j {σ σ' : yM} {U : Int} (h : kpR σ σ' U) {j : Int} (h2 : j ≠ 8) : σ' 155 j = σ 155 j := h.1.1 155 j (by omega) (Or.inr h2)
/-- kept: what lies in row d of cell c (0 of 158, 0 of 163) -/
theorem mH_kp {σ0 σ1 σ' : yM} {w h : Int} {H : List aX} {X : aX} {c : Nat} (V : mH σ0 w h H) (k : kpR σ0 σ1 (H.length : Int)) (hX : rB σ0 c 0 w h X) (ht : ∀ j : Int, 0 ≤ j → j < 2273 → σ1 164 (2273 * (min ((H.length : Int) + 1) 10 - 1) + j) = σ0 c j) (e8 : σ' 155 8 = σ1 155 8) (e164 : σ' 164 = σ1 164) : mH σ' w h (pH X H) :=
  mH.push V (e8.trans k.1.2) (fun r j a b c d => by rw [e164]; exact k.2 r j a b c d) (hX.cp (fun j a b => by rw [e164, Int.zero_add]; exact ht j a b))
theorem mH.head {σ : yM} {w h : Int} {X : aX} {H : List aX} (V : mH σ w h H) (hl : 0 < (H.length : Int)) : rB σ 164 (2273 * ((H.length : Int) - 1)) w h (hdX X H) := by
  obtain ⟨q1, q2, q3⟩ := V
  cases H with
  | nil => simp at hl
  | cons Y H =>
    have := q3 0 Y rfl
    rw [show ((Y :: H).length : Int) - 1 - ((0 : Nat) : Int) = ((Y :: H).length : Int) - 1 by omega] at this
    exact this
theorem mH.pop {σ σ' : yM} {w h : Int} {H : List aX} (V : mH σ w h H) (hl : 0 < (H.length : Int)) (e1 : σ' 155 8 = (H.length : Int) - 1) (e2 : σ' 164 = σ 164) : mH σ' w h H.tail := by
  obtain ⟨q1, q2, q3⟩ := V
  cases H with
  | nil => simp at hl
  | cons Y H =>
    simp only [List.length_cons, List.tail_cons] at *
    refine ⟨by rw [e1]; omega, by omega, fun i Z hZ => ?_⟩
    have := q3 (i + 1) Z (by simpa using hZ)
    rw [show ((H.length + 1 : Nat) : Int) - 1 - ((i + 1 : Nat) : Int) = (H.length : Int) - 1 - (i : Int) by omega] at this
    exact this.cp (fun j _ _ => by rw [e2])
theorem sAl_iff {a v : Int} : sAl a v = true ↔ (0 ≤ a ∧ a ≤ 6) ∧ ((a = 0 → 1 ≤ v ∧ v ≤ 3) ∧ (a = 1 → 1 ≤ v ∧ v ≤ 20) ∧ (a = 3 → 0 ≤ v ∧ v ≤ 2) ∧ (a = 4 → 0 ≤ v ∧ v ≤ 3) ∧ (a ≠ 0 → a ≠ 1 → a ≠ 3 → a ≠ 4 → 0 ≤ v ∧ v ≤ 1)) := by
  have y2 : ys 2 0 = 1 ∧ ys 2 1 = 1 ∧ ys 2 2 = 0 ∧ ys 2 3 = 0 ∧ ys 2 4 = 0 ∧ ys 2 5 = 0 ∧ ys 2 6 = 0 := by decide
  have y3 : ys 3 0 = 3 ∧ ys 3 1 = 20 ∧ ys 3 2 = 1 ∧ ys 3 3 = 2 ∧ ys 3 4 = 3 ∧ ys 3 5 = 1 ∧ ys 3 6 = 1 := by decide
  unfold sAl
  simp only [Bool.and_eq_true, decide_eq_true_eq]
  by_cases h : 0 ≤ a ∧ a < 7
  · rcases (show a = 0 ∨ a = 1 ∨ a = 2 ∨ a = 3 ∨ a = 4 ∨ a = 5 ∨ a = 6 by omega) with e | e | e | e | e | e | e <;> subst e <;> omega
  · constructor <;> intro hh <;> omega
theorem mms_c {σ : yM} {z : Nat} {i : Int} {c : Nat} (h : c ≠ 158 + z) : mms σ z i c = σ c := by
  unfold mms
  rw [yset_n h, yset_n h, yset_n h, yset_n h, yset_n h]
theorem mkn_c {σ : yM} {z : Nat} {i t : Int} {c : Nat} (h : c ≠ 158 + z) : mkn σ z i t c = σ c := by
  unfold mkn
  rw [yset_n h, yset_n h, yset_n h, yset_n h, yset_n h]
theorem mms_h {σ : yM} {z : Nat} {i j : Int} {c : Nat} (hi : 0 ≤ i ∧ i < 400) (h : 2000 ≤ j) : mms σ z i c j = σ c j := by
  unfold mms
  rw [yset_o (by omega), yset_o (by omega), yset_o (by omega), yset_o (by omega), yset_o (by omega)]
theorem mkn_h {σ : yM} {z : Nat} {i t j : Int} {c : Nat} (hi : 0 ≤ i ∧ i < 400) (h : 2000 ≤ j) : mkn σ z i t c j = σ c j := by
  unfold mkn
  rw [yset_o (by omega), yset_o (by omega), yset_o (by omega), yset_o (by omega), yset_o (by omega)]
theorem rL.hi {σ σ' : yM} {nf df nl : Int} {lg : Int → Int → Int} (H : rL σ 0 nf df nl lg) (e : ∀ j : Int, 2000 ≤ j → σ' 158 j = σ 158 j) : rL σ' 0 nf df nl lg := by
  obtain ⟨h1, h2, h3, h4, h5, h6⟩ := H
  exact ⟨(e 2000 (by omega)).trans h1, (e 2001 (by omega)).trans h2, (e 2002 (by omega)).trans h3, h4, h5, fun k c a b d f => (e _ (by omega)).trans (h6 k c a b d f)⟩
