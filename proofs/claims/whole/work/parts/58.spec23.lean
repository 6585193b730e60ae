/-! fills in the class's memory -/
theorem fI_fc {σ τ : yM} {k : Nat} {i t s p m : Int} (h : fc (k + 1) (k + 5) σ τ) : fc (k + 1) (k + 5) σ (fI τ k i t s p m) := fun c q => by
  unfold fI
  rw [yset_n (by omega), yset_n (by omega), yset_n (by omega), yset_n (by omega), yset_n (by omega)]
  exact h c q
/-- what a fill of a picture k with a journal j may change -/
def fF (k j : Nat) (σ σ' : yM) : Prop := ∀ c : Nat, (c < 120 ∨ 127 < c) → (c < k ∨ k + 5 < c) → (c < j ∨ j + 1 < c) → σ' c = σ c
theorem fF.rf {k j : Nat} (σ : yM) : fF k j σ σ := fun _ _ _ _ => rfl
theorem fF.tr {k j : Nat} {a b c : yM} (h1 : fF k j a b) (h2 : fF k j b c) : fF k j a c := fun q x y z => (h2 q x y z).trans (h1 q x y z)
def rXc (σ : yM) (k j : Nat) (w h : Int) (X : aX) : Prop := match X with
  | (T, S, F, P, O, nf, df, nl, lg) => rC σ k w h T S F P O ∧ rJ σ j nf df nl lg
theorem rQ.b {σ : yM} {w : Int} {q : aQ} (H : rQ σ w q) : σ 123 12 = (if q.1 = -1 then -1 else q.2.1 * w + q.1) := by
  obtain ⟨bx, by_, bw, bs, bd, so, sk, sp, lo⟩ := q
  exact H.1
theorem gu_q0 {w h : Int} {T S F : Int → Int → Int} {s fo tu we sh x y a b : Int} (ht : 0 ≤ tu ∧ tu ≤ 3) : fr2 (sgF w h T S F s fo tu we sh x y) a 4 b 4 q0 = q0 ∨ 1 ≤ qSo (fr2 (sgF w h T S F s fo tu we sh x y) a 4 b 4 q0) := by
  unfold fr2
  refine fr_inv (fun q => q = q0 ∨ 1 ≤ qSo q) (Or.inl rfl) (fun q v _ _ hq => fr_inv (fun q => q = q0 ∨ 1 ≤ qSo q) hq (fun q u _ _ hq => ?_))
  unfold sgF
  split
  · right
    have h1 := (sAs_so (w := w) (h := h) (T := T) (S := S) (s := s) (we := we) (sh := sh) (x := x) (y := y) (u := u) (v := v) (q := q) ht).1
    rcases hq with hq | hq
    · rw [hq] at h1 ⊢
      have : qSo q0 = 0 := rfl
      omega
    · omega
  · exact hq
/-- the guided part of a search -/
def gu1 (w h : Int) (T S F : Int → Int → Int) (s fo tu we sh x y f p : Int) : aQ := if 0 < f then fr2 (sgF w h T S F s fo tu we sh x y) (2 * (p % 20) - 1) 4 (2 * (p / 20) - 1) 4 q0 else q0
theorem gu1_q0 {w h : Int} {T S F : Int → Int → Int} {s fo tu we sh x y f p : Int} (ht : 0 ≤ tu ∧ tu ≤ 3) : gu1 w h T S F s fo tu we sh x y f p = q0 ∨ 1 ≤ qSo (gu1 w h T S F s fo tu we sh x y f p) := by
  unfold gu1
  split
  · exact gu_q0 ht
  · exact Or.inl rfl
theorem gu1_no {w h : Int} {T S F : Int → Int → Int} {s re fo tu we sh x y f p : Int} (hq : gu1 w h T S F s fo tu we sh x y f p = q0) : sGu w h T S F s re fo tu we sh x y f p = sSe w h T S F s fo tu we sh x y re := by
  have e : sGu w h T S F s re fo tu we sh x y f p = if qSo (gu1 w h T S F s fo tu we sh x y f p) = 0 then sSe w h T S F s fo tu we sh x y re else gu1 w h T S F s fo tu we sh x y f p := rfl
  rw [e, hq]
  rfl
theorem gu1_yes {w h : Int} {T S F : Int → Int → Int} {s re fo tu we sh x y f p : Int} (hq : 1 ≤ qSo (gu1 w h T S F s fo tu we sh x y f p)) : sGu w h T S F s re fo tu we sh x y f p = gu1 w h T S F s fo tu we sh x y f p := by
  have e : sGu w h T S F s re fo tu we sh x y f p = if qSo (gu1 w h T S F s fo tu we sh x y f p) = 0 then sSe w h T S F s fo tu we sh x y re else gu1 w h T S F s fo tu we sh x y f p := rfl
  rw [e, if_neg (by omega)]
theorem qOk.b {w h : Int} {T : Int → Int → Int} {s : Int} {q : aQ} (H : qOk w h T s q) : (q.1 = -1 ∧ qSo q = 0) ∨ (sIn w h q.1 q.2.1 = true ∧ 1 ≤ qSo q) := by
  obtain ⟨bx, by_, bw, bs, bd, so, sk, sp, lo⟩ := q
  rcases H.1 with h | h
  · exact Or.inl ⟨h.1, h.2.2.2.2.2⟩
  · exact Or.inr ⟨h.1, h.2.2.2.2.2⟩
theorem qOk_q0 (w h : Int) (T : Int → Int → Int) (s : Int) : qOk w h T s q0 := ⟨Or.inl ⟨rfl, rfl, rfl, rfl, rfl, rfl⟩, by decide⟩
theorem rS.fF {k j : Nat} {σ σ' : yM} {c : Nat} {s re fo ra tu we sh : Int} (H : rS σ c s re fo ra tu we sh) (h1 : c < 120 ∨ 127 < c) (h2 : c < k ∨ k + 5 < c) (h3 : c < j ∨ j + 1 < c) (e : fF k j σ σ') : rS σ' c s re fo ra tu we sh := H.fr (e c h1 h2 h3)
theorem rC.fF {k j : Nat} {σ σ' : yM} {k2 : Nat} {w h : Int} {T S F P O : Int → Int → Int} (H : rC σ k2 w h T S F P O) (h1 : k2 + 5 < 120 ∨ 127 < k2) (h2 : k2 + 5 < k ∨ k + 5 < k2) (h3 : k2 + 5 < j ∨ j + 1 < k2) (e : fF k j σ σ') : rC σ' k2 w h T S F P O := H.fr (fun c a b => e c (by omega) (by omega) (by omega))
theorem frF_in {w h : Int} {T S : Int → Int → Int} {s ra : Int} : ∀ e ∈ sFt w h T S s ra, ∃ x y : Int, (0 ≤ x ∧ x < w.toNat) ∧ (0 ≤ y ∧ y < h.toNat) ∧ e = (y * w + x, sRk w h T S s ra x y) ∧ sFr w h T x y = true := by
  unfold sFt fr2
  refine fr_inv (fun q => ∀ e ∈ q, ∃ x y : Int, (0 ≤ x ∧ x < w.toNat) ∧ (0 ≤ y ∧ y < h.toNat) ∧ e = (y * w + x, sRk w h T S s ra x y) ∧ sFr w h T x y = true) (fun e he => by cases he) (fun q b hb1 hb2 hq => fr_inv (fun q => ∀ e ∈ q, ∃ x y : Int, (0 ≤ x ∧ x < w.toNat) ∧ (0 ≤ y ∧ y < h.toNat) ∧ e = (y * w + x, sRk w h T S s ra x y) ∧ sFr w h T x y = true) hq (fun q a ha1 ha2 hq e he => ?_))
  unfold frF at he
  split at he
  · rename_i hf
    rcases List.mem_append.mp he with he | he
    · exact hq e he
    · rw [List.mem_singleton] at he
      exact ⟨a, b, by omega, by omega, he, hf⟩
  · exact hq e he
theorem sFt_rk {w h : Int} {T S F P O : Int → Int → Int} (A : aOk w h T S F P O) {s ra : Int} (hs : 0 ≤ s ∧ s ≤ 3) {i : Int} (h0 : 0 ≤ i) (hi : i < (sFt w h T S s ra).length) : 0 ≤ (gk (sFt w h T S s ra) i).2 ∧ (gk (sFt w h T S s ra) i).2 ≤ 513000 := by
  obtain ⟨x, y, hx, hy, he, hf⟩ := frF_in _ (gk_mem h0 hi)
  rw [he]
  have := A.1
  have h2 := sRk_pos A (ra := ra) hs (x := x) (y := y) (by omega) (by omega) (by omega) (by omega)
  simp only
  omega
theorem sFt_len {w h : Int} {T S : Int → Int → Int} {s ra : Int} (hw : 1 ≤ w ∧ w ≤ 20) (hh : 1 ≤ h ∧ h ≤ 20) : ((sFt w h T S s ra).length : Int) ≤ 400 := by
  have h1 := lnF_len (w := w) (h := h) (T := T) (S := S) (s := s) (ra := ra) (i := w * h) (by have := y_wh hw hh; omega)
  rw [lnF_all (by omega) (by omega)] at h1
  have := y_wh hw hh
  omega
