/-! counts, flaws, seams; rows laid aside -/
def flF (T F K : Int → Int → Int) (q x y : Int) : Int := if 0 < F x y ∧ K x y ≠ -1 then q + (T x y - K x y) * (T x y - K x y) else q
def sFw (w h : Int) (T F K : Int → Int → Int) : Int := fr2 (flF T F K) 0 w.toNat 0 h.toNat 0
def lsF (S F : Int → Int → Int) (l x y : Int) : Int := if 0 < F x y ∧ (l = -1 ∨ S x y < l) then S x y else l
def sLs (w h : Int) (S F : Int → Int → Int) : Int := fr2 (lsF S F) 0 w.toNat 0 h.toNat (-1)
def jtF (w h : Int) (T F : Int → Int → Int) (q : Int × Int × Int) (x y i j : Int) : Int × Int × Int := if sKn w h T x y = true ∧ sKn w h T i j = true ∧ decide (0 < F x y) ≠ decide (0 < F i j) then (q.1 + ((T x y - T i j).natAbs : Int), q.2.1 + 1, max q.2.2 ((T x y - T i j).natAbs : Int)) else q
def smF (w h : Int) (T F : Int → Int → Int) (q : Int × Int × Int) (x y : Int) : Int × Int × Int := jtF w h T F (jtF w h T F q x y (x + 1) y) x y x (y + 1)
def sSm (w h : Int) (T F : Int → Int → Int) : Int × Int × Int := fr2 (smF w h T F) 0 w.toNat 0 h.toNat (0, 0, 0)
def mx (c : Int) : Int := if c = -1 then -1 else c % 20
def my (c : Int) : Int := if c = -1 then -1 else c / 20
/-- a picture with its log in a row of numbers, from place o on -/
def rB (σ : yM) (c : Nat) (o w h : Int) (X : aX) : Prop := aOk w h X.1 X.2.1 X.2.2.1 X.2.2.2.1 X.2.2.2.2.1 ∧ (∀ x y : Int, 0 ≤ x → x < w → 0 ≤ y → y < h → σ c (o + (20 * y + x)) = X.1 x y ∧ σ c (o + (400 + (20 * y + x))) = X.2.1 x y ∧ σ c (o + (800 + (20 * y + x))) = X.2.2.1 x y ∧ σ c (o + (1200 + (20 * y + x))) = X.2.2.2.1 x y ∧ σ c (o + (1600 + (20 * y + x))) = X.2.2.2.2.1 x y) ∧ σ c (o + 2000) = X.2.2.2.2.2.1 ∧ σ c (o + 2001) = X.2.2.2.2.2.2.1 ∧ σ c (o + 2002) = X.2.2.2.2.2.2.2.1 ∧ (0 ≤ X.2.2.2.2.2.1 ∧ X.2.2.2.2.2.1 < 1000000000) ∧ (0 ≤ X.2.2.2.2.2.2.2.1 ∧ X.2.2.2.2.2.2.2.1 ≤ 30) ∧ ∀ k e : Int, 0 ≤ k → k < X.2.2.2.2.2.2.2.1 → 0 ≤ e → e < 9 → σ c (o + (2003 + (9 * k + e))) = X.2.2.2.2.2.2.2.2 k e
theorem rB.cp {σ σ' : yM} {c c' : Nat} {o o' w h : Int} {X : aX} (H : rB σ c o w h X) (e : ∀ j : Int, 0 ≤ j → j < 2273 → σ' c' (o' + j) = σ c (o + j)) : rB σ' c' o' w h X := by
  obtain ⟨h1, h2, h3, h4, h5, h6, h7, h8⟩ := H
  have hw := h1.1
  refine ⟨h1, fun x y a b d f => ?_, by rw [e _ (by omega) (by omega)]; exact h3, by rw [e _ (by omega) (by omega)]; exact h4, by rw [e _ (by omega) (by omega)]; exact h5, h6, h7, fun k q a b d f => by rw [e _ (by omega) (by omega)]; exact h8 k q a b d f⟩
  rw [e _ (by omega) (by omega), e _ (by omega) (by omega), e _ (by omega) (by omega), e _ (by omega) (by omega), e _ (by omega) (by omega)]
  exact h2 x y a b d f
theorem rX.b {σ : yM} {w h : Int} {X : aX} (H : rX σ 0 w h X) : rB σ 158 0 w h X := by
  obtain ⟨T, S, F, P, O, nf, df, nl, lg⟩ := X
  obtain ⟨⟨h1, h2, h3, h4⟩, l1, l2, l3, l4, l5, l6⟩ := H
  refine ⟨h1, fun x y a b d f => ?_, by rw [Int.zero_add]; exact l1, by rw [Int.zero_add]; exact l2, by rw [Int.zero_add]; exact l3, l4, l5, fun k q a b d f => by rw [Int.zero_add]; exact l6 k q a b d f⟩
  rw [Int.zero_add, Int.zero_add, Int.zero_add, Int.zero_add, Int.zero_add]
  exact h4 x y a b d f
theorem rB.x {σ : yM} {w h : Int} {X : aX} (H : rB σ 158 0 w h X) (hw : σ 161 0 = w) (hh : σ 162 0 = h) : rX σ 0 w h X := by
  obtain ⟨T, S, F, P, O, nf, df, nl, lg⟩ := X
  obtain ⟨h1, h2, h3, h4, h5, h6, h7, h8⟩ := H
  rw [Int.zero_add] at h3 h4 h5
  refine ⟨⟨h1, hw, hh, fun x y a b d f => ?_⟩, h3, h4, h5, h6, h7, fun k q a b d f => ?_⟩
  · have := h2 x y a b d f
    rw [Int.zero_add, Int.zero_add, Int.zero_add, Int.zero_add, Int.zero_add] at this
    exact this
  · have := h8 k q a b d f
    rw [Int.zero_add] at this
    exact this
/-- what the guided run may change in the reference -/
def fY (σ σ' : yM) : Prop := ∀ (c : Nat) (j : Int), c < 172 → (c < 158 ∨ 160 < c) → ((c ≠ 161 ∧ c ≠ 162) ∨ j = 0) → (c ≠ 155 ∨ j < 11 ∨ 26 < j) → σ' c j = σ c j
theorem fY.rf (σ : yM) : fY σ σ := fun _ _ _ _ _ _ => rfl
theorem fY.tr {a b c : yM} (h1 : fY a b) (h2 : fY b c) : fY a c := fun k j p q r s => (h2 k j p q r s).trans (h1 k j p q r s)
theorem fZ.y {z : Nat} {σ σ' : yM} (h : fZ z σ σ') (hz : z < 3) : fY σ σ' := fun c j a b d e => h c j a (by omega) e
theorem fY.cell {σ σ' : yM} (h : fY σ σ') {c : Nat} (h1 : c < 155 ∨ c = 156 ∨ c = 157 ∨ 162 < c) (h2 : c < 172) : σ' c = σ c := funext fun j => h c j h2 (by omega) (by omega) (by omega)
theorem bi_inj {a b : Bool} (h : bi a = bi b) : a = b := by
  cases a <;> cases b <;> simp [bi] at h ⊢
