/-! a fill as a step of pictures with their logs -/
abbrev aX : Type := (Int → Int → Int) × (Int → Int → Int) × (Int → Int → Int) × (Int → Int → Int) × (Int → Int → Int) × Int × Int × Int × (Int → Int → Int)
def sQ (w h : Int) (T S F : Int → Int → Int) (s re fo tu we sh : Int) (gd : Bool) (F2 P2 : Int → Int → Int) (x y : Int) : aQ := if gd then sGu w h T S F s re fo tu we sh x y (F2 (x / 2) (y / 2)) (P2 (x / 2) (y / 2)) else sSe w h T S F s fo tu we sh x y re
/-- what a picture with its log becomes by a fill of (x, y) -/
def fX (w h : Int) (s x y st : Int) (q : aQ) (X : aX) : aX := match X, q with
  | (T, S, F, P, O, nf, df, nl, lg), (bx, by_, bw, bs, bd, _, _, _, _) => (fT w h T (inP s x y) bx by_ bw bs x y, fC w h T (inP s x y) S st, fC w h T (inP s x y) F (nf + 1), fP w h T (inP s x y) P bx by_ bw x y, fO w h T F O (inP s x y) bx by_ bw x y, nf + 1, df + bd, min (nl + 1) 30, lgP (lgE x y bx by_ bd (fN w h T s x y) st bw bs) lg)
def fS (w h s re fo ra tu we sh : Int) (gd : Bool) (F2 P2 : Int → Int → Int) (X : aX) : Option aX := match X with
  | (T, S, F, P, O, nf, df, nl, lg) =>
    if (sNx w h T S s ra).1 = -1 then none
    else if (sQ w h T S F s re fo tu we sh gd F2 P2 (sNx w h T S s ra).1 (sNx w h T S s ra).2.1).1 = -1 then none
    else some (fX w h s (sNx w h T S s ra).1 (sNx w h T S s ra).2.1 (sSd w h S s (sNx w h T S s ra).1 (sNx w h T S s ra).2.1) (sQ w h T S F s re fo tu we sh gd F2 P2 (sNx w h T S s ra).1 (sNx w h T S s ra).2.1) (T, S, F, P, O, nf, df, nl, lg))
def rX (σ : yM) (z : Nat) (w h : Int) (X : aX) : Prop := match X with
  | (T, S, F, P, O, nf, df, nl, lg) => rM σ z w h T S F P O ∧ rL σ z nf df nl lg
/-- only layer z and the scratch have changed -/
def fZ (z : Nat) (σ σ' : yM) : Prop := ∀ (c : Nat) (j : Int), c < 172 → c ≠ 158 + z → (c ≠ 155 ∨ j < 11 ∨ 26 < j) → σ' c j = σ c j
theorem sNx_fr {w h : Int} {T S : Int → Int → Int} {s ra : Int} (hn : (sNx w h T S s ra).1 ≠ -1) : sFr w h T (sNx w h T S s ra).1 (sNx w h T S s ra).2.1 = true := by
  have key : ∀ (q : Int × Int × Int) (a b : Int), (q.1 = -1 ∨ sFr w h T q.1 q.2.1 = true) → ((nxF w h T S s ra q a b).1 = -1 ∨ sFr w h T (nxF w h T S s ra q a b).1 (nxF w h T S s ra q a b).2.1 = true) := by
    intro q a b hq
    unfold nxF
    split
    · rename_i hf
      split
      · exact hq
      · exact Or.inr hf
    · exact hq
  have h2 : (sNx w h T S s ra).1 = -1 ∨ sFr w h T (sNx w h T S s ra).1 (sNx w h T S s ra).2.1 = true := by
    unfold sNx fr2
    exact fr_inv (fun q : Int × Int × Int => q.1 = -1 ∨ sFr w h T q.1 q.2.1 = true) (Or.inl rfl) (fun q b _ _ hq => fr_inv (fun q : Int × Int × Int => q.1 = -1 ∨ sFr w h T q.1 q.2.1 = true) hq (fun q a _ _ hq => key q a b hq))
  exact h2.resolve_left hn
