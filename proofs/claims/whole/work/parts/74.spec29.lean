/-! what the questions answer -/
def nMi (w h : Int) (T : Int → Int → Int) : Int := sCt w h (fun x y => decide (T x y = -1))
def tV (w h : Int) (T F : Int → Int → Int) (nf df : Int) (hl tl : Int) (s re fo ra tu we sh : Int) (ht : Bool) (a : Int) : Int :=
  if a = 0 then w else if a = 1 then h else if a = 2 then w * h - nMi w h T else if a = 3 then nMi w h T else if a = 4 then sCt w h (fun x y => decide (0 < F x y)) else if a = 5 then sCt w h (fun x y => sFr w h T x y) else if a = 6 then (sPt w h T).2 else if a = 7 then nf else if a = 8 then hl else if a = 9 then tl else if a = 10 then s else if a = 11 then re else if a = 12 then fo else if a = 13 then ra else if a = 14 then bi ht else if a = 15 then df else if a = 16 then tu else if a = 17 then we else sh
def dV (w h : Int) (T S F P O : Int → Int → Int) (x y a : Int) : Int :=
  if a = 0 then T x y else if a = 1 then S x y else if a = 2 then bi (decide (0 < F x y)) else if a = 3 then mx (P x y) else if a = 4 then my (P x y) else if a = 5 then mx (O x y) else if a = 6 then my (O x y) else if a = 7 then (sPt w h T).1 x y else if a = 8 then bi (sFr w h T x y) else F x y
def rV (w h : Int) (T S : Int → Int → Int) (s ra x y a : Int) : Int :=
  if sMi w h T x y = true then (if a = 0 then sSd w h S s x y else if a = 1 then (sSl w h T s x y).1 else if a = 2 then (sSl w h T s x y).2 else if a = 3 then sOx w h T x y else if a = 4 then sOy w h T x y else if a = 5 then sFl w h T s x y else sRk w h T S s ra x y) else 0
def qV (q : aQ) (a : Int) : Int := match q with
  | (bx, by_, bw, bs, bd, so, sk, sp, lo) => if a = 0 then bx else if a = 1 then by_ else if a = 2 then bd else if a = 3 then so else if a = 4 then sk else if a = 5 then sp else if a = 6 then lo else if a = 7 then bw else bs
def nV (w h : Int) (T S F : Int → Int → Int) (s re fo ra tu we sh a : Int) : Int :=
  if (sNx w h T S s ra).1 = -1 then -1 else if a = 0 then (sNx w h T S s ra).1 else if a = 1 then (sNx w h T S s ra).2.1 else if a = 2 then (sNx w h T S s ra).2.2 else qV (sSe w h T S F s fo tu we sh (sNx w h T S s ra).1 (sNx w h T S s ra).2.1 re) (if a = 3 then 0 else if a = 4 then 1 else if a = 5 then 2 else 7)
def bN (A : aA) : aA := match A with
  | (w, h, X, sv, H, ht, K, tl, tb, fa, r1, r2) => (w, h, X, sv, H, ht, K, tl, tb, fa, r1 + 1, r2)
def bA (A : aA) : aA := match A with
  | (w, h, X, sv, H, ht, K, tl, tb, fa, r1, r2) => (w, h, X, sv, H, ht, K, tl, tb, fa, r1, r2 + 1)
/-- only the class's cells have changed; only the reference's -/
def cF (σ σ' : yM) : Prop := ∀ c : Nat, 155 ≤ c → σ' c = σ c
def mF (σ σ' : yM) : Prop := ∀ c : Nat, (c < 155 ∨ c = 171) → σ' c = σ c
theorem cF.rf (σ : yM) : cF σ σ := fun _ _ => rfl
theorem cF.tr {a b c : yM} (h1 : cF a b) (h2 : cF b c) : cF a c := fun q h => (h2 q h).trans (h1 q h)
theorem fc.cF {a b : Nat} {σ σ' : yM} (h : fc a b σ σ') (hb : b < 155) : cF σ σ' := fun q hq => h q (by omega)
theorem cV.scr {a b : Nat} {σ σ' : yM} {A : aA} (V : cV σ A) (h : fc a b σ σ') (ha : 120 ≤ a) (ht : rT σ') : cV σ' A := V.fr (fun c hc _ => h c (by omega)) ht
theorem cV.T {σ : yM} {A : aA} (V : cV σ A) : rT σ := by
  obtain ⟨w, h, X, ⟨s, re, fo, ra, tu, we, sh⟩, H, hb, K, tl, tb, fa, r1, r2⟩ := A
  exact V.2.2.2.2.2.2.2.2
theorem cV.bN {σ : yM} {A : aA} (V : cV σ A) : cV (yset σ 0 14 (σ 0 14 + 1)) (bN A) := by
  obtain ⟨w, h, X, ⟨s, re, fo, ra, tu, we, sh⟩, H, hb, K, tl, tb, fa, r1, r2⟩ := A
  obtain ⟨v1, v2, v3, ⟨v4, v5⟩, ⟨v6, v7⟩, v8, v9, v10, v11⟩ := V
  exact ⟨v1.fr (fun c a b => yset_n (by omega)) (fun c a b => yset_n (by omega)), v2.fr (yset_n (by omega)), v3.fr (fun c a b => yset_n (by omega)), ⟨by rw [yset_o (by omega)]; exact v4, fun q x y a b c d => by rw [yset_n (by omega)]; exact v5 q x y a b c d⟩, ⟨by rw [yset_n (by omega)]; exact v6, fun j a b => by rw [yset_n (by omega)]; exact v7 j a b⟩, by rw [yset_n (by omega)]; exact v8, by rw [yset_e, v9], by rw [yset_o (by omega)]; exact v10, v11.fr (yset_n (by omega))⟩
theorem cV.bA {σ : yM} {A : aA} (V : cV σ A) : cV (yset σ 0 15 (σ 0 15 + 1)) (bA A) := by
  obtain ⟨w, h, X, ⟨s, re, fo, ra, tu, we, sh⟩, H, hb, K, tl, tb, fa, r1, r2⟩ := A
  obtain ⟨v1, v2, v3, ⟨v4, v5⟩, ⟨v6, v7⟩, v8, v9, v10, v11⟩ := V
  exact ⟨v1.fr (fun c a b => yset_n (by omega)) (fun c a b => yset_n (by omega)), v2.fr (yset_n (by omega)), v3.fr (fun c a b => yset_n (by omega)), ⟨by rw [yset_o (by omega)]; exact v4, fun q x y a b c d => by rw [yset_n (by omega)]; exact v5 q x y a b c d⟩, ⟨by rw [yset_n (by omega)]; exact v6, fun j a b => by rw [yset_n (by omega)]; exact v7 j a b⟩, by rw [yset_n (by omega)]; exact v8, by rw [yset_o (by omega)]; exact v9, by rw [yset_e, v10], v11.fr (yset_n (by omega))⟩
theorem cF_N {σ : yM} {j v : Int} : cF σ (yset σ 0 j v) := fun c hc => yset_n (by omega)
theorem cI_m {w h c : Int} (hw : 1 ≤ w) (hc : cOk w h c) : cx w (cI w c) = mx c ∧ cy w (cI w c) = my c := by
  rcases hc with e | e
  · subst e
    unfold cI cx cy mx my
    simp
  · have h2 := cI_xy (h := h) hw (Or.inr e) e.1
    unfold mx my
    rw [if_neg (by omega), if_neg (by omega)]
    exact ⟨h2.1, h2.2.1⟩
theorem b_xy {w h bx by_ : Int} (hw : 1 ≤ w) (hb : (bx = -1 ∧ by_ = -1) ∨ sIn w h bx by_ = true) : cx w (if bx = -1 then -1 else by_ * w + bx) = bx ∧ cy w (if bx = -1 then -1 else by_ * w + bx) = by_ := by
  rcases hb with e | e
  · rw [if_pos e.1]
    unfold cx cy
    rw [if_pos (by decide), if_pos (by decide)]
    exact ⟨e.1.symm, e.2.symm⟩
  · have h1 := sIn_iff.mp e
    have h2 := y_dm (w := w) (y := by_) (x := bx) ⟨h1.1, h1.2.1⟩
    have h3 : 0 ≤ by_ * w := Int.mul_nonneg h1.2.2.1 (by omega)
    rw [if_neg (by omega)]
    unfold cx cy
    rw [if_neg (by omega), if_neg (by omega)]
    exact h2
theorem qOk.d {w h : Int} {T : Int → Int → Int} {s : Int} {bx by_ bw bs bd so sk sp lo : Int} (H : qOk w h T s (bx, by_, bw, bs, bd, so, sk, sp, lo)) : (bx = -1 ∧ by_ = -1) ∨ sIn w h bx by_ = true := by
  rcases H.1 with e | e
  · exact Or.inl ⟨e.1, e.2.1⟩
  · exact Or.inr e.1
theorem b_r {w h bx by_ : Int} (hw : 1 ≤ w ∧ w ≤ 20) (hh : 1 ≤ h ∧ h ≤ 20) (hb : (bx = -1 ∧ by_ = -1) ∨ sIn w h bx by_ = true) : -2147483648 ≤ (if bx = -1 then -1 else by_ * w + bx) ∧ (if bx = -1 then -1 else by_ * w + bx) < 2147483648 := by
  rcases hb with e | e
  · rw [if_pos e.1]
    decide
  · have h1 := sIn_iff.mp e
    have := y_ix hw hh ⟨h1.1, h1.2.1⟩ h1.2.2
    rw [if_neg (by omega)]
    omega
