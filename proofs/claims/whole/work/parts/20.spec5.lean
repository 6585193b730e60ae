/-! the log of fills, and a fill -/
theorem sc_lt {g : yG} {k : Nat} {f : (Int → Int) → va_E} (h : SC g k = some f) : k < 172 := (List.getElem?_eq_some_iff.mp h).1
/-- fills, differences together, how many are told, and these, the latest first -/
def rL (σ : yM) (z : Nat) (nf df nl : Int) (lg : Int → Int → Int) : Prop := σ (158 + z) 2000 = nf ∧ σ (158 + z) 2001 = df ∧ σ (158 + z) 2002 = nl ∧ (0 ≤ nf ∧ nf < 1000000000) ∧ (0 ≤ nl ∧ nl ≤ 30) ∧ ∀ k c : Int, 0 ≤ k → k < nl → 0 ≤ c → c < 9 → σ (158 + z) (2003 + (9 * k + c)) = lg k c
def lgP (e : Int → Int) (lg : Int → Int → Int) : Int → Int → Int := fun k c => if k = 0 then e c else lg (k - 1) c
def lgE (x y bx by_ bd m st bw bs : Int) : Int → Int := fun c => if c = 0 then x else if c = 1 then y else if c = 2 then bx else if c = 3 then by_ else if c = 4 then bd else if c = 5 then m else if c = 6 then st else if c = 7 then bw else bs
/-- beyond place lo of layer z nothing has changed but its own -/
def fL (z : Nat) (lo : Int) (σ σ' : yM) : Prop := ∀ (c : Nat) (j : Int), c < 172 → (c ≠ 158 + z ∨ j < lo) → σ' c j = σ c j
theorem fL.rf {z : Nat} {lo : Int} (σ : yM) : fL z lo σ σ := fun _ _ _ _ => rfl
theorem fL.tr {z : Nat} {lo : Int} {a b c : yM} (h1 : fL z lo a b) (h2 : fL z lo b c) : fL z lo a c := fun k j hk h => (h2 k j hk h).trans (h1 k j hk h)
theorem fL.st {z : Nat} {lo : Int} {σ σ' : yM} (h : fL z lo σ σ') {j v : Int} (hj : lo ≤ j) : fL z lo σ (yset σ' (158 + z) j v) := fun c i hc q => by
  rw [yset_o (by omega)]
  exact h c i hc q
/-- one dot of a fill in the reference's memory -/
def mf1 (σ : yM) (z : Nat) (i p st : Int) : yM := yset (yset (yset (yset (yset σ (158 + z) i (max 0 (min 255 (σ (158 + z) p + σ 155 22)))) (158 + z) (400 + i) st) (158 + z) (800 + i) (σ (158 + z) 2000)) (158 + z) (1200 + i) p) (158 + z) (1600 + i) (if 0 < σ (158 + z) (800 + p) then σ (158 + z) (1600 + p) else p)
/-- the patch of (x, y) -/
def inP (s x y i j : Int) : Bool := decide (x - s ≤ i) && decide (i ≤ x + s) && decide (y - s ≤ j) && decide (j ≤ y + s)
/-- a fill of (x, y) from best (bx, by) by way bw with shift bs: the place, and what each dot becomes; D says which dots are done -/
def fPl (bx by_ bw x y i j : Int) : Int := 20 * (by_ + wY bw (i - x) (j - y)) + (bx + wX bw (i - x) (j - y))
def fT (w h : Int) (T : Int → Int → Int) (D : Int → Int → Bool) (bx by_ bw bs x y : Int) : Int → Int → Int := fun i j => if D i j && sMi w h T i j then max 0 (min 255 (T (bx + wX bw (i - x) (j - y)) (by_ + wY bw (i - x) (j - y)) + bs)) else T i j
def fC (w h : Int) (T : Int → Int → Int) (D : Int → Int → Bool) (A : Int → Int → Int) (a : Int) : Int → Int → Int := fun i j => if D i j && sMi w h T i j then a else A i j
def fP (w h : Int) (T : Int → Int → Int) (D : Int → Int → Bool) (P : Int → Int → Int) (bx by_ bw x y : Int) : Int → Int → Int := fun i j => if D i j && sMi w h T i j then fPl bx by_ bw x y i j else P i j
def fO (w h : Int) (T F O : Int → Int → Int) (D : Int → Int → Bool) (bx by_ bw x y : Int) : Int → Int → Int := fun i j => if D i j && sMi w h T i j then (if 0 < F (bx + wX bw (i - x) (j - y)) (by_ + wY bw (i - x) (j - y)) then O (bx + wX bw (i - x) (j - y)) (by_ + wY bw (i - x) (j - y)) else fPl bx by_ bw x y i j) else O i j
/-- how many are filled in -/
def fN (w h : Int) (T : Int → Int → Int) (s x y : Int) : Int := fr2 (fun c i j => c + bi (sMi w h T i j)) (x - s) (2 * s + 1).toNat (y - s) (2 * s + 1).toNat 0
