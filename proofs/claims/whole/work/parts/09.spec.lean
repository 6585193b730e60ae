/-! what both sides are held against: pictures as functions of the place -/
/-- a place of a picture of w by h -/
def sIn (w h x y : Int) : Bool := decide (0 ≤ x) && decide (x < w) && decide (0 ≤ y) && decide (y < h)
def sKn (w h : Int) (T : Int → Int → Int) (x y : Int) : Bool := sIn w h x y && decide (T x y ≠ -1)
def sMi (w h : Int) (T : Int → Int → Int) (x y : Int) : Bool := sIn w h x y && decide (T x y = -1)
def sFr (w h : Int) (T : Int → Int → Int) (x y : Int) : Bool := sMi w h T x y && (sKn w h T (x - 1) y || sKn w h T (x + 1) y || sKn w h T x (y - 1) || sKn w h T x (y + 1))
theorem sIn_iff {w h x y : Int} : sIn w h x y = true ↔ (0 ≤ x ∧ x < w ∧ 0 ≤ y ∧ y < h) := by simp [sIn, and_assoc]
theorem sIn_not {w h x y : Int} : sIn w h x y = false ↔ ¬ (0 ≤ x ∧ x < w ∧ 0 ≤ y ∧ y < h) := by rw [← sIn_iff, Bool.not_eq_true]
/-- the class's picture at cell k -/
def pT (σ : yM) (k : Nat) (x y : Int) : Int := σ (k + 1) (y * σ k 0 + x)
/-- its sides are in order -/
def pWf (σ : yM) (k : Nat) : Prop := 1 ≤ σ k 0 ∧ σ k 0 ≤ 20 ∧ 1 ≤ σ k 1 ∧ σ k 1 ≤ 20
/-- its tones are -/
def pTn (σ : yM) (k : Nat) : Prop := ∀ i : Int, 0 ≤ i → i < 400 → -1 ≤ σ (k + 1) i ∧ σ (k + 1) i ≤ 255
theorem y_ix {w h x y : Int} (hw : 1 ≤ w ∧ w ≤ 20) (hh : 1 ≤ h ∧ h ≤ 20) (hx : 0 ≤ x ∧ x < w) (hy : 0 ≤ y ∧ y < h) : 0 ≤ y * w + x ∧ y * w + x < w * h ∧ w * h ≤ 400 ∧ 0 ≤ y * w ∧ y * w ≤ 380 := by
  have h1 : 0 ≤ y * w := Int.mul_nonneg hy.1 (by omega)
  have h2 : y * w ≤ (h - 1) * w := Int.mul_le_mul_of_nonneg_right (by omega) (by omega)
  have h3 : (h - 1) * w = w * h - w := by rw [Int.sub_mul, Int.one_mul, Int.mul_comm]
  have h4 : w * h ≤ 20 * h := Int.mul_le_mul_of_nonneg_right hw.2 (by omega)
  have h5 : y * w ≤ 19 * w := Int.mul_le_mul_of_nonneg_right (by omega) (by omega)
  omega
