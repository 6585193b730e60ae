/-! what both sides are held against: pictures as functions of the place -/
/-- a place of a picture of w by h -/
def sIn (w h x y : Int) : Bool := decide (0 ≤ x) && decide (x < w) && decide (0 ≤ y) && decide (y < h)
def sKn (w h : Int) (T : Int → Int → Int) (x y : Int) : Bool := sIn w h x y && decide (T x y ≠ -1)
def sMi (w h : Int) (T : Int → Int → Int) (x y : Int) : Bool := sIn w h x y && decide (T x y = -1)
def sFr (w h : Int) (T : Int → Int → Int) (x y : Int) : Bool := sMi w h T x y && (sKn w h T (x - 1) y || sKn w h T (x + 1) y || sKn w h T x (y - 1) || sKn w h T x (y + 1))
theorem sIn_iff {w h x y : Int} : sIn w h x y = true ↔ (0 ≤ x ∧ x < w ∧ 0 ≤ y ∧ y < h) := by simp [sIn, and_assoc]
theorem sIn_not {w h x y : Int} : sIn w h x y = false ↔ ¬ (0 ≤ x ∧ x < w ∧ 0 ≤ y ∧ y < h) := by rw [← sIn_iff, Bool.not_eq_true]
/-- the class's picture at cell k -/
def pT (σ : yM) (k : Nat) (x y : Int) : Int := σ (k + 1) (y * σ k 0 + x)
/-- all its numbers are in order -/
def pOk (σ : yM) (k : Nat) : Prop := (1 ≤ σ k 0 ∧ σ k 0 ≤ 20 ∧ 1 ≤ σ k 1 ∧ σ k 1 ≤ 20) ∧ ∀ i : Int, 0 ≤ i → i < 400 → (-1 ≤ σ (k + 1) i ∧ σ (k + 1) i ≤ 255) ∧ (0 ≤ σ (k + 2) i ∧ σ (k + 2) i ≤ 1000) ∧ (0 ≤ σ (k + 3) i ∧ σ (k + 3) i < 2147483648) ∧ (-1 ≤ σ (k + 4) i ∧ σ (k + 4) i < 400) ∧ (-1 ≤ σ (k + 5) i ∧ σ (k + 5) i < 400)
theorem y_ix {w h x y : Int} (hw : 1 ≤ w ∧ w ≤ 20) (hh : 1 ≤ h ∧ h ≤ 20) (hx : 0 ≤ x ∧ x < w) (hy : 0 ≤ y ∧ y < h) : 0 ≤ y * w + x ∧ y * w + x < w * h ∧ w * h ≤ 400 ∧ 0 ≤ y * w ∧ y * w ≤ 380 := by
  have h1 : 0 ≤ y * w := Int.mul_nonneg hy.1 (by omega)
  have h2 : y * w ≤ (h - 1) * w := Int.mul_le_mul_of_nonneg_right (by omega) (by omega)
  have h3 : (h - 1) * w = w * h - w := by rw [Int.sub_mul, Int.one_mul, Int.mul_comm]
  have h4 : w * h ≤ 20 * h := Int.mul_le_mul_of_nonneg_right hw.2 (by omega)
  have h5 : y * w ≤ 19 * w := Int.mul_le_mul_of_nonneg_right (by omega) (by omega)
  omega
theorem y_wh {w h : Int} (hw : 1 ≤ w ∧ w ≤ 20) (hh : 1 ≤ h ∧ h ≤ 20) : 1 ≤ w * h ∧ w * h ≤ 400 := by
  have h1 : 1 * h ≤ w * h := Int.mul_le_mul_of_nonneg_right hw.1 (by omega)
  have h2 : w * h ≤ 20 * h := Int.mul_le_mul_of_nonneg_right hw.2 (by omega)
  omega
/-- a fold over a, a + 1 .. (n of them) -/
def fr {α : Type} (f : α → Int → α) (a : Int) : Nat → α → α
  | 0, s => s
  | n + 1, s => f (fr f a n s) (a + n)
/-- row by row -/
def fr2 {α : Type} (f : α → Int → Int → α) (x0 : Int) (nx : Nat) (y0 : Int) (ny : Nat) (s : α) : α := fr (fun s y => fr (fun s x => f s x y) x0 nx s) y0 ny s
theorem fr_0 {α : Type} (f : α → Int → α) (a : Int) (s : α) : fr f a 0 s = s := rfl
theorem fr_s {α : Type} (f : α → Int → α) (a : Int) (n : Nat) (s : α) : fr f a (n + 1) s = f (fr f a n s) (a + n) := rfl
theorem fr_up {α : Type} (f : α → Int → α) (a i : Int) (s : α) (h : 0 ≤ i) : fr f a (i + 1).toNat s = f (fr f a i.toNat s) (a + i) := by
  rw [show (i + 1).toNat = i.toNat + 1 by omega, fr_s, show ((i.toNat : Nat) : Int) = i by omega]
theorem fr_congr {α : Type} {f f' : α → Int → α} {a : Int} : ∀ {n : Nat} {s : α}, (∀ (s : α) (i : Int), a ≤ i → i < a + n → f s i = f' s i) → fr f a n s = fr f' a n s
  | 0, s, _ => rfl
  | n + 1, s, h => by
    rw [fr_s, fr_s, fr_congr (n := n) (fun s i h1 h2 => h s i h1 (by omega)), h _ _ (by omega) (by omega)]
theorem fr_add {α : Type} (f : α → Int → α) (a : Int) (m : Nat) : ∀ (n : Nat) (s : α), fr f a (m + n) s = fr f (a + m) n (fr f a m s)
  | 0, s => rfl
  | n + 1, s => by
    rw [show m + (n + 1) = (m + n) + 1 by omega, fr_s, fr_s, fr_add f a m n s]
    congr 1
    omega
theorem fr_skip {α : Type} {f : α → Int → α} {a : Int} : ∀ {n : Nat} {s : α}, (∀ (s : α) (i : Int), a ≤ i → i < a + n → f s i = s) → fr f a n s = s
  | 0, s, _ => rfl
  | n + 1, s, h => by
    rw [fr_s, fr_skip (n := n) (fun s i h1 h2 => h s i h1 (by omega)), h _ _ (by omega) (by omega)]
/-- an invariant of a fold -/
theorem fr_inv {α : Type} {f : α → Int → α} {a : Int} (P : α → Prop) : ∀ {n : Nat} {s : α}, P s → (∀ (s : α) (i : Int), a ≤ i → i < a + n → P s → P (f s i)) → P (fr f a n s)
  | 0, _, h, _ => h
  | n + 1, s, h, hs => by
    rw [fr_s]
    exact hs _ _ (by omega) (by omega) (fr_inv P (n := n) h (fun s i h1 h2 => hs s i h1 (by omega)))
theorem fr2_congr {α : Type} {f f' : α → Int → Int → α} {x0 y0 : Int} {nx ny : Nat} {s : α} (h : ∀ (s : α) (x y : Int), x0 ≤ x → x < x0 + nx → y0 ≤ y → y < y0 + ny → f s x y = f' s x y) : fr2 f x0 nx y0 ny s = fr2 f' x0 nx y0 ny s :=
  fr_congr (fun s y h1 h2 => fr_congr (fun s x h3 h4 => h s x y h3 h4 h1 h2))
theorem y_dm {w y x : Int} (hx : 0 ≤ x ∧ x < w) : (y * w + x) % w = x ∧ (y * w + x) / w = y := by
  have hw : w ≠ 0 := by omega
  constructor
  · rw [Int.add_comm, Int.add_mul_emod_self_right, Int.emod_eq_of_lt hx.1 hx.2]
  · rw [Int.add_comm, Int.add_mul_ediv_right _ _ hw, Int.ediv_eq_zero_of_lt hx.1 hx.2]
    omega
/-- place by place is row by row -/
theorem fr_lin {α : Type} (f : α → Int → Int → α) (w : Nat) (hw : 0 < w) : ∀ (h : Nat) (s : α), fr (fun s i => f s (i % (w : Int)) (i / (w : Int))) 0 (w * h) s = fr2 f 0 w 0 h s
  | 0, s => rfl
  | h + 1, s => by
    rw [Nat.mul_succ, fr_add, fr_lin f w hw h s]
    unfold fr2
    rw [fr_s]
    have key : ∀ (n : Nat) (t : α), n ≤ w → fr (fun s i => f s (i % (w : Int)) (i / (w : Int))) (0 + ((w * h : Nat) : Int)) n t = fr (fun s x => f s x (0 + (h : Int))) 0 n t := by
      intro n t hn
      induction n with
      | zero => rfl
      | succ n ih =>
        rw [fr_s, fr_s, ih (by omega)]
        have e := y_dm (w := (w : Int)) (y := (h : Int)) (x := (n : Int)) (by omega)
        have e2 : (0 + ((w * h : Nat) : Int)) + (n : Int) = (h : Int) * (w : Int) + (n : Int) := by
          rw [Int.natCast_mul, Int.mul_comm]
          omega
        rw [e2, e.1, e.2, Int.zero_add, Int.zero_add]
    exact key w _ (Nat.le_refl w)
theorem fr_linI {α : Type} (f : α → Int → Int → α) {w h : Int} (hw : 0 < w) (hh : 0 ≤ h) (s : α) : fr (fun s i => f s (i % w) (i / w)) 0 (w * h).toNat s = fr2 f 0 w.toNat 0 h.toNat s := by
  have h1 := fr_lin f w.toNat (by omega) h.toNat s
  rw [show ((w.toNat : Nat) : Int) = w by omega] at h1
  rw [← h1]
  congr 1
  have : ((w * h).toNat : Int) = ((w.toNat * h.toNat : Nat) : Int) := by
    rw [Int.natCast_mul, show ((w.toNat : Nat) : Int) = w by omega, show ((h.toNat : Nat) : Int) = h by omega]
    exact Int.toNat_of_nonneg (Int.mul_nonneg (by omega) hh)
  exact_mod_cast this
/-- x and y of a place by its number, NONE kept -/
def cx (w i : Int) : Int := if i < 0 then -1 else i % w
def cy (w i : Int) : Int := if i < 0 then -1 else i / w
theorem y_rem {a b : Int} (ha : 0 ≤ a) (hb : 0 < b) : a - Int.tdiv a b * b = a % b := by
  rw [Int.tdiv_eq_ediv_of_nonneg ha, Int.emod_def, Int.mul_comm]
theorem y_quo {a b : Int} (ha : 0 ≤ a) : Int.tdiv a b = a / b := Int.tdiv_eq_ediv_of_nonneg ha
/-- how many are missing, filled in, of the front -/
def sMs (w h : Int) (T : Int → Int → Int) : Int := fr2 (fun s x y => s + bi (decide (T x y = -1))) 0 w.toNat 0 h.toNat 0
def sCt (w h : Int) (p : Int → Int → Bool) : Int := fr2 (fun s x y => s + bi (p x y)) 0 w.toNat 0 h.toNat 0
/-- a dot that is given a tone (or is missing); a dot that is filled in -/
def gv (σ : yM) (k : Nat) (i t : Int) : yM := yset (yset (yset (yset (yset σ (k + 1) i t) (k + 2) i (if t = -1 then 0 else 1000)) (k + 3) i 0) (k + 4) i (-1)) (k + 5) i (-1)
def fI (σ : yM) (k : Nat) (i t s p m : Int) : yM := yset (yset (yset (yset (yset σ (k + 1) i t) (k + 2) i s) (k + 3) i m) (k + 4) i p) (k + 5) i (if 0 < σ (k + 3) p then σ (k + 5) p else p)
theorem yset_ap (σ : yM) (k : Nat) (j x : Int) (k' : Nat) (j' : Int) : yset σ k j x k' j' = if k' = k ∧ j' = j then x else σ k' j' := by
  unfold yset
  by_cases h : k' = k
  · subst h
    simp
  · simp [h]
/-- the mean of the known ones of two by two dots -/
def sM4 (w h : Int) (T : Int → Int → Int) (x y : Int) : Int :=
  let s := fr2 (fun (s : Int × Int) x y => if sKn w h T x y then (s.1 + T x y, s.2 + 1) else s) x 2 y 2 (0, 0)
  if s.2 = 0 then -1 else s.1.tdiv s.2
theorem cnt_lin {w h : Int} (p : Int → Bool) (hw : 0 < w) (hh : 0 ≤ h) : fr (fun s i => s + bi (p i)) 0 (w * h).toNat 0 = sCt w h (fun x y => p (y * w + x)) := by
  unfold sCt
  rw [← fr_linI (fun s x y => s + bi (p (y * w + x))) hw hh]
  refine fr_congr (fun s i h1 h2 => ?_)
  have e : i / w * w + i % w = i := by rw [Int.mul_comm]; exact Int.mul_ediv_add_emod i w
  rw [e]
/-- the reference's layer z -/
def mT (σ : yM) (z : Nat) (x y : Int) : Int := σ (158 + z) (20 * y + x)
def mOk (σ : yM) (z : Nat) : Prop := (1 ≤ σ 161 z ∧ σ 161 z ≤ 20 ∧ 1 ≤ σ 162 z ∧ σ 162 z ≤ 20) ∧ ∀ i : Int, 0 ≤ i → i < 400 → (-1 ≤ σ (158 + z) i ∧ σ (158 + z) i ≤ 255) ∧ (0 ≤ σ (158 + z) (400 + i) ∧ σ (158 + z) (400 + i) ≤ 1000) ∧ (0 ≤ σ (158 + z) (800 + i) ∧ σ (158 + z) (800 + i) < 2147483648) ∧ (-1 ≤ σ (158 + z) (1200 + i) ∧ σ (158 + z) (1200 + i) < 400) ∧ (-1 ≤ σ (158 + z) (1600 + i) ∧ σ (158 + z) (1600 + i) < 400)
/-- the seven settings at cell c -/
def sOk (σ : yM) (c : Nat) : Prop := (1 ≤ σ c 0 ∧ σ c 0 ≤ 3) ∧ (1 ≤ σ c 1 ∧ σ c 1 ≤ 20) ∧ (0 ≤ σ c 2 ∧ σ c 2 ≤ 1) ∧ (0 ≤ σ c 3 ∧ σ c 3 ≤ 2) ∧ (0 ≤ σ c 4 ∧ σ c 4 ≤ 3) ∧ (0 ≤ σ c 5 ∧ σ c 5 ≤ 1) ∧ (0 ≤ σ c 6 ∧ σ c 6 ≤ 1)
def mkn (σ : yM) (z : Nat) (i t : Int) : yM := yset (yset (yset (yset (yset σ (158 + z) i t) (158 + z) (400 + i) 1000) (158 + z) (800 + i) 0) (158 + z) (1200 + i) (-1)) (158 + z) (1600 + i) (-1)
def mms (σ : yM) (z : Nat) (i : Int) : yM := yset (yset (yset (yset (yset σ (158 + z) i (-1)) (158 + z) (400 + i) 0) (158 + z) (800 + i) 0) (158 + z) (1200 + i) (-1)) (158 + z) (1600 + i) (-1)
