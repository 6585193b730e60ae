/-! what both sides are held against: pictures as functions of the place -/
/-- a place of a picture of w by h -/
def sIn (w h x y : Int) : Bool := decide (0 ≤ x) && decide (x < w) && decide (0 ≤ y) && decide (y < h)
def sKn (w h : Int) (T : Int → Int → Int) (x y : Int) : Bool := sIn w h x y && decide (T x y ≠ -1)
def sMi (w h : Int) (T : Int → Int → Int) (x y : Int) : Bool := sIn w h x y && decide (T x y = -1)
def sFr (w h : Int) (T : Int → Int → Int) (x y : Int) : Bool := sMi w h T x y && (sKn w h T (x - 1) y || sKn w h T (x + 1) y || sKn w h T x (y - 1) || sKn w h T x (y + 1))
theorem sIn_iff {w h x y : Int} : sIn w h x y = true ↔ (0 ≤ x ∧ x < w ∧ 0 ≤ y ∧ y < h) := by simp [sIn, and_assoc]
theorem sIn_not {w h x y : Int} : sIn w h x y = false ↔ ¬ (0 ≤ x ∧ x < w ∧ 0 ≤ y ∧ y < h) := by rw [← sIn_iff, Bool.not_eq_true]
theorem y_ix {w h x y : Int} (hw : 1 ≤ w ∧ w ≤ 20) (hh : 1 ≤ h ∧ h ≤ 20) (hx : 0 ≤ x ∧ x < w) (hy : 0 ≤ y ∧ y < h) : 0 ≤ y * w + x ∧ y * w + x < w * h ∧ w * h ≤ 400 ∧ 0 ≤ y * w ∧ y * w ≤ 380 := by
  have h1 : 0 ≤ y * w := Int.mul_nonneg hy.1 (by omega)
  have h2 : y * w ≤ (h - 1) * w := Int.mul_le_mul_of_nonneg_right (by omega) (by omega)
  have h3 : (h - 1) * w = w * h - w := by rw [Int.sub_mul, Int.one_mul, Int.mul_comm]
  have h4 : w * h ≤ 20 * h := Int.mul_le_mul_of_nonneg_right hw.2 (by omega)
  have h5 : y * w ≤ 19 * w := Int.mul_le_mul_of_nonneg_right (by omega) (by omega)
  omega
theorem y_wh {w h : Int} (hw : 1 ≤ w ∧ w ≤ 20) (hh : 1 ≤ h ∧ h ≤ 20) : 1 ≤ w * h ∧ w * h ≤ 400 := by
  have h1 : 1 * h ≤ w * h := Int.mul_le_mul_of_nonneg_right hw.1 (by omega)
  have h2 : w * h ≤ 20 * h := Int.mul_le_mul_of_nonneg_right hw.2 (by omega)
  omega
/-- a fold over a, a + 1 .. (n of them) -/
def fr {α : Type} (f : α → Int → α) (a : Int) : Nat → α → α
  | 0, s => s
  | n + 1, s => f (fr f a n s) (a + n)
/-- row by row -/
def fr2 {α : Type} (f : α → Int → Int → α) (x0 : Int) (nx : Nat) (y0 : Int) (ny : Nat) (s : α) : α := fr (fun s y => fr (fun s x => f s x y) x0 nx s) y0 ny s
theorem fr_0 {α : Type} (f : α → Int → α) (a : Int) (s : α) : fr f a 0 s = s := rfl
theorem fr_s {α : Type} (f : α → Int → α) (a : Int) (n : Nat) (s : α) : fr f a (n + 1) s = f (fr f a n s) (a + n) := rfl
theorem fr_up {α : Type} (f : α → Int → α) (a i : Int) (s : α) (h : 0 ≤ i) : fr f a (i + 1).toNat s = f (fr f a i.toNat s) (a + i) := by
  rw [show (i + 1).toNat = i.toNat + 1 by omega, fr_s, show ((i.toNat : Nat) : Int) = i by omega]
theorem fr_congr {α : Type} {f f' : α → Int → α} {a : Int} : ∀ {n : Nat} {s : α}, (∀ (s : α) (i : Int), a ≤ i → i < a + n → f s i = f' s i) → fr f a n s = fr f' a n s
  | 0, s, _ => rfl
  | n + 1, s, h => by
    rw [fr_s, fr_s, fr_congr (n := n) (fun s i h1 h2 => h s i h1 (by omega)), h _ _ (by omega) (by omega)]
theorem fr_add {α : Type} (f : α → Int → α) (a : Int) (m : Nat) : ∀ (n : Nat) (s : α), fr f a (m + n) s = fr f (a + m) n (fr f a m s)
  | 0, s => rfl
  | n + 1, s => by
    rw [show m + (n + 1) = (m + n) + 1 by omega, fr_s, fr_s, fr_add f a m n s]
    congr 1
    omega
theorem fr_skip {α : Type} {f : α → Int → α} {a : Int} : ∀ {n : Nat} {s : α}, (∀ (s : α) (i : Int), a ≤ i → i < a + n → f s i = s) → fr f a n s = s
  | 0, s, _ => rfl
  | n + 1, s, h => by
    rw [fr_s, fr_skip (n := n) (fun s i h1 h2 => h s i h1 (by omega)), h _ _ (by omega) (by omega)]
/-- an invariant of a fold -/
theorem fr_inv {α : Type} {f : α → Int → α} {a : Int} (P : α → Prop) : ∀ {n : Nat} {s : α}, P s → (∀ (s : α) (i : Int), a ≤ i → i < a + n → P s → P (f s i)) → P (fr f a n s)
  | 0, _, h, _ => h
  | n + 1, s, h, hs => by
    rw [fr_s]
    exact hs _ _ (by omega) (by omega) (fr_inv P (n := n) h (fun s i h1 h2 => hs s i h1 (by omega)))
theorem fr2_congr {α : Type} {f f' : α → Int → Int → α} {x0 y0 : Int} {nx ny : Nat} {s : α} (h : ∀ (s : α) (x y : Int), x0 ≤ x → x < x0 + nx → y0 ≤ y → y < y0 + ny → f s x y = f' s x y) : fr2 f x0 nx y0 ny s = fr2 f' x0 nx y0 ny s :=
  fr_congr (fun s y h1 h2 => fr_congr (fun s x h3 h4 => h s x y h3 h4 h1 h2))
theorem y_dm {w y x : Int} (hx : 0 ≤ x ∧ x < w) : (y * w + x) % w = x ∧ (y * w + x) / w = y := by
  have hw : w ≠ 0 := by omega
  constructor
  · rw [Int.add_comm, Int.add_mul_emod_self_right, Int.emod_eq_of_lt hx.1 hx.2]
  · rw [Int.add_comm, Int.add_mul_ediv_right _ _ hw, Int.ediv_eq_zero_of_lt hx.1 hx.2]
    omega
/-- place by place is row by row -/
theorem fr_lin {α : Type} (f : α → Int → Int → α) (w : Nat) (hw : 0 < w) : ∀ (h : Nat) (s : α), fr (fun s i => f s (i % (w : Int)) (i / (w : Int))) 0 (w * h) s = fr2 f 0 w 0 h s
  | 0, s => rfl
  | h + 1, s => by
    rw [Nat.mul_succ, fr_add, fr_lin f w hw h s]
    unfold fr2
    rw [fr_s]
    have key : ∀ (n : Nat) (t : α), n ≤ w → fr (fun s i => f s (i % (w : Int)) (i / (w : Int))) (0 + ((w * h : Nat) : Int)) n t = fr (fun s x => f s x (0 + (h : Int))) 0 n t := by
      intro n t hn
      induction n with
      | zero => rfl
      | succ n ih =>
        rw [fr_s, fr_s, ih (by omega)]
        have e := y_dm (w := (w : Int)) (y := (h : Int)) (x := (n : Int)) (by omega)
        have e2 : (0 + ((w * h : Nat) : Int)) + (n : Int) = (h : Int) * (w : Int) + (n : Int) := by
          rw [Int.natCast_mul, Int.mul_comm]
          omega
        rw [e2, e.1, e.2, Int.zero_add, Int.zero_add]
    exact key w _ (Nat.le_refl w)
theorem fr_linI {α : Type} (f : α → Int → Int → α) {w h : Int} (hw : 0 < w) (hh : 0 ≤ h) (s : α) : fr (fun s i => f s (i % w) (i / w)) 0 (w * h).toNat s = fr2 f 0 w.toNat 0 h.toNat s := by
  have h1 := fr_lin f w.toNat (by omega) h.toNat s
  rw [show ((w.toNat : Nat) : Int) = w by omega] at h1
  rw [← h1]
  congr 1
  have : ((w * h).toNat : Int) = ((w.toNat * h.toNat : Nat) : Int) := by
    rw [Int.natCast_mul, show ((w.toNat : Nat) : Int) = w by omega, show ((h.toNat : Nat) : Int) = h by omega]
    exact Int.toNat_of_nonneg (Int.mul_nonneg (by omega) hh)
  exact_mod_cast this
/-- x and y of a place by its number, NONE kept -/
def cx (w i : Int) : Int := if i < 0 then -1 else i % w
def cy (w i : Int) : Int := if i < 0 then -1 else i / w
theorem y_rem {a b : Int} (ha : 0 ≤ a) (hb : 0 < b) : a - Int.tdiv a b * b = a % b := by
  rw [Int.tdiv_eq_ediv_of_nonneg ha, Int.emod_def, Int.mul_comm]
theorem y_quo {a b : Int} (ha : 0 ≤ a) : Int.tdiv a b = a / b := Int.tdiv_eq_ediv_of_nonneg ha
/-- how many dots are so -/
def sCt (w h : Int) (p : Int → Int → Bool) : Int := fr2 (fun s x y => s + bi (p x y)) 0 w.toNat 0 h.toNat 0
/-- a dot that is given a tone (or is missing); a dot that is filled in -/
def gv (σ : yM) (k : Nat) (i t : Int) : yM := yset (yset (yset (yset (yset σ (k + 1) i t) (k + 2) i (if t = -1 then 0 else 1000)) (k + 3) i 0) (k + 4) i (-1)) (k + 5) i (-1)
def fI (σ : yM) (k : Nat) (i t s p m : Int) : yM := yset (yset (yset (yset (yset σ (k + 1) i t) (k + 2) i s) (k + 3) i m) (k + 4) i p) (k + 5) i (if 0 < σ (k + 3) p then σ (k + 5) p else p)
theorem yset_ap (σ : yM) (k : Nat) (j x : Int) (k' : Nat) (j' : Int) : yset σ k j x k' j' = if k' = k ∧ j' = j then x else σ k' j' := by
  unfold yset
  by_cases h : k' = k
  · subst h
    simp
  · simp [h]
/-- the mean of the known ones of two by two dots -/
def sM4 (w h : Int) (T : Int → Int → Int) (x y : Int) : Int :=
  let s := fr2 (fun (s : Int × Int) x y => if sKn w h T x y then (s.1 + T x y, s.2 + 1) else s) x 2 y 2 (0, 0)
  if s.2 = 0 then -1 else s.1.tdiv s.2
theorem cnt_lin {w h : Int} (p : Int → Bool) (hw : 0 < w) (hh : 0 ≤ h) : fr (fun s i => s + bi (p i)) 0 (w * h).toNat 0 = sCt w h (fun x y => p (y * w + x)) := by
  unfold sCt
  rw [← fr_linI (fun s x y => s + bi (p (y * w + x))) hw hh]
  refine fr_congr (fun s i h1 h2 => ?_)
  have e : i / w * w + i % w = i := by rw [Int.mul_comm]; exact Int.mul_ediv_add_emod i w
  rw [e]
/-- the seven settings at cell c -/
def sOk (σ : yM) (c : Nat) : Prop := (1 ≤ σ c 0 ∧ σ c 0 ≤ 3) ∧ (1 ≤ σ c 1 ∧ σ c 1 ≤ 20) ∧ (0 ≤ σ c 2 ∧ σ c 2 ≤ 1) ∧ (0 ≤ σ c 3 ∧ σ c 3 ≤ 2) ∧ (0 ≤ σ c 4 ∧ σ c 4 ≤ 3) ∧ (0 ≤ σ c 5 ∧ σ c 5 ≤ 1) ∧ (0 ≤ σ c 6 ∧ σ c 6 ≤ 1)
def mkn (σ : yM) (z : Nat) (i t : Int) : yM := yset (yset (yset (yset (yset σ (158 + z) i t) (158 + z) (400 + i) 1000) (158 + z) (800 + i) 0) (158 + z) (1200 + i) (-1)) (158 + z) (1600 + i) (-1)
def mms (σ : yM) (z : Nat) (i : Int) : yM := yset (yset (yset (yset (yset σ (158 + z) i (-1)) (158 + z) (400 + i) 0) (158 + z) (800 + i) 0) (158 + z) (1200 + i) (-1)) (158 + z) (1600 + i) (-1)
/-- a dot's code: 20 y + x, or NONE; the number that the class has for it -/
def cOk (w h c : Int) : Prop := c = -1 ∨ (0 ≤ c ∧ c % 20 < w ∧ c / 20 < h)
def cI (w c : Int) : Int := if c < 0 then -1 else c / 20 * w + c % 20
/-- numbers of a picture in order -/
def aOk (w h : Int) (T S F P O : Int → Int → Int) : Prop := (1 ≤ w ∧ w ≤ 20 ∧ 1 ≤ h ∧ h ≤ 20) ∧ ∀ x y : Int, 0 ≤ x → x < w → 0 ≤ y → y < h → (-1 ≤ T x y ∧ T x y ≤ 255) ∧ (0 ≤ S x y ∧ S x y ≤ 1000) ∧ (0 ≤ F x y ∧ F x y < 2147483648) ∧ cOk w h (P x y) ∧ cOk w h (O x y) ∧ (0 < F x y ↔ 0 ≤ P x y) ∧ (0 < F x y ↔ 0 ≤ O x y)
/-- the class's picture at cell k is w, h, T (tones), S (sure), F (filled by), P (parents), O (origins) -/
def rC (σ : yM) (k : Nat) (w h : Int) (T S F P O : Int → Int → Int) : Prop := aOk w h T S F P O ∧ σ k 0 = w ∧ σ k 1 = h ∧ ∀ x y : Int, 0 ≤ x → x < w → 0 ≤ y → y < h → σ (k + 1) (y * w + x) = T x y ∧ σ (k + 2) (y * w + x) = S x y ∧ σ (k + 3) (y * w + x) = F x y ∧ σ (k + 4) (y * w + x) = cI w (P x y) ∧ σ (k + 5) (y * w + x) = cI w (O x y)
/-- the reference's layer z is -/
def rM (σ : yM) (z : Nat) (w h : Int) (T S F P O : Int → Int → Int) : Prop := aOk w h T S F P O ∧ σ 161 z = w ∧ σ 162 z = h ∧ ∀ x y : Int, 0 ≤ x → x < w → 0 ≤ y → y < h → σ (158 + z) (20 * y + x) = T x y ∧ σ (158 + z) (400 + (20 * y + x)) = S x y ∧ σ (158 + z) (800 + (20 * y + x)) = F x y ∧ σ (158 + z) (1200 + (20 * y + x)) = P x y ∧ σ (158 + z) (1600 + (20 * y + x)) = O x y
theorem rC.fr {σ σ' : yM} {k : Nat} {w h : Int} {T S F P O : Int → Int → Int} (H : rC σ k w h T S F P O) (e : ∀ c, k ≤ c → c ≤ k + 5 → σ' c = σ c) : rC σ' k w h T S F P O := by
  obtain ⟨h1, h2, h3, h4⟩ := H
  refine ⟨h1, by rw [e k (by omega) (by omega)]; exact h2, by rw [e k (by omega) (by omega)]; exact h3, ?_⟩
  rw [e (k + 1) (by omega) (by omega), e (k + 2) (by omega) (by omega), e (k + 3) (by omega) (by omega), e (k + 4) (by omega) (by omega), e (k + 5) (by omega) (by omega)]
  exact h4
theorem rM.fr {σ σ' : yM} {z : Nat} {w h : Int} {T S F P O : Int → Int → Int} (H : rM σ z w h T S F P O) (e1 : σ' 161 = σ 161) (e2 : σ' 162 = σ 162) (e3 : ∀ i : Int, 0 ≤ i → i < 2000 → σ' (158 + z) i = σ (158 + z) i) : rM σ' z w h T S F P O := by
  obtain ⟨h1, h2, h3, h4⟩ := H
  refine ⟨h1, by rw [e1]; exact h2, by rw [e2]; exact h3, fun x y a b c d => ?_⟩
  have hw := h1.1
  rw [e3 _ (by omega) (by omega), e3 _ (by omega) (by omega), e3 _ (by omega) (by omega), e3 _ (by omega) (by omega), e3 _ (by omega) (by omega)]
  exact h4 x y a b c d
theorem y_de {w h i : Int} (hw : 1 ≤ w) (hi : 0 ≤ i) (hl : i < w * h) : i / w * w + i % w = i ∧ 0 ≤ i % w ∧ i % w < w ∧ 0 ≤ i / w ∧ i / w < h := by
  refine ⟨by rw [Int.mul_comm]; exact Int.mul_ediv_add_emod i w, Int.emod_nonneg _ (by omega), Int.emod_lt_of_pos _ (by omega), Int.ediv_nonneg hi (by omega), ?_⟩
  exact Int.ediv_lt_of_lt_mul (by omega) (by rw [Int.mul_comm]; exact hl)
/-- by a dot's number -/
theorem rC.at {σ : yM} {k : Nat} {w h : Int} {T S F P O : Int → Int → Int} (H : rC σ k w h T S F P O) {i : Int} (hi : 0 ≤ i) (hl : i < w * h) : σ (k + 1) i = T (i % w) (i / w) ∧ σ (k + 2) i = S (i % w) (i / w) ∧ σ (k + 3) i = F (i % w) (i / w) ∧ σ (k + 4) i = cI w (P (i % w) (i / w)) ∧ σ (k + 5) i = cI w (O (i % w) (i / w)) := by
  obtain ⟨e1, e2, e3, e4, e5⟩ := y_de H.1.1.1 hi hl
  have := H.2.2.2 (i % w) (i / w) e2 e3 e4 e5
  rw [e1] at this
  exact this
theorem cnt_lin2 {w h : Int} (p : Int → Int → Bool) (hw : 0 < w) (hh : 0 ≤ h) : fr (fun s i => s + bi (p (i % w) (i / w))) 0 (w * h).toNat 0 = sCt w h p := fr_linI (fun s x y => s + bi (p x y)) hw hh 0
theorem fr_up' {α : Type} (f : α → Int → α) {a i : Int} (s : α) (h : a ≤ i) : fr f a (i + 1 - a).toNat s = f (fr f a (i - a).toNat s) i := by
  rw [show i + 1 - a = (i - a) + 1 by omega, fr_up f a (i - a) s (by omega), show a + (i - a) = i by omega]
theorem fr_no {α : Type} (f : α → Int → α) (a : Int) (s : α) : fr f a (a - a).toNat s = s := by rw [Int.sub_self]; rfl
