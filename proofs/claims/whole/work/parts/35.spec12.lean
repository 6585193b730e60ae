/-! sums of rectangles -/
def sm (f : Int → Int) (a : Int) (n : Nat) : Int := fr (fun c i => c + f i) a n 0
theorem sm_s (f : Int → Int) (a : Int) (n : Nat) : sm f a (n + 1) = sm f a n + f (a + n) := rfl
theorem sm_add (f : Int → Int) (a : Int) (m : Nat) : ∀ n : Nat, sm f a (m + n) = sm f a m + sm f (a + m) n
  | 0 => by unfold sm; rw [fr_0, Nat.add_zero, Int.add_zero]
  | n + 1 => by
    rw [← Nat.add_assoc, sm_s, sm_s, sm_add f a m n, show a + ((m + n : Nat) : Int) = a + (m : Int) + (n : Int) by omega]
    omega
theorem sm_sub (f g : Int → Int) (a : Int) : ∀ n : Nat, sm (fun i => f i - g i) a n = sm f a n - sm g a n
  | 0 => rfl
  | n + 1 => by
    rw [sm_s, sm_s, sm_s, sm_sub f g a n]
    omega
theorem sm_congr {f g : Int → Int} {a : Int} : ∀ {n : Nat}, (∀ i, a ≤ i → i < a + n → f i = g i) → sm f a n = sm g a n
  | 0, _ => rfl
  | n + 1, h => by
    rw [sm_s, sm_s, sm_congr (n := n) (fun i h1 h2 => h i h1 (by omega)), h _ (by omega) (by omega)]
theorem sm_nn {f : Int → Int} {a : Int} : ∀ {n : Nat}, (∀ i, a ≤ i → i < a + n → 0 ≤ f i) → 0 ≤ sm f a n
  | 0, _ => Int.le_refl 0
  | n + 1, h => by
    have h1 := sm_nn (f := f) (a := a) (n := n) (fun i h1 h2 => h i h1 (by omega))
    have h2 := h (a + n) (by omega) (by omega)
    rw [sm_s]
    omega
theorem sm_le {f : Int → Int} {a b : Int} : ∀ {n : Nat}, (∀ i, a ≤ i → i < a + n → f i ≤ b) → sm f a n ≤ b * n
  | 0, _ => by show (0 : Int) ≤ b * ((0 : Nat) : Int); simp
  | n + 1, h => by
    have h1 := sm_le (f := f) (a := a) (n := n) (fun i h1 h2 => h i h1 (by omega))
    have h2 := h (a + n) (by omega) (by omega)
    rw [sm_s, show ((n + 1 : Nat) : Int) = (n : Int) + 1 by omega, Int.mul_add, Int.mul_one]
    omega
theorem sm_z {f : Int → Int} {a : Int} : ∀ {n : Nat}, (∀ i, a ≤ i → i < a + n → 0 ≤ f i) → (sm f a n = 0 ↔ ∀ i, a ≤ i → i < a + n → f i = 0)
  | 0, _ => ⟨fun _ i h1 h2 => absurd h1 (by omega), fun _ => rfl⟩
  | n + 1, h => by
    have h1 := sm_nn (f := f) (a := a) (n := n) (fun i h1 h2 => h i h1 (by omega))
    have h2 := h (a + n) (by omega) (by omega)
    have ih := sm_z (f := f) (a := a) (n := n) (fun i h1 h2 => h i h1 (by omega))
    rw [sm_s]
    constructor
    · intro e i i1 i2
      by_cases he : i = a + n
      · rw [he]; omega
      · exact ih.mp (by omega) i i1 (by omega)
    · intro e
      rw [ih.mpr (fun i i1 i2 => e i i1 (by omega)), e (a + n) (by omega) (by omega)]
      rfl
/-- how many of the dots left of x and above y can be in no source's patch -/
def nb (w h : Int) (T F : Int → Int → Int) (fo i j : Int) : Int := 1 - bi (uOk w h T F fo i j)
theorem nb_01 (w h : Int) (T F : Int → Int → Int) (fo i j : Int) : 0 ≤ nb w h T F fo i j ∧ nb w h T F fo i j ≤ 1 := by
  unfold nb
  cases uOk w h T F fo i j <;> decide
theorem nb_z {w h : Int} {T F : Int → Int → Int} {fo i j : Int} : nb w h T F fo i j = 0 ↔ uOk w h T F fo i j = true := by
  unfold nb
  cases uOk w h T F fo i j <;> decide
def pr1 (w h : Int) (T F : Int → Int → Int) (fo x j : Int) : Int := sm (fun i => nb w h T F fo i j) 0 x.toNat
def pu (w h : Int) (T F : Int → Int → Int) (fo x y : Int) : Int := sm (fun j => pr1 w h T F fo x j) 0 y.toNat
theorem pr1_bd {w h : Int} {T F : Int → Int → Int} {fo x j : Int} (hx : 0 ≤ x) : 0 ≤ pr1 w h T F fo x j ∧ pr1 w h T F fo x j ≤ x := by
  refine ⟨sm_nn (fun i _ _ => (nb_01 ..).1), ?_⟩
  have := sm_le (f := fun i => nb w h T F fo i j) (a := 0) (b := 1) (n := x.toNat) (fun i _ _ => (nb_01 ..).2)
  unfold pr1
  omega
theorem pu_bd {w h : Int} {T F : Int → Int → Int} {fo x y : Int} (hx : 0 ≤ x ∧ x ≤ 20) (hy : 0 ≤ y ∧ y ≤ 20) : 0 ≤ pu w h T F fo x y ∧ pu w h T F fo x y ≤ 400 := by
  refine ⟨sm_nn (fun i _ _ => (pr1_bd hx.1).1), ?_⟩
  have := sm_le (f := fun j => pr1 w h T F fo x j) (a := 0) (b := 20) (n := y.toNat) (fun i _ _ => Int.le_trans (pr1_bd hx.1).2 hx.2)
  unfold pu
  omega
theorem pr1_up {w h : Int} {T F : Int → Int → Int} {fo x j : Int} (hx : 0 ≤ x) : pr1 w h T F fo (x + 1) j = pr1 w h T F fo x j + nb w h T F fo x j := by
  unfold pr1
  rw [show (x + 1).toNat = x.toNat + 1 by omega, sm_s, show (0 : Int) + (x.toNat : Int) = x by omega]
theorem pu_up {w h : Int} {T F : Int → Int → Int} {fo x y : Int} (hy : 0 ≤ y) : pu w h T F fo x (y + 1) = pu w h T F fo x y + pr1 w h T F fo x y := by
  unfold pu
  rw [show (y + 1).toNat = y.toNat + 1 by omega, sm_s, show (0 : Int) + (y.toNat : Int) = y by omega]
theorem pu_x0 (w h : Int) (T F : Int → Int → Int) (fo y : Int) : pu w h T F fo 0 y = 0 := by
  unfold pu
  exact (sm_z (fun i _ _ => Int.le_refl 0)).mpr (fun i _ _ => rfl)
theorem pu_y0 (w h : Int) (T F : Int → Int → Int) (fo x : Int) : pu w h T F fo x 0 = 0 := rfl
/-- four of them judge a patch -/
theorem pu_rect {w h : Int} {T F : Int → Int → Int} {fo l r t b : Int} (hl : 0 ≤ l ∧ l ≤ r) (ht : 0 ≤ t ∧ t ≤ b) : pu w h T F fo r b - pu w h T F fo l b - pu w h T F fo r t + pu w h T F fo l t = 0 ↔ ∀ i j : Int, l ≤ i → i < r → t ≤ j → j < b → uOk w h T F fo i j = true := by
  have hrow : ∀ j, pr1 w h T F fo r j - pr1 w h T F fo l j = sm (fun i => nb w h T F fo i j) l (r - l).toNat := by
    intro j
    unfold pr1
    rw [show r.toNat = l.toNat + (r - l).toNat by omega, sm_add, show (0 : Int) + (l.toNat : Int) = l by omega]
    omega
  have hd : ∀ y, pu w h T F fo r y - pu w h T F fo l y = sm (fun j => sm (fun i => nb w h T F fo i j) l (r - l).toNat) 0 y.toNat := by
    intro y
    unfold pu
    rw [← sm_sub]
    exact sm_congr (fun j _ _ => hrow j)
  have hb := hd b
  have ht2 := hd t
  rw [show b.toNat = t.toNat + (b - t).toNat by omega, sm_add, ← ht2, show (0 : Int) + (t.toNat : Int) = t by omega] at hb
  have hz := sm_z (f := fun j => sm (fun i => nb w h T F fo i j) l (r - l).toNat) (a := t) (n := (b - t).toNat) (fun j _ _ => sm_nn (fun i _ _ => (nb_01 ..).1))
  constructor
  · intro e i j i1 i2 j1 j2
    have h1 := hz.mp (by omega) j j1 (by omega)
    have h2 := (sm_z (f := fun i => nb w h T F fo i j) (a := l) (n := (r - l).toNat) (fun i _ _ => (nb_01 ..).1)).mp h1 i i1 (by omega)
    exact nb_z.mp h2
  · intro e
    have h1 := hz.mpr (fun j j1 j2 => (sm_z (fun i _ _ => (nb_01 ..).1)).mpr (fun i i1 i2 => nb_z.mpr (e i j i1 (by omega) j1 (by omega))))
    omega
/-- the table of the searcher -/
def rT (σ : yM) : Prop := ∀ j : Int, 0 ≤ j → j < 441 → (j < 21 ∨ j % 21 = 0) → σ 127 j = 0
def rU (σ : yM) (w h : Int) (T F : Int → Int → Int) (fo : Int) : Prop := ∀ x y : Int, 0 ≤ x → x ≤ w → 0 ≤ y → y ≤ h → σ 127 (y * 21 + x) = pu w h T F fo x y
theorem rU_whole {σ : yM} {w h : Int} {T F : Int → Int → Int} {fo s u v : Int} (H : rU σ w h T F fo) (hs : 0 ≤ s) (hu : 0 ≤ u - s ∧ u + s + 1 ≤ w) (hv : 0 ≤ v - s ∧ v + s + 1 ≤ h) : σ 127 ((v + s + 1) * 21 + (u + s + 1)) - σ 127 ((v + s + 1) * 21 + (u - s)) - σ 127 ((v - s) * 21 + (u + s + 1)) + σ 127 ((v - s) * 21 + (u - s)) = 0 ↔ sWs w h T F s fo u v = true := by
  rw [H _ _ (by omega) (by omega) (by omega) (by omega), H _ _ (by omega) (by omega) (by omega) (by omega), H _ _ (by omega) (by omega) (by omega) (by omega), H _ _ (by omega) (by omega) (by omega) (by omega), pu_rect ⟨hu.1, by omega⟩ ⟨hv.1, by omega⟩, sWs_iff hs]
  exact ⟨fun e i j i1 i2 j1 j2 => e i j i1 (by omega) j1 (by omega), fun e i j i1 i2 j1 j2 => e i j i1 (by omega) j1 (by omega)⟩
theorem sWs_out {w h : Int} {T F : Int → Int → Int} {fo s u v : Int} (hs : 0 ≤ s) (ho : u - s < 0 ∨ v - s < 0 ∨ w < u + s + 1 ∨ h < v + s + 1) : sWs w h T F s fo u v = false := by
  cases e : sWs w h T F s fo u v with
  | false => rfl
  | true =>
    have h1 := sWs_iff hs |>.mp e
    have h2 := h1 (u - s) (v - s) (by omega) (by omega) (by omega) (by omega)
    have h3 := h1 (u + s) (v + s) (by omega) (by omega) (by omega) (by omega)
    simp only [uOk, sKn, Bool.and_eq_true] at h2 h3
    have h4 := sIn_iff.mp h2.1.1
    have h5 := sIn_iff.mp h3.1.1
    omega
