/-! settings, ranks -/
/-- the seven settings at cell c -/
def rS (σ : yM) (c : Nat) (s re fo ra tu we sh : Int) : Prop := (σ c 0 = s ∧ σ c 1 = re ∧ σ c 2 = fo ∧ σ c 3 = ra ∧ σ c 4 = tu ∧ σ c 5 = we ∧ σ c 6 = sh) ∧ (1 ≤ s ∧ s ≤ 3) ∧ (1 ≤ re ∧ re ≤ 20) ∧ (0 ≤ fo ∧ fo ≤ 1) ∧ (0 ≤ ra ∧ ra ≤ 2) ∧ (0 ≤ tu ∧ tu ≤ 3) ∧ (0 ≤ we ∧ we ≤ 1) ∧ (0 ≤ sh ∧ sh ≤ 1)
theorem rS.fr {σ σ' : yM} {c : Nat} {s re fo ra tu we sh : Int} (H : rS σ c s re fo ra tu we sh) (e : σ' c = σ c) : rS σ' c s re fo ra tu we sh := by
  unfold rS at *
  rw [e]
  exact H
/-- of the reference's object only places lo to hi may have changed -/
def fR (lo hi : Int) (σ σ' : yM) : Prop := ∀ (c : Nat) (j : Int), (c ≠ 155 ∨ j < lo ∨ hi < j) → σ' c j = σ c j
theorem fR.rf {lo hi : Int} (σ : yM) : fR lo hi σ σ := fun _ _ _ => rfl
theorem fR.tr {lo hi : Int} {σ σ' σ'' : yM} (h1 : fR lo hi σ σ') (h2 : fR lo hi σ' σ'') : fR lo hi σ σ'' := fun c j h => (h2 c j h).trans (h1 c j h)
theorem fR.wk {lo hi lo' hi' : Int} {σ σ' : yM} (h : fR lo hi σ σ') (h1 : lo' ≤ lo) (h2 : hi ≤ hi') : fR lo' hi' σ σ' := fun c j q => h c j (by omega)
theorem fR.cell {lo hi : Int} {σ σ' : yM} (h : fR lo hi σ σ') {c : Nat} (hc : c ≠ 155) : σ' c = σ c := funext fun j => h c j (Or.inl hc)
theorem fR.st {lo hi : Int} {σ σ' : yM} (h : fR lo hi σ σ') {j v : Int} (hj : lo ≤ j ∧ j ≤ hi) : fR lo hi σ (yset σ' 155 j v) := fun c i q => by
  rw [yset_o (by omega)]
  exact h c i q
theorem rM.fR {lo hi : Int} {σ σ' : yM} {z : Nat} {w h : Int} {T S F P O : Int → Int → Int} (H : rM σ z w h T S F P O) (hz : z < 3) (e : fR lo hi σ σ') : rM σ' z w h T S F P O := H.fr (e.cell (by omega)) (e.cell (by omega)) (fun i _ _ => by rw [e.cell (by omega)])
theorem rS.fR {lo hi : Int} {σ σ' : yM} {c : Nat} {s re fo ra tu we sh : Int} (H : rS σ c s re fo ra tu we sh) (hc : c ≠ 155) (e : fR lo hi σ σ') : rS σ' c s re fo ra tu we sh := H.fr (e.cell hc)
/-- folds: an invariant with the number of steps, and one step that counts -/
theorem fr_ix {α : Type} {f : α → Int → α} {a : Int} (P : Nat → α → Prop) : ∀ {n : Nat} {s : α}, P 0 s → (∀ (m : Nat) (s : α), m < n → P m s → P (m + 1) (f s (a + m))) → P n (fr f a n s)
  | 0, _, h, _ => h
  | n + 1, s, h, hs => by
    rw [fr_s]
    exact hs n _ (by omega) (fr_ix P (n := n) h (fun m s hm => hs m s (by omega)))
theorem fr_mono {α : Type} {f : α → Int → α} {a : Int} (μ : α → Int) (hm : ∀ s i, μ s ≤ μ (f s i)) : ∀ (n : Nat) (s : α), μ s ≤ μ (fr f a n s)
  | 0, _ => Int.le_refl _
  | n + 1, s => Int.le_trans (fr_mono μ hm n s) (hm _ _)
theorem fr_hit {α : Type} {f : α → Int → α} {a c : Int} (μ : α → Int) (hm : ∀ s i, μ s ≤ μ (f s i)) (hc : ∀ s, μ s + 1 ≤ μ (f s c)) : ∀ (n : Nat) (s : α), a ≤ c → c < a + n → μ s + 1 ≤ μ (fr f a n s)
  | 0, _, h1, h2 => by omega
  | n + 1, s, h1, h2 => by
    rw [fr_s]
    by_cases h : c = a + n
    · subst h
      exact Int.le_trans (Int.add_le_add_right (fr_mono μ hm n s) 1) (hc _)
    · exact Int.le_trans (fr_hit μ hm hc n s h1 (by omega)) (hm _ _)
/-- STEADY: the sum and how many -/
def stF (w h : Int) (S : Int → Int → Int) (q : Int × Int) (i j : Int) : Int × Int := if sIn w h i j then (q.1 + S i j, q.2 + 1) else q
def sSt (w h : Int) (S : Int → Int → Int) (s x y : Int) : Int × Int := fr2 (stF w h S) (x - s) (2 * s + 1).toNat (y - s) (2 * s + 1).toNat (0, 0)
def sSd (w h : Int) (S : Int → Int → Int) (s x y : Int) : Int := (sSt w h S s x y).1.tdiv (sSt w h S s x y).2
theorem stF_mono {w h : Int} {S : Int → Int → Int} (q : Int × Int) (i j : Int) : q.2 ≤ (stF w h S q i j).2 := by
  unfold stF
  split
  · show q.2 ≤ q.2 + 1
    omega
  · exact Int.le_refl _
theorem sSt_pos {w h : Int} {S : Int → Int → Int} {s x y : Int} (hs : 0 ≤ s) (hi : sIn w h x y = true) : 1 ≤ (sSt w h S s x y).2 := by
  have hr : ∀ (j : Int) (n : Nat) (q : Int × Int), q.2 ≤ (fr (fun q i => stF w h S q i j) (x - s) n q).2 := fun j n q => fr_mono (fun q : Int × Int => q.2) (fun q i => stF_mono q i j) n q
  have h1 := fr_hit (f := fun q j => fr (fun q i => stF w h S q i j) (x - s) (2 * s + 1).toNat q) (a := y - s) (c := y) (fun q : Int × Int => q.2) (fun q j => hr j _ q) (fun q => by
    refine fr_hit (f := fun q i => stF w h S q i y) (a := x - s) (c := x) (fun q : Int × Int => q.2) (fun q i => stF_mono q i y) (fun q => ?_) (2 * s + 1).toNat q (by omega) (by omega)
    unfold stF
    rw [if_pos hi]
    exact Int.le_refl _) (2 * s + 1).toNat (0, 0) (by omega) (by omega)
  unfold sSt fr2
  simpa using h1
theorem sSt_bd {w h : Int} {S : Int → Int → Int} {s x y : Int} (hs : 0 ≤ s ∧ s ≤ 3) (hS : ∀ i j : Int, sIn w h i j = true → 0 ≤ S i j ∧ S i j ≤ 1000) : 0 ≤ (sSt w h S s x y).1 ∧ (sSt w h S s x y).1 ≤ 1000 * (sSt w h S s x y).2 ∧ (sSt w h S s x y).2 ≤ 49 := by
  have key : ∀ (j : Int) (m : Nat) (q : Int × Int), (0 ≤ q.1 ∧ q.1 ≤ 1000 * q.2) → (0 ≤ (fr (fun q i => stF w h S q i j) (x - s) m q).1 ∧ (fr (fun q i => stF w h S q i j) (x - s) m q).1 ≤ 1000 * (fr (fun q i => stF w h S q i j) (x - s) m q).2) ∧ (fr (fun q i => stF w h S q i j) (x - s) m q).2 ≤ q.2 + m := by
    intro j m q hq
    refine fr_ix (fun m (r : Int × Int) => (0 ≤ r.1 ∧ r.1 ≤ 1000 * r.2) ∧ r.2 ≤ q.2 + (m : Int)) ⟨hq, by omega⟩ (fun m r _ hr => ?_)
    unfold stF
    split
    · rename_i hin
      have := hS _ _ hin
      simp only
      omega
    · omega
  have h2 := fr_ix (n := (2 * s + 1).toNat) (f := fun q j => fr (fun q i => stF w h S q i j) (x - s) (2 * s + 1).toNat q) (a := y - s) (s := ((0, 0) : Int × Int)) (fun m (r : Int × Int) => (0 ≤ r.1 ∧ r.1 ≤ 1000 * r.2) ∧ r.2 ≤ 7 * (m : Int)) ⟨⟨by decide, by decide⟩, by decide⟩ (fun m r _ hr => by
    have := key (y - s + m) (2 * s + 1).toNat r hr.1
    omega)
  unfold sSt fr2
  omega
theorem sSd_bd {w h : Int} {S : Int → Int → Int} {s x y : Int} (hs : 0 ≤ s ∧ s ≤ 3) (hi : sIn w h x y = true) (hS : ∀ i j : Int, sIn w h i j = true → 0 ≤ S i j ∧ S i j ≤ 1000) : 0 ≤ sSd w h S s x y ∧ sSd w h S s x y ≤ 1000 := by
  obtain ⟨h1, h2, h3⟩ := sSt_bd (x := x) (y := y) hs hS
  have h4 := sSt_pos (S := S) hs.1 hi
  unfold sSd
  rw [Int.tdiv_eq_ediv_of_nonneg h1]
  refine ⟨Int.ediv_nonneg h1 (by omega), ?_⟩
  exact Int.ediv_le_of_le_mul (by omega) h2
/-- SLOPE -/
def slK (w h : Int) (T : Int → Int → Int) (i j : Int) : Bool := sKn w h T i j && sKn w h T (i - 1) j && sKn w h T (i + 1) j && sKn w h T i (j - 1) && sKn w h T i (j + 1)
def slF (w h : Int) (T : Int → Int → Int) (g : Int × Int) (i j : Int) : Int × Int := if slK w h T i j then (if ((T (i + 1) j - T (i - 1) j).natAbs : Int) + ((T i (j + 1) - T i (j - 1)).natAbs : Int) ≤ (g.1.natAbs : Int) + (g.2.natAbs : Int) then g else (T (i + 1) j - T (i - 1) j, T i (j + 1) - T i (j - 1))) else g
def sSl (w h : Int) (T : Int → Int → Int) (s x y : Int) : Int × Int := fr2 (slF w h T) (x - s) (2 * s + 1).toNat (y - s) (2 * s + 1).toNat (0, 0)
theorem slF_bd {w h : Int} {T : Int → Int → Int} (hT : ∀ i j : Int, sIn w h i j = true → -1 ≤ T i j ∧ T i j ≤ 255) {g : Int × Int} (hg : (-256 ≤ g.1 ∧ g.1 ≤ 256) ∧ (-256 ≤ g.2 ∧ g.2 ≤ 256)) (i j : Int) : (-256 ≤ (slF w h T g i j).1 ∧ (slF w h T g i j).1 ≤ 256) ∧ (-256 ≤ (slF w h T g i j).2 ∧ (slF w h T g i j).2 ≤ 256) := by
  unfold slF
  split
  · rename_i hk
    split
    · exact hg
    · simp only [slK, sKn, Bool.and_eq_true] at hk
      have h1 := hT (i - 1) j hk.1.1.1.2.1
      have h2 := hT (i + 1) j hk.1.1.2.1
      have h3 := hT i (j - 1) hk.1.2.1
      have h4 := hT i (j + 1) hk.2.1
      simp only
      omega
  · exact hg
theorem sSl_bd {w h : Int} {T : Int → Int → Int} {s x y : Int} (hT : ∀ i j : Int, sIn w h i j = true → -1 ≤ T i j ∧ T i j ≤ 255) : (-256 ≤ (sSl w h T s x y).1 ∧ (sSl w h T s x y).1 ≤ 256) ∧ (-256 ≤ (sSl w h T s x y).2 ∧ (sSl w h T s x y).2 ≤ 256) := by
  unfold sSl fr2
  exact fr_inv (fun g : Int × Int => (-256 ≤ g.1 ∧ g.1 ≤ 256) ∧ (-256 ≤ g.2 ∧ g.2 ≤ 256)) (by decide) (fun g j _ _ hg => fr_inv (fun g : Int × Int => (-256 ≤ g.1 ∧ g.1 ≤ 256) ∧ (-256 ≤ g.2 ∧ g.2 ≤ 256)) hg (fun g i _ _ hg => slF_bd hT hg i j))
/-- OUTWARD, FLOW, RANK -/
def sOx (w h : Int) (T : Int → Int → Int) (x y : Int) : Int := bi (sMi w h T (x + 1) y) - bi (sMi w h T (x - 1) y)
def sOy (w h : Int) (T : Int → Int → Int) (x y : Int) : Int := bi (sMi w h T x (y + 1)) - bi (sMi w h T x (y - 1))
def sFl (w h : Int) (T : Int → Int → Int) (s x y : Int) : Int := (((sSl w h T s x y).1 * sOy w h T x y - (sSl w h T s x y).2 * sOx w h T x y).natAbs : Int) + 1
def sRk (w h : Int) (T S : Int → Int → Int) (s ra x y : Int) : Int := if ra = 1 then sSd w h S s x y else if ra = 2 then sFl w h T s x y else sSd w h S s x y * sFl w h T s x y
theorem sOx_bd (w h : Int) (T : Int → Int → Int) (x y : Int) : (-1 ≤ sOx w h T x y ∧ sOx w h T x y ≤ 1) ∧ (-1 ≤ sOy w h T x y ∧ sOy w h T x y ≤ 1) := by
  unfold sOx sOy
  cases sMi w h T (x + 1) y <;> cases sMi w h T (x - 1) y <;> cases sMi w h T x (y + 1) <;> cases sMi w h T x (y - 1) <;> decide
theorem sFl_in {a b c e : Int} (ha : -256 ≤ a ∧ a ≤ 256) (hb : -256 ≤ b ∧ b ≤ 256) (hc : -1 ≤ c ∧ c ≤ 1) (he : -1 ≤ e ∧ e ≤ 1) : -512 ≤ a * c - b * e ∧ a * c - b * e ≤ 512 := by
  have h1 : a * c = 0 ∨ a * c = a ∨ a * c = -a := by
    rcases (show c = 0 ∨ c = 1 ∨ c = -1 by omega) with rfl | rfl | rfl
    · exact Or.inl (Int.mul_zero _)
    · exact Or.inr (Or.inl (Int.mul_one _))
    · exact Or.inr (Or.inr (by rw [Int.mul_neg, Int.mul_one]))
  have h2 : b * e = 0 ∨ b * e = b ∨ b * e = -b := by
    rcases (show e = 0 ∨ e = 1 ∨ e = -1 by omega) with rfl | rfl | rfl
    · exact Or.inl (Int.mul_zero _)
    · exact Or.inr (Or.inl (Int.mul_one _))
    · exact Or.inr (Or.inr (by rw [Int.mul_neg, Int.mul_one]))
  omega
theorem sFl_bd {w h : Int} {T : Int → Int → Int} {s x y : Int} (hT : ∀ i j : Int, sIn w h i j = true → -1 ≤ T i j ∧ T i j ≤ 255) : 1 ≤ sFl w h T s x y ∧ sFl w h T s x y ≤ 513 := by
  have h1 := sSl_bd (s := s) (x := x) (y := y) hT
  have h2 := sOx_bd w h T x y
  have h3 := sFl_in h1.1 h1.2 h2.2 h2.1
  unfold sFl
  omega
theorem aOk.T {w h : Int} {T S F P O : Int → Int → Int} (H : aOk w h T S F P O) (i j : Int) (hi : sIn w h i j = true) : -1 ≤ T i j ∧ T i j ≤ 255 := by
  have := sIn_iff.mp hi
  exact (H.2 i j this.1 this.2.1 this.2.2.1 this.2.2.2).1
theorem aOk.S {w h : Int} {T S F P O : Int → Int → Int} (H : aOk w h T S F P O) (i j : Int) (hi : sIn w h i j = true) : 0 ≤ S i j ∧ S i j ≤ 1000 := by
  have := sIn_iff.mp hi
  exact (H.2 i j this.1 this.2.1 this.2.2.1 this.2.2.2).2.1
theorem sRk_bd {w h : Int} {T S F P O : Int → Int → Int} {s ra x y : Int} (H : aOk w h T S F P O) (hs : 0 ≤ s ∧ s ≤ 3) (hi : sIn w h x y = true) : 0 ≤ sRk w h T S s ra x y ∧ sRk w h T S s ra x y ≤ 513000 := by
  have h1 := sSd_bd hs hi H.S
  have h2 := sFl_bd (s := s) (x := x) (y := y) H.T
  unfold sRk
  split
  · omega
  · split
    · omega
    · have a1 : 0 ≤ sSd w h S s x y * sFl w h T s x y := Int.mul_nonneg h1.1 (by omega)
      have a2 : sSd w h S s x y * sFl w h T s x y ≤ 1000 * sFl w h T s x y := Int.mul_le_mul_of_nonneg_right h1.2 (by omega)
      omega
