/-! the class's side: frames, clipped folds -/
/-- only cells a to b may have changed -/
def fc (a b : Nat) (σ σ' : yM) : Prop := ∀ c : Nat, (c < a ∨ b < c) → σ' c = σ c
theorem fc.rf {a b : Nat} (σ : yM) : fc a b σ σ := fun _ _ => rfl
theorem fc.tr {a b : Nat} {σ σ' σ'' : yM} (h1 : fc a b σ σ') (h2 : fc a b σ' σ'') : fc a b σ σ'' := fun c h => (h2 c h).trans (h1 c h)
theorem fc.wk {a b a' b' : Nat} {σ σ' : yM} (h : fc a b σ σ') (h1 : a' ≤ a) (h2 : b ≤ b') : fc a' b' σ σ' := fun c q => h c (by omega)
theorem fc.st {a b : Nat} {σ σ' : yM} (h : fc a b σ σ') {k : Nat} {j v : Int} (hk : a ≤ k ∧ k ≤ b) : fc a b σ (yset σ' k j v) := fun c q => by
  rw [yset_n (by omega)]
  exact h c q
theorem rC.fc {a b : Nat} {σ σ' : yM} {k : Nat} {w h : Int} {T S F P O : Int → Int → Int} (H : rC σ k w h T S F P O) (hk : k + 5 < a ∨ b < k) (e : fc a b σ σ') : rC σ' k w h T S F P O := H.fr (fun c h1 h2 => e c (by omega))
theorem rS.fc {a b : Nat} {σ σ' : yM} {c : Nat} {s re fo ra tu we sh : Int} (H : rS σ c s re fo ra tu we sh) (hk : c < a ∨ b < c) (e : fc a b σ σ') : rS σ' c s re fo ra tu we sh := H.fr (e c hk)
/-- what lies outside does nothing -/
theorem fr_clip {α : Type} {f : α → Int → α} {a lo hi : Int} {n : Nat} {s : α} (hs : ∀ (s : α) (i : Int), (i < lo ∨ hi < i) → f s i = s) : fr f a n s = fr f (max a lo) (min (a + n - 1) hi + 1 - max a lo).toNat s := by
  by_cases h : max a lo ≤ min (a + n - 1) hi + 1
  · have e : n = (max a lo - a).toNat + ((min (a + n - 1) hi + 1 - max a lo).toNat + (a + n - 1 - min (a + n - 1) hi).toNat) := by omega
    have e1 : fr f a n s = fr f a ((max a lo - a).toNat + ((min (a + n - 1) hi + 1 - max a lo).toNat + (a + n - 1 - min (a + n - 1) hi).toNat)) s := congrArg (fun m => fr f a m s) e
    rw [e1, fr_add, fr_skip (n := (max a lo - a).toNat) (fun s i h1 h2 => hs s i (by omega)), show a + ((max a lo - a).toNat : Int) = max a lo by omega, fr_add]
    exact fr_skip (fun s i h1 h2 => hs s i (by omega))
  · rw [show (min (a + n - 1) hi + 1 - max a lo).toNat = 0 by omega, fr_0]
    exact fr_skip (fun s i h1 h2 => hs s i (by omega))
theorem fr_clip2 {α : Type} {f : α → Int → Int → α} {x y xl xh yl yh s : Int} {q : α} (hs : 0 ≤ s) (hf : ∀ (q : α) (i j : Int), (i < xl ∨ xh < i ∨ j < yl ∨ yh < j) → f q i j = q) : fr2 f (x - s) (2 * s + 1).toNat (y - s) (2 * s + 1).toNat q = fr (fun q j => fr (fun q i => f q i j) (max (x - s) xl) (min (x + s) xh + 1 - max (x - s) xl).toNat q) (max (y - s) yl) (min (y + s) yh + 1 - max (y - s) yl).toNat q := by
  unfold fr2
  rw [fr_clip (lo := yl) (hi := yh) (fun q j hj => fr_skip (fun q i _ _ => hf q i j (by omega)))]
  rw [show y - s + ((2 * s + 1).toNat : Int) - 1 = y + s by omega]
  refine fr_congr (fun q j _ _ => ?_)
  rw [fr_clip (lo := xl) (hi := xh) (fun q i hi => hf q i j (by omega))]
  rw [show x - s + ((2 * s + 1).toNat : Int) - 1 = x + s by omega]
/-- the ranker's numbers for (x, y) -/
def rK (σ : yM) (w h : Int) (T S : Int → Int → Int) (s ra x y : Int) : Prop := σ 120 0 = sSd w h S s x y ∧ σ 120 1 = (sSl w h T s x y).1 ∧ σ 120 2 = (sSl w h T s x y).2 ∧ σ 120 3 = sOx w h T x y ∧ σ 120 4 = sOy w h T x y ∧ σ 120 5 = sFl w h T s x y ∧ σ 120 6 = sRk w h T S s ra x y
/-- the front in order: how many, numbers and ranks -/
def frF (w h : Int) (T S : Int → Int → Int) (s ra : Int) (q : List (Int × Int)) (x y : Int) : List (Int × Int) := if sFr w h T x y then q ++ [(y * w + x, sRk w h T S s ra x y)] else q
def sFt (w h : Int) (T S : Int → Int → Int) (s ra : Int) : List (Int × Int) := fr2 (frF w h T S s ra) 0 w.toNat 0 h.toNat []
