/-! fills one after the other: at most a hundred -/
def fIt (f : aX → Option aX) : Nat → aX → Nat × aX
  | 0, X => (0, X)
  | n + 1, X => match f X with
    | none => (0, X)
    | some X' => ((fIt f n X').1 + 1, (fIt f n X').2)
theorem fIt_none {f : aX → Option aX} {X : aX} (h : f X = none) : ∀ n : Nat, fIt f n X = (0, X)
  | 0 => rfl
  | n + 1 => by unfold fIt; rw [h]
theorem fIt_some {f : aX → Option aX} {X X' : aX} (h : f X = some X') (n : Nat) : fIt f (n + 1) X = ((fIt f n X').1 + 1, (fIt f n X').2) := by
  rw [fIt, h]
theorem fr_or {p : Int → Bool} {a : Int} : ∀ {n : Nat} {b : Bool}, fr (fun b i => b || p i) a n b = true ↔ (b = true ∨ ∃ i : Int, a ≤ i ∧ i < a + n ∧ p i = true)
  | 0, b => by
    rw [fr_0]
    constructor
    · intro h; exact Or.inl h
    · rintro (h | ⟨i, h1, h2, -⟩)
      · exact h
      · omega
  | n + 1, b => by
    rw [fr_s, Bool.or_eq_true, fr_or (n := n)]
    constructor
    · rintro ((h | ⟨i, h1, h2, h3⟩) | h)
      · exact Or.inl h
      · exact Or.inr ⟨i, h1, by omega, h3⟩
      · exact Or.inr ⟨a + n, by omega, by omega, h⟩
    · rintro (h | ⟨i, h1, h2, h3⟩)
      · exact Or.inl (Or.inl h)
      · by_cases e : i = a + n
        · rw [e] at h3
          exact Or.inr h3
        · exact Or.inl (Or.inr ⟨i, h1, by omega, h3⟩)
theorem fr_sumle {f g : Int → Int} {a : Int} : ∀ {n : Nat} {s t : Int}, s ≤ t → (∀ i : Int, a ≤ i → i < a + n → f i ≤ g i) → fr (fun c i => c + f i) a n s ≤ fr (fun c i => c + g i) a n t
  | 0, s, t, h, _ => h
  | n + 1, s, t, h, hf => by
    rw [fr_s, fr_s]
    have h1 := fr_sumle (n := n) h (fun i a b => hf i a (by omega))
    have h2 := hf (a + n) (by omega) (by omega)
    omega
theorem fr_sumlt {f g : Int → Int} {a c : Int} : ∀ {n : Nat} {s t : Int}, s ≤ t → (∀ i : Int, a ≤ i → i < a + n → f i ≤ g i) → a ≤ c → c < a + n → f c + 1 ≤ g c → fr (fun c i => c + f i) a n s + 1 ≤ fr (fun c i => c + g i) a n t
  | 0, s, t, _, _, h1, h2, _ => by omega
  | n + 1, s, t, h, hf, h1, h2, h3 => by
    rw [fr_s, fr_s]
    have h4 := hf (a + n) (by omega) (by omega)
    by_cases e : c = a + n
    · subst e
      have h5 := fr_sumle (n := n) h (fun i a b => hf i a (by omega))
      omega
    · have h5 := fr_sumlt (n := n) h (fun i a b => hf i a (by omega)) h1 (by omega) h3
      omega
theorem fr_addc {f : Int → Int} {a : Int} : ∀ {n : Nat} {s : Int}, fr (fun c i => c + f i) a n s = s + fr (fun c i => c + f i) a n 0
  | 0, s => by rw [fr_0, fr_0, Int.add_zero]
  | n + 1, s => by
    rw [fr_s, fr_s, fr_addc (n := n)]
    omega
/-- the blocks of s + 1 by s + 1 that have a missing dot -/
def blk (w h : Int) (T : Int → Int → Int) (s a b : Int) : Bool := fr (fun q j => q || fr (fun q i => q || sMi w h T i j) (a * (s + 1)) (s + 1).toNat false) (b * (s + 1)) (s + 1).toNat false
theorem blk_iff {w h : Int} {T : Int → Int → Int} {s a b : Int} (hs : 0 ≤ s) : blk w h T s a b = true ↔ ∃ i j : Int, a * (s + 1) ≤ i ∧ i < a * (s + 1) + (s + 1) ∧ b * (s + 1) ≤ j ∧ j < b * (s + 1) + (s + 1) ∧ sMi w h T i j = true := by
  unfold blk
  rw [fr_or]
  constructor
  · rintro (h | ⟨j, h1, h2, h3⟩)
    · cases h
    · rcases fr_or.mp h3 with h | ⟨i, h4, h5, h6⟩
      · cases h
      · exact ⟨i, j, h4, by omega, h1, by omega, h6⟩
  · rintro ⟨i, j, h1, h2, h3, h4, h5⟩
    exact Or.inr ⟨j, h3, by omega, fr_or.mpr (Or.inr ⟨i, h1, by omega, h5⟩)⟩
def pot (w h : Int) (T : Int → Int → Int) (s : Int) : Int := fr (fun c b => c + fr (fun c a => c + bi (blk w h T s a b)) 0 10 0) 0 10 0
theorem bi_bd (b : Bool) : 0 ≤ bi b ∧ bi b ≤ 1 := by cases b <;> decide
theorem pot_bd (w h : Int) (T : Int → Int → Int) (s : Int) : 0 ≤ pot w h T s ∧ pot w h T s ≤ 100 := by
  have h1 : ∀ b : Int, 0 ≤ fr (fun c a => c + bi (blk w h T s a b)) 0 10 0 ∧ fr (fun c a => c + bi (blk w h T s a b)) 0 10 0 ≤ 10 := by
    intro b
    have := fr_ix (n := 10) (f := fun c a => c + bi (blk w h T s a b)) (a := 0) (s := (0 : Int)) (fun m c => 0 ≤ c ∧ c ≤ (m : Int)) ⟨by omega, by omega⟩ (fun m c _ hc => by
      have := bi_bd (blk w h T s (0 + m) b)
      omega)
    omega
  have := fr_ix (n := 10) (f := fun c b => c + fr (fun c a => c + bi (blk w h T s a b)) 0 10 0) (a := 0) (s := (0 : Int)) (fun m c => 0 ≤ c ∧ c ≤ 10 * (m : Int)) ⟨by omega, by omega⟩ (fun m c _ hc => by
    have := h1 (0 + m)
    omega)
  unfold pot
  omega
theorem bi_le {a b : Bool} (h : a = true → b = true) : bi a ≤ bi b := by
  cases a
  · exact (bi_bd b).1
  · rw [h rfl]
    exact Int.le_refl _
/-- a fill leaves fewer such blocks -/
theorem pot_fill {w h : Int} {T S F P O : Int → Int → Int} (A : aOk w h T S F P O) {s x y bx by_ bw bs : Int} (hs : 1 ≤ s ∧ s ≤ 3) (hm : sMi w h T x y = true) : pot w h (fT w h T (inP s x y) bx by_ bw bs x y) s + 1 ≤ pot w h T s := by
  have hin : sIn w h x y = true := by simp only [sMi, Bool.and_eq_true] at hm; exact hm.1
  have hi := sIn_iff.mp hin
  have hw := A.1
  have mono : ∀ i j, sMi w h (fT w h T (inP s x y) bx by_ bw bs x y) i j = true → sMi w h T i j = true ∧ inP s x y i j = false := by
    intro i j hq
    simp only [sMi, Bool.and_eq_true, decide_eq_true_eq] at hq ⊢
    unfold fT at hq
    cases hc : (inP s x y i j && sMi w h T i j)
    · rw [hc] at hq
      simp only [Bool.false_eq_true, if_false] at hq
      refine ⟨hq, ?_⟩
      have hmi : sMi w h T i j = true := by simp only [sMi, Bool.and_eq_true, decide_eq_true_eq]; exact hq
      rw [hmi, Bool.and_true] at hc
      exact hc
    · rw [hc] at hq
      simp only [if_true] at hq
      have := y_clip (T (bx + wX bw (i - x) (j - y)) (by_ + wY bw (i - x) (j - y)) + bs)
      omega
  have bmono : ∀ a b, bi (blk w h (fT w h T (inP s x y) bx by_ bw bs x y) s a b) ≤ bi (blk w h T s a b) := fun a b => bi_le (fun hq => by
    obtain ⟨i, j, h1, h2, h3, h4, h5⟩ := (blk_iff (by omega)).mp hq
    exact (blk_iff (by omega)).mpr ⟨i, j, h1, h2, h3, h4, (mono i j h5).1⟩)
  have ex : x / (s + 1) * (s + 1) + x % (s + 1) = x := by rw [Int.mul_comm]; exact Int.mul_ediv_add_emod x (s + 1)
  have ey : y / (s + 1) * (s + 1) + y % (s + 1) = y := by rw [Int.mul_comm]; exact Int.mul_ediv_add_emod y (s + 1)
  have mx := Int.emod_nonneg x (show s + 1 ≠ 0 by omega)
  have mx2 := Int.emod_lt_of_pos x (show 0 < s + 1 by omega)
  have my := Int.emod_nonneg y (show s + 1 ≠ 0 by omega)
  have my2 := Int.emod_lt_of_pos y (show 0 < s + 1 by omega)
  have dx0 : 0 ≤ x / (s + 1) := Int.ediv_nonneg hi.1 (by omega)
  have dy0 : 0 ≤ y / (s + 1) := Int.ediv_nonneg hi.2.2.1 (by omega)
  have dx1 : x / (s + 1) < 10 := Int.ediv_lt_of_lt_mul (by omega) (by omega)
  have dy1 : y / (s + 1) < 10 := Int.ediv_lt_of_lt_mul (by omega) (by omega)
  have hit : bi (blk w h (fT w h T (inP s x y) bx by_ bw bs x y) s (x / (s + 1)) (y / (s + 1))) + 1 ≤ bi (blk w h T s (x / (s + 1)) (y / (s + 1))) := by
    have h1 : blk w h T s (x / (s + 1)) (y / (s + 1)) = true := (blk_iff (by omega)).mpr ⟨x, y, by omega, by omega, by omega, by omega, hm⟩
    have h2 : blk w h (fT w h T (inP s x y) bx by_ bw bs x y) s (x / (s + 1)) (y / (s + 1)) = false := by
      rw [← Bool.not_eq_true]
      intro hq
      obtain ⟨i, j, g1, g2, g3, g4, g5⟩ := (blk_iff (by omega)).mp hq
      have := (mono i j g5).2
      rw [inP_iff.mpr (by omega)] at this
      cases this
    rw [h1, h2]
    decide
  unfold pot
  refine fr_sumlt (c := y / (s + 1)) (Int.le_refl 0) (fun b _ _ => fr_sumle (Int.le_refl 0) (fun a _ _ => bmono a b)) (by omega) (by omega) ?_
  exact fr_sumlt (c := x / (s + 1)) (Int.le_refl 0) (fun a _ _ => bmono a _) (by omega) (by omega) hit
theorem sFr_mi {w h : Int} {T : Int → Int → Int} {x y : Int} (hf : sFr w h T x y = true) : sMi w h T x y = true := by
  simp only [sFr, Bool.and_eq_true] at hf
  exact hf.1
theorem fS_pot {w h s re fo ra tu we sh : Int} {gd : Bool} {F2 P2 : Int → Int → Int} {T S F P O : Int → Int → Int} {nf df nl : Int} {lg : Int → Int → Int} {X' : aX} (A : aOk w h T S F P O) (hs : 1 ≤ s ∧ s ≤ 3) (H : fS w h s re fo ra tu we sh gd F2 P2 (T, S, F, P, O, nf, df, nl, lg) = some X') : pot w h X'.1 s + 1 ≤ pot w h T s ∧ X'.2.2.2.2.2.1 = nf + 1 := by
  unfold fS at H
  simp only at H
  split at H
  · cases H
  · rename_i hn
    split at H
    · cases H
    · cases H
      exact ⟨pot_fill A hs (sFr_mi (sNx_fr hn)), rfl⟩
