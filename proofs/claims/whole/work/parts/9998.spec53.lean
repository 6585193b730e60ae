/-! the front by selection -/
/-- (x, y) comes ahead of (u, v) -/
def aHd (rk : Int → Int → Int) (x y u v : Int) : Bool := decide (rk u v < rk x y) || (decide (rk x y = rk u v) && decide (20 * y + x < 20 * v + u))
theorem aHd_iff {rk : Int → Int → Int} {x y u v : Int} : aHd rk x y u v = true ↔ (rk u v < rk x y ∨ (rk x y = rk u v ∧ 20 * y + x < 20 * v + u)) := by
  unfold aHd
  simp only [Bool.or_eq_true, Bool.and_eq_true, decide_eq_true_eq]
def cHd (w h : Int) (T rk : Int → Int → Int) (u v : Int) : Int := sCt w h (fun x y => sFr w h T x y && aHd rk x y u v)
theorem cHd_up {w h : Int} {T rk : Int → Int → Int} {x y u v : Int} (hf : sFr w h T x y = true) (ha : aHd rk x y u v = true) : cHd w h T rk x y + 1 ≤ cHd w h T rk u v := by
  have hi := sIn_iff.mp (sFr_in hf)
  unfold cHd
  refine sCt_lt (fun a b hp => ?_) ⟨hi.1, hi.2.1⟩ hi.2.2 (a := x) (b := y) ?_ ?_
  · rw [Bool.and_eq_true] at hp ⊢
    refine ⟨hp.1, ?_⟩
    have h1 := aHd_iff.mp hp.2
    have h2 := aHd_iff.mp ha
    exact aHd_iff.mpr (by omega)
  · have : aHd rk x y x y = false := by
      rw [Bool.eq_false_iff]
      intro hh
      have := aHd_iff.mp hh
      omega
    simp [this]
  · simp [hf, ha]
theorem fr_add3 {f g k : Int → Int} {a : Int} : ∀ {n : Nat} {s t u : Int}, s ≤ t + u → (∀ i : Int, a ≤ i → i < a + n → f i ≤ g i + k i) → fr (fun c i => c + f i) a n s ≤ fr (fun c i => c + g i) a n t + fr (fun c i => c + k i) a n u
  | 0, _, _, _, h, _ => h
  | n + 1, s, t, u, h, hs => by
    have := fr_add3 (n := n) h (fun i h1 h2 => hs i h1 (by omega))
    have h2 := hs (a + n) (by omega) (by omega)
    rw [fr_s, fr_s, fr_s]
    omega
theorem sCt_add3 {w h : Int} {p d q : Int → Int → Bool} (hh : ∀ x y : Int, 0 ≤ x → x < w → 0 ≤ y → y < h → bi (q x y) ≤ bi (p x y) + bi (d x y)) (hw : 0 ≤ w) (h0 : 0 ≤ h) : sCt w h q ≤ sCt w h p + sCt w h d := by
  have key : ∀ n : Nat, (n : Int) ≤ h → fr (fun s y => fr (fun s x => s + bi (q x y)) 0 w.toNat s) 0 n 0 ≤ fr (fun s y => fr (fun s x => s + bi (p x y)) 0 w.toNat s) 0 n 0 + fr (fun s y => fr (fun s x => s + bi (d x y)) 0 w.toNat s) 0 n 0 := by
    intro n
    induction n with
    | zero => intro _; show (0 : Int) ≤ 0 + 0; omega
    | succ n ih =>
      intro hn
      rw [fr_s, fr_s, fr_s]
      exact fr_add3 (f := fun x => bi (q x (0 + (n : Int)))) (g := fun x => bi (p x (0 + (n : Int)))) (k := fun x => bi (d x (0 + (n : Int)))) (ih (by omega)) (fun i h1 h2 => hh i _ (by omega) (by omega) (by omega) (by omega))
  exact key h.toNat (by omega)
theorem sCt_one {w h x0 y0 : Int} : sCt w h (fun x y => decide (x = x0 ∧ y = y0)) ≤ 1 := by
  show fr (fun s y => fr (fun s x => s + bi (decide (x = x0 ∧ y = y0))) 0 w.toNat s) 0 h.toNat 0 ≤ 1
  have row : ∀ (y s : Int) (m : Nat), fr (fun s x => s + bi (decide (x = x0 ∧ y = y0))) 0 m s ≤ s + (if y = y0 then 1 else 0) := by
    intro y s m
    have := fr_ix (n := m) (f := fun s x => s + bi (decide (x = x0 ∧ y = y0))) (a := 0) (s := s) (fun k c => c ≤ s + (if y = y0 ∧ x0 < (k : Int) then 1 else 0) ∧ (y = y0 ∨ c ≤ s)) ⟨by split <;> omega, Or.inr (Int.le_refl _)⟩ (fun k c _ hc => by
      by_cases e : (0 : Int) + (k : Int) = x0 ∧ y = y0
      · rw [show decide ((0 : Int) + (k : Int) = x0 ∧ y = y0) = true from decide_eq_true e]
        have h1 := hc.1
        rw [if_neg (by omega)] at h1
        rw [show bi true = 1 from rfl, if_pos (by omega)]
        omega
      · rw [show decide ((0 : Int) + (k : Int) = x0 ∧ y = y0) = false from decide_eq_false e]
        rw [show bi false = 0 from rfl]
        have h1 := hc.1
        have h2 := hc.2
        split at h1 <;> split <;> omega)
    have h1 := this.1
    have h2 := this.2
    split at h1 <;> split <;> omega
  have := fr_ix (n := h.toNat) (f := fun s y => fr (fun s x => s + bi (decide (x = x0 ∧ y = y0))) 0 w.toNat s) (a := 0) (s := (0 : Int)) (fun k c => c ≤ (if y0 < (k : Int) then 1 else 0)) (by split <;> omega) (fun k c _ hc => by
    have h1 := row (0 + (k : Int)) c w.toNat
    split at hc <;> split at h1 <;> split <;> omega)
  split at this <;> omega
/-- the next of the order has one more ahead of it -/
theorem cHd_next {w h : Int} {T rk : Int → Int → Int} {x y u v : Int} (hw : 0 ≤ w ∧ w ≤ 20) (hh : 0 ≤ h) (hf : sFr w h T x y = true) (hg : sFr w h T u v = true) (ha : aHd rk x y u v = true) (hn : ∀ a b : Int, sFr w h T a b = true → aHd rk x y a b = true → (a = u ∧ b = v) ∨ aHd rk u v a b = true) : cHd w h T rk u v = cHd w h T rk x y + 1 := by
  have h1 := cHd_up hf ha
  have h2 : cHd w h T rk u v ≤ cHd w h T rk x y + sCt w h (fun a b => decide (a = x ∧ b = y)) := by
    refine sCt_add3 (fun a b a1 a2 b1 b2 => ?_) hw.1 hh
    by_cases e : sFr w h T a b = true ∧ aHd rk a b u v = true
    · by_cases e2 : aHd rk a b x y = true
      · simp [e.1, e.2, e2, bi]
        split <;> omega
      · have hab : a = x ∧ b = y := by
          have hi := sIn_iff.mp (sFr_in hf)
          rcases Decidable.em (a = x ∧ b = y) with q | q
          · exact q
          · exfalso
            have e3 : aHd rk x y a b = true := by
              rw [aHd_iff] at e2 ⊢
              omega
            have e4 := aHd_iff.mp e.2
            rcases hn a b e.1 e3 with q2 | q2
            · rw [q2.1, q2.2] at e4
              omega
            · have := aHd_iff.mp q2
              omega
        rw [show decide (a = x ∧ b = y) = true from decide_eq_true hab]
        have := bi_bd (sFr w h T a b && aHd rk a b u v)
        have := bi_bd (sFr w h T a b && aHd rk a b x y)
        show _ ≤ _ + (1 : Int)
        omega
    · have : (sFr w h T a b && aHd rk a b u v) = false := by
        rw [Bool.eq_false_iff]
        intro q
        rw [Bool.and_eq_true] at q
        exact e q
      rw [this]
      have h3 := bi_bd (sFr w h T a b && aHd rk a b x y)
      have h4 := bi_bd (decide (a = x ∧ b = y))
      show (0 : Int) ≤ _
      omega
  have h3 := sCt_one (w := w) (h := h) (x0 := x) (y0 := y)
  omega
theorem cHd_0 {w h : Int} {T rk : Int → Int → Int} {u v : Int} (hw : 0 ≤ w ∧ w ≤ 20) (hh : 0 ≤ h) (hn : ∀ a b : Int, sFr w h T a b = true → (a = u ∧ b = v) ∨ aHd rk u v a b = true) : cHd w h T rk u v = 0 := by
  unfold cHd sCt fr2
  refine fr_inv (fun c : Int => c = 0) rfl (fun c b _ _ hc => fr_inv (fun c : Int => c = 0) hc (fun c a _ _ hc => ?_))
  have : (sFr w h T a b && aHd rk a b u v) = false := by
    rw [Bool.eq_false_iff]
    intro q
    rw [Bool.and_eq_true] at q
    have h1 := aHd_iff.mp q.2
    rcases hn a b q.1 with e | e
    · rw [e.1, e.2] at h1
      omega
    · have := aHd_iff.mp e
      omega
  show c + bi (sFr w h T a b && aHd rk a b u v) = 0
  rw [this, hc]
  rfl
/-- sums over the front's list -/
theorem ft_sum {w h : Int} {T S : Int → Int → Int} {s ra : Int} (g : Int × Int → Bool) : fr (fun c j => c + bi (g (gk (sFt w h T S s ra) j))) 0 (sFt w h T S s ra).length 0 = sCt w h (fun x y => sFr w h T x y && g (y * w + x, sRk w h T S s ra x y)) := by
  unfold sFt sCt fr2
  refine fr_two (fun (q : List (Int × Int)) (c : Int) => fr (fun c j => c + bi (g (gk q j))) 0 q.length 0 = c) rfl (fun q c y _ _ R => fr_two (fun (q : List (Int × Int)) (c : Int) => fr (fun c j => c + bi (g (gk q j))) 0 q.length 0 = c) R (fun q c x _ _ R => ?_))
  show fr (fun c j => c + bi (g (gk (frF w h T S s ra q x y) j))) 0 (frF w h T S s ra q x y).length 0 = c + bi (sFr w h T x y && g (y * w + x, sRk w h T S s ra x y))
  unfold frF
  by_cases hf : sFr w h T x y = true
  · rw [if_pos hf, hf, Bool.true_and, List.length_append]
    show fr _ 0 (q.length + 1) 0 = _
    rw [fr_s]
    have e1 : fr (fun c j => c + bi (g (gk (q ++ [(y * w + x, sRk w h T S s ra x y)]) j))) 0 q.length 0 = c := by
      rw [← R]
      exact fr_congr (fun c j h1 h2 => by rw [gk_old h1 (by omega)])
    rw [e1, Int.zero_add, gk_new]
  · rw [if_neg hf, Bool.eq_false_iff.mpr hf, Bool.false_and, R]
    show c = c + 0
    omega
/-- the list lies in order -/
theorem ft_ord {w h : Int} {T S : Int → Int → Int} {s ra : Int} (hw : 0 ≤ w) : ∀ i j : Int, 0 ≤ i → i < j → j < (sFt w h T S s ra).length → (gk (sFt w h T S s ra) i).1 < (gk (sFt w h T S s ra) j).1 := by
  have key : (∀ i : Int, 0 ≤ i → i < (sFt w h T S s ra).length → (gk (sFt w h T S s ra) i).1 < (h.toNat : Int) * w) ∧ ∀ i j : Int, 0 ≤ i → i < j → j < (sFt w h T S s ra).length → (gk (sFt w h T S s ra) i).1 < (gk (sFt w h T S s ra) j).1 := by
    unfold sFt fr2
    refine fr_ix (fun (m : Nat) (q : List (Int × Int)) => (∀ i : Int, 0 ≤ i → i < q.length → (gk q i).1 < (m : Int) * w) ∧ ∀ i j : Int, 0 ≤ i → i < j → j < q.length → (gk q i).1 < (gk q j).1) ⟨fun i h1 h2 => by simp at h2; omega, fun i j h1 h2 h3 => by simp at h3; omega⟩ (fun m q _ hq => ?_)
    have := fr_ix (f := fun q x => frF w h T S s ra q x (0 + (m : Int))) (a := 0) (n := w.toNat) (s := q) (fun (k : Nat) (q : List (Int × Int)) => (∀ i : Int, 0 ≤ i → i < q.length → (gk q i).1 < (m : Int) * w + (k : Int)) ∧ ∀ i j : Int, 0 ≤ i → i < j → j < q.length → (gk q i).1 < (gk q j).1) ⟨fun i h1 h2 => by have := hq.1 i h1 h2; omega, hq.2⟩ (fun k q _ hq => by
      unfold frF
      split
      · rw [Int.zero_add, Int.zero_add]
        refine ⟨fun i h1 h2 => ?_, fun i j h1 h2 h3 => ?_⟩
        · rw [List.length_append] at h2
          simp at h2
          by_cases e : i = (q.length : Int)
          · rw [e, gk_new]
            show (m : Int) * w + (k : Int) < _
            omega
          · rw [gk_old h1 (by omega)]
            have := hq.1 i h1 (by omega)
            omega
        · rw [List.length_append] at h3
          simp at h3
          by_cases e : j = (q.length : Int)
          · rw [e, gk_new, gk_old h1 (by omega)]
            exact hq.1 i h1 (by omega)
          · rw [gk_old h1 (by omega), gk_old (by omega) (by omega)]
            exact hq.2 i j h1 h2 (by omega)
      · exact ⟨fun i h1 h2 => by have := hq.1 i h1 h2; omega, hq.2⟩)
    refine ⟨fun i h1 h2 => ?_, this.2⟩
    have h3 := this.1 i h1 h2
    rw [Int.toNat_of_nonneg hw] at h3
    rw [Int.natCast_succ, Int.add_mul, Int.one_mul]
    exact h3
  exact key.2
theorem ft_mem {w h : Int} {T S : Int → Int → Int} {s ra x0 y0 : Int} (hf : sFr w h T x0 y0 = true) : ∃ i : Int, 0 ≤ i ∧ i < (sFt w h T S s ra).length ∧ gk (sFt w h T S s ra) i = (y0 * w + x0, sRk w h T S s ra x0 y0) := by
  have hi := sIn_iff.mp (sFr_in hf)
  have key : ∀ (m : Nat), y0 < (m : Int) → ∃ i : Int, 0 ≤ i ∧ i < (fr (fun q y => fr (fun q x => frF w h T S s ra q x y) 0 w.toNat q) 0 m []).length ∧ gk (fr (fun q y => fr (fun q x => frF w h T S s ra q x y) 0 w.toNat q) 0 m []) i = (y0 * w + x0, sRk w h T S s ra x0 y0) := by
    have grow : ∀ (y : Int) (k : Nat) (q : List (Int × Int)), (∃ i : Int, 0 ≤ i ∧ i < q.length ∧ gk q i = (y0 * w + x0, sRk w h T S s ra x0 y0)) → ∃ i : Int, 0 ≤ i ∧ i < (fr (fun q x => frF w h T S s ra q x y) 0 k q).length ∧ gk (fr (fun q x => frF w h T S s ra q x y) 0 k q) i = (y0 * w + x0, sRk w h T S s ra x0 y0) := by
      intro y k q hq
      refine fr_inv (fun q => ∃ i : Int, 0 ≤ i ∧ i < q.length ∧ gk q i = (y0 * w + x0, sRk w h T S s ra x0 y0)) hq (fun q x _ _ hq => ?_)
      obtain ⟨i, h1, h2, h3⟩ := hq
      unfold frF
      split
      · exact ⟨i, h1, by rw [List.length_append]; simp; omega, by rw [gk_old h1 h2]; exact h3⟩
      · exact ⟨i, h1, h2, h3⟩
    intro m
    induction m with
    | zero => intro hh; omega
    | succ m ih =>
      intro hm
      rw [fr_s]
      by_cases e : y0 < (m : Int)
      · exact grow _ _ _ (ih e)
      · have hy : (0 : Int) + (m : Int) = y0 := by omega
        rw [hy]
        generalize fr (fun q y => fr (fun q x => frF w h T S s ra q x y) 0 w.toNat q) 0 m [] = q
        have row : ∀ k : Nat, x0 < (k : Int) → ∃ i : Int, 0 ≤ i ∧ i < (fr (fun q x => frF w h T S s ra q x y0) 0 k q).length ∧ gk (fr (fun q x => frF w h T S s ra q x y0) 0 k q) i = (y0 * w + x0, sRk w h T S s ra x0 y0) := by
          intro k
          induction k with
          | zero => intro hh; omega
          | succ k ih2 =>
            intro hk
            rw [fr_s]
            by_cases e2 : x0 < (k : Int)
            · obtain ⟨i, h1, h2, h3⟩ := ih2 e2
              generalize fr (fun q x => frF w h T S s ra q x y0) 0 k q = p at h2 h3 ⊢
              unfold frF
              split
              · exact ⟨i, h1, by rw [List.length_append]; simp; omega, by rw [gk_old h1 h2]; exact h3⟩
              · exact ⟨i, h1, h2, h3⟩
            · have hx : (0 : Int) + (k : Int) = x0 := by omega
              rw [hx]
              generalize fr (fun q x => frF w h T S s ra q x y0) 0 k q = p
              unfold frF
              rw [if_pos hf]
              exact ⟨(p.length : Int), by omega, by rw [List.length_append]; simp; omega, gk_new⟩
        exact row w.toNat (by omega)
  exact key h.toNat (by omega)
theorem key_lt {w x y u v : Int} (hx : 0 ≤ x ∧ x < w) (hu : 0 ≤ u ∧ u < w) : y * w + x < v * w + u ↔ (y < v ∨ (y = v ∧ x < u)) := by
  have hw : 0 ≤ w := by omega
  constructor
  · intro hh
    rcases Int.lt_trichotomy y v with e | e | e
    · exact Or.inl e
    · right
      subst e
      omega
    · have : (v + 1) * w ≤ y * w := Int.mul_le_mul_of_nonneg_right (by omega) hw
      rw [Int.add_mul, Int.one_mul] at this
      omega
  · rintro (e | ⟨e, e2⟩)
    · have : (y + 1) * w ≤ v * w := Int.mul_le_mul_of_nonneg_right (by omega) hw
      rw [Int.add_mul, Int.one_mul] at this
      omega
    · subst e
      omega
/-- the class's count of a place is the count of its dot -/
theorem sAh_c {w h : Int} {T S : Int → Int → Int} {s ra u v i : Int} (hw : 1 ≤ w ∧ w ≤ 20) (hf : sFr w h T u v = true) (h0 : 0 ≤ i) (hi : i < (sFt w h T S s ra).length) (he : gk (sFt w h T S s ra) i = (v * w + u, sRk w h T S s ra u v)) : sAh (sFt w h T S s ra) i = cHd w h T (sRk w h T S s ra) u v := by
  have hu := sIn_iff.mp (sFr_in hf)
  have e1 : sAh (sFt w h T S s ra) i = fr (fun c j => c + bi ((fun e : Int × Int => decide (sRk w h T S s ra u v < e.2) || (decide (e.2 = sRk w h T S s ra u v) && decide (e.1 < v * w + u))) (gk (sFt w h T S s ra) j))) 0 (sFt w h T S s ra).length 0 := by
    unfold sAh
    refine fr_congr (fun c j h1 h2 => ?_)
    have ho : decide (j < i) = decide ((gk (sFt w h T S s ra) j).1 < v * w + u) := by
      rw [decide_eq_decide]
      have hk : v * w + u = (gk (sFt w h T S s ra) i).1 := by rw [he]
      rw [hk]
      constructor
      · intro q
        exact ft_ord (by omega) j i h1 q hi
      · intro q
        rcases Int.lt_trichotomy j i with r | r | r
        · exact r
        · rw [r] at q
          omega
        · have := ft_ord (w := w) (h := h) (T := T) (S := S) (s := s) (ra := ra) (by omega) i j h0 r (by omega)
          omega
    unfold ahF
    rw [he, ho]
  refine (e1.trans (ft_sum (fun e : Int × Int => decide (sRk w h T S s ra u v < e.2) || (decide (e.2 = sRk w h T S s ra u v) && decide (e.1 < v * w + u))))).trans ?_
  unfold cHd sCt fr2
  refine fr_congr (fun c y y1 y2 => fr_congr (fun c x x1 x2 => ?_))
  have : (decide (sRk w h T S s ra u v < sRk w h T S s ra x y) || (decide (sRk w h T S s ra x y = sRk w h T S s ra u v) && decide (y * w + x < v * w + u))) = aHd (sRk w h T S s ra) x y u v := by
    unfold aHd
    have : decide (y * w + x < v * w + u) = decide (20 * y + x < 20 * v + u) := by
      rw [decide_eq_decide, key_lt ⟨by omega, by omega⟩ ⟨hu.1, hu.2.1⟩]
      omega
    rw [this]
  show c + bi (sFr w h T x y && (decide (sRk w h T S s ra u v < sRk w h T S s ra x y) || (decide (sRk w h T S s ra x y = sRk w h T S s ra u v) && decide (y * w + x < v * w + u)))) = c + bi (sFr w h T x y && aHd (sRk w h T S s ra) x y u v)
  rw [this]
theorem sPo_sp (L : List (Int × Int)) (k : Int) : (sPo L k = -1 ∧ ∀ i : Int, 0 ≤ i → i < L.length → sAh L i ≠ k) ∨ (0 ≤ sPo L k ∧ sPo L k < L.length ∧ sAh L (sPo L k) = k) := by
  unfold sPo
  have := fr_ix (f := plF L k) (a := 0) (n := L.length) (s := -1) (fun (m : Nat) q => (q = -1 ∧ ∀ i : Int, 0 ≤ i → i < (m : Int) → sAh L i ≠ k) ∨ (0 ≤ q ∧ q < (m : Int) ∧ sAh L q = k)) (Or.inl ⟨rfl, fun i h1 h2 => by omega⟩) (fun m q hm hq => by
    unfold plF
    by_cases e : q = -1 ∧ sAh L (0 + (m : Int)) = k
    · rw [if_pos e]
      exact Or.inr ⟨by omega, by omega, e.2⟩
    · rw [if_neg e]
      rcases hq with h1 | h1
      · refine Or.inl ⟨h1.1, fun i a b => ?_⟩
        by_cases ei : i = (m : Int)
        · intro hh
          rw [ei] at hh
          exact e ⟨h1.1, by rw [Int.zero_add]; exact hh⟩
        · exact h1.2 i a (by omega)
      · exact Or.inr ⟨h1.1, by omega, h1.2.2⟩)
  exact this
theorem ft_yes {w h : Int} {T S : Int → Int → Int} {s ra k a x0 y0 : Int} (hw : 1 ≤ w ∧ w ≤ 20) (hf : sFr w h T x0 y0 = true) (hc : cHd w h T (sRk w h T S s ra) x0 y0 = k) : ftV w h T S s ra k a = if a = 0 then x0 else if a = 1 then y0 else sRk w h T S s ra x0 y0 := by
  have hi := sIn_iff.mp (sFr_in hf)
  obtain ⟨i, i1, i2, i3⟩ := ft_mem (S := S) (s := s) (ra := ra) hf
  have ci := sAh_c hw hf i1 i2 i3
  rcases sPo_sp (sFt w h T S s ra) k with ⟨p1, p2⟩ | ⟨p1, p2, p3⟩
  · exact absurd (ci.trans hc) (p2 i i1 i2)
  · obtain ⟨u, v, hu, hv, he, hg⟩ := frF_in _ (gk_mem p1 p2)
    have cp := sAh_c hw hg p1 p2 he
    have heq : u = x0 ∧ v = y0 := by
      rcases Decidable.em (u = x0 ∧ v = y0) with q | q
      · exact q
      · exfalso
        by_cases e : aHd (sRk w h T S s ra) u v x0 y0 = true
        · have := cHd_up hg e
          omega
        · have e2 : aHd (sRk w h T S s ra) x0 y0 u v = true := by
            rw [aHd_iff] at e ⊢
            omega
          have := cHd_up hf e2
          omega
    unfold ftV
    rw [if_neg (by omega), he, heq.1, heq.2]
    have hd := y_dm (w := w) (y := y0) (x := x0) ⟨hi.1, hi.2.1⟩
    show (if a = 0 then (y0 * w + x0) % w else if a = 1 then (y0 * w + x0) / w else sRk w h T S s ra x0 y0) = _
    rw [hd.1, hd.2]
theorem ft_not {w h : Int} {T S : Int → Int → Int} {s ra k a : Int} (hw : 1 ≤ w ∧ w ≤ 20) (hc : ∀ x y : Int, sFr w h T x y = true → cHd w h T (sRk w h T S s ra) x y ≠ k) : ftV w h T S s ra k a = -1 := by
  rcases sPo_sp (sFt w h T S s ra) k with ⟨p1, p2⟩ | ⟨p1, p2, p3⟩
  · unfold ftV
    rw [if_pos p1]
  · obtain ⟨u, v, hu, hv, he, hg⟩ := frF_in _ (gk_mem p1 p2)
    have cp := sAh_c hw hg p1 p2 he
    exact absurd (cp.symm.trans p3) (hc u v hg)
/-- what one scan for the next has found so far -/
def aft (lr la r k : Int) : Bool := decide (r < lr) || (decide (lr = r) && decide (la < k))
theorem aft_iff {lr la r k : Int} : aft lr la r k = true ↔ (r < lr ∨ (lr = r ∧ la < k)) := by
  unfold aft
  simp only [Bool.or_eq_true, Bool.and_eq_true, decide_eq_true_eq]
def slB (w h : Int) (T rk : Int → Int → Int) (lr la : Int) (D : Int → Int → Prop) (b br : Int) : Prop := (b = -1 ∧ br = -1 ∧ ∀ x y : Int, D x y → sFr w h T x y = true → aft lr la (rk x y) (20 * y + x) = false) ∨ (∃ x0 y0 : Int, sFr w h T x0 y0 = true ∧ aft lr la (rk x0 y0) (20 * y0 + x0) = true ∧ b = 20 * y0 + x0 ∧ br = rk x0 y0 ∧ ∀ x y : Int, D x y → sFr w h T x y = true → aft lr la (rk x y) (20 * y + x) = true → (x = x0 ∧ y = y0) ∨ aHd rk x0 y0 x y = true)
def dSc (x y : Int) : Int → Int → Prop := fun a b => b < y ∨ (b = y ∧ a < x)
theorem slB_0 {w h : Int} {T rk : Int → Int → Int} {lr la : Int} : slB w h T rk lr la (dSc 0 0) (-1) (-1) := Or.inl ⟨rfl, rfl, fun x y hd hf => by
  have := sIn_iff.mp (sFr_in hf)
  unfold dSc at hd
  omega⟩
theorem slB_row {w h : Int} {T rk : Int → Int → Int} {lr la b br y : Int} (H : slB w h T rk lr la (dSc w y) b br) : slB w h T rk lr la (dSc 0 (y + 1)) b br := by
  have key : ∀ x z : Int, dSc 0 (y + 1) x z → sFr w h T x z = true → dSc w y x z := fun x z hd hf => by
    have := sIn_iff.mp (sFr_in hf)
    unfold dSc at *
    omega
  rcases H with ⟨h1, h2, h3⟩ | ⟨x0, y0, h1, h2, h3, h4, h5⟩
  · exact Or.inl ⟨h1, h2, fun x z hd hf => h3 x z (key x z hd hf) hf⟩
  · exact Or.inr ⟨x0, y0, h1, h2, h3, h4, fun x z hd hf => h5 x z (key x z hd hf) hf⟩
theorem slB_same {w h : Int} {T rk : Int → Int → Int} {lr la b br x y : Int} (H : slB w h T rk lr la (dSc x y) b br) (hn : sFr w h T x y = true → aft lr la (rk x y) (20 * y + x) = true → b ≠ -1 ∧ ¬ (br < rk x y ∨ (rk x y = br ∧ 20 * y + x < b))) (hw : w ≤ 20) : slB w h T rk lr la (dSc (x + 1) y) b br := by
  have key : ∀ a c : Int, dSc (x + 1) y a c → dSc x y a c ∨ (a = x ∧ c = y) := fun a c hd => by
    unfold dSc at *
    omega
  rcases H with ⟨h1, h2, h3⟩ | ⟨x0, y0, h1, h2, h3, h4, h5⟩
  · refine Or.inl ⟨h1, h2, fun a c hd hf => ?_⟩
    rcases key a c hd with q | q
    · exact h3 a c q hf
    · rw [q.1, q.2] at hf ⊢
      rw [Bool.eq_false_iff]
      intro hh
      exact (hn hf hh).1 h1
  · refine Or.inr ⟨x0, y0, h1, h2, h3, h4, fun a c hd hf ha => ?_⟩
    rcases key a c hd with q | q
    · exact h5 a c q hf ha
    · rw [q.1, q.2] at hf ha ⊢
      have := (hn hf ha).2
      have i1 := sIn_iff.mp (sFr_in hf)
      have i2 := sIn_iff.mp (sFr_in h1)
      rw [h3, h4] at this
      rcases Decidable.em (x = x0 ∧ y = y0) with r | r
      · exact Or.inl r
      · right
        rw [aHd_iff]
        omega
theorem slB_new {w h : Int} {T rk : Int → Int → Int} {lr la b br x y : Int} (H : slB w h T rk lr la (dSc x y) b br) (hf : sFr w h T x y = true) (ha : aft lr la (rk x y) (20 * y + x) = true) (hb : b = -1 ∨ (br < rk x y ∨ (rk x y = br ∧ 20 * y + x < b))) : slB w h T rk lr la (dSc (x + 1) y) (20 * y + x) (rk x y) := by
  have key : ∀ a c : Int, dSc (x + 1) y a c → dSc x y a c ∨ (a = x ∧ c = y) := fun a c hd => by
    unfold dSc at *
    omega
  refine Or.inr ⟨x, y, hf, ha, rfl, rfl, fun a c hd hg hh => ?_⟩
  rcases key a c hd with q | q
  · right
    rcases H with ⟨h1, h2, h3⟩ | ⟨x0, y0, h1, h2, h3, h4, h5⟩
    · rw [h3 a c q hg] at hh
      cases hh
    · have i2 := sIn_iff.mp (sFr_in h1)
      rw [h3, h4] at hb
      rw [aHd_iff]
      rcases h5 a c q hg hh with r | r
      · rw [r.1, r.2]
        omega
      · have := aHd_iff.mp r
        omega
  · exact Or.inl q
/-- the scan's end: the next of the order, or none -/
theorem slB_end {w h : Int} {T rk : Int → Int → Int} {lr la b br y : Int} (H : slB w h T rk lr la (dSc 0 y) b br) (hy : h ≤ y) : (b = -1 ∧ ∀ x y : Int, sFr w h T x y = true → aft lr la (rk x y) (20 * y + x) = false) ∨ (∃ x0 y0 : Int, sFr w h T x0 y0 = true ∧ aft lr la (rk x0 y0) (20 * y0 + x0) = true ∧ b = 20 * y0 + x0 ∧ br = rk x0 y0 ∧ ∀ x y : Int, sFr w h T x y = true → aft lr la (rk x y) (20 * y + x) = true → (x = x0 ∧ y = y0) ∨ aHd rk x0 y0 x y = true) := by
  have key : ∀ x z : Int, sFr w h T x z = true → dSc 0 y x z := fun x z hf => by
    have := sIn_iff.mp (sFr_in hf)
    unfold dSc
    omega
  rcases H with ⟨h1, h2, h3⟩ | ⟨x0, y0, h1, h2, h3, h4, h5⟩
  · exact Or.inl ⟨h1, fun x z hf => h3 x z (key x z hf) hf⟩
  · exact Or.inr ⟨x0, y0, h1, h2, h3, h4, fun x z hf => h5 x z (key x z hf) hf⟩
/-- how far the selection has come -/
def slN (w h : Int) (T rk : Int → Int → Int) (m lr la : Int) : Prop := (m = 0 ∧ lr = 1000000000 ∧ la = -1) ∨ (0 < m ∧ ∃ x0 y0 : Int, sFr w h T x0 y0 = true ∧ la = 20 * y0 + x0 ∧ lr = rk x0 y0 ∧ cHd w h T rk x0 y0 = m - 1)
theorem slN_up {w h : Int} {T rk : Int → Int → Int} {m lr la b br y : Int} (hw : 1 ≤ w ∧ w ≤ 20) (hh : 1 ≤ h) (hr : ∀ x y : Int, sFr w h T x y = true → -1 < rk x y ∧ rk x y < 1000000000) (N : slN w h T rk m lr la) (H : slB w h T rk lr la (dSc 0 y) b br) (hy : h ≤ y) : (b ≠ -1 → slN w h T rk (m + 1) br b) ∧ (b = -1 → ∀ x y k : Int, m ≤ k → sFr w h T x y = true → cHd w h T rk x y ≠ k) := by
  have hA : ∀ x0 y0 : Int, sFr w h T x0 y0 = true → ∀ x y : Int, aft (rk x0 y0) (20 * y0 + x0) (rk x y) (20 * y + x) = aHd rk x0 y0 x y := fun x0 y0 _ x y => rfl
  rcases slB_end H hy with ⟨e1, e2⟩ | ⟨x0, y0, f1, f2, f3, f4, f5⟩
  · refine ⟨fun hb => absurd e1 hb, fun _ x z k hk hf hc => ?_⟩
    have h1 := e2 x z hf
    rcases N with ⟨n1, n2, n3⟩ | ⟨n1, u, v, n2, n3, n4, n5⟩
    · rw [n2, n3] at h1
      have := hr x z hf
      have i1 := sIn_iff.mp (sFr_in hf)
      have h2 : aft 1000000000 (-1) (rk x z) (20 * z + x) = true := aft_iff.mpr (by omega)
      rw [h2] at h1
      cases h1
    · rw [n3, n4, hA u v n2] at h1
      by_cases q : x = u ∧ z = v
      · rw [q.1, q.2] at hc
        omega
      · have h3 : aHd rk x z u v = true := by
          have h4 : ¬ aHd rk u v x z = true := by rw [h1]; decide
          have i1 := sIn_iff.mp (sFr_in hf)
          have i2 := sIn_iff.mp (sFr_in n2)
          rw [aHd_iff] at h4 ⊢
          omega
        have := cHd_up hf h3
        omega
  · have i0 := sIn_iff.mp (sFr_in f1)
    refine ⟨fun _ => Or.inr ?_, fun hb => by omega⟩
    rcases N with ⟨n1, n2, n3⟩ | ⟨n1, u, v, n2, n3, n4, n5⟩
    · refine ⟨by omega, x0, y0, f1, f3, f4, ?_⟩
      rw [cHd_0 ⟨by omega, hw.2⟩ (by omega) (fun a b hf => f5 a b hf ?_), n1]
      · rfl
      · rw [n2, n3]
        have := hr a b hf
        exact aft_iff.mpr (by omega)
    · refine ⟨by omega, x0, y0, f1, f3, f4, ?_⟩
      rw [n3, n4, hA u v n2] at f2
      have hq := cHd_next (u := x0) (v := y0) ⟨by omega, hw.2⟩ (by omega) n2 f1 f2 (fun a b hf ha => f5 a b hf (by rw [n3, n4, hA u v n2]; exact ha))
      omega
theorem slN_bd {w h : Int} {T rk : Int → Int → Int} {m lr la : Int} (hw : 1 ≤ w ∧ w ≤ 20) (hh : 1 ≤ h ∧ h ≤ 20) (hr : ∀ x y : Int, sFr w h T x y = true → -1 < rk x y ∧ rk x y < 1000000000) (N : slN w h T rk m lr la) : m ≤ 401 ∧ (-1 ≤ la ∧ la < 400) ∧ (-1 < lr ∧ lr ≤ 1000000000) := by
  have h1 := y_wh hw hh
  rcases N with ⟨n1, n2, n3⟩ | ⟨n1, u, v, n2, n3, n4, n5⟩
  · omega
  · have h2 := sCt_bd hw hh (fun x y => sFr w h T x y && aHd rk x y u v)
    have h3 := hr u v n2
    have i1 := sIn_iff.mp (sFr_in n2)
    unfold cHd at n5
    omega
