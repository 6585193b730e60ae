/-! HALF -/
theorem rM.fr' {σ σ' : yM} {z : Nat} {w h : Int} {T S F P O : Int → Int → Int} (H : rM σ z w h T S F P O) (e1 : σ' 161 z = σ 161 z) (e2 : σ' 162 z = σ 162 z) (e3 : ∀ i : Int, 0 ≤ i → i < 2000 → σ' (158 + z) i = σ (158 + z) i) : rM σ' z w h T S F P O := by
  obtain ⟨h1, h2, h3, h4⟩ := H
  refine ⟨h1, by rw [e1]; exact h2, by rw [e2]; exact h3, fun x y a b c d => ?_⟩
  have hw := h1.1
  rw [e3 _ (by omega) (by omega), e3 _ (by omega) (by omega), e3 _ (by omega) (by omega), e3 _ (by omega) (by omega), e3 _ (by omega) (by omega)]
  exact h4 x y a b c d
def m4F (w h : Int) (T : Int → Int → Int) (q : Int × Int) (x y : Int) : Int × Int := if sKn w h T x y then (q.1 + T x y, q.2 + 1) else q
def s4 (w h : Int) (T : Int → Int → Int) (x y : Int) : Int × Int := fr2 (m4F w h T) x 2 y 2 (0, 0)
def sHf (w h : Int) (T : Int → Int → Int) (x y : Int) : Int := if (s4 w h T (2 * x) (2 * y)).2 = 0 then -1 else (s4 w h T (2 * x) (2 * y)).1.tdiv (s4 w h T (2 * x) (2 * y)).2
theorem s4_bd {w h : Int} {T S F P O : Int → Int → Int} (A : aOk w h T S F P O) (x y : Int) : 0 ≤ (s4 w h T x y).1 ∧ (s4 w h T x y).1 ≤ 255 * (s4 w h T x y).2 ∧ 0 ≤ (s4 w h T x y).2 ∧ (s4 w h T x y).2 ≤ 4 := by
  have key : ∀ (j : Int) (r : Int × Int), (0 ≤ r.1 ∧ r.1 ≤ 255 * r.2) → (0 ≤ (fr (fun q i => m4F w h T q i j) x 2 r).1 ∧ (fr (fun q i => m4F w h T q i j) x 2 r).1 ≤ 255 * (fr (fun q i => m4F w h T q i j) x 2 r).2) ∧ r.2 ≤ (fr (fun q i => m4F w h T q i j) x 2 r).2 ∧ (fr (fun q i => m4F w h T q i j) x 2 r).2 ≤ r.2 + 2 := by
    intro j r hr
    have := fr_ix (n := 2) (f := fun q i => m4F w h T q i j) (a := x) (s := r) (fun m (q : Int × Int) => (0 ≤ q.1 ∧ q.1 ≤ 255 * q.2) ∧ r.2 ≤ q.2 ∧ q.2 ≤ r.2 + (m : Int)) ⟨hr, by omega, by omega⟩ (fun m q _ hq => by
      unfold m4F
      split
      · rename_i hk
        have := sKn_T A hk
        simp only
        omega
      · omega)
    omega
  have := fr_ix (n := 2) (f := fun q j => fr (fun q i => m4F w h T q i j) x 2 q) (a := y) (s := ((0, 0) : Int × Int)) (fun m (q : Int × Int) => (0 ≤ q.1 ∧ q.1 ≤ 255 * q.2) ∧ 0 ≤ q.2 ∧ q.2 ≤ 2 * (m : Int)) ⟨⟨by decide, by decide⟩, by decide, by decide⟩ (fun m q _ hq => by
    have := key (y + m) q hq.1
    omega)
  unfold s4 fr2
  omega
theorem sHf_bd {w h : Int} {T S F P O : Int → Int → Int} (A : aOk w h T S F P O) (x y : Int) : -1 ≤ sHf w h T x y ∧ sHf w h T x y ≤ 255 ∧ ((s4 w h T (2 * x) (2 * y)).2 ≠ 0 → 0 ≤ sHf w h T x y) := by
  have h1 := s4_bd A (2 * x) (2 * y)
  unfold sHf
  split
  · rename_i hc
    exact ⟨by decide, by decide, fun q => absurd hc q⟩
  · rw [Int.tdiv_eq_ediv_of_nonneg h1.1]
    have h2 : 0 ≤ (s4 w h T (2 * x) (2 * y)).1 / (s4 w h T (2 * x) (2 * y)).2 := Int.ediv_nonneg h1.1 (by omega)
    have h3 : (s4 w h T (2 * x) (2 * y)).1 / (s4 w h T (2 * x) (2 * y)).2 ≤ 255 := Int.ediv_le_of_le_mul (by omega) h1.2.1
    exact ⟨by omega, h3, fun _ => h2⟩
/-- the half of a picture -/
def hS_ (T : Int → Int → Int) : Int → Int → Int := fun x y => if T x y = -1 then 0 else 1000
def hX (w h : Int) (T : Int → Int → Int) (lg : Int → Int → Int) : aX := (sHf w h T, hS_ (sHf w h T), fun _ _ => 0, fun _ _ => -1, fun _ _ => -1, 0, 0, 0, lg)
theorem aOk_half {w h : Int} {T S F P O : Int → Int → Int} (A : aOk w h T S F P O) : aOk ((w + 1) / 2) ((h + 1) / 2) (sHf w h T) (hS_ (sHf w h T)) (fun _ _ => 0) (fun _ _ => -1) (fun _ _ => -1) := by
  have hw := A.1
  refine ⟨by omega, fun x y _ _ _ _ => ?_⟩
  have h1 := sHf_bd A x y
  refine ⟨⟨h1.1, h1.2.1⟩, ?_, ⟨show (0 : Int) ≤ 0 by decide, show (0 : Int) < 2147483648 by decide⟩, Or.inl rfl, Or.inl rfl, ⟨fun q => absurd q (show ¬ ((0 : Int) < 0) by decide), fun q => absurd q (show ¬ ((0 : Int) ≤ -1) by decide)⟩, ⟨fun q => absurd q (show ¬ ((0 : Int) < 0) by decide), fun q => absurd q (show ¬ ((0 : Int) ≤ -1) by decide)⟩⟩
  unfold hS_
  split <;> omega
/-- a dot given a tone, or missing, in the reference's memory -/
def mgv (σ : yM) (z : Nat) (i t : Int) : yM := if t = -1 then mms σ z i else mkn σ z i t
theorem mgv_at {σ : yM} {z : Nat} {i t : Int} (hi : 0 ≤ i ∧ i < 400) : mgv σ z i t (158 + z) i = t ∧ mgv σ z i t (158 + z) (400 + i) = (if t = -1 then 0 else 1000) ∧ mgv σ z i t (158 + z) (800 + i) = 0 ∧ mgv σ z i t (158 + z) (1200 + i) = -1 ∧ mgv σ z i t (158 + z) (1600 + i) = -1 := by
  unfold mgv
  split
  · rename_i ht
    unfold mms
    rw [yset_o (by omega), yset_o (by omega), yset_o (by omega), yset_o (by omega), yset_e, yset_o (by omega), yset_o (by omega), yset_o (by omega), yset_e, yset_o (by omega), yset_o (by omega), yset_e, yset_o (by omega), yset_e, yset_e]
    exact ⟨ht.symm, rfl, rfl, rfl, rfl⟩
  · unfold mkn
    rw [yset_o (by omega), yset_o (by omega), yset_o (by omega), yset_o (by omega), yset_e, yset_o (by omega), yset_o (by omega), yset_o (by omega), yset_e, yset_o (by omega), yset_o (by omega), yset_e, yset_o (by omega), yset_e, yset_e]
    exact ⟨rfl, rfl, rfl, rfl, rfl⟩
theorem mgv_o {σ : yM} {z : Nat} {i t : Int} {c : Nat} {j : Int} (h : c ≠ 158 + z ∨ (j ≠ i ∧ j ≠ 400 + i ∧ j ≠ 800 + i ∧ j ≠ 1200 + i ∧ j ≠ 1600 + i)) : mgv σ z i t c j = σ c j := by
  unfold mgv
  split
  · unfold mms
    rw [yset_o (by omega), yset_o (by omega), yset_o (by omega), yset_o (by omega), yset_o (by omega)]
  · unfold mkn
    rw [yset_o (by omega), yset_o (by omega), yset_o (by omega), yset_o (by omega), yset_o (by omega)]
