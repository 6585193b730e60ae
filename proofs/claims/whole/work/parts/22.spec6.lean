/-! a fill, dot by dot -/
/-- which dots of the patch come ahead of (i, j) -/
def dD (s x y i j : Int) : Int → Int → Bool := fun a b => inP s x y a b && (decide (b < j) || (decide (b = j) && decide (a < i)))
theorem inP_iff {s x y i j : Int} : inP s x y i j = true ↔ ((x - s ≤ i ∧ i ≤ x + s) ∧ (y - s ≤ j ∧ j ≤ y + s)) := by simp [inP, and_assoc]
theorem dD_next {s x y i j : Int} (h : inP s x y i j = true) : dD s x y (i + 1) j = fun a b => dD s x y i j a b || (decide (a = i) && decide (b = j)) := by
  funext a b
  unfold dD
  cases ha : inP s x y a b
  · rw [Bool.false_and, Bool.false_and, Bool.false_or]
    by_cases e : a = i ∧ b = j
    · rw [e.1, e.2, h] at ha
      cases ha
    · simp
      omega
  · simp only [Bool.true_and]
    by_cases e1 : b < j
    · simp [e1]
    · by_cases e2 : b = j
      · subst e2
        by_cases e3 : a = i
        · subst e3
          simp
          omega
        · simp [e3]
          omega
      · simp [e1, e2]
theorem dD_row {s x y i j : Int} (hi : i = x + s + 1) : dD s x y i j = dD s x y (x - s) (j + 1) := by
  funext a b
  unfold dD
  cases ha : inP s x y a b
  · rfl
  · have := inP_iff.mp ha
    simp only [Bool.true_and]
    rw [Bool.eq_iff_iff]
    simp only [Bool.or_eq_true, Bool.and_eq_true, decide_eq_true_eq]
    omega
theorem dD_0 {s x y j : Int} (hj : j = y - s) : dD s x y (x - s) j = fun _ _ => false := by
  funext a b
  unfold dD
  cases ha : inP s x y a b
  · rfl
  · have := inP_iff.mp ha
    simp
    omega
theorem dD_all {s x y j : Int} (hj : j = y + s + 1) : dD s x y (x - s) j = inP s x y := by
  funext a b
  unfold dD
  cases ha : inP s x y a b
  · rfl
  · have := inP_iff.mp ha
    simp
    omega
theorem dD_self {s x y i j : Int} : dD s x y i j i j = false := by
  unfold dD
  simp
theorem cOk_pl {w h u v : Int} (hw : w ≤ 20) (hi : sIn w h u v = true) : 0 ≤ 20 * v + u ∧ 20 * v + u < 20 * h ∧ (20 * v + u) % 20 = u ∧ (20 * v + u) / 20 = v := by
  have := sIn_iff.mp hi
  omega
theorem y_clip (a : Int) : 0 ≤ max 0 (min 255 a) ∧ max 0 (min 255 a) ≤ 255 := by omega
/-- the new numbers are in order -/
theorem aOk_fill {w h : Int} {T S F P O : Int → Int → Int} (A : aOk w h T S F P O) {s bx by_ bw bs x y st nm : Int} {D : Int → Int → Bool} (hD : ∀ a b, D a b = true → inP s x y a b = true) (hpl : sPl w h T s bx by_) (hst : 0 ≤ st ∧ st ≤ 1000) (hnm : 0 < nm ∧ nm < 2147483648) : aOk w h (fT w h T D bx by_ bw bs x y) (fC w h T D S st) (fC w h T D F nm) (fP w h T D P bx by_ bw x y) (fO w h T F O D bx by_ bw x y) := by
  refine ⟨A.1, fun a b h1 h2 h3 h4 => ?_⟩
  have o := A.2 a b h1 h2 h3 h4
  unfold fT fC fP fO
  cases hc : (D a b && sMi w h T a b)
  · exact o
  · rw [Bool.and_eq_true] at hc
    have hp := inP_iff.mp (hD a b hc.1)
    have hk := hpl.at (way := bw) (x := x) (y := y) (i := a) (j := b) hp.1 hp.2
    have hin := sKn_in hk
    have hi := sIn_iff.mp hin
    have o2 := A.2 _ _ hi.1 hi.2.1 hi.2.2.1 hi.2.2.2
    have hcl := y_clip (T (bx + wX bw (a - x) (b - y)) (by_ + wY bw (a - x) (b - y)) + bs)
    have hcp := cOk_pl A.1.2.1 hin
    simp only [if_true]
    refine ⟨by omega, hst, by omega, Or.inr ⟨by unfold fPl; omega, by unfold fPl; omega, by unfold fPl; omega⟩, ?_, by unfold fPl; omega, ?_⟩
    · split
      · exact o2.2.2.2.2.1
      · exact Or.inr ⟨by unfold fPl; omega, by unfold fPl; omega, by unfold fPl; omega⟩
    · split
      · rename_i hf
        have := o2.2.2.2.2.2.2.mp hf
        omega
      · unfold fPl
        omega
theorem fT_known {w h : Int} {T : Int → Int → Int} {D : Int → Int → Bool} {bx by_ bw bs x y a b : Int} (hk : sKn w h T a b = true) : sMi w h T a b = false := by
  simp only [sKn, sMi, Bool.and_eq_true, decide_eq_true_eq] at *
  rw [hk.1]
  simp [hk.2]
/-- one dot more is done in the reference's memory -/
theorem rM_fill1 {σ : yM} {z : Nat} {w h : Int} {T S F P O : Int → Int → Int} {s bx by_ bw bs x y st nm i j : Int} {D : Int → Int → Bool} (H : rM σ z w h (fT w h T D bx by_ bw bs x y) (fC w h T D S st) (fC w h T D F nm) (fP w h T D P bx by_ bw x y) (fO w h T F O D bx by_ bw x y)) (A : aOk w h T S F P O) (hz : z < 3) (hpl : sPl w h T s bx by_) (hin : inP s x y i j = true) (hm : sMi w h T i j = true) (hDD : D i j = false) (hD : ∀ a b, D a b = true → inP s x y a b = true) (hbs : σ 155 22 = bs) (hnm : σ (158 + z) 2000 = nm) (hst : 0 ≤ st ∧ st ≤ 1000) (hn : 0 < nm ∧ nm < 2147483648) :
    rM (mf1 σ z (20 * j + i) (20 * (by_ + wY bw (i - x) (j - y)) + (bx + wX bw (i - x) (j - y))) st) z w h (fT w h T (fun a b => D a b || (decide (a = i) && decide (b = j))) bx by_ bw bs x y) (fC w h T (fun a b => D a b || (decide (a = i) && decide (b = j))) S st) (fC w h T (fun a b => D a b || (decide (a = i) && decide (b = j))) F nm) (fP w h T (fun a b => D a b || (decide (a = i) && decide (b = j))) P bx by_ bw x y) (fO w h T F O (fun a b => D a b || (decide (a = i) && decide (b = j))) bx by_ bw x y) := by
  have hij : sIn w h i j = true := by simp only [sMi, Bool.and_eq_true] at hm; exact hm.1
  have hij2 := sIn_iff.mp hij
  have hp := inP_iff.mp hin
  have hk := hpl.at (way := bw) (x := x) (y := y) (i := i) (j := j) hp.1 hp.2
  have hki := sIn_iff.mp (sKn_in hk)
  have hcp := cOk_pl A.1.2.1 (sKn_in hk)
  have hpm := H.2.2.2 _ _ hki.1 hki.2.1 hki.2.2.1 hki.2.2.2
  have hkm := fT_known (D := D) (bx := bx) (by_ := by_) (bw := bw) (bs := bs) (x := x) (y := y) hk
  have e1 : ∀ q : Int, 0 ≤ q → q < 400 → True := fun _ _ _ => trivial
  have hA1 := A.1
  have hne : 20 * (by_ + wY bw (i - x) (j - y)) + (bx + wX bw (i - x) (j - y)) ≠ 20 * j + i := by
    intro e
    have h1 : bx + wX bw (i - x) (j - y) = i := by omega
    have h2 : by_ + wY bw (i - x) (j - y) = j := by omega
    rw [h1, h2] at hkm
    rw [hkm] at hm
    cases hm
  refine ⟨aOk_fill A (fun a b hq => ?_) hpl hst hn, ?_, ?_, fun a b h1 h2 h3 h4 => ?_⟩
  · rw [Bool.or_eq_true] at hq
    rcases hq with hq | hq
    · exact hD a b hq
    · simp only [Bool.and_eq_true, decide_eq_true_eq] at hq
      rw [hq.1, hq.2]
      exact hin
  · unfold mf1
    repeat rw [yset_n (by omega)]
    exact H.2.1
  · unfold mf1
    repeat rw [yset_n (by omega)]
    exact H.2.2.1
  · have Hab := H.2.2.2 a b h1 h2 h3 h4
    by_cases hab : a = i ∧ b = j
    · obtain ⟨rfl, rfl⟩ := hab
      unfold fT at hpm
      unfold fC at hpm
      unfold fP at hpm
      unfold fO at hpm
      rw [hkm] at hpm
      simp only [Bool.and_false, Bool.false_eq_true, if_false] at hpm
      unfold mf1 fT fC fP fO
      simp only [decide_true, Bool.and_true, Bool.or_true, hm, if_true]
      rw [yset_o (by omega), yset_o (by omega), yset_o (by omega), yset_o (by omega), yset_e, yset_o (by omega), yset_o (by omega), yset_o (by omega), yset_e, yset_o (by omega), yset_o (by omega), yset_e, yset_o (by omega), yset_e, yset_e]
      refine ⟨by rw [hpm.1, hbs], rfl, hnm, rfl, ?_⟩
      rw [hpm.2.2.1, hpm.2.2.2.2]
      rfl
    · have hne2 : 20 * b + a ≠ 20 * j + i := by omega
      have hd : (D a b || (decide (a = i) && decide (b = j))) = D a b := by
        have : (decide (a = i) && decide (b = j)) = false := by
          simp
          omega
        rw [this, Bool.or_false]
      unfold fT fC fP fO at Hab ⊢
      simp only [hd]
      unfold mf1
      rw [yset_o (by omega), yset_o (by omega), yset_o (by omega), yset_o (by omega), yset_o (by omega), yset_o (by omega), yset_o (by omega), yset_o (by omega), yset_o (by omega), yset_o (by omega), yset_o (by omega), yset_o (by omega), yset_o (by omega), yset_o (by omega), yset_o (by omega), yset_o (by omega), yset_o (by omega), yset_o (by omega), yset_o (by omega), yset_o (by omega), yset_o (by omega), yset_o (by omega), yset_o (by omega), yset_o (by omega), yset_o (by omega)]
      exact Hab
/-- a dot that isn't missing adds nothing -/
theorem f_skip {w h : Int} {T A : Int → Int → Int} {D : Int → Int → Bool} {i j : Int} (hm : sMi w h T i j = false) (a b : Int) : ((D a b || (decide (a = i) && decide (b = j))) && sMi w h T a b) = (D a b && sMi w h T a b) := by
  by_cases hab : a = i ∧ b = j
  · rw [hab.1, hab.2, hm, Bool.and_false, Bool.and_false]
  · have : (decide (a = i) && decide (b = j)) = false := by
      simp
      omega
    rw [this, Bool.or_false]
theorem rM_skip {σ : yM} {z : Nat} {w h : Int} {T S F P O : Int → Int → Int} {bx by_ bw bs x y st nm i j : Int} {D : Int → Int → Bool} (hm : sMi w h T i j = false) (H : rM σ z w h (fT w h T D bx by_ bw bs x y) (fC w h T D S st) (fC w h T D F nm) (fP w h T D P bx by_ bw x y) (fO w h T F O D bx by_ bw x y)) :
    rM σ z w h (fT w h T (fun a b => D a b || (decide (a = i) && decide (b = j))) bx by_ bw bs x y) (fC w h T (fun a b => D a b || (decide (a = i) && decide (b = j))) S st) (fC w h T (fun a b => D a b || (decide (a = i) && decide (b = j))) F nm) (fP w h T (fun a b => D a b || (decide (a = i) && decide (b = j))) P bx by_ bw x y) (fO w h T F O (fun a b => D a b || (decide (a = i) && decide (b = j))) bx by_ bw x y) := by
  have e : ∀ a b, ((D a b || (decide (a = i) && decide (b = j))) && sMi w h T a b) = (D a b && sMi w h T a b) := fun a b => f_skip (A := T) hm a b
  have h1 : fT w h T (fun a b => D a b || (decide (a = i) && decide (b = j))) bx by_ bw bs x y = fT w h T D bx by_ bw bs x y := by funext a b; unfold fT; rw [e]
  have h2 : ∀ (B : Int → Int → Int) (v : Int), fC w h T (fun a b => D a b || (decide (a = i) && decide (b = j))) B v = fC w h T D B v := by intro B v; funext a b; unfold fC; rw [e]
  have h3 : fP w h T (fun a b => D a b || (decide (a = i) && decide (b = j))) P bx by_ bw x y = fP w h T D P bx by_ bw x y := by funext a b; unfold fP; rw [e]
  have h4 : fO w h T F O (fun a b => D a b || (decide (a = i) && decide (b = j))) bx by_ bw x y = fO w h T F O D bx by_ bw x y := by funext a b; unfold fO; rw [e]
  rw [h1, h2, h2, h3, h4]
  exact H
theorem f_none {w h : Int} {T S F P O : Int → Int → Int} {bx by_ bw bs x y st nm : Int} : fT w h T (fun _ _ => false) bx by_ bw bs x y = T ∧ fC w h T (fun _ _ => false) S st = S ∧ fC w h T (fun _ _ => false) F nm = F ∧ fP w h T (fun _ _ => false) P bx by_ bw x y = P ∧ fO w h T F O (fun _ _ => false) bx by_ bw x y = O := ⟨rfl, rfl, rfl, rfl, rfl⟩
theorem fT_mi {w h : Int} {T : Int → Int → Int} {D : Int → Int → Bool} {bx by_ bw bs x y i j : Int} (hD : D i j = false) : sMi w h (fT w h T D bx by_ bw bs x y) i j = sMi w h T i j := by
  unfold sMi fT
  rw [hD, Bool.false_and]
  rfl
