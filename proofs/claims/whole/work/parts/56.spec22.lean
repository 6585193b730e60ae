/-! journals, copies, halves in the class's memory -/
def rJ (σ : yM) (k : Nat) (nf df nl : Int) (lg : Int → Int → Int) : Prop := σ k 0 = nf ∧ σ k 1 = df ∧ nl = min nf 30 ∧ (0 ≤ nf ∧ nf < 1000000000) ∧ ∀ i c : Int, 0 ≤ i → i < nl → 0 ≤ c → c < 9 → σ (k + 1) ((nf - 1 - i) % 30 * 9 + c) = lg i c
theorem rJ.fr {σ σ' : yM} {k : Nat} {nf df nl : Int} {lg : Int → Int → Int} (H : rJ σ k nf df nl lg) (e0 : σ' k = σ k) (e1 : σ' (k + 1) = σ (k + 1)) : rJ σ' k nf df nl lg := by
  unfold rJ at *
  rw [e0, e1]
  exact H
theorem rJ.fc {a b : Nat} {σ σ' : yM} {k : Nat} {nf df nl : Int} {lg : Int → Int → Int} (H : rJ σ k nf df nl lg) (hk : k + 1 < a ∨ b < k) (e : fc a b σ σ') : rJ σ' k nf df nl lg := H.fr (e k (by omega)) (e (k + 1) (by omega))
theorem rJ.zero {σ : yM} {k : Nat} {lg : Int → Int → Int} (h0 : σ k 0 = 0) (h1 : σ k 1 = 0) : rJ σ k 0 0 0 lg := ⟨h0, h1, by decide, by decide, fun i c a b => by omega⟩
theorem y_ad {a k : Int} : (a = a + k) ↔ k = 0 := by omega
/-- the ways that were used -/
def sWy (nl : Int) (lg : Int → Int → Int) (way : Int) : Int := fr (fun q i => q + bi (decide (lg i 7 = way))) 0 nl.toNat 0
theorem ycp_at {σ : yM} {a b : Nat} {c j : Int} (h : 0 ≤ j ∧ j < c) : ycp σ a b c b j = σ a j := by
  unfold ycp
  rw [if_pos rfl, if_pos h]
theorem ycp_n {σ : yM} {a b k : Nat} {c : Int} (h : k ≠ b) : ycp σ a b c k = σ k := by
  unfold ycp
  rw [if_neg h]
theorem y_inj {w a b i j : Int} (ha : 0 ≤ a ∧ a < w) (hi : 0 ≤ i ∧ i < w) (e : b * w + a = j * w + i) : a = i ∧ b = j := by
  have h1 := y_dm (y := b) ha
  have h2 := y_dm (y := j) hi
  rw [e] at h1
  exact ⟨h1.1.symm.trans h2.1, h1.2.symm.trans h2.2⟩
theorem cI_pl {w u v : Int} (hu : 0 ≤ u ∧ u < 20) (hv : 0 ≤ v) : cI w (20 * v + u) = v * w + u := by
  unfold cI
  rw [if_neg (by omega), show (20 * v + u) / 20 = v by omega, show (20 * v + u) % 20 = u by omega]
theorem aOk_new {w h : Int} {N : Int → Int → Int} (hw : (1 ≤ w ∧ w ≤ 20) ∧ (1 ≤ h ∧ h ≤ 20)) (hN : ∀ x y : Int, 0 ≤ x → x < w → 0 ≤ y → y < h → -1 ≤ N x y ∧ N x y ≤ 255) : aOk w h N (hS_ N) (fun _ _ => 0) (fun _ _ => -1) (fun _ _ => -1) := by
  refine ⟨⟨hw.1.1, hw.1.2, hw.2.1, hw.2.2⟩, fun x y a b c d => ⟨hN x y a b c d, ?_, ⟨by simp, by simp⟩, Or.inl rfl, Or.inl rfl, by simp, by simp⟩⟩
  unfold hS_
  split <;> decide
/-- what a loop over all dots has given -/
def rN (τ : yM) (k : Nat) (w : Int) (N : Int → Int → Int) (i : Int) : Prop := ∀ q : Int, 0 ≤ q → q < i → τ (k + 1) q = N (q % w) (q / w) ∧ τ (k + 2) q = hS_ N (q % w) (q / w) ∧ τ (k + 3) q = 0 ∧ τ (k + 4) q = -1 ∧ τ (k + 5) q = -1
theorem rN.mk {τ : yM} {k : Nat} {w h : Int} {N : Int → Int → Int} (hw : (1 ≤ w ∧ w ≤ 20) ∧ (1 ≤ h ∧ h ≤ 20)) (hN : ∀ x y : Int, 0 ≤ x → x < w → 0 ≤ y → y < h → -1 ≤ N x y ∧ N x y ≤ 255) (h0 : τ k 0 = w) (h1 : τ k 1 = h) (H : rN τ k w N (w * h)) : rC τ k w h N (hS_ N) (fun _ _ => 0) (fun _ _ => -1) (fun _ _ => -1) := by
  refine ⟨aOk_new hw hN, h0, h1, fun x y a b c d => ?_⟩
  have e := y_ix hw.1 hw.2 ⟨a, b⟩ ⟨c, d⟩
  have m := y_dm (y := y) ⟨a, b⟩
  have z := H (y * w + x) e.1 e.2.1
  rw [m.1, m.2] at z
  exact z
theorem gv_at {σ : yM} {k : Nat} {i t : Int} : gv σ k i t (k + 1) i = t ∧ gv σ k i t (k + 2) i = (if t = -1 then 0 else 1000) ∧ gv σ k i t (k + 3) i = 0 ∧ gv σ k i t (k + 4) i = -1 ∧ gv σ k i t (k + 5) i = -1 := by
  unfold gv
  refine ⟨?_, ?_, ?_, ?_, ?_⟩
  · rw [yset_o (by omega), yset_o (by omega), yset_o (by omega), yset_o (by omega), yset_e]
  · rw [yset_o (by omega), yset_o (by omega), yset_o (by omega), yset_e]
  · rw [yset_o (by omega), yset_o (by omega), yset_e]
  · rw [yset_o (by omega), yset_e]
  · rw [yset_e]
theorem gv_o {σ : yM} {k : Nat} {i t : Int} {c : Nat} {j : Int} (h : (c < k + 1 ∨ k + 5 < c) ∨ j ≠ i) : gv σ k i t c j = σ c j := by
  unfold gv
  rw [yset_o (by omega), yset_o (by omega), yset_o (by omega), yset_o (by omega), yset_o (by omega)]
theorem gv_fc {σ τ : yM} {k : Nat} {i t : Int} (h : fc k (k + 5) σ τ) : fc k (k + 5) σ (gv τ k i t) := fun c q => by
  rw [← h c q]
  exact funext fun j => gv_o (Or.inl (by omega))
theorem rN.up {τ : yM} {k : Nat} {w i : Int} {N : Int → Int → Int} (H : rN τ k w N i) : rN (gv τ k i (N (i % w) (i / w))) k w N (i + 1) := fun q h0 h1 => by
  by_cases e : q = i
  · subst e
    exact gv_at
  · rw [gv_o (Or.inr e), gv_o (Or.inr e), gv_o (Or.inr e), gv_o (Or.inr e), gv_o (Or.inr e)]
    exact H q h0 (by omega)
/-- one dot more is filled in, in the class's memory -/
theorem rC_fill1 {σ : yM} {k : Nat} {w h : Int} {T S F P O : Int → Int → Int} {s bx by_ bw bs x y st nm i j : Int} {D : Int → Int → Bool} (H : rC σ k w h (fT w h T D bx by_ bw bs x y) (fC w h T D S st) (fC w h T D F nm) (fP w h T D P bx by_ bw x y) (fO w h T F O D bx by_ bw x y)) (A : aOk w h T S F P O) (hpl : sPl w h T s bx by_) (hin : inP s x y i j = true) (hm : sMi w h T i j = true) (hD : ∀ a b, D a b = true → inP s x y a b = true) (hst : 0 ≤ st ∧ st ≤ 1000) (hn : 0 < nm ∧ nm < 2147483648) {p : Int} (hp : p = (by_ + wY bw (i - x) (j - y)) * w + (bx + wX bw (i - x) (j - y))) :
    rC (fI σ k (j * w + i) (max 0 (min 255 (σ (k + 1) p + bs))) st p nm) k w h (fT w h T (fun a b => D a b || (decide (a = i) && decide (b = j))) bx by_ bw bs x y) (fC w h T (fun a b => D a b || (decide (a = i) && decide (b = j))) S st) (fC w h T (fun a b => D a b || (decide (a = i) && decide (b = j))) F nm) (fP w h T (fun a b => D a b || (decide (a = i) && decide (b = j))) P bx by_ bw x y) (fO w h T F O (fun a b => D a b || (decide (a = i) && decide (b = j))) bx by_ bw x y) := by
  have hij : sIn w h i j = true := by simp only [sMi, Bool.and_eq_true] at hm; exact hm.1
  have hij2 := sIn_iff.mp hij
  have hpp := inP_iff.mp hin
  have hk := hpl.at (way := bw) (x := x) (y := y) (i := i) (j := j) hpp.1 hpp.2
  have hki := sIn_iff.mp (sKn_in hk)
  have hpm := H.2.2.2 _ _ hki.1 hki.2.1 hki.2.2.1 hki.2.2.2
  have hkm := fT_known (D := D) (bx := bx) (by_ := by_) (bw := bw) (bs := bs) (x := x) (y := y) hk
  have hA1 := A.1
  rw [← hp] at hpm
  refine ⟨aOk_fill A (fun a b hq => ?_) hpl hst hn, ?_, ?_, fun a b h1 h2 h3 h4 => ?_⟩
  · rw [Bool.or_eq_true] at hq
    rcases hq with hq | hq
    · exact hD a b hq
    · simp only [Bool.and_eq_true, decide_eq_true_eq] at hq
      rw [hq.1, hq.2]
      exact hin
  · unfold fI
    repeat rw [yset_n (by omega)]
    exact H.2.1
  · unfold fI
    repeat rw [yset_n (by omega)]
    exact H.2.2.1
  · have Hab := H.2.2.2 a b h1 h2 h3 h4
    by_cases hab : a = i ∧ b = j
    · obtain ⟨rfl, rfl⟩ := hab
      unfold fT at hpm
      unfold fC at hpm
      unfold fP at hpm
      unfold fO at hpm
      rw [hkm] at hpm
      simp only [Bool.and_false, Bool.false_eq_true, if_false] at hpm
      unfold fI fT fC fP fO
      simp only [decide_true, Bool.and_true, Bool.or_true, hm, if_true]
      rw [yset_o (by omega), yset_o (by omega), yset_o (by omega), yset_o (by omega), yset_e, yset_o (by omega), yset_o (by omega), yset_o (by omega), yset_e, yset_o (by omega), yset_o (by omega), yset_e, yset_o (by omega), yset_e, yset_e]
      refine ⟨by rw [hpm.1], rfl, rfl, ?_, ?_⟩
      · unfold fPl
        rw [cI_pl (by omega) (by omega)]
        exact hp
      · rw [hpm.2.2.1, hpm.2.2.2.2]
        split
        · rfl
        · unfold fPl
          rw [cI_pl (by omega) (by omega)]
          exact hp
    · have hne2 : b * w + a ≠ j * w + i := fun e => hab (y_inj ⟨h1, h2⟩ ⟨hij2.1, hij2.2.1⟩ e)
      have hd : (D a b || (decide (a = i) && decide (b = j))) = D a b := by
        have : (decide (a = i) && decide (b = j)) = false := by
          simp
          omega
        rw [this, Bool.or_false]
      unfold fT fC fP fO at Hab ⊢
      simp only [hd]
      unfold fI
      simp only [yset_ap, hne2, and_false, if_false]
      exact Hab
theorem rC_skip {σ : yM} {k : Nat} {w h : Int} {T S F P O : Int → Int → Int} {bx by_ bw bs x y st nm i j : Int} {D : Int → Int → Bool} (hm : sMi w h T i j = false) (H : rC σ k w h (fT w h T D bx by_ bw bs x y) (fC w h T D S st) (fC w h T D F nm) (fP w h T D P bx by_ bw x y) (fO w h T F O D bx by_ bw x y)) :
    rC σ k w h (fT w h T (fun a b => D a b || (decide (a = i) && decide (b = j))) bx by_ bw bs x y) (fC w h T (fun a b => D a b || (decide (a = i) && decide (b = j))) S st) (fC w h T (fun a b => D a b || (decide (a = i) && decide (b = j))) F nm) (fP w h T (fun a b => D a b || (decide (a = i) && decide (b = j))) P bx by_ bw x y) (fO w h T F O (fun a b => D a b || (decide (a = i) && decide (b = j))) bx by_ bw x y) := by
  have e : ∀ a b, ((D a b || (decide (a = i) && decide (b = j))) && sMi w h T a b) = (D a b && sMi w h T a b) := fun a b => f_skip (A := T) hm a b
  have h1 : fT w h T (fun a b => D a b || (decide (a = i) && decide (b = j))) bx by_ bw bs x y = fT w h T D bx by_ bw bs x y := by funext a b; unfold fT; rw [e]
  have h2 : ∀ (B : Int → Int → Int) (v : Int), fC w h T (fun a b => D a b || (decide (a = i) && decide (b = j))) B v = fC w h T D B v := by intro B v; funext a b; unfold fC; rw [e]
  have h3 : fP w h T (fun a b => D a b || (decide (a = i) && decide (b = j))) P bx by_ bw x y = fP w h T D P bx by_ bw x y := by funext a b; unfold fP; rw [e]
  have h4 : fO w h T F O (fun a b => D a b || (decide (a = i) && decide (b = j))) bx by_ bw x y = fO w h T F O D bx by_ bw x y := by funext a b; unfold fO; rw [e]
  rw [h1, h2, h2, h3, h4]
  exact H
/-- settings by their numbers -/
def sAl (a v : Int) : Bool := decide (0 ≤ a) && decide (a < 7) && decide (ys 2 a ≤ v) && decide (v ≤ ys 3 a)
def sV (s re fo ra tu we sh a : Int) : Int := if a = 0 then s else if a = 1 then re else if a = 2 then fo else if a = 3 then ra else if a = 4 then tu else if a = 5 then we else sh
theorem ys23 {a : Int} (h : 0 ≤ a ∧ a < 7) : (-10 ≤ ys 2 a ∧ ys 2 a ≤ 100) ∧ (-10 ≤ ys 3 a ∧ ys 3 a ≤ 100) := by
  rcases (show a = 0 ∨ a = 1 ∨ a = 2 ∨ a = 3 ∨ a = 4 ∨ a = 5 ∨ a = 6 by omega) with e | e | e | e | e | e | e <;> rw [e] <;> decide
/-- how many of the front come ahead of place i; the place of the k-th -/
def ahF (L : List (Int × Int)) (i j : Int) : Bool := decide ((gk L i).2 < (gk L j).2) || (decide ((gk L j).2 = (gk L i).2) && decide (j < i))
def sAh (L : List (Int × Int)) (i : Int) : Int := fr (fun c j => c + bi (ahF L i j)) 0 L.length 0
def plF (L : List (Int × Int)) (k q i : Int) : Int := if q = -1 ∧ sAh L i = k then i else q
def sPo (L : List (Int × Int)) (k : Int) : Int := fr (plF L k) 0 L.length (-1)
/-- the least reach of any source -/
def rTo (w ax ay q : Int) : Int := max 1 (max ((q % w - ax).natAbs : Int) ((q / w - ay).natAbs : Int))
def lrF (w h : Int) (T F : Int → Int → Int) (s fo ax ay : Int) (l q : Int) : Int := if sWs w h T F s fo (q % w) (q / w) = true ∧ (l = -1 ∨ rTo w ax ay q < l) then rTo w ax ay q else l
def sLr (w h : Int) (T F : Int → Int → Int) (s fo ax ay : Int) : Int := fr (lrF w h T F s fo ax ay) 0 (w * h).toNat (-1)
