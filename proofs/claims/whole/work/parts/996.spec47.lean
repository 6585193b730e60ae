/-! runs on the reference's side -/
def gY (σ σ' : yM) : Prop := ∀ (c : Nat) (j : Int), c < 172 → (c < 158 ∨ 160 < c) → c ≠ 163 → c ≠ 164 → ((c ≠ 161 ∧ c ≠ 162) ∨ j = 0) → (c ≠ 155 ∨ j < 8 ∨ j = 9 ∨ j = 10 ∨ 26 < j) → σ' c j = σ c j
theorem gY.rf (σ : yM) : gY σ σ := fun _ _ _ _ _ _ _ _ => rfl
theorem gY.tr {a b c : yM} (h1 : gY a b) (h2 : gY b c) : gY a c := fun k j p q r s t u => (h2 k j p q r s t u).trans (h1 k j p q r s t u)
theorem fY.g {σ σ' : yM} (h : fY σ σ') : gY σ σ' := fun c j p q _ _ t u => h c j p q t (by omega)
theorem fc.g {a b : Nat} {σ σ' : yM} (h : fc a b σ σ') (hab : (a = 163 ∧ b = 163) ∨ (a = 158 ∧ b = 158)) : gY σ σ' := fun c j p q r s _ _ => by rw [h c (by omega)]
theorem kpR.g {σ σ' : yM} {U : Int} (h : kpR σ σ' U) : gY σ σ' := fun c j p q r s t u => h.1.1 c j s (by omega)
theorem gY.cell {σ σ' : yM} (h : gY σ σ') {c : Nat} (h1 : c < 155 ∨ c = 156 ∨ c = 157 ∨ 164 < c) (h2 : c < 172) : σ' c = σ c := funext fun j => h c j h2 (by omega) (by omega) (by omega) (by omega) (by omega)
theorem gY.j5 {σ σ' : yM} (h : gY σ σ') {j : Int} (h1 : j < 8 ∨ j = 9 ∨ j = 10 ∨ 26 < j) : σ' 155 j = σ 155 j := h 155 j (by omega) (by omega) (by omega) (by omega) (by omega) (by omega)
theorem mO_run {σ σ0 σ' : yM} {w h : Int} {X X' : aX} {sv : Int × Int × Int × Int × Int × Int × Int} {H H' : List aX} {ht : Bool} {K : Int → Int → Int} {tl : Int} {tb : Int → Int} {fa r1 r2 : Int} (V : mO σ σ0 (w, h, X, sv, H, ht, K, tl, tb, fa, r1, r2) 0) (e : gY σ0 σ') (hX : rX σ' 0 w h X') (hH : mH σ' w h H') : mO σ σ' (w, h, X', sv, H', ht, K, tl, tb, fa, r1, r2) 0 := by
  have v := V.2.2
  obtain ⟨s, re, fo, ra, tu, we, sh⟩ := sv
  obtain ⟨v1, v2, v3, ⟨v4, v5⟩, -⟩ := v
  exact mO_gen V (fun c hc => e.cell (by omega) (by omega)) (e.j5 (by omega)) hX (e.cell (by omega) (by omega)) hH ⟨(e.j5 (by omega)).trans v4, fun q x y a b c d => by rw [e.cell (by omega) (by omega)]; exact v5 q x y a b c d⟩ (e.j5 (by omega)) (e.cell (by omega) (by omega)) (e.j5 (by omega)) (e.cell (by omega) (by omega))
theorem rX.fZ {z z' : Nat} {σ σ' : yM} {w h : Int} {X : aX} (H : rX σ z' w h X) (hz : z < 3) (hz' : z' < 3) (hne : z' ≠ z) (e : fZ z σ σ') : rX σ' z' w h X := by
  obtain ⟨T, S, F, P, O, nf, df, nl, lg⟩ := X
  refine ⟨H.1.fZ hz hz' hne e, ?_⟩
  have h2 := H.2
  unfold rL at *
  rw [e.cell (by omega) (by omega) (by omega)]
  exact h2
/-- halves() on the reference's side leaves layer 0 -/
def fV (z : Nat) (σ σ' : yM) : Prop := ∀ (c : Nat) (j : Int), c ≠ 158 + (z + 1) → ((c ≠ 161 ∧ c ≠ 162) ∨ j ≠ (z : Int) + 1) → σ' c j = σ c j
theorem fV.c {z : Nat} {σ σ' : yM} (e : fV z σ σ') {c : Nat} (h1 : c ≠ 158 + (z + 1)) (h2 : c ≠ 161) (h3 : c ≠ 162) : σ' c = σ c := funext fun j => e c j h1 (Or.inl ⟨h2, h3⟩)
theorem fV.y {z : Nat} {σ σ' : yM} (hz : z < 2) (e : fV z σ σ') : fY σ σ' := fun c j a b d _ => e c j (by omega) (by omega)
theorem rX.fV {z z' : Nat} {σ σ' : yM} {w h : Int} {X : aX} (H : rX σ z' w h X) (hz : z < 2) (hz' : z' < 3) (hne : z' ≠ z + 1) (e : fV z σ σ') : rX σ' z' w h X := by
  obtain ⟨T, S, F, P, O, nf, df, nl, lg⟩ := X
  refine ⟨H.1.fr' (e 161 _ (by omega) (by omega)) (e 162 _ (by omega) (by omega)) (fun i _ _ => by rw [e.c (by omega) (by omega) (by omega)]), ?_⟩
  have h2 := H.2
  unfold rL at *
  rw [e.c (by omega) (by omega) (by omega)]
  exact h2
theorem rS.fV {z : Nat} {σ σ' : yM} {s re fo ra tu we sh : Int} (H : rS σ 166 s re fo ra tu we sh) (hz : z < 2) (e : fV z σ σ') : rS σ' 166 s re fo ra tu we sh := H.fr (e.c (by omega) (by omega) (by omega))
theorem gR_00 {w h s re fo ra tu we sh lv : Int} {most : Nat} {X : aX} {F2 P2 : Int → Int → Int} (e : nHf w h lv = 0) : gR w h s re fo ra tu we sh lv most X = fIt (fS w h s re fo ra tu we sh false F2 P2) most X := by
  unfold gR
  rw [e]
  rfl
theorem gR_11 {w h s re fo ra tu we sh lv : Int} {most : Nat} {X : aX} (e : nHf w h lv = 1) : gR w h s re fo ra tu we sh lv most X = fIt (fS w h s re fo ra tu we sh true (g1 w h s re fo ra tu we sh X.1 false).2.2.1 (g1 w h s re fo ra tu we sh X.1 false).2.2.2.1) most X := by
  unfold gR
  rw [e]
  rfl
theorem gR_22 {w h s re fo ra tu we sh lv : Int} {most : Nat} {X : aX} (e : nHf w h lv = 2) : gR w h s re fo ra tu we sh lv most X = fIt (fS w h s re fo ra tu we sh true (g1 w h s re fo ra tu we sh X.1 true).2.2.1 (g1 w h s re fo ra tu we sh X.1 true).2.2.2.1) most X := by
  unfold gR
  rw [e]
  rfl
/-- a run from the picture as it is, against the trial -/
theorem gR_sim {w h s re fo ra tu we sh lv : Int} {n : Nat} {T S F P O : Int → Int → Int} {nf df nl : Int} {lg : Int → Int → Int} (h0 : 0 ≤ nf) : (gR w h s re fo ra tu we sh lv n (T, S, F, P, O, nf, df, nl, lg)).1 = (gR w h s re fo ra tu we sh lv n (x00 T S F P O)).1 ∧ eX (gR w h s re fo ra tu we sh lv n (T, S, F, P, O, nf, df, nl, lg)).2 (gR w h s re fo ra tu we sh lv n (x00 T S F P O)).2 ∧ xDf (gR w h s re fo ra tu we sh lv n (T, S, F, P, O, nf, df, nl, lg)).2 - df = xDf (gR w h s re fo ra tu we sh lv n (x00 T S F P O)).2 ∧ xNf (gR w h s re fo ra tu we sh lv n (x00 T S F P O)).2 = ((gR w h s re fo ra tu we sh lv n (T, S, F, P, O, nf, df, nl, lg)).1 : Int) := by
  have e1 : gR w h s re fo ra tu we sh lv n (T, S, F, P, O, nf, df, nl, lg) = fIt (fS w h s re fo ra tu we sh (decide (1 ≤ nHf w h lv)) (g1 w h s re fo ra tu we sh T (decide (nHf w h lv = 2))).2.2.1 (g1 w h s re fo ra tu we sh T (decide (nHf w h lv = 2))).2.2.2.1) n (T, S, F, P, O, nf, df, nl, lg) := rfl
  have e2 : gR w h s re fo ra tu we sh lv n (x00 T S F P O) = fIt (fS w h s re fo ra tu we sh (decide (1 ≤ nHf w h lv)) (g1 w h s re fo ra tu we sh T (decide (nHf w h lv = 2))).2.2.1 (g1 w h s re fo ra tu we sh T (decide (nHf w h lv = 2))).2.2.2.1) n (x00 T S F P O) := rfl
  rw [e1, e2]
  have h1 := fIt_sim (w := w) (h := h) (s := s) (re := re) (fo := fo) (ra := ra) (tu := tu) (we := we) (sh := sh) (gd := decide (1 ≤ nHf w h lv)) (F2 := (g1 w h s re fo ra tu we sh T (decide (nHf w h lv = 2))).2.2.1) (P2 := (g1 w h s re fo ra tu we sh T (decide (nHf w h lv = 2))).2.2.2.1) (fun _ _ _ => Iff.rfl) n (X := (T, S, F, P, O, nf, df, nl, lg)) (Y := x00 T S F P O) ⟨rfl, rfl, fun _ _ => Iff.rfl, rfl, rfl⟩ h0 (by show (0 : Int) ≤ 0; omega)
  have h2 := (fIt_nf (w := w) (h := h) (s := s) (re := re) (fo := fo) (ra := ra) (tu := tu) (we := we) (sh := sh) (gd := decide (1 ≤ nHf w h lv)) (F2 := (g1 w h s re fo ra tu we sh T (decide (nHf w h lv = 2))).2.2.1) (P2 := (g1 w h s re fo ra tu we sh T (decide (nHf w h lv = 2))).2.2.2.1) n (x00 T S F P O)).1
  obtain ⟨A, hA⟩ : ∃ A, A = fIt (fS w h s re fo ra tu we sh (decide (1 ≤ nHf w h lv)) (g1 w h s re fo ra tu we sh T (decide (nHf w h lv = 2))).2.2.1 (g1 w h s re fo ra tu we sh T (decide (nHf w h lv = 2))).2.2.2.1) n (T, S, F, P, O, nf, df, nl, lg) := ⟨_, rfl⟩
  obtain ⟨B, hB⟩ : ∃ B, B = fIt (fS w h s re fo ra tu we sh (decide (1 ≤ nHf w h lv)) (g1 w h s re fo ra tu we sh T (decide (nHf w h lv = 2))).2.2.1 (g1 w h s re fo ra tu we sh T (decide (nHf w h lv = 2))).2.2.2.1) n (x00 T S F P O) := ⟨_, rfl⟩
  rw [← hA, ← hB] at h1
  rw [← hB] at h2
  rw [← hA, ← hB]
  have h3 : xDf A.2 - df = xDf B.2 - 0 := h1.2.2
  have h4 : xNf B.2 = 0 + (B.1 : Int) := h2
  refine ⟨h1.1, h1.2.1, by omega, by rw [h1.1]; omega⟩
theorem sFw_sim {w h : Int} {T F F' K : Int → Int → Int} (hF : ∀ i j, 0 < F i j ↔ 0 < F' i j) : sFw w h T F K = sFw w h T F' K := by
  unfold sFw
  have : flF T F K = flF T F' K := by
    funext q x y
    unfold flF
    simp only [hF]
  rw [this]
theorem sLs_sim {w h : Int} {S F F' : Int → Int → Int} (hF : ∀ i j, 0 < F i j ↔ 0 < F' i j) : sLs w h S F = sLs w h S F' := by
  unfold sLs
  have : lsF S F = lsF S F' := by
    funext q x y
    unfold lsF
    simp only [hF]
  rw [this]
theorem rX.kp {σ σ' : yM} {w h U : Int} {X : aX} (H : rX σ 0 w h X) (k : kpR σ σ' U) : rX σ' 0 w h X := H.fr0 (k.c (by omega) (by omega)) (by rw [k.c (by omega) (by omega)]) (by rw [k.c (by omega) (by omega)])
