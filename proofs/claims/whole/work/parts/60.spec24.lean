/-! fills depend on who filled only by whether -/
def eX (X Y : aX) : Prop := X.1 = Y.1 ∧ X.2.1 = Y.2.1 ∧ (∀ i j, 0 < X.2.2.1 i j ↔ 0 < Y.2.2.1 i j) ∧ X.2.2.2.1 = Y.2.2.2.1 ∧ X.2.2.2.2.1 = Y.2.2.2.2.1
def xNf (X : aX) : Int := X.2.2.2.2.2.1
def xDf (X : aX) : Int := X.2.2.2.2.2.2.1
theorem eX.rf (X : aX) : eX X X := ⟨rfl, rfl, fun _ _ => Iff.rfl, rfl, rfl⟩
theorem uOk_sim {w h : Int} {T F F' : Int → Int → Int} (hF : ∀ i j, 0 < F i j ↔ 0 < F' i j) (fo i j : Int) : uOk w h T F fo i j = uOk w h T F' fo i j := by
  unfold uOk
  rw [show decide (0 < F i j) = decide (0 < F' i j) from decide_eq_decide.mpr (hF i j)]
theorem sWs_sim {w h : Int} {T F F' : Int → Int → Int} (hF : ∀ i j, 0 < F i j ↔ 0 < F' i j) (s fo u v : Int) : sWs w h T F s fo u v = sWs w h T F' s fo u v := by
  unfold sWs
  simp only [uOk_sim hF]
theorem sQ_sim {w h : Int} {T S F F' F2 F2' P2 : Int → Int → Int} (hF : ∀ i j, 0 < F i j ↔ 0 < F' i j) {gd : Bool} (hF2 : gd = true → ∀ i j, 0 < F2 i j ↔ 0 < F2' i j) (s re fo tu we sh x y : Int) : sQ w h T S F s re fo tu we sh gd F2 P2 x y = sQ w h T S F' s re fo tu we sh gd F2' P2 x y := by
  have hW := sWs_sim (w := w) (h := h) (T := T) hF
  unfold sQ
  split
  · rename_i hg
    unfold sGu sSe scF sgF
    simp only [hW, hF2 hg]
  · unfold sSe scF
    simp only [hW]
theorem fS_sim {w h s re fo ra tu we sh : Int} {gd : Bool} {F2 F2' P2 : Int → Int → Int} (hF2 : gd = true → ∀ i j, 0 < F2 i j ↔ 0 < F2' i j) {X Y : aX} (hX : eX X Y) (h1 : 0 ≤ xNf X) (h2 : 0 ≤ xNf Y) : (fS w h s re fo ra tu we sh gd F2 P2 X = none ∧ fS w h s re fo ra tu we sh gd F2' P2 Y = none) ∨ ∃ X' Y', fS w h s re fo ra tu we sh gd F2 P2 X = some X' ∧ fS w h s re fo ra tu we sh gd F2' P2 Y = some Y' ∧ eX X' Y' ∧ xNf X' = xNf X + 1 ∧ xNf Y' = xNf Y + 1 ∧ xDf X' - xDf X = xDf Y' - xDf Y := by
  obtain ⟨T, S, F, P, O, nf, df, nl, lg⟩ := X
  obtain ⟨T', S', F', P', O', nf', df', nl', lg'⟩ := Y
  obtain ⟨e1, e2, e3, e4, e5⟩ := hX
  simp only [xNf] at e1 e2 e3 e4 e5 h1 h2
  subst e1
  subst e2
  subst e4
  subst e5
  have hq := sQ_sim (w := w) (h := h) (T := T) (S := S) (P2 := P2) e3 (gd := gd) hF2 s re fo tu we sh (sNx w h T S s ra).1 (sNx w h T S s ra).2.1
  unfold fS
  simp only
  rw [hq]
  split
  · exact Or.inl ⟨rfl, rfl⟩
  · split
    · exact Or.inl ⟨rfl, rfl⟩
    · refine Or.inr ⟨_, _, rfl, rfl, ?_⟩
      obtain ⟨q, hqq⟩ : ∃ q, q = sQ w h T S F' s re fo tu we sh gd F2' P2 (sNx w h T S s ra).1 (sNx w h T S s ra).2.1 := ⟨_, rfl⟩
      rw [← hqq]
      obtain ⟨bx, by_, bw, bs, bd, so, sk, sp, lo⟩ := q
      refine ⟨⟨rfl, rfl, fun i j => ?_, rfl, ?_⟩, rfl, rfl, ?_⟩
      · show 0 < fC w h T _ F (nf + 1) i j ↔ 0 < fC w h T _ F' (nf' + 1) i j
        unfold fC
        split
        · constructor <;> intro <;> omega
        · exact e3 i j
      · show fO w h T F O _ bx by_ bw _ _ = fO w h T F' O _ bx by_ bw _ _
        unfold fO
        simp only [e3]
      · show df + bd - df = df' + bd - df'
        omega
theorem fIt_sim {w h s re fo ra tu we sh : Int} {gd : Bool} {F2 F2' P2 : Int → Int → Int} (hF2 : gd = true → ∀ i j, 0 < F2 i j ↔ 0 < F2' i j) : ∀ (n : Nat) {X Y : aX}, eX X Y → 0 ≤ xNf X → 0 ≤ xNf Y → (fIt (fS w h s re fo ra tu we sh gd F2 P2) n X).1 = (fIt (fS w h s re fo ra tu we sh gd F2' P2) n Y).1 ∧ eX (fIt (fS w h s re fo ra tu we sh gd F2 P2) n X).2 (fIt (fS w h s re fo ra tu we sh gd F2' P2) n Y).2 ∧ xDf (fIt (fS w h s re fo ra tu we sh gd F2 P2) n X).2 - xDf X = xDf (fIt (fS w h s re fo ra tu we sh gd F2' P2) n Y).2 - xDf Y
  | 0, X, Y, hX, _, _ => ⟨rfl, hX, by show xDf X - xDf X = xDf Y - xDf Y; omega⟩
  | n + 1, X, Y, hX, h1, h2 => by
    rcases fS_sim (w := w) (h := h) (s := s) (re := re) (fo := fo) (ra := ra) (tu := tu) (we := we) (sh := sh) (gd := gd) (P2 := P2) hF2 hX h1 h2 with ⟨a, b⟩ | ⟨X', Y', a, b, c, d, e, f⟩
    · rw [fIt_none a, fIt_none b]
      exact ⟨rfl, hX, by simp only; omega⟩
    · rw [fIt_some a, fIt_some b]
      obtain ⟨i1, i2, i3⟩ := fIt_sim hF2 n c (by omega) (by omega)
      exact ⟨by simp only; rw [i1], i2, by simp only; omega⟩
theorem fS_eq {w h s re fo ra tu we sh : Int} {gd : Bool} {F2 F2' P2 : Int → Int → Int} (hF2 : gd = true → ∀ i j, 0 < F2 i j ↔ 0 < F2' i j) : fS w h s re fo ra tu we sh gd F2 P2 = fS w h s re fo ra tu we sh gd F2' P2 := by
  funext X
  obtain ⟨T, S, F, P, O, nf, df, nl, lg⟩ := X
  unfold fS
  simp only
  rw [sQ_sim (fun _ _ => Iff.rfl) hF2]
theorem fS_no {w h s re fo ra tu we sh : Int} {F2 F2' P2 P2' : Int → Int → Int} : fS w h s re fo ra tu we sh false F2 P2 = fS w h s re fo ra tu we sh false F2' P2' := rfl
/-- how many halves there are; the guided run -/
def nHf (w h lv : Int) : Int := if 1 ≤ lv ∧ 3 ≤ (w + 1) / 2 ∧ 3 ≤ (h + 1) / 2 then (if 2 ≤ lv ∧ 3 ≤ ((w + 1) / 2 + 1) / 2 ∧ 3 ≤ ((h + 1) / 2 + 1) / 2 then 2 else 1) else 0
def g2 (w h s re fo ra tu we sh : Int) (T : Int → Int → Int) : aX := (fIt (fS (((w + 1) / 2 + 1) / 2) (((h + 1) / 2 + 1) / 2) s re fo ra tu we sh false (fun _ _ => 0) (fun _ _ => 0)) 400 (hX ((w + 1) / 2) ((h + 1) / 2) (sHf w h T) (fun _ _ => 0))).2
def g1 (w h s re fo ra tu we sh : Int) (T : Int → Int → Int) (two : Bool) : aX := (fIt (fS ((w + 1) / 2) ((h + 1) / 2) s re fo ra tu we sh two (g2 w h s re fo ra tu we sh T).2.2.1 (g2 w h s re fo ra tu we sh T).2.2.2.1) 400 (hX w h T (fun _ _ => 0))).2
def gR (w h s re fo ra tu we sh lv : Int) (most : Nat) (X : aX) : Nat × aX := fIt (fS w h s re fo ra tu we sh (decide (1 ≤ nHf w h lv)) (g1 w h s re fo ra tu we sh X.1 (decide (nHf w h lv = 2))).2.2.1 (g1 w h s re fo ra tu we sh X.1 (decide (nHf w h lv = 2))).2.2.2.1) most X
theorem gR_0 {w h s re fo ra tu we sh : Int} {most : Nat} {X : aX} {F2 P2 : Int → Int → Int} : gR w h s re fo ra tu we sh 0 most X = fIt (fS w h s re fo ra tu we sh false F2 P2) most X := rfl
theorem nHf_012 (w h lv : Int) : nHf w h lv = 0 ∨ nHf w h lv = 1 ∨ nHf w h lv = 2 := by
  unfold nHf
  split
  · split <;> simp
  · simp
def fG (k j : Nat) (σ σ' : yM) : Prop := ∀ c : Nat, (c < 120 ∨ 145 < c) → (c < k ∨ k + 5 < c) → (c < j ∨ j + 1 < c) → σ' c = σ c
theorem fF.nf {k j : Nat} {σ σ' : yM} (h : fF k j σ σ') : fG k j σ σ' := fun c a b d => h c (by omega) b d
