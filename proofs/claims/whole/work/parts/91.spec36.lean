/-! the tape, put -/
def bY (v i : Int) : Int := v % 4294967296 / 2 ^ (24 - 8 * i).toNat % 256
theorem bY_bd (v i : Int) : 0 ≤ bY v i ∧ bY v i ≤ 255 := by unfold bY; omega
def apB (L : Int) (tb : Int → Int) (v : Int) : Int → Int := fun j => if L ≤ j ∧ j < L + 4 then bY v (j - L) else tb j
theorem apB_bd {L v : Int} {tb : Int → Int} (h : ∀ j : Int, 0 ≤ tb j ∧ tb j ≤ 255) (j : Int) : 0 ≤ apB L tb v j ∧ apB L tb v j ≤ 255 := by
  unfold apB
  split
  · exact bY_bd _ _
  · exact h j
def fdB (L : Int) (tb : Int → Int) (a b c d e : Int) : Int → Int := apB (L + 4 + 4 + 4 + 4) (apB (L + 4 + 4 + 4) (apB (L + 4 + 4) (apB (L + 4) (apB L tb a) b) c) d) e
/-- the tape's length and bytes -/
def rTp (σ : yM) (L : Int) (tb : Int → Int) : Prop := σ 1 1 = L ∧ ∀ j : Int, 0 ≤ j → j < L → σ 2 j = tb j
/-- only the tape's length and bytes changed -/
def fTp (σ σ' : yM) : Prop := (∀ c : Nat, c ≠ 1 → c ≠ 2 → σ' c = σ c) ∧ ∀ j : Int, j ≠ 1 → σ' 1 j = σ 1 j
theorem fTp.rf (σ : yM) : fTp σ σ := ⟨fun _ _ _ => rfl, fun _ _ => rfl⟩
theorem fTp.tr {σ σ1 σ2 : yM} (h1 : fTp σ σ1) (h2 : fTp σ1 σ2) : fTp σ σ2 := ⟨fun c a b => (h2.1 c a b).trans (h1.1 c a b), fun j a => (h2.2 j a).trans (h1.2 j a)⟩
theorem cV_tape {σ σ' : yM} {w h : Int} {X : aX} {sv : Int × Int × Int × Int × Int × Int × Int} {H : List aX} {ht : Bool} {K : Int → Int → Int} {tl tl' : Int} {tb tb' : Int → Int} {fa r1 r2 : Int} (V : cV σ (w, h, X, sv, H, ht, K, tl, tb, fa, r1, r2)) (f : fTp σ σ') (hT : rTp σ' tl' tb') : cV σ' (w, h, X, sv, H, ht, K, tl', tb', fa, r1, r2) := by
  obtain ⟨s, re, fo, ra, tu, we, sh⟩ := sv
  obtain ⟨v1, v2, v3, ⟨v4, v5⟩, ⟨v6, v7⟩, v8, v9, v10, v11⟩ := V
  have e : ∀ c : Nat, c ≠ 1 → c ≠ 2 → σ' c = σ c := f.1
  exact ⟨v1.fr (fun c a b => e c (by omega) (by omega)) (fun c a b => e c (by omega) (by omega)), v2.fr (e 4 (by omega) (by omega)), v3.fr (fun c a b => e c (by omega) (by omega)), ⟨by rw [e 0 (by omega) (by omega)]; exact v4, fun q x y a b c d => by rw [e 115 (by omega) (by omega)]; exact v5 q x y a b c d⟩, hT, (f.2 5 (by omega)).trans v8, by rw [e 0 (by omega) (by omega)]; exact v9, by rw [e 0 (by omega) (by omega)]; exact v10, v11.fr (e 127 (by omega) (by omega))⟩
