/-! the reference's publics: what they leave -/
theorem mF.rf (σ : yM) : mF σ σ := fun _ _ => rfl
theorem mF.tr {a b c : yM} (h1 : mF a b) (h2 : mF b c) : mF a c := fun k hk => (h2 k hk).trans (h1 k hk)
theorem mF.st {σ σ' : yM} {c : Nat} {j v : Int} (h : mF σ σ') (hc : 155 ≤ c ∧ c ≤ 170) : mF σ (yset σ' c j v) := fun k hk => by rw [yset_n (by omega)]; exact h k hk
/-- the reference stands at A, with that code thrown -/
def mO (σ σ' : yM) (A : aA) (cd : Int) : Prop := mF σ σ' ∧ σ' 155 0 = cd ∧ mV σ' A
theorem mO.sc {σ σ1 σ2 : yM} {A : aA} {cd : Int} (H : mO σ σ1 A cd) (hs : mS σ1 σ2) (hf : mF σ1 σ2) (ht : σ2 155 0 = σ1 155 0) : mO σ σ2 A cd := ⟨H.1.tr hf, ht.trans H.2.1, H.2.2.fr hs⟩
theorem mV.t0 {σ σ0 : yM} {A : aA} (V : mV σ A) (e : σ0 = yset σ 155 0 0) : mO σ σ0 A 0 := by
  subst e
  refine ⟨(mF.rf σ).st (by omega), yset_e _ _ _ _, V.fr (fun c j h => yset_o (by omega))⟩
theorem mO.fR {lo hi : Int} {σ σ1 σ2 : yM} {A : aA} {cd : Int} (H : mO σ σ1 A cd) (e : fR lo hi σ1 σ2) (h1 : 11 ≤ lo) (h2 : hi ≤ 26) : mO σ σ2 A cd := H.sc (fun c j h => e c j (by omega)) (fun c h => e.cell (by omega)) (e 155 0 (by omega))
theorem mO.fQ {σ σ1 σ2 : yM} {A : aA} {cd : Int} (H : mO σ σ1 A cd) (e : fQ σ1 σ2) : mO σ σ2 A cd := H.sc (fun c j h => e c j (by omega) (by omega) (by omega)) (fun c h => e.cell (by omega) (by omega) (by omega)) (e 155 0 (by omega) (by omega) (by omega))
theorem mO.fk {lo hi : Int} {σ σ1 σ2 : yM} {A : aA} {cd : Int} (H : mO σ σ1 A cd) (e : fk 155 lo hi σ1 σ2) (h1 : 11 ≤ lo) (h2 : hi ≤ 26 ∨ 31 ≤ lo) : mO σ σ2 A cd := H.sc (fun c j h => e c j (by omega)) (fun c h => funext fun j => e c j (by omega)) (e 155 0 (by omega))
theorem mO.bN {σ σ1 : yM} {A : aA} (H : mO σ σ1 A 0) (cd : Int) : mO σ (yset (yset σ1 155 0 cd) 156 0 (σ1 156 0 + 1)) (bN A) cd := by
  obtain ⟨h1, h2, h3⟩ := H
  refine ⟨(h1.st (by omega)).st (by omega), by rw [yset_n (by omega), yset_e], ?_⟩
  obtain ⟨w, h, X, ⟨s, re, fo, ra, tu, we, sh⟩, H, hb, K, tl, tb, fa, r1, r2⟩ := A
  obtain ⟨v1, v2, v3, ⟨v4, v5⟩, ⟨v6, v7⟩, v8, v9, v10⟩ := h3
  have ec : ∀ c : Nat, c ≠ 155 → c ≠ 156 → (yset (yset σ1 155 0 cd) 156 0 (σ1 156 0 + 1)) c = σ1 c := fun c a b => by rw [yset_n b, yset_n a]
  have e5 : ∀ j : Int, j ≠ 0 → (yset (yset σ1 155 0 cd) 156 0 (σ1 156 0 + 1)) 155 j = σ1 155 j := fun j a => by rw [yset_n (by omega), yset_o (by omega)]
  exact ⟨v1.fr0 (ec 158 (by omega) (by omega)) (by rw [ec 161 (by omega) (by omega)]) (by rw [ec 162 (by omega) (by omega)]), v2.fr (ec 166 (by omega) (by omega)), v3.fr (e5 8 (by omega)) (ec 164 (by omega) (by omega)), ⟨(e5 9 (by omega)).trans v4, fun q x y a b c d => by rw [ec 165 (by omega) (by omega)]; exact v5 q x y a b c d⟩, ⟨(e5 29 (by omega)).trans v6, fun j a b => by rw [ec 167 (by omega) (by omega)]; exact v7 j a b⟩, (e5 30 (by omega)).trans v8, by rw [yset_e, v9], by rw [yset_o (by omega), yset_n (by omega)]; exact v10⟩
theorem mO.bA {σ σ1 : yM} {A : aA} (H : mO σ σ1 A 0) (cd : Int) : mO σ (yset (yset σ1 155 0 cd) 156 1 (σ1 156 1 + 1)) (bA A) cd := by
  obtain ⟨h1, h2, h3⟩ := H
  refine ⟨(h1.st (by omega)).st (by omega), by rw [yset_n (by omega), yset_e], ?_⟩
  obtain ⟨w, h, X, ⟨s, re, fo, ra, tu, we, sh⟩, H, hb, K, tl, tb, fa, r1, r2⟩ := A
  obtain ⟨v1, v2, v3, ⟨v4, v5⟩, ⟨v6, v7⟩, v8, v9, v10⟩ := h3
  have ec : ∀ c : Nat, c ≠ 155 → c ≠ 156 → (yset (yset σ1 155 0 cd) 156 1 (σ1 156 1 + 1)) c = σ1 c := fun c a b => by rw [yset_n b, yset_n a]
  have e5 : ∀ j : Int, j ≠ 0 → (yset (yset σ1 155 0 cd) 156 1 (σ1 156 1 + 1)) 155 j = σ1 155 j := fun j a => by rw [yset_n (by omega), yset_o (by omega)]
  exact ⟨v1.fr0 (ec 158 (by omega) (by omega)) (by rw [ec 161 (by omega) (by omega)]) (by rw [ec 162 (by omega) (by omega)]), v2.fr (ec 166 (by omega) (by omega)), v3.fr (e5 8 (by omega)) (ec 164 (by omega) (by omega)), ⟨(e5 9 (by omega)).trans v4, fun q x y a b c d => by rw [ec 165 (by omega) (by omega)]; exact v5 q x y a b c d⟩, ⟨(e5 29 (by omega)).trans v6, fun j a b => by rw [ec 167 (by omega) (by omega)]; exact v7 j a b⟩, (e5 30 (by omega)).trans v8, by rw [yset_o (by omega), yset_n (by omega)]; exact v9, by rw [yset_e, v10]⟩
/-- known and missing, counted -/
theorem sKn_mi {w h : Int} {T : Int → Int → Int} {x y : Int} (hx : 0 ≤ x ∧ x < w) (hy : 0 ≤ y ∧ y < h) : bi (sKn w h T x y) + bi (decide (T x y = -1)) = 1 := by
  have hi : sIn w h x y = true := sIn_iff.mpr ⟨hx.1, hx.2, hy.1, hy.2⟩
  by_cases e : T x y = -1
  · rw [show sKn w h T x y = false by simp [sKn, hi, e], show decide (T x y = -1) = true by simp [e]]; rfl
  · rw [show sKn w h T x y = true by simp [sKn, hi, e], show decide (T x y = -1) = false by simp [e]]; rfl
theorem sKn_row {w h : Int} {T : Int → Int → Int} {y : Int} (hy : 0 ≤ y ∧ y < h) : ∀ (n : Nat) (a b c : Int), (n : Int) ≤ w → c = a + b → fr (fun s x => s + bi (sKn w h T x y)) 0 n a + fr (fun s x => s + bi (decide (T x y = -1))) 0 n b = c + n := by
  intro n
  induction n with
  | zero => intro a b c _ e; show a + b = c + ((0 : Nat) : Int); omega
  | succ n ih =>
    intro a b c hn e
    have := ih a b c (by omega) e
    have h2 := sKn_mi (T := T) (x := (n : Int)) (w := w) (h := h) (y := y) ⟨by omega, by omega⟩ hy
    rw [fr_s, fr_s, Int.zero_add]
    omega
theorem sKn_cnt {w h : Int} {T : Int → Int → Int} (hw : 0 ≤ w) (hh : 0 ≤ h) : sCt w h (fun x y => sKn w h T x y) + nMi w h T = w * h := by
  have key : ∀ (n : Nat), (n : Int) ≤ h → fr (fun s y => fr (fun s x => s + bi (sKn w h T x y)) 0 w.toNat s) 0 n 0 + fr (fun s y => fr (fun s x => s + bi (decide (T x y = -1))) 0 w.toNat s) 0 n 0 = w * n := by
    intro n
    induction n with
    | zero => intro _; show (0 : Int) + 0 = w * ((0 : Nat) : Int); simp
    | succ n ih =>
      intro hn
      have h1 := ih (by omega)
      have h2 := sKn_row (w := w) (h := h) (T := T) (y := (n : Int)) ⟨by omega, by omega⟩ w.toNat _ _ _ (by omega) h1.symm
      rw [fr_s, fr_s, Int.zero_add, h2]
      rw [Int.toNat_of_nonneg hw, Int.natCast_succ, Int.mul_add, Int.mul_one]
  have := key h.toNat (by omega)
  rw [Int.toNat_of_nonneg hh] at this
  exact this
theorem mO_tape {σ σ0 σ' : yM} {w h : Int} {X : aX} {sv : Int × Int × Int × Int × Int × Int × Int} {H : List aX} {ht : Bool} {K : Int → Int → Int} {tl tl' : Int} {tb tb' : Int → Int} {fa r1 r2 : Int} (V : mO σ σ0 (w, h, X, sv, H, ht, K, tl, tb, fa, r1, r2) 0) (f : gTp σ0 σ') (t : mTp σ' tl' tb') : mO σ σ' (w, h, X, sv, H, ht, K, tl', tb', fa, r1, r2) 0 := by
  obtain ⟨h1, h2, h3⟩ := V
  obtain ⟨s, re, fo, ra, tu, we, sh⟩ := sv
  obtain ⟨v1, v2, v3, ⟨v4, v5⟩, ⟨v6, v7⟩, v8, v9, v10⟩ := h3
  have ec : ∀ c : Nat, c ≠ 155 → c ≠ 167 → σ' c = σ0 c := fun c a b => funext fun j => f c j (Or.inl a) b
  have e5 : ∀ j : Int, j ≠ 29 → σ' 155 j = σ0 155 j := fun j a => f 155 j (Or.inr a) (by omega)
  exact ⟨h1.tr (fun c hc => ec c (by omega) (by omega)), (e5 0 (by omega)).trans h2, v1.fr0 (ec 158 (by omega) (by omega)) (by rw [ec 161 (by omega) (by omega)]) (by rw [ec 162 (by omega) (by omega)]), v2.fr (ec 166 (by omega) (by omega)), v3.fr (e5 8 (by omega)) (ec 164 (by omega) (by omega)), ⟨(e5 9 (by omega)).trans v4, fun q x y a b c d => by rw [ec 165 (by omega) (by omega)]; exact v5 q x y a b c d⟩, t, (e5 30 (by omega)).trans v8, by rw [ec 156 (by omega) (by omega)]; exact v9, by rw [ec 156 (by omega) (by omega)]; exact v10⟩
theorem sNx_no {w h : Int} {T S : Int → Int → Int} {s ra : Int} (hn : (sNx w h T S s ra).1 = -1) : sNx w h T S s ra = (-1, -1, -1) := by
  have key : ∀ (q : Int × Int × Int) (a b : Int), 0 ≤ a → (q = (-1, -1, -1) ∨ 0 ≤ q.1) → (nxF w h T S s ra q a b = (-1, -1, -1) ∨ 0 ≤ (nxF w h T S s ra q a b).1) := by
    intro q a b ha hq
    unfold nxF
    split
    · split
      · exact hq
      · exact Or.inr ha
    · exact hq
  have h2 : sNx w h T S s ra = (-1, -1, -1) ∨ 0 ≤ (sNx w h T S s ra).1 := by
    unfold sNx fr2
    exact fr_inv (fun q : Int × Int × Int => q = (-1, -1, -1) ∨ 0 ≤ q.1) (Or.inl rfl) (fun q b _ _ hq => fr_inv (fun q : Int × Int × Int => q = (-1, -1, -1) ∨ 0 ≤ q.1) hq (fun q a h0 _ hq => key q a b h0 hq))
  rcases h2 with e | e
  · exact e
  · omega
