/-! the whole state, and both sides' views of it -/
abbrev aA : Type := Int × Int × aX × (Int × Int × Int × Int × Int × Int × Int) × List aX × Bool × (Int → Int → Int) × Int × (Int → Int) × Int × Int × Int
/-- a byte with its sign -/
def sb (v : Int) : Int := if v < 128 then v else v - 256
def kOk (w h : Int) (K : Int → Int → Int) : Prop := ∀ x y : Int, 0 ≤ x → x < w → 0 ≤ y → y < h → -1 ≤ K x y ∧ K x y ≤ 255
def cK (σ : yM) (w h : Int) (K : Int → Int → Int) : Prop := ∀ x y : Int, 0 ≤ x → x < w → 0 ≤ y → y < h → σ 115 (y * w + x) = K x y
def mK (σ : yM) (w h : Int) (K : Int → Int → Int) : Prop := ∀ x y : Int, 0 ≤ x → x < w → 0 ≤ y → y < h → σ 165 (20 * y + x) = K x y
/-- where the class keeps the i-th latest -/
def rgI (hd : Int) (i : Nat) : Nat := ((hd - 1 - (i : Int)) % 11).toNat
theorem rgI_lt (hd : Int) (i : Nat) : rgI hd i < 11 := by unfold rgI; omega
def cH (σ : yM) (w h : Int) (H : List aX) : Prop := ∃ hd : Int, σ 13 1 = hd ∧ (0 ≤ hd ∧ hd < 11) ∧ σ 13 2 = (H.length : Int) ∧ H.length ≤ 10 ∧ ∀ (i : Nat) (X : aX), H[i]? = some X → rXc σ (15 + 9 * rgI hd i + 1) (15 + 9 * rgI hd i + 7) w h X
def mH (σ : yM) (w h : Int) (H : List aX) : Prop := σ 155 8 = (H.length : Int) ∧ H.length ≤ 10 ∧ ∀ (i : Nat) (X : aX), H[i]? = some X → rB σ 164 (2273 * ((H.length : Int) - 1 - (i : Int))) w h X
def cV (σ : yM) (A : aA) : Prop := match A with
  | (w, h, X, (s, re, fo, ra, tu, we, sh), H, ht, K, tl, tb, fa, r1, r2) => rXc σ 5 11 w h X ∧ rS σ 4 s re fo ra tu we sh ∧ cH σ w h H ∧ (σ 0 6 = bi ht ∧ (ht = true → cK σ w h K)) ∧ (σ 1 1 = tl ∧ ∀ j : Int, 0 ≤ j → j < tl → σ 2 j = tb j) ∧ σ 1 5 = fa ∧ σ 0 14 = r1 ∧ σ 0 15 = r2 ∧ rT σ
def mV (σ : yM) (A : aA) : Prop := match A with
  | (w, h, X, (s, re, fo, ra, tu, we, sh), H, ht, K, tl, tb, fa, r1, r2) => rX σ 0 w h X ∧ rS σ 166 s re fo ra tu we sh ∧ mH σ w h H ∧ (σ 155 9 = bi ht ∧ (ht = true → mK σ w h K)) ∧ (σ 155 29 = tl ∧ ∀ j : Int, 0 ≤ j → j < tl → σ 167 j = sb (tb j)) ∧ σ 155 30 = fa ∧ σ 156 0 = r1 ∧ σ 156 1 = r2
/-- numbers in order, at most N fills -/
def xOk (N : Int) (X : aX) : Prop := xNf X ≤ N ∧ ∀ i : Int, 0 ≤ i → i < X.2.2.2.2.2.2.2.1 → 0 ≤ X.2.2.2.2.2.2.2.2 i 7 ∧ X.2.2.2.2.2.2.2.2 i 7 ≤ 7
def aW (N : Int) (A : aA) : Prop := match A with
  | (w, h, X, _, H, ht, K, tl, tb, fa, _, _) => xOk N X ∧ (∀ Y ∈ H, xOk N Y) ∧ (ht = true → kOk w h K) ∧ (0 ≤ tl ∧ tl ≤ 300) ∧ (∀ j : Int, 0 ≤ tb j ∧ tb j ≤ 255) ∧ (-1 ≤ fa ∧ fa ≤ 300)
theorem rXc.fr {σ σ' : yM} {k j : Nat} {w h : Int} {X : aX} (H : rXc σ k j w h X) (e1 : ∀ c, k ≤ c → c ≤ k + 5 → σ' c = σ c) (e2 : ∀ c, j ≤ c → c ≤ j + 1 → σ' c = σ c) : rXc σ' k j w h X := rXc.mk (H.c.fr e1) (H.j.fr (e2 j (by omega) (by omega)) (e2 (j + 1) (by omega) (by omega)))
theorem cH.fr {σ σ' : yM} {w h : Int} {H : List aX} (V : cH σ w h H) (e : ∀ c, 13 ≤ c → c ≤ 113 → σ' c = σ c) : cH σ' w h H := by
  obtain ⟨hd, h1, h2, h3, h4, h5⟩ := V
  refine ⟨hd, by rw [e 13 (by omega) (by omega)]; exact h1, h2, by rw [e 13 (by omega) (by omega)]; exact h3, h4, fun i X hX => ?_⟩
  have hl := rgI_lt hd i
  exact (h5 i X hX).fr (fun c a b => e c (by omega) (by omega)) (fun c a b => e c (by omega) (by omega))
theorem cV.fr {σ σ' : yM} {A : aA} (V : cV σ A) (e : ∀ c, c < 120 → c ≠ 3 → σ' c = σ c) (ht : rT σ') : cV σ' A := by
  obtain ⟨w, h, X, ⟨s, re, fo, ra, tu, we, sh⟩, H, hb, K, tl, tb, fa, r1, r2⟩ := A
  obtain ⟨v1, v2, v3, ⟨v4, v5⟩, ⟨v6, v7⟩, v8, v9, v10, v11⟩ := V
  refine ⟨v1.fr (fun c a b => e c (by omega) (by omega)) (fun c a b => e c (by omega) (by omega)), v2.fr (e 4 (by omega) (by omega)), v3.fr (fun c a b => e c (by omega) (by omega)), ⟨by rw [e 0 (by omega) (by omega)]; exact v4, fun q x y a b c d => by rw [e 115 (by omega) (by omega)]; exact v5 q x y a b c d⟩, ⟨by rw [e 1 (by omega) (by omega)]; exact v6, fun j a b => by rw [e 2 (by omega) (by omega)]; exact v7 j a b⟩, by rw [e 1 (by omega) (by omega)]; exact v8, by rw [e 0 (by omega) (by omega)]; exact v9, by rw [e 0 (by omega) (by omega)]; exact v10, ht⟩
/-- what the reference may change by the way -/
def mS (σ σ' : yM) : Prop := ∀ (c : Nat) (j : Int), (c = 158 ∨ c = 156 ∨ c = 164 ∨ c = 165 ∨ c = 166 ∨ c = 167 ∨ ((c = 161 ∨ c = 162) ∧ j = 0) ∨ (c = 155 ∧ (j = 8 ∨ j = 9 ∨ j = 29 ∨ j = 30))) → σ' c j = σ c j
theorem mH.fr {σ σ' : yM} {w h : Int} {H : List aX} (V : mH σ w h H) (e1 : σ' 155 8 = σ 155 8) (e2 : σ' 164 = σ 164) : mH σ' w h H := by
  obtain ⟨h1, h2, h3⟩ := V
  exact ⟨by rw [e1]; exact h1, h2, fun i X hX => (h3 i X hX).cp (fun j _ _ => by rw [e2])⟩
theorem rX.fr0 {σ σ' : yM} {w h : Int} {X : aX} (V : rX σ 0 w h X) (e : σ' 158 = σ 158) (e1 : σ' 161 0 = σ 161 0) (e2 : σ' 162 0 = σ 162 0) : rX σ' 0 w h X := by
  have hm := V.m
  exact (V.b.cp (σ' := σ') (c' := 158) (o' := 0) (fun j _ _ => by rw [e])).x (e1.trans hm.2.1) (e2.trans hm.2.2.1)
theorem mV.fr {σ σ' : yM} {A : aA} (V : mV σ A) (e : mS σ σ') : mV σ' A := by
  obtain ⟨w, h, X, ⟨s, re, fo, ra, tu, we, sh⟩, H, hb, K, tl, tb, fa, r1, r2⟩ := A
  obtain ⟨v1, v2, v3, ⟨v4, v5⟩, ⟨v6, v7⟩, v8, v9, v10⟩ := V
  have ec : ∀ c : Nat, (c = 158 ∨ c = 156 ∨ c = 164 ∨ c = 165 ∨ c = 166 ∨ c = 167) → σ' c = σ c := fun c hc => funext fun j => e c j (by omega)
  exact ⟨v1.fr0 (ec 158 (by omega)) (e 161 0 (by omega)) (e 162 0 (by omega)), v2.fr (ec 166 (by omega)), v3.fr (e 155 8 (by omega)) (ec 164 (by omega)), ⟨(e 155 9 (by omega)).trans v4, fun q x y a b c d => by rw [ec 165 (by omega)]; exact v5 q x y a b c d⟩, ⟨(e 155 29 (by omega)).trans v6, fun j a b => by rw [ec 167 (by omega)]; exact v7 j a b⟩, (e 155 30 (by omega)).trans v8, by rw [ec 156 (by omega)]; exact v9, by rw [ec 156 (by omega)]; exact v10⟩
/-- one more is kept -/
def pH (X : aX) (H : List aX) : List aX := (X :: H).take 10
theorem pH_get {X Y : aX} {H : List aX} {i : Nat} (h : (pH X H)[i]? = some Y) : (i = 0 ∧ Y = X) ∨ (0 < i ∧ i < 10 ∧ H[i - 1]? = some Y) := by
  unfold pH at h
  rw [List.getElem?_take] at h
  split at h
  · cases i with
    | zero => left; simp at h; exact ⟨rfl, h.symm⟩
    | succ i => right; simp at h; exact ⟨by omega, by omega, h⟩
  · cases h
theorem pH_len {X : aX} {H : List aX} (h : H.length ≤ 10) : (pH X H).length = min (H.length + 1) 10 := by
  unfold pH
  simp
  omega
theorem pH_mem {X Y : aX} {H : List aX} (h : Y ∈ pH X H) : Y = X ∨ Y ∈ H := List.mem_cons.mp (List.mem_of_mem_take h)
theorem cH.push {σ σ' : yM} {w h : Int} {H : List aX} {X : aX} {hd : Int} (h1 : σ 13 1 = hd) (V : cH σ w h H) (hX : rXc σ' (15 + 9 * hd.toNat + 1) (15 + 9 * hd.toNat + 7) w h X) (e1 : σ' 13 1 = (hd + 1) % 11) (e2 : σ' 13 2 = min ((H.length : Int) + 1) 10) (e : ∀ c, 14 ≤ c → c ≤ 113 → (c < 15 + 9 * hd.toNat ∨ 15 + 9 * hd.toNat + 8 < c) → σ' c = σ c) : cH σ' w h (pH X H) := by
  obtain ⟨hd', q1, q2, q3, q4, q5⟩ := V
  have : hd' = hd := q1.symm.trans h1
  subst this
  refine ⟨(hd' + 1) % 11, e1, by omega, by rw [e2, pH_len q4]; omega, by rw [pH_len q4]; omega, fun i Y hY => ?_⟩
  rcases pH_get hY with ⟨rfl, rfl⟩ | ⟨g1, g2, g3⟩
  · rw [show rgI ((hd' + 1) % 11) 0 = hd'.toNat by unfold rgI; omega]
    exact hX
  · have he : rgI ((hd' + 1) % 11) i = rgI hd' (i - 1) := by unfold rgI; omega
    have hne : rgI hd' (i - 1) ≠ hd'.toNat := by unfold rgI; omega
    have hl := rgI_lt hd' (i - 1)
    rw [he]
    exact (q5 (i - 1) Y g3).fr (fun c a b => e c (by omega) (by omega) (by omega)) (fun c a b => e c (by omega) (by omega) (by omega))
theorem mH.push {σ σ' : yM} {w h : Int} {H : List aX} {X : aX} (V : mH σ w h H) (e1 : σ' 155 8 = min ((H.length : Int) + 1) 10) (e2 : ∀ r j : Int, 0 ≤ r → r < min ((H.length : Int) + 1) 10 - 1 → 0 ≤ j → j < 2273 → σ' 164 (2273 * r + j) = σ 164 (2273 * (r + (if (H.length : Int) = 10 then 1 else 0)) + j)) (hX : rB σ' 164 (2273 * (min ((H.length : Int) + 1) 10 - 1)) w h X) : mH σ' w h (pH X H) := by
  obtain ⟨q1, q2, q3⟩ := V
  have hl : ((pH X H).length : Int) = min ((H.length : Int) + 1) 10 := by rw [pH_len q2]; omega
  refine ⟨by rw [hl]; exact e1, by rw [pH_len q2]; omega, fun i Y hY => ?_⟩
  rw [hl]
  rcases pH_get hY with ⟨rfl, rfl⟩ | ⟨g1, g2, g3⟩
  · rw [show min ((H.length : Int) + 1) 10 - 1 - ((0 : Nat) : Int) = min ((H.length : Int) + 1) 10 - 1 by omega]
    exact hX
  · have hi : i - 1 < H.length := (List.getElem?_eq_some_iff.mp g3).1
    refine (q3 (i - 1) Y g3).cp (fun j a b => ?_)
    rw [e2 _ j (by omega) (by omega) a b]
    congr 1
    split <;> omega
