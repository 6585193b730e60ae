/-! the class's state as a whole, changed -/
theorem cV_prep {σ σ1 : yM} {A : aA} {hd : Int} (V : cV σ A) (h1 : σ 13 1 = hd) (hr : 0 ≤ hd ∧ hd < 11) (f : fc (15 + 9 * hd.toNat + 1) (15 + 9 * hd.toNat + 8) σ σ1) : cV σ1 A := by
  obtain ⟨w, h, X, ⟨s, re, fo, ra, tu, we, sh⟩, H, hb, K, tl, tb, fa, r1, r2⟩ := A
  obtain ⟨v1, v2, ⟨hd', q1, q2, q3, q4, q5⟩, ⟨v4, v5⟩, ⟨v6, v7⟩, v8, v9, v10, v11⟩ := V
  have : hd' = hd := q1.symm.trans h1
  subst this
  refine ⟨v1.fr (fun c a b => f c (by omega)) (fun c a b => f c (by omega)), v2.fr (f 4 (by omega)), ⟨hd', by rw [f 13 (by omega)]; exact q1, q2, by rw [f 13 (by omega)]; exact q3, q4, fun i Y hY => ?_⟩, ⟨by rw [f 0 (by omega)]; exact v4, fun q x y a b c d => by rw [f 115 (by omega)]; exact v5 q x y a b c d⟩, ⟨by rw [f 1 (by omega)]; exact v6, fun j a b => by rw [f 2 (by omega)]; exact v7 j a b⟩, by rw [f 1 (by omega)]; exact v8, by rw [f 0 (by omega)]; exact v9, by rw [f 0 (by omega)]; exact v10, v11.fr (f 127 (by omega))⟩
  have hi : i < H.length := (List.getElem?_eq_some_iff.mp hY).1
  have hne : rgI hd' i ≠ hd'.toNat := by unfold rgI; omega
  have hl := rgI_lt hd' i
  exact (q5 i Y hY).fr (fun c a b => f c (by omega)) (fun c a b => f c (by omega))
theorem cV_pic {σ σ' : yM} {w h : Int} {X X' : aX} {sv : Int × Int × Int × Int × Int × Int × Int} {H : List aX} {ht : Bool} {K : Int → Int → Int} {tl : Int} {tb : Int → Int} {fa r1 r2 : Int} (V : cV σ (w, h, X, sv, H, ht, K, tl, tb, fa, r1, r2)) (e : ∀ c, c < 120 → (c < 5 ∨ 12 < c) → σ' c = σ c) (hX : rXc σ' 5 11 w h X') (hT : rT σ') : cV σ' (w, h, X', sv, H, ht, K, tl, tb, fa, r1, r2) := by
  obtain ⟨s, re, fo, ra, tu, we, sh⟩ := sv
  obtain ⟨v1, v2, v3, ⟨v4, v5⟩, ⟨v6, v7⟩, v8, v9, v10, v11⟩ := V
  exact ⟨hX, v2.fr (e 4 (by omega) (by omega)), v3.fr (fun c a b => e c (by omega) (by omega)), ⟨by rw [e 0 (by omega) (by omega)]; exact v4, fun q x y a b c d => by rw [e 115 (by omega) (by omega)]; exact v5 q x y a b c d⟩, ⟨by rw [e 1 (by omega) (by omega)]; exact v6, fun j a b => by rw [e 2 (by omega) (by omega)]; exact v7 j a b⟩, by rw [e 1 (by omega) (by omega)]; exact v8, by rw [e 0 (by omega) (by omega)]; exact v9, by rw [e 0 (by omega) (by omega)]; exact v10, hT⟩
theorem cV_push {σ σ' : yM} {w h : Int} {X Y : aX} {sv : Int × Int × Int × Int × Int × Int × Int} {H : List aX} {ht : Bool} {K : Int → Int → Int} {tl : Int} {tb : Int → Int} {fa r1 r2 hd : Int} (V : cV σ (w, h, X, sv, H, ht, K, tl, tb, fa, r1, r2)) (h1 : σ 13 1 = hd) (hY : rXc σ (15 + 9 * hd.toNat + 1) (15 + 9 * hd.toNat + 7) w h Y) (e : σ' = yset (yset σ 13 1 ((hd + 1) % 11)) 13 2 (min ((H.length : Int) + 1) 10)) : cV σ' (w, h, X, sv, pH Y H, ht, K, tl, tb, fa, r1, r2) ∧ cF σ σ' := by
  obtain ⟨s, re, fo, ra, tu, we, sh⟩ := sv
  obtain ⟨v1, v2, v3, ⟨v4, v5⟩, ⟨v6, v7⟩, v8, v9, v10, v11⟩ := V
  have en : ∀ c, c ≠ 13 → σ' c = σ c := fun c hc => by rw [e, yset_n hc, yset_n hc]
  have hdr : 0 ≤ hd ∧ hd < 11 := by obtain ⟨hd', q1, q2, -⟩ := v3; rw [← h1, q1]; exact q2
  refine ⟨⟨v1.fr (fun c a b => en c (by omega)) (fun c a b => en c (by omega)), v2.fr (en 4 (by omega)), cH.push h1 v3 (hY.fr (fun c a b => en c (by omega)) (fun c a b => en c (by omega))) (by rw [e, yset_o (by omega), yset_e]) (by rw [e, yset_e]) (fun c a b _ => en c (by omega)), ⟨by rw [en 0 (by omega)]; exact v4, fun q x y a b c d => by rw [en 115 (by omega)]; exact v5 q x y a b c d⟩, ⟨by rw [en 1 (by omega)]; exact v6, fun j a b => by rw [en 2 (by omega)]; exact v7 j a b⟩, by rw [en 1 (by omega)]; exact v8, by rw [en 0 (by omega)]; exact v9, by rw [en 0 (by omega)]; exact v10, v11.fr (en 127 (by omega))⟩, fun c hc => en c (by omega)⟩
theorem cV_set {σ : yM} {w h : Int} {X : aX} {s re fo ra tu we sh a v : Int} {H : List aX} {ht : Bool} {K : Int → Int → Int} {tl : Int} {tb : Int → Int} {fa r1 r2 : Int} (V : cV σ (w, h, X, (s, re, fo, ra, tu, we, sh), H, ht, K, tl, tb, fa, r1, r2)) (hal : sAl a v = true) : cV (yset σ 4 a v) (w, h, X, ((if a = 0 then v else s), (if a = 1 then v else re), (if a = 2 then v else fo), (if a = 3 then v else ra), (if a = 4 then v else tu), (if a = 5 then v else we), (if a = 6 then v else sh)), H, ht, K, tl, tb, fa, r1, r2) := by
  obtain ⟨v1, v2, v3, ⟨v4, v5⟩, ⟨v6, v7⟩, v8, v9, v10, v11⟩ := V
  have en : ∀ c, c ≠ 4 → yset σ 4 a v c = σ c := fun c hc => yset_n hc
  exact ⟨v1.fr (fun c a b => en c (by omega)) (fun c a b => en c (by omega)), rS_set v2 hal, v3.fr (fun c a b => en c (by omega)), ⟨by rw [en 0 (by omega)]; exact v4, fun q x y a b c d => by rw [en 115 (by omega)]; exact v5 q x y a b c d⟩, ⟨by rw [en 1 (by omega)]; exact v6, fun j a b => by rw [en 2 (by omega)]; exact v7 j a b⟩, by rw [en 1 (by omega)]; exact v8, by rw [en 0 (by omega)]; exact v9, by rw [en 0 (by omega)]; exact v10, v11.fr (en 127 (by omega))⟩
theorem cV_keep {σ σ' : yM} {w h : Int} {T S F P O : Int → Int → Int} {nf df nl : Int} {lg : Int → Int → Int} {sv : Int × Int × Int × Int × Int × Int × Int} {H : List aX} {ht : Bool} {K : Int → Int → Int} {tl : Int} {tb : Int → Int} {fa r1 r2 : Int} (V : cV σ (w, h, (T, S, F, P, O, nf, df, nl, lg), sv, H, ht, K, tl, tb, fa, r1, r2)) (e : ∀ c, c ≠ 0 → (c < 114 ∨ 119 < c) → σ' c = σ c) (e0 : ∀ j : Int, j ≠ 6 → σ' 0 j = σ 0 j) (e6 : σ' 0 6 = 1) (hK : rC σ' 114 w h T S F P O) : cV σ' (w, h, (T, S, F, P, O, nf, df, nl, lg), sv, H, true, T, tl, tb, fa, r1, r2) := by
  obtain ⟨s, re, fo, ra, tu, we, sh⟩ := sv
  obtain ⟨v1, v2, v3, ⟨v4, v5⟩, ⟨v6, v7⟩, v8, v9, v10, v11⟩ := V
  exact ⟨rXc.fr v1 (fun c a b => e c (by omega) (by omega)) (fun c a b => e c (by omega) (by omega)), v2.fr (e 4 (by omega) (by omega)), v3.fr (fun c a b => e c (by omega) (by omega)), ⟨e6, fun _ x y a b c d => (hK.2.2.2 x y a b c d).1⟩, ⟨by rw [e 1 (by omega) (by omega)]; exact v6, fun j a b => by rw [e 2 (by omega) (by omega)]; exact v7 j a b⟩, by rw [e 1 (by omega) (by omega)]; exact v8, by rw [e0 14 (by omega)]; exact v9, by rw [e0 15 (by omega)]; exact v10, v11.fr (e 127 (by omega) (by omega))⟩
/-- back by one -/
def hdX (X : aX) (H : List aX) : aX := H.headD X
theorem cH.head {σ : yM} {w h hd : Int} {X : aX} {H : List aX} (V : cH σ w h H) (h1 : σ 13 1 = hd) (hl : 0 < (H.length : Int)) : rXc σ (15 + 9 * ((hd + 10) % 11).toNat + 1) (15 + 9 * ((hd + 10) % 11).toNat + 7) w h (hdX X H) := by
  obtain ⟨hd', q1, q2, q3, q4, q5⟩ := V
  have : hd' = hd := q1.symm.trans h1
  subst this
  cases H with
  | nil => simp at hl
  | cons Y H =>
    have := q5 0 Y rfl
    rw [show rgI hd' 0 = ((hd' + 10) % 11).toNat by unfold rgI; omega] at this
    exact this
theorem cH.pop {σ σ' : yM} {w h hd : Int} {H : List aX} (V : cH σ w h H) (h1 : σ 13 1 = hd) (hl : 0 < (H.length : Int)) (e1 : σ' 13 1 = (hd + 10) % 11) (e2 : σ' 13 2 = (H.length : Int) - 1) (e : ∀ c, 14 ≤ c → c ≤ 113 → σ' c = σ c) : cH σ' w h H.tail := by
  obtain ⟨hd', q1, q2, q3, q4, q5⟩ := V
  have : hd' = hd := q1.symm.trans h1
  subst this
  cases H with
  | nil => simp at hl
  | cons Y H =>
    simp only [List.length_cons, List.tail_cons] at *
    refine ⟨(hd' + 10) % 11, e1, by omega, by rw [e2]; omega, by omega, fun i Z hZ => ?_⟩
    have := q5 (i + 1) Z (by simpa using hZ)
    rw [show rgI hd' (i + 1) = rgI ((hd' + 10) % 11) i by unfold rgI; omega] at this
    have hl := rgI_lt ((hd' + 10) % 11) i
    exact this.fr (fun c a b => e c (by omega) (by omega)) (fun c a b => e c (by omega) (by omega))
/-- a rectangle's dots, row by row -/
def dR (x y tx : Int) (i j : Int) : Int → Int → Bool := fun a b => decide (x ≤ a) && decide (a ≤ tx) && decide (y ≤ b) && (decide (b < j) || (decide (b = j) && decide (a < i)))
def dHo (D : Int → Int → Bool) (v : Int) (A : Int → Int → Int) : Int → Int → Int := fun a b => if D a b then v else A a b
theorem dHo_up {x y tx i j v : Int} {A : Int → Int → Int} (hi : x ≤ i ∧ i ≤ tx) (hj : y ≤ j) : lup (dHo (dR x y tx i j) v A) i j v = dHo (dR x y tx (i + 1) j) v A := by
  funext a b
  unfold lup dHo
  by_cases e : a = i ∧ b = j
  · rw [if_pos e, if_pos]
    simp only [dR, Bool.and_eq_true, Bool.or_eq_true, decide_eq_true_eq]
    omega
  · rw [if_neg e]
    have : dR x y tx i j a b = dR x y tx (i + 1) j a b := by
      rw [Bool.eq_iff_iff]
      simp only [dR, Bool.and_eq_true, Bool.or_eq_true, decide_eq_true_eq]
      omega
    rw [this]
theorem dR_row {x y tx i j : Int} (hi : i = tx + 1) (hj : y ≤ j) : dR x y tx i j = dR x y tx x (j + 1) := by
  funext a b
  rw [Bool.eq_iff_iff]
  simp only [dR, Bool.and_eq_true, Bool.or_eq_true, decide_eq_true_eq]
  omega
theorem dR_0 {x y tx v : Int} {A : Int → Int → Int} : dHo (dR x y tx x y) v A = A := by
  funext a b
  unfold dHo
  rw [if_neg]
  simp only [dR, Bool.and_eq_true, Bool.or_eq_true, decide_eq_true_eq]
  omega
/-- how many are known there -/
def hC (w h : Int) (T : Int → Int → Int) (x y tx ty : Int) : Int := fr2 (fun c i j => c + bi (sKn w h T i j)) x (tx + 1 - x).toNat y (ty + 1 - y).toNat 0
theorem gR_cnt {w h s re fo ra tu we sh lv : Int} {most : Nat} {X : aX} : (gR w h s re fo ra tu we sh lv most X).1 ≤ most := (fIt_nf most X).2
