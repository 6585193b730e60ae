/-! the guided run -/
theorem fS_nf' {w h s re fo ra tu we sh : Int} {gd : Bool} {F2 P2 : Int → Int → Int} {X X' : aX} (H : fS w h s re fo ra tu we sh gd F2 P2 X = some X') : xNf X' = xNf X + 1 := by
  obtain ⟨T, S, F, P, O, nf, df, nl, lg⟩ := X
  obtain ⟨T9, S9, F9, P9, O9, nf9, df9, nl9, lg9⟩ := X'
  exact fS_nf H
theorem fIt_nf {w h s re fo ra tu we sh : Int} {gd : Bool} {F2 P2 : Int → Int → Int} : ∀ (n : Nat) (X : aX), xNf (fIt (fS w h s re fo ra tu we sh gd F2 P2) n X).2 = xNf X + ((fIt (fS w h s re fo ra tu we sh gd F2 P2) n X).1 : Int) ∧ (fIt (fS w h s re fo ra tu we sh gd F2 P2) n X).1 ≤ n
  | 0, X => ⟨by show xNf X = xNf X + 0; omega, Nat.le_refl _⟩
  | n + 1, X => by
    rcases hf : fS w h s re fo ra tu we sh gd F2 P2 X with _ | X'
    · rw [fIt_none hf]
      exact ⟨by simp, Nat.zero_le _⟩
    · rw [fIt_some hf]
      have h1 := fS_nf' hf
      obtain ⟨h2, h3⟩ := fIt_nf (w := w) (h := h) (s := s) (re := re) (fo := fo) (ra := ra) (tu := tu) (we := we) (sh := sh) (gd := gd) (F2 := F2) (P2 := P2) n X'
      simp only
      exact ⟨by omega, by omega⟩
theorem hX_e {w h : Int} {T : Int → Int → Int} {lg lg' : Int → Int → Int} {nf df nl : Int} : eX (sHf w h T, hS_ (sHf w h T), fun _ _ => 0, fun _ _ => -1, fun _ _ => -1, nf, df, nl, lg) (hX w h T lg') := ⟨rfl, rfl, fun _ _ => Iff.rfl, rfl, rfl⟩
theorem fF.to {k j : Nat} {σ σ' : yM} (h : fF k j σ σ') (hk : 120 ≤ k ∧ k + 5 ≤ 145) (hj : 120 ≤ j ∧ j + 1 ≤ 145) : fc 120 145 σ σ' := fun c a => h c (by omega) (by omega) (by omega)
theorem fc.to {a b k j : Nat} {σ σ' : yM} (h : fc a b σ σ') (ha : 120 ≤ a ∧ b ≤ 145) : fG k j σ σ' := fun c q _ _ => h c (by omega)
theorem fG.tr {k j : Nat} {a b c : yM} (h1 : fG k j a b) (h2 : fG k j b c) : fG k j a c := fun q x y z => (h2 q x y z).trans (h1 q x y z)
theorem rXc.c {σ : yM} {k j : Nat} {w h : Int} {X : aX} (H : rXc σ k j w h X) : rC σ k w h X.1 X.2.1 X.2.2.1 X.2.2.2.1 X.2.2.2.2.1 := by
  obtain ⟨T, S, F, P, O, nf, df, nl, lg⟩ := X
  exact H.1
theorem rXc.j {σ : yM} {k j : Nat} {w h : Int} {X : aX} (H : rXc σ k j w h X) : rJ σ j X.2.2.2.2.2.1 X.2.2.2.2.2.2.1 X.2.2.2.2.2.2.2.1 X.2.2.2.2.2.2.2.2 := by
  obtain ⟨T, S, F, P, O, nf, df, nl, lg⟩ := X
  exact H.2
theorem rXc.mk {σ : yM} {k j : Nat} {w h : Int} {X : aX} (H : rC σ k w h X.1 X.2.1 X.2.2.1 X.2.2.2.1 X.2.2.2.2.1) (H2 : rJ σ j X.2.2.2.2.2.1 X.2.2.2.2.2.2.1 X.2.2.2.2.2.2.2.1 X.2.2.2.2.2.2.2.2) : rXc σ k j w h X := by
  obtain ⟨T, S, F, P, O, nf, df, nl, lg⟩ := X
  exact ⟨H, H2⟩
theorem rX.m {σ : yM} {z : Nat} {w h : Int} {X : aX} (H : rX σ z w h X) : rM σ z w h X.1 X.2.1 X.2.2.1 X.2.2.2.1 X.2.2.2.2.1 := by
  obtain ⟨T, S, F, P, O, nf, df, nl, lg⟩ := X
  exact H.1
theorem rX.l {σ : yM} {z : Nat} {w h : Int} {X : aX} (H : rX σ z w h X) : rL σ z X.2.2.2.2.2.1 X.2.2.2.2.2.2.1 X.2.2.2.2.2.2.2.1 X.2.2.2.2.2.2.2.2 := by
  obtain ⟨T, S, F, P, O, nf, df, nl, lg⟩ := X
  exact H.2
theorem rX.mk {σ : yM} {z : Nat} {w h : Int} {X : aX} (H : rM σ z w h X.1 X.2.1 X.2.2.1 X.2.2.2.1 X.2.2.2.2.1) (H2 : rL σ z X.2.2.2.2.2.1 X.2.2.2.2.2.2.1 X.2.2.2.2.2.2.2.1 X.2.2.2.2.2.2.2.2) : rX σ z w h X := by
  obtain ⟨T, S, F, P, O, nf, df, nl, lg⟩ := X
  exact ⟨H, H2⟩
