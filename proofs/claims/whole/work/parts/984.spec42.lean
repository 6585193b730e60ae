def txV (R : aV) : Int := if R.1 = 0 then nMi R.2.2.1 R.2.2.2.1 R.2.2.2.2 else R.1 - 10
def txX (M : Int → Int → Int) : aX := (M, hS_ M, fun _ _ => 0, fun _ _ => -1, fun _ _ => -1, 0, 0, 0, fun _ _ => 0)
theorem cV_fail {σ σ' : yM} {w h : Int} {X : aX} {sv : Int × Int × Int × Int × Int × Int × Int} {H : List aX} {ht : Bool} {K : Int → Int → Int} {tl : Int} {tb : Int → Int} {fa fa' r1 r2 : Int} (V : cV σ (w, h, X, sv, H, ht, K, tl, tb, fa, r1, r2)) (e : ∀ c : Nat, c ≠ 1 → c ≠ 3 → σ' c = σ c) (t1 : σ' 1 1 = 0) (t5 : σ' 1 5 = fa') : cV σ' (w, h, X, sv, H, ht, K, 0, tb, fa', r1, r2) := by
  obtain ⟨s, re, fo, ra, tu, we, sh⟩ := sv
  obtain ⟨v1, v2, v3, ⟨v4, v5⟩, ⟨v6, v7⟩, v8, v9, v10, v11⟩ := V
  exact ⟨v1.fr (fun c a b => e c (by omega) (by omega)) (fun c a b => e c (by omega) (by omega)), v2.fr (e 4 (by omega) (by omega)), v3.fr (fun c a b => e c (by omega) (by omega)), ⟨by rw [e 0 (by omega) (by omega)]; exact v4, fun q x y a b c d => by rw [e 115 (by omega) (by omega)]; exact v5 q x y a b c d⟩, ⟨t1, fun j a b => by omega⟩, t5, by rw [e 0 (by omega) (by omega)]; exact v9, by rw [e 0 (by omega) (by omega)]; exact v10, v11.fr (e 127 (by omega) (by omega))⟩
theorem cV_text {σ σ' : yM} {w h w' h' : Int} {X X' : aX} {sv : Int × Int × Int × Int × Int × Int × Int} {H : List aX} {ht ht' : Bool} {K : Int → Int → Int} {tl : Int} {tb : Int → Int} {fa fa' r1 r2 : Int} (V : cV σ (w, h, X, sv, H, ht, K, tl, tb, fa, r1, r2)) (e : ∀ c : Nat, c = 4 ∨ 13 < c → σ' c = σ c) (e0 : ∀ j : Int, j ≠ 6 → σ' 0 j = σ 0 j) (e6 : σ' 0 6 = bi ht') (hk : ht' = true → ht = true ∧ w' = w ∧ h' = h) (e13 : σ' 13 1 = σ 13 1) (e132 : σ' 13 2 = 0) (hX : rXc σ' 5 11 w' h' X') (t1 : σ' 1 1 = 0) (t5 : σ' 1 5 = fa') : cV σ' (w', h', X', sv, [], ht', K, 0, tb, fa', r1, r2) := by
  obtain ⟨s, re, fo, ra, tu, we, sh⟩ := sv
  obtain ⟨v1, v2, ⟨hd, q1, q2, -⟩, ⟨v4, v5⟩, ⟨v6, v7⟩, v8, v9, v10, v11⟩ := V
  exact ⟨hX, v2.fr (e 4 (by omega)), ⟨hd, e13.trans q1, q2, e132, by simp, fun i Y hY => by simp at hY⟩, ⟨e6, fun q x y a b c d => by obtain ⟨k1, k2, k3⟩ := hk q; subst k2 k3; rw [e 115 (by omega)]; exact v5 k1 x y a b c d⟩, ⟨t1, fun j a b => by omega⟩, t5, by rw [e0 14 (by omega)]; exact v9, by rw [e0 15 (by omega)]; exact v10, v11.fr (e 127 (by omega))⟩
theorem txR_r {tb : Int → Int} {e : Int} (htb : ∀ j : Int, 0 ≤ tb j ∧ tb j ≤ 255) (he : 0 ≤ e ∧ e ≤ 300) : ∀ (n : Nat) (y p W : Int) (M : Int → Int → Int), n = (20 - y).toNat → 0 ≤ y → (0 ≤ p ∧ p ≤ e) → (y = 0 ∨ (3 ≤ W ∧ W ≤ 20)) → -2147483648 ≤ (txR tb e n y p W M).1 ∧ (txR tb e n y p W M).1 < 2147483648
  | 0, _, _, _, _, _, _, _, _ => by show -2147483648 ≤ (0 : Int) ∧ (0 : Int) < 2147483648; decide
  | n + 1, y, p, W, M, hn, hy, hp, hW => by
    unfold txR
    rcases hE : rwE tb e y W p (-1) with ⟨f, fp, p', c, m⟩
    have hm : 0 ≤ rwMo y W ∧ rwMo y W ≤ 20 := by unfold rwMo; split <;> omega
    have hb := rwE_bd htb hp (by omega) hm hE.symm
    simp only
    split
    · show -2147483648 ≤ f ∧ f < 2147483648
      omega
    · rename_i h0
      split
      · split
        · show -2147483648 ≤ (5 : Int) ∧ (5 : Int) < 2147483648
          decide
        · show -2147483648 ≤ (0 : Int) ∧ (0 : Int) < 2147483648
          decide
      · split
        · show -2147483648 ≤ (3 : Int) ∧ (3 : Int) < 2147483648
          decide
        · refine txR_r htb he n _ _ _ _ (by omega) (by omega) (by omega) (Or.inr ?_)
          have hl := (hb.2.2.2.2.2 (by omega)).2
          have hm2 := hb.2.2.2.1.2
          unfold rwLe at hl
          unfold rwMo at hm2
          split <;> simp_all <;> omega
theorem txP_r {tb : Int → Int} {e : Int} (htb : ∀ j : Int, 0 ≤ tb j ∧ tb j ≤ 255) (he : 0 ≤ e ∧ e ≤ 300) : -2147483648 ≤ (txP tb e).1 ∧ (txP tb e).1 < 2147483648 := txR_r htb he 20 0 0 0 _ rfl (by omega) (by omega) (Or.inl rfl)
