/-! the searcher's aim -/
def rA (σ : yM) (k cs : Nat) (ax ay : Int) : Prop := σ 123 0 = (k : Int) ∧ σ 123 1 = (cs : Int) ∧ σ 123 2 = ax ∧ σ 123 3 = ay
theorem rA.k {σ : yM} {k cs : Nat} {ax ay : Int} (H : rA σ k cs ax ay) : (σ 123 0).toNat = k := by rw [H.1]; exact Int.toNat_natCast k
theorem rA.c {σ : yM} {k cs : Nat} {ax ay : Int} (H : rA σ k cs ax ay) : (σ 123 1).toNat = cs := by rw [H.2.1]; exact Int.toNat_natCast cs
theorem rA.fr {σ σ' : yM} {k cs : Nat} {ax ay : Int} (H : rA σ k cs ax ay) (e : ∀ j : Int, 0 ≤ j → j ≤ 3 → σ' 123 j = σ 123 j) : rA σ' k cs ax ay := by
  unfold rA
  rw [e 0 (by decide) (by decide), e 1 (by decide) (by decide), e 2 (by decide) (by decide), e 3 (by decide) (by decide)]
  exact H
theorem rA.fc {a b : Nat} {σ σ' : yM} {k cs : Nat} {ax ay : Int} (H : rA σ k cs ax ay) (hk : 123 < a ∨ b < 123) (e : fc a b σ σ') : rA σ' k cs ax ay := H.fr (fun j _ _ => by rw [e 123 hk])
