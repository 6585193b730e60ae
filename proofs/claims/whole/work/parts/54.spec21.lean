/-! the aim taken -/
/-- all that a search needs -/
def rZ (σ : yM) (w h : Int) (T S F : Int → Int → Int) (s fo we : Int) (k cs : Nat) (ax ay : Int) : Prop := rA σ k cs ax ay ∧ rT σ ∧ rU σ w h T F fo ∧ rG σ w T S we ax ay (kL w h T s ax ay)
theorem rT.fr {σ σ' : yM} (H : rT σ) (e : σ' 127 = σ 127) : rT σ' := by
  unfold rT
  rw [e]
  exact H
theorem rU.fr {σ σ' : yM} {w h : Int} {T F : Int → Int → Int} {fo : Int} (H : rU σ w h T F fo) (e : σ' 127 = σ 127) : rU σ' w h T F fo := by
  unfold rU
  rw [e]
  exact H
