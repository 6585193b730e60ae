/-! the reference's tape, put -/
theorem bY_s {v k : Int} (hk : k = 24 ∨ k = 16 ∨ k = 8 ∨ k = 0) : v / 2 ^ k.toNat % 256 = v % 4294967296 / 2 ^ k.toNat % 256 := by
  rcases hk with rfl | rfl | rfl | rfl
  · show v / 16777216 % 256 = v % 4294967296 / 16777216 % 256
    omega
  · show v / 65536 % 256 = v % 4294967296 / 65536 % 256
    omega
  · show v / 256 % 256 = v % 4294967296 / 256 % 256
    omega
  · show v / 1 % 256 = v % 4294967296 / 1 % 256
    omega
theorem sb_bd {v : Int} (h : 0 ≤ v ∧ v ≤ 255) : -128 ≤ sb v ∧ sb v ≤ 127 := by unfold sb; split <;> omega
/-- the reference's tape -/
def mTp (σ : yM) (L : Int) (tb : Int → Int) : Prop := σ 155 29 = L ∧ ∀ j : Int, 0 ≤ j → j < L → σ 167 j = sb (tb j)
def gTp (σ σ' : yM) : Prop := ∀ (c : Nat) (j : Int), (c ≠ 155 ∨ j ≠ 29) → c ≠ 167 → σ' c j = σ c j
theorem gTp.rf (σ : yM) : gTp σ σ := fun _ _ _ _ => rfl
theorem gTp.tr {σ σ1 σ2 : yM} (h1 : gTp σ σ1) (h2 : gTp σ1 σ2) : gTp σ σ2 := fun c j a b => (h2 c j a b).trans (h1 c j a b)
theorem sdiv_r {v k : Int} (hv : -2147483648 ≤ v ∧ v < 2147483648) (hk : k = 24 ∨ k = 16 ∨ k = 8 ∨ k = 0) : -2147483648 ≤ v / 2 ^ k.toNat ∧ v / 2 ^ k.toNat < 2147483648 := by
  rcases hk with rfl | rfl | rfl | rfl
  · show -2147483648 ≤ v / 16777216 ∧ v / 16777216 < 2147483648
    omega
  · show -2147483648 ≤ v / 65536 ∧ v / 65536 < 2147483648
    omega
  · show -2147483648 ≤ v / 256 ∧ v / 256 < 2147483648
    omega
  · show -2147483648 ≤ v / 1 ∧ v / 1 < 2147483648
    omega
