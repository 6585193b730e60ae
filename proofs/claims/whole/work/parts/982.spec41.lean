def txP (tb : Int → Int) (e : Int) : aV := txR tb e 20 0 0 0 (fun _ _ => 0)
/-- the tones read so far -/
def tN (τ : yM) (y W : Int) (M : Int → Int → Int) : Prop := ∀ a b : Int, 0 ≤ a → a < W → 0 ≤ b → b < y → τ 3 (b * W + a) = M a b ∧ -1 ≤ M a b ∧ M a b ≤ 255
theorem tN.fr {τ τ' : yM} {y W : Int} {M : Int → Int → Int} (H : tN τ y W M) (e : τ' 3 = τ 3) : tN τ' y W M := fun a b h1 h2 h3 h4 => by rw [e]; exact H a b h1 h2 h3 h4
theorem tN_up {τ σ' : yM} {y W dr c : Int} {M : Int → Int → Int} {m : Int → Int} (hy : 0 ≤ y) (hdr : dr = y * W) (hc : y = 0 ∨ c = W) (N : tN τ y W M) (R : rTn τ σ' dr c m) (mr : ∀ x : Int, -1 ≤ m x ∧ m x ≤ 255) : tN σ' (y + 1) (if y = 0 then c else W) (txM M y m) ∧ dr + c = (y + 1) * (if y = 0 then c else W) := by
  rcases Decidable.em (y = 0) with e | e
  · subst e
    rw [if_pos rfl]
    have hd : dr = 0 := by rw [hdr, Int.zero_mul]
    subst hd
    refine ⟨fun a b h1 h2 h3 h4 => ?_, by omega⟩
    have hb : b = 0 := by omega
    subst hb
    rw [Int.zero_mul, Int.zero_add, R a, if_pos (by omega), Int.sub_zero]
    show m a = (if (0 : Int) = 0 then m a else M a 0) ∧ -1 ≤ (if (0 : Int) = 0 then m a else M a 0) ∧ (if (0 : Int) = 0 then m a else M a 0) ≤ 255
    rw [if_pos rfl]
    exact ⟨rfl, mr a⟩
  · rw [if_neg e]
    have hcW : c = W := by omega
    subst hcW
    refine ⟨fun a b h1 h2 h3 h4 => ?_, by rw [hdr, Int.add_mul, Int.one_mul]⟩
    show σ' 3 (b * c + a) = (if b = y then m a else M a b) ∧ -1 ≤ (if b = y then m a else M a b) ∧ (if b = y then m a else M a b) ≤ 255
    rcases Decidable.em (b = y) with eb | eb
    · subst eb
      rw [if_pos rfl, R _, if_pos (by omega), show b * c + a - dr = a by omega]
      exact ⟨rfl, mr a⟩
    · have h5 : b * c ≤ (y - 1) * c := Int.mul_le_mul_of_nonneg_right (by omega) (by omega)
      have h6 : (y - 1) * c = y * c - c := by rw [Int.sub_mul, Int.one_mul]
      rw [if_neg eb, R _, if_neg (by omega)]
      exact N a b h1 h2 h3 (by omega)
