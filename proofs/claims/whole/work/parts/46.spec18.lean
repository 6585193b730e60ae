/-! compares of longs, and asking -/
theorem ycmp_lt {a b : Int} (h : ycmp a b < 0) : a < b := by
  unfold ycmp at h
  split at h
  · omega
  · split at h <;> omega
theorem ycmp_ge {a b : Int} (h : 0 ≤ ycmp a b) : b ≤ a := by
  unfold ycmp at h
  split at h
  · omega
  · split at h <;> omega
theorem rG.fk10 {σ σ' : yM} {w : Int} {T S : Int → Int → Int} {we x y : Int} {L : List (Int × Int)} (H : rG σ w T S we x y L) (e : fk 123 10 19 σ σ') : rG σ' w T S we x y L := by
  unfold rG
  rw [e 123 7 (by omega), e 123 8 (by omega), show σ' 124 = σ 124 from funext fun j => e 124 j (by omega), show σ' 125 = σ 125 from funext fun j => e 125 j (by omega), show σ' 126 = σ 126 from funext fun j => e 126 j (by omega)]
  exact H
theorem asG_skip {u v way sf bo d c bx by_ bw bs bd so sk sp lo : Int} (h : bx ≠ -1 ∧ bd ≤ bo) : asG u v way sf bo d c (bx, by_, bw, bs, bd, so, sk, sp, lo) = (bx, by_, bw, bs, bd, so + 1, sk + 1, sp, lo) := if_pos h
theorem asG_stop {u v way sf bo d c bx by_ bw bs bd so sk sp lo : Int} (h : ¬ (bx ≠ -1 ∧ bd ≤ bo)) (h2 : bx ≠ -1 ∧ bd ≤ d) : asG u v way sf bo d c (bx, by_, bw, bs, bd, so, sk, sp, lo) = (bx, by_, bw, bs, bd, so + 1, sk, sp + 1, lo + c) := (if_neg h).trans (if_pos h2)
theorem asG_take {u v way sf bo d c bx by_ bw bs bd so sk sp lo : Int} (h : ¬ (bx ≠ -1 ∧ bd ≤ bo)) (h2 : ¬ (bx ≠ -1 ∧ bd ≤ d)) : asG u v way sf bo d c (bx, by_, bw, bs, bd, so, sk, sp, lo) = (u, v, way, sf, d, so + 1, sk, sp, lo + c) := (if_neg h).trans (if_neg h2)
