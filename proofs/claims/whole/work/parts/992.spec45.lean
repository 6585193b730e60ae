/-! seams and rings on the reference's side -/
theorem jtF_3 {w h : Int} {T S F P O : Int → Int → Int} (A : aOk w h T S F P O) {q : Int × Int × Int} {x y i j : Int} (hq : 0 ≤ q.2.2 ∧ q.2.2 ≤ 1000) : 0 ≤ (jtF w h T F q x y i j).2.2 ∧ (jtF w h T F q x y i j).2.2 ≤ 1000 := by
  unfold jtF
  split
  · rename_i hc
    have h1 := sKn_T A hc.1
    have h2 := sKn_T A hc.2.1
    simp only
    omega
  · exact hq
/-- the reference's four numbers of a ring against the class's -/
def rgE (c1 c2 c3 c4 : Int) (q : aG) : Prop := c1 = q.1 ∧ c2 = q.2.2.2 ∧ (0 ≤ q.2.1 ∧ q.2.1 ≤ 255) ∧ (0 ≤ q.2.2.1 ∧ q.2.2.1 ≤ 255) ∧ (0 ≤ c2 ∧ c2 ≤ 255 * c1) ∧ 0 ≤ c1 ∧ ((c1 = 0 ∧ c3 = 1000000000 ∧ c4 = -1 ∧ q.2.1 = 255 ∧ q.2.2.1 = 0) ∨ (0 < c1 ∧ c3 = q.2.1 ∧ c4 = q.2.2.1))
theorem rgE_0 : rgE 0 0 1000000000 (-1) (0, 255, 0, 0) := by unfold rgE; simp
theorem rgE_r {c1 c2 c3 c4 : Int} {q : aG} (H : rgE c1 c2 c3 c4 q) : (0 ≤ c3 ∧ c3 ≤ 1000000000) ∧ (-1 ≤ c4 ∧ c4 ≤ 255) ∧ 0 ≤ c1 := by unfold rgE at H; omega
theorem rgE_s {w h : Int} {T L : Int → Int → Int} {p x y c1 c2 c3 c4 : Int} {q : aG} (H : rgE c1 c2 c3 c4 q) (h1 : 0 ≤ T x y) (h2 : T x y ≤ 255) (hb : sBs w h L x y p = true) : rgE (c1 + 1) (c2 + T x y) (min c3 (T x y)) (max c4 (T x y)) (rgF w h T L p q x y) := by
  obtain ⟨a, b, c, d⟩ := q
  unfold rgF
  simp only
  rw [if_pos ⟨by omega, hb⟩]
  unfold rgE at H ⊢
  simp only at H ⊢
  omega
theorem rgV_eq (q : aG) (a : Int) : rgV q a = if a = 0 then q.1 else if q.1 = 0 then -1 else if a = 1 then q.2.1 else if a = 2 then q.2.2.1 else q.2.2.2.tdiv q.1 := by
  obtain ⟨c, l, m, s⟩ := q
  rfl
