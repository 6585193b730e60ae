/-! the search: places, weights, bounds, differences, what is asked -/
theorem sFr_in {w h : Int} {T : Int → Int → Int} {x y : Int} (hf : sFr w h T x y = true) : sIn w h x y = true := by
  simp only [sFr, sMi, Bool.and_eq_true] at hf
  exact hf.1.1
/-- the first of the greatest rank -/
def nxF (w h : Int) (T S : Int → Int → Int) (s ra : Int) (q : Int × Int × Int) (x y : Int) : Int × Int × Int := if sFr w h T x y then (if sRk w h T S s ra x y ≤ q.2.2 then q else (x, y, sRk w h T S s ra x y)) else q
def sNx (w h : Int) (T S : Int → Int → Int) (s ra : Int) : Int × Int × Int := fr2 (nxF w h T S s ra) 0 w.toNat 0 h.toNat (-1, -1, -1)
/-- a source's patch: whole, known, by FROM not filled in -/
def uOk (w h : Int) (T F : Int → Int → Int) (fo i j : Int) : Bool := sKn w h T i j && !(decide (fo = 0) && decide (0 < F i j))
def sWs (w h : Int) (T F : Int → Int → Int) (s fo u v : Int) : Bool := fr2 (fun b i j => b && uOk w h T F fo i j) (u - s) (2 * s + 1).toNat (v - s) (2 * s + 1).toNat true
theorem fr_and {p : Int → Bool} {a : Int} : ∀ {n : Nat} {b : Bool}, fr (fun b i => b && p i) a n b = true ↔ (b = true ∧ ∀ i : Int, a ≤ i → i < a + n → p i = true)
  | 0, b => by simp [fr_0]; intro _ i; omega
  | n + 1, b => by
    rw [fr_s, Bool.and_eq_true, fr_and (n := n)]
    constructor
    · rintro ⟨⟨h1, h2⟩, h3⟩
      refine ⟨h1, fun i g1 g2 => ?_⟩
      by_cases e : i = a + n
      · rw [e]; exact h3
      · exact h2 i g1 (by omega)
    · rintro ⟨h1, h2⟩
      exact ⟨⟨h1, fun i g1 g2 => h2 i g1 (by omega)⟩, h2 _ (by omega) (by omega)⟩
theorem fr2_and {p : Int → Int → Bool} {x0 y0 : Int} {nx ny : Nat} : fr2 (fun b i j => b && p i j) x0 nx y0 ny true = true ↔ ∀ i j : Int, x0 ≤ i → i < x0 + nx → y0 ≤ j → j < y0 + ny → p i j = true := by
  unfold fr2
  have e : (fun (b : Bool) (j : Int) => fr (fun b i => b && p i j) x0 nx b) = (fun b j => b && fr (fun b i => b && p i j) x0 nx true) := by
    funext b j
    cases b
    · rw [Bool.false_and]
      cases hq : fr (fun b i => b && p i j) x0 nx false
      · rfl
      · exact absurd (fr_and.mp hq).1 (by decide)
    · rw [Bool.true_and]
  rw [e, fr_and]
  constructor
  · rintro ⟨-, h⟩ i j h1 h2 h3 h4
    exact (fr_and.mp (h j h3 h4)).2 i h1 h2
  · intro h
    exact ⟨rfl, fun j h3 h4 => fr_and.mpr ⟨rfl, fun i h1 h2 => h i j h1 h2 h3 h4⟩⟩
theorem sWs_iff {w h : Int} {T F : Int → Int → Int} {s fo u v : Int} (hs : 0 ≤ s) : sWs w h T F s fo u v = true ↔ ∀ i j : Int, u - s ≤ i → i ≤ u + s → v - s ≤ j → j ≤ v + s → uOk w h T F fo i j = true := by
  unfold sWs
  rw [fr2_and]
  constructor
  · intro H i j h1 h2 h3 h4
    exact H i j h1 (by omega) h3 (by omega)
  · intro H i j h1 h2 h3 h4
    exact H i j h1 (by omega) h3 (by omega)
def sNr (x y u v re : Int) : Bool := decide (((x - u).natAbs : Int) ≤ re) && decide (((y - v).natAbs : Int) ≤ re)
/-- the PLACE by a WAY -/
def wX (way dx dy : Int) : Int := if way = 1 ∨ way = 2 ∨ way = 5 ∨ way = 6 then -(if way < 4 then dx else dy) else (if way < 4 then dx else dy)
def wY (way dx dy : Int) : Int := if way = 2 ∨ way = 3 ∨ way = 6 ∨ way = 7 then -(if way < 4 then dy else dx) else (if way < 4 then dy else dx)
theorem wXY_in {way dx dy s : Int} (hx : -s ≤ dx ∧ dx ≤ s) (hy : -s ≤ dy ∧ dy ≤ s) : (-s ≤ wX way dx dy ∧ wX way dx dy ≤ s) ∧ (-s ≤ wY way dx dy ∧ wY way dx dy ≤ s) := by
  unfold wX wY
  constructor <;> (split <;> split <;> omega)
def sWt (S : Int → Int → Int) (we i j : Int) : Int := if we = 0 then 1 else S i j / 250 + 1
def sAp (T : Int → Int → Int) (x y i j u v way : Int) : Int := T i j - T (u + wX way (i - x) (j - y)) (v + wY way (i - x) (j - y))
theorem sWt_bd {S : Int → Int → Int} {we i j : Int} (h : 0 ≤ S i j ∧ S i j ≤ 1000) : 1 ≤ sWt S we i j ∧ sWt S we i j ≤ 5 := by
  unfold sWt
  split <;> omega
/-- all of a patch is known -/
def sPl (w h : Int) (T : Int → Int → Int) (s u v : Int) : Prop := ∀ i j : Int, u - s ≤ i → i ≤ u + s → v - s ≤ j → j ≤ v + s → sKn w h T i j = true
theorem sWs.pl {w h : Int} {T F : Int → Int → Int} {s fo u v : Int} (hs : 0 ≤ s) (H : sWs w h T F s fo u v = true) : sPl w h T s u v := fun i j h1 h2 h3 h4 => by
  have := (sWs_iff hs).mp H i j h1 h2 h3 h4
  simp only [uOk, Bool.and_eq_true] at this
  exact this.1
theorem sPl.at {w h : Int} {T : Int → Int → Int} {s u v x y i j way : Int} (H : sPl w h T s u v) (hi : x - s ≤ i ∧ i ≤ x + s) (hj : y - s ≤ j ∧ j ≤ y + s) : sKn w h T (u + wX way (i - x) (j - y)) (v + wY way (i - x) (j - y)) = true := by
  have := wXY_in (way := way) (dx := i - x) (dy := j - y) (s := s) (by omega) (by omega)
  exact H _ _ (by omega) (by omega) (by omega) (by omega)
theorem sKn_in {w h : Int} {T : Int → Int → Int} {x y : Int} (H : sKn w h T x y = true) : sIn w h x y = true := by
  simp only [sKn, Bool.and_eq_true] at H
  exact H.1
theorem sKn_T {w h : Int} {T S F P O : Int → Int → Int} (A : aOk w h T S F P O) {x y : Int} (H : sKn w h T x y = true) : 0 ≤ T x y ∧ T x y ≤ 255 := by
  have h1 := A.T x y (sKn_in H)
  simp only [sKn, Bool.and_eq_true, decide_eq_true_eq] at H
  omega
theorem sAp_bd {w h : Int} {T S F P O : Int → Int → Int} (A : aOk w h T S F P O) {s u v x y i j way : Int} (H : sPl w h T s u v) (hk : sKn w h T i j = true) (hi : x - s ≤ i ∧ i ≤ x + s) (hj : y - s ≤ j ∧ j ≤ y + s) : -255 ≤ sAp T x y i j u v way ∧ sAp T x y i j u v way ≤ 255 := by
  have h1 := sKn_T A hk
  have h2 := sKn_T A (H.at (way := way) hi hj)
  unfold sAp
  omega
/-- sums for SHIFT and BOUND -/
def bdF (w h : Int) (T S : Int → Int → Int) (we x y u v way : Int) (q : Int × Int) (i j : Int) : Int × Int := if sKn w h T i j then (q.1 + sAp T x y i j u v way * sWt S we i j, q.2 + sWt S we i j) else q
def sB2 (w h : Int) (T S : Int → Int → Int) (s we x y u v way : Int) : Int × Int := fr2 (bdF w h T S we x y u v way) (x - s) (2 * s + 1).toNat (y - s) (2 * s + 1).toNat (0, 0)
def sSh (w h : Int) (T S : Int → Int → Int) (s we sh x y u v way : Int) : Int := if sh = 0 ∨ (sB2 w h T S s we x y u v way).2 = 0 then 0 else (sB2 w h T S s we x y u v way).1.tdiv (sB2 w h T S s we x y u v way).2
def sBo (w h : Int) (T S : Int → Int → Int) (s we sh x y u v way : Int) : Int := if (sB2 w h T S s we x y u v way).2 = 0 then 0 else (((sB2 w h T S s we x y u v way).1 - sSh w h T S s we sh x y u v way * (sB2 w h T S s we x y u v way).2) * ((sB2 w h T S s we x y u v way).1 - sSh w h T S s we sh x y u v way * (sB2 w h T S s we x y u v way).2)).tdiv (sB2 w h T S s we x y u v way).2
theorem bdF_bd {w h : Int} {T S F P O : Int → Int → Int} (A : aOk w h T S F P O) {s we u v x y i j way : Int} (H : sPl w h T s u v) (hi : x - s ≤ i ∧ i ≤ x + s) (hj : y - s ≤ j ∧ j ≤ y + s) {q : Int × Int} (hq : -(255 * q.2) ≤ q.1 ∧ q.1 ≤ 255 * q.2) : (-(255 * (bdF w h T S we x y u v way q i j).2) ≤ (bdF w h T S we x y u v way q i j).1 ∧ (bdF w h T S we x y u v way q i j).1 ≤ 255 * (bdF w h T S we x y u v way q i j).2) ∧ q.2 ≤ (bdF w h T S we x y u v way q i j).2 ∧ (bdF w h T S we x y u v way q i j).2 ≤ q.2 + 5 := by
  unfold bdF
  split
  · rename_i hk
    have h1 := sAp_bd A (way := way) H hk hi hj
    have h2 := sWt_bd (we := we) (A.S i j (sKn_in hk))
    generalize sAp T x y i j u v way = a at *
    generalize sWt S we i j = b at *
    have h3 : a * b ≤ 255 * b := Int.mul_le_mul_of_nonneg_right h1.2 (by omega)
    have h4 : -255 * b ≤ a * b := Int.mul_le_mul_of_nonneg_right h1.1 (by omega)
    simp only
    omega
  · omega
theorem sB2_bd {w h : Int} {T S F P O : Int → Int → Int} (A : aOk w h T S F P O) {s we u v x y way : Int} (hs : 0 ≤ s ∧ s ≤ 3) (H : sPl w h T s u v) : (-(255 * (sB2 w h T S s we x y u v way).2) ≤ (sB2 w h T S s we x y u v way).1 ∧ (sB2 w h T S s we x y u v way).1 ≤ 255 * (sB2 w h T S s we x y u v way).2) ∧ 0 ≤ (sB2 w h T S s we x y u v way).2 ∧ (sB2 w h T S s we x y u v way).2 ≤ 245 := by
  have key : ∀ (j : Int) (r : Int × Int), (y - s ≤ j ∧ j ≤ y + s) → (-(255 * r.2) ≤ r.1 ∧ r.1 ≤ 255 * r.2) → (-(255 * (fr (fun q i => bdF w h T S we x y u v way q i j) (x - s) (2 * s + 1).toNat r).2) ≤ (fr (fun q i => bdF w h T S we x y u v way q i j) (x - s) (2 * s + 1).toNat r).1 ∧ (fr (fun q i => bdF w h T S we x y u v way q i j) (x - s) (2 * s + 1).toNat r).1 ≤ 255 * (fr (fun q i => bdF w h T S we x y u v way q i j) (x - s) (2 * s + 1).toNat r).2) ∧ r.2 ≤ (fr (fun q i => bdF w h T S we x y u v way q i j) (x - s) (2 * s + 1).toNat r).2 ∧ (fr (fun q i => bdF w h T S we x y u v way q i j) (x - s) (2 * s + 1).toNat r).2 ≤ r.2 + 35 := by
    intro j r hj hr
    have := fr_ix (n := (2 * s + 1).toNat) (f := fun q i => bdF w h T S we x y u v way q i j) (a := x - s) (s := r) (fun m (q : Int × Int) => (-(255 * q.2) ≤ q.1 ∧ q.1 ≤ 255 * q.2) ∧ r.2 ≤ q.2 ∧ q.2 ≤ r.2 + 5 * (m : Int)) ⟨hr, by omega, by omega⟩ (fun m q hm hq => by
      have := bdF_bd A (we := we) (way := way) H (i := x - s + m) (j := j) (x := x) (y := y) (by omega) hj hq.1
      omega)
    omega
  have := fr_ix (n := (2 * s + 1).toNat) (f := fun q j => fr (fun q i => bdF w h T S we x y u v way q i j) (x - s) (2 * s + 1).toNat q) (a := y - s) (s := ((0, 0) : Int × Int)) (fun m (q : Int × Int) => (-(255 * q.2) ≤ q.1 ∧ q.1 ≤ 255 * q.2) ∧ 0 ≤ q.2 ∧ q.2 ≤ 35 * (m : Int)) ⟨⟨by decide, by decide⟩, by decide, by decide⟩ (fun m q hm hq => by
    have := key (y - s + m) q (by omega) hq.1
    omega)
  unfold sB2 fr2
  omega
theorem y_tdb {a b : Int} (hb : 0 < b) (h : -(255 * b) ≤ a ∧ a ≤ 255 * b) : -255 ≤ a.tdiv b ∧ a.tdiv b ≤ 255 := by
  rcases Int.le_total 0 a with h0 | h0
  · rw [Int.tdiv_eq_ediv_of_nonneg h0]
    exact ⟨Int.le_trans (by decide) (Int.ediv_nonneg h0 (by omega)), Int.ediv_le_of_le_mul hb h.2⟩
  · have e : a.tdiv b = -((-a) / b) := by
      rw [show a = -(-a) by omega, Int.neg_tdiv, Int.tdiv_eq_ediv_of_nonneg (by omega), Int.neg_neg]
    rw [e]
    have h1 : (-a) / b ≤ 255 := Int.ediv_le_of_le_mul hb (by omega)
    have h2 : 0 ≤ (-a) / b := Int.ediv_nonneg (by omega) (by omega)
    omega
theorem sSh_bd {w h : Int} {T S F P O : Int → Int → Int} (A : aOk w h T S F P O) {s we sh u v x y way : Int} (hs : 0 ≤ s ∧ s ≤ 3) (H : sPl w h T s u v) : -255 ≤ sSh w h T S s we sh x y u v way ∧ sSh w h T S s we sh x y u v way ≤ 255 := by
  have h1 := sB2_bd A (we := we) (way := way) (x := x) (y := y) hs H
  unfold sSh
  split
  · omega
  · exact y_tdb (by omega) h1.1
/-- a difference, up to a least one -/
def dfF (w h : Int) (T S : Int → Int → Int) (we x y u v way sf le : Int) (q : Int × Int) (i j : Int) : Int × Int := if sKn w h T i j then (if le ≤ q.1 then q else (q.1 + (sAp T x y i j u v way - sf) * (sAp T x y i j u v way - sf) * sWt S we i j, q.2 + 1)) else q
def sDf (w h : Int) (T S : Int → Int → Int) (s we x y u v way sf le : Int) : Int × Int := fr2 (dfF w h T S we x y u v way sf le) (x - s) (2 * s + 1).toNat (y - s) (2 * s + 1).toNat (0, 0)
theorem y_sq {a b : Int} (ha : -510 ≤ a ∧ a ≤ 510) (hb : 1 ≤ b ∧ b ≤ 5) : 0 ≤ a * a ∧ a * a ≤ 260100 ∧ 0 ≤ a * a * b ∧ a * a * b ≤ 1300500 := by
  have h1 : 0 ≤ a * a := by
    rcases Int.le_total 0 a with h | h
    · exact Int.mul_nonneg h h
    · exact Int.mul_nonneg_of_nonpos_of_nonpos h h
  have h2 : a * a ≤ 260100 := by
    rcases Int.le_total 0 a with h | h
    · have : a * a ≤ 510 * a := Int.mul_le_mul_of_nonneg_right ha.2 h
      omega
    · have : (-a) * (-a) ≤ 510 * (-a) := Int.mul_le_mul_of_nonneg_right (by omega) (by omega)
      rw [Int.neg_mul_neg] at this
      omega
  have h3 : 0 ≤ a * a * b := Int.mul_nonneg h1 (by omega)
  have h4 : a * a * b ≤ a * a * 5 := Int.mul_le_mul_of_nonneg_left hb.2 h1
  omega
theorem dfF_bd {w h : Int} {T S F P O : Int → Int → Int} (A : aOk w h T S F P O) {s we u v x y i j way sf le : Int} (H : sPl w h T s u v) (hsf : -255 ≤ sf ∧ sf ≤ 255) (hi : x - s ≤ i ∧ i ≤ x + s) (hj : y - s ≤ j ∧ j ≤ y + s) {q : Int × Int} (hq : 0 ≤ q.1 ∧ q.1 ≤ 1300500 * q.2) : (0 ≤ (dfF w h T S we x y u v way sf le q i j).1 ∧ (dfF w h T S we x y u v way sf le q i j).1 ≤ 1300500 * (dfF w h T S we x y u v way sf le q i j).2) ∧ q.1 ≤ (dfF w h T S we x y u v way sf le q i j).1 ∧ q.2 ≤ (dfF w h T S we x y u v way sf le q i j).2 ∧ (dfF w h T S we x y u v way sf le q i j).2 ≤ q.2 + 1 := by
  unfold dfF
  split
  · rename_i hk
    split
    · omega
    · have h1 := sAp_bd A (way := way) H hk hi hj
      have h2 := sWt_bd (we := we) (A.S i j (sKn_in hk))
      have h3 := y_sq (a := sAp T x y i j u v way - sf) (b := sWt S we i j) (by omega) h2
      simp only
      omega
  · omega
theorem sDf_bd {w h : Int} {T S F P O : Int → Int → Int} (A : aOk w h T S F P O) {s we u v x y way sf le : Int} (hs : 0 ≤ s ∧ s ≤ 3) (H : sPl w h T s u v) (hsf : -255 ≤ sf ∧ sf ≤ 255) : 0 ≤ (sDf w h T S s we x y u v way sf le).1 ∧ (sDf w h T S s we x y u v way sf le).1 ≤ 63724500 ∧ 0 ≤ (sDf w h T S s we x y u v way sf le).2 ∧ (sDf w h T S s we x y u v way sf le).2 ≤ 49 := by
  have key : ∀ (j : Int) (r : Int × Int), (y - s ≤ j ∧ j ≤ y + s) → (0 ≤ r.1 ∧ r.1 ≤ 1300500 * r.2) → (0 ≤ (fr (fun q i => dfF w h T S we x y u v way sf le q i j) (x - s) (2 * s + 1).toNat r).1 ∧ (fr (fun q i => dfF w h T S we x y u v way sf le q i j) (x - s) (2 * s + 1).toNat r).1 ≤ 1300500 * (fr (fun q i => dfF w h T S we x y u v way sf le q i j) (x - s) (2 * s + 1).toNat r).2) ∧ r.2 ≤ (fr (fun q i => dfF w h T S we x y u v way sf le q i j) (x - s) (2 * s + 1).toNat r).2 ∧ (fr (fun q i => dfF w h T S we x y u v way sf le q i j) (x - s) (2 * s + 1).toNat r).2 ≤ r.2 + 7 := by
    intro j r hj hr
    have := fr_ix (n := (2 * s + 1).toNat) (f := fun q i => dfF w h T S we x y u v way sf le q i j) (a := x - s) (s := r) (fun m (q : Int × Int) => (0 ≤ q.1 ∧ q.1 ≤ 1300500 * q.2) ∧ r.2 ≤ q.2 ∧ q.2 ≤ r.2 + (m : Int)) ⟨hr, by omega, by omega⟩ (fun m q hm hq => by
      have := dfF_bd A (we := we) (way := way) (sf := sf) (le := le) H hsf (i := x - s + m) (j := j) (x := x) (y := y) (by omega) hj hq.1
      omega)
    omega
  have := fr_ix (n := (2 * s + 1).toNat) (f := fun q j => fr (fun q i => dfF w h T S we x y u v way sf le q i j) (x - s) (2 * s + 1).toNat q) (a := y - s) (s := ((0, 0) : Int × Int)) (fun m (q : Int × Int) => (0 ≤ q.1 ∧ q.1 ≤ 1300500 * q.2) ∧ 0 ≤ q.2 ∧ q.2 ≤ 7 * (m : Int)) ⟨⟨by decide, by decide⟩, by decide, by decide⟩ (fun m q hm hq => by
    have := key (y - s + m) q (by omega) hq.1
    omega)
  unfold sDf fr2
  omega
