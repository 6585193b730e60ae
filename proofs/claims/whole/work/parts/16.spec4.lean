/-! what is asked, and what is best -/
theorem fr_fix {α : Type} {f : α → Int → α} {a : Int} {q : α} (hq : ∀ i, f q i = q) : ∀ n : Nat, fr f a n q = q
  | 0 => rfl
  | n + 1 => by rw [fr_s, fr_fix hq n, hq]
theorem fr_stop {α : Type} {f : α → Int → α} {a : Int} {s q : α} {m N : Nat} (hm : m ≤ N) (h : fr f a m s = q) (hq : ∀ i, f q i = q) : fr f a N s = q := by
  obtain ⟨d, rfl⟩ := Nat.exists_eq_add_of_le hm
  rw [fr_add, h, fr_fix hq]
theorem dfF_fix {w h : Int} {T S : Int → Int → Int} {we x y u v way sf le : Int} {q : Int × Int} (hq : le ≤ q.1) (i j : Int) : dfF w h T S we x y u v way sf le q i j = q := by
  unfold dfF
  rw [if_pos hq]
  split <;> rfl
theorem y_ddb {d c : Int} (hc : 0 < c) (h : -(255 * c) ≤ d ∧ d ≤ 255 * c) : 0 ≤ (d * d).tdiv c ∧ (d * d).tdiv c ≤ 65025 * c := by
  have h1 : 0 ≤ d * d := by
    rcases Int.le_total 0 d with h0 | h0
    · exact Int.mul_nonneg h0 h0
    · exact Int.mul_nonneg_of_nonpos_of_nonpos h0 h0
  have h2 : d * d ≤ 65025 * c * c := by
    have e : 65025 * c * c = (255 * c) * (255 * c) := by
      rw [show (255 * c) * (255 * c) = 255 * (255 * c * c) by rw [Int.mul_assoc, Int.mul_comm c (255 * c)], show 65025 * c * c = 255 * (255 * c * c) by rw [Int.mul_assoc, Int.mul_assoc, show (65025 : Int) = 255 * 255 by decide, Int.mul_assoc]]
    rw [e]
    rcases Int.le_total 0 d with h0 | h0
    · exact Int.mul_le_mul h.2 h.2 h0 (by omega)
    · rw [← Int.neg_mul_neg]
      exact Int.mul_le_mul (by omega) (by omega) (by omega) (by omega)
  rw [Int.tdiv_eq_ediv_of_nonneg h1]
  exact ⟨Int.ediv_nonneg h1 (by omega), Int.ediv_le_of_le_mul hc h2⟩
theorem sBo_bd {w h : Int} {T S F P O : Int → Int → Int} (A : aOk w h T S F P O) {s we sh u v x y way : Int} (hs : 0 ≤ s ∧ s ≤ 3) (H : sPl w h T s u v) : 0 ≤ sBo w h T S s we sh x y u v way ∧ sBo w h T S s we sh x y u v way ≤ 15931125 := by
  have h1 := sB2_bd A (we := we) (way := way) (x := x) (y := y) hs H
  unfold sBo
  split
  · omega
  · rename_i hc
    have h2 : -(255 * (sB2 w h T S s we x y u v way).2) ≤ (sB2 w h T S s we x y u v way).1 - sSh w h T S s we sh x y u v way * (sB2 w h T S s we x y u v way).2 ∧ (sB2 w h T S s we x y u v way).1 - sSh w h T S s we sh x y u v way * (sB2 w h T S s we x y u v way).2 ≤ 255 * (sB2 w h T S s we x y u v way).2 := by
      unfold sSh
      split
      · rw [Int.zero_mul, Int.sub_zero]
        exact h1.1
      · have e : (sB2 w h T S s we x y u v way).1 - (sB2 w h T S s we x y u v way).1.tdiv (sB2 w h T S s we x y u v way).2 * (sB2 w h T S s we x y u v way).2 = (sB2 w h T S s we x y u v way).1.tmod (sB2 w h T S s we x y u v way).2 := by
          have := Int.tmod_add_mul_tdiv (sB2 w h T S s we x y u v way).1 (sB2 w h T S s we x y u v way).2
          rw [Int.mul_comm] at this
          omega
        rw [e]
        have := tmod_bounds (a := (sB2 w h T S s we x y u v way).1) (M := (sB2 w h T S s we x y u v way).2) (by omega)
        omega
    have := y_ddb (by omega) h2
    omega
/-- what a search knows: best x, y, way, shift, difference; sources, skipped, stopped, looked -/
abbrev aQ : Type := Int × Int × Int × Int × Int × Int × Int × Int × Int
def qBd (q : aQ) : Int := q.2.2.2.2.1
def asG (u v way sf bo d c : Int) (q : aQ) : aQ := match q with
  | (bx, by_, bw, bs, bd, so, sk, sp, lo) =>
    if bx ≠ -1 ∧ bd ≤ bo then (bx, by_, bw, bs, bd, so + 1, sk + 1, sp, lo)
    else if bx ≠ -1 ∧ bd ≤ d then (bx, by_, bw, bs, bd, so + 1, sk, sp + 1, lo + c)
    else (u, v, way, sf, d, so + 1, sk, sp, lo + c)
def asF (w h : Int) (T S : Int → Int → Int) (s we sh x y u v : Int) (q : aQ) (way : Int) : aQ := asG u v way (sSh w h T S s we sh x y u v way) (sBo w h T S s we sh x y u v way) (sDf w h T S s we x y u v way (sSh w h T S s we sh x y u v way) (if q.1 = -1 then 1000000000 else qBd q)).1 (sDf w h T S s we x y u v way (sSh w h T S s we sh x y u v way) (if q.1 = -1 then 1000000000 else qBd q)).2 q
def sAs (w h : Int) (T S : Int → Int → Int) (s tu we sh x y u v : Int) (q : aQ) : aQ := fr (asF w h T S s we sh x y u v) 0 (2 ^ tu.toNat) q
def q0 : aQ := (-1, -1, -1, 0, -1, 0, 0, 0, 0)
/-- the numbers of a search are in order -/
def qOk (w h : Int) (T : Int → Int → Int) (s : Int) (q : aQ) : Prop := match q with
  | (bx, by_, bw, bs, bd, so, _, _, _) => (bx = -1 ∧ by_ = -1 ∧ bw = -1 ∧ bs = 0 ∧ bd = -1 ∧ so = 0 ∨ (sIn w h bx by_ = true ∧ sPl w h T s bx by_ ∧ (0 ≤ bw ∧ bw ≤ 7) ∧ (-255 ≤ bs ∧ bs ≤ 255) ∧ (0 ≤ bd ∧ bd ≤ 63724500) ∧ 1 ≤ so)) ∧ so ≤ 1000000000
def qSo (q : aQ) : Int := q.2.2.2.2.2.1
theorem asG_so (u v way sf bo d c : Int) (q : aQ) : qSo (asG u v way sf bo d c q) = qSo q + 1 := by
  obtain ⟨bx, by_, bw, bs, bd, so, sk, sp, lo⟩ := q
  unfold asG
  simp only
  split
  · rfl
  · split <;> rfl
theorem asF_so (w h : Int) (T S : Int → Int → Int) (s we sh x y u v : Int) (q : aQ) (way : Int) : qSo (asF w h T S s we sh x y u v q way) = qSo q + 1 := asG_so _ _ _ _ _ _ _ _
theorem asG_ok {w h : Int} {T : Int → Int → Int} {s u v way sf bo d c : Int} (H : sPl w h T s u v) (huv : sIn w h u v = true) (hw : 0 ≤ way ∧ way ≤ 7) (h1 : -255 ≤ sf ∧ sf ≤ 255) (h2 : 0 ≤ d ∧ d ≤ 63724500) {q : aQ} (hq : qOk w h T s q) (hso : qSo q < 1000000000) : qOk w h T s (asG u v way sf bo d c q) := by
  obtain ⟨bx, by_, bw, bs, bd, so, sk, sp, lo⟩ := q
  have hso : so < 1000000000 := hso
  obtain ⟨hq, hq2⟩ := hq
  unfold asG
  simp only
  split
  · rename_i hc
    rcases hq with hq | hq
    · exact absurd hq.1 hc.1
    · exact ⟨Or.inr ⟨hq.1, hq.2.1, hq.2.2.1, hq.2.2.2.1, hq.2.2.2.2.1, by omega⟩, by omega⟩
  · split
    · rename_i hc
      rcases hq with hq | hq
      · exact absurd hq.1 hc.1
      · exact ⟨Or.inr ⟨hq.1, hq.2.1, hq.2.2.1, hq.2.2.2.1, hq.2.2.2.2.1, by omega⟩, by omega⟩
    · refine ⟨Or.inr ⟨huv, H, hw, h1, h2, ?_⟩, by omega⟩
      rcases hq with hq | hq <;> omega
theorem asF_ok {w h : Int} {T S F P O : Int → Int → Int} (A : aOk w h T S F P O) {s we sh u v x y way : Int} (hs : 0 ≤ s ∧ s ≤ 3) (H : sPl w h T s u v) (huv : sIn w h u v = true) (hw : 0 ≤ way ∧ way ≤ 7) {q : aQ} (hq : qOk w h T s q) (hso : qSo q < 1000000000) : qOk w h T s (asF w h T S s we sh x y u v q way) := by
  have h1 := sSh_bd A (we := we) (sh := sh) (way := way) (x := x) (y := y) hs H
  have h2 := sDf_bd A (we := we) (way := way) (x := x) (y := y) (sf := sSh w h T S s we sh x y u v way) (le := (if q.1 = -1 then 1000000000 else qBd q)) hs H h1
  exact asG_ok H huv hw h1 ⟨h2.1, h2.2.1⟩ hq hso
/-- the search for (x, y): over all within reach, and over four by four round a parent -/
def scF (w h : Int) (T S F : Int → Int → Int) (s fo tu we sh x y re : Int) (q : aQ) (u v : Int) : aQ := if sNr x y u v re && sWs w h T F s fo u v then sAs w h T S s tu we sh x y u v q else q
def sSe (w h : Int) (T S F : Int → Int → Int) (s fo tu we sh x y re : Int) : aQ := fr2 (scF w h T S F s fo tu we sh x y re) 0 w.toNat 0 h.toNat q0
def sgF (w h : Int) (T S F : Int → Int → Int) (s fo tu we sh x y : Int) (q : aQ) (u v : Int) : aQ := if sIn w h u v && sWs w h T F s fo u v then sAs w h T S s tu we sh x y u v q else q
/-- guided by the coarser one's fills and parents at the dot's half -/
def sGu (w h : Int) (T S F : Int → Int → Int) (s re fo tu we sh x y : Int) (f p : Int) : aQ :=
  let q := if 0 < f then fr2 (sgF w h T S F s fo tu we sh x y) (2 * (p % 20) - 1) 4 (2 * (p / 20) - 1) 4 q0 else q0
  if qSo q = 0 then sSe w h T S F s fo tu we sh x y re else q
theorem y_p2 {t : Int} (h : 0 ≤ t ∧ t ≤ 3) : (2 : Int) ^ t.toNat = 1 ∨ (2 : Int) ^ t.toNat = 2 ∨ (2 : Int) ^ t.toNat = 4 ∨ (2 : Int) ^ t.toNat = 8 := by
  rcases (show t = 0 ∨ t = 1 ∨ t = 2 ∨ t = 3 by omega) with rfl | rfl | rfl | rfl <;> decide
theorem y_p2n {t : Int} (h : 0 ≤ t ∧ t ≤ 3) : ((2 : Int) ^ t.toNat).toNat = 2 ^ t.toNat := by
  rcases (show t = 0 ∨ t = 1 ∨ t = 2 ∨ t = 3 by omega) with rfl | rfl | rfl | rfl <;> decide
theorem sAs_so {w h : Int} {T S : Int → Int → Int} {s tu we sh x y u v : Int} {q : aQ} (ht : 0 ≤ tu ∧ tu ≤ 3) : qSo q < qSo (sAs w h T S s tu we sh x y u v q) ∧ qSo (sAs w h T S s tu we sh x y u v q) ≤ qSo q + 8 := by
  have := fr_ix (n := 2 ^ tu.toNat) (f := asF w h T S s we sh x y u v) (a := 0) (s := q) (fun m r => qSo r = qSo q + (m : Int)) (by simp) (fun m r _ hr => by rw [asF_so, hr]; omega)
  unfold sAs
  rw [this]
  have h2 := y_p2 ht
  have h3 : ((2 ^ tu.toNat : Nat) : Int) = 2 ^ tu.toNat := by simp
  rw [h3]
  omega
theorem sAs_ok {w h : Int} {T S F P O : Int → Int → Int} (A : aOk w h T S F P O) {s tu we sh u v x y : Int} (hs : 0 ≤ s ∧ s ≤ 3) (ht : 0 ≤ tu ∧ tu ≤ 3) (H : sPl w h T s u v) (huv : sIn w h u v = true) {q : aQ} (hq : qOk w h T s q) (hso : qSo q < 1000000) : qOk w h T s (sAs w h T S s tu we sh x y u v q) := by
  have h2 := y_p2 ht
  have h3 : ((2 ^ tu.toNat : Nat) : Int) = 2 ^ tu.toNat := by simp
  have := fr_ix (n := 2 ^ tu.toNat) (f := asF w h T S s we sh x y u v) (a := 0) (s := q) (fun m r => qOk w h T s r ∧ qSo r = qSo q + (m : Int)) ⟨hq, by simp⟩ (fun m r hm hr => ⟨asF_ok A hs H huv (by omega) hr.1 (by omega), by rw [asF_so, hr.2]; omega⟩)
  exact this.1
