/-! the search finds the first least: a bound never hides one -/
theorem sq_nn (a : Int) : 0 ≤ a * a := by
  rcases Int.le_total 0 a with h | h
  · exact Int.mul_nonneg h h
  · exact Int.mul_nonneg_of_nonpos_of_nonpos h h
theorem cs_key {B a p d : Int} (ha : 0 ≤ a) (hp : 0 ≤ p) (h : B * B ≤ a * p) : 2 * (d * B) ≤ a * (d * d) + p := by
  rcases Int.lt_or_le (a * (d * d) + p) (2 * (d * B)) with hc | hc
  · exfalso
    have h1 : a * p ≤ a * (2 * (d * B) - a * (d * d) - 1) := Int.mul_le_mul_of_nonneg_left (by omega) ha
    have h2 := sq_nn (B - a * d)
    have e1 : a * (2 * (d * B) - a * (d * d) - 1) = 2 * (a * (d * B)) - a * (a * (d * d)) - a := by
      rw [Int.mul_sub, Int.mul_sub, Int.mul_one, Int.mul_left_comm a 2]
    have e2 : (B - a * d) * (B - a * d) = B * B - 2 * (a * (d * B)) + a * (a * (d * d)) := by
      rw [Int.sub_mul, Int.mul_sub, Int.mul_sub]
      have q1 : B * (a * d) = a * (d * B) := by rw [Int.mul_comm B, Int.mul_assoc]
      have q2 : a * d * B = a * (d * B) := Int.mul_assoc _ _ _
      have q3 : a * d * (a * d) = a * (a * (d * d)) := by rw [Int.mul_assoc, Int.mul_left_comm d a d]
      rw [q1, q2, q3]
      omega
    rw [e1] at h1
    rw [e2] at h2
    rcases (show a = 0 ∨ 0 < a by omega) with e | e
    · subst e
      rw [Int.zero_mul] at h
      have hB : B = 0 := by
        rcases Int.lt_trichotomy B 0 with q | q | q
        · have := Int.mul_pos_of_neg_of_neg q q
          omega
        · exact q
        · have := Int.mul_pos q q
          omega
      subst hB
      rw [Int.zero_mul, Int.mul_zero] at hc
      omega
    · omega
  · exact hc
theorem cs_step {B a p d w : Int} (ha : 0 ≤ a) (hp : 0 ≤ p) (hw : 0 ≤ w) (h : B * B ≤ a * p) : (B + d * w) * (B + d * w) ≤ (a + w) * (p + d * d * w) := by
  have k := Int.mul_le_mul_of_nonneg_left (cs_key (d := d) ha hp h) hw
  have e1 : (B + d * w) * (B + d * w) = B * B + w * (2 * (d * B)) + w * (w * (d * d)) := by
    rw [Int.add_mul, Int.mul_add, Int.mul_add]
    have q1 : B * (d * w) = w * (d * B) := by rw [Int.mul_comm B, Int.mul_comm d w, Int.mul_assoc]
    have q2 : d * w * B = w * (d * B) := by rw [Int.mul_comm d w, Int.mul_assoc]
    have q3 : d * w * (d * w) = w * (w * (d * d)) := by rw [Int.mul_comm d w, Int.mul_assoc, Int.mul_left_comm d w d]
    have q4 : w * (2 * (d * B)) = 2 * (w * (d * B)) := Int.mul_left_comm _ _ _
    rw [q1, q2, q3, q4]
    omega
  have e2 : (a + w) * (p + d * d * w) = a * p + w * (a * (d * d) + p) + w * (w * (d * d)) := by
    rw [Int.add_mul, Int.mul_add, Int.mul_add, Int.mul_add]
    have q1 : a * (d * d * w) = w * (a * (d * d)) := by rw [Int.mul_comm (d * d) w, Int.mul_left_comm]
    have q2 : w * (d * d * w) = w * (w * (d * d)) := by rw [Int.mul_comm (d * d) w]
    rw [q1, q2]
    omega
  rw [e1, e2]
  omega
/-- the whole difference -/
def dnF (w h : Int) (T S : Int → Int → Int) (we x y u v way sf : Int) (q i j : Int) : Int := if sKn w h T i j then q + (sAp T x y i j u v way - sf) * (sAp T x y i j u v way - sf) * sWt S we i j else q
def sDn (w h : Int) (T S : Int → Int → Int) (s we x y u v way sf : Int) : Int := fr2 (dnF w h T S we x y u v way sf) (x - s) (2 * s + 1).toNat (y - s) (2 * s + 1).toNat 0
theorem sDf_dn {w h : Int} {T S F P O : Int → Int → Int} (A : aOk w h T S F P O) {s we x y u v way sf le : Int} : (sDf w h T S s we x y u v way sf le).1 = sDn w h T S s we x y u v way sf ∨ (le ≤ (sDf w h T S s we x y u v way sf le).1 ∧ (sDf w h T S s we x y u v way sf le).1 ≤ sDn w h T S s we x y u v way sf) := by
  unfold sDf sDn fr2
  refine fr_two (fun (q : Int × Int) (p : Int) => q.1 = p ∨ (le ≤ q.1 ∧ q.1 ≤ p)) (Or.inl rfl) (fun q p j _ _ hq => fr_two (fun (q : Int × Int) (p : Int) => q.1 = p ∨ (le ≤ q.1 ∧ q.1 ≤ p)) hq (fun q p i _ _ hq => ?_))
  unfold dfF dnF
  by_cases hk : sKn w h T i j = true
  · rw [if_pos hk, if_pos hk]
    have hw := sWt_bd (we := we) (A.S i j (sKn_in hk))
    have hn := Int.mul_nonneg (sq_nn (sAp T x y i j u v way - sf)) (show 0 ≤ sWt S we i j by omega)
    split
    · right
      omega
    · rcases hq with e | e
      · left
        show q.1 + _ = p + _
        rw [e]
      · omega
  · rw [if_neg hk, if_neg hk]
    exact hq
theorem sBo_le {w h : Int} {T S F P O : Int → Int → Int} (A : aOk w h T S F P O) {s we sh x y u v way : Int} : sBo w h T S s we sh x y u v way ≤ sDn w h T S s we x y u v way (sSh w h T S s we sh x y u v way) := by
  obtain ⟨sf, hsf⟩ : ∃ sf, sf = sSh w h T S s we sh x y u v way := ⟨_, rfl⟩
  have key : 0 ≤ (sB2 w h T S s we x y u v way).2 ∧ 0 ≤ sDn w h T S s we x y u v way sf ∧ ((sB2 w h T S s we x y u v way).1 - sf * (sB2 w h T S s we x y u v way).2) * ((sB2 w h T S s we x y u v way).1 - sf * (sB2 w h T S s we x y u v way).2) ≤ (sB2 w h T S s we x y u v way).2 * sDn w h T S s we x y u v way sf := by
    unfold sB2 sDn fr2
    refine fr_two (fun (q : Int × Int) (p : Int) => 0 ≤ q.2 ∧ 0 ≤ p ∧ (q.1 - sf * q.2) * (q.1 - sf * q.2) ≤ q.2 * p) ⟨Int.le_refl 0, Int.le_refl 0, by simp⟩ (fun q p j _ _ hq => fr_two (fun (q : Int × Int) (p : Int) => 0 ≤ q.2 ∧ 0 ≤ p ∧ (q.1 - sf * q.2) * (q.1 - sf * q.2) ≤ q.2 * p) hq (fun q p i _ _ hq => ?_))
    unfold bdF dnF
    by_cases hk : sKn w h T i j = true
    · rw [if_pos hk, if_pos hk]
      have hw := sWt_bd (we := we) (A.S i j (sKn_in hk))
      have hn := Int.mul_nonneg (sq_nn (sAp T x y i j u v way - sf)) (show 0 ≤ sWt S we i j by omega)
      refine ⟨by show 0 ≤ q.2 + _; omega, by omega, ?_⟩
      show (q.1 + sAp T x y i j u v way * sWt S we i j - sf * (q.2 + sWt S we i j)) * (q.1 + sAp T x y i j u v way * sWt S we i j - sf * (q.2 + sWt S we i j)) ≤ (q.2 + sWt S we i j) * (p + (sAp T x y i j u v way - sf) * (sAp T x y i j u v way - sf) * sWt S we i j)
      have e : q.1 + sAp T x y i j u v way * sWt S we i j - sf * (q.2 + sWt S we i j) = (q.1 - sf * q.2) + (sAp T x y i j u v way - sf) * sWt S we i j := by
        rw [Int.mul_add, Int.sub_mul]
        omega
      rw [e]
      exact cs_step hq.1 hq.2.1 (by omega) hq.2.2
    · rw [if_neg hk, if_neg hk]
      exact hq
  unfold sBo
  rw [← hsf]
  split
  · exact key.2.1
  · rename_i h0
    rw [Int.tdiv_eq_ediv_of_nonneg (sq_nn _)]
    exact Int.ediv_le_of_le_mul (by omega) (Int.le_trans key.2.2 (Int.le_of_eq (Int.mul_comm _ _)))
/-- what a question does to the best so far -/
theorem asF_core {w h : Int} {T S F P O : Int → Int → Int} (A : aOk w h T S F P O) {s we sh x y u v way : Int} (hs : 0 ≤ s ∧ s ≤ 3) (H : sPl w h T s u v) (q : aQ) : ((q.1 = -1 ∨ sDn w h T S s we x y u v way (sSh w h T S s we sh x y u v way) < qBd q) → (asF w h T S s we sh x y u v q way).1 = u ∧ (asF w h T S s we sh x y u v q way).2.1 = v ∧ (asF w h T S s we sh x y u v q way).2.2.1 = way ∧ qBd (asF w h T S s we sh x y u v q way) = sDn w h T S s we x y u v way (sSh w h T S s we sh x y u v way)) ∧ (¬ (q.1 = -1 ∨ sDn w h T S s we x y u v way (sSh w h T S s we sh x y u v way) < qBd q) → (asF w h T S s we sh x y u v q way).1 = q.1 ∧ (asF w h T S s we sh x y u v q way).2.1 = q.2.1 ∧ (asF w h T S s we sh x y u v q way).2.2.1 = q.2.2.1 ∧ qBd (asF w h T S s we sh x y u v q way) = qBd q) := by
  have h1 := sSh_bd A (we := we) (sh := sh) (way := way) (x := x) (y := y) hs H
  have h2 := sDf_bd A (we := we) (way := way) (x := x) (y := y) (sf := sSh w h T S s we sh x y u v way) (le := (if q.1 = -1 then 1000000000 else qBd q)) hs H h1
  have h3 := sDf_dn A (s := s) (we := we) (way := way) (x := x) (y := y) (u := u) (v := v) (sf := sSh w h T S s we sh x y u v way) (le := (if q.1 = -1 then 1000000000 else qBd q))
  have h4 := sBo_le A (s := s) (we := we) (sh := sh) (way := way) (x := x) (y := y) (u := u) (v := v)
  unfold asF
  obtain ⟨D, hD⟩ : ∃ D, D = sDn w h T S s we x y u v way (sSh w h T S s we sh x y u v way) := ⟨_, rfl⟩
  obtain ⟨d, hd⟩ : ∃ d, d = sDf w h T S s we x y u v way (sSh w h T S s we sh x y u v way) (if q.1 = -1 then 1000000000 else qBd q) := ⟨_, rfl⟩
  obtain ⟨bo, hbo⟩ : ∃ b, b = sBo w h T S s we sh x y u v way := ⟨_, rfl⟩
  rw [← hD, ← hd] at h3
  rw [← hbo, ← hD] at h4
  rw [← hd] at h2
  rw [← hD, ← hd, ← hbo]
  obtain ⟨bx, by_, bw, bs, bd, so, sk, sp, lo⟩ := q
  have hq1 : ((bx, by_, bw, bs, bd, so, sk, sp, lo) : aQ).1 = bx := rfl
  have hq5 : qBd (bx, by_, bw, bs, bd, so, sk, sp, lo) = bd := rfl
  rw [hq1, hq5] at h3
  rw [hq1, hq5]
  unfold asG
  simp only
  by_cases e : bx = -1
  · rw [if_pos e] at h3
    refine ⟨fun _ => ?_, fun hc => absurd (Or.inl e) hc⟩
    rw [if_neg (fun q => q.1 e), if_neg (fun q => q.1 e)]
    exact ⟨rfl, rfl, rfl, by show d.1 = D; omega⟩
  · rw [if_neg e] at h3
    by_cases e1 : bd ≤ bo
    · rw [if_pos ⟨e, e1⟩]
      exact ⟨fun hc => by omega, fun _ => ⟨rfl, rfl, rfl, rfl⟩⟩
    · rw [if_neg (fun q => e1 q.2)]
      by_cases e2 : bd ≤ d.1
      · rw [if_pos ⟨e, e2⟩]
        exact ⟨fun hc => by omega, fun _ => ⟨rfl, rfl, rfl, rfl⟩⟩
      · rw [if_neg (fun q => e2 q.2)]
        exact ⟨fun _ => ⟨rfl, rfl, rfl, by show d.1 = D; omega⟩, fun hc => by omega⟩
/-- a search of all against one of those within r -/
def rRr (x y r : Int) (q q' : aQ) : Prop := (q.1 = -1 → q'.1 = -1) ∧ (q.1 ≠ -1 → (sNr x y q.1 q.2.1 r = true → (q'.1 = q.1 ∧ q'.2.1 = q.2.1 ∧ q'.2.2.1 = q.2.2.1 ∧ qBd q' = qBd q)) ∧ (q'.1 = -1 ∨ qBd q ≤ qBd q')) ∧ (q'.1 ≠ -1 → sNr x y q'.1 q'.2.1 r = true)
theorem rRr_both {w h : Int} {T S F P O : Int → Int → Int} (A : aOk w h T S F P O) {s we sh x y u v way r : Int} (hs : 0 ≤ s ∧ s ≤ 3) (H : sPl w h T s u v) (hu : 0 ≤ u) (hN : sNr x y u v r = true) {q q' : aQ} (R : rRr x y r q q') : rRr x y r (asF w h T S s we sh x y u v q way) (asF w h T S s we sh x y u v q' way) := by
  have c1 := asF_core A (we := we) (sh := sh) (x := x) (y := y) (way := way) hs H q
  have c2 := asF_core A (we := we) (sh := sh) (x := x) (y := y) (way := way) hs H q'
  obtain ⟨a1, ha1⟩ : ∃ a, a = asF w h T S s we sh x y u v q way := ⟨_, rfl⟩
  obtain ⟨a2, ha2⟩ : ∃ a, a = asF w h T S s we sh x y u v q' way := ⟨_, rfl⟩
  obtain ⟨D, hD⟩ : ∃ D, D = sDn w h T S s we x y u v way (sSh w h T S s we sh x y u v way) := ⟨_, rfl⟩
  rw [← ha1, ← hD] at c1
  rw [← ha2, ← hD] at c2
  rw [← ha1, ← ha2]
  obtain ⟨R1, R2, R3⟩ := R
  unfold rRr
  by_cases e : q.1 = -1 ∨ D < qBd q
  · have k1 := c1.1 e
    have e' : q'.1 = -1 ∨ D < qBd q' := by
      by_cases e0 : q.1 = -1
      · exact Or.inl (R1 e0)
      · rcases (R2 e0).2 with k | k
        · exact Or.inl k
        · right; omega
    have k2 := c2.1 e'
    rw [k1.1, k1.2.1, k1.2.2.1, k1.2.2.2, k2.1, k2.2.1, k2.2.2.1, k2.2.2.2]
    exact ⟨fun hh => by omega, fun _ => ⟨fun _ => ⟨rfl, rfl, rfl, rfl⟩, Or.inr (Int.le_refl _)⟩, fun _ => hN⟩
  · have k1 := c1.2 e
    have e0 : q.1 ≠ -1 := fun h => e (Or.inl h)
    by_cases e' : q'.1 = -1 ∨ D < qBd q'
    · have k2 := c2.1 e'
      rw [k1.1, k1.2.1, k1.2.2.1, k1.2.2.2, k2.1, k2.2.1, k2.2.2.1, k2.2.2.2]
      refine ⟨fun hh => absurd hh e0, fun _ => ⟨fun hp => ?_, Or.inr (by omega)⟩, fun _ => hN⟩
      have := (R2 e0).1 hp
      omega
    · have k2 := c2.2 e'
      rw [k1.1, k1.2.1, k1.2.2.1, k1.2.2.2, k2.1, k2.2.1, k2.2.2.1, k2.2.2.2]
      exact ⟨R1, R2, R3⟩
theorem rRr_one {w h : Int} {T S F P O : Int → Int → Int} (A : aOk w h T S F P O) {s we sh x y u v way r : Int} (hs : 0 ≤ s ∧ s ≤ 3) (H : sPl w h T s u v) (hu : 0 ≤ u) (hN : sNr x y u v r = false) {q q' : aQ} (R : rRr x y r q q') : rRr x y r (asF w h T S s we sh x y u v q way) q' := by
  have c1 := asF_core A (we := we) (sh := sh) (x := x) (y := y) (way := way) hs H q
  obtain ⟨a1, ha1⟩ : ∃ a, a = asF w h T S s we sh x y u v q way := ⟨_, rfl⟩
  obtain ⟨D, hD⟩ : ∃ D, D = sDn w h T S s we x y u v way (sSh w h T S s we sh x y u v way) := ⟨_, rfl⟩
  rw [← ha1, ← hD] at c1
  rw [← ha1]
  obtain ⟨R1, R2, R3⟩ := R
  unfold rRr
  by_cases e : q.1 = -1 ∨ D < qBd q
  · have k1 := c1.1 e
    rw [k1.1, k1.2.1, k1.2.2.1, k1.2.2.2]
    refine ⟨fun hh => by omega, fun _ => ⟨fun hp => (by rw [hN] at hp; cases hp), ?_⟩, R3⟩
    by_cases e0 : q.1 = -1
    · exact Or.inl (R1 e0)
    · rcases (R2 e0).2 with k | k
      · exact Or.inl k
      · right; omega
  · have k1 := c1.2 e
    rw [k1.1, k1.2.1, k1.2.2.1, k1.2.2.2]
    exact ⟨R1, R2, R3⟩
theorem sSe_rr {w h : Int} {T S F P O : Int → Int → Int} (A : aOk w h T S F P O) {s fo tu we sh x y r : Int} (hs : 0 ≤ s ∧ s ≤ 3) (hi : sIn w h x y = true) : rRr x y r (sSe w h T S F s fo tu we sh x y 20) (sSe w h T S F s fo tu we sh x y r) := by
  have hw := A.1
  have hx := sIn_iff.mp hi
  unfold sSe fr2
  refine fr_two (rRr x y r) ⟨fun _ => rfl, fun hh => absurd rfl hh, fun hh => absurd rfl hh⟩ (fun q q' v v1 v2 R => fr_two (rRr x y r) R (fun q q' u u1 u2 R => ?_))
  unfold scF
  by_cases hW : sWs w h T F s fo u v = true
  · have hn : sNr x y u v 20 = true := by
      unfold sNr
      simp only [Bool.and_eq_true, decide_eq_true_eq]
      omega
    have H := sWs.pl hs.1 hW
    rw [if_pos (by rw [hn, hW]; rfl)]
    rcases hb : sNr x y u v r with _ | _
    · rw [if_neg (by simp)]
      unfold sAs
      exact fr_inv (fun p => rRr x y r p q') R (fun p way _ _ R => rRr_one A hs H (by omega) hb R)
    · rw [if_pos (by rw [hW]; rfl)]
      unfold sAs
      exact fr_two (rRr x y r) R (fun p p' way _ _ R => rRr_both A hs H (by omega) hb R)
  · rw [if_neg (by simp [hW]), if_neg (by simp [hW])]
    exact R
/-- whether there is a source within r, against the least reach of any -/
theorem sAs_ne {w h : Int} {T S F P O : Int → Int → Int} (A : aOk w h T S F P O) {s tu we sh x y u v : Int} (hs : 0 ≤ s ∧ s ≤ 3) (ht : 0 ≤ tu ∧ tu ≤ 3) (H : sPl w h T s u v) (hu : 0 ≤ u) (q : aQ) : (sAs w h T S s tu we sh x y u v q).1 ≠ -1 := by
  have hp := y_p2 ht
  have h3 : ((2 ^ tu.toNat : Nat) : Int) = 2 ^ tu.toNat := by simp
  obtain ⟨m, hm⟩ : ∃ m : Nat, 2 ^ tu.toNat = m + 1 := ⟨2 ^ tu.toNat - 1, by omega⟩
  unfold sAs
  rw [hm]
  have := fr_ix (n := m + 1) (f := asF w h T S s we sh x y u v) (a := 0) (s := q) (fun k (r : aQ) => 0 < k → r.1 ≠ -1) (fun hh => absurd hh (by omega)) (fun k r _ hr _ => by
    have c := asF_core A (we := we) (sh := sh) (x := x) (y := y) (way := 0 + (k : Int)) hs H r
    by_cases e : r.1 = -1 ∨ sDn w h T S s we x y u v (0 + (k : Int)) (sSh w h T S s we sh x y u v (0 + (k : Int))) < qBd r
    · rw [(c.1 e).1]
      omega
    · rw [(c.2 e).1]
      exact fun hh => e (Or.inl hh))
  exact this (by omega)
def lrG (w h : Int) (T F : Int → Int → Int) (s fo x y l u v : Int) : Int := if sWs w h T F s fo u v = true ∧ (l = -1 ∨ max 1 (max ((u - x).natAbs : Int) ((v - y).natAbs : Int)) < l) then max 1 (max ((u - x).natAbs : Int) ((v - y).natAbs : Int)) else l
theorem sSe_lr {w h : Int} {T S F P O : Int → Int → Int} (A : aOk w h T S F P O) {s fo tu we sh x y r : Int} (hs : 0 ≤ s ∧ s ≤ 3) (ht : 0 ≤ tu ∧ tu ≤ 3) (hi : sIn w h x y = true) (hr : 1 ≤ r) : ((sSe w h T S F s fo tu we sh x y r).1 ≠ -1 ↔ (sLr w h T F s fo x y ≠ -1 ∧ sLr w h T F s fo x y ≤ r)) ∧ (sLr w h T F s fo x y = -1 ∨ (1 ≤ sLr w h T F s fo x y ∧ sLr w h T F s fo x y ≤ 20)) := by
  have hw := A.1
  have hx := sIn_iff.mp hi
  have e : sLr w h T F s fo x y = fr2 (lrG w h T F s fo x y) 0 w.toNat 0 h.toNat (-1) := by
    unfold sLr
    exact fr_linI (lrG w h T F s fo x y) (by omega) (by omega) (-1)
  rw [e]
  unfold sSe fr2
  refine fr_two (fun (q : aQ) (l : Int) => (q.1 ≠ -1 ↔ (l ≠ -1 ∧ l ≤ r)) ∧ (l = -1 ∨ (1 ≤ l ∧ l ≤ 20))) ⟨⟨fun hh => absurd rfl hh, fun hh => absurd rfl hh.1⟩, Or.inl rfl⟩ (fun q l v v1 v2 R => fr_two (fun (q : aQ) (l : Int) => (q.1 ≠ -1 ↔ (l ≠ -1 ∧ l ≤ r)) ∧ (l = -1 ∨ (1 ≤ l ∧ l ≤ 20))) R (fun q l u u1 u2 R => ?_))
  unfold scF lrG
  by_cases hW : sWs w h T F s fo u v = true
  · have H := sWs.pl hs.1 hW
    have hN : sNr x y u v r = true ↔ max 1 (max ((u - x).natAbs : Int) ((v - y).natAbs : Int)) ≤ r := by
      unfold sNr
      simp only [Bool.and_eq_true, decide_eq_true_eq]
      omega
    have hm : max 1 (max ((u - x).natAbs : Int) ((v - y).natAbs : Int)) ≤ 20 ∧ 1 ≤ max 1 (max ((u - x).natAbs : Int) ((v - y).natAbs : Int)) := by omega
    obtain ⟨mm, hmm⟩ : ∃ m, m = max 1 (max ((u - x).natAbs : Int) ((v - y).natAbs : Int)) := ⟨_, rfl⟩
    rw [← hmm] at hN hm ⊢
    have hl : (if sWs w h T F s fo u v = true ∧ (l = -1 ∨ mm < l) then mm else l) = if l = -1 ∨ mm < l then mm else l := by simp only [hW, true_and]
    rw [hl]
    rcases hb : sNr x y u v r with _ | _
    · rw [if_neg (by simp)]
      have hn : ¬ mm ≤ r := fun hh => by rw [hN.mpr hh] at hb; cases hb
      split
      · refine ⟨⟨fun hh => ?_, fun hh => by omega⟩, by omega⟩
        have := R.1.mp hh
        omega
      · exact R
    · rw [if_pos (by rw [hW]; rfl)]
      have hn := hN.mp hb
      have hne := sAs_ne A (we := we) (sh := sh) (x := x) (y := y) hs ht H (show 0 ≤ u by omega) q
      refine ⟨⟨fun _ => ?_, fun _ => hne⟩, ?_⟩
      · split <;> omega
      · split <;> omega
  · rw [if_neg (by simp [hW]), if_neg (fun hh => hW hh.1)]
    exact R
theorem rr_iff {x y r : Int} {q q' : aQ} (R : rRr x y r q q') (hq : q.1 ≠ -1) : (q'.1 = q.1 ∧ q'.2.1 = q.2.1 ∧ q'.2.2.1 = q.2.2.1) ↔ sNr x y q.1 q.2.1 r = true := by
  constructor
  · intro hh
    have := R.2.2 (by rw [hh.1]; exact hq)
    rw [hh.1, hh.2.1] at this
    exact this
  · intro hh
    have := (R.2.1 hq).1 hh
    exact ⟨this.1, this.2.1, this.2.2.1⟩
theorem rTo_at {w h x y u v : Int} (hi : sIn w h u v = true) : rTo w x y (v * w + u) = max 1 (max ((u - x).natAbs : Int) ((v - y).natAbs : Int)) := by
  have h1 := sIn_iff.mp hi
  have h2 := y_dm (w := w) (y := v) (x := u) ⟨h1.1, h1.2.1⟩
  unfold rTo
  rw [h2.1, h2.2]
