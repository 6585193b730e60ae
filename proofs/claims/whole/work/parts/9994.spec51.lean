/-! a run's differences are below 2^31 -/
def dB (s : Int) : Int := if s = 1 then 11704500 else if s = 2 then 32512500 else 63724500
def pB (s : Int) : Int := if s = 1 then 100 else if s = 2 then 49 else 25
theorem sDf_b2 {w h : Int} {T S F P O : Int → Int → Int} (A : aOk w h T S F P O) {s we u v x y way sf le : Int} (hs : 1 ≤ s ∧ s ≤ 3) (H : sPl w h T s u v) (hsf : -255 ≤ sf ∧ sf ≤ 255) : (sDf w h T S s we x y u v way sf le).1 ≤ dB s := by
  rcases (show s = 1 ∨ s = 2 ∨ s = 3 by omega) with hk | hk | hk
  all_goals
    have key : ∀ (j : Int) (r : Int × Int), (y - s ≤ j ∧ j ≤ y + s) → (0 ≤ r.1 ∧ r.1 ≤ 1300500 * r.2) → (0 ≤ (fr (fun q i => dfF w h T S we x y u v way sf le q i j) (x - s) (2 * s + 1).toNat r).1 ∧ (fr (fun q i => dfF w h T S we x y u v way sf le q i j) (x - s) (2 * s + 1).toNat r).1 ≤ 1300500 * (fr (fun q i => dfF w h T S we x y u v way sf le q i j) (x - s) (2 * s + 1).toNat r).2) ∧ r.2 ≤ (fr (fun q i => dfF w h T S we x y u v way sf le q i j) (x - s) (2 * s + 1).toNat r).2 ∧ (fr (fun q i => dfF w h T S we x y u v way sf le q i j) (x - s) (2 * s + 1).toNat r).2 ≤ r.2 + (2 * s + 1) := by
      intro j r hj hr
      have := fr_ix (n := (2 * s + 1).toNat) (f := fun q i => dfF w h T S we x y u v way sf le q i j) (a := x - s) (s := r) (fun m (q : Int × Int) => (0 ≤ q.1 ∧ q.1 ≤ 1300500 * q.2) ∧ r.2 ≤ q.2 ∧ q.2 ≤ r.2 + (m : Int)) ⟨hr, by omega, by omega⟩ (fun m q hm hq => by
        have := dfF_bd A (we := we) (way := way) (sf := sf) (le := le) H hsf (i := x - s + m) (j := j) (x := x) (y := y) (by omega) hj hq.1
        omega)
      omega
    have := fr_ix (n := (2 * s + 1).toNat) (f := fun q j => fr (fun q i => dfF w h T S we x y u v way sf le q i j) (x - s) (2 * s + 1).toNat q) (a := y - s) (s := ((0, 0) : Int × Int)) (fun m (q : Int × Int) => (0 ≤ q.1 ∧ q.1 ≤ 1300500 * q.2) ∧ 0 ≤ q.2 ∧ (s = 1 → q.2 ≤ 3 * (m : Int)) ∧ (s = 2 → q.2 ≤ 5 * (m : Int)) ∧ (s = 3 → q.2 ≤ 7 * (m : Int))) ⟨⟨by decide, by decide⟩, by decide, fun _ => by decide, fun _ => by decide, fun _ => by decide⟩ (fun m q hm hq => by
      have := key (y - s + m) q (by omega) hq.1
      omega)
    unfold sDf fr2
    first
      | (have h9 := this.2.2.1 hk; rw [show dB s = 11704500 by rw [hk]; rfl]; omega)
      | (have h9 := this.2.2.2.1 hk; rw [show dB s = 32512500 by rw [hk]; rfl]; omega)
      | (have h9 := this.2.2.2.2 hk; rw [show dB s = 63724500 by rw [hk]; rfl]; omega)
theorem asG_b {u v way sf bo d c B : Int} {q : aQ} (hd : d ≤ B) (hq : qBd q ≤ B) : qBd (asG u v way sf bo d c q) ≤ B := by
  obtain ⟨bx, by_, bw, bs, bd, so, sk, sp, lo⟩ := q
  unfold asG
  simp only
  split
  · exact hq
  · split
    · exact hq
    · exact hd
theorem sAs_b {w h : Int} {T S F P O : Int → Int → Int} (A : aOk w h T S F P O) {s tu we sh u v x y : Int} (hs : 1 ≤ s ∧ s ≤ 3) (H : sPl w h T s u v) {q : aQ} (hq : qBd q ≤ dB s) : qBd (sAs w h T S s tu we sh x y u v q) ≤ dB s := by
  unfold sAs
  refine fr_inv (fun r : aQ => qBd r ≤ dB s) hq (fun r i _ _ hr => ?_)
  unfold asF
  exact asG_b (sDf_b2 A hs H (sSh_bd A ⟨by omega, by omega⟩ H)) hr
theorem sSe_b {w h : Int} {T S F P O : Int → Int → Int} (A : aOk w h T S F P O) {s fo tu we sh x y re : Int} (hs : 1 ≤ s ∧ s ≤ 3) : qBd (sSe w h T S F s fo tu we sh x y re) ≤ dB s := by
  have h0 : qBd q0 ≤ dB s := by show (-1 : Int) ≤ _; unfold dB; split; (omega); split <;> omega
  unfold sSe fr2
  refine fr_inv (fun r : aQ => qBd r ≤ dB s) h0 (fun r j _ _ hr => fr_inv (fun r : aQ => qBd r ≤ dB s) hr (fun r i _ _ hr => ?_))
  unfold scF
  split
  · rename_i hc
    rw [Bool.and_eq_true] at hc
    exact sAs_b A hs (sWs.pl (by omega) hc.2) hr
  · exact hr
theorem fS_b {w h s re fo ra tu we sh : Int} {F2 P2 : Int → Int → Int} (hs : 1 ≤ s ∧ s ≤ 3) {X X' : aX} (A : aOkX w h X) (H : fS w h s re fo ra tu we sh false F2 P2 X = some X') : xDf X' ≤ xDf X + dB s := by
  obtain ⟨T, S, F, P, O, nf, df, nl, lg⟩ := X
  unfold fS at H
  simp only at H
  split at H
  · cases H
  · split at H
    · cases H
    · injection H with H
      have hb := sSe_b (F := F) (A := A) (fo := fo) (tu := tu) (we := we) (sh := sh) (x := (sNx w h T S s ra).1) (y := (sNx w h T S s ra).2.1) (re := re) hs
      have e : sQ w h T S F s re fo tu we sh false F2 P2 (sNx w h T S s ra).1 (sNx w h T S s ra).2.1 = sSe w h T S F s fo tu we sh (sNx w h T S s ra).1 (sNx w h T S s ra).2.1 re := rfl
      rw [e] at H
      obtain ⟨q, hq⟩ : ∃ q, q = sSe w h T S F s fo tu we sh (sNx w h T S s ra).1 (sNx w h T S s ra).2.1 re := ⟨_, rfl⟩
      rw [← hq] at H hb
      obtain ⟨bx, by_, bw, bs, bd, so, sk, sp, lo⟩ := q
      subst H
      show df + bd ≤ df + dB s
      have : bd ≤ dB s := hb
      omega
theorem fIt_b {w h s re fo ra tu we sh : Int} {F2 P2 : Int → Int → Int} (hs : 1 ≤ s ∧ s ≤ 3) (ht : 0 ≤ tu ∧ tu ≤ 3) : ∀ (n : Nat) {X : aX}, aOkX w h X → 0 ≤ xNf X → xNf X + n < 900000000 → lgOk X → xDf (fIt (fS w h s re fo ra tu we sh false F2 P2) n X).2 ≤ xDf X + dB s * pot w h X.1 s
  | 0, X, A, _, _, hl => by
    have h1 := (pot_bd w h X.1 s).1
    have h2 : 0 ≤ dB s := by unfold dB; split; (omega); split <;> omega
    have := Int.mul_nonneg h2 h1
    show xDf X ≤ xDf X + dB s * pot w h X.1 s
    omega
  | n + 1, X, A, h0, h1, hl => by
    have hp := (pot_bd w h X.1 s).1
    have h2 : 0 ≤ dB s := by unfold dB; split; (omega); split <;> omega
    rcases hf : fS w h s re fo ra tu we sh false F2 P2 X with _ | X'
    · rw [fIt_none hf]
      have := Int.mul_nonneg h2 hp
      show xDf X ≤ xDf X + dB s * pot w h X.1 s
      omega
    · rw [fIt_some hf]
      have ok := fS_ok ⟨by omega, by omega⟩ ht A ⟨h0, by omega⟩ hl hf
      obtain ⟨T, S, F, P, O, nf, df, nl, lg⟩ := X
      have po := fS_pot A hs hf
      have hb := fS_b hs A hf
      have e1 : xNf X' = nf + 1 := po.2
      have e0 : xNf (T, S, F, P, O, nf, df, nl, lg) = nf := rfl
      rw [e0] at h0 h1
      have ih := fIt_b (re := re) (fo := fo) (ra := ra) (tu := tu) (we := we) (sh := sh) (F2 := F2) (P2 := P2) hs ht n (X := X') ok.1 (by rw [e1]; omega) (by rw [e1]; omega) ok.2.1
      have hm := Int.mul_le_mul_of_nonneg_left po.1 h2
      rw [Int.mul_add, Int.mul_one] at hm
      show xDf (fIt (fS w h s re fo ra tu we sh false F2 P2) n X').2 ≤ _
      have e2 : dB s * pot w h (T, S, F, P, O, nf, df, nl, lg).1 s = dB s * pot w h T s := rfl
      rw [e2]
      omega
theorem pot_b2 {w h : Int} {T : Int → Int → Int} {s : Int} (hw : w ≤ 20) (hh : h ≤ 20) (hs : 1 ≤ s ∧ s ≤ 3) : pot w h T s ≤ pB s := by
  have hk : ∀ a b : Int, (20 ≤ a * (s + 1) ∨ 20 ≤ b * (s + 1)) → blk w h T s a b = false := by
    intro a b hab
    rw [Bool.eq_false_iff]
    intro ht
    obtain ⟨i, j, h1, h2, h3, h4, h5⟩ := (blk_iff (by omega)).mp ht
    have h6 := sIn_iff.mp (sMi_in h5)
    omega
  have hq : ∃ Q : Int, 1 ≤ Q ∧ Q ≤ 10 ∧ pB s = Q * Q ∧ 20 ≤ Q * (s + 1) ∧ (s = 1 → Q = 10) ∧ (s = 2 → Q = 7) ∧ (s = 3 → Q = 5) := by
    rcases (show s = 1 ∨ s = 2 ∨ s = 3 by omega) with rfl | rfl | rfl
    · exact ⟨10, by decide, by decide, by decide, by decide, by decide, by decide, by decide⟩
    · exact ⟨7, by decide, by decide, by decide, by decide, by decide, by decide, by decide⟩
    · exact ⟨5, by decide, by decide, by decide, by decide, by decide, by decide, by decide⟩
  obtain ⟨Q, q1, q2, q3, q4, q5, q6, q7⟩ := hq
  have hb : ∀ a b : Int, (Q ≤ a ∨ Q ≤ b) → bi (blk w h T s a b) = 0 := by
    intro a b hab
    rw [hk a b]
    · rfl
    · rcases (show s = 1 ∨ s = 2 ∨ s = 3 by omega) with rfl | rfl | rfl <;> omega
  have row : ∀ b : Int, 0 ≤ fr (fun c a => c + bi (blk w h T s a b)) 0 10 0 ∧ fr (fun c a => c + bi (blk w h T s a b)) 0 10 0 ≤ Q ∧ (Q ≤ b → fr (fun c a => c + bi (blk w h T s a b)) 0 10 0 = 0) := by
    intro b
    have := fr_ix (n := 10) (f := fun c a => c + bi (blk w h T s a b)) (a := 0) (s := (0 : Int)) (fun m c => 0 ≤ c ∧ c ≤ (m : Int) ∧ c ≤ Q ∧ (Q ≤ b → c = 0)) ⟨by omega, by omega, by omega, fun _ => rfl⟩ (fun m c _ hc => by
      have h1 := bi_bd (blk w h T s (0 + m) b)
      have h2 := hb (0 + m) b
      by_cases e : Q ≤ 0 + (m : Int) ∨ Q ≤ b
      · have := h2 e
        omega
      · omega)
    exact ⟨this.1, this.2.2.1, this.2.2.2⟩
  have := fr_ix (n := 10) (f := fun c b => c + fr (fun c a => c + bi (blk w h T s a b)) 0 10 0) (a := 0) (s := (0 : Int)) (fun m c => 0 ≤ c ∧ c ≤ Q * (m : Int) ∧ c ≤ Q * Q) ⟨by omega, by simp, by have := Int.mul_nonneg (show 0 ≤ Q by omega) (show 0 ≤ Q by omega); omega⟩ (fun m c _ hc => by
    have h1 := row (0 + m)
    have e1 : Q * ((m + 1 : Nat) : Int) = Q * (m : Int) + Q := by rw [Int.natCast_succ, Int.mul_add, Int.mul_one]
    refine ⟨by omega, by rw [e1]; omega, ?_⟩
    by_cases e : Q ≤ (m : Int)
    · have := h1.2.2 (by omega)
      omega
    · have h3 : Q * ((m : Int) + 1) ≤ Q * Q := Int.mul_le_mul_of_nonneg_left (by omega) (by omega)
      rw [Int.mul_add, Int.mul_one] at h3
      omega)
  unfold pot
  rw [q3]
  exact this.2.2
theorem gR_31 {w h s re fo ra tu we sh : Int} {T S F P O : Int → Int → Int} (hs : 1 ≤ s ∧ s ≤ 3) (ht : 0 ≤ tu ∧ tu ≤ 3) (A : aOk w h T S F P O) : 0 ≤ xDf (gR w h s re fo ra tu we sh 0 (400 : Int).toNat (x00 T S F P O)).2 ∧ xDf (gR w h s re fo ra tu we sh 0 (400 : Int).toNat (x00 T S F P O)).2 < 2147483648 := by
  have h1 := (gR_df (re := re) (fo := fo) (ra := ra) (we := we) (sh := sh) (lv := 0) ⟨by omega, hs.2⟩ ht A).2.1
  refine ⟨h1, ?_⟩
  have h2 := fIt_b (w := w) (h := h) (re := re) (fo := fo) (ra := ra) (we := we) (sh := sh) (F2 := F) (P2 := P) hs ht (400 : Int).toNat (X := x00 T S F P O) A (by show (0 : Int) ≤ 0; omega) (by show (0 : Int) + ((400 : Int).toNat : Int) < 900000000; decide) (fun i h0 h1 => by exact absurd h1 (by show ¬ i < (0 : Int); omega))
  have h3 := pot_b2 (T := T) A.1.2.1 A.1.2.2.2 hs
  have h4 := (pot_bd w h T s).1
  have e : gR w h s re fo ra tu we sh 0 (400 : Int).toNat (x00 T S F P O) = fIt (fS w h s re fo ra tu we sh false F P) (400 : Int).toNat (x00 T S F P O) := gR_00 (by unfold nHf; rw [if_neg (by omega)])
  rw [e]
  have e2 : xDf (x00 T S F P O) = 0 := rfl
  have e3 : (x00 T S F P O).1 = T := rfl
  rw [e2, e3] at h2
  have h5 : dB s * pot w h T s ≤ dB s * pB s := Int.mul_le_mul_of_nonneg_left h3 (by unfold dB; split; (omega); split <;> omega)
  have h6 : dB s * pB s ≤ 1600000000 := by
    rcases (show s = 1 ∨ s = 2 ∨ s = 3 by omega) with rfl | rfl | rfl <;> decide
  omega
/-- only one setting more may differ -/
def gY6 (q : Int) (σ σ' : yM) : Prop := ∀ (c : Nat) (j : Int), c < 172 → (c < 158 ∨ 160 < c) → c ≠ 163 → c ≠ 164 → ((c ≠ 161 ∧ c ≠ 162) ∨ j = 0) → (c ≠ 155 ∨ j < 8 ∨ j = 9 ∨ j = 10 ∨ 26 < j) → (c ≠ 166 ∨ j ≠ q) → σ' c j = σ c j
theorem gY6.rf {q : Int} (σ : yM) : gY6 q σ σ := fun _ _ _ _ _ _ _ _ _ => rfl
theorem gY.s6 {q : Int} {σ σ' : yM} (h : gY σ σ') : gY6 q σ σ' := fun c j a b d e f k _ => h c j a b d e f k
theorem gY6.tr {q : Int} {a b c : yM} (h1 : gY6 q a b) (h2 : gY6 q b c) : gY6 q a c := fun k j p q r s t u v => (h2 k j p q r s t u v).trans (h1 k j p q r s t u v)
theorem gY6.st {q v : Int} {σ σ' : yM} (h : gY6 q σ σ') : gY6 q σ (yset σ' 166 q v) := fun k j a b d e f g p => by rw [yset_o (by omega)]; exact h k j a b d e f g p
theorem gY6.back {q v : Int} {σ σ' : yM} (h : gY6 q σ σ') (hv : v = σ 166 q) : gY σ (yset σ' 166 q v) := fun k j a b d e f g => by
  by_cases hq : k = 166 ∧ j = q
  · rw [hq.1, hq.2, yset_e, hv]
  · rw [yset_o (by omega)]
    exact h k j a b d e f g (by omega)
theorem gY6.cell {q : Int} {σ σ' : yM} (h : gY6 q σ σ') {c : Nat} (h1 : c < 155 ∨ c = 156 ∨ c = 157 ∨ (164 < c ∧ c ≠ 166)) (h2 : c < 172) : σ' c = σ c := funext fun j => h c j h2 (by omega) (by omega) (by omega) (by omega) (by omega) (by omega)
def tnE (bb fe le : Int) (q : Int × Int × Int) (k : Int) : Prop := (-1 ≤ bb ∧ bb ≤ 3) ∧ (0 ≤ fe ∧ fe ≤ 400) ∧ (0 ≤ le ∧ le ≤ 200000000) ∧ fe = q.2.1 ∧ le = q.2.2 ∧ ((k = 1 ∧ bb = -1 ∧ q.1 = 0) ∨ (1 < k ∧ bb = q.1 ∧ 1 ≤ q.1))
theorem tnE_1 {w h : Int} {ht : Bool} {K : Int → Int → Int} {R : aX} {bb fe le mi fl k : Int} {q : Int × Int × Int} (H : tnE bb fe le q k) (hm : mi = nMi w h R.1) (hf : fl = if ht = true then sFw w h R.1 R.2.2.1 K else 0) (mb : 0 ≤ mi ∧ mi ≤ 400) (fb : 0 ≤ fl ∧ fl ≤ 200000000) (hk : 1 ≤ k ∧ k ≤ 3) (hc : bb = -1 ∨ mi < fe ∨ (mi = fe ∧ fl < le)) : tnE k mi fl (tnG w h ht K R q k) (k + 1) := by
  unfold tnE at H
  have e : tnG w h ht K R q k = (k, mi, fl) := by
    unfold tnG
    rw [← hm, ← hf]
    exact if_pos (by omega)
  rw [e]
  exact ⟨by omega, mb, fb, rfl, rfl, Or.inr ⟨by omega, rfl, hk.1⟩⟩
theorem tnE_0 {w h : Int} {ht : Bool} {K : Int → Int → Int} {R : aX} {bb fe le mi fl k : Int} {q : Int × Int × Int} (H : tnE bb fe le q k) (hm : mi = nMi w h R.1) (hf : fl = if ht = true then sFw w h R.1 R.2.2.1 K else 0) (hk : 1 ≤ k ∧ k ≤ 3) (hc : ¬ (bb = -1 ∨ mi < fe ∨ (mi = fe ∧ fl < le))) : tnE bb fe le (tnG w h ht K R q k) (k + 1) := by
  unfold tnE at H
  have e : tnG w h ht K R q k = q := by
    unfold tnG
    rw [← hm, ← hf]
    exact if_neg (by omega)
  rw [e]
  unfold tnE
  omega
