/-! searches and fills keep their numbers in order -/
theorem sWs_in {w h : Int} {T F : Int → Int → Int} {s fo u v : Int} (hs : 0 ≤ s) (H : sWs w h T F s fo u v = true) : sIn w h u v = true := sKn_in (sWs.pl hs H u v (by omega) (by omega) (by omega) (by omega))
theorem ws_step {w h : Int} {T S F P O : Int → Int → Int} (A : aOk w h T S F P O) {s fo tu we sh x y u v : Int} (hs : 0 ≤ s ∧ s ≤ 3) (ht : 0 ≤ tu ∧ tu ≤ 3) {q : aQ} (hq : qOk w h T s q) (hso : qSo q < 1000000) {c : Bool} : qOk w h T s (if c && sWs w h T F s fo u v then sAs w h T S s tu we sh x y u v q else q) ∧ qSo (if c && sWs w h T F s fo u v then sAs w h T S s tu we sh x y u v q else q) ≤ qSo q + 8 := by
  split
  · rename_i hc
    rw [Bool.and_eq_true] at hc
    exact ⟨sAs_ok A hs ht (sWs.pl hs.1 hc.2) (sWs_in hs.1 hc.2) hq hso, (sAs_so ht).2⟩
  · exact ⟨hq, by omega⟩
theorem sc_ok {w h : Int} {T S F P O : Int → Int → Int} (A : aOk w h T S F P O) {s fo tu we sh x y : Int} (hs : 0 ≤ s ∧ s ≤ 3) (ht : 0 ≤ tu ∧ tu ≤ 3) (c : Int → Int → Bool) {x0 y0 : Int} {nx ny : Nat} (hx : nx ≤ 20) (hy : ny ≤ 20) : qOk w h T s (fr2 (fun q u v => if c u v && sWs w h T F s fo u v then sAs w h T S s tu we sh x y u v q else q) x0 nx y0 ny q0) := by
  have row : ∀ (v : Int) (m : Nat) (q : aQ), m ≤ 20 → qOk w h T s q → qSo q < 900000 → qOk w h T s (fr (fun q u => if c u v && sWs w h T F s fo u v then sAs w h T S s tu we sh x y u v q else q) x0 m q) ∧ qSo (fr (fun q u => if c u v && sWs w h T F s fo u v then sAs w h T S s tu we sh x y u v q else q) x0 m q) ≤ qSo q + 8 * m := by
    intro v m q hm hq hso
    refine fr_ix (fun m (r : aQ) => qOk w h T s r ∧ qSo r ≤ qSo q + 8 * (m : Int)) ⟨hq, by omega⟩ (fun k r hk hr => ?_)
    have := ws_step A (fo := fo) (we := we) (sh := sh) (x := x) (y := y) (u := x0 + (k : Int)) (v := v) hs ht hr.1 (by omega) (c := c (x0 + (k : Int)) v)
    exact ⟨this.1, by omega⟩
  have := fr_ix (f := fun q v => fr (fun q u => if c u v && sWs w h T F s fo u v then sAs w h T S s tu we sh x y u v q else q) x0 nx q) (a := y0) (n := ny) (s := q0) (fun m (r : aQ) => qOk w h T s r ∧ qSo r ≤ 160 * (m : Int)) ⟨qOk_q0 _ _ _ _, by show (0 : Int) ≤ _; omega⟩ (fun k r hk hr => by
    have := row (y0 + (k : Int)) nx r hx hr.1 (by omega)
    exact ⟨this.1, by omega⟩)
  exact this.1
theorem sSe_ok {w h : Int} {T S F P O : Int → Int → Int} (A : aOk w h T S F P O) {s fo tu we sh x y re : Int} (hs : 0 ≤ s ∧ s ≤ 3) (ht : 0 ≤ tu ∧ tu ≤ 3) : qOk w h T s (sSe w h T S F s fo tu we sh x y re) := by
  have := A.1
  exact sc_ok A hs ht (fun u v => sNr x y u v re) (by omega) (by omega)
theorem sQ_ok {w h : Int} {T S F P O : Int → Int → Int} (A : aOk w h T S F P O) {s re fo tu we sh x y : Int} {gd : Bool} {F2 P2 : Int → Int → Int} (hs : 0 ≤ s ∧ s ≤ 3) (ht : 0 ≤ tu ∧ tu ≤ 3) : qOk w h T s (sQ w h T S F s re fo tu we sh gd F2 P2 x y) := by
  unfold sQ
  split
  · rcases gu1_q0 (w := w) (h := h) (T := T) (S := S) (F := F) (s := s) (fo := fo) (we := we) (sh := sh) (x := x) (y := y) (f := F2 (x / 2) (y / 2)) (p := P2 (x / 2) (y / 2)) ht with e | e
    · rw [gu1_no e]
      exact sSe_ok A hs ht
    · rw [gu1_yes e]
      unfold gu1
      split
      · exact sc_ok A hs ht (fun u v => sIn w h u v) (by omega) (by omega)
      · exact qOk_q0 _ _ _ _
  · exact sSe_ok A hs ht
def lgOk (X : aX) : Prop := ∀ i : Int, 0 ≤ i → i < X.2.2.2.2.2.2.2.1 → 0 ≤ X.2.2.2.2.2.2.2.2 i 7 ∧ X.2.2.2.2.2.2.2.2 i 7 ≤ 7
def aOkX (w h : Int) (X : aX) : Prop := aOk w h X.1 X.2.1 X.2.2.1 X.2.2.2.1 X.2.2.2.2.1
theorem fS_ok {w h s re fo ra tu we sh : Int} {gd : Bool} {F2 P2 : Int → Int → Int} (hs : 0 ≤ s ∧ s ≤ 3) (ht : 0 ≤ tu ∧ tu ≤ 3) {X X' : aX} (A : aOkX w h X) (hn : 0 ≤ xNf X ∧ xNf X < 900000000) (hl : lgOk X) (H : fS w h s re fo ra tu we sh gd F2 P2 X = some X') : aOkX w h X' ∧ lgOk X' ∧ (0 ≤ xDf X' - xDf X ∧ xDf X' - xDf X ≤ 63724500) := by
  obtain ⟨T, S, F, P, O, nf, df, nl, lg⟩ := X
  have hq := sQ_ok (A : aOk w h T S F P O) (re := re) (fo := fo) (we := we) (sh := sh) (x := (sNx w h T S s ra).1) (y := (sNx w h T S s ra).2.1) (gd := gd) (F2 := F2) (P2 := P2) hs ht
  unfold fS at H
  simp only at H
  split at H
  · cases H
  · rename_i hx
    split at H
    · cases H
    · rename_i hb
      rw [Option.some.injEq] at H
      obtain ⟨q, hqq⟩ : ∃ q, q = sQ w h T S F s re fo tu we sh gd F2 P2 (sNx w h T S s ra).1 (sNx w h T S s ra).2.1 := ⟨_, rfl⟩
      rw [← hqq] at H hq hb
      obtain ⟨bx, by_, bw, bs, bd, so, sk, sp, lo⟩ := q
      have hk := hq.1.resolve_left (fun e => hb e.1)
      have hfr := sFr_in (sNx_fr hx)
      have hst := sSd_bd (s := s) hs hfr (A : aOk w h T S F P O).S
      subst H
      refine ⟨aOk_fill (A : aOk w h T S F P O) (s := s) (fun a b h => h) hk.2.1 hst (by have := hn; simp only [xNf] at this; omega), fun i h0 h1 => ?_, ?_⟩
      · show 0 ≤ lgP _ lg i 7 ∧ lgP _ lg i 7 ≤ 7
        unfold lgP
        split
        · show 0 ≤ bw ∧ bw ≤ 7
          exact hk.2.2.1
        · have h1' : i < min (nl + 1) 30 := h1
          exact hl (i - 1) (by omega) (by show i - 1 < nl; omega)
      · show 0 ≤ df + bd - df ∧ df + bd - df ≤ 63724500
        have := hk.2.2.2.2.1
        omega
theorem fIt_ok {w h s re fo ra tu we sh : Int} {gd : Bool} {F2 P2 : Int → Int → Int} (hs : 0 ≤ s ∧ s ≤ 3) (ht : 0 ≤ tu ∧ tu ≤ 3) : ∀ (n : Nat) {X : aX}, aOkX w h X → 0 ≤ xNf X → xNf X + n < 900000000 → lgOk X → aOkX w h (fIt (fS w h s re fo ra tu we sh gd F2 P2) n X).2 ∧ lgOk (fIt (fS w h s re fo ra tu we sh gd F2 P2) n X).2 ∧ 0 ≤ xDf (fIt (fS w h s re fo ra tu we sh gd F2 P2) n X).2 - xDf X ∧ xDf (fIt (fS w h s re fo ra tu we sh gd F2 P2) n X).2 - xDf X ≤ 63724500 * (fIt (fS w h s re fo ra tu we sh gd F2 P2) n X).1
  | 0, X, A, _, _, hl => ⟨A, hl, by show 0 ≤ xDf X - xDf X; omega, by show xDf X - xDf X ≤ 63724500 * 0; omega⟩
  | n + 1, X, A, h0, h1, hl => by
    rcases hf : fS w h s re fo ra tu we sh gd F2 P2 X with _ | X'
    · rw [fIt_none hf]
      exact ⟨A, hl, by simp only; omega, by simp⟩
    · rw [fIt_some hf]
      have hnf := fS_nf' hf
      obtain ⟨a1, a2, a3⟩ := fS_ok hs ht A (by omega) hl hf
      obtain ⟨b1, b2, b3, b4⟩ := fIt_ok (w := w) (h := h) (s := s) (re := re) (fo := fo) (ra := ra) (tu := tu) (we := we) (sh := sh) (gd := gd) (F2 := F2) (P2 := P2) hs ht n a1 (by omega) (by omega) a2
      simp only
      exact ⟨b1, b2, by omega, by omega⟩
/-- a dot given a tone -/
theorem aOk_give {w h : Int} {T S F P O : Int → Int → Int} (A : aOk w h T S F P O) {x y t : Int} (ht : -1 ≤ t ∧ t ≤ 255) : aOk w h (lup T x y t) (lup S x y (if t = -1 then 0 else 1000)) (lup F x y 0) (lup P x y (-1)) (lup O x y (-1)) := by
  refine ⟨A.1, fun a b h1 h2 h3 h4 => ?_⟩
  have := A.2 a b h1 h2 h3 h4
  by_cases e : a = x ∧ b = y
  · rw [e.1, e.2, lup_s, lup_s, lup_s, lup_s, lup_s]
    refine ⟨ht, by split <;> decide, by decide, Or.inl rfl, Or.inl rfl, by decide, by decide⟩
  · rw [lup_n e, lup_n e, lup_n e, lup_n e, lup_n e]
    exact this
theorem rC_give {σ : yM} {k : Nat} {w h : Int} {T S F P O : Int → Int → Int} (H : rC σ k w h T S F P O) {x y t : Int} (hi : sIn w h x y = true) (ht : -1 ≤ t ∧ t ≤ 255) : rC (gv σ k (y * w + x) t) k w h (lup T x y t) (lup S x y (if t = -1 then 0 else 1000)) (lup F x y 0) (lup P x y (-1)) (lup O x y (-1)) := by
  have h1 := sIn_iff.mp hi
  refine ⟨aOk_give H.1 ht, by rw [gv_o (by omega)]; exact H.2.1, by rw [gv_o (by omega)]; exact H.2.2.1, fun a b a1 a2 b1 b2 => ?_⟩
  by_cases e : a = x ∧ b = y
  · rw [e.1, e.2, lup_s, lup_s, lup_s, lup_s, lup_s]
    exact gv_at
  · have hne : b * w + a ≠ y * w + x := fun q => e (y_inj ⟨a1, a2⟩ ⟨h1.1, h1.2.1⟩ q)
    rw [gv_o (Or.inr hne), gv_o (Or.inr hne), gv_o (Or.inr hne), gv_o (Or.inr hne), gv_o (Or.inr hne), lup_n e, lup_n e, lup_n e, lup_n e, lup_n e]
    exact H.2.2.2 a b a1 a2 b1 b2
theorem rM_give {σ : yM} {w h : Int} {T S F P O : Int → Int → Int} (H : rM σ 0 w h T S F P O) {x y t : Int} (hi : sIn w h x y = true) (ht : -1 ≤ t ∧ t ≤ 255) : rM (mgv σ 0 (20 * y + x) t) 0 w h (lup T x y t) (lup S x y (if t = -1 then 0 else 1000)) (lup F x y 0) (lup P x y (-1)) (lup O x y (-1)) := by
  have h1 := sIn_iff.mp hi
  have hw := H.1.1
  refine ⟨aOk_give H.1 ht, by rw [mgv_o (by omega)]; exact H.2.1, by rw [mgv_o (by omega)]; exact H.2.2.1, fun a b a1 a2 b1 b2 => ?_⟩
  by_cases e : a = x ∧ b = y
  · rw [e.1, e.2, lup_s, lup_s, lup_s, lup_s, lup_s]
    exact mgv_at (by omega)
  · rw [mgv_o (Or.inr (by omega)), mgv_o (Or.inr (by omega)), mgv_o (Or.inr (by omega)), mgv_o (Or.inr (by omega)), mgv_o (Or.inr (by omega)), lup_n e, lup_n e, lup_n e, lup_n e, lup_n e]
    exact H.2.2.2 a b a1 a2 b1 b2
/-- settings changed -/
theorem rS_set {σ : yM} {c : Nat} {s re fo ra tu we sh a v : Int} (H : rS σ c s re fo ra tu we sh) (hal : sAl a v = true) : rS (yset σ c a v) c (if a = 0 then v else s) (if a = 1 then v else re) (if a = 2 then v else fo) (if a = 3 then v else ra) (if a = 4 then v else tu) (if a = 5 then v else we) (if a = 6 then v else sh) := by
  simp only [sAl, Bool.and_eq_true, decide_eq_true_eq] at hal
  obtain ⟨⟨⟨h1, h2⟩, h3⟩, h4⟩ := hal
  obtain ⟨⟨e0, e1, e2, e3, e4, e5, e6⟩, b0, b1, b2, b3, b4, b5, b6⟩ := H
  have y2 : ys 2 0 = 1 ∧ ys 2 1 = 1 ∧ ys 2 2 = 0 ∧ ys 2 3 = 0 ∧ ys 2 4 = 0 ∧ ys 2 5 = 0 ∧ ys 2 6 = 0 := by decide
  have y3 : ys 3 0 = 3 ∧ ys 3 1 = 20 ∧ ys 3 2 = 1 ∧ ys 3 3 = 2 ∧ ys 3 4 = 3 ∧ ys 3 5 = 1 ∧ ys 3 6 = 1 := by decide
  rcases (show a = 0 ∨ a = 1 ∨ a = 2 ∨ a = 3 ∨ a = 4 ∨ a = 5 ∨ a = 6 by omega) with e | e | e | e | e | e | e <;> subst e <;> (refine ⟨⟨?_, ?_, ?_, ?_, ?_, ?_, ?_⟩, ?_, ?_, ?_, ?_, ?_, ?_, ?_⟩ <;> simp [yset_ap, e0, e1, e2, e3, e4, e5, e6] <;> omega)
