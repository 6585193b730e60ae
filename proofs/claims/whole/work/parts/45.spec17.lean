/-! the searcher's state -/
theorem sDf_le {w h : Int} {T S F P O : Int → Int → Int} (A : aOk w h T S F P O) {s we u v x y way sf le le' : Int} (hs : 1 ≤ s ∧ s ≤ 3) (H : sPl w h T s u v) (hsf : -255 ≤ sf ∧ sf ≤ 255) (h1 : 63724500 < le) (h2 : 63724500 < le') : sDf w h T S s we x y u v way sf le = sDf w h T S s we x y u v way sf le' := by
  rw [← df_all, ← df_all]
  have hl := kL_len (w := w) (h := h) (T := T) (x := x) (y := y) hs
  have key := fr_ix (n := (kL w h T s x y).length) (s := ((0, 0) : Int × Int)) (f := fun q i => dfG T S we x y u v way sf le q (gk (kL w h T s x y) i)) (a := 0) (fun m q => q = fr (fun q i => dfG T S we x y u v way sf le' q (gk (kL w h T s x y) i)) 0 m (0, 0) ∧ q.1 ≤ 1300500 * (m : Int)) ⟨rfl, by simp⟩ (fun m q hm hq => by
    have hka := kL_at (w := w) (h := h) (T := T) (x := x) (y := y) (s := s) (m := 0 + (m : Int)) (by omega) (by omega) (by omega)
    have hw := sWt_bd (we := we) (A.S _ _ (sKn_in hka.1))
    have hp := sAp_bd A (way := way) (x := x) (y := y) H hka.1 hka.2.1 hka.2.2
    have hsq := y_sq (a := sAp T x y (gk (kL w h T s x y) (0 + (m : Int))).1 (gk (kL w h T s x y) (0 + (m : Int))).2 u v way - sf) (b := sWt S we (gk (kL w h T s x y) (0 + (m : Int))).1 (gk (kL w h T s x y) (0 + (m : Int))).2) (by omega) hw
    have hq2 := hq.2
    rw [fr_s, ← hq.1]
    show dfG T S we x y u v way sf le q (gk (kL w h T s x y) (0 + (m : Int))) = dfG T S we x y u v way sf le' q (gk (kL w h T s x y) (0 + (m : Int))) ∧ (dfG T S we x y u v way sf le q (gk (kL w h T s x y) (0 + (m : Int)))).1 ≤ 1300500 * ((m + 1 : Nat) : Int)
    unfold dfG
    rw [if_neg (by omega), if_neg (by omega)]
    refine ⟨rfl, ?_⟩
    simp only
    omega)
  exact key.1
def rQ (σ : yM) (w : Int) (q : aQ) : Prop := match q with
  | (bx, by_, bw, bs, bd, so, sk, sp, lo) => σ 123 12 = (if bx = -1 then -1 else by_ * w + bx) ∧ σ 123 13 = bw ∧ σ 123 14 = bd ∧ σ 123 15 = bs ∧ σ 123 16 = so ∧ σ 123 17 = sk ∧ σ 123 18 = sp ∧ σ 123 19 = lo
theorem rQ.fr {σ σ' : yM} {w : Int} {q : aQ} (H : rQ σ w q) (e : ∀ j : Int, 12 ≤ j → j ≤ 19 → σ' 123 j = σ 123 j) : rQ σ' w q := by
  obtain ⟨bx, by_, bw, bs, bd, so, sk, sp, lo⟩ := q
  unfold rQ at *
  simp only at *
  rw [e 12 (by decide) (by decide), e 13 (by decide) (by decide), e 14 (by decide) (by decide), e 15 (by decide) (by decide), e 16 (by decide) (by decide), e 17 (by decide) (by decide), e 18 (by decide) (by decide), e 19 (by decide) (by decide)]
  exact H
