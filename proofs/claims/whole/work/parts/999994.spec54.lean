/-! numbers stay in order -/
theorem xOk_up {N N' : Int} {X : aX} (h : xOk N X) (hN : N ≤ N') : xOk N' X := ⟨by have := h.1; omega, h.2⟩
theorem aW_up {N N' : Int} {A : aA} (h : aW N A) (hN : N ≤ N') : aW N' A := by
  obtain ⟨w, hh, X, sv, H, ht, K, tl, tb, fa, r1, r2⟩ := A
  obtain ⟨h1, h2, h3⟩ := h
  exact ⟨xOk_up h1 hN, fun Y hY => xOk_up (h2 Y hY) hN, h3⟩
theorem aW_bA {N : Int} {A : aA} (h : aW N A) : aW N (bA A) := by
  obtain ⟨w, hh, X, sv, H, ht, K, tl, tb, fa, r1, r2⟩ := A
  exact h
theorem aW_bN {N : Int} {A : aA} (h : aW N A) : aW N (bN A) := by
  obtain ⟨w, hh, X, sv, H, ht, K, tl, tb, fa, r1, r2⟩ := A
  exact h
theorem aW_feed {N w h : Int} {X : aX} {sv : Int × Int × Int × Int × Int × Int × Int} {H : List aX} {ht : Bool} {K : Int → Int → Int} {tl : Int} {tb : Int → Int} {fa r1 r2 : Int} (a b c d e : Int) (V : aW N (w, h, X, sv, H, ht, K, tl, tb, fa, r1, r2)) : aW N (if tl + 20 ≤ 300 then (w, h, X, sv, H, ht, K, tl + 20, fdB tl tb a b c d e, fa, r1, r2) else (w, h, X, sv, H, ht, K, tl, tb, fa, r1, r2)) := by
  split
  · obtain ⟨h1, h2, h3, h4, h5, h6⟩ := V
    exact ⟨h1, h2, h3, by omega, fun j => apB_bd (fun j => apB_bd (fun j => apB_bd (fun j => apB_bd (fun j => apB_bd h5 j) j) j) j) j, h6⟩
  · exact V
theorem txR_p {tb : Int → Int} {e : Int} (htb : ∀ j : Int, 0 ≤ tb j ∧ tb j ≤ 255) (he : 0 ≤ e ∧ e ≤ 300) : ∀ (n : Nat) (y p W : Int) (M : Int → Int → Int), n = (20 - y).toNat → 0 ≤ y → (0 ≤ p ∧ p ≤ e) → (y = 0 ∨ (3 ≤ W ∧ W ≤ 20)) → -1 ≤ (txR tb e n y p W M).2.1 ∧ (txR tb e n y p W M).2.1 ≤ 300
  | 0, _, _, _, _, _, _, _, _ => by show -1 ≤ (-1 : Int) ∧ (-1 : Int) ≤ 300; decide
  | n + 1, y, p, W, M, hn, hy, hp, hW => by
    unfold txR
    rcases hE : rwE tb e y W p (-1) with ⟨f, fp, p', c, m⟩
    have hm : 0 ≤ rwMo y W ∧ rwMo y W ≤ 20 := by unfold rwMo; split <;> omega
    have hb := rwE_bd htb hp (by omega) hm hE.symm
    simp only
    split
    · show -1 ≤ fp ∧ fp ≤ 300
      omega
    · rename_i h0
      split
      · split
        · show -1 ≤ e ∧ e ≤ 300
          omega
        · show -1 ≤ (-1 : Int) ∧ (-1 : Int) ≤ 300
          decide
      · split
        · show -1 ≤ p' ∧ p' ≤ 300
          omega
        · refine txR_p htb he n _ _ _ _ (by omega) (by omega) (by omega) (Or.inr ?_)
          have hl := (hb.2.2.2.2.2 (by omega)).2
          have hm2 := hb.2.2.2.1.2
          unfold rwLe at hl
          unfold rwMo at hm2
          split <;> simp_all <;> omega
theorem xOk_tx {N : Int} (hN : 0 ≤ N) (M : Int → Int → Int) : xOk N (txX M) := ⟨hN, fun i h1 h2 => absurd (show i < 0 from h2) (by omega)⟩
theorem aW_text {N w h : Int} {X : aX} {sv : Int × Int × Int × Int × Int × Int × Int} {H : List aX} {ht : Bool} {K : Int → Int → Int} {tl : Int} {tb : Int → Int} {fa r1 r2 a : Int} (hN : 0 ≤ N) (ha : 0 ≤ a ∧ a ≤ tl) (V : aW N (w, h, X, sv, H, ht, K, tl, tb, fa, r1, r2)) : aW N (if (txP tb a).1 = 0 then ((txP tb a).2.2.1, (txP tb a).2.2.2.1, txX (txP tb a).2.2.2.2, sv, [], (ht && decide ((txP tb a).2.2.1 = w) && decide ((txP tb a).2.2.2.1 = h)), K, 0, tb, (txP tb a).2.1, r1, r2) else (w, h, X, sv, H, ht, K, 0, tb, (txP tb a).2.1, r1, r2)) := by
  obtain ⟨h1, h2, h3, h4, h5, h6⟩ := V
  have hp : -1 ≤ (txP tb a).2.1 ∧ (txP tb a).2.1 ≤ 300 := txR_p h5 (by omega) 20 0 0 0 _ rfl (by omega) (by omega) (Or.inl rfl)
  split
  · refine ⟨xOk_tx hN _, fun Y hY => absurd hY (by simp), fun q => ?_, by omega, h5, hp⟩
    rw [Bool.and_eq_true, Bool.and_eq_true, decide_eq_true_eq, decide_eq_true_eq] at q
    obtain ⟨⟨q1, q2⟩, q3⟩ := q
    rw [q2, q3]
    exact h3 q1
  · exact ⟨h1, h2, h3, by omega, h5, hp⟩
theorem aW_push {N w h : Int} {T S F P O T' S' F' P' O' : Int → Int → Int} {nf df nl : Int} {lg : Int → Int → Int} {sv sv' : Int × Int × Int × Int × Int × Int × Int} {H : List aX} {ht : Bool} {K : Int → Int → Int} {tl : Int} {tb : Int → Int} {fa r1 r2 : Int} (V : aW N (w, h, (T, S, F, P, O, nf, df, nl, lg), sv, H, ht, K, tl, tb, fa, r1, r2)) : aW N (w, h, (T', S', F', P', O', nf, df, nl, lg), sv', pH (T, S, F, P, O, nf, df, nl, lg) H, ht, K, tl, tb, fa, r1, r2) := by
  obtain ⟨h1, h2, h3⟩ := V
  refine ⟨h1, fun Y hY => ?_, h3⟩
  rcases pH_mem hY with r | r
  · rw [r]
    exact h1
  · exact h2 Y r
theorem aW_keep {N w h : Int} {X : aX} {sv : Int × Int × Int × Int × Int × Int × Int} {H : List aX} {ht : Bool} {K T : Int → Int → Int} {tl : Int} {tb : Int → Int} {fa r1 r2 : Int} (V : aW N (w, h, X, sv, H, ht, K, tl, tb, fa, r1, r2)) (hT : kOk w h T) : aW N (w, h, X, sv, H, true, T, tl, tb, fa, r1, r2) := by
  obtain ⟨h1, h2, h3, h4⟩ := V
  exact ⟨h1, h2, fun _ => hT, h4⟩
theorem aW_undo {N w h : Int} {X : aX} {sv : Int × Int × Int × Int × Int × Int × Int} {H : List aX} {ht : Bool} {K : Int → Int → Int} {tl : Int} {tb : Int → Int} {fa r1 r2 : Int} (V : aW N (w, h, X, sv, H, ht, K, tl, tb, fa, r1, r2)) : aW N (if (H.length : Int) = 0 then (w, h, X, sv, H, ht, K, tl, tb, fa, r1, r2) else (w, h, hdX X H, sv, H.tail, ht, K, tl, tb, fa, r1, r2)) := by
  split
  · exact V
  · obtain ⟨h1, h2, h3⟩ := V
    cases H with
    | nil => exact ⟨h1, h2, h3⟩
    | cons Y H => exact ⟨h2 Y List.mem_cons_self, fun Z hZ => h2 Z (List.mem_cons_of_mem _ hZ), h3⟩
theorem gR_xOk {N w h s re fo ra tu we sh lv : Int} {most : Nat} {X : aX} (hs : 0 ≤ s ∧ s ≤ 3) (ht : 0 ≤ tu ∧ tu ≤ 3) (A : aOkX w h X) (h0 : 0 ≤ xNf X) (hO : xOk N X) (hN : N ≤ 400000000) (hm : most ≤ 400) : xOk (N + 400) (gR w h s re fo ra tu we sh lv most X).2 := by
  have h1 := hO.1
  unfold gR
  generalize (g1 w h s re fo ra tu we sh X.1 (decide (nHf w h lv = 2))).2.2.1 = F2
  generalize (g1 w h s re fo ra tu we sh X.1 (decide (nHf w h lv = 2))).2.2.2.1 = P2
  generalize decide (1 ≤ nHf w h lv) = gd
  have h2 := fIt_nf (w := w) (h := h) (s := s) (re := re) (fo := fo) (ra := ra) (tu := tu) (we := we) (sh := sh) (gd := gd) (F2 := F2) (P2 := P2) most X
  have h3 := (fIt_ok (w := w) (h := h) (s := s) (re := re) (fo := fo) (ra := ra) (tu := tu) (we := we) (sh := sh) (gd := gd) (F2 := F2) (P2 := P2) hs ht most A h0 (by omega) hO.2).2.1
  generalize fIt (fS w h s re fo ra tu we sh gd F2 P2) most X = R at h2 h3 ⊢
  exact ⟨by omega, h3⟩
theorem aW_run {N w h s re fo ra tu we sh lv : Int} {most : Nat} {X : aX} {sv : Int × Int × Int × Int × Int × Int × Int} {H : List aX} {ht : Bool} {K : Int → Int → Int} {tl : Int} {tb : Int → Int} {fa r1 r2 : Int} {c : Prop} [Decidable c] (hs : 0 ≤ s ∧ s ≤ 3) (htu : 0 ≤ tu ∧ tu ≤ 3) (A : aOkX w h X) (h0 : 0 ≤ xNf X) (hN : N ≤ 400000000) (hm : most ≤ 400) (V : aW N (w, h, X, sv, H, ht, K, tl, tb, fa, r1, r2)) : aW (N + 400) (w, h, (gR w h s re fo ra tu we sh lv most X).2, sv, (if c then pH X H else H), ht, K, tl, tb, fa, r1, r2) := by
  have hR := gR_xOk (re := re) (fo := fo) (ra := ra) (we := we) (sh := sh) (lv := lv) hs htu A h0 V.1 hN hm
  obtain ⟨h1, h2, h3⟩ := V
  refine ⟨hR, fun Y hY => ?_, h3⟩
  split at hY
  · rcases pH_mem hY with r | r
    · rw [r]
      exact xOk_up h1 (by omega)
    · exact xOk_up (h2 Y r) (by omega)
  · exact xOk_up (h2 Y hY) (by omega)
theorem cV_ok {σ : yM} {w h : Int} {X : aX} {s re fo ra tu we sh : Int} {H : List aX} {ht : Bool} {K : Int → Int → Int} {tl : Int} {tb : Int → Int} {fa r1 r2 : Int} (V : cV σ (w, h, X, (s, re, fo, ra, tu, we, sh), H, ht, K, tl, tb, fa, r1, r2)) : aOkX w h X ∧ 0 ≤ xNf X ∧ (1 ≤ s ∧ s ≤ 3) ∧ (0 ≤ tu ∧ tu ≤ 3) := ⟨V.1.c.1, V.1.j.2.2.2.1.1, V.2.1.2.1, V.2.1.2.2.2.2.2.1⟩
theorem kOk_cV {w h : Int} {X : aX} (A : aOkX w h X) : kOk w h X.1 := fun x y h1 h2 h3 h4 => (A.2 x y h1 h2 h3 h4).1
/-- one side moved, the other's view stands -/
theorem mV_cG {σ σ' : yM} {A : aA} (V : mV σ A) (e : cG σ σ') : mV σ' A := V.fr (fun c j h => by rw [e c (by omega) (by omega)])
theorem cV_mF {σ σ' : yM} {A : aA} (V : cV σ A) (e : mF σ σ') : cV σ' A := by
  refine V.fr (fun c h _ => e c (by omega)) ?_
  obtain ⟨w, h, X, ⟨s, re, fo, ra, tu, we, sh⟩, H, hb, K, tl, tb, fa, r1, r2⟩ := A
  have t : rT σ := V.2.2.2.2.2.2.2.2
  intro j h1 h2 h3
  rw [e 127 (by omega)]
  exact t j h1 h2 h3
