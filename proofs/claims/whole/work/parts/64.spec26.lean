/-! parts, the latest changes -/
theorem sCt_rows (w h : Int) (p : Int → Int → Bool) : sCt w h p = sm (fun y => sm (fun x => bi (p x y)) 0 w.toNat) 0 h.toNat := by
  unfold sCt fr2 sm
  exact fr_congr (fun s y _ _ => fr_addc)
theorem sCt_lt {w h a b : Int} {p q : Int → Int → Bool} (hpq : ∀ x y, p x y = true → q x y = true) (ha : 0 ≤ a ∧ a < w) (hb : 0 ≤ b ∧ b < h) (h1 : p a b = false) (h2 : q a b = true) : sCt w h p + 1 ≤ sCt w h q := by
  rw [sCt_rows, sCt_rows]
  unfold sm
  refine fr_sumlt (c := b) (Int.le_refl _) (fun y _ _ => fr_sumle (Int.le_refl _) (fun x _ _ => bi_le (hpq x y))) (by omega) (by omega) ?_
  refine fr_sumlt (c := a) (Int.le_refl _) (fun x _ _ => bi_le (hpq x b)) (by omega) (by omega) ?_
  rw [h1, h2]
  decide
theorem sCt_bd {w h : Int} (hw : 1 ≤ w ∧ w ≤ 20) (hh : 1 ≤ h ∧ h ≤ 20) (p : Int → Int → Bool) : 0 ≤ sCt w h p ∧ sCt w h p ≤ w * h := by
  rw [sCt_rows]
  have h1 : ∀ y, 0 ≤ sm (fun x => bi (p x y)) 0 w.toNat ∧ sm (fun x => bi (p x y)) 0 w.toNat ≤ w := fun y => by
    have a1 := sm_nn (f := fun x => bi (p x y)) (a := 0) (n := w.toNat) (fun i _ _ => (bi_bd _).1)
    have a2 := sm_le (f := fun x => bi (p x y)) (a := 0) (b := 1) (n := w.toNat) (fun i _ _ => (bi_bd _).2)
    omega
  refine ⟨sm_nn (fun i _ _ => (h1 i).1), ?_⟩
  have a3 := sm_le (f := fun y => sm (fun x => bi (p x y)) 0 w.toNat) (a := 0) (b := w) (n := h.toNat) (fun i _ _ => (h1 i).2)
  rw [show ((h.toNat : Nat) : Int) = h by omega] at a3
  exact a3
abbrev aP : Type := (Int → Int → Int) × List (Int × Int)
def lup (L : Int → Int → Int) (i j v : Int) : Int → Int → Int := fun a b => if a = i ∧ b = j then v else L a b
def jnF (num : Int) (q : aP) (i j : Int) : aP := if q.1 i j = -1 then (lup q.1 i j num, q.2 ++ [(i, j)]) else q
def nbF (w h : Int) (T : Int → Int → Int) (num : Int) (q : aP) (i j : Int) : aP := if sMi w h T i j = true then jnF num q i j else q
def spF (w h : Int) (T : Int → Int → Int) (num : Int) (q : aP) (k : Int) : aP := fr (fun r s => nbF w h T num r ((gk q.2 k).1 + ys 0 s) ((gk q.2 k).2 + ys 1 s)) 0 4 q
def spr (w h : Int) (T : Int → Int → Int) (num : Int) : Nat → Int → aP → aP
  | 0, _, q => q
  | n + 1, k, q => if k < q.2.length then spr w h T num n (k + 1) (spF w h T num q k) else q
theorem spr_end {w h : Int} {T : Int → Int → Int} {num : Int} {k : Int} {q : aP} (hk : ¬ k < q.2.length) : ∀ n : Nat, spr w h T num n k q = q
  | 0 => rfl
  | n + 1 => if_neg hk
theorem spr_step {w h : Int} {T : Int → Int → Int} {num : Int} {k : Int} {q : aP} (hk : k < q.2.length) {m n : Nat} (hm : m = n + 1) : spr w h T num m k q = spr w h T num n (k + 1) (spF w h T num q k) := by
  subst hm
  exact if_pos hk
def ptF (w h : Int) (T : Int → Int → Int) (r : (Int → Int → Int) × Int) (x y : Int) : (Int → Int → Int) × Int := if sMi w h T x y = true ∧ r.1 x y = -1 then ((spr w h T r.2 401 0 (lup r.1 x y r.2, [(x, y)])).1, r.2 + 1) else r
def sPt (w h : Int) (T : Int → Int → Int) : (Int → Int → Int) × Int := fr2 (ptF w h T) 0 w.toNat 0 h.toNat (fun _ _ => -1, 0)
/-- labels and queue are in order -/
def pOk (w h : Int) (q : aP) : Prop := (∀ e ∈ q.2, sIn w h e.1 e.2 = true) ∧ (q.2.length : Int) ≤ sCt w h (fun x y => decide (q.1 x y ≠ -1)) ∧ ∀ x y, -1 ≤ q.1 x y ∧ q.1 x y ≤ 1000
theorem lup_s (L : Int → Int → Int) (i j v : Int) : lup L i j v i j = v := by simp [lup]
theorem lup_n {L : Int → Int → Int} {i j v a b : Int} (h : ¬ (a = i ∧ b = j)) : lup L i j v a b = L a b := if_neg h
theorem lup_ct {w h i j num : Int} {L : Int → Int → Int} (hi : sIn w h i j = true) (hL : L i j = -1) (hn : 0 ≤ num) : sCt w h (fun x y => decide (L x y ≠ -1)) + 1 ≤ sCt w h (fun x y => decide (lup L i j num x y ≠ -1)) := by
  have h1 := sIn_iff.mp hi
  refine sCt_lt (fun x y hp => ?_) ⟨h1.1, h1.2.1⟩ h1.2.2 (a := i) (b := j) (by simp [hL]) (by rw [lup_s]; simp; omega)
  simp only [decide_eq_true_eq] at hp ⊢
  by_cases e : x = i ∧ y = j
  · rw [e.1, e.2] at hp
    exact absurd hL hp
  · rw [lup_n e]
    exact hp
theorem lup_bd {L : Int → Int → Int} {i j num : Int} (h : ∀ x y, -1 ≤ L x y ∧ L x y ≤ 1000) (hn : 0 ≤ num ∧ num ≤ 1000) : ∀ x y, -1 ≤ lup L i j num x y ∧ lup L i j num x y ≤ 1000 := fun x y => by
  unfold lup
  split
  · omega
  · exact h x y
theorem pOk.jn {w h i j num : Int} {q : aP} (H : pOk w h q) (hi : sIn w h i j = true) (hn : 0 ≤ num ∧ num ≤ 1000) : pOk w h (jnF num q i j) := by
  unfold jnF
  split
  · rename_i hL
    refine ⟨fun e he => ?_, ?_, lup_bd H.2.2 hn⟩
    · rcases List.mem_append.mp he with he | he
      · exact H.1 e he
      · rw [List.mem_singleton] at he
        rw [he]
        exact hi
    · have h1 := lup_ct hi hL hn.1
      have h2 := H.2.1
      simp only [List.length_append, List.length_singleton]
      omega
  · exact H
theorem pOk.nb {w h i j num : Int} {T : Int → Int → Int} {q : aP} (H : pOk w h q) (hn : 0 ≤ num ∧ num ≤ 1000) : pOk w h (nbF w h T num q i j) := by
  unfold nbF
  split
  · rename_i hm
    exact H.jn (sMi_in hm) hn
  · exact H
theorem pOk.start {w h i j num : Int} (hw : 1 ≤ w ∧ w ≤ 20) (hh : 1 ≤ h ∧ h ≤ 20) {L : Int → Int → Int} (hb : ∀ x y, -1 ≤ L x y ∧ L x y ≤ 1000) (hi : sIn w h i j = true) (hL : L i j = -1) (hn : 0 ≤ num ∧ num ≤ 1000) : pOk w h (lup L i j num, [(i, j)]) := by
  refine ⟨fun e he => ?_, ?_, lup_bd hb hn⟩
  · rw [List.mem_singleton] at he
    rw [he]
    exact hi
  · have h1 := lup_ct hi hL hn.1
    have h2 := (sCt_bd hw hh (fun x y => decide (L x y ≠ -1))).1
    simp only [List.length_singleton]
    omega
theorem pOk.len {w h : Int} (hw : 1 ≤ w ∧ w ≤ 20) (hh : 1 ≤ h ∧ h ≤ 20) {q : aP} (H : pOk w h q) : (q.2.length : Int) ≤ 400 := by
  have h1 := (sCt_bd hw hh (fun x y => decide (q.1 x y ≠ -1))).2
  have h2 := y_wh hw hh
  have h3 := H.2.1
  omega
theorem pOk.room {w h i j : Int} (hw : 1 ≤ w ∧ w ≤ 20) (hh : 1 ≤ h ∧ h ≤ 20) {q : aP} (H : pOk w h q) (hi : sIn w h i j = true) (hL : q.1 i j = -1) : (q.2.length : Int) < 400 := by
  have h0 := lup_ct (num := 0) hi hL (by decide)
  have h1 := (sCt_bd hw hh (fun x y => decide (lup q.1 i j 0 x y ≠ -1))).2
  have h2 := y_wh hw hh
  have h3 := H.2.1
  omega
theorem pOk.spr {w h num : Int} {T : Int → Int → Int} (hn : 0 ≤ num ∧ num ≤ 1000) : ∀ (n : Nat) {k : Int} {q : aP}, pOk w h q → pOk w h (spr w h T num n k q)
  | 0, _, _, H => H
  | n + 1, k, q, H => by
    by_cases hk : k < q.2.length
    · rw [spr_step hk rfl]
      exact pOk.spr hn n (fr_inv (fun r => pOk w h r) H (fun r s _ _ hr => hr.nb hn))
    · rw [spr_end hk]
      exact H
/-- labels, queue in the class's memory and in the reference's -/
def rPc (σ : yM) (w h : Int) (L : Int → Int → Int) : Prop := ∀ x y : Int, 0 ≤ x → x < w → 0 ≤ y → y < h → σ 129 (y * w + x) = L x y
def rQc (σ : yM) (w : Int) (Q : List (Int × Int)) : Prop := σ 128 2 = (Q.length : Int) ∧ ∀ m : Int, 0 ≤ m → m < Q.length → σ 130 m = (gk Q m).2 * w + (gk Q m).1
def rPm (σ : yM) (w h : Int) (L : Int → Int → Int) : Prop := ∀ x y : Int, 0 ≤ x → x < w → 0 ≤ y → y < h → σ 169 (20 * y + x) = L x y
def rQm (σ : yM) (Q : List (Int × Int)) : Prop := ∀ m : Int, 0 ≤ m → m < Q.length → σ 170 m = 20 * (gk Q m).2 + (gk Q m).1
def fQ (σ σ' : yM) : Prop := ∀ (c : Nat) (j : Int), c ≠ 169 → c ≠ 170 → (c ≠ 155 ∨ j ≠ 40) → σ' c j = σ c j
theorem fQ.rf (σ : yM) : fQ σ σ := fun _ _ _ _ _ => rfl
theorem fQ.tr {a b c : yM} (h1 : fQ a b) (h2 : fQ b c) : fQ a c := fun k j x y z => (h2 k j x y z).trans (h1 k j x y z)
theorem fQ.cell {σ σ' : yM} (h : fQ σ σ') {c : Nat} (h1 : c ≠ 169) (h2 : c ≠ 170) (h3 : c ≠ 155) : σ' c = σ c := funext fun j => h c j h1 h2 (Or.inl h3)
theorem fc.fQ {σ σ' : yM} (h : fc 169 170 σ σ') : fQ σ σ' := fun c j h1 h2 _ => by rw [h c (by omega)]
theorem rM.fQ {σ σ' : yM} {z : Nat} {w h : Int} {T S F P O : Int → Int → Int} (H : rM σ z w h T S F P O) (hz : z < 3) (e : fQ σ σ') : rM σ' z w h T S F P O := H.fr (e.cell (by omega) (by omega) (by omega)) (e.cell (by omega) (by omega) (by omega)) (fun i _ _ => by rw [e.cell (by omega) (by omega) (by omega)])
theorem sPt_ok {w h : Int} {T : Int → Int → Int} (hw : 1 ≤ w ∧ w ≤ 20) (hh : 1 ≤ h ∧ h ≤ 20) {r : (Int → Int → Int) × Int} {x y : Int} (hi : sIn w h x y = true) (hb : ∀ a b, -1 ≤ r.1 a b ∧ r.1 a b ≤ 1000) (h2 : 0 ≤ r.2 ∧ r.2 ≤ 1000) : (∀ a b, -1 ≤ (ptF w h T r x y).1 a b ∧ (ptF w h T r x y).1 a b ≤ 1000) ∧ r.2 ≤ (ptF w h T r x y).2 ∧ (ptF w h T r x y).2 ≤ r.2 + 1 := by
  unfold ptF
  split
  · rename_i hc
    exact ⟨(pOk.spr h2 401 (pOk.start hw hh hb hi hc.2 h2)).2.2, by show r.2 ≤ r.2 + 1; omega, Int.le_refl _⟩
  · exact ⟨hb, by omega, by omega⟩
theorem sPt_bd {w h : Int} {T : Int → Int → Int} (hw : 1 ≤ w ∧ w ≤ 20) (hh : 1 ≤ h ∧ h ≤ 20) : (∀ a b, -1 ≤ (sPt w h T).1 a b ∧ (sPt w h T).1 a b ≤ 1000) ∧ 0 ≤ (sPt w h T).2 ∧ (sPt w h T).2 ≤ 400 := by
  have hwh := y_wh hw hh
  unfold sPt
  rw [← fr_linI (ptF w h T) (by omega) (by omega)]
  have := fr_ix (f := fun s i => ptF w h T s (i % w) (i / w)) (a := 0) (n := (w * h).toNat) (s := ((fun _ _ => -1, 0) : (Int → Int → Int) × Int)) (fun m r => (∀ a b, -1 ≤ r.1 a b ∧ r.1 a b ≤ 1000) ∧ 0 ≤ r.2 ∧ r.2 ≤ (m : Int)) ⟨fun _ _ => ⟨by simp, by simp⟩, by simp, by simp⟩ (fun m r hm hr => by
    have hd := y_de (w := w) (h := h) (i := 0 + (m : Int)) (by omega) (by omega) (by omega)
    have := sPt_ok (T := T) hw hh (r := r) (x := (0 + (m : Int)) % w) (y := (0 + (m : Int)) / w) (sIn_iff.mpr ⟨hd.2.1, hd.2.2.1, hd.2.2.2⟩) hr.1 (by omega)
    exact ⟨this.1, by omega, by omega⟩)
  exact ⟨this.1, this.2.1, by omega⟩
/-- a part's dot; beside a part -/
def isO (w h : Int) (L : Int → Int → Int) (x y p : Int) : Bool := sIn w h x y && decide (L x y = p)
def sBs (w h : Int) (L : Int → Int → Int) (x y p : Int) : Bool := isO w h L (x - 1) y p || isO w h L (x + 1) y p || isO w h L x (y - 1) p || isO w h L x (y + 1) p
theorem ys01 {s : Int} (h : 0 ≤ s ∧ s < 4) : (ys 0 s = if s = 0 then -1 else if s = 1 then 1 else 0) ∧ (ys 1 s = if s = 2 then -1 else if s = 3 then 1 else 0) := by
  rcases (show s = 0 ∨ s = 1 ∨ s = 2 ∨ s = 3 by omega) with e | e | e | e <;> subst e <;> decide
/-- a row filled -/
def yfl (σ : yM) (a : Nat) (len v : Int) : yM := fun c => if c = a then (fun j => if 0 ≤ j ∧ j < len then v else σ a j) else σ c
theorem yfl_0 (σ : yM) (a : Nat) (v : Int) : yfl σ a 0 v = σ := by
  funext c j
  unfold yfl
  by_cases h : c = a
  · subst h
    simp only [if_true]
    rw [if_neg (by omega)]
  · rw [if_neg h]
theorem yfl_s (σ : yM) (a : Nat) (i v : Int) (hi : 0 ≤ i) : yset (yfl σ a i v) a i v = yfl σ a (i + 1) v := by
  funext c j
  unfold yset yfl
  by_cases h : c = a
  · subst h
    simp only [if_true]
    by_cases e : j = i
    · rw [if_pos e, if_pos (by omega)]
    · rw [if_neg e]
      by_cases e2 : 0 ≤ j ∧ j < i
      · rw [if_pos e2, if_pos (by omega)]
      · rw [if_neg e2, if_neg (by omega)]
  · simp only [if_neg h]
theorem yfl_n {σ : yM} {a c : Nat} {len v : Int} (h : c ≠ a) : yfl σ a len v c = σ c := if_neg h
theorem yfl_at {σ : yM} {a : Nat} {len v j : Int} (h : 0 ≤ j ∧ j < len) : yfl σ a len v a j = v := by
  unfold yfl
  rw [if_pos rfl, if_pos h]
/-- the ring's cells -/
theorem r11 {i : Nat} (h : i < 11) : i = 0 ∨ i = 1 ∨ i = 2 ∨ i = 3 ∨ i = 4 ∨ i = 5 ∨ i = 6 ∨ i = 7 ∨ i = 8 ∨ i = 9 ∨ i = 10 := by omega
theorem snp_r {i : Nat} (h : i < 11) (g : yG) : SC g (15 + 9 * i) = some (kSnp g (15 + 9 * i)) := by
  rcases r11 h with e | e | e | e | e | e | e | e | e | e | e <;> subst e <;> rfl
theorem pic_r {i : Nat} (h : i < 11) : isPic (15 + 9 * i + 1) := by
  rcases r11 h with e | e | e | e | e | e | e | e | e | e | e <;> subst e
  · exact pic_16
  · exact pic_25
  · exact pic_34
  · exact pic_43
  · exact pic_52
  · exact pic_61
  · exact pic_70
  · exact pic_79
  · exact pic_88
  · exact pic_97
  · exact pic_106
theorem jou_r {i : Nat} (h : i < 11) : isJou (15 + 9 * i + 7) := by
  rcases r11 h with e | e | e | e | e | e | e | e | e | e | e <;> subst e
  · exact jou_22
  · exact jou_31
  · exact jou_40
  · exact jou_49
  · exact jou_58
  · exact jou_67
  · exact jou_76
  · exact jou_85
  · exact jou_94
  · exact jou_103
  · exact jou_112
theorem ys01v : (ys 0 0 = -1 ∧ ys 1 0 = 0) ∧ (ys 0 1 = 1 ∧ ys 1 1 = 0) ∧ (ys 0 2 = 0 ∧ ys 1 2 = -1) ∧ (ys 0 3 = 0 ∧ ys 1 3 = 1) := by decide
theorem sBs_4 {w h : Int} {L : Int → Int → Int} {x y p : Int} : sBs w h L x y p = (isO w h L (x + ys 0 0) (y + ys 1 0) p || isO w h L (x + ys 0 1) (y + ys 1 1) p || isO w h L (x + ys 0 2) (y + ys 1 2) p || isO w h L (x + ys 0 3) (y + ys 1 3) p) := by
  unfold sBs
  rw [ys01v.1.1, ys01v.1.2, ys01v.2.1.1, ys01v.2.1.2, ys01v.2.2.1.1, ys01v.2.2.1.2, ys01v.2.2.2.1, ys01v.2.2.2.2]
  simp only [Int.add_zero]
  rfl
theorem sBs_yes {w h : Int} {L : Int → Int → Int} {x y p t : Int} (ht : 0 ≤ t ∧ t < 4) (H : isO w h L (x + ys 0 t) (y + ys 1 t) p = true) : sBs w h L x y p = true := by
  rw [sBs_4]
  rcases (show t = 0 ∨ t = 1 ∨ t = 2 ∨ t = 3 by omega) with e | e | e | e <;> subst e <;> simp [H]
theorem sBs_no {w h : Int} {L : Int → Int → Int} {x y p : Int} (H : ∀ u : Int, 0 ≤ u → u < 4 → isO w h L (x + ys 0 u) (y + ys 1 u) p = false) : sBs w h L x y p = false := by
  rw [sBs_4, H 0 (by decide) (by decide), H 1 (by decide) (by decide), H 2 (by decide) (by decide), H 3 (by decide) (by decide)]
  rfl
