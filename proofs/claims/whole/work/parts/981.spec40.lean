/-! the whole text -/
def uOk9 (e mo fp0 : Int) (q : aU) : Prop := match q with
  | (f, fp, p, c, m) => (0 ≤ f ∧ f ≤ 3) ∧ (-1 ≤ fp ∧ fp ≤ e) ∧ (0 ≤ p ∧ p ≤ e) ∧ (0 ≤ c ∧ c ≤ mo) ∧ (∀ x : Int, -1 ≤ m x ∧ m x ≤ 255) ∧ (f = 0 → fp = fp0)
theorem rwI_ok {tb : Int → Int} {e mo fp0 : Int} (htb : ∀ j : Int, 0 ≤ tb j ∧ tb j ≤ 255) (hm : 0 ≤ mo ∧ mo ≤ 20) {q : aU} (H : uOk9 e mo fp0 q) (h0 : q.1 = 0) : uOk9 e mo fp0 (rwI tb e mo q) := by
  obtain ⟨f, fp, p, c, m⟩ := q
  obtain ⟨a1, a2, a3, a4, a5, a6⟩ := H
  have h0 : f = 0 := h0
  unfold rwI
  simp only
  rcases hI : itm tb e p (mo - c) with ⟨f', fp', p', t, v⟩
  have hb := itm_bd a3 (by omega) htb hI.symm
  show uOk9 e mo fp0 (f', if f' = 0 then fp else fp', p', c + t, rwG c m t v)
  refine ⟨hb.1, ?_, by omega, by omega, fun x => ?_, fun h => ?_⟩
  · split <;> omega
  · show -1 ≤ rwG c m t v x ∧ rwG c m t v x ≤ 255
    unfold rwG
    split
    · exact hb.2.2.2.2.1
    · exact a5 x
  · rw [if_pos h]; exact a6 h0
theorem rwL_ok {tb : Int → Int} {e mo fp0 : Int} (htb : ∀ j : Int, 0 ≤ tb j ∧ tb j ≤ 255) (hm : 0 ≤ mo ∧ mo ≤ 20) : ∀ (n : Nat) {q : aU}, uOk9 e mo fp0 q → uOk9 e mo fp0 (rwL tb e mo n q)
  | 0, _, H => H
  | n + 1, q, H => by
    unfold rwL
    split
    · rename_i hc
      refine rwL_ok htb hm n (rwI_ok htb hm H ?_)
      obtain ⟨f, fp, p, c, m⟩ := q
      simp only [rwC, decide_eq_true_eq] at hc
      exact hc.1
    · exact H
theorem rwE_bd {tb : Int → Int} {e y W p fp : Int} (htb : ∀ j : Int, 0 ≤ tb j ∧ tb j ≤ 255) (hp : 0 ≤ p ∧ p ≤ e) (hf : -1 ≤ fp ∧ fp ≤ e) (hm : 0 ≤ rwMo y W ∧ rwMo y W ≤ 20) {f fp' p' c : Int} {m : Int → Int} (hE : (f, fp', p', c, m) = rwE tb e y W p fp) : (0 ≤ f ∧ f ≤ 4) ∧ (-1 ≤ fp' ∧ fp' ≤ e) ∧ (0 ≤ p' ∧ p' ≤ e) ∧ (0 ≤ c ∧ c ≤ rwMo y W) ∧ (∀ x : Int, -1 ≤ m x ∧ m x ≤ 255) ∧ (f = 0 → fp' = fp ∧ rwLe y W ≤ c) := by
  have h1 : uOk9 e (rwMo y W) fp (0, fp, p, 0, fun _ => 0) := ⟨by omega, hf, hp, by omega, fun _ => (by decide : (-1 : Int) ≤ 0 ∧ (0 : Int) ≤ 255), fun _ => rfl⟩
  have h2 := rwL_ok htb hm 300 (rwI_ok htb hm h1 rfl)
  unfold rwE at hE
  rw [show rwR tb e (rwMo y W) p fp = rwL tb e (rwMo y W) 300 (rwI tb e (rwMo y W) (0, fp, p, 0, fun _ => 0)) from rfl] at hE
  rcases hR : rwL tb e (rwMo y W) 300 (rwI tb e (rwMo y W) (0, fp, p, 0, fun _ => 0)) with ⟨a, b, c', d, k⟩
  rw [hR] at hE h2
  obtain ⟨a1, a2, a3, a4, a5, a6⟩ := h2
  simp only at hE
  split at hE
  · injection hE with e1 hE
    injection hE with e2 hE
    injection hE with e3 hE
    injection hE with e4 e5
    refine ⟨by omega, by omega, by omega, by omega, by rw [e5]; exact a5, fun h => by omega⟩
  · rename_i hn
    injection hE with e1 hE
    injection hE with e2 hE
    injection hE with e3 hE
    injection hE with e4 e5
    refine ⟨by omega, by omega, by omega, by omega, by rw [e5]; exact a5, fun h => ⟨by rw [e2]; exact a6 (by omega), by omega⟩⟩
abbrev aV : Type := Int × Int × Int × Int × (Int → Int → Int)
def txM (M : Int → Int → Int) (y : Int) (m : Int → Int) : Int → Int → Int := fun a b => if b = y then m a else M a b
def txR (tb : Int → Int) (e : Int) : Nat → Int → Int → Int → (Int → Int → Int) → aV
  | 0, y, _, W, M => (0, -1, W, y, M)
  | n + 1, y, p, W, M => match rwE tb e y W p (-1) with
    | (f, fp, p', c, m) => if f ≠ 0 then (f, fp, 0, 0, M)
      else if e ≤ p' then (if y + 1 < 3 then (5, e, 0, 0, M) else (0, -1, if y = 0 then c else W, y + 1, txM M y m))
      else if y = 19 then (3, p', 0, 0, M) else txR tb e n (y + 1) (p' + 1) (if y = 0 then c else W) (txM M y m)
theorem txR_f {tb : Int → Int} {e : Int} {n : Nat} {y p W : Int} {M : Int → Int → Int} {f fp p' c : Int} {m : Int → Int} (hn : n = (20 - y).toNat) (hy : y ≤ 19) (hE : (f, fp, p', c, m) = rwE tb e y W p (-1)) (hf : f ≠ 0) : txR tb e n y p W M = (f, fp, 0, 0, M) := by
  rw [show n = (19 - y).toNat + 1 by omega]
  unfold txR
  rw [← hE]
  exact if_pos hf
theorem txR_e {tb : Int → Int} {e : Int} {n : Nat} {y p W : Int} {M : Int → Int → Int} {f fp p' c : Int} {m : Int → Int} (hn : n = (20 - y).toNat) (hy : y ≤ 19) (hE : (f, fp, p', c, m) = rwE tb e y W p (-1)) (hf : f = 0) (hp : e ≤ p') : txR tb e n y p W M = (if y + 1 < 3 then (5, e, 0, 0, M) else (0, -1, if y = 0 then c else W, y + 1, txM M y m)) := by
  rw [show n = (19 - y).toNat + 1 by omega]
  unfold txR
  rw [← hE]
  simp only [hf, ne_eq, not_true_eq_false, if_false, hp, if_true]
theorem txR_3 {tb : Int → Int} {e : Int} {n : Nat} {y p W : Int} {M : Int → Int → Int} {f fp p' c : Int} {m : Int → Int} (hn : n = (20 - y).toNat) (hy : y = 19) (hE : (f, fp, p', c, m) = rwE tb e y W p (-1)) (hf : f = 0) (hp : ¬ e ≤ p') : txR tb e n y p W M = (3, p', 0, 0, M) := by
  rw [show n = (19 - y).toNat + 1 by omega]
  unfold txR
  rw [← hE]
  simp only [hf, ne_eq, not_true_eq_false, if_false, hp, hy, if_true]
theorem txR_g {tb : Int → Int} {e : Int} {n : Nat} {y p W : Int} {M : Int → Int → Int} {f fp p' c : Int} {m : Int → Int} (hn : n = (20 - y).toNat) (hy : y < 19) (hE : (f, fp, p', c, m) = rwE tb e y W p (-1)) (hf : f = 0) (hp : ¬ e ≤ p') : txR tb e n y p W M = txR tb e (20 - (y + 1)).toNat (y + 1) (p' + 1) (if y = 0 then c else W) (txM M y m) := by
  rw [show n = (19 - y).toNat + 1 by omega, show (20 - (y + 1)).toNat = (19 - y).toNat by omega]
  conv => lhs; unfold txR
  rw [← hE]
  simp only [hf, ne_eq, not_true_eq_false, if_false, hp, show ¬ y = 19 by omega]
