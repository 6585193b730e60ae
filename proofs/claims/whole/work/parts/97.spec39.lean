/-! a row of the text -/
theorem itm_bd {tb : Int → Int} {e p ro : Int} (hp : 0 ≤ p ∧ p ≤ e) (hr : 0 ≤ ro ∧ ro ≤ 20) (htb : ∀ j : Int, 0 ≤ tb j ∧ tb j ≤ 255) {f fp p' t v : Int} (hI : (f, fp, p', t, v) = itm tb e p ro) : (0 ≤ f ∧ f ≤ 3) ∧ (-1 ≤ fp ∧ fp ≤ e) ∧ (p ≤ p' ∧ p' ≤ e) ∧ (0 ≤ t ∧ t ≤ ro) ∧ (-1 ≤ v ∧ v ≤ 255) ∧ (f = 0 → p < p' ∧ 1 ≤ t) := by
  have hb := it_bd (tb := tb) hp.2
  unfold itm at hI
  split at hI
  · obtain ⟨rfl, rfl, rfl, rfl, rfl⟩ := (by simpa using hI : f = 2 ∧ fp = p ∧ p' = (dgP tb e p).1 ∧ t = 0 ∧ v = 0)
    refine ⟨by omega, by omega, by omega, by omega, by omega, fun h => by omega⟩
  · rename_i h1
    split at hI
    · obtain ⟨rfl, rfl, rfl, rfl, rfl⟩ := (by simpa using hI : f = 1 ∧ fp = (dgP tb e p).1 ∧ p' = (dgP tb e p).1 ∧ t = 0 ∧ v = 0)
      refine ⟨by omega, by omega, by omega, by omega, by omega, fun h => by omega⟩
    · rename_i h2
      split at hI
      · obtain ⟨rfl, rfl, rfl, rfl, rfl⟩ := (by simpa using hI : f = 3 ∧ fp = p ∧ p' = (dgP tb e p).1 ∧ t = 0 ∧ v = 0)
        refine ⟨by omega, by omega, by omega, by omega, by omega, fun h => by omega⟩
      · rename_i h3
        injection hI with e1 hI
        injection hI with e2 hI
        injection hI with e3 hI
        injection hI with e4 e5
        have h4 : (dgP tb e p).1 < e := by
          rcases Decidable.em ((dgP tb e p).1 < e) with h | h
          · exact h
          · exfalso; apply h2; unfold itB; rw [if_neg h]; omega
        have h5 : 1 ≤ itT tb e p := by
          simp only [itF, decide_eq_true_eq] at h1
          unfold itT
          split <;> omega
        have h6 : -1 ≤ v ∧ v ≤ 255 := by
          rw [e5]
          split <;> omega
        refine ⟨by omega, by omega, by omega, by omega, h6, fun h => by omega⟩
/-- while a row is read: fault, its place, the place, how many, the tones -/
abbrev aU : Type := Int × Int × Int × Int × (Int → Int)
def rwG (c : Int) (m : Int → Int) (t v : Int) : Int → Int := fun x => if c ≤ x ∧ x < c + t then v else m x
def rwI (tb : Int → Int) (e mo : Int) (q : aU) : aU := match q with
  | (_, fp, p, c, m) => match itm tb e p (mo - c) with
    | (f', fp', p', t, v) => (f', if f' = 0 then fp else fp', p', c + t, rwG c m t v)
def rwC (tb : Int → Int) (e : Int) (q : aU) : Bool := match q with
  | (f, _, p, _, _) => decide (f = 0 ∧ p < e ∧ tb p ≠ 47)
def rwL (tb : Int → Int) (e mo : Int) : Nat → aU → aU
  | 0, q => q
  | n + 1, q => if rwC tb e q = true then rwL tb e mo n (rwI tb e mo q) else q
def rwR (tb : Int → Int) (e mo p fp : Int) : aU := rwL tb e mo 300 (rwI tb e mo (0, fp, p, 0, fun _ => 0))
theorem rwL_stop {tb : Int → Int} {e mo : Int} {n : Nat} {q : aU} (h : rwC tb e q = false) : rwL tb e mo n q = q := by
  cases n with
  | zero => rfl
  | succ n => exact if_neg (by rw [h]; decide)
theorem rwL_go {tb : Int → Int} {e mo i : Int} {q : aU} (hi : i ≤ 300) (h : rwC tb e q = true) : rwL tb e mo (301 - i).toNat q = rwL tb e mo (301 - (i + 1)).toNat (rwI tb e mo q) := by
  rw [show (301 - i).toNat = (301 - (i + 1)).toNat + 1 by omega]
  exact if_pos h
def rwMo (y W : Int) : Int := if y = 0 then 20 else W
def rwLe (y W : Int) : Int := if y = 0 then 3 else W
def rwE (tb : Int → Int) (e y W p fp : Int) : aU := match rwR tb e (rwMo y W) p fp with
  | (f, fp', p', c, m) => if f = 0 ∧ c < rwLe y W then (4, p', p', c, m) else (f, fp', p', c, m)
theorem rTq.w {σ σ' : yM} {tb : Int → Int} {e p f fp W h dr d : Int} (H : rTq σ tb e p f fp W h dr) (e1 : σ' = yset σ 1 3 d) : rTq σ' tb e p f fp d h dr ∧ fTr σ σ' := by
  obtain ⟨h1, h2, h3, h4, h5, h6, h7, h8⟩ := H
  subst e1
  refine ⟨⟨?_, ?_, ?_, ?_, yset_e _ _ _ _, ?_, ?_, fun j a b => ?_⟩, fun c a => yset_n a, ?_⟩ <;> first | (rw [yset_o (by omega)]; assumption) | (rw [yset_n (by omega)]; exact h8 j a b) | (rw [yset_o (by omega)])
theorem rTq.h {σ σ' : yM} {tb : Int → Int} {e p f fp W h dr d : Int} (H : rTq σ tb e p f fp W h dr) (e1 : σ' = yset σ 1 4 d) : rTq σ' tb e p f fp W d dr ∧ fTr σ σ' := by
  obtain ⟨h1, h2, h3, h4, h5, h6, h7, h8⟩ := H
  subst e1
  refine ⟨⟨?_, ?_, ?_, ?_, ?_, yset_e _ _ _ _, ?_, fun j a b => ?_⟩, fun c a => yset_n a, ?_⟩ <;> first | (rw [yset_o (by omega)]; assumption) | (rw [yset_n (by omega)]; exact h8 j a b) | (rw [yset_o (by omega)])
/-- what lies in the tones from dr on -/
def rTn (σ σ' : yM) (dr c : Int) (m : Int → Int) : Prop := ∀ j : Int, σ' 3 j = if dr ≤ j ∧ j < dr + c then m (j - dr) else σ 3 j
theorem rTn.up {σ σ1 σ2 : yM} {dr c t v : Int} {m : Int → Int} (hc : 0 ≤ c) (ht : 0 ≤ t) (H : rTn σ σ1 dr c m) (e : ∀ j : Int, σ2 3 j = if dr + c ≤ j ∧ j < dr + c + t then v else σ1 3 j) : rTn σ σ2 dr (c + t) (rwG c m t v) := by
  intro j
  rw [e j]
  by_cases h1 : dr + c ≤ j ∧ j < dr + c + t
  · rw [if_pos h1, if_pos (show dr ≤ j ∧ j < dr + (c + t) by omega)]
    exact (if_pos (show c ≤ j - dr ∧ j - dr < c + t by omega)).symm
  · rw [if_neg h1, H j]
    have h2 : (dr ≤ j ∧ j < dr + (c + t)) ↔ (dr ≤ j ∧ j < dr + c) := by omega
    simp only [h2]
    split
    · exact (if_neg (show ¬ (c ≤ j - dr ∧ j - dr < c + t) by omega)).symm
    · rfl
theorem rTn.fr {σ σ1 σ2 : yM} {dr c : Int} {m : Int → Int} (H : rTn σ σ1 dr c m) (e : σ2 3 = σ1 3) : rTn σ σ2 dr c m := fun j => by rw [e]; exact H j
