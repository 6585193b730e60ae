/-! the tape, read -/
def dgs (tb : Int → Int) (e : Int) : Nat → Int → Int → Int × Int
  | 0, p, t => (p, t)
  | n + 1, p, t => if p < e ∧ 48 ≤ tb p ∧ tb p ≤ 57 then dgs tb e n (p + 1) (min (t * 10 + tb p - 48) 300) else (p, t)
theorem dgs_stop {tb : Int → Int} {e : Int} {n : Nat} {p t : Int} (h : ¬ (p < e ∧ 48 ≤ tb p ∧ tb p ≤ 57)) : dgs tb e n p t = (p, t) := by
  cases n with
  | zero => rfl
  | succ n => exact if_neg h
theorem dgs_go {tb : Int → Int} {e p t : Int} (h : p < e ∧ 48 ≤ tb p ∧ tb p ≤ 57) : dgs tb e (e - p).toNat p t = dgs tb e (e - (p + 1)).toNat (p + 1) (min (t * 10 + tb p - 48) 300) := by
  rw [show (e - p).toNat = (e - (p + 1)).toNat + 1 by omega]
  exact if_pos h
theorem dgs_bd {tb : Int → Int} {e : Int} : ∀ {n : Nat} {p t : Int}, n = (e - p).toNat → p ≤ e → 0 ≤ t ∧ t ≤ 300 → p ≤ (dgs tb e n p t).1 ∧ (dgs tb e n p t).1 ≤ e ∧ 0 ≤ (dgs tb e n p t).2 ∧ (dgs tb e n p t).2 ≤ 300
  | 0, p, t, _, hp, ht => ⟨Int.le_refl _, hp, ht⟩
  | n + 1, p, t, hn, hp, ht => by
    unfold dgs
    split
    · have := dgs_bd (tb := tb) (e := e) (n := n) (p := p + 1) (t := min (t * 10 + tb p - 48) 300) (by omega) (by omega) (by omega)
      omega
    · exact ⟨Int.le_refl _, hp, ht⟩
/-- the digits at p: where they end, and what they say -/
def dgP (tb : Int → Int) (e p : Int) : Int × Int := dgs tb e (e - p).toNat p 0
def itT (tb : Int → Int) (e p : Int) : Int := if (dgP tb e p).1 = p then 1 else (dgP tb e p).2
def itF (tb : Int → Int) (e p : Int) : Bool := decide ((dgP tb e p).1 ≠ p ∧ ¬ (2 ≤ (dgP tb e p).2 ∧ (dgP tb e p).2 ≤ 20))
def itB (tb : Int → Int) (e p : Int) : Int := if (dgP tb e p).1 < e then tb (dgP tb e p).1 else -1
/-- one item: fault, its place, the next place, how many, what tone -/
def itm (tb : Int → Int) (e p room : Int) : Int × Int × Int × Int × Int :=
  if itF tb e p = true then (2, p, (dgP tb e p).1, 0, 0)
  else if ¬ (itB tb e p = 63 ∨ (97 ≤ itB tb e p ∧ itB tb e p ≤ 122)) then (1, (dgP tb e p).1, (dgP tb e p).1, 0, 0)
  else if room < itT tb e p then (3, p, (dgP tb e p).1, 0, 0)
  else (0, -1, (dgP tb e p).1 + 1, itT tb e p, if itB tb e p = 63 then -1 else (itB tb e p - 97) * 10)
/-- the tape while it is read -/
def rTq (σ : yM) (tb : Int → Int) (e p f fp W h dr : Int) : Prop := σ 1 6 = e ∧ σ 1 7 = p ∧ σ 1 8 = f ∧ σ 1 5 = fp ∧ σ 1 3 = W ∧ σ 1 4 = h ∧ σ 1 9 = dr ∧ ∀ j : Int, 0 ≤ j → j < e → σ 2 j = tb j
/-- only cell 1 changed, and there not the length -/
def fTr (σ σ' : yM) : Prop := (∀ c : Nat, c ≠ 1 → σ' c = σ c) ∧ σ' 1 1 = σ 1 1
theorem fTr.rf (σ : yM) : fTr σ σ := ⟨fun _ _ => rfl, rfl⟩
theorem fTr.tr {σ σ1 σ2 : yM} (h1 : fTr σ σ1) (h2 : fTr σ1 σ2) : fTr σ σ2 := ⟨fun c a => (h2.1 c a).trans (h1.1 c a), h2.2.trans h1.2⟩
theorem rTq.place {σ σ' : yM} {tb : Int → Int} {e p f fp W h dr q : Int} (H : rTq σ tb e p f fp W h dr) (e1 : σ' = yset σ 1 7 q) : rTq σ' tb e q f fp W h dr ∧ fTr σ σ' := by
  obtain ⟨h1, h2, h3, h4, h5, h6, h7, h8⟩ := H
  subst e1
  refine ⟨⟨?_, yset_e _ _ _ _, ?_, ?_, ?_, ?_, ?_, fun j a b => ?_⟩, fun c a => yset_n a, ?_⟩ <;> first | (rw [yset_o (by omega)]; assumption) | (rw [yset_n (by omega)]; exact h8 j a b) | (rw [yset_o (by omega)])
theorem rTq.fail {σ σ' : yM} {tb : Int → Int} {e p f fp W h dr f' q : Int} (H : rTq σ tb e p f fp W h dr) (e1 : σ' = yset (yset σ 1 8 f') 1 5 q) : rTq σ' tb e p f' q W h dr ∧ fTr σ σ' := by
  obtain ⟨h1, h2, h3, h4, h5, h6, h7, h8⟩ := H
  subst e1
  refine ⟨⟨?_, ?_, ?_, yset_e _ _ _ _, ?_, ?_, ?_, fun j a b => ?_⟩, fun c a => by rw [yset_n a, yset_n a], ?_⟩ <;> first | (rw [yset_o (by omega), yset_o (by omega)]; assumption) | (rw [yset_o (by omega), yset_e]) | (rw [yset_n (by omega), yset_n (by omega)]; exact h8 j a b) | (rw [yset_o (by omega), yset_o (by omega)])
