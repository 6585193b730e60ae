/-! the reference reads the tape -/
def sg (tb : Int → Int) (e p : Int) : Int := if p < e then sb (tb p) else 0
def iD (tb : Int → Int) (e p : Int) : Bool := decide (p < e ∧ (tb p = 63 ∨ (97 ≤ tb p ∧ tb p ≤ 122)))
theorem sg_bd {tb : Int → Int} {e p : Int} (h : 0 ≤ tb p ∧ tb p ≤ 255) : -128 ≤ sg tb e p ∧ sg tb e p ≤ 127 := by unfold sg sb; split; (split <;> omega); omega
theorem sg_dig {tb : Int → Int} {e p : Int} (h : 0 ≤ tb p ∧ tb p ≤ 255) : (48 ≤ sg tb e p ∧ sg tb e p ≤ 57) ↔ (p < e ∧ 48 ≤ tb p ∧ tb p ≤ 57) := by unfold sg sb; split; (split <;> omega); omega
theorem sg_dot {tb : Int → Int} {e p : Int} (h : 0 ≤ tb p ∧ tb p ≤ 255) : ((97 ≤ sg tb e p ∧ sg tb e p ≤ 122) ∨ sg tb e p = 63) ↔ (p < e ∧ (tb p = 63 ∨ (97 ≤ tb p ∧ tb p ≤ 122))) := by unfold sg sb; split; (split <;> omega); omega
theorem sg_at {tb : Int → Int} {e p : Int} (h : 0 ≤ tb p) (h1 : tb p < 128) (hp : p < e) : sg tb e p = tb p := by unfold sg sb; rw [if_pos hp, if_pos h1]
theorem sg_sl {tb : Int → Int} {e p : Int} (h : 0 ≤ tb p ∧ tb p ≤ 255) (hp : p < e) : sg tb e p = 47 ↔ tb p = 47 := by unfold sg sb; rw [if_pos hp]; split <;> omega
/-- the reference's reading state: size, place, fault, its place, width, height, so many in the row -/
def mTq (σ : yM) (tb : Int → Int) (e p f fp W h c : Int) : Prop := σ 155 31 = e ∧ σ 155 32 = p ∧ σ 155 33 = f ∧ (f ≠ 0 → σ 155 34 = fp) ∧ σ 155 35 = W ∧ σ 155 36 = h ∧ σ 155 37 = c ∧ ∀ j : Int, 0 ≤ j → j < e → σ 167 j = sb (tb j)
def gT (σ σ' : yM) : Prop := (∀ c : Nat, c ≠ 155 → c ≠ 168 → σ' c = σ c) ∧ ∀ j : Int, (j < 31 ∨ 37 < j) → σ' 155 j = σ 155 j
theorem gT.rf (σ : yM) : gT σ σ := ⟨fun _ _ _ => rfl, fun _ _ => rfl⟩
theorem gT.tr {a b c : yM} (h1 : gT a b) (h2 : gT b c) : gT a c := ⟨fun k p q => (h2.1 k p q).trans (h1.1 k p q), fun j p => (h2.2 j p).trans (h1.2 j p)⟩
theorem gT.s5 {σ : yM} {j v : Int} (hj : 31 ≤ j ∧ j ≤ 37) : gT σ (yset σ 155 j v) := ⟨fun c a _ => yset_n a, fun i a => yset_o (by omega)⟩
theorem gT.s8 {σ : yM} {j v : Int} : gT σ (yset σ 168 j v) := ⟨fun c _ b => yset_n b, fun i a => by rw [yset_n (by omega)]⟩
theorem mTq.wr {σ σ' : yM} {tb : Int → Int} {e p f fp W h c kd pl : Int} (H : mTq σ tb e p f fp W h c) (hk : kd ≠ 0) (e1 : σ' = yset (yset σ 155 33 kd) 155 34 pl) : mTq σ' tb e p kd pl W h c ∧ gT σ σ' ∧ σ' 168 = σ 168 := by
  obtain ⟨h1, h2, h3, h4, h5, h6, h7, h8⟩ := H
  subst e1
  refine ⟨⟨?_, ?_, ?_, fun _ => yset_e _ _ _ _, ?_, ?_, ?_, fun j a b => ?_⟩, (gT.s5 (by omega)).tr (gT.s5 (by omega)), by rw [yset_n (by omega), yset_n (by omega)]⟩
  · rw [yset_o (by omega), yset_o (by omega)]; exact h1
  · rw [yset_o (by omega), yset_o (by omega)]; exact h2
  · rw [yset_o (by omega), yset_e]
  · rw [yset_o (by omega), yset_o (by omega)]; exact h5
  · rw [yset_o (by omega), yset_o (by omega)]; exact h6
  · rw [yset_o (by omega), yset_o (by omega)]; exact h7
  · rw [yset_n (by omega), yset_n (by omega)]; exact h8 j a b
theorem mTq.nx {σ σ' : yM} {tb : Int → Int} {e p f fp W h c q : Int} (H : mTq σ tb e p f fp W h c) (e1 : σ' = yset σ 155 32 q) : mTq σ' tb e q f fp W h c ∧ gT σ σ' ∧ σ' 168 = σ 168 := by
  obtain ⟨h1, h2, h3, h4, h5, h6, h7, h8⟩ := H
  subst e1
  refine ⟨⟨?_, yset_e _ _ _ _, ?_, fun z => ?_, ?_, ?_, ?_, fun j a b => ?_⟩, gT.s5 (by omega), yset_n (by omega)⟩
  · rw [yset_o (by omega)]; exact h1
  · rw [yset_o (by omega)]; exact h3
  · rw [yset_o (by omega)]; exact h4 z
  · rw [yset_o (by omega)]; exact h5
  · rw [yset_o (by omega)]; exact h6
  · rw [yset_o (by omega)]; exact h7
  · rw [yset_n (by omega)]; exact h8 j a b
theorem mTq.rm {σ σ' : yM} {tb : Int → Int} {e p f fp W h c q : Int} (H : mTq σ tb e p f fp W h c) (e1 : σ' = yset σ 155 37 q) : mTq σ' tb e p f fp W h q ∧ gT σ σ' ∧ σ' 168 = σ 168 := by
  obtain ⟨h1, h2, h3, h4, h5, h6, h7, h8⟩ := H
  subst e1
  refine ⟨⟨?_, ?_, ?_, fun z => ?_, ?_, ?_, yset_e _ _ _ _, fun j a b => ?_⟩, gT.s5 (by omega), yset_n (by omega)⟩
  · rw [yset_o (by omega)]; exact h1
  · rw [yset_o (by omega)]; exact h2
  · rw [yset_o (by omega)]; exact h3
  · rw [yset_o (by omega)]; exact h4 z
  · rw [yset_o (by omega)]; exact h5
  · rw [yset_o (by omega)]; exact h6
  · rw [yset_n (by omega)]; exact h8 j a b
theorem mTq.rw_ {σ σ' : yM} {tb : Int → Int} {e p f fp W h c q : Int} (H : mTq σ tb e p f fp W h c) (e1 : σ' = yset σ 155 35 q) : mTq σ' tb e p f fp q h c ∧ gT σ σ' ∧ σ' 168 = σ 168 := by
  obtain ⟨h1, h2, h3, h4, h5, h6, h7, h8⟩ := H
  subst e1
  refine ⟨⟨?_, ?_, ?_, fun z => ?_, yset_e _ _ _ _, ?_, ?_, fun j a b => ?_⟩, gT.s5 (by omega), yset_n (by omega)⟩
  · rw [yset_o (by omega)]; exact h1
  · rw [yset_o (by omega)]; exact h2
  · rw [yset_o (by omega)]; exact h3
  · rw [yset_o (by omega)]; exact h4 z
  · rw [yset_o (by omega)]; exact h6
  · rw [yset_o (by omega)]; exact h7
  · rw [yset_n (by omega)]; exact h8 j a b
theorem mTq.rh {σ σ' : yM} {tb : Int → Int} {e p f fp W h c q : Int} (H : mTq σ tb e p f fp W h c) (e1 : σ' = yset σ 155 36 q) : mTq σ' tb e p f fp W q c ∧ gT σ σ' ∧ σ' 168 = σ 168 := by
  obtain ⟨h1, h2, h3, h4, h5, h6, h7, h8⟩ := H
  subst e1
  refine ⟨⟨?_, ?_, ?_, fun z => ?_, ?_, yset_e _ _ _ _, ?_, fun j a b => ?_⟩, gT.s5 (by omega), yset_n (by omega)⟩
  · rw [yset_o (by omega)]; exact h1
  · rw [yset_o (by omega)]; exact h2
  · rw [yset_o (by omega)]; exact h3
  · rw [yset_o (by omega)]; exact h4 z
  · rw [yset_o (by omega)]; exact h5
  · rw [yset_o (by omega)]; exact h7
  · rw [yset_n (by omega)]; exact h8 j a b
theorem mTq.rd {σ σ' : yM} {tb : Int → Int} {e p f fp W h c i v : Int} (H : mTq σ tb e p f fp W h c) (e1 : σ' = yset σ 168 i v) : mTq σ' tb e p f fp W h c ∧ gT σ σ' := by
  obtain ⟨h1, h2, h3, h4, h5, h6, h7, h8⟩ := H
  subst e1
  refine ⟨⟨?_, ?_, ?_, fun z => ?_, ?_, ?_, ?_, fun j a b => ?_⟩, gT.s8⟩ <;> rw [yset_n (by omega)] <;> first | assumption | exact h4 z | exact h8 j a b
theorem itB_dot {tb : Int → Int} {e p : Int} : iD tb e (dgP tb e p).1 = true ↔ (itB tb e p = 63 ∨ (97 ≤ itB tb e p ∧ itB tb e p ≤ 122)) := by
  unfold iD itB
  rw [decide_eq_true_eq]
  split <;> omega
theorem itF_iff {tb : Int → Int} {e p : Int} : itF tb e p = true ↔ ((dgP tb e p).1 ≠ p ∧ ¬ (2 ≤ (dgP tb e p).2 ∧ (dgP tb e p).2 ≤ 20)) := by unfold itF; rw [decide_eq_true_eq]
theorem dgP_no {tb : Int → Int} {e p : Int} (h : ¬ (p < e ∧ 48 ≤ tb p ∧ tb p ≤ 57)) : dgP tb e p = (p, 0) := dgs_stop h
theorem mTq.f0 {σ : yM} {tb : Int → Int} {e p fp fp' W h c : Int} (H : mTq σ tb e p 0 fp W h c) : mTq σ tb e p 0 fp' W h c := by
  obtain ⟨h1, h2, h3, h4, h5, h6, h7, h8⟩ := H
  exact ⟨h1, h2, h3, fun z => absurd rfl z, h5, h6, h7, h8⟩
theorem mTq.c0 {σ : yM} {tb : Int → Int} {e p f fp W h c : Int} (H : mTq σ tb e p f fp W h c) : mTq σ tb e p f fp W h (c + 0) := by rw [Int.add_zero]; exact H
theorem mTq.f2 {σ : yM} {tb : Int → Int} {e p fp fp' W h c : Int} (H : mTq σ tb e p 2 fp W h c) : mTq σ tb e p 2 (if (2 : Int) = 0 then fp' else fp) W h c := H
