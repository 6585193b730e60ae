/-! an item's room -/
def fT3 (σ σ' : yM) : Prop := (∀ c : Nat, c ≠ 1 → c ≠ 3 → σ' c = σ c) ∧ σ' 1 1 = σ 1 1
theorem fT3.rf (σ : yM) : fT3 σ σ := ⟨fun _ _ _ => rfl, rfl⟩
theorem fT3.tr {σ σ1 σ2 : yM} (h1 : fT3 σ σ1) (h2 : fT3 σ1 σ2) : fT3 σ σ2 := ⟨fun c a b => (h2.1 c a b).trans (h1.1 c a b), h2.2.trans h1.2⟩
theorem fTr.t3 {σ σ' : yM} (h : fTr σ σ') : fT3 σ σ' := ⟨fun c a _ => h.1 c a, h.2⟩
theorem rTq.tone {σ σ' : yM} {tb : Int → Int} {e p f fp W h dr j v : Int} (H : rTq σ tb e p f fp W h dr) (e1 : σ' = yset σ 3 j v) : rTq σ' tb e p f fp W h dr ∧ fT3 σ σ' := by
  subst e1
  have e2 : yset σ 3 j v 1 = σ 1 := yset_n (by omega)
  have e3 : yset σ 3 j v 2 = σ 2 := yset_n (by omega)
  refine ⟨?_, fun c a b => yset_n b, by rw [e2]⟩
  unfold rTq at *
  rw [e2, e3]
  exact H
theorem rTq.read {σ σ' : yM} {tb : Int → Int} {e p f fp W h dr d : Int} (H : rTq σ tb e p f fp W h dr) (e1 : σ' = yset σ 1 9 d) : rTq σ' tb e p f fp W h d ∧ fTr σ σ' := by
  obtain ⟨h1, h2, h3, h4, h5, h6, h7, h8⟩ := H
  subst e1
  refine ⟨⟨?_, ?_, ?_, ?_, ?_, ?_, yset_e _ _ _ _, fun j a b => ?_⟩, fun c a => yset_n a, ?_⟩ <;> first | (rw [yset_o (by omega)]; assumption) | (rw [yset_n (by omega)]; exact h8 j a b) | (rw [yset_o (by omega)])
theorem it_bd {tb : Int → Int} {e p : Int} (hp : p ≤ e) : p ≤ (dgP tb e p).1 ∧ (dgP tb e p).1 ≤ e ∧ 0 ≤ itT tb e p ∧ itT tb e p ≤ 300 := by
  have := dgs_bd (tb := tb) (e := e) (p := p) (t := 0) rfl hp (by omega)
  refine ⟨this.1, this.2.1, ?_⟩
  unfold itT
  split
  · omega
  · exact this.2.2
