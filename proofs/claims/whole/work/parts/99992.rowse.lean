theorem w_oi : Cond.code Lib.objectInit ⟨#[0xb1]⟩ 1 none ∈ y_tb := y_in (mt_1 _ (List.mem_of_getElem? (i := 28) rfl)) rfl
theorem sal_o (R : yS) (n k : Nat) (F A : (Int → Int) → va_E) : ∀ (c : Nat) (f : (Int → Int) → va_E), c < n → sadd (sadd R n A) k F c = some f → sadd R k F c = some f := by
  intro c f hc h
  unfold sadd at h ⊢
  rw [if_neg (show ¬ c = n by omega)] at h
  exact h
theorem sad_b {sch : yS} {k c : Nat} {D f : (Int → Int) → va_E} (h0 : sch k = some D) (h : sadd sch k D c = some f) : sch c = some f := by
  unfold sadd at h
  split at h
  · rename_i e
    rw [e, h0]
    exact h
  · exact h
section YRF
variable {x : yC} {l : Launch} {g : yG} {nL : Nat} {cc : ByteArray} {own : String} {ret : Option FieldType} {rm : Room} {Q : State → Prop} {n : Nat} {σ : yM} {cells slots pc : Nat} {lv : List (Nat × Value)} {st : List Value}
theorem y_fin {R : yS} {k : Nat} {F K : (Int → Int) → va_E} {φ : Int → Int} (he : K φ = F (σ k)) (kk : yV x g nL Q (sadd R k K) n (ynew σ k φ) cells slots pc lv st) : yV x g nL Q (sadd R k F) n σ cells slots pc lv st := by
  refine y_conv (fun c f' _ hs => ?_) kk
  rcases Decidable.em (c = k) with e | e
  · subst e
    have e1 : f' = K := (Option.some.inj ((sadd_s _ _ _).symm.trans hs)).symm
    subst e1
    exact ⟨F, sadd_s _ _ _, fun H h => by rw [ynew_s, he]; exact h⟩
  · exact ⟨f', by rw [sadd_o e] at hs ⊢; exact hs, fun H h => by rw [ynew_n e]; exact h⟩
end YRF
