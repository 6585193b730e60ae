/-! making rows; a schema that grows and is forgotten -/
theorem y_ofcells {g : yG} {sch : yS} {n : Nat} {σ : yM} {H : Heap} (h : ∀ (k : Nat) (f : (Int → Int) → va_E), k < n → sch k = some f → va_at g.2.1 y_cls (g.1 + k, f (σ k)) H) (hz : H.size = g.1 + n) : yRep g sch n σ H := by
  refine ⟨?_, ?_, hz⟩
  · intro i q hq
    have hm := List.mem_of_getElem? hq
    obtain ⟨a, ha, rfl⟩ := List.mem_map.mp hm
    obtain ⟨k, f, rfl, hk, hs⟩ := y_la ha
    rw [y_cf hs]
    exact h k f hk hs
  · have hinj : ∀ (i j : Nat) (p q : Nat × va_E), (yW g sch n σ)[i]? = some p → (yW g sch n σ)[j]? = some q → p.1 = q.1 → i = j := by
      intro i j p q hi hj hpq
      have nd : (yLA g sch n).Nodup := by
        unfold yLA
        refine List.Pairwise.map _ (fun a b hab => ?_) ((List.nodup_range).filter _)
        intro e
        exact hab (by omega)
      unfold yW va_pl at hi hj
      rw [List.getElem?_map] at hi hj
      cases ha : (yLA g sch n)[i]? with
      | none => rw [ha] at hi; cases hi
      | some a =>
        cases hb : (yLA g sch n)[j]? with
        | none => rw [hb] at hj; cases hj
        | some b =>
          rw [ha] at hi
          rw [hb] at hj
          cases hi
          cases hj
          have hab : a = b := hpq
          subst hab
          have hli := (List.getElem?_eq_some_iff.mp ha).1
          exact (List.getElem?_inj hli nd).mp (ha.trans hb.symm)
    refine ⟨hinj, fun i q hq => ?_⟩
    have hm := List.mem_of_getElem? hq
    obtain ⟨a, ha, rfl⟩ := List.mem_map.mp hm
    obtain ⟨k, f, rfl, hk, hs⟩ := y_la ha
    exact Nat.le_add_right _ _
theorem y_cells {g : yG} {sch : yS} {n : Nat} {σ : yM} {H : Heap} (h : yRep g sch n σ H) {k : Nat} {f : (Int → Int) → va_E} (hk : k < n) (hs : sch k = some f) : va_at g.2.1 y_cls (g.1 + k, f (σ k)) H := by
  obtain ⟨q0, hq⟩ := y_at (g := g) (σ := σ) hk hs
  exact h.1 q0 _ hq
def sadd (sch : yS) (n : Nat) (f : (Int → Int) → va_E) : yS := fun k => if k = n then some f else sch k
theorem sadd_s (sch : yS) (n : Nat) (f : (Int → Int) → va_E) : sadd sch n f n = some f := if_pos rfl
theorem sadd_n {sch : yS} {n k : Nat} {f f' : (Int → Int) → va_E} (h : sch k = some f') (hk : k ≠ n) : sadd sch n f k = some f' := by unfold sadd; rw [if_neg hk]; exact h
def ynew (σ : yM) (n : Nat) (f : Int → Int) : yM := fun k => if k = n then f else σ k
theorem ynew_n {σ : yM} {n k : Nat} {f : Int → Int} (h : k ≠ n) : ynew σ n f k = σ k := if_neg h
theorem ynew_s (σ : yM) (n : Nat) (f : Int → Int) : ynew σ n f n = f := if_pos rfl
section YR5
variable {x : yC} {l : Launch} {g : yG} {nL : Nat} {cc : ByteArray} {own : String} {ret : Option FieldType} {rm : Room} {Q : State → Prop} {sch : yS} {n : Nat} {σ : yM} {cells slots pc : Nat} {lv : List (Nat × Value)} {st : List Value}
theorem y_wk {sch' : yS} (hw : ∀ (k : Nat) (f : (Int → Int) → va_E), k < n → sch' k = some f → sch k = some f) (k : yV x g nL Q sch' n σ cells slots pc lv st) : yV x g nL Q sch n σ cells slots pc lv st := by
  obtain ⟨p, l', e, R, s, m, args, below, meth, c⟩ := x
  intro H locs ls hH hS hl
  exact k H locs ls (y_ofcells (fun j f hj hs => y_cells hH hj (hw j f hj hs)) hH.2.2) hS hl
theorem y_newI (hF : yF x l g nL cc own ret rm) {len : Nat} {sch' : yS} (hdg : decode cc pc = .ok (.newarray .int, 2)) (hw : Cond.arrayClass .int ∈ y_tb) (hlen : len < 100000) (hc : cells + 1 ≤ rm.cells ∧ slots + len ≤ rm.slots) (hs' : sch' n = some (kI g len)) (ho : ∀ (k : Nat) (f : (Int → Int) → va_E), k < n → sch' k = some f → sch k = some f) (k : yV x g nL Q sch' (n + 1) (ynew σ n (fun _ => 0)) (cells + 1) (slots + len) (pc + 2) lv (yR g n :: st)) : yV x g nL Q sch n σ cells slots pc lv (yI (len : Int) :: st) := by
  obtain ⟨p, l', e, R, s, m, args, below, meth, c⟩ := x
  obtain ⟨hl0, hRm, hx, hb, hml, hown, hts, hK, hZ, hbs, hlk, hrt, hNw⟩ := hF
  intro H locs ls hH hS hl
  subst hRm
  have e0 : (Int32.ofInt (len : Int)).toNatClampNeg = len := by
    rw [Int32.toNatClampNeg_ofInt_of_le (by omega) (by omega)]
    exact Int.toNat_natCast len
  refine va_newaK hx hb (atype := .int) (hts _ hw) rfl hdg rfl (fun q => ?_) e0 (by show len * 4 ≤ _; omega) hc.1 hc.2 hH.2.2 fun H1 cA e1 z1 o1 hAr hNm => ?_
  · have := (y_lt (a := (len : Int)) (b := 0) (by omega) (by omega)).mp q
    omega
  · have hcA : cA = g.2.2.1 0 := Option.some.inj (hNm.symm.trans (hK.2 0 _ rfl).2)
    refine k H1 locs ls (y_ofcells (fun j f hj hs => ?_) (by rw [z1]; omega)) ⟨Nat.le_trans hS.1 (by rw [z1, hH.2.2]; omega), fun q h1 h2 => (o1 q (by rw [← hH.2.2]; exact Nat.lt_of_lt_of_le h1 hS.1)).trans (hS.2.1 q h1 h2), hS.2.2⟩ hl
    by_cases hjn : j = n
    · subst hjn
      have hf : f = kI g len := Option.some.inj (hs.symm.trans hs')
      subst hf
      show H1[g.1 + j]? = some (vp_cell _ _)
      rw [e1, hcA, ynew_s]
      rfl
    · have := y_cells hH (show j < n by omega) (ho j f (by omega) hs)
      rw [ynew_n hjn]
      exact this.kept (o1 _ (by omega))
end YR5
theorem wac_int : Cond.arrayClass .int ∈ y_tb := y_in (mt_1 _ (List.mem_of_getElem? (i := 71) rfl)) rfl
theorem wac_byte : Cond.arrayClass .byte ∈ y_tb := y_in (mt_3 _ (List.mem_of_getElem? (i := 116) rfl)) rfl
theorem wac_long : Cond.arrayClass .long ∈ y_tb := y_in (mt_7 _ (List.mem_of_getElem? (i := 232) rfl)) rfl
