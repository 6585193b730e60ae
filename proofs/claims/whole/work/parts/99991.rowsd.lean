section YRD
variable {x : yC} {l : Launch} {g : yG} {nL : Nat} {cc : ByteArray} {own : String} {ret : Option FieldType} {rm : Room} {Q : State → Prop} {sch : yS} {n : Nat} {σ : yM} {cells slots pc : Nat} {lv : List (Nat × Value)} {st : List Value}
theorem sadd_o {sch : yS} {n k : Nat} {f : (Int → Int) → va_E} (h : k ≠ n) : sadd sch n f k = sch k := if_neg h
theorem y_newB (hF : yF x l g nL cc own ret rm) {len : Nat} {sch' : yS} (hdg : decode cc pc = .ok (.newarray .byte, 2)) (hw : Cond.arrayClass .byte ∈ y_tb) (hlen : len < 100000) (hc : cells + 1 ≤ rm.cells ∧ slots + len ≤ rm.slots) (hs' : sch' n = some (kB g len)) (ho : ∀ (k : Nat) (f : (Int → Int) → va_E), k < n → sch' k = some f → sch k = some f) (k : yV x g nL Q sch' (n + 1) (ynew σ n (fun _ => 0)) (cells + 1) (slots + len) (pc + 2) lv (yR g n :: st)) : yV x g nL Q sch n σ cells slots pc lv (yI (len : Int) :: st) := by
  obtain ⟨p, l', e, R, s, m, args, below, meth, c⟩ := x
  obtain ⟨hl0, hRm, hx, hb, hml, hown, hts, hK, hZ, hbs, hlk, hrt, hNw⟩ := hF
  intro H locs ls hH hS hl
  subst hRm
  have e0 : (Int32.ofInt (len : Int)).toNatClampNeg = len := by
    rw [Int32.toNatClampNeg_ofInt_of_le (by omega) (by omega)]
    exact Int.toNat_natCast len
  refine va_newaK hx hb (atype := .byte) (hts _ hw) rfl hdg rfl (fun q => ?_) e0 (by show len * 1 ≤ _; omega) hc.1 hc.2 hH.2.2 fun H1 cA e1 z1 o1 hAr hNm => ?_
  · have := (y_lt (a := (len : Int)) (b := 0) (by omega) (by omega)).mp q
    omega
  · have hcA : cA = g.2.2.1 1 := Option.some.inj (hNm.symm.trans (hK.2 1 _ rfl).2)
    refine k H1 locs ls (y_ofcells (fun j f hj hs => ?_) (by rw [z1]; omega)) ⟨Nat.le_trans hS.1 (by rw [z1, hH.2.2]; omega), fun q h1 h2 => (o1 q (by rw [← hH.2.2]; exact Nat.lt_of_lt_of_le h1 hS.1)).trans (hS.2.1 q h1 h2), hS.2.2⟩ hl
    by_cases hjn : j = n
    · subst hjn
      have hf : f = kB g len := Option.some.inj (hs.symm.trans hs')
      subst hf
      show H1[g.1 + j]? = some (vp_cell _ _)
      rw [e1, hcA, ynew_s]
      rfl
    · have := y_cells hH (show j < n by omega) (ho j f (by omega) hs)
      rw [ynew_n hjn]
      exact this.kept (o1 _ (by omega))
theorem y_newJ (hF : yF x l g nL cc own ret rm) {len : Nat} {sch' : yS} (hdg : decode cc pc = .ok (.newarray .long, 2)) (hw : Cond.arrayClass .long ∈ y_tb) (hlen : len < 100000) (hc : cells + 1 ≤ rm.cells ∧ slots + len ≤ rm.slots) (hs' : sch' n = some (kJ g len)) (ho : ∀ (k : Nat) (f : (Int → Int) → va_E), k < n → sch' k = some f → sch k = some f) (k : yV x g nL Q sch' (n + 1) (ynew σ n (fun _ => 0)) (cells + 1) (slots + len) (pc + 2) lv (yR g n :: st)) : yV x g nL Q sch n σ cells slots pc lv (yI (len : Int) :: st) := by
  obtain ⟨p, l', e, R, s, m, args, below, meth, c⟩ := x
  obtain ⟨hl0, hRm, hx, hb, hml, hown, hts, hK, hZ, hbs, hlk, hrt, hNw⟩ := hF
  intro H locs ls hH hS hl
  subst hRm
  have e0 : (Int32.ofInt (len : Int)).toNatClampNeg = len := by
    rw [Int32.toNatClampNeg_ofInt_of_le (by omega) (by omega)]
    exact Int.toNat_natCast len
  refine va_newaK hx hb (atype := .long) (hts _ hw) rfl hdg rfl (fun q => ?_) e0 (by show len * 8 ≤ _; omega) hc.1 hc.2 hH.2.2 fun H1 cA e1 z1 o1 hAr hNm => ?_
  · have := (y_lt (a := (len : Int)) (b := 0) (by omega) (by omega)).mp q
    omega
  · have hcA : cA = g.2.2.1 2 := Option.some.inj (hNm.symm.trans (hK.2 2 _ rfl).2)
    refine k H1 locs ls (y_ofcells (fun j f hj hs => ?_) (by rw [z1]; omega)) ⟨Nat.le_trans hS.1 (by rw [z1, hH.2.2]; omega), fun q h1 h2 => (o1 q (by rw [← hH.2.2]; exact Nat.lt_of_lt_of_le h1 hS.1)).trans (hS.2.1 q h1 h2), hS.2.2⟩ hl
    by_cases hjn : j = n
    · subst hjn
      have hf : f = kJ g len := Option.some.inj (hs.symm.trans hs')
      subst hf
      show H1[g.1 + j]? = some (vp_cell _ _)
      rw [e1, hcA, ynew_s]
      rfl
    · have := y_cells hH (show j < n by omega) (ho j f (by omega) hs)
      rw [ynew_n hjn]
      exact this.kept (o1 _ (by omega))
/-- a row of snapshots: those below i are there -/
def kRp (g : yG) (i : Nat) : (Int → Int) → va_E := fun _ => .inl (g.2.2.1 3, 11, .inr (.inr (.inr (.inr (fun j => if j < i then some (g.1 + (15 + 9 * j)) else none)))))
theorem y_anewS (hF : yF x l g nL cc own ret rm) {index : Nat} {sch' : yS} (hdg : decode cc pc = .ok (.anewarray index, 3)) (hcl : Cond.classLink own index "FilledHoles$Snapshot" ∈ y_tb) (hov : Cond.arrayOver (.object "FilledHoles$Snapshot") ∈ y_tb) (hc : cells + 1 ≤ rm.cells ∧ slots + 11 ≤ rm.slots) (hs' : sch' n = some (kRp g 0)) (ho : ∀ (k : Nat) (f : (Int → Int) → va_E), k < n → sch' k = some f → sch k = some f) (k : yV x g nL Q sch' (n + 1) (ynew σ n (fun _ => 0)) (cells + 1) (slots + 11) (pc + 3) lv (yR g n :: st)) : yV x g nL Q sch n σ cells slots pc lv (yI 11 :: st) := by
  obtain ⟨p, l', e, R, s, m, args, below, meth, c⟩ := x
  obtain ⟨hl0, hRm, hx, hb, hml, hown, hts, hK, hZ, hbs, hlk, hrt, hNw⟩ := hF
  intro H locs ls hH hS hl
  subst hRm
  have e0 : (Int32.ofInt 11).toNatClampNeg = 11 := by decide
  refine W.anew hx hb hown (hts _ hcl) (hts _ hov) rfl hdg rfl (by decide) (by rw [e0]; decide) hc.1 (by rw [e0]; exact hc.2) fun cA kA comp f1 f2 f3 f4 => ?_
  rw [e0]
  generalize hH1 : H.push ({ cls := cA, slots := Array.replicate 11 .null, vm := .none } : Cell) = H1
  have z1 : H1.size = H.size + 1 := by rw [← hH1, Array.size_push]
  have e1 : H1[H.size]? = some (arrV cA 11 (fun _ => .null)) := by rw [← hH1, Array.getElem?_push_size, ← arrV_new]
  have o1 : ∀ q : Nat, q < H.size → H1[q]? = H[q]? := fun q hq => by rw [← hH1, Array.getElem?_push, if_neg (Nat.ne_of_lt hq)]
  have hcA : cA = g.2.2.1 3 := by
    have := (hK.2 3 _ rfl).2
    obtain ⟨kA2, comp2, g1, g2, g3, g4⟩ := this
    exact Option.some.inj (f1.symm.trans g4)
  rw [hH.2.2]
  refine k H1 locs ls (y_ofcells (fun j f hj hs => ?_) (by rw [z1, hH.2.2]; omega)) ⟨Nat.le_trans hS.1 (by rw [z1]; omega), fun q h1 h2 => (o1 q (Nat.lt_of_lt_of_le h1 hS.1)).trans (hS.2.1 q h1 h2), hS.2.2⟩ hl
  by_cases hjn : j = n
  · subst hjn
    have hf : f = kRp g 0 := Option.some.inj (hs.symm.trans hs')
    subst hf
    show H1[g.1 + j]? = some (vp_cell _ _)
    rw [← hH.2.2, e1, hcA]
    rfl
  · have := y_cells hH (show j < n by omega) (ho j f (by omega) hs)
    rw [ynew_n hjn]
    exact this.kept (o1 _ (by have := hH.2.2; omega))
theorem y_conv {sch' : yS} {σ' : yM} (hw : ∀ (k : Nat) (f' : (Int → Int) → va_E), k < n → sch' k = some f' → ∃ f, sch k = some f ∧ ∀ H : Heap, va_at g.2.1 y_cls (g.1 + k, f (σ k)) H → va_at g.2.1 y_cls (g.1 + k, f' (σ' k)) H) (k : yV x g nL Q sch' n σ' cells slots pc lv st) : yV x g nL Q sch n σ cells slots pc lv st := by
  obtain ⟨p, l', e, R, s, m, args, below, meth, c⟩ := x
  intro H locs ls hH hS hl
  exact k H locs ls (y_ofcells (fun j f' hj hs => by obtain ⟨f, h1, h2⟩ := hw j f' hj hs; exact h2 H (y_cells hH hj h1)) hH.2.2) hS hl
end YRD
