/-! the rows of the layer: an instruction each -/
theorem y_toInt {a : Int} (h : -2147483648 ≤ a ∧ a < 2147483648) : (Int32.ofInt a).toInt = a := Int32.toInt_ofInt_of_le (by omega) (by omega)
theorem y_toIntL {a : Int} (h : -9223372036854775808 ≤ a ∧ a < 9223372036854775808) : (Int64.ofInt a).toInt = a := Int64.toInt_ofInt_of_le (by omega) (by omega)
theorem y_lt {a b : Int} (ha : -2147483648 ≤ a ∧ a < 2147483648) (hb : -2147483648 ≤ b ∧ b < 2147483648) : Int32.ofInt a < Int32.ofInt b ↔ a < b := by rw [Int32.lt_iff_toInt_lt, y_toInt ha, y_toInt hb]
theorem y_le {a b : Int} (ha : -2147483648 ≤ a ∧ a < 2147483648) (hb : -2147483648 ≤ b ∧ b < 2147483648) : Int32.ofInt a ≤ Int32.ofInt b ↔ a ≤ b := by rw [Int32.le_iff_toInt_le, y_toInt ha, y_toInt hb]
theorem y_eq {a b : Int} (ha : -2147483648 ≤ a ∧ a < 2147483648) (hb : -2147483648 ≤ b ∧ b < 2147483648) : Int32.ofInt a = Int32.ofInt b ↔ a = b := by rw [← Int32.toInt_inj, y_toInt ha, y_toInt hb]
theorem y_zero : (0 : Int32) = Int32.ofInt 0 := rfl
theorem y_nat {i : Int} {len : Nat} (h : 0 ≤ i ∧ i < len) (hl : len < 2147483648) : vp_in (Int32.ofInt i) len ∧ (((Int32.ofInt i).toNatClampNeg : Nat) : Int) = i := by
  have e : (Int32.ofInt i).toNatClampNeg = i.toNat := Int32.toNatClampNeg_ofInt_of_le (by omega) (by omega)
  refine ⟨?_, by rw [e]; omega⟩
  rw [vp_in_iff, y_toInt (by omega)]
  omega
def yset (σ : yM) (k : Nat) (j x : Int) : yM := fun k' => if k' = k then (fun j' => if j' = j then x else σ k j') else σ k'
theorem yset_s (σ : yM) (k : Nat) (j x : Int) : yset σ k j x k = fun j' => if j' = j then x else σ k j' := by simp [yset]
theorem yset_n {σ : yM} {k k' : Nat} {j x : Int} (h : k' ≠ k) : yset σ k j x k' = σ k' := by simp [yset, h]
theorem yset_e (σ : yM) (k : Nat) (j x : Int) : yset σ k j x k j = x := by simp [yset]
theorem yset_o {σ : yM} {k k' : Nat} {j j' x : Int} (h : k' = k → j' ≠ j) : yset σ k j x k' j' = σ k' j' := by
  unfold yset
  by_cases hk : k' = k
  · subst hk
    simp [h rfl]
  · simp [hk]
def y_put : List (Nat × Value) → Nat → Value → List (Nat × Value)
  | [], i, v => [(i, v)]
  | (j, w) :: t, i, v => match Nat.blt j i with
    | true => (j, w) :: y_put t i v
    | false => match Nat.beq j i with
      | true => (i, v) :: t
      | false => (i, v) :: (j, w) :: t
theorem y_put_mem : ∀ {lv : List (Nat × Value)} {i : Nat} {v : Value} {q : Nat × Value}, lv.Pairwise (fun a b => a.1 < b.1) → q ∈ y_put lv i v → q = (i, v) ∨ (q ∈ lv ∧ q.1 ≠ i) := by
  intro lv
  induction lv with
  | nil => intro i v q _ h; simp [y_put] at h; exact Or.inl h
  | cons a t ih =>
    intro i v q hp h
    obtain ⟨j, w⟩ := a
    rw [List.pairwise_cons] at hp
    unfold y_put at h
    by_cases h1 : j < i
    · rw [show Nat.blt j i = true from Nat.ble_eq_true_of_le h1] at h
      rcases List.mem_cons.mp h with rfl | h
      · exact Or.inr ⟨List.mem_cons_self, by show j ≠ i; omega⟩
      · rcases ih hp.2 h with h | h
        · exact Or.inl h
        · exact Or.inr ⟨List.mem_cons_of_mem _ h.1, h.2⟩
    · rw [show Nat.blt j i = false from by rw [← Bool.not_eq_true]; intro q; exact h1 (Nat.le_of_ble_eq_true q)] at h
      by_cases h2 : j = i
      · subst h2
        simp only [Nat.beq_refl] at h
        rcases List.mem_cons.mp h with rfl | h
        · exact Or.inl rfl
        · exact Or.inr ⟨List.mem_cons_of_mem _ h, by have := hp.1 q h; simp only at this; omega⟩
      · rw [show Nat.beq j i = false from by rw [← Bool.not_eq_true]; intro q; exact h2 (Nat.eq_of_beq_eq_true q)] at h
        simp only at h
        rcases List.mem_cons.mp h with rfl | h
        · exact Or.inl rfl
        · rcases List.mem_cons.mp h with rfl | h
          · exact Or.inr ⟨List.mem_cons_self, h2⟩
          · exact Or.inr ⟨List.mem_cons_of_mem _ h, by have := hp.1 q h; simp only at this; omega⟩
/-- the locals are told in order, and no long reaches into place i -/
def y_fit : List (Nat × Value) → Nat → Bool
  | [], _ => true
  | [(j, w)], i => !(Nat.beq (j + 1) i && Nat.beq w.category 2)
  | (j, w) :: (k, w') :: t, i => Nat.blt j k && !(Nat.beq (j + 1) i && Nat.beq w.category 2) && y_fit ((k, w') :: t) i
theorem y_fit_ok : ∀ {lv : List (Nat × Value)} {i : Nat}, y_fit lv i = true → lv.Pairwise (fun a b => a.1 < b.1) ∧ ∀ q ∈ lv, ¬ (q.1 + 1 = i ∧ q.2.category = 2) := by
  intro lv
  induction lv with
  | nil => intro i _; exact ⟨List.Pairwise.nil, fun q h => by cases h⟩
  | cons a t ih =>
    intro i h
    obtain ⟨j, w⟩ := a
    cases t with
    | nil =>
      refine ⟨List.pairwise_singleton _ _, fun q hq => ?_⟩
      rw [List.mem_singleton] at hq
      subst hq
      rintro ⟨e1, e2⟩
      simp only at e1 e2
      simp [y_fit, e1, e2] at h
    | cons b t =>
      obtain ⟨k, w'⟩ := b
      simp only [y_fit, Bool.and_eq_true] at h
      obtain ⟨⟨h1, h2⟩, h3⟩ := h
      obtain ⟨p1, p2⟩ := ih h3
      have hjk : j < k := Nat.le_of_ble_eq_true h1
      refine ⟨List.pairwise_cons.mpr ⟨fun q hq => ?_, p1⟩, fun q hq => ?_⟩
      · rcases List.mem_cons.mp hq with rfl | hq
        · exact hjk
        · exact Nat.lt_trans hjk ((List.pairwise_cons.mp p1).1 q hq)
      · rcases List.mem_cons.mp hq with rfl | hq
        · rintro ⟨e1, e2⟩
          simp only at e1 e2
          simp [e1, e2] at h2
        · exact p2 q hq
theorem y_put_has {ls : Array Slot} {nL i : Nat} {v : Value} {lv lv' : List (Nat × Value)} (h : lv_has ls nL ((i, v) :: lv.filter (fun q => !(q.1 == i) && !(q.1 + 1 == i && q.2.category == 2)))) (hf : y_fit lv i = true) (he : y_put lv i v = lv') : lv_has ls nL lv' := by
  subst he
  obtain ⟨p1, p2⟩ := y_fit_ok hf
  refine ⟨h.1, h.2.1, fun q hq => h.2.2 q ?_⟩
  rcases y_put_mem p1 hq with rfl | ⟨h1, h2⟩
  · exact List.mem_cons_self
  · refine List.mem_cons_of_mem _ (List.mem_filter.mpr ⟨h1, ?_⟩)
    have := p2 q h1
    simp only [Bool.and_eq_true, Bool.not_eq_true', beq_eq_false_iff_ne, Bool.and_eq_false_iff]
    refine ⟨h2, ?_⟩
    by_cases e : q.1 + 1 = i
    · exact Or.inr (fun q2 => this ⟨e, q2⟩)
    · exact Or.inl e
theorem y_put_hasL {ls : Array Slot} {nL i : Nat} {v : Value} {lv lv' : List (Nat × Value)} (h : lv_has ls nL ((i, v) :: lv.filter (fun q => !(q.1 == i) && (!(q.1 == i + 1) && !(q.1 + 1 == i && q.2.category == 2))))) (hf : y_fit lv i = true) (hs : lv.all (fun q => !(Nat.beq q.1 (i + 1))) = true) (he : y_put lv i v = lv') : lv_has ls nL lv' := by
  subst he
  obtain ⟨p1, p2⟩ := y_fit_ok hf
  refine ⟨h.1, h.2.1, fun q hq => h.2.2 q ?_⟩
  rcases y_put_mem p1 hq with rfl | ⟨h1, h2⟩
  · exact List.mem_cons_self
  · refine List.mem_cons_of_mem _ (List.mem_filter.mpr ⟨h1, ?_⟩)
    have := p2 q h1
    have h3 := List.all_eq_true.mp hs q h1
    simp only [Bool.and_eq_true, Bool.not_eq_true', beq_eq_false_iff_ne, Bool.and_eq_false_iff]
    refine ⟨h2, ?_, ?_⟩
    · intro e
      rw [e] at h3
      simp at h3
    · by_cases e : q.1 + 1 = i
      · exact Or.inr (fun q2 => this ⟨e, q2⟩)
      · exact Or.inl e
section YR
variable {x : yC} {l : Launch} {g : yG} {nL : Nat} {cc : ByteArray} {own : String} {ret : Option FieldType} {rm : Room} {Q : State → Prop} {sch : yS} {n : Nat} {σ : yM} {cells slots pc : Nat} {lv : List (Nat × Value)} {st : List Value}
theorem y_iconst (hF : yF x l g nL cc own ret rm) {v : Int} (hdg : decode cc pc = .ok (.iconst v, 1)) (k : yV x g nL Q sch n σ cells slots (pc + 1) lv (yI v :: st)) : yV x g nL Q sch n σ cells slots pc lv st := by
  obtain ⟨p, l', e, R, s, m, args, below, meth, c⟩ := x
  obtain ⟨hl0, hRm, hx, hb, hml, hown, hts, hK, hZ, hbs, hlk, hrt, hNw⟩ := hF
  intro H locs ls hH hS hl
  exact lv_iconst hx hb hdg rfl (k H locs ls hH hS hl)
theorem y_bipush (hF : yF x l g nL cc own ret rm) {v : Int} (hdg : decode cc pc = .ok (.bipush v, 2)) (hv : -128 ≤ v ∧ v < 128) (k : yV x g nL Q sch n σ cells slots (pc + 2) lv (yI v :: st)) : yV x g nL Q sch n σ cells slots pc lv st := by
  obtain ⟨p, l', e, R, s, m, args, below, meth, c⟩ := x
  obtain ⟨hl0, hRm, hx, hb, hml, hown, hts, hK, hZ, hbs, hlk, hrt, hNw⟩ := hF
  intro H locs ls hH hS hl
  exact lv_bipush hx hb hdg (Int8.toInt32_ofInt (by show -128 ≤ v; omega) (by show v ≤ 127; omega)) (k H locs ls hH hS hl)
theorem y_sipush (hF : yF x l g nL cc own ret rm) {v : Int} (hdg : decode cc pc = .ok (.sipush v, 3)) (hv : -32768 ≤ v ∧ v < 32768) (k : yV x g nL Q sch n σ cells slots (pc + 3) lv (yI v :: st)) : yV x g nL Q sch n σ cells slots pc lv st := by
  obtain ⟨p, l', e, R, s, m, args, below, meth, c⟩ := x
  obtain ⟨hl0, hRm, hx, hb, hml, hown, hts, hK, hZ, hbs, hlk, hrt, hNw⟩ := hF
  intro H locs ls hH hS hl
  exact lv_sipush hx hb hdg (Int16.toInt32_ofInt (by show -32768 ≤ v; omega) (by show v ≤ 32767; omega)) (k H locs ls hH hS hl)
theorem y_lconst (hF : yF x l g nL cc own ret rm) {v : Int} {w : Fin 2} (hdg : decode cc pc = .ok (.lconst w, 1)) (hv : ((w : Nat) : Int) = v) (k : yV x g nL Q sch n σ cells slots (pc + 1) lv (yJ v :: st)) : yV x g nL Q sch n σ cells slots pc lv st := by
  obtain ⟨p, l', e, R, s, m, args, below, meth, c⟩ := x
  obtain ⟨hl0, hRm, hx, hb, hml, hown, hts, hK, hZ, hbs, hlk, hrt, hNw⟩ := hF
  intro H locs ls hH hS hl
  exact lv_lconst hx hb hdg (by rw [← hv]; exact Int64.ofInt_eq_ofNat.symm) (k H locs ls hH hS hl)
theorem y_ldc (hF : yF x l g nL cc own ret rm) {v : Int} {index : Nat} (hdg : decode cc pc = .ok (.ldc index, 2)) (hw : Cond.constant own index (Int32.ofInt v) ∈ y_tb) (k : yV x g nL Q sch n σ cells slots (pc + 2) lv (yI v :: st)) : yV x g nL Q sch n σ cells slots pc lv st := by
  obtain ⟨p, l', e, R, s, m, args, below, meth, c⟩ := x
  obtain ⟨hl0, hRm, hx, hb, hml, hown, hts, hK, hZ, hbs, hlk, hrt, hNw⟩ := hF
  intro H locs ls hH hS hl
  exact lv_ldc hx hb hown (hts _ hw) hdg (k H locs ls hH hS hl)
theorem y_ldcw (hF : yF x l g nL cc own ret rm) {v : Int} {index : Nat} (hdg : decode cc pc = .ok (.ldc_w index, 3)) (hw : Cond.constant own index (Int32.ofInt v) ∈ y_tb) (k : yV x g nL Q sch n σ cells slots (pc + 3) lv (yI v :: st)) : yV x g nL Q sch n σ cells slots pc lv st := by
  obtain ⟨p, l', e, R, s, m, args, below, meth, c⟩ := x
  obtain ⟨hl0, hRm, hx, hb, hml, hown, hts, hK, hZ, hbs, hlk, hrt, hNw⟩ := hF
  intro H locs ls hH hS hl
  exact lv_ldcw hx hb hown (hts _ hw) hdg (k H locs ls hH hS hl)
theorem y_ldc2 (hF : yF x l g nL cc own ret rm) {v : Int} {index : Nat} (hdg : decode cc pc = .ok (.ldc2_w index, 3)) (hw : Cond.constantLong own index (Int64.ofInt v) ∈ y_tb) (k : yV x g nL Q sch n σ cells slots (pc + 3) lv (yJ v :: st)) : yV x g nL Q sch n σ cells slots pc lv st := by
  obtain ⟨p, l', e, R, s, m, args, below, meth, c⟩ := x
  obtain ⟨hl0, hRm, hx, hb, hml, hown, hts, hK, hZ, hbs, hlk, hrt, hNw⟩ := hF
  intro H locs ls hH hS hl
  exact lv_ldc2 hx hb hown (hts _ hw) hdg (k H locs ls hH hS hl)
theorem y_null (hF : yF x l g nL cc own ret rm) (hdg : decode cc pc = .ok (.aconst_null, 1)) (k : yV x g nL Q sch n σ cells slots (pc + 1) lv (.null :: st)) : yV x g nL Q sch n σ cells slots pc lv st := by
  obtain ⟨p, l', e, R, s, m, args, below, meth, c⟩ := x
  obtain ⟨hl0, hRm, hx, hb, hml, hown, hts, hK, hZ, hbs, hlk, hrt, hNw⟩ := hF
  intro H locs ls hH hS hl
  exact lv_null hx hb hdg (k H locs ls hH hS hl)
theorem y_iload_n (hF : yF x l g nL cc own ret rm) {i : Fin 4} (hdg : decode cc pc = .ok (.iload_n i, 1)) (j : Nat) {a : Int} (hj : lv[j]? = some ((i : Nat), yI a)) (k : yV x g nL Q sch n σ cells slots (pc + 1) lv (yI a :: st)) : yV x g nL Q sch n σ cells slots pc lv st := by
  obtain ⟨p, l', e, R, s, m, args, below, meth, c⟩ := x
  obtain ⟨hl0, hRm, hx, hb, hml, hown, hts, hK, hZ, hbs, hlk, hrt, hNw⟩ := hF
  intro H locs ls hH hS hl
  exact lv_iload_n hx hb hdg rfl (lv_at hl j hj) (k H locs ls hH hS hl)
theorem y_iload (hF : yF x l g nL cc own ret rm) {i : Nat} (hdg : decode cc pc = .ok (.iload i, 2)) (j : Nat) {a : Int} (hj : lv[j]? = some (i, yI a)) (k : yV x g nL Q sch n σ cells slots (pc + 2) lv (yI a :: st)) : yV x g nL Q sch n σ cells slots pc lv st := by
  obtain ⟨p, l', e, R, s, m, args, below, meth, c⟩ := x
  obtain ⟨hl0, hRm, hx, hb, hml, hown, hts, hK, hZ, hbs, hlk, hrt, hNw⟩ := hF
  intro H locs ls hH hS hl
  exact lv_iload hx hb hdg (lv_at hl j hj) (k H locs ls hH hS hl)
theorem y_lload_n (hF : yF x l g nL cc own ret rm) {i : Fin 4} (hdg : decode cc pc = .ok (.lload_n i, 1)) (j : Nat) {a : Int} (hj : lv[j]? = some ((i : Nat), yJ a)) (k : yV x g nL Q sch n σ cells slots (pc + 1) lv (yJ a :: st)) : yV x g nL Q sch n σ cells slots pc lv st := by
  obtain ⟨p, l', e, R, s, m, args, below, meth, c⟩ := x
  obtain ⟨hl0, hRm, hx, hb, hml, hown, hts, hK, hZ, hbs, hlk, hrt, hNw⟩ := hF
  intro H locs ls hH hS hl
  exact lv_lload_n hx hb hdg rfl (lv_at hl j hj) (k H locs ls hH hS hl)
theorem y_lload (hF : yF x l g nL cc own ret rm) {i : Nat} (hdg : decode cc pc = .ok (.lload i, 2)) (j : Nat) {a : Int} (hj : lv[j]? = some (i, yJ a)) (k : yV x g nL Q sch n σ cells slots (pc + 2) lv (yJ a :: st)) : yV x g nL Q sch n σ cells slots pc lv st := by
  obtain ⟨p, l', e, R, s, m, args, below, meth, c⟩ := x
  obtain ⟨hl0, hRm, hx, hb, hml, hown, hts, hK, hZ, hbs, hlk, hrt, hNw⟩ := hF
  intro H locs ls hH hS hl
  exact lv_lload hx hb hdg (lv_at hl j hj) (k H locs ls hH hS hl)
theorem y_aload_n (hF : yF x l g nL cc own ret rm) {i : Fin 4} (hdg : decode cc pc = .ok (.aload_n i, 1)) (j : Nat) {a : Nat} (hj : lv[j]? = some ((i : Nat), yR g a)) (k : yV x g nL Q sch n σ cells slots (pc + 1) lv (yR g a :: st)) : yV x g nL Q sch n σ cells slots pc lv st := by
  obtain ⟨p, l', e, R, s, m, args, below, meth, c⟩ := x
  obtain ⟨hl0, hRm, hx, hb, hml, hown, hts, hK, hZ, hbs, hlk, hrt, hNw⟩ := hF
  intro H locs ls hH hS hl
  exact lv_aload_n hx hb hdg rfl (lv_at hl j hj) (k H locs ls hH hS hl)
theorem y_aload (hF : yF x l g nL cc own ret rm) {i : Nat} (hdg : decode cc pc = .ok (.aload i, 2)) (j : Nat) {a : Nat} (hj : lv[j]? = some (i, yR g a)) (k : yV x g nL Q sch n σ cells slots (pc + 2) lv (yR g a :: st)) : yV x g nL Q sch n σ cells slots pc lv st := by
  obtain ⟨p, l', e, R, s, m, args, below, meth, c⟩ := x
  obtain ⟨hl0, hRm, hx, hb, hml, hown, hts, hK, hZ, hbs, hlk, hrt, hNw⟩ := hF
  intro H locs ls hH hS hl
  exact lv_aload hx hb hdg (lv_at hl j hj) (k H locs ls hH hS hl)
theorem y_aloadS_n (hF : yF x l g nL cc own ret rm) {i : Fin 4} (hdg : decode cc pc = .ok (.aload_n i, 1)) (j : Nat) {a : Nat} (hj : lv[j]? = some ((i : Nat), .ref a)) (k : yV x g nL Q sch n σ cells slots (pc + 1) lv (.ref a :: st)) : yV x g nL Q sch n σ cells slots pc lv st := by
  obtain ⟨p, l', e, R, s, m, args, below, meth, c⟩ := x
  obtain ⟨hl0, hRm, hx, hb, hml, hown, hts, hK, hZ, hbs, hlk, hrt, hNw⟩ := hF
  intro H locs ls hH hS hl
  exact lv_aload_n hx hb hdg rfl (lv_at hl j hj) (k H locs ls hH hS hl)
theorem y_aloadS (hF : yF x l g nL cc own ret rm) {i : Nat} (hdg : decode cc pc = .ok (.aload i, 2)) (j : Nat) {a : Nat} (hj : lv[j]? = some (i, .ref a)) (k : yV x g nL Q sch n σ cells slots (pc + 2) lv (.ref a :: st)) : yV x g nL Q sch n σ cells slots pc lv st := by
  obtain ⟨p, l', e, R, s, m, args, below, meth, c⟩ := x
  obtain ⟨hl0, hRm, hx, hb, hml, hown, hts, hK, hZ, hbs, hlk, hrt, hNw⟩ := hF
  intro H locs ls hH hS hl
  exact lv_aload hx hb hdg (lv_at hl j hj) (k H locs ls hH hS hl)
theorem y_aloadN_n (hF : yF x l g nL cc own ret rm) {i : Fin 4} (hdg : decode cc pc = .ok (.aload_n i, 1)) (j : Nat) (hj : lv[j]? = some ((i : Nat), .null)) (k : yV x g nL Q sch n σ cells slots (pc + 1) lv (.null :: st)) : yV x g nL Q sch n σ cells slots pc lv st := by
  obtain ⟨p, l', e, R, s, m, args, below, meth, c⟩ := x
  obtain ⟨hl0, hRm, hx, hb, hml, hown, hts, hK, hZ, hbs, hlk, hrt, hNw⟩ := hF
  intro H locs ls hH hS hl
  exact lv_aload_nN hx hb hdg rfl (lv_at hl j hj) (k H locs ls hH hS hl)
theorem y_aloadN (hF : yF x l g nL cc own ret rm) {i : Nat} (hdg : decode cc pc = .ok (.aload i, 2)) (j : Nat) (hj : lv[j]? = some (i, .null)) (k : yV x g nL Q sch n σ cells slots (pc + 2) lv (.null :: st)) : yV x g nL Q sch n σ cells slots pc lv st := by
  obtain ⟨p, l', e, R, s, m, args, below, meth, c⟩ := x
  obtain ⟨hl0, hRm, hx, hb, hml, hown, hts, hK, hZ, hbs, hlk, hrt, hNw⟩ := hF
  intro H locs ls hH hS hl
  exact lv_aloadN hx hb hdg (lv_at hl j hj) (k H locs ls hH hS hl)
theorem y_istore_n (hF : yF x l g nL cc own ret rm) {i : Fin 4} (hdg : decode cc pc = .ok (.istore_n i, 1)) {a : Int} {lv' : List (Nat × Value)} (hi : (i : Nat) < nL) (hf : y_fit lv (i : Nat) = true) (he : y_put lv (i : Nat) (yI a) = lv') (k : yV x g nL Q sch n σ cells slots (pc + 1) lv' st) : yV x g nL Q sch n σ cells slots pc lv (yI a :: st) := by
  obtain ⟨p, l', e, R, s, m, args, below, meth, c⟩ := x
  obtain ⟨hl0, hRm, hx, hb, hml, hown, hts, hK, hZ, hbs, hlk, hrt, hNw⟩ := hF
  intro H locs ls hH hS hl
  exact lv_istore_n hx hb hdg rfl hl hi rfl (fun ls hl => k H locs ls hH hS (y_put_has hl hf he))
theorem y_istore (hF : yF x l g nL cc own ret rm) {i : Nat} (hdg : decode cc pc = .ok (.istore i, 2)) {a : Int} {lv' : List (Nat × Value)} (hi : i < nL) (hf : y_fit lv i = true) (he : y_put lv i (yI a) = lv') (k : yV x g nL Q sch n σ cells slots (pc + 2) lv' st) : yV x g nL Q sch n σ cells slots pc lv (yI a :: st) := by
  obtain ⟨p, l', e, R, s, m, args, below, meth, c⟩ := x
  obtain ⟨hl0, hRm, hx, hb, hml, hown, hts, hK, hZ, hbs, hlk, hrt, hNw⟩ := hF
  intro H locs ls hH hS hl
  exact lv_istore hx hb hdg hl hi rfl (fun ls hl => k H locs ls hH hS (y_put_has hl hf he))
theorem y_astore_n (hF : yF x l g nL cc own ret rm) {i : Fin 4} (hdg : decode cc pc = .ok (.astore_n i, 1)) {a : Nat} {lv' : List (Nat × Value)} (hi : (i : Nat) < nL) (hf : y_fit lv (i : Nat) = true) (he : y_put lv (i : Nat) (yR g a) = lv') (k : yV x g nL Q sch n σ cells slots (pc + 1) lv' st) : yV x g nL Q sch n σ cells slots pc lv (yR g a :: st) := by
  obtain ⟨p, l', e, R, s, m, args, below, meth, c⟩ := x
  obtain ⟨hl0, hRm, hx, hb, hml, hown, hts, hK, hZ, hbs, hlk, hrt, hNw⟩ := hF
  intro H locs ls hH hS hl
  exact lv_astore_n hx hb hdg rfl hl hi rfl (fun ls hl => k H locs ls hH hS (y_put_has hl hf he))
theorem y_astore (hF : yF x l g nL cc own ret rm) {i : Nat} (hdg : decode cc pc = .ok (.astore i, 2)) {a : Nat} {lv' : List (Nat × Value)} (hi : i < nL) (hf : y_fit lv i = true) (he : y_put lv i (yR g a) = lv') (k : yV x g nL Q sch n σ cells slots (pc + 2) lv' st) : yV x g nL Q sch n σ cells slots pc lv (yR g a :: st) := by
  obtain ⟨p, l', e, R, s, m, args, below, meth, c⟩ := x
  obtain ⟨hl0, hRm, hx, hb, hml, hown, hts, hK, hZ, hbs, hlk, hrt, hNw⟩ := hF
  intro H locs ls hH hS hl
  exact lv_astore hx hb hdg hl hi rfl (fun ls hl => k H locs ls hH hS (y_put_has hl hf he))
theorem y_astoreS (hF : yF x l g nL cc own ret rm) {i : Nat} (hdg : decode cc pc = .ok (.astore i, 2)) {a : Nat} {lv' : List (Nat × Value)} (hi : i < nL) (hf : y_fit lv i = true) (he : y_put lv i (.ref a) = lv') (k : yV x g nL Q sch n σ cells slots (pc + 2) lv' st) : yV x g nL Q sch n σ cells slots pc lv (.ref a :: st) := by
  obtain ⟨p, l', e, R, s, m, args, below, meth, c⟩ := x
  obtain ⟨hl0, hRm, hx, hb, hml, hown, hts, hK, hZ, hbs, hlk, hrt, hNw⟩ := hF
  intro H locs ls hH hS hl
  exact lv_astore hx hb hdg hl hi rfl (fun ls hl => k H locs ls hH hS (y_put_has hl hf he))
theorem y_lstore_n (hF : yF x l g nL cc own ret rm) {i : Fin 4} (hdg : decode cc pc = .ok (.lstore_n i, 1)) {a : Int} {lv' : List (Nat × Value)} (hi : (i : Nat) + 1 < nL) (hf : y_fit lv (i : Nat) = true) (hs : lv.all (fun q => !(Nat.beq q.1 ((i : Nat) + 1))) = true) (he : y_put lv (i : Nat) (yJ a) = lv') (k : yV x g nL Q sch n σ cells slots (pc + 1) lv' st) : yV x g nL Q sch n σ cells slots pc lv (yJ a :: st) := by
  obtain ⟨p, l', e, R, s, m, args, below, meth, c⟩ := x
  obtain ⟨hl0, hRm, hx, hb, hml, hown, hts, hK, hZ, hbs, hlk, hrt, hNw⟩ := hF
  intro H locs ls hH hS hl
  exact lv_lstore_n hx hb hdg rfl hl hi rfl (fun ls hl => k H locs ls hH hS (y_put_hasL hl hf hs he))
theorem y_lstore (hF : yF x l g nL cc own ret rm) {i : Nat} (hdg : decode cc pc = .ok (.lstore i, 2)) {a : Int} {lv' : List (Nat × Value)} (hi : i + 1 < nL) (hf : y_fit lv i = true) (hs : lv.all (fun q => !(Nat.beq q.1 (i + 1))) = true) (he : y_put lv i (yJ a) = lv') (k : yV x g nL Q sch n σ cells slots (pc + 2) lv' st) : yV x g nL Q sch n σ cells slots pc lv (yJ a :: st) := by
  obtain ⟨p, l', e, R, s, m, args, below, meth, c⟩ := x
  obtain ⟨hl0, hRm, hx, hb, hml, hown, hts, hK, hZ, hbs, hlk, hrt, hNw⟩ := hF
  intro H locs ls hH hS hl
  exact lv_lstore hx hb hdg hl hi rfl (fun ls hl => k H locs ls hH hS (y_put_hasL hl hf hs he))
theorem y_iinc (hF : yF x l g nL cc own ret rm) {i : Nat} {d : Int} (hdg : decode cc pc = .ok (.iinc i d, 3)) (j : Nat) {a : Int} {lv' : List (Nat × Value)} (hj : lv[j]? = some (i, yI a)) (hi : i < nL) (hf : y_fit lv i = true) (he : y_put lv i (yI (a + d)) = lv') (k : yV x g nL Q sch n σ cells slots (pc + 3) lv' st) : yV x g nL Q sch n σ cells slots pc lv st := by
  obtain ⟨p, l', e, R, s, m, args, below, meth, c⟩ := x
  obtain ⟨hl0, hRm, hx, hb, hml, hown, hts, hK, hZ, hbs, hlk, hrt, hNw⟩ := hF
  intro H locs ls hH hS hl
  exact lv_iinc (v := Int32.ofInt (a + d)) hx hb hdg hl (k := j) hj (Int32.ofInt_add a d).symm hi rfl (fun ls hl => k H locs ls hH hS (y_put_has hl hf he))
theorem y_iadd (hF : yF x l g nL cc own ret rm) (hdg : decode cc pc = .ok (.iadd, 1)) {a b : Int} (k : yV x g nL Q sch n σ cells slots (pc + 1) lv (yI (a + b) :: st)) : yV x g nL Q sch n σ cells slots pc lv (yI b :: yI a :: st) := by
  obtain ⟨p, l', e, R, s, m, args, below, meth, c⟩ := x
  obtain ⟨hl0, hRm, hx, hb, hml, hown, hts, hK, hZ, hbs, hlk, hrt, hNw⟩ := hF
  intro H locs ls hH hS hl
  refine lv_iadd hx hb hdg ?_
  rw [← Int32.ofInt_add]
  exact k H locs ls hH hS hl
theorem y_isub (hF : yF x l g nL cc own ret rm) (hdg : decode cc pc = .ok (.isub, 1)) {a b : Int} (k : yV x g nL Q sch n σ cells slots (pc + 1) lv (yI (a - b) :: st)) : yV x g nL Q sch n σ cells slots pc lv (yI b :: yI a :: st) := by
  obtain ⟨p, l', e, R, s, m, args, below, meth, c⟩ := x
  obtain ⟨hl0, hRm, hx, hb, hml, hown, hts, hK, hZ, hbs, hlk, hrt, hNw⟩ := hF
  intro H locs ls hH hS hl
  refine lv_isub hx hb hdg ?_
  rw [← Int32.ofInt_sub]
  exact k H locs ls hH hS hl
theorem y_imul (hF : yF x l g nL cc own ret rm) (hdg : decode cc pc = .ok (.imul, 1)) {a b : Int} (k : yV x g nL Q sch n σ cells slots (pc + 1) lv (yI (a * b) :: st)) : yV x g nL Q sch n σ cells slots pc lv (yI b :: yI a :: st) := by
  obtain ⟨p, l', e, R, s, m, args, below, meth, c⟩ := x
  obtain ⟨hl0, hRm, hx, hb, hml, hown, hts, hK, hZ, hbs, hlk, hrt, hNw⟩ := hF
  intro H locs ls hH hS hl
  refine lv_imul hx hb hdg ?_
  rw [← Int32.ofInt_mul]
  exact k H locs ls hH hS hl
theorem y_ladd (hF : yF x l g nL cc own ret rm) (hdg : decode cc pc = .ok (.ladd, 1)) {a b : Int} (k : yV x g nL Q sch n σ cells slots (pc + 1) lv (yJ (a + b) :: st)) : yV x g nL Q sch n σ cells slots pc lv (yJ b :: yJ a :: st) := by
  obtain ⟨p, l', e, R, s, m, args, below, meth, c⟩ := x
  obtain ⟨hl0, hRm, hx, hb, hml, hown, hts, hK, hZ, hbs, hlk, hrt, hNw⟩ := hF
  intro H locs ls hH hS hl
  refine lv_ladd hx hb hdg ?_
  rw [← Int64.ofInt_add]
  exact k H locs ls hH hS hl
theorem y_lsub (hF : yF x l g nL cc own ret rm) (hdg : decode cc pc = .ok (.lsub, 1)) {a b : Int} (k : yV x g nL Q sch n σ cells slots (pc + 1) lv (yJ (a - b) :: st)) : yV x g nL Q sch n σ cells slots pc lv (yJ b :: yJ a :: st) := by
  obtain ⟨p, l', e, R, s, m, args, below, meth, c⟩ := x
  obtain ⟨hl0, hRm, hx, hb, hml, hown, hts, hK, hZ, hbs, hlk, hrt, hNw⟩ := hF
  intro H locs ls hH hS hl
  refine lv_lsub hx hb hdg ?_
  rw [← Int64.ofInt_sub]
  exact k H locs ls hH hS hl
theorem y_lmul (hF : yF x l g nL cc own ret rm) (hdg : decode cc pc = .ok (.lmul, 1)) {a b : Int} (k : yV x g nL Q sch n σ cells slots (pc + 1) lv (yJ (a * b) :: st)) : yV x g nL Q sch n σ cells slots pc lv (yJ b :: yJ a :: st) := by
  obtain ⟨p, l', e, R, s, m, args, below, meth, c⟩ := x
  obtain ⟨hl0, hRm, hx, hb, hml, hown, hts, hK, hZ, hbs, hlk, hrt, hNw⟩ := hF
  intro H locs ls hH hS hl
  refine lv_lmul hx hb hdg ?_
  rw [← Int64.ofInt_mul]
  exact k H locs ls hH hS hl
theorem y_tdiv {a b : Int} (ha : -2147483648 ≤ a ∧ a < 2147483648) (hb : -2147483648 ≤ b ∧ b < 2147483648) : Int32.ofInt a / Int32.ofInt b = Int32.ofInt (a.tdiv b) := (Int32.ofInt_tdiv (by show -2147483648 ≤ a; omega) (by show a ≤ 2147483647; omega) (by show -2147483648 ≤ b; omega) (by show b ≤ 2147483647; omega)).symm
theorem y_tdivL {a b : Int} (ha : -9223372036854775808 ≤ a ∧ a < 9223372036854775808) (hb : -9223372036854775808 ≤ b ∧ b < 9223372036854775808) : Int64.ofInt a / Int64.ofInt b = Int64.ofInt (a.tdiv b) := (Int64.ofInt_tdiv (by show -9223372036854775808 ≤ a; omega) (by show a ≤ 9223372036854775807; omega) (by show -9223372036854775808 ≤ b; omega) (by show b ≤ 9223372036854775807; omega)).symm
theorem y_idiv (hF : yF x l g nL cc own ret rm) (hdg : decode cc pc = .ok (.idiv, 1)) {a b : Int} (ha : -2147483648 ≤ a ∧ a < 2147483648) (hb2 : -2147483648 ≤ b ∧ b < 2147483648) (hne : b ≠ 0) (k : yV x g nL Q sch n σ cells slots (pc + 1) lv (yI (a.tdiv b) :: st)) : yV x g nL Q sch n σ cells slots pc lv (yI b :: yI a :: st) := by
  obtain ⟨p, l', e, R, s, m, args, below, meth, c⟩ := x
  obtain ⟨hl0, hRm, hx, hb, hml, hown, hts, hK, hZ, hbs, hlk, hrt, hNw⟩ := hF
  intro H locs ls hH hS hl
  refine lv_idiv hx hb hdg (fun q => hne ((y_eq hb2 (by omega)).mp (q.trans y_zero))) ?_
  rw [y_tdiv ha hb2]
  exact k H locs ls hH hS hl
theorem y_irem (hF : yF x l g nL cc own ret rm) (hdg : decode cc pc = .ok (.irem, 1)) {a b : Int} (ha : -2147483648 ≤ a ∧ a < 2147483648) (hb2 : -2147483648 ≤ b ∧ b < 2147483648) (hne : b ≠ 0) (k : yV x g nL Q sch n σ cells slots (pc + 1) lv (yI (a - a.tdiv b * b) :: st)) : yV x g nL Q sch n σ cells slots pc lv (yI b :: yI a :: st) := by
  obtain ⟨p, l', e, R, s, m, args, below, meth, c⟩ := x
  obtain ⟨hl0, hRm, hx, hb, hml, hown, hts, hK, hZ, hbs, hlk, hrt, hNw⟩ := hF
  intro H locs ls hH hS hl
  refine lv_irem hx hb hdg (fun q => hne ((y_eq hb2 (by omega)).mp (q.trans y_zero))) ?_
  rw [y_tdiv ha hb2, ← Int32.ofInt_mul, ← Int32.ofInt_sub]
  exact k H locs ls hH hS hl
theorem y_ldiv (hF : yF x l g nL cc own ret rm) (hdg : decode cc pc = .ok (.ldiv, 1)) {a b : Int} (ha : -9223372036854775808 ≤ a ∧ a < 9223372036854775808) (hb2 : -9223372036854775808 ≤ b ∧ b < 9223372036854775808) (hne : b ≠ 0) (k : yV x g nL Q sch n σ cells slots (pc + 1) lv (yJ (a.tdiv b) :: st)) : yV x g nL Q sch n σ cells slots pc lv (yJ b :: yJ a :: st) := by
  obtain ⟨p, l', e, R, s, m, args, below, meth, c⟩ := x
  obtain ⟨hl0, hRm, hx, hb, hml, hown, hts, hK, hZ, hbs, hlk, hrt, hNw⟩ := hF
  intro H locs ls hH hS hl
  refine lv_ldiv hx hb hdg (fun q => hne ?_) ?_
  · have := congrArg Int64.toInt q
    rw [y_toIntL hb2] at this
    exact this
  rw [y_tdivL ha hb2]
  exact k H locs ls hH hS hl
theorem y_ineg (hF : yF x l g nL cc own ret rm) (hdg : decode cc pc = .ok (.ineg, 1)) {a : Int} (k : yV x g nL Q sch n σ cells slots (pc + 1) lv (yI (-a) :: st)) : yV x g nL Q sch n σ cells slots pc lv (yI a :: st) := by
  obtain ⟨p, l', e, R, s, m, args, below, meth, c⟩ := x
  obtain ⟨hl0, hRm, hx, hb, hml, hown, hts, hK, hZ, hbs, hlk, hrt, hNw⟩ := hF
  intro H locs ls hH hS hl
  refine lv_ineg hx hb hdg ?_
  first
    | (rw [← Int32.ofInt_neg]; exact k H locs ls hH hS hl)
    | (rw [show (0 : Int32) - Int32.ofInt a = Int32.ofInt (-a) by rw [y_zero, ← Int32.ofInt_sub, Int.zero_sub]]; exact k H locs ls hH hS hl)
theorem y_i2l (hF : yF x l g nL cc own ret rm) (hdg : decode cc pc = .ok (.i2l, 1)) {a : Int} (ha : -2147483648 ≤ a ∧ a < 2147483648) (k : yV x g nL Q sch n σ cells slots (pc + 1) lv (yJ a :: st)) : yV x g nL Q sch n σ cells slots pc lv (yI a :: st) := by
  obtain ⟨p, l', e, R, s, m, args, below, meth, c⟩ := x
  obtain ⟨hl0, hRm, hx, hb, hml, hown, hts, hK, hZ, hbs, hlk, hrt, hNw⟩ := hF
  intro H locs ls hH hS hl
  exact lv_i2l hx hb hdg (Int32.toInt64_ofInt (by show -2147483648 ≤ a; omega) (by show a ≤ 2147483647; omega)) (k H locs ls hH hS hl)
theorem y_l2i (hF : yF x l g nL cc own ret rm) (hdg : decode cc pc = .ok (.l2i, 1)) {a : Int} (k : yV x g nL Q sch n σ cells slots (pc + 1) lv (yI a :: st)) : yV x g nL Q sch n σ cells slots pc lv (yJ a :: st) := by
  obtain ⟨p, l', e, R, s, m, args, below, meth, c⟩ := x
  obtain ⟨hl0, hRm, hx, hb, hml, hown, hts, hK, hZ, hbs, hlk, hrt, hNw⟩ := hF
  intro H locs ls hH hS hl
  exact lv_l2i hx hb hdg Int64.toInt32_ofInt (k H locs ls hH hS hl)
theorem y_dup (hF : yF x l g nL cc own ret rm) (hdg : decode cc pc = .ok (.dup, 1)) {v : Value} (hv : v.category = 1) (k : yV x g nL Q sch n σ cells slots (pc + 1) lv (v :: v :: st)) : yV x g nL Q sch n σ cells slots pc lv (v :: st) := by
  obtain ⟨p, l', e, R, s, m, args, below, meth, c⟩ := x
  obtain ⟨hl0, hRm, hx, hb, hml, hown, hts, hK, hZ, hbs, hlk, hrt, hNw⟩ := hF
  intro H locs ls hH hS hl
  exact lv_dup hx hb hdg hv (k H locs ls hH hS hl)
theorem y_pop (hF : yF x l g nL cc own ret rm) (hdg : decode cc pc = .ok (.pop, 1)) {v : Value} (hv : v.category = 1) (k : yV x g nL Q sch n σ cells slots (pc + 1) lv st) : yV x g nL Q sch n σ cells slots pc lv (v :: st) := by
  obtain ⟨p, l', e, R, s, m, args, below, meth, c⟩ := x
  obtain ⟨hl0, hRm, hx, hb, hml, hown, hts, hK, hZ, hbs, hlk, hrt, hNw⟩ := hF
  intro H locs ls hH hS hl
  exact lv_pop hx hb hdg hv (k H locs ls hH hS hl)
theorem y_dup2 (hF : yF x l g nL cc own ret rm) (hdg : decode cc pc = .ok (.dup2, 1)) {v w : Value} (hv : v.category = 1) (hw : w.category = 1) (k : yV x g nL Q sch n σ cells slots (pc + 1) lv (v :: w :: v :: w :: st)) : yV x g nL Q sch n σ cells slots pc lv (v :: w :: st) := by
  obtain ⟨p, l', e, R, s, m, args, below, meth, c⟩ := x
  obtain ⟨hl0, hRm, hx, hb, hml, hown, hts, hK, hZ, hbs, hlk, hrt, hNw⟩ := hF
  intro H locs ls hH hS hl
  exact lv_dup2_11 hx hb hdg hv hw (k H locs ls hH hS hl)
theorem y_goto (hF : yF x l g nL cc own ret rm) {off : Int} (hdg : decode cc pc = .ok (.goto off, 3)) (tgt : Nat) (ht : (pc : Int) + off = (tgt : Int)) (k : yV x g nL Q sch n σ cells slots tgt lv st) : yV x g nL Q sch n σ cells slots pc lv st := by
  obtain ⟨p, l', e, R, s, m, args, below, meth, c⟩ := x
  obtain ⟨hl0, hRm, hx, hb, hml, hown, hts, hK, hZ, hbs, hlk, hrt, hNw⟩ := hF
  intro H locs ls hH hS hl
  exact lv_goto hx hb hdg ht (k H locs ls hH hS hl)
end YR
