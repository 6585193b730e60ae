/-! the world at the law's entry -/
theorem yst_X {args : Array Value} {s : State} {tm : Term} {N : Nat} {f : Nat → Int32} (hN : N < 2 ^ 31) (harr : (Cond.arrayOf tm .int).before args s = true) (hlen : (Cond.eq (.length tm) (.int (Int32.ofNat N))).before args s = true) (hel : ∀ j : Nat, j < N → (Cond.eq (.elem tm (.int (Int32.ofNat j))) (.int (f j))).before args s = true) : ∃ t : Nat, tm.eval args s none [] s = some (.ref t) ∧ va_X t N f s s.heap ∧ t < s.heap.size := by
  have hl := va_eqt hlen
  obtain ⟨t, cell, ht, hat, hv⟩ := Term.length_spec hl
  have hsz : cell.slots.size < 2 ^ 31 := by
    have hl2 := hl
    simp only [Term.eval, ht, hat, Option.bind_eq_bind, Option.bind_some] at hl2
    by_cases hlt : cell.slots.size < 2147483648
    · exact hlt
    · simp [hlt] at hl2
  obtain ⟨t0, ht0, cell2, q1, q2, q3, q4, q5, q6, q7⟩ := va_Tof (f := fun j => .int (f j)) (A := fun _ => False) hN harr hl (fun j hj => va_eqt (hel j hj)) (fun _ _ h => h)
  cases ht.symm.trans ht0
  obtain ⟨hcell, -, -, -⟩ := State.arrayAt?_spec hat
  cases hcell.symm.trans q1
  have hz := congrArg Int32.toNatClampNeg q5
  rw [Int32.toNatClampNeg_ofNat_of_lt hN, show cell.slots.size.toInt32 = Int32.ofNat cell.slots.size from rfl, Int32.toNatClampNeg_ofNat_of_lt hsz] at hz
  exact ⟨t, ht, ⟨cell, hcell, q2, q3, hz, fun j hj => q6 j hj⟩, (Array.getElem?_eq_some_iff.mp hcell).1⟩
set_option maxRecDepth 100000 in
theorem zw_in : ∀ q ∈ y_st, Cond.arrayOf (.static q.1 q.2.1 "[I") .int ∈ flatC (Jvm.Cond.and given_1 narrow_1) ∧ Cond.eq (.length (.static q.1 q.2.1 "[I")) (.int (Int32.ofNat q.2.2.length)) ∈ flatC (Jvm.Cond.and given_1 narrow_1) ∧ (∀ j : Nat, j < q.2.2.length → Cond.eq (.elem (.static q.1 q.2.1 "[I") (.int (Int32.ofNat j))) (.int (Int32.ofInt (q.2.2.getD j 0))) ∈ flatC (Jvm.Cond.and given_1 narrow_1)) ∧ q.2.2.length < 2 ^ 31 := by decide +kernel
set_option maxRecDepth 100000 in
theorem zw_in2 : ∀ q ∈ y_st, Cond.laysStatic q.1 q.2.1 "[I" ∈ lw_tbl ∧ Cond.initialized q.1 ∈ lw_tbl := by decide +kernel
set_option maxRecDepth 100000 in
theorem zw_tx : Cond.laysStatic Bundle.tN "UNASSIGNED_STACK" Bundle.steD ∈ lw_tbl ∧ Cond.laysStatic Bundle.tN "SUPPRESSED_SENTINEL" Bundle.listD ∈ lw_tbl ∧ Cond.initialized Bundle.tN ∈ lw_tbl ∧ Cond.isRef (.static Bundle.tN "UNASSIGNED_STACK" Bundle.steD) ∈ flatC (Jvm.Cond.and given_1 narrow_1) ∧ Cond.isRef (.static Bundle.tN "SUPPRESSED_SENTINEL" Bundle.listD) ∈ flatC (Jvm.Cond.and given_1 narrow_1) := by decide +kernel
set_option maxRecDepth 100000 in
theorem zw_ts : Cond.stringRef RX10 423 "no such DOT, PART or FILL" ∈ lw_tbl ∧ Cond.stringRef RX10 430 "an argument that is none of those told" ∈ lw_tbl ∧ Cond.exactly (.string RX10 423) "java/lang/String" ∈ flatC (Jvm.Cond.and given_1 narrow_1) ∧ Cond.exactly (.string RX10 430) "java/lang/String" ∈ flatC (Jvm.Cond.and given_1 narrow_1) ∧ Cond.not (.castable eA eN) ∈ flatC (Jvm.Cond.and given_1 narrow_1) := by decide +kernel
set_option maxRecDepth 100000 in
theorem zw_ao : Cond.arrayOver (.object "FilledHoles$Snapshot") ∈ lw_tbl ∧ Cond.arrayOver (.array .int) ∈ lw_tbl := by decide +kernel
section YWO
variable {s : State} {args : Array Value}
theorem zw_nw (hts : ∀ w ∈ lw_tbl, w.before args s = true) : yNw s := by
  intro w hw
  have h0 := List.mem_filter.mp hw
  have h1 := hts w h0.1
  have h2 := h0.2
  cases w <;> first | exact va_Nw.of rfl h1 | exact absurd h2 (by simp [y_isN])
theorem zw_tr (l : Launch) (h : l.flags = flags0) : l.stackTraces = false := by
  unfold Launch.stackTraces
  rw [h]
  decide +kernel
theorem zw_TX (hts : ∀ w ∈ lw_tbl, w.before args s = true) (hgv : (Jvm.Cond.and given_1 narrow_1).before args s = true) {g : yG} (hg : g.1 = s.heap.size) : yTx g s s.heap := by
  have hs := flat_of_before _ hgv
  obtain ⟨h1, h2, h3, h4, h5⟩ := zw_tx
  have hA : ∀ a : Nat, a < s.heap.size → ¬ yA g a := fun a h z => absurd (show g.1 ≤ a from z) (by omega)
  exact ⟨vx_Zqof (hts _ h1) (hts _ h3) (hs _ h4) hA, vx_Zqof (hts _ h2) (hts _ h3) (hs _ h5) hA⟩
theorem zw_TS (hts : ∀ w ∈ lw_tbl, w.before args s = true) (hgv : (Jvm.Cond.and given_1 narrow_1).before args s = true) : yTs s := by
  have hs := flat_of_before _ hgv
  obtain ⟨h1, h2, h3, h4, h5⟩ := zw_ts
  obtain ⟨a, _, _, _, ha, _⟩ := Cond.exactly_spec (hs _ h3)
  obtain ⟨b, _, _, _, hb, _⟩ := Cond.exactly_spec (hs _ h4)
  exact ⟨⟨a, vk_R.of (hts _ h1) ha⟩, ⟨b, vk_R.of (hts _ h2) hb⟩, va_Nc.of (hs _ h5)⟩
theorem zw_Z (hts : ∀ w ∈ lw_tbl, w.before args s = true) (hgv : (Jvm.Cond.and given_1 narrow_1).before args s = true) : ∃ sa : Nat → Nat, ∀ g : yG, g.1 = s.heap.size → g.2.2.2 = sa → yZ g s s.heap := by
  have hs := flat_of_before _ hgv
  have key : ∀ i : Nat, ∃ t : Nat, ∀ q : String × String × List Int, y_st[i]? = some q → (Term.static q.1 q.2.1 "[I").eval args s none [] s = some (.ref t) ∧ va_X t q.2.2.length (fun j => Int32.ofInt (q.2.2.getD j 0)) s s.heap ∧ t < s.heap.size := by
    intro i
    cases hq : y_st[i]? with
    | none => exact ⟨0, fun q h => nomatch h⟩
    | some q =>
      have hm := List.mem_of_getElem? hq
      obtain ⟨h1, h2, h3, h4⟩ := zw_in q hm
      obtain ⟨t, k1, k2, k3⟩ := yst_X h4 (hs _ h1) (hs _ h2) (fun j hj => hs _ (h3 j hj))
      exact ⟨t, fun q' h => by cases h; exact ⟨k1, k2, k3⟩⟩
  obtain ⟨sa, hsa⟩ := Classical.axiomOfChoice key
  refine ⟨sa, fun g hg hg2 i q hq => ?_⟩
  obtain ⟨k1, k2, k3⟩ := hsa i q hq
  obtain ⟨h1, h2⟩ := zw_in2 q (List.mem_of_getElem? hq)
  rw [hg2]
  exact ⟨va_Zof (hts _ h1) (hts _ h2) k1 (fun a h z => absurd (show g.1 ≤ a from z) (by omega)), k2, by omega⟩
theorem zw_C (hts : ∀ w ∈ y_tb, w.before args s = true) : ∃ (D : va_G), ∀ (c : Nat) (q : vw_C), y_cls[c]? = some q → u_Kn s q.1 q.2.1 q.2.2 (D.1 c) (D.2 c) := by
  have key : ∀ c : Nat, ∃ p : ClassId × (Nat → Nat), ∀ q : vw_C, y_cls[c]? = some q → u_Kn s q.1 q.2.1 q.2.2 p.1 p.2 := by
    intro c
    match c with
    | 0 => obtain ⟨cC, iS, h⟩ := u_known hts iX0 (hts _ w_460); exact ⟨(cC, iS), fun q hq => by cases hq; exact h⟩
    | 1 => obtain ⟨cC, iS, h⟩ := u_known hts iX1 (hts _ w_271); exact ⟨(cC, iS), fun q hq => by cases hq; exact h⟩
    | 2 => obtain ⟨cC, iS, h⟩ := u_known hts iX2 (hts _ w_252); exact ⟨(cC, iS), fun q hq => by cases hq; exact h⟩
    | 3 => obtain ⟨cC, iS, h⟩ := u_known hts iX3 (hts _ w_443); exact ⟨(cC, iS), fun q hq => by cases hq; exact h⟩
    | 4 => obtain ⟨cC, iS, h⟩ := u_known hts iX4 (hts _ w_202); exact ⟨(cC, iS), fun q hq => by cases hq; exact h⟩
    | 5 => obtain ⟨cC, iS, h⟩ := u_known hts iX5 (hts _ w_308); exact ⟨(cC, iS), fun q hq => by cases hq; exact h⟩
    | 6 => obtain ⟨cC, iS, h⟩ := u_known hts iX6 (hts _ w_356); exact ⟨(cC, iS), fun q hq => by cases hq; exact h⟩
    | 7 => obtain ⟨cC, iS, h⟩ := u_known hts iX7 (hts _ w_158); exact ⟨(cC, iS), fun q hq => by cases hq; exact h⟩
    | 8 => obtain ⟨cC, iS, h⟩ := u_known hts iX8 (hts _ w_278); exact ⟨(cC, iS), fun q hq => by cases hq; exact h⟩
    | 9 => obtain ⟨cC, iS, h⟩ := u_known hts iX9 (hts _ w_115); exact ⟨(cC, iS), fun q hq => by cases hq; exact h⟩
    | 10 => obtain ⟨cC, iS, h⟩ := u_known hts iX10 (hts _ w_107); exact ⟨(cC, iS), fun q hq => by cases hq; exact h⟩
    | 11 => obtain ⟨cC, iS, h⟩ := u_known hts iX11 (hts _ w_1229); exact ⟨(cC, iS), fun q hq => by cases hq; exact h⟩
    | c + 12 => exact ⟨(0, fun _ => 0), fun q h => absurd (List.getElem?_eq_some_iff.mp h).1 (by show ¬ c + 12 < 12; omega)⟩
  obtain ⟨F, hF⟩ := Classical.axiomOfChoice key
  exact ⟨(fun c => (F c).1, fun c => (F c).2), fun c q h => hF c q h⟩
theorem zw_ar {ty : FieldType} (h : (Cond.arrayClass ty).before args s = true) : ∃ c : ClassId, ArrOfT s c ty ∧ s.vm.findClass ("[" ++ ty.toString) = some c := by
  obtain ⟨c, k, comp, h1, h2, h3⟩ := Cond.arrayClass_spec h
  exact ⟨c, fun n z => ⟨fun k h => (by cases h), k, h2, comp, h3⟩, h1⟩
theorem zw_A (hts : ∀ w ∈ y_tb, w.before args s = true) (hts2 : ∀ w ∈ lw_tbl, w.before args s = true) : ∃ ca : Nat → ClassId, ∀ g : yG, g.2.2.1 = ca → ∀ (k : Nat) (q : ClassId × FieldType), (y_tys g)[k]? = some q → ArrOfT s q.1 q.2 ∧ va_RA s q.1 q.2 := by
  obtain ⟨c0, a0, b0⟩ := zw_ar (hts _ wac_int)
  obtain ⟨c1, a1, b1⟩ := zw_ar (hts _ wac_byte)
  obtain ⟨c2, a2, b2⟩ := zw_ar (hts _ wac_long)
  obtain ⟨p3, c3, k3, h31, h32, h33, h34, h35⟩ := Cond.arrayOver_spec (hts2 _ zw_ao.1)
  obtain ⟨p4, c4, k4, h41, h42, h43, h44, h45⟩ := arrayOverA_spec (hts2 _ zw_ao.2)
  refine ⟨fun k => match k with | 0 => c0 | 1 => c1 | 2 => c2 | 3 => c3 | _ => c4, fun g hg k q hq => ?_⟩
  unfold y_tys at hq
  rw [hg] at hq
  match k with
  | 0 => cases hq; exact ⟨a0, b0⟩
  | 1 => cases hq; exact ⟨a1, b1⟩
  | 2 => cases hq; exact ⟨a2, b2⟩
  | 3 => cases hq; exact ⟨fun n z => ⟨fun k h => (by cases h), k3, h33, p3, h34⟩, ⟨k3, p3, h33, h34, h31, h35⟩⟩
  | 4 => cases hq; exact ⟨fun n z => ⟨fun k h => (by cases h), k4, h43, p4, h44⟩, h45⟩
  | k + 5 => exact absurd (List.getElem?_eq_some_iff.mp hq).1 (by show ¬ k + 5 < 5; omega)
end YWO
