/-! methods with handlers -/
theorem w_617 : Cond.castable eA eA ∈ y_nw := y_inN (by decide +kernel) rfl
theorem w_766 : Cond.castable eN eN ∈ y_nw := y_inN (by decide +kernel) rfl
def yMH (l : Launch) (g : yG) (y : MethodName) (cc : ByteArray) (nL : Nat) (ret : Option FieldType) (hh : List (Nat × Nat × Nat × Nat)) (rm : Room) (av : List Value) (sch : yS) (n : Nat) (σ : yM) (sch' : yS) (Post : Option Value → Nat → yM → Prop) : Prop :=
  Met l y (.codeWith y cc nL ret hh :: y_tb) rm (va_Pc av (yPreX g sch n σ)) (yQc g sch' Post) rm.cells rm.slots (yA g)
def yFH (x : yC) (l : Launch) (g : yG) (nL : Nat) (cc : ByteArray) (own : String) (ret : Option FieldType) (hh : List (Nat × Nat × Nat × Nat)) (rm : Room) : Prop := yF x l g nL cc own ret rm ∧ match x with
  | (_, _, _, _, s, _, _, _, _, c) => yTx g s s.heap ∧ yTs s ∧ c.exceptionTable.toList = tableOf hh
theorem y_startH {l : Launch} {g : yG} {y : MethodName} {cc : ByteArray} {nL : Nat} {ret : Option FieldType} {hh : List (Nat × Nat × Nat × Nat)} {rm : Room} {av : List Value} {sch : yS} {n : Nat} {σ : yM} {sch' : yS} {Post : Option Value → Nat → yM → Prop} (hy : plainName y.cls = true) (hfit : (lg_sl av).length ≤ nL)
    (body : ∀ x : yC, yFH x l g nL cc y.cls ret hh rm → yV x g nL (yQ x g sch' Post rm) sch n σ 0 0 0 (lv_args 0 av) []) : yMH l g y cc nL ret hh rm av sch n σ sch' Post := by
  unfold yMH Met
  refine MetFree.of_bodyS (code := cc) (maxLocals := nL) (ret := ret) hy ?_ ?_
  · intro args s m h hn
    obtain ⟨m9, meth, c, hn9, h1, h2, h3, h4, -, h5, h6, -⟩ := Cond.codeWith_spec (atoms_spec (ws := .codeWith y cc nL ret hh :: y_tb) h _ List.mem_cons_self)
    cases hn.symm.trans hn9
    exact ⟨meth, c, h1, h2, h3, h4, h5, h6⟩
  · intro p e s m args below meth c s₁ B hml hv _
    have hh0 : s₁.heap = s.heap := by rw [B.state]; rfl
    obtain ⟨rfl, ⟨hR, hK, hZ, hNw⟩, hTx, hTs⟩ := hv
    have hts := atoms_spec (ws := .codeWith y cc nL ret hh :: y_tb) B.pre
    have ht := vx_table (bytes := cc) (maxL' := nL) (ret' := ret) (x := y) B (hts _ List.mem_cons_self)
    have h := body (p, l, e, (headSpec (.codeWith y cc nL ret hh :: y_tb) rm).room, s, m, av.toArray, below, meth, c) ⟨⟨rfl, rfl, B.exec, B.bytes, hml, findClass_of_methodNamed B.named, fun w hw => hts w (List.mem_cons_of_mem _ hw), hK, hZ, by rw [hR.2.2]; omega, B.notSynchronized, B.returns, hNw⟩, hTx, hTs, ht⟩
    have hw := h s.heap [] _ hR va_S.rf (lv_entry av hfit)
    rw [← lg_entry_eq] at hw
    obtain ⟨t, a1, o, b1, b2, b3⟩ := hw s₁ hh0 (Stand.of_body B)
    exact ⟨t, o, a1, b1, b2, b3⟩
section YRH
variable {x : yC} {l : Launch} {g : yG} {nL : Nat} {cc : ByteArray} {own : String} {ret : Option FieldType} {hh : List (Nat × Nat × Nat × Nat)} {rm : Room} {Q : State → Prop} {sch : yS} {n : Nat} {σ : yM} {cells slots pc : Nat} {lv : List (Nat × Value)} {st : List Value}
/-- a call of a method that may throw, out of one with handlers -/
theorem y_rVH (hF : yFH x l g nL cc own ret hh rm) {y : MethodName} {cc2 : ByteArray} {nL2 na index : Nat} {ret2 : Option FieldType} {rm2 : Room} {As rest : List Value} {kk : Nat} {sch' : yS} {Post : Option Value → Nat → yM → Prop} {PX : String → Nat → yM → Prop} (hM : yMX l g y cc2 nL2 ret2 rm2 (yR g kk :: As) sch n σ sch' Post PX) (hdg : decode cc pc = .ok (.invokevirtual index, 3)) {f : (Int → Int) → va_E} {fs : List Value} {T : u_T} {N ci : Nat} (hk : kk < n) (hs : sch kk = some f) (hfs : f (σ kk) = .inr (ci, fs)) (hc : y_cls[ci]? = some (y.cls, T, N)) (hw : Cond.methodLink own index y ∈ y_tb) (hcal : yCalV y cc2 nL2 ret2 na) (hna : As.length = na) (hrm : rm2.frames + 1 ≤ rm.frames ∧ 8 + (nL2 + 11) + rm2.locals ≤ rm.locals) (hcs : cells + rm2.cells ≤ rm.cells ∧ slots + rm2.slots ≤ rm.slots) (hcat : (rest.map fun v => v.category).sum ≤ 8) (hst : st = As.reverse ++ yR g kk :: rest) : yRunX x g nL sch n σ cells slots pc rm2.cells rm2.slots lv st rest sch' Post PX := by
  obtain ⟨p, l', e, R, s, m, args, below, meth, c⟩ := x
  obtain ⟨⟨hl0, hRm, hx, hb, hml, hown, hts, hK, hZ, hbs, hlk, hrt, hNw⟩, hTx, hTs, htb⟩ := hF
  intro H locs ls hH hS hl
  subst hst
  subst hRm
  subst hl0
  obtain ⟨w1, w2, w3, w4, hd⟩ := hcal
  obtain ⟨q0, hq⟩ := y_at (g := g) (σ := σ) hk hs
  rw [hfs] at hq
  refine ⟨_, vx_runV (Ts := y_tb) (own := own) (C := y.cls) (b := g.1 + kk) (As := As) (rest := rest) ⟨hx, hb, hml, hown, hts⟩ hM ⟨callB_of na hts (y_goodIn w3) rfl rfl rfl (hts _ w4) (hts _ hw) hd hrm, hts _ w1, hts _ w2⟩ ⟨yPreX_blind, ?_, fun U hU hW => ⟨rfl, ⟨by rw [hU]; exact hH, va_K.moved hW.alike hK, by rw [hU]; exact yZ.kept (yZ.moved hW.alike hZ) hbs (fun a h1 h2 => hS.2.1 a h1 h2), yNw.warm hW hNw⟩, by rw [hU]; exact (yTx.moved hW.alike hTx).kept (fun a h1 h2 => hS.2.1 a h1 h2), yTs.warm hW hTs⟩⟩ rfl hna hl.1 rfl (lv_room hcat) hdg hcs⟩
  exact va_recv hK hH.1 hc hq
/-- what it throws is caught here -/
theorem y_contH (hF : yFH x l g nL cc own ret hh rm) {Post : Option Value → Nat → yM → Prop} {PX : String → Nat → yM → Prop} {sch' : yS} {mc ms cells' slots' : Nat} {rest : List Value} (hr : yRunX x g nL sch n σ cells slots pc mc ms lv st rest sch' Post PX) (hc : cells + mc = cells') (hs : slots + ms = slots')
    (kx : ∀ (E : String) (n' : Nat) (σ' : yM), PX E n' σ' → ∃ (pre : List (Nat × Nat × Nat × Nat)) (z : Nat × Nat × Nat × Nat) (suf : List (Nat × Nat × Nat × Nat)), hh = pre ++ z :: suf ∧ (∀ y ∈ pre, y.2.2.2 ≠ 0 ∧ E = eA ∧ Cond.classLink own y.2.2.2 eN ∈ y_tb) ∧ covers (⟨z.1, z.2.1, z.2.2.1, z.2.2.2⟩ : ExceptionTableEntry) pc = true ∧ z.2.2.2 ≠ 0 ∧ Cond.classLink own z.2.2.2 E ∈ y_tb ∧ Cond.castable E E ∈ y_nw ∧ ∀ q : Nat, yV x g nL Q sch' n' σ' cells' slots' z.2.2.1 lv [.ref q])
    (kk : ∀ (r : Option Value) (n' : Nat) (σ' : yM), Post r n' σ' → yV x g nL Q sch' n' σ' cells' slots' (pc + 3) lv (r.toList ++ rest)) : yV x g nL Q sch n σ cells slots pc lv st := by
  subst hc; subst hs
  obtain ⟨p, l', e, R, s, m, args, below, meth, c⟩ := x
  obtain ⟨⟨hl0, hRm, hx, hb, hml, hown, hts, hK, hZ, hbs, hlk, hrt, hNw⟩, hTx, hTs, htb⟩ := hF
  intro H locs ls hH hS hl T hT X
  obtain ⟨a, hr⟩ := hr H locs ls hH hS hl
  rcases hr T hT X with ⟨v, st₀, t, T', L, h0, X', hL, e1, e2, ⟨⟨r, n', σ', hv, hp, hrep⟩, hz, hk⟩, st⟩ | ⟨q, st₀, t, T', L, E, ce, h0, X', hL, e1, e2, ⟨⟨n', σ', hp, hrep⟩, hz, hk⟩, hce, hcv, hcl, st⟩
  · cases hv
    rw [h0] at hz hk
    obtain ⟨t2, a1, b1⟩ := kk v n' σ' hp T'.heap (locs ++ L) ls (by rw [e1]; exact hrep) ⟨Nat.le_trans hS.1 (by rw [e1]; exact hz), fun q h1 h2 => by rw [e1, hk q (Nat.lt_of_lt_of_le h1 hS.1) h2]; exact hS.2.1 q h1 h2, fun q hq => by
        rcases List.mem_append.mp hq with h | h
        · exact hS.2.2 q h
        · exact hL q h⟩ hl T' rfl X'
    exact ⟨t2, st t2 a1, b1⟩
  · rw [h0] at hz hk
    have hS1 : va_S (yA g) s.heap T'.heap (locs ++ L) := ⟨Nat.le_trans hS.1 (by rw [e1]; exact hz), fun q h1 h2 => by rw [e1, hk q (Nat.lt_of_lt_of_le h1 hS.1) h2]; exact hS.2.1 q h1 h2, fun q hq => by
        rcases List.mem_append.mp hq with h | h
        · exact hS.2.2 q h
        · exact hL q h⟩
    obtain ⟨pre, z, suf, hsp, hps, hcv2, hz0, hlk2, hcs2, hgo⟩ := kx E n' σ' hp
    obtain ⟨t2, a1, b1⟩ := vx_catch (p := p) (l := l') (e := e) (R := R) (m := m) (args := args) (below := below) (meth := meth) (c := c) (ls := ls) (rest := rest) (pc := pc) (Q := Q) (cells := cells + mc) (slots := slots + ms) (locs := locs ++ L) (H := T'.heap) (q := q) (ce := ce) (E := E) (name := E) (s := s) hown (tableOf pre) ⟨z.1, z.2.1, z.2.2.1, z.2.2.2⟩ (tableOf suf) (by rw [htb, hsp]; simp [tableOf])
      (fun y hy => by
        obtain ⟨w, hw, rfl⟩ := List.mem_map.mp hy
        obtain ⟨h1, rfl, h3⟩ := hps w hw
        exact Or.inr ⟨h1, eN, hts _ h3, hTs.2.2⟩) hcv2 hz0 (hts _ hlk2) (va_Nw.use rfl (hNw _ hcs2)) (by rw [e1]; exact hce) hcv hcl (hgo q T'.heap (locs ++ L) ls (by rw [e1]; exact hrep) hS1 hl) T' rfl X'
    exact ⟨t2, st.trans a1, b1⟩
/-- a static call of a method with handlers, out of one with none -/
theorem y_rSH (hF : yFX x l g nL cc own ret rm) {y : MethodName} {cc2 : ByteArray} {nL2 na index : Nat} {ret2 : Option FieldType} {rm2 : Room} {As rest : List Value} {sch' : yS} {Post : Option Value → Nat → yM → Prop} (hM : yMH l g y cc2 nL2 ret2 hh rm2 As sch n σ sch' Post) (hdg : decode cc pc = .ok (.invokestatic index, 3)) (hw : Cond.methodLink own index y ∈ y_tb) (w1 : Cond.static y ∈ y_tb) (w3 : Cond.codeWith y cc2 nL2 ret2 hh ∈ y_tb) (w4 : Cond.initialized y.cls ∈ y_tb) (hd : y.cls ≠ "java/lang/invoke/MethodHandle" ∧ y.cls ≠ "java/lang/invoke/VarHandle" ∧ (parseMethodDescriptor y.desc).map (fun d => d.parameters.length) = some na) (hna : As.length = na) (hrm : rm2.frames + 1 ≤ rm.frames ∧ 8 + (nL2 + 11) + rm2.locals ≤ rm.locals) (hcs : cells + rm2.cells ≤ rm.cells ∧ slots + rm2.slots ≤ rm.slots) (hcat : (rest.map fun v => v.category).sum ≤ 8) (hst : st = As.reverse ++ rest) : yRun x g nL sch n σ cells slots pc rm2.cells rm2.slots lv st rest sch' Post := by
  obtain ⟨p, l', e, R, s, m, args, below, meth, c⟩ := x
  obtain ⟨⟨hl0, hRm, hx, hb, hml, hown, hts, hK, hZ, hbs, hlk, hrt, hNw⟩, hTx, hTs, htb⟩ := hF
  intro H locs ls hH hS hl
  subst hst
  subst hRm
  subst hl0
  exact ⟨_, vx_runSW (Ts := y_tb) (own := own) (As := As) (rest := rest) ⟨hx, hb, hml, hown, hts⟩ hM ⟨⟨rfl, rfl, hrm.1, hrm.2, pay_in hts (y_goodIn w3), List.mem_cons_self⟩, hts _ w3, hts _ w4, ⟨hd.1, hd.2.1⟩, fun sig h => by have h2 := hd.2.2; rw [h] at h2; exact (Option.some.inj h2).symm, hts _ hw, hts _ w1⟩ ⟨yPreX_blind, fun U hU hW => ⟨rfl, ⟨by rw [hU]; exact hH, va_K.moved hW.alike hK, by rw [hU]; exact yZ.kept (yZ.moved hW.alike hZ) hbs (fun a h1 h2 => hS.2.1 a h1 h2), yNw.warm hW hNw⟩, by rw [hU]; exact (yTx.moved hW.alike hTx).kept (fun a h1 h2 => hS.2.1 a h1 h2), yTs.warm hW hTs⟩⟩ rfl hna hl.1 rfl (lv_room hcat) hdg hcs⟩
end YRH
