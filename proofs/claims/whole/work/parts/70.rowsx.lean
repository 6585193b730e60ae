/-! exceptions over the layer -/
abbrev eN : String := "java/util/NoSuchElementException"
abbrev eA : String := "java/lang/IllegalArgumentException"
abbrev eNs : List String := ["java/lang/RuntimeException", "java/lang/Exception"]
theorem xA_in : ∀ w ∈ (vx_atS RX10 432 eA eNs).filter goodWord, w ∈ lw_tbl := by decide +kernel
abbrev eB : ByteArray := prog_23_method_4_code
abbrev xNl : List Cond := (zx_at RX10 425 eN 13 eB "java/lang/RuntimeException" ["java/lang/Exception"]).filter vx_no
theorem xN_in : ∀ w ∈ xNl.filter goodWord, w ∈ lw_tbl := by decide +kernel
theorem xA_nw : ∀ w ∈ (vx_atS RX10 432 eA eNs).filter (fun w => !goodWord w), w ∈ lw_tbl ∧ y_isN w = true ∧ w.onTables = true := by decide +kernel
theorem xN_nw : ∀ w ∈ xNl.filter (fun w => !goodWord w), w ∈ lw_tbl ∧ y_isN w = true ∧ w.onTables = true := by decide +kernel
theorem xA_ok : ∀ w ∈ Cond.classLink RX10 428 eA :: Cond.initialized eA :: vx_atS RX10 432 eA eNs, vx_ot w = true := by decide +kernel
theorem xN_ok : ∀ w ∈ Cond.classLink RX10 421 eN :: Cond.initialized eN :: xNl, vx_ot w = true := by decide +kernel
def yTx (g : yG) (U : State) (H : Heap) : Prop := vx_Zq Bundle.tN "UNASSIGNED_STACK" Bundle.steD (yA g) U H ∧ vx_Zq Bundle.tN "SUPPRESSED_SENTINEL" Bundle.listD (yA g) U H
def yTs (U : State) : Prop := (∃ a, vk_R RX10 423 "no such DOT, PART or FILL" a U) ∧ (∃ a, vk_R RX10 430 "an argument that is none of those told" a U) ∧ va_Nc eA eN U
theorem yTx.moved {g : yG} {u U : State} {H : Heap} (hvm : u.vm.Alike U.vm) (h : yTx g u H) : yTx g U H := ⟨vx_Zq.moved hvm h.1, vx_Zq.moved hvm h.2⟩
theorem yTx.kept {g : yG} {U : State} {H H1 : Heap} (h : yTx g U H) (hq : ∀ a : Nat, a < H.size → ¬ yA g a → H1[a]? = H[a]?) : yTx g U H1 := ⟨h.1.kept hq, h.2.kept hq⟩
theorem yTs.warm {s U : State} (hW : s.WarmedH U.vm) (h : yTs s) : yTs U := by
  obtain ⟨⟨a, h1⟩, ⟨b, h2⟩, h3⟩ := h
  exact ⟨⟨a, vk_R.warm hW h1⟩, ⟨b, vk_R.warm hW h2⟩, va_Nc.moved hW.alike h3⟩
theorem yTs.same {u U : State} (hv : u.vm = U.vm) (h : yTs u) : yTs U := by
  obtain ⟨⟨a, h1⟩, ⟨b, h2⟩, h3⟩ := h
  exact ⟨⟨a, vk_R.same hv.symm h1⟩, ⟨b, vk_R.same hv.symm h2⟩, va_Nc.moved (by rw [hv]; exact Vm.Alike.refl U.vm) h3⟩
def yPreX (g : yG) (sch : yS) (n : Nat) (σ : yM) : State → Prop := fun U => yPre g sch n σ U ∧ yTx g U U.heap ∧ yTs U
def yXC (g : yG) (sch : yS) (PX : String → Nat → yM → Prop) : String → State → State → Prop := fun E st t => (∃ (n : Nat) (σ : yM), PX E n σ ∧ yRep g sch n σ t.heap) ∧ va_F (yA g) st t
/-- a contract of a method that may throw -/
def yMX (l : Launch) (g : yG) (y : MethodName) (cc : ByteArray) (nL : Nat) (ret : Option FieldType) (rm : Room) (av : List Value) (sch : yS) (n : Nat) (σ : yM) (sch' : yS) (Post : Option Value → Nat → yM → Prop) (PX : String → Nat → yM → Prop) : Prop :=
  vx_Met l y (.code y cc nL ret :: y_tb) rm (va_Pc av (yPreX g sch n σ)) (yQc g sch' Post) (yXC g sch' PX) rm.cells rm.slots (yA g)
def yFX (x : yC) (l : Launch) (g : yG) (nL : Nat) (cc : ByteArray) (own : String) (ret : Option FieldType) (rm : Room) : Prop := yF x l g nL cc own ret rm ∧ match x with
  | (_, _, _, _, s, _, _, _, _, c) => yTx g s s.heap ∧ yTs s ∧ ∀ z ∈ c.exceptionTable.toList, False
def yQX (x : yC) (g : yG) (sch' : yS) (Post : Option Value → Nat → yM → Prop) (PX : String → Nat → yM → Prop) (rm : Room) : State → Prop := match x with
  | (_, _, _, _, s, _, args, below, _, _) => vx_MQ below (yQc g sch' Post) (yXC g sch' PX) args s rm.cells rm.slots (yA g)
theorem y_startX {l : Launch} {g : yG} {y : MethodName} {cc : ByteArray} {nL : Nat} {ret : Option FieldType} {rm : Room} {av : List Value} {sch : yS} {n : Nat} {σ : yM} {sch' : yS} {Post : Option Value → Nat → yM → Prop} {PX : String → Nat → yM → Prop} (hy : plainName y.cls = true) (hfit : (lg_sl av).length ≤ nL)
    (body : ∀ x : yC, yFX x l g nL cc y.cls ret rm → yV x g nL (yQX x g sch' Post PX rm) sch n σ 0 0 0 (lv_args 0 av) []) : yMX l g y cc nL ret rm av sch n σ sch' Post PX := by
  refine vx_ofW (cc := cc) (maxL := nL) (ret := ret) hy rfl ?_
  intro p e s m args below meth c s₁ B hml ht hv
  obtain ⟨rfl, ⟨hR, hK, hZ, hNw⟩, hTx, hTs⟩ := hv
  have hts := atoms_spec (ws := .code y cc nL ret :: y_tb) B.pre
  have h := body (p, l, e, (headSpec (.code y cc nL ret :: y_tb) rm).room, s, m, av.toArray, below, meth, c) ⟨⟨rfl, rfl, B.exec, B.bytes, hml, findClass_of_methodNamed B.named, fun w hw => hts w (List.mem_cons_of_mem _ hw), hK, hZ, by rw [hR.2.2]; omega, B.notSynchronized, B.returns, hNw⟩, hTx, hTs, ht⟩
  rw [lg_entry_eq]
  exact h s.heap [] _ hR va_S.rf (lv_entry av hfit)
theorem yPreX_blind {g : yG} {sch : yS} {n : Nat} {σ : yM} {av : List Value} : FrameBlind (va_Pc av (yPreX g sch n σ)) := fun a U g' mk q => by
  obtain ⟨q0, ⟨qR, qK, qZ, qN⟩, qx, qs⟩ := q
  exact ⟨q0, ⟨qR, va_K.moved (u := U) (U := U.calling g' mk a) (Vm.Alike.refl U.vm) qK, yZ.moved (u := U) (U := U.calling g' mk a) (Vm.Alike.refl U.vm) qZ, yNw.same (u := U) rfl qN⟩, yTx.moved (u := U) (U := U.calling g' mk a) (Vm.Alike.refl U.vm) qx, yTs.same (u := U) rfl qs⟩
def yRunX (x : yC) (g : yG) (nL : Nat) (sch : yS) (n : Nat) (σ : yM) (cells slots pc mc ms : Nat) (lv : List (Nat × Value)) (st rest : List Value) (sch' : yS) (Post : Option Value → Nat → yM → Prop) (PX : String → Nat → yM → Prop) : Prop := match x with
  | (p, l, e, R, s, m, args, below, meth, c) => ∀ (H : Heap) (locs : List Loc) (ls : Array Slot), yRep g sch n σ H → va_S (yA g) s.heap H locs → lv_has ls nL lv → ∃ a : Array Value, vx_Run p l e R s m args below meth c H locs cells slots mc ms (F0 m pc ls st) rest (yQc g sch' Post a) (yXC g sch' PX) (yA g)
/-- no cell beyond is told of -/
theorem yLA_more {g : yG} {sch : yS} {n n' : Nat} (hn : n ≤ n') (hs : ∀ k, n ≤ k → sch k = none) : yLA g sch n' = yLA g sch n := by
  obtain ⟨d, rfl⟩ := Nat.exists_eq_add_of_le hn
  unfold yLA
  induction d with
  | zero => rfl
  | succ d ih =>
    rw [show n + (d + 1) = (n + d) + 1 by omega, List.range_succ, List.filter_append, List.map_append, ih (by omega)]
    simp [hs (n + d) (by omega)]
theorem yRep.more {g : yG} {sch : yS} {n : Nat} {σ : yM} {H H1 : Heap} (h : yRep g sch n σ H) (hs : ∀ k, n ≤ k → sch k = none) (hz : H.size ≤ H1.size) (hq : ∀ q : Nat, q < H.size → H1[q]? = H[q]?) : n ≤ H1.size - g.1 ∧ yRep g sch (H1.size - g.1) σ H1 := by
  obtain ⟨h1, h2, h3⟩ := h
  have hn : n ≤ H1.size - g.1 := by omega
  refine ⟨hn, ?_, ?_, by omega⟩
  · show va_P g.2.1 y_cls (va_pl (yLA g sch (H1.size - g.1)) (yCF g sch σ)) H1
    rw [yLA_more hn hs]
    exact h1.kept (fun k q hk => hq q.1 ((h1 k q hk).lt))
  · show va_D (yA g) (va_pl (yLA g sch (H1.size - g.1)) (yCF g sch σ))
    rw [yLA_more hn hs]
    exact h2
theorem sc_none {g : yG} {n : Nat} (hn : 172 ≤ n) : ∀ k, n ≤ k → SC g k = none := fun k hk => List.getElem?_eq_none (by show (172 : Nat) ≤ k; omega)
section YRX
variable {x : yC} {l : Launch} {g : yG} {nL : Nat} {cc : ByteArray} {own : String} {ret : Option FieldType} {rm : Room} {Q : State → Prop} {sch : yS} {n : Nat} {σ : yM} {cells slots pc : Nat} {lv : List (Nat × Value)} {st : List Value}
theorem y_retX {sch' : yS} {Post : Option Value → Nat → yM → Prop} {PX : String → Nat → yM → Prop} (k : yV x g nL (yQ x g sch' Post rm) sch n σ cells slots pc lv st) : yV x g nL (yQX x g sch' Post PX rm) sch n σ cells slots pc lv st := by
  obtain ⟨p, l', e, R, s, m, args, below, meth, c⟩ := x
  intro H locs ls hH hS hl
  exact vx_ret (k H locs ls hH hS hl)
theorem y_throwN (hF : yFX x l g nL cc RX10 ret rm) (hst : l.stackTraces = false) {sch' : yS} {Post : Option Value → Nat → yM → Prop} {PX : String → Nat → yM → Prop} (d0 : decode cc pc = .ok (.new 421, 3)) (d3 : decode cc (pc + 3) = .ok (.dup, 1)) (d4 : decode cc (pc + 4) = .ok (.ldc_w 423, 3)) (d7 : decode cc (pc + 7) = .ok (.invokespecial 425, 3)) (d10 : decode cc (pc + 10) = .ok (.athrow, 1)) (hk : Cond.classLink RX10 421 eN ∈ y_tb) (hi : Cond.initialized eN ∈ y_tb) (hr : 6 ≤ rm.frames ∧ 82 ≤ rm.locals ∧ cells + 1 ≤ rm.cells ∧ slots + 6 ≤ rm.slots) (hs : ∀ k, n ≤ k → sch k = none) (hp : ∀ n', n ≤ n' → PX eN n' σ) : yV x g nL (yQX x g sch Post PX rm) sch n σ cells slots pc lv [] := by
  obtain ⟨p, l', e, R, s, m, args, below, meth, c⟩ := x
  obtain ⟨⟨hl0, hRm, hx, hb, hml, hown, hts, hK, hZ, hbs, hlk, hrt, hNw⟩, hTx, hTs, htb⟩ := hF
  intro H locs ls hH hS hl
  subst hRm
  subst hl0
  obtain ⟨⟨sa, hstr⟩, -, -⟩ := hTs
  refine zx_make (Y9 := "java/lang/RuntimeException") (names := ["java/lang/Exception"]) (sa := sa) (ix := 13) (bx := eB) hx hb hst (by decide +kernel) (by decide +kernel) (by decide +kernel) (by decide +kernel) (by decide) hown (by decide) (by decide) (hts _ hk) (hts _ hi) hstr (vx_hat (B := y_nw) (fun w hw => hts _ (y_in (xN_in w hw) (List.mem_filter.mp hw).2)) (fun w hw => y_inN (xN_nw w hw).1 (xN_nw w hw).2.1) (fun w hw => va_Nw.use (by have h0 := (List.mem_filter.mp hw).2; cases w <;> first | rfl | exact absurd h0 (by simp [y_isN])) (hNw w hw))) xN_ok hTx.1 hTx.2 hS (hl.1.trans hml.symm) d0 d3 d4 d7 (by show 1 + 1 + 3 < _; omega) (by show 0 + (13 * 3 + 43) ≤ _; omega) hr.2.2.1 hr.2.2.2 (fun q H1 ce hz hq hce hcv hcl hS1 => ?_)
  refine vx_athrow hx hb d10 ?_
  exact vx_out (fun z hz => absurd (htb z hz) id) hlk hce hcv hcl (fun t h3 _ => ⟨⟨_, _, hp _ (hH.more hs hz hq).1, by rw [h3]; exact (hH.more hs hz hq).2⟩, hS1.F h3⟩) hS1.2.2 hr.2.2.1 hr.2.2.2
theorem y_throwA (hF : yFX x l g nL cc RX10 ret rm) (hst : l.stackTraces = false) {sch' : yS} {Post : Option Value → Nat → yM → Prop} {PX : String → Nat → yM → Prop} (d0 : decode cc pc = .ok (.new 428, 3)) (d3 : decode cc (pc + 3) = .ok (.dup, 1)) (d4 : decode cc (pc + 4) = .ok (.ldc_w 430, 3)) (d7 : decode cc (pc + 7) = .ok (.invokespecial 432, 3)) (d10 : decode cc (pc + 10) = .ok (.athrow, 1)) (hk : Cond.classLink RX10 428 eA ∈ y_tb) (hi : Cond.initialized eA ∈ y_tb) (hr : 6 ≤ rm.frames ∧ 82 ≤ rm.locals ∧ cells + 1 ≤ rm.cells ∧ slots + 6 ≤ rm.slots) (hs : ∀ k, n ≤ k → sch k = none) (hp : ∀ n', n ≤ n' → PX eA n' σ) : yV x g nL (yQX x g sch Post PX rm) sch n σ cells slots pc lv [] := by
  obtain ⟨p, l', e, R, s, m, args, below, meth, c⟩ := x
  obtain ⟨⟨hl0, hRm, hx, hb, hml, hown, hts, hK, hZ, hbs, hlk, hrt, hNw⟩, hTx, hTs, htb⟩ := hF
  intro H locs ls hH hS hl
  subst hRm
  subst hl0
  obtain ⟨-, ⟨sa, hstr⟩, -⟩ := hTs
  exact vx_throwSW (names := eNs) (sa := sa) hx hb hst hown (by decide) (by decide) (hts _ hk) (hts _ hi) hstr (vx_hat (B := y_nw) (fun w hw => hts _ (y_in (xA_in w hw) (List.mem_filter.mp hw).2)) (fun w hw => y_inN (xA_nw w hw).1 (xA_nw w hw).2.1) (fun w hw => va_Nw.use (by have h0 := (List.mem_filter.mp hw).2; cases w <;> first | rfl | exact absurd h0 (by simp [y_isN])) (hNw w hw))) xA_ok hTx.1 hTx.2 hS (hl.1.trans hml.symm) d0 d3 d4 d7 d10 (fun z hz => absurd (htb z hz) id) (by show 2 + 3 < _; omega) (by show 0 + (13 * 3 + 43) ≤ _; omega) hr.2.2.1 hr.2.2.2 hlk
    (fun t ha hz hq => ⟨⟨_, _, hp _ (hH.more hs hz hq).1, (hH.more hs hz hq).2⟩, Nat.le_trans hS.1 hz, fun q h1 h2 => (hq q (Nat.lt_of_lt_of_le h1 hS.1)).trans (hS.2.1 q h1 h2)⟩) hS.2.2 hr.2.2.1 hr.2.2.2
/-- a call of a method that may throw -/
theorem y_rVX (hF : yFX x l g nL cc own ret rm) {y : MethodName} {cc2 : ByteArray} {nL2 na index : Nat} {ret2 : Option FieldType} {rm2 : Room} {As rest : List Value} {kk : Nat} {sch' : yS} {Post : Option Value → Nat → yM → Prop} {PX : String → Nat → yM → Prop} (hM : yMX l g y cc2 nL2 ret2 rm2 (yR g kk :: As) sch n σ sch' Post PX) (hdg : decode cc pc = .ok (.invokevirtual index, 3)) {f : (Int → Int) → va_E} {fs : List Value} {T : u_T} {N ci : Nat} (hk : kk < n) (hs : sch kk = some f) (hfs : f (σ kk) = .inr (ci, fs)) (hc : y_cls[ci]? = some (y.cls, T, N)) (hw : Cond.methodLink own index y ∈ y_tb) (hcal : yCalV y cc2 nL2 ret2 na) (hna : As.length = na) (hrm : rm2.frames + 1 ≤ rm.frames ∧ 8 + (nL2 + 11) + rm2.locals ≤ rm.locals) (hcs : cells + rm2.cells ≤ rm.cells ∧ slots + rm2.slots ≤ rm.slots) (hcat : (rest.map fun v => v.category).sum ≤ 8) (hst : st = As.reverse ++ yR g kk :: rest) : yRunX x g nL sch n σ cells slots pc rm2.cells rm2.slots lv st rest sch' Post PX := by
  obtain ⟨p, l', e, R, s, m, args, below, meth, c⟩ := x
  obtain ⟨⟨hl0, hRm, hx, hb, hml, hown, hts, hK, hZ, hbs, hlk, hrt, hNw⟩, hTx, hTs, htb⟩ := hF
  intro H locs ls hH hS hl
  subst hst
  subst hRm
  subst hl0
  obtain ⟨w1, w2, w3, w4, hd⟩ := hcal
  obtain ⟨q0, hq⟩ := y_at (g := g) (σ := σ) hk hs
  rw [hfs] at hq
  refine ⟨_, vx_runV (Ts := y_tb) (own := own) (C := y.cls) (b := g.1 + kk) (As := As) (rest := rest) ⟨hx, hb, hml, hown, hts⟩ hM ⟨callB_of na hts (y_goodIn w3) rfl rfl rfl (hts _ w4) (hts _ hw) hd hrm, hts _ w1, hts _ w2⟩ ⟨yPreX_blind, ?_, fun U hU hW => ⟨rfl, ⟨by rw [hU]; exact hH, va_K.moved hW.alike hK, by rw [hU]; exact yZ.kept (yZ.moved hW.alike hZ) hbs (fun a h1 h2 => hS.2.1 a h1 h2), yNw.warm hW hNw⟩, by rw [hU]; exact (yTx.moved hW.alike hTx).kept (fun a h1 h2 => hS.2.1 a h1 h2), yTs.warm hW hTs⟩⟩ rfl hna hl.1 rfl (lv_room hcat) hdg hcs⟩
  exact va_recv hK hH.1 hc hq
/-- what it throws goes on to the caller -/
theorem y_contX (hF : yFX x l g nL cc own ret rm) {Post Post2 : Option Value → Nat → yM → Prop} {PX PX2 : String → Nat → yM → Prop} {sch' : yS} {mc ms cells' slots' : Nat} {rest : List Value} (hr : yRunX x g nL sch n σ cells slots pc mc ms lv st rest sch' Post PX) (hc : cells + mc = cells') (hs : slots + ms = slots') (hcs : cells' ≤ rm.cells ∧ slots' ≤ rm.slots)
    (kx : ∀ (E : String) (n' : Nat) (σ' : yM), PX E n' σ' → PX2 E n' σ')
    (kk : ∀ (r : Option Value) (n' : Nat) (σ' : yM), Post r n' σ' → yV x g nL (yQX x g sch' Post2 PX2 rm) sch' n' σ' cells' slots' (pc + 3) lv (r.toList ++ rest)) : yV x g nL (yQX x g sch' Post2 PX2 rm) sch n σ cells slots pc lv st := by
  subst hc; subst hs
  obtain ⟨p, l', e, R, s, m, args, below, meth, c⟩ := x
  obtain ⟨⟨hl0, hRm, hx, hb, hml, hown, hts, hK, hZ, hbs, hlk, hrt, hNw⟩, hTx, hTs, htb⟩ := hF
  intro H locs ls hH hS hl T hT X
  obtain ⟨a, hr⟩ := hr H locs ls hH hS hl
  rcases hr T hT X with ⟨v, st₀, t, T', L, h0, X', hL, e1, e2, ⟨⟨r, n', σ', hv, hp, hrep⟩, hz, hk⟩, st⟩ | ⟨q, st₀, t, T', L, E, ce, h0, X', hL, e1, e2, ⟨⟨n', σ', hp, hrep⟩, hz, hk⟩, hce, hcv, hcl, st⟩
  · cases hv
    rw [h0] at hz hk
    obtain ⟨t2, a1, b1⟩ := kk v n' σ' hp T'.heap (locs ++ L) ls (by rw [e1]; exact hrep) ⟨Nat.le_trans hS.1 (by rw [e1]; exact hz), fun q h1 h2 => by rw [e1, hk q (Nat.lt_of_lt_of_le h1 hS.1) h2]; exact hS.2.1 q h1 h2, fun q hq => by
        rcases List.mem_append.mp hq with h | h
        · exact hS.2.2 q h
        · exact hL q h⟩ hl T' rfl X'
    exact ⟨t2, st t2 a1, b1⟩
  · rw [h0] at hz hk
    have hS1 : va_S (yA g) s.heap T'.heap (locs ++ L) := ⟨Nat.le_trans hS.1 (by rw [e1]; exact hz), fun q h1 h2 => by rw [e1, hk q (Nat.lt_of_lt_of_le h1 hS.1) h2]; exact hS.2.1 q h1 h2, fun q hq => by
        rcases List.mem_append.mp hq with h | h
        · exact hS.2.2 q h
        · exact hL q h⟩
    obtain ⟨t2, a1, b1⟩ := vx_out (p := p) (l := l') (e := e) (R := R) (m := m) (args := args) (below := below) (meth := meth) (c := c) (ls := ls) (rest := rest) (pc := pc) (Qc := yQc g sch' Post2) (XC := yXC g sch' PX2) (free := yA g) (mc := rm.cells) (ms := rm.slots) (cells := cells + mc) (slots := slots + ms) (locs := locs ++ L) (H := T'.heap) (q := q) (ce := ce) (E := E) (s := s) (fun z hz => absurd (htb z hz) id) hlk (by rw [e1]; exact hce) hcv hcl (fun t3 h3 _ => ⟨⟨n', σ', kx E n' σ' hp, by rw [h3, e1]; exact hrep⟩, hS1.F h3⟩) hS1.2.2 hcs.1 hcs.2 T' rfl X'
    exact ⟨t2, st.trans a1, b1⟩
end YRX
