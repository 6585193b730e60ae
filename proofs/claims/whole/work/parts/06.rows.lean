/-! calls, making, library members -/
theorem y_tb_good {w : Cond} (h : w ∈ y_tb) : (w.onTables && w.keeps) = true ∨ ∃ ty, w = .arrayClass ty := good_of_word (List.mem_filter.mp h).2
theorem y_goodIn {c : Cond} (h : c ∈ y_tb) : GoodIn y_tb (c :: y_tb) := fun w hw => by
  rcases List.mem_cons.mp hw with rfl | hw
  · exact ⟨h, y_tb_good h⟩
  · exact ⟨hw, y_tb_good hw⟩
theorem yPre_blind {g : yG} {sch : yS} {n : Nat} {σ : yM} {av : List Value} : FrameBlind (va_Pc av (yPre g sch n σ)) := fun a U g' mk q => by
  obtain ⟨q0, qR, qK, qZ, qN⟩ := q
  exact ⟨q0, qR, va_K.moved (u := U) (U := U.calling g' mk a) (Vm.Alike.refl U.vm) qK, yZ.moved (u := U) (U := U.calling g' mk a) (Vm.Alike.refl U.vm) qZ, yNw.same (u := U) rfl qN⟩
/-- the words of a callee -/
def yCalV (y : MethodName) (cc : ByteArray) (nL : Nat) (ret : Option FieldType) (na : Nat) : Prop := Cond.instanceMethod y ∈ y_tb ∧ Cond.selects y.cls y y ∈ y_tb ∧ Cond.code y cc nL ret ∈ y_tb ∧ Cond.initialized y.cls ∈ y_tb ∧ (y.cls ≠ "java/lang/invoke/MethodHandle" ∧ y.cls ≠ "java/lang/invoke/VarHandle" ∧ (parseMethodDescriptor y.desc).map (fun d => d.parameters.length) = some na)
def yCalS (y : MethodName) (cc : ByteArray) (nL : Nat) (ret : Option FieldType) (na : Nat) : Prop := Cond.static y ∈ y_tb ∧ Cond.code y cc nL ret ∈ y_tb ∧ Cond.initialized y.cls ∈ y_tb ∧ (y.cls ≠ "java/lang/invoke/MethodHandle" ∧ y.cls ≠ "java/lang/invoke/VarHandle" ∧ (parseMethodDescriptor y.desc).map (fun d => d.parameters.length) = some na)
def yCalI (y : MethodName) (cc : ByteArray) (nL : Nat) (na : Nat) : Prop := Cond.instanceMethod y ∈ y_tb ∧ Cond.code y cc nL none ∈ y_tb ∧ Cond.initialized y.cls ∈ y_tb ∧ y.name = "<init>" ∧ (y.cls ≠ "java/lang/invoke/MethodHandle" ∧ y.cls ≠ "java/lang/invoke/VarHandle" ∧ (parseMethodDescriptor y.desc).map (fun d => d.parameters.length) = some na)
/-- a call under way -/
def yRun (x : yC) (g : yG) (nL : Nat) (sch : yS) (n : Nat) (σ : yM) (cells slots pc mc ms : Nat) (lv : List (Nat × Value)) (st rest : List Value) (sch' : yS) (Post : Option Value → Nat → yM → Prop) : Prop := match x with
  | (p, l, e, R, s, m, args, below, meth, c) => ∀ (H : Heap) (locs : List Loc) (ls : Array Slot), yRep g sch n σ H → va_S (yA g) s.heap H locs → lv_has ls nL lv → ∃ a : Array Value, va_Run p l e R s m args below meth c H locs cells slots mc ms (F0 m pc ls st) rest (yQc g sch' Post a) (yA g)
section YR3
variable {x : yC} {l : Launch} {g : yG} {nL : Nat} {cc : ByteArray} {own : String} {ret : Option FieldType} {rm : Room} {Q : State → Prop} {sch : yS} {n : Nat} {σ : yM} {cells slots pc : Nat} {lv : List (Nat × Value)} {st : List Value}
theorem y_cont {sch' : yS} {Post : Option Value → Nat → yM → Prop} {mc ms cells' slots' : Nat} {rest : List Value} (hr : yRun x g nL sch n σ cells slots pc mc ms lv st rest sch' Post) (hc : cells + mc = cells') (hs : slots + ms = slots')
    (kk : ∀ (r : Option Value) (n' : Nat) (σ' : yM), Post r n' σ' → yV x g nL Q sch' n' σ' cells' slots' (pc + 3) lv (r.toList ++ rest)) : yV x g nL Q sch n σ cells slots pc lv st := by
  subst hc; subst hs
  obtain ⟨p, l', e, R, s, m, args, below, meth, c⟩ := x
  intro H locs ls hH hS hl T hT X
  obtain ⟨a, hr⟩ := hr H locs ls hH hS hl
  obtain ⟨v, st₀, t, T', L, h0, X', hL, e1, e2, ⟨⟨r, n', σ', hv, hp, hrep⟩, hz, hk⟩, st⟩ := hr T hT X
  cases hv
  rw [h0] at hz hk
  obtain ⟨t2, a1, b1⟩ := kk v n' σ' hp T'.heap (locs ++ L) ls (by rw [e1]; exact hrep) ⟨Nat.le_trans hS.1 (by rw [e1]; exact hz), fun q h1 h2 => by rw [e1, hk q (Nat.lt_of_lt_of_le h1 hS.1) h2]; exact hS.2.1 q h1 h2, fun q hq => by
      rcases List.mem_append.mp hq with h | h
      · exact hS.2.2 q h
      · exact hL q h⟩ hl T' rfl X'
  exact ⟨t2, st t2 a1, b1⟩
/-- the ends of contracts -/
def yPi (P : Int → Nat → yM → Prop) : Option Value → Nat → yM → Prop := fun r n σ => ∃ v : Int, r = some (yI v) ∧ P v n σ
def yPl (P : Int → Nat → yM → Prop) : Option Value → Nat → yM → Prop := fun r n σ => ∃ v : Int, r = some (yJ v) ∧ P v n σ
def yPv (P : Nat → yM → Prop) : Option Value → Nat → yM → Prop := fun r n σ => r = none ∧ P n σ
def yPp (v : Int) (n : Nat) (σ : yM) : Option Value → Nat → yM → Prop := yPi (fun v' n' σ' => v' = v ∧ n' = n ∧ σ' = σ)
theorem y_ci {sch' : yS} {P : Int → Nat → yM → Prop} {mc ms cells' slots' : Nat} {rest : List Value} (hr : yRun x g nL sch n σ cells slots pc mc ms lv st rest sch' (yPi P)) (hc : cells + mc = cells') (hs : slots + ms = slots')
    (kk : ∀ (v : Int) (n' : Nat) (σ' : yM), P v n' σ' → yV x g nL Q sch' n' σ' cells' slots' (pc + 3) lv (yI v :: rest)) : yV x g nL Q sch n σ cells slots pc lv st := y_cont hr hc hs (fun r n' σ' h => by
  obtain ⟨v, rfl, h⟩ := h
  exact kk v n' σ' h)
theorem y_cl {sch' : yS} {P : Int → Nat → yM → Prop} {mc ms cells' slots' : Nat} {rest : List Value} (hr : yRun x g nL sch n σ cells slots pc mc ms lv st rest sch' (yPl P)) (hc : cells + mc = cells') (hs : slots + ms = slots')
    (kk : ∀ (v : Int) (n' : Nat) (σ' : yM), P v n' σ' → yV x g nL Q sch' n' σ' cells' slots' (pc + 3) lv (yJ v :: rest)) : yV x g nL Q sch n σ cells slots pc lv st := y_cont hr hc hs (fun r n' σ' h => by
  obtain ⟨v, rfl, h⟩ := h
  exact kk v n' σ' h)
theorem y_cv {sch' : yS} {P : Nat → yM → Prop} {mc ms cells' slots' : Nat} {rest : List Value} (hr : yRun x g nL sch n σ cells slots pc mc ms lv st rest sch' (yPv P)) (hc : cells + mc = cells') (hs : slots + ms = slots')
    (kk : ∀ (n' : Nat) (σ' : yM), P n' σ' → yV x g nL Q sch' n' σ' cells' slots' (pc + 3) lv rest) : yV x g nL Q sch n σ cells slots pc lv st := y_cont hr hc hs (fun r n' σ' h => by
  obtain ⟨rfl, h⟩ := h
  exact kk n' σ' h)
theorem y_cp {v : Int} {rest : List Value} (hr : yRun x g nL sch n σ cells slots pc 0 0 lv st rest sch (yPp v n σ)) (kk : yV x g nL Q sch n σ cells slots (pc + 3) lv (yI v :: rest)) : yV x g nL Q sch n σ cells slots pc lv st := y_ci hr rfl rfl (fun v' n' σ' h => by
  obtain ⟨rfl, rfl, rfl⟩ := h
  exact kk)
theorem y_rV (hF : yF x l g nL cc own ret rm) {y : MethodName} {cc2 : ByteArray} {nL2 na index : Nat} {ret2 : Option FieldType} {rm2 : Room} {As rest : List Value} {kk : Nat} {sch' : yS} {Post : Option Value → Nat → yM → Prop} (hM : yMet l g y cc2 nL2 ret2 rm2 (yR g kk :: As) sch n σ sch' Post) (hdg : decode cc pc = .ok (.invokevirtual index, 3)) {f : (Int → Int) → va_E} {fs : List Value} {T : u_T} {N ci : Nat} (hk : kk < n) (hs : sch kk = some f) (hfs : f (σ kk) = .inr (ci, fs)) (hc : y_cls[ci]? = some (y.cls, T, N)) (hw : Cond.methodLink own index y ∈ y_tb) (hcal : yCalV y cc2 nL2 ret2 na) (hna : As.length = na) (hrm : rm2.frames + 1 ≤ rm.frames ∧ 8 + (nL2 + 11) + rm2.locals ≤ rm.locals) (hcs : cells + rm2.cells ≤ rm.cells ∧ slots + rm2.slots ≤ rm.slots) (hcat : (rest.map fun v => v.category).sum ≤ 8) (hst : st = As.reverse ++ yR g kk :: rest) : yRun x g nL sch n σ cells slots pc rm2.cells rm2.slots lv st rest sch' Post := by
  obtain ⟨p, l', e, R, s, m, args, below, meth, c⟩ := x
  obtain ⟨hl0, hRm, hx, hb, hml, hown, hts, hK, hZ, hbs, hlk, hrt, hNw⟩ := hF
  intro H locs ls hH hS hl
  subst hst
  subst hRm
  subst hl0
  obtain ⟨w1, w2, w3, w4, hd⟩ := hcal
  obtain ⟨q0, hq⟩ := y_at (g := g) (σ := σ) hk hs
  rw [hfs] at hq
  refine ⟨_, va_runV (Ts := y_tb) (own := own) (C := y.cls) (b := g.1 + kk) (As := As) (rest := rest) ⟨hx, hb, hml, hown, hts⟩ hM ⟨callB_of na hts (y_goodIn w3) rfl rfl rfl (hts _ w4) (hts _ hw) hd hrm, hts _ w1, hts _ w2⟩ ⟨yPre_blind, ?_, fun U hU hW => ⟨rfl, by rw [hU]; exact hH, va_K.moved hW.alike hK, by rw [hU]; exact yZ.kept (yZ.moved hW.alike hZ) hbs (fun a h1 h2 => hS.2.1 a h1 h2), yNw.warm hW hNw⟩⟩ rfl hna hl.1 rfl (lv_room hcat) hdg hcs⟩
  exact va_recv hK hH.1 hc hq
theorem y_rVN (hF : yF x l g nL cc own ret rm) {y : MethodName} {cc2 : ByteArray} {nL2 na index : Nat} {ret2 : Option FieldType} {rm2 : Room} {As rest : List Value} {kk : Nat} {sch' : yS} {Post : Option Value → Nat → yM → Prop} (hM : yMet l g y cc2 nL2 ret2 rm2 (yR g kk :: As) sch n σ sch' Post) (hdg : decode cc pc = .ok (.invokevirtual index, 3)) {host : String} {f : (Int → Int) → va_E} {fs : List Value} {T : u_T} {N ci : Nat} (hk : kk < n) (hs : sch kk = some f) (hfs : f (σ kk) = .inr (ci, fs)) (hc : y_cls[ci]? = some (y.cls, T, N)) (hw : Cond.methodLinkNest own index y host ∈ y_nw) (hcal : yCalV y cc2 nL2 ret2 na) (hna : As.length = na) (hrm : rm2.frames + 1 ≤ rm.frames ∧ 8 + (nL2 + 11) + rm2.locals ≤ rm.locals) (hcs : cells + rm2.cells ≤ rm.cells ∧ slots + rm2.slots ≤ rm.slots) (hcat : (rest.map fun v => v.category).sum ≤ 8) (hst : st = As.reverse ++ yR g kk :: rest) : yRun x g nL sch n σ cells slots pc rm2.cells rm2.slots lv st rest sch' Post := by
  obtain ⟨p, l', e, R, s, m, args, below, meth, c⟩ := x
  obtain ⟨hl0, hRm, hx, hb, hml, hown, hts, hK, hZ, hbs, hlk, hrt, hNw⟩ := hF
  intro H locs ls hH hS hl
  subst hst
  subst hRm
  subst hl0
  obtain ⟨w1, w2, w3, w4, hd⟩ := hcal
  obtain ⟨q0, hq⟩ := y_at (g := g) (σ := σ) hk hs
  rw [hfs] at hq
  refine ⟨_, va_runVN (Ts := y_tb) (own := own) (host := host) (C := y.cls) (b := g.1 + kk) (As := As) (rest := rest) ⟨hx, hb, hml, hown, hts⟩ hM ⟨va_cnB na hts (y_goodIn w3) rfl rfl rfl (hNw _ hw) (hts _ w4) hd hrm, hts _ w1, hts _ w2⟩ ⟨yPre_blind, ?_, fun U hU hW => ⟨rfl, by rw [hU]; exact hH, va_K.moved hW.alike hK, by rw [hU]; exact yZ.kept (yZ.moved hW.alike hZ) hbs (fun a h1 h2 => hS.2.1 a h1 h2), yNw.warm hW hNw⟩⟩ rfl hna hl.1 rfl (lv_room hcat) hdg hcs⟩
  exact va_recv hK hH.1 hc hq
theorem y_rS (hF : yF x l g nL cc own ret rm) {y : MethodName} {cc2 : ByteArray} {nL2 na index : Nat} {ret2 : Option FieldType} {rm2 : Room} {As rest : List Value} {kk : Nat} {sch' : yS} {Post : Option Value → Nat → yM → Prop} (hM : yMet l g y cc2 nL2 ret2 rm2 As sch n σ sch' Post) (hdg : decode cc pc = .ok (.invokestatic index, 3)) (hw : Cond.methodLink own index y ∈ y_tb) (hcal : yCalS y cc2 nL2 ret2 na) (hna : As.length = na) (hrm : rm2.frames + 1 ≤ rm.frames ∧ 8 + (nL2 + 11) + rm2.locals ≤ rm.locals) (hcs : cells + rm2.cells ≤ rm.cells ∧ slots + rm2.slots ≤ rm.slots) (hcat : (rest.map fun v => v.category).sum ≤ 8) (hst : st = As.reverse ++ rest) : yRun x g nL sch n σ cells slots pc rm2.cells rm2.slots lv st rest sch' Post := by
  obtain ⟨p, l', e, R, s, m, args, below, meth, c⟩ := x
  obtain ⟨hl0, hRm, hx, hb, hml, hown, hts, hK, hZ, hbs, hlk, hrt, hNw⟩ := hF
  intro H locs ls hH hS hl
  subst hst
  subst hRm
  subst hl0
  obtain ⟨w1, w3, w4, hd⟩ := hcal
  exact ⟨_, va_runS (Ts := y_tb) (own := own) (As := As) (rest := rest) ⟨hx, hb, hml, hown, hts⟩ hM ⟨callB_of na hts (y_goodIn w3) rfl rfl rfl (hts _ w4) (hts _ hw) hd hrm, hts _ w1⟩ ⟨yPre_blind, fun U hU hW => ⟨rfl, by rw [hU]; exact hH, va_K.moved hW.alike hK, by rw [hU]; exact yZ.kept (yZ.moved hW.alike hZ) hbs (fun a h1 h2 => hS.2.1 a h1 h2), yNw.warm hW hNw⟩⟩ rfl hna hl.1 rfl (lv_room hcat) hdg hcs⟩
theorem y_rI (hF : yF x l g nL cc own ret rm) {y : MethodName} {cc2 : ByteArray} {nL2 na index : Nat}  {rm2 : Room} {As rest : List Value} {kk : Nat} {sch' : yS} {Post : Option Value → Nat → yM → Prop} (hM : yMet l g y cc2 nL2 none rm2 (yR g kk :: As) sch n σ sch' Post) (hdg : decode cc pc = .ok (.invokespecial index, 3)) (hw : Cond.methodLink own index y ∈ y_tb) (hcal : yCalI y cc2 nL2 na) (hna : As.length = na) (hrm : rm2.frames + 1 ≤ rm.frames ∧ 8 + (nL2 + 11) + rm2.locals ≤ rm.locals) (hcs : cells + rm2.cells ≤ rm.cells ∧ slots + rm2.slots ≤ rm.slots) (hcat : (rest.map fun v => v.category).sum ≤ 8) (hst : st = As.reverse ++ yR g kk :: rest) : yRun x g nL sch n σ cells slots pc rm2.cells rm2.slots lv st rest sch' Post := by
  obtain ⟨p, l', e, R, s, m, args, below, meth, c⟩ := x
  obtain ⟨hl0, hRm, hx, hb, hml, hown, hts, hK, hZ, hbs, hlk, hrt, hNw⟩ := hF
  intro H locs ls hH hS hl
  subst hst
  subst hRm
  subst hl0
  obtain ⟨w1, w3, w4, hyn, hd⟩ := hcal
  exact ⟨_, va_runI (Ts := y_tb) (own := own) (b := g.1 + kk) (As := As) (rest := rest) ⟨hx, hb, hml, hown, hts⟩ hM ⟨callB_of na hts (y_goodIn w3) rfl rfl rfl (hts _ w4) (hts _ hw) hd hrm, hyn, hts _ w1⟩ ⟨yPre_blind, fun U hU hW => ⟨rfl, by rw [hU]; exact hH, va_K.moved hW.alike hK, by rw [hU]; exact yZ.kept (yZ.moved hW.alike hZ) hbs (fun a h1 h2 => hS.2.1 a h1 h2), yNw.warm hW hNw⟩⟩ rfl hna hl.1 rfl (lv_room hcat) hdg hcs⟩
theorem y_rIN (hF : yF x l g nL cc own ret rm) {y : MethodName} {cc2 : ByteArray} {nL2 na index : Nat}  {rm2 : Room} {As rest : List Value} {kk : Nat} {sch' : yS} {Post : Option Value → Nat → yM → Prop} (hM : yMet l g y cc2 nL2 none rm2 (yR g kk :: As) sch n σ sch' Post) (hdg : decode cc pc = .ok (.invokespecial index, 3)) {host : String} (hw : Cond.methodLinkNest own index y host ∈ y_nw) (hcal : yCalI y cc2 nL2 na) (hna : As.length = na) (hrm : rm2.frames + 1 ≤ rm.frames ∧ 8 + (nL2 + 11) + rm2.locals ≤ rm.locals) (hcs : cells + rm2.cells ≤ rm.cells ∧ slots + rm2.slots ≤ rm.slots) (hcat : (rest.map fun v => v.category).sum ≤ 8) (hst : st = As.reverse ++ yR g kk :: rest) : yRun x g nL sch n σ cells slots pc rm2.cells rm2.slots lv st rest sch' Post := by
  obtain ⟨p, l', e, R, s, m, args, below, meth, c⟩ := x
  obtain ⟨hl0, hRm, hx, hb, hml, hown, hts, hK, hZ, hbs, hlk, hrt, hNw⟩ := hF
  intro H locs ls hH hS hl
  subst hst
  subst hRm
  subst hl0
  obtain ⟨w1, w3, w4, hyn, hd⟩ := hcal
  exact ⟨_, va_runIN (Ts := y_tb) (own := own) (host := host) (b := g.1 + kk) (As := As) (rest := rest) ⟨hx, hb, hml, hown, hts⟩ hM ⟨va_cnB na hts (y_goodIn w3) rfl rfl rfl (hNw _ hw) (hts _ w4) hd hrm, hyn, hts _ w1⟩ ⟨yPre_blind, fun U hU hW => ⟨rfl, by rw [hU]; exact hH, va_K.moved hW.alike hK, by rw [hU]; exact yZ.kept (yZ.moved hW.alike hZ) hbs (fun a h1 h2 => hS.2.1 a h1 h2), yNw.warm hW hNw⟩⟩ rfl hna hl.1 rfl (lv_room hcat) hdg hcs⟩
theorem y_mmin (hF : yF x l g nL cc own ret rm) {index : Nat} {a b : Int} (hdg : decode cc pc = .ok (.invokestatic index, 3)) (hw : Cond.methodLink own index Lib.Math.min.name ∈ y_tb) (h1 : Cond.static Lib.Math.min.name ∈ y_tb) (h2 : Cond.initialized "java/lang/Math" ∈ y_tb) (h3 : Cond.code Lib.Math.min.name Lib.Math.min.code 2 (some .int) ∈ y_tb) (hfr : 1 ≤ rm.frames) (hlo : (st.map fun v => v.category).sum + 13 ≤ rm.locals) (hcs : cells ≤ rm.cells ∧ slots ≤ rm.slots) (ha : -2147483648 ≤ a ∧ a < 2147483648) (hb2 : -2147483648 ≤ b ∧ b < 2147483648) (k : yV x g nL Q sch n σ cells slots (pc + 3) lv (yI (min a b) :: st)) : yV x g nL Q sch n σ cells slots pc lv (yI b :: yI a :: st) := by
  obtain ⟨p, l', e, R, s, m, args, below, meth, c⟩ := x
  obtain ⟨hl0, hRm, hx, hb, hml, hown, hts, hK, hZ, hbs, hlk, hrt, hNw⟩ := hF
  intro H locs ls hH hS hl
  subst hRm
  refine va_mmin hx hb (hml.trans hl.1.symm) hown (hts _ hw) (hts _ h1) (hts _ h2) (hts _ h3) hfr hlo hcs.1 hcs.2 hdg ?_
  have hv : (if Int32.ofInt b < Int32.ofInt a then Int32.ofInt b else Int32.ofInt a) = Int32.ofInt (min a b) := by
    by_cases h : b < a
    · rw [if_pos ((y_lt hb2 ha).mpr h), Int.min_def, if_neg (by omega)]
    · rw [if_neg (fun q => h ((y_lt hb2 ha).mp q)), Int.min_def, if_pos (by omega)]
  rw [hv]
  exact k H locs ls hH hS hl
theorem y_mmax (hF : yF x l g nL cc own ret rm) {index : Nat} {a b : Int} (hdg : decode cc pc = .ok (.invokestatic index, 3)) (hw : Cond.methodLink own index Lib.Math.max.name ∈ y_tb) (h1 : Cond.static Lib.Math.max.name ∈ y_tb) (h2 : Cond.initialized "java/lang/Math" ∈ y_tb) (h3 : Cond.code Lib.Math.max.name Lib.Math.max.code 2 (some .int) ∈ y_tb) (hfr : 1 ≤ rm.frames) (hlo : (st.map fun v => v.category).sum + 13 ≤ rm.locals) (hcs : cells ≤ rm.cells ∧ slots ≤ rm.slots) (ha : -2147483648 ≤ a ∧ a < 2147483648) (hb2 : -2147483648 ≤ b ∧ b < 2147483648) (k : yV x g nL Q sch n σ cells slots (pc + 3) lv (yI (max a b) :: st)) : yV x g nL Q sch n σ cells slots pc lv (yI b :: yI a :: st) := by
  obtain ⟨p, l', e, R, s, m, args, below, meth, c⟩ := x
  obtain ⟨hl0, hRm, hx, hb, hml, hown, hts, hK, hZ, hbs, hlk, hrt, hNw⟩ := hF
  intro H locs ls hH hS hl
  subst hRm
  refine va_mmax hx hb (hml.trans hl.1.symm) hown (hts _ hw) (hts _ h1) (hts _ h2) (hts _ h3) hfr hlo hcs.1 hcs.2 hdg ?_
  have hv : (if Int32.ofInt a < Int32.ofInt b then Int32.ofInt b else Int32.ofInt a) = Int32.ofInt (max a b) := by
    by_cases h : a < b
    · rw [if_pos ((y_lt ha hb2).mpr h), Int.max_def, if_pos (by omega)]
    · rw [if_neg (fun q => h ((y_lt ha hb2).mp q)), Int.max_def]
      by_cases h2 : a ≤ b
      · rw [if_pos h2, show a = b by omega]
      · rw [if_neg h2]
  rw [hv]
  exact k H locs ls hH hS hl
theorem y_mabs (hF : yF x l g nL cc own ret rm) {index : Nat} {a : Int} (hdg : decode cc pc = .ok (.invokestatic index, 3)) (hw : Cond.methodLink own index Lib.Math.abs.name ∈ y_tb) (h1 : Cond.static Lib.Math.abs.name ∈ y_tb) (h2 : Cond.initialized "java/lang/Math" ∈ y_tb) (h3 : Cond.code Lib.Math.abs.name Lib.Math.abs.code 1 (some .int) ∈ y_tb) (hfr : 1 ≤ rm.frames) (hlo : (st.map fun v => v.category).sum + 13 ≤ rm.locals) (hcs : cells ≤ rm.cells ∧ slots ≤ rm.slots) (ha : -2147483648 ≤ a ∧ a < 2147483648) (k : yV x g nL Q sch n σ cells slots (pc + 3) lv (yI ((a.natAbs : Nat) : Int) :: st)) : yV x g nL Q sch n σ cells slots pc lv (yI a :: st) := by
  obtain ⟨p, l', e, R, s, m, args, below, meth, c⟩ := x
  obtain ⟨hl0, hRm, hx, hb, hml, hown, hts, hK, hZ, hbs, hlk, hrt, hNw⟩ := hF
  intro H locs ls hH hS hl
  subst hRm
  refine va_mabs hx hb (hml.trans hl.1.symm) hown (hts _ hw) (hts _ h1) (hts _ h2) (hts _ h3) hfr hlo hcs.1 hcs.2 hdg ?_
  have hv : (if 0 ≤ Int32.ofInt a then Int32.ofInt a else 0 - Int32.ofInt a) = Int32.ofInt ((a.natAbs : Nat) : Int) := by
    rw [y_zero]
    by_cases h : 0 ≤ a
    · rw [if_pos ((y_le (a := 0) (by omega) ha).mpr h), show ((a.natAbs : Nat) : Int) = a by omega]
    · rw [if_neg (fun q => h ((y_le (a := 0) (by omega) ha).mp q)), ← Int32.ofInt_sub, show ((a.natAbs : Nat) : Int) = 0 - a by omega]
  rw [hv]
  exact k H locs ls hH hS hl
end YR3
