/-! rows of constructors -/
theorem y_startC {l : Launch} {g : yG} {y : MethodName} {cc : ByteArray} {nL : Nat} {ret : Option FieldType} {rm : Room} {av : List Value} {sch : yS} {n : Nat} {σ : yM} {sch' : yS} {Post : Option Value → Nat → yM → Prop} (hy : plainName y.cls = true) (hfit : (lg_sl av).length ≤ nL) (hyn : y.name = "<init>")
    (body : ∀ x : yC, yF x l g nL cc y.cls ret rm → x.2.2.2.2.2.2.2.2.1.name = "<init>" → yV x g nL (yQ x g sch' Post rm) sch n σ 0 0 0 (lv_args 0 av) []) : yMet l g y cc nL ret rm av sch n σ sch' Post := by
  refine Met.ofW (cc := cc) (maxL := nL) (ret := ret) hy rfl ?_
  intro p e s m args below meth c s₁ B hml hv
  obtain ⟨rfl, hR, hK, hZ, hNw⟩ := hv
  have hts := atoms_spec (ws := .code y cc nL ret :: y_tb) B.pre
  have h := body (p, l, e, (headSpec (.code y cc nL ret :: y_tb) rm).room, s, m, av.toArray, below, meth, c) ⟨rfl, rfl, B.exec, B.bytes, hml, findClass_of_methodNamed B.named, fun w hw => hts w (List.mem_cons_of_mem _ hw), hK, hZ, by rw [hR.2.2]; omega, B.notSynchronized, B.returns, hNw⟩ ((name_of_methodNamed B.named B.method).1.trans hyn)
  rw [lg_entry_eq]
  exact h s.heap [] _ hR va_S.rf (lv_entry av hfit)
section YRC
variable {x : yC} {l : Launch} {g : yG} {nL : Nat} {cc : ByteArray} {own : String} {ret : Option FieldType} {rm : Room} {Q : State → Prop} {sch : yS} {n : Nat} {σ : yM} {cells slots pc : Nat} {lv : List (Nat × Value)} {st : List Value}
theorem y_newO (hF : yF x l g nL cc own ret rm) {C : String} {T : u_T} {N ci index : Nat} {fs : List Value} {sch' : yS} {f0 : (Int → Int) → va_E} {φ : Int → Int} (hdg : decode cc pc = .ok (.new index, 3)) (hin : ∀ w ∈ u_ws C T N, w ∈ y_tb) (ty : Nat → FieldType) (hty : ∀ k, k < N → parseFieldDescriptor (T k).2.2.1 = some (ty k)) (hcl : Cond.classLink own index C ∈ y_tb) (hinst : Cond.instantiable C N ∈ y_tb) (hini : Cond.initialized C ∈ y_tb) (hc : y_cls[ci]? = some (C, T, N)) (hfs : ∀ j, j < N → defaultValue (ty j) = vp_V fs j) (hroom : cells + 1 ≤ rm.cells ∧ slots + N ≤ rm.slots) (hs' : sch' n = some f0) (hf0 : f0 φ = .inr (ci, fs)) (ho : ∀ (k : Nat) (f : (Int → Int) → va_E), k < n → sch' k = some f → sch k = some f) (k : yV x g nL Q sch' (n + 1) (ynew σ n φ) (cells + 1) (slots + N) (pc + 3) lv (yR g n :: st)) : yV x g nL Q sch n σ cells slots pc lv st := by
  obtain ⟨p, l', e, R, s, m, args, below, meth, c⟩ := x
  obtain ⟨hl0, hRm, hx, hb, hml, hown, hts, hK, hZ, hbs, hlk, hrt, hNw⟩ := hF
  intro H locs ls hH hS hl
  subst hRm
  have hKn := hK.1 ci _ hc
  refine W.newcK hx hb hown (hts _ hcl) (hts _ hinst) (hts _ hini) rfl hdg hroom.1 hroom.2 hKn.2.1 hH.2.2 fun H1 kC hkC e1 z1 o1 => ?_
  refine k H1 locs ls (y_ofcells (fun j f hj hs => ?_) (by rw [z1]; omega)) ⟨Nat.le_trans hS.1 (by rw [z1, hH.2.2]; omega), fun q h1 h2 => (o1 q (by rw [← hH.2.2]; exact Nat.lt_of_lt_of_le h1 hS.1)).trans (hS.2.1 q h1 h2), hS.2.2⟩ hl
  by_cases hjn : j = n
  · subst hjn
    have hf : f = f0 := Option.some.inj (hs.symm.trans hs')
    subst hf
    rw [ynew_s, hf0]
    exact ⟨_, hc, (u_born ty hts hin hKn hkC e1 hty).to hfs⟩
  · have := y_cells hH (show j < n by omega) (ho j f (by omega) hs)
    rw [ynew_n hjn]
    exact this.kept (o1 _ (by omega))
theorem y_objI (hF : yF x l g nL cc own ret rm) {index : Nat} {v : Nat} (hdg : decode cc pc = .ok (.invokespecial index, 3)) (hw : Cond.methodLink own index Lib.objectInit ∈ y_tb) (hi : Cond.instanceMethod Lib.objectInit ∈ y_tb) (hc : Cond.code Lib.objectInit ⟨#[0xb1]⟩ 1 none ∈ y_tb) (hr : 1 ≤ rm.frames ∧ 20 ≤ rm.locals) (hcat : (st.map fun v => v.category).sum ≤ 8) (k : yV x g nL Q sch n σ cells slots (pc + 3) lv st) : yV x g nL Q sch n σ cells slots pc lv (.ref v :: st) := by
  obtain ⟨p, l', e, R, s, m, args, below, meth, c⟩ := x
  obtain ⟨hl0, hRm, hx, hb, hml, hown, hts, hK, hZ, hbs, hlk, hrt, hNw⟩ := hF
  intro H locs ls hH hS hl
  subst hRm
  refine W.objInit hx hb hown (hts _ hw) (hts _ hi) (hts _ hc) rfl (by rw [hml]; exact hl.1) rfl hdg hr.1 ?_ (k H locs ls hH hS hl)
  have := lv_room (m := m) (pc := pc) (ls := ls) (rest := (.ref v :: st)) hcat
  omega
end YRC
