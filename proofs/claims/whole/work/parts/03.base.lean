/-! THE LAYER OF NUMBERS: a memory of whole numbers (cell, slot), what each cell is by a schema, and a judgement over them -/
/-- base address; classes and slots; array classes; the static rows' addresses -/
abbrev yG : Type := Nat × va_G × (Nat → ClassId) × (Nat → Nat)
abbrev yS : Type := Nat → Option ((Int → Int) → va_E)
abbrev yM : Type := Nat → Int → Int
abbrev yC : Type := Program × Launch × Env × Room × State × MethodId × Array Value × List Frame × Method × Code
def yI (n : Int) : Value := .int (Int32.ofInt n)
def yJ (n : Int) : Value := .long (Int64.ofInt n)
def yR (g : yG) (k : Nat) : Value := .ref (g.1 + k)
def yA (g : yG) : Nat → Prop := fun q => g.1 ≤ q
def y_tys (g : yG) : List (ClassId × FieldType) := [(g.2.2.1 0, .int), (g.2.2.1 1, .byte), (g.2.2.1 2, .long), (g.2.2.1 3, .object "FilledHoles$Snapshot"), (g.2.2.1 4, .array .int)]
def y_tb : List Cond := lw_tbl.filter goodWord
/-- words that hold by a nest's host, a cast or a declaration: they are kept by laws of their own -/
def y_isN : Cond → Bool
  | .fieldLinkNest .. => true
  | .methodLinkNest .. => true
  | .castable .. => true
  | .declares .. => true
  | _ => false
def y_nw : List Cond := lw_tbl.filter y_isN
def yNw (U : State) : Prop := ∀ w ∈ y_nw, va_Nw w U
theorem yNw.warm {s U : State} (hW : s.WarmedH U.vm) (h : yNw s) : yNw U := by
  intro w hw
  have h0 := (List.mem_filter.mp hw).2
  have h1 := h w hw
  cases w <;> first | exact va_Nw.warmF hW h1 | exact va_Nw.warmM hW h1 | exact va_Nw.warmC hW h1 | exact va_Nw.warmD hW h1 | exact absurd h0 (by simp [y_isN])
theorem yNw.same {u U : State} (hv : u.vm = U.vm) (h : yNw u) : yNw U := by
  intro w hw
  have h0 := (List.mem_filter.mp hw).2
  have h1 := h w hw
  cases w <;> first | exact va_Nw.same rfl hv h1 | exact absurd h0 (by simp [y_isN])
theorem y_inN {w : Cond} (h : w ∈ lw_tbl) (hg : y_isN w = true) : w ∈ y_nw := List.mem_filter.mpr ⟨h, hg⟩
theorem y_in {w : Cond} (h : w ∈ lw_tbl) (hg : goodWord w = true) : w ∈ y_tb := List.mem_filter.mpr ⟨h, hg⟩
def yLA (g : yG) (sch : yS) (n : Nat) : List Nat := ((List.range n).filter (fun k => (sch k).isSome)).map (fun k => g.1 + k)
def yCF (g : yG) (sch : yS) (σ : yM) (a : Nat) : va_E := match sch (a - g.1) with
  | some f => f (σ (a - g.1))
  | none => .inr (0, [])
abbrev yW (g : yG) (sch : yS) (n : Nat) (σ : yM) : va_W := va_pl (yLA g sch n) (yCF g sch σ)
def yRep (g : yG) (sch : yS) (n : Nat) (σ : yM) (H : Heap) : Prop := va_P g.2.1 y_cls (yW g sch n σ) H ∧ va_D (yA g) (yW g sch n σ) ∧ H.size = g.1 + n
/-- the class's static rows: class, name, contents -/
def y_st : List (String × String × List Int) := [("FilledHoles", "STEP_X", [-1, 1, 0, 0]), ("FilledHoles", "STEP_Y", [0, 0, -1, 1]), ("FilledHoles$Settings", "LEAST", [1, 1, 0, 0, 0, 0, 0]), ("FilledHoles$Settings", "MOST", [3, 20, 1, 2, 3, 1, 1]), ("FilledHoles$Searcher", "X_BY_DX", [1, -1, -1, 1, 0, 0, 0, 0]), ("FilledHoles$Searcher", "X_BY_DY", [0, 0, 0, 0, 1, -1, -1, 1]), ("FilledHoles$Searcher", "Y_BY_DX", [0, 0, 0, 0, 1, 1, -1, -1]), ("FilledHoles$Searcher", "Y_BY_DY", [1, 1, -1, -1, 0, 0, 0, 0])]
def yZ (g : yG) (U : State) (H : Heap) : Prop := ∀ (i : Nat) (q : String × String × List Int), y_st[i]? = some q → va_Z q.1 q.2.1 "[I" (.ref (g.2.2.2 i)) (yA g) U H ∧ va_X (g.2.2.2 i) q.2.2.length (fun j => Int32.ofInt (q.2.2.getD j 0)) U H ∧ g.2.2.2 i < g.1
theorem yZ.moved {g : yG} {u U : State} {H : Heap} (hvm : u.vm.Alike U.vm) (h : yZ g u H) : yZ g U H := fun i q hq => ⟨va_Z.moved hvm (h i q hq).1, va_X.moved hvm (h i q hq).2.1, (h i q hq).2.2⟩
theorem yZ.kept {g : yG} {U : State} {H H1 : Heap} (h : yZ g U H) (hs : g.1 ≤ H.size) (hq : ∀ a : Nat, a < H.size → ¬ yA g a → H1[a]? = H[a]?) : yZ g U H1 := fun i q hi => ⟨va_Z.kept (h i q hi).1 hq, va_X.kept (h i q hi).2.1 (hq _ (Nat.lt_of_lt_of_le (h i q hi).2.2 hs) (Nat.not_le.mpr (h i q hi).2.2)), (h i q hi).2.2⟩
/-- a method's start -/
def yPre (g : yG) (sch : yS) (n : Nat) (σ : yM) : State → Prop := fun U => yRep g sch n σ U.heap ∧ va_K g.2.1 y_cls (y_tys g) U ∧ yZ g U U.heap ∧ yNw U
def yQc (g : yG) (sch : yS) (Post : Option Value → Nat → yM → Prop) : Array Value → State → Outcome → State → Prop := fun _ st oc t =>
  (∃ (r : Option Value) (n : Nat) (σ : yM), oc = .returned r ∧ Post r n σ ∧ yRep g sch n σ t.heap) ∧ va_F (yA g) st t
/-- a method's contract -/
def yMet (l : Launch) (g : yG) (y : MethodName) (cc : ByteArray) (nL : Nat) (ret : Option FieldType) (rm : Room) (av : List Value) (sch : yS) (n : Nat) (σ : yM) (sch' : yS) (Post : Option Value → Nat → yM → Prop) : Prop :=
  Met l y (.code y cc nL ret :: y_tb) rm (va_Pc av (yPre g sch n σ)) (yQc g sch' Post) rm.cells rm.slots (yA g)
/-- the fixed facts of a method's walk -/
def yF (x : yC) (l0 : Launch) (g : yG) (nL : Nat) (cc : ByteArray) (own : String) (ret : Option FieldType) (rm : Room) : Prop := match x with
  | (p, l, _, R, s, m, args, _, meth, c) => l = l0 ∧ R = rm ∧ p.tables.exec = Jvm.exec ∧ c.code = cc ∧ c.maxLocals = nL ∧ s.vm.findClass own = some m.cls ∧ (∀ w ∈ y_tb, w.before args s = true) ∧ va_K g.2.1 y_cls (y_tys g) s ∧ yZ g s s.heap ∧ g.1 ≤ s.heap.size ∧ meth.locks = false ∧ meth.sig.returnType = ret ∧ yNw s
/-- what a walk comes to -/
def yQ (x : yC) (g : yG) (sch' : yS) (Post : Option Value → Nat → yM → Prop) (rm : Room) : State → Prop := match x with
  | (_, _, _, _, s, _, args, below, _, _) => MQ below (yQc g sch' Post) args s rm.cells rm.slots (yA g)
def yV (x : yC) (g : yG) (nL : Nat) (Q : State → Prop) (sch : yS) (n : Nat) (σ : yM) (cells slots pc : Nat) (lv : List (Nat × Value)) (st : List Value) : Prop := match x with
  | (p, l, e, R, s, m, args, below, meth, c) => ∀ (H : Heap) (locs : List Loc) (ls : Array Slot), yRep g sch n σ H → va_S (yA g) s.heap H locs → lv_has ls nL lv → W p l e R s m args below meth c H locs cells slots Q (F0 m pc ls st)
theorem y_start {l : Launch} {g : yG} {y : MethodName} {cc : ByteArray} {nL : Nat} {ret : Option FieldType} {rm : Room} {av : List Value} {sch : yS} {n : Nat} {σ : yM} {sch' : yS} {Post : Option Value → Nat → yM → Prop} (hy : plainName y.cls = true) (hfit : (lg_sl av).length ≤ nL)
    (body : ∀ x : yC, yF x l g nL cc y.cls ret rm → yV x g nL (yQ x g sch' Post rm) sch n σ 0 0 0 (lv_args 0 av) []) : yMet l g y cc nL ret rm av sch n σ sch' Post := by
  refine Met.ofW (cc := cc) (maxL := nL) (ret := ret) hy rfl ?_
  intro p e s m args below meth c s₁ B hml hv
  obtain ⟨rfl, hR, hK, hZ, hNw⟩ := hv
  have hts := atoms_spec (ws := .code y cc nL ret :: y_tb) B.pre
  have h := body (p, l, e, (headSpec (.code y cc nL ret :: y_tb) rm).room, s, m, av.toArray, below, meth, c) ⟨rfl, rfl, B.exec, B.bytes, hml, findClass_of_methodNamed B.named, fun w hw => hts w (List.mem_cons_of_mem _ hw), hK, hZ, by rw [hR.2.2]; omega, B.notSynchronized, B.returns, hNw⟩
  rw [lg_entry_eq]
  exact h s.heap [] _ hR va_S.rf (lv_entry av hfit)
