/-! rows of rows: what `multianewarray` makes -/
section YMU
variable {E : CtlPost} {e : Env} {d : Bool} {acts : List Action} {s : State}
theorem ym_new {c comp : ClassId} {k : Class} {type : FieldType} {len : Nat} {v : Value} {Q : Addr → Pre} (hk : s.vm.classes[c]? = some k) (hkind : k.kind = .array comp type) (hfit : fits type v = true) (hdef : v.isDefault = true) (hl : ¬ len > e.platform.arrayLengthLimit) (hb : ¬ len * componentBytes type > e.platform.maxHeapBytes) (h1 : s.heap.size < e.platform.maxCells) (h2 : s.slotsUsed + len ≤ e.platform.maxSlots) (hq : Q s.heap.size d acts (s.pushCell { cls := c, slots := Array.replicate len v, vm := .none })) : wp (Jvm.newArray c len v) Q E e d acts s := by
  have ha : allocActs (Array.replicate len v) s.heap.size acts = acts := by
    unfold allocActs
    rw [if_pos]
    rw [Array.all_replicate]
    split <;> simp [hdef]
  simp only [Jvm.newArray, Jvm.arrayFits, wp_bind', W.ask, W.ite, hl, if_false, wp_pure', W.theClass, hk, hkind, hb, W.alloc, W.stop, Option.some.injEq, exists_eq_left', Array.size_replicate, ha]
  rw [if_neg (by omega)]
  refine ⟨h1, h2, fun i w hw => ?_, hq⟩
  rw [Array.getElem?_replicate] at hw
  split at hw
  · cases hw
    simp [State.fitsSlot, State.slotType?, hk, hkind, hfit]
  · cases hw
theorem ym_in {comp c0 : ClassId} {kc : Class} {Q : Addr → Pre} {m : Int32} (hk : s.vm.classes[comp]? = some kc) (hkind : kc.kind = .array c0 .int) (hm : ¬ m < 0) (hl : ¬ m.toNatClampNeg > e.platform.arrayLengthLimit) (hb : ¬ m.toNatClampNeg * 4 > e.platform.maxHeapBytes) (h1 : s.heap.size < e.platform.maxCells) (h2 : s.slotsUsed + m.toNatClampNeg ≤ e.platform.maxSlots) (hq : Q s.heap.size d acts (s.pushCell { cls := comp, slots := Array.replicate m.toNatClampNeg (.int 0), vm := .none })) : wp (multianewarray.make comp [m]) Q E e d acts s := by
  rw [multianewarray.make]
  simp only [wp_bind', W.ite, hm, if_false, wp_pure', W.theClass, hk, hkind, Option.some.injEq, exists_eq_left']
  exact ym_new hk hkind rfl rfl hl hb h1 h2 hq
end YMU
/-- the outer row with its first i places laid, and the state behind i rounds -/
def ymO (c : ClassId) (h : Nat) : Nat → Cell
  | 0 => { cls := c, slots := Array.replicate 3 .null, vm := .none }
  | i + 1 => (ymO c h i).setSlot i (.ref (h + 1 + i))
def ymI (comp : ClassId) (M : Nat) : Cell := { cls := comp, slots := Array.replicate M (.int 0), vm := .none }
def ymT (s : State) (c comp : ClassId) (M : Nat) : Nat → State
  | 0 => s.pushCell (ymO c s.heap.size 0)
  | i + 1 => ((ymT s c comp M i).pushCell (ymI comp M)).setCell s.heap.size (ymO c s.heap.size (i + 1))
theorem ymO_is (c : ClassId) (h : Nat) : ∀ i : Nat, (ymO c h i).cls = c ∧ (ymO c h i).vm = .none ∧ (ymO c h i).slots.size = 3
  | 0 => ⟨rfl, rfl, rfl⟩
  | i + 1 => by
    have ih := ymO_is c h i
    refine ⟨ih.1, ih.2.1, ?_⟩
    show ((ymO c h i).setSlot i _).slots.size = 3
    simp [Cell.setSlot, ih.2.2]
theorem ymT_is (s : State) (c comp : ClassId) (M : Nat) : ∀ i : Nat, (ymT s c comp M i).heap.size = s.heap.size + 1 + i ∧ (ymT s c comp M i).heap[s.heap.size]? = some (ymO c s.heap.size i) ∧ (ymT s c comp M i).vm = s.vm ∧ (ymT s c comp M i).slotsUsed = s.slotsUsed + 3 + i * M
  | 0 => ⟨by simp [ymT], by simp [ymT], rfl, by simp [ymT, ymO]⟩
  | i + 1 => by
    obtain ⟨h1, h2, h3, h4⟩ := ymT_is s c comp M i
    have hlt : s.heap.size < (ymT s c comp M i).heap.size := by omega
    have hb : ((ymT s c comp M i).pushCell (ymI comp M)).heap[s.heap.size]? = some (ymO c s.heap.size i) := by rw [State.heap_pushCell_of_lt (h := hlt)]; exact h2
    refine ⟨?_, State.heap_setCell_self hb, by simp [ymT, h3], ?_⟩
    · simp [ymT, State.setCell, h1]
      omega
    · simp [ymT, h4, ymI, Nat.succ_mul]
      omega
section YMV
variable {E : CtlPost} {e : Env} {d : Bool} {acts : List Action} {s : State}
theorem ym_mk {c comp c0 : ClassId} {k kc : Class} {m : Int32} {Q : Addr → Pre} (hk : s.vm.classes[c]? = some k) (hkind : k.kind = .array comp (.array .int)) (hkc : s.vm.classes[comp]? = some kc) (hkindc : kc.kind = .array c0 .int) (hm : ¬ m < 0) (hl0 : ¬ 3 > e.platform.arrayLengthLimit) (hb0 : ¬ 3 * 4 > e.platform.maxHeapBytes) (hl : ¬ m.toNatClampNeg > e.platform.arrayLengthLimit) (hb : ¬ m.toNatClampNeg * 4 > e.platform.maxHeapBytes) (h1 : s.heap.size + 3 < e.platform.maxCells) (h2 : s.slotsUsed + 3 + 3 * m.toNatClampNeg ≤ e.platform.maxSlots) (hq : ∀ d' acts', Q s.heap.size d' acts' (ymT s c comp m.toNatClampNeg 3)) : wp (multianewarray.make c [3, m]) Q E e d acts s := by
  have hn : ¬ (3 : Int32) < 0 := by decide
  have h3 : (3 : Int32).toNatClampNeg = 3 := by decide
  have hfind : ([m].find? (· < 0)) = none := by simp [hm]
  have hfit : ∀ (i j : Nat) (v : Nat), (ymT s c comp m.toNatClampNeg i).vm = s.vm → ((ymT s c comp m.toNatClampNeg i).pushCell (ymI comp m.toNatClampNeg)).fitsSlot (ymO c s.heap.size i).cls (ymO c s.heap.size i).vm j (.ref v) = true := by
    intro i j v hv
    rw [(ymO_is c s.heap.size i).1, (ymO_is c s.heap.size i).2.1]
    simp [State.fitsSlot, State.slotType?, hv, hk, hkind]
    rfl
  have f0 := ymT_is s c comp m.toNatClampNeg 0
  have f1 := ymT_is s c comp m.toNatClampNeg 1
  have f2 := ymT_is s c comp m.toNatClampNeg 2
  have rd : ∀ (i : Nat) (hi : i < 3) (d' : Bool) (acts' : List Action) (Q' : Addr → Pre), (∀ d2 acts2, Q' (s.heap.size + 1 + i) d2 acts2 ((ymT s c comp m.toNatClampNeg i).pushCell (ymI comp m.toNatClampNeg))) → wp (multianewarray.make comp [m]) Q' E e d' acts' (ymT s c comp m.toNatClampNeg i) := by
    intro i hi d' acts' Q' hQ
    obtain ⟨g1, g2, g3, g4⟩ := ymT_is s c comp m.toNatClampNeg i
    have hmul : i * m.toNatClampNeg + m.toNatClampNeg ≤ 3 * m.toNatClampNeg := by
      have := Nat.mul_le_mul_right m.toNatClampNeg (show i + 1 ≤ 3 by omega)
      rw [Nat.succ_mul] at this
      exact this
    refine ym_in (by rw [g3]; exact hkc) hkindc hm hl hb (by rw [g1]; omega) (by rw [g4]; omega) ?_
    rw [g1]
    exact hQ _ _
  have cl : ∀ i : Nat, ((ymT s c comp m.toNatClampNeg i).pushCell (ymI comp m.toNatClampNeg)).heap[s.heap.size]? = some (ymO c s.heap.size i) := fun i => by
    obtain ⟨g1, g2, -, -⟩ := ymT_is s c comp m.toNatClampNeg i
    have hlt : s.heap.size < (ymT s c comp m.toNatClampNeg i).heap.size := by rw [g1]; omega
    rw [State.heap_pushCell_of_lt (h := hlt)]
    exact g2
  rw [multianewarray.make]
  simp only [wp_bind', W.ite, hn, if_false, wp_pure', W.theClass, hk, hkind, Option.some.injEq, exists_eq_left', h3]
  refine ym_new hk hkind rfl rfl hl0 hb0 (by omega) (by omega) ?_
  simp only [hfind]
  rw [ite_self, wp_bind', Std.Legacy.Range.forIn_eq_forIn_range']
  show wp (forIn [0, 1, 2] PUnit.unit _) _ E e d acts (ymT s c comp m.toNatClampNeg 0)
  simp only [List.forIn_cons, List.forIn_nil, wp_bind', wp_pure']
  refine rd 0 (by omega) _ _ _ (fun d2 a2 => ?_)
  simp only [wp_bind', W.writeLoc, wp_pure']
  refine ⟨_, cl 0, by rw [(ymO_is c s.heap.size 0).2.1]; exact (fun h => nomatch h), by rw [(ymO_is c s.heap.size 0).2.2]; omega, hfit 0 _ _ f0.2.2.1, ?_⟩
  refine rd 1 (by omega) _ _ _ (fun d2 a2 => ?_)
  simp only [wp_bind', W.writeLoc, wp_pure']
  refine ⟨_, cl 1, by rw [(ymO_is c s.heap.size 1).2.1]; exact (fun h => nomatch h), by rw [(ymO_is c s.heap.size 1).2.2]; omega, hfit 1 _ _ f1.2.2.1, ?_⟩
  refine rd 2 (by omega) _ _ _ (fun d2 a2 => ?_)
  simp only [wp_bind', W.writeLoc, wp_pure']
  refine ⟨_, cl 2, by rw [(ymO_is c s.heap.size 2).2.1]; exact (fun h => nomatch h), by rw [(ymO_is c s.heap.size 2).2.2]; omega, hfit 2 _ _ f2.2.2.1, ?_⟩
  exact hq _ _
theorem ymT_top (s : State) (f : JFrame) (c comp : ClassId) (M : Nat) : ∀ i : Nat, ymT (s.setTop f) c comp M i = (ymT s c comp M i).setTop f
  | 0 => rfl
  | i + 1 => by simp only [ymT, ymT_top s f c comp M i, State.heap_setTop, State.pushCell_setTop, State.setCell_setTop]
theorem ymT_tj (s : State) (c comp : ClassId) (M : Nat) (hs : s.topJava?.isSome) : ∀ i : Nat, (ymT s c comp M i).topJava?.isSome
  | 0 => hs
  | i + 1 => ymT_tj s c comp M hs i
theorem ym_sem {index : Nat} {c comp c0 : ClassId} {k kc : Class} {m : Int32} {f : JFrame} {rest : List Value} {Q : Unit → Pre} (hs : s.topJava?.isSome) (hr : s.vm.classReady f.method.cls index c) (hk : s.vm.classes[c]? = some k) (hkind : k.kind = .array comp (.array .int)) (hkc : s.vm.classes[comp]? = some kc) (hkindc : kc.kind = .array c0 .int) (hst : f.stack = .int m :: .int 3 :: rest) (hm : ¬ m < 0) (hl0 : ¬ 3 > e.platform.arrayLengthLimit) (hb0 : ¬ 3 * 4 > e.platform.maxHeapBytes) (hl : ¬ m.toNatClampNeg > e.platform.arrayLengthLimit) (hb : ¬ m.toNatClampNeg * 4 > e.platform.maxHeapBytes) (h1 : s.heap.size + 3 < e.platform.maxCells) (h2 : s.slotsUsed + 3 + 3 * m.toNatClampNeg ≤ e.platform.maxSlots) (hq : ∀ d' acts', Q () d' acts' ((ymT s c comp m.toNatClampNeg 3).setTop { f with stack := .ref s.heap.size :: rest })) : wp (multianewarray.sem index 2) Q E e d acts (s.setTop f) := by
  simp only [multianewarray.sem, wp_bind', W.resolveClassAt_ready (State.method?_setTop f hs) hr]
  rw [W.popN]
  rw [if_neg (by decide)]
  refine ⟨f, State.topJava?_setTop' _ hs, [.int 3, .int m], rest, rfl, by rw [hst]; rfl, ?_⟩
  simp only [List.mapM_cons, List.mapM_nil, wp_bind', wp_pure', State.setTop_setTop]
  refine ym_mk (s := s.setTop { f with stack := rest }) hk hkind hkc hkindc hm hl0 hb0 hl hb h1 (by rw [State.slotsUsed_setTop]; exact h2) (fun d2 a2 => ?_)
  simp only [W.mark, W.pushRef, wp_bind', ymT_top, State.heap_setTop, State.topJava?_setTop' _ (ymT_tj s c comp m.toNatClampNeg hs 3), Option.some.injEq, exists_eq_left', State.setTop_setTop]
  exact hq _ _
end YMV
