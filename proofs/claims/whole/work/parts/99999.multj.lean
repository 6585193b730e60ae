theorem ymT_old (s : State) (c comp : ClassId) (M : Nat) {a : Addr} (ha : a < s.heap.size) : ∀ i : Nat, (ymT s c comp M i).heap[a]? = s.heap[a]?
  | 0 => State.heap_pushCell_of_lt _ _ ha
  | i + 1 => by
    have h1 := (ymT_is s c comp M i).1
    have hlt : a < (ymT s c comp M i).heap.size := Nat.lt_of_lt_of_le ha (by rw [h1]; omega)
    show (((ymT s c comp M i).pushCell (ymI comp M)).setCell s.heap.size _).heap[a]? = _
    rw [State.heap_setCell_other (Nat.ne_of_gt ha), State.heap_pushCell_of_lt (h := hlt)]
    exact ymT_old s c comp M ha i
theorem ymT_in (s : State) (c comp : ClassId) (M : Nat) : ∀ i j : Nat, j < i → (ymT s c comp M i).heap[s.heap.size + 1 + j]? = some (ymI comp M)
  | 0, j, h => by omega
  | i + 1, j, h => by
    have h1 := (ymT_is s c comp M i).1
    show (((ymT s c comp M i).pushCell (ymI comp M)).setCell s.heap.size _).heap[s.heap.size + 1 + j]? = _
    rw [State.heap_setCell_other (show s.heap.size ≠ s.heap.size + 1 + j by omega)]
    rcases Decidable.em (j = i) with e | e
    · rw [e, ← h1]
      exact State.heap_pushCell_size _ _
    · have hlt : s.heap.size + 1 + j < (ymT s c comp M i).heap.size := by rw [h1]; omega
      rw [State.heap_pushCell_of_lt (h := hlt)]
      exact ymT_in s c comp M i j (by omega)
section YMW
variable {p : Program} {l : Launch} {e : Env} {R : Room} {s : State} {m : MethodId} {args : Array Value} {below : List Frame} {meth : Method} {c : Code} {H : Heap} {locs : List Loc} {cells slots : Nat} {Q : State → Prop}
theorem ym_st {T : State} {cA comp : ClassId} {M : Nat} (X : Stand p l e R s m args below meth c T locs cells slots) : ∀ i : Nat, ∃ L : List Loc, (∀ q ∈ L, q.base = T.heap.size) ∧ Stand p l e R s m args below meth c (ymT T cA comp M i) (locs ++ L) (cells + 1 + i) (slots + 3 + i * M)
  | 0 => ⟨[], fun q h => (by cases h), by
      have h := X.pushed (ymO cA T.heap.size 0)
      rw [List.append_nil, Nat.zero_mul]
      exact h⟩
  | i + 1 => by
    obtain ⟨L, h1, h2⟩ := ym_st (cA := cA) (comp := comp) (M := M) X i
    obtain ⟨g1, g2, -, -⟩ := ymT_is T cA comp M i
    have hlt : T.heap.size < (ymT T cA comp M i).heap.size := by rw [g1]; omega
    have hb : ((ymT T cA comp M i).pushCell (ymI comp M)).heap[T.heap.size]? = some (ymO cA T.heap.size i) := by rw [State.heap_pushCell_of_lt (h := hlt)]; exact g2
    have h3 := (h2.pushed (ymI comp M)).stored hb i (.ref (T.heap.size + 1 + i))
    refine ⟨L ++ [⟨T.heap.size, i⟩], fun q hq => ?_, ?_⟩
    · rcases List.mem_append.mp hq with q1 | q1
      · exact h1 q q1
      · rw [List.mem_singleton.mp q1]
    · rw [← List.append_assoc, show cells + 1 + (i + 1) = cells + 1 + i + 1 by omega, show slots + 3 + (i + 1) * M = slots + 3 + i * M + (ymI comp M).slots.size by simp [ymI, Nat.succ_mul]; omega]
      exact h3
theorem ym_cold {E : CtlPost} {d : Bool} {acts : List Action} {T : State} {f : JFrame} {Q : Unit → Pre} {index k cA : Nat} {vm' : Vm} (hs : T.topJava?.isSome) (hg : (Jvm.resolveClass f.method.cls index).Gives e.toSetting T.vm (.ok cA) vm') (hr : vm'.classReady f.method.cls index cA) (hsz : vm'.classes.size ≤ T.vm.classes.size := by no_record) : wp (multianewarray.sem index k) Q E e d acts (T.setTop f) ↔ wp (multianewarray.sem index k) Q E e d acts ((T.setVm vm').setTop f) := by
  simp only [multianewarray.sem, wp_bind']
  exact W.resolveClassAt_transfer (s := T.setTop f) (State.method?_setTop f hs) hg hr
theorem yw_multi {cc : ByteArray} (hexec : p.tables.exec = Jvm.exec) (hb : c.code = cc) {own : String} {index : Nat} (hown : s.vm.findClass own = some m.cls) (hclink : (Cond.classLink own index "[[I").before args s = true) (hover : (Cond.arrayOver (.array .int)).before args s = true) {cI c0 : ClassId} {kI : Class} (hfI : s.vm.findClass "[I" = some cI) (hkI : s.vm.classes[cI]? = some kI) (hkindI : kI.kind = .array c0 .int) {g : JFrame} (hg : g.method = m) (hdg : decode cc g.pc = .ok (.multianewarray index 2, 4)) {n : Int32} {rest : List Value} (hstack : g.stack = .int n :: .int 3 :: rest) (hn : ¬ n < 0) (hM : n.toNatClampNeg ≤ 100000) (hcells : cells + 4 ≤ R.cells) (hslots : slots + 3 + 3 * n.toNatClampNeg ≤ R.slots)
    (kk : ∀ (H' : Heap) (L : List Loc) (cA : ClassId), s.vm.findClass "[[I" = some cA → H'.size = H.size + 4 → H'[H.size]? = some (ymO cA H.size 3) → (∀ j, j < 3 → H'[H.size + 1 + j]? = some (ymI cI n.toNatClampNeg)) → (∀ q, q < H.size → H'[q]? = H[q]?) → (∀ q ∈ L, q.base = H.size) → W p l e R s m args below meth c H' (locs ++ L) (cells + 4) (slots + 3 + 3 * n.toNatClampNeg) Q { g with pc := g.pc + 4, stack := .ref H.size :: rest }) : W p l e R s m args below meth c H locs cells slots Q g := by
  intro T hT X
  subst hT; subst hb; subst hg
  have hpl : e.platform.magicAccessors = ({} : Platform).magicAccessors := by rw [X.admits.platform]
  obtain ⟨comp, cA, kA, hcomp, hidx, hkA, hkindA, hnameA⟩ := arrayOverA_spec hover
  have hc1 : comp = cI := Option.some.inj (hcomp.symm.trans hfI)
  subst hc1
  obtain ⟨cc', hfcc, hcl⟩ := Cond.classLink_spec hown hclink e.platform hpl
  have hc2 : cc' = cA := Option.some.inj (hfcc.symm.trans hnameA)
  subst hc2
  obtain ⟨hg₁, hwarm₁, hready₁⟩ := State.classEntry (e := e) X.warmed hcl
  generalize T.vm.noted g.method.cls index (.cls cc') = vm₁ at hg₁ hwarm₁ hready₁
  have hal : s.vm.Alike vm₁ := hwarm₁.alike
  obtain ⟨kI₁, hkI₁, heI⟩ := hal.2.2 _ _ hkI
  obtain ⟨kA₁, hkA₁, heA⟩ := hal.2.2 _ _ hkA
  have hkindA₁ : kA₁.kind = .array comp (.array .int) := by rw [heA]; exact hkindA
  have hkindI₁ : kI₁.kind = .array c0 .int := by rw [heI]; exact hkindI
  have X₁ := X.noted hwarm₁
  obtain ⟨L, hL, X₄⟩ := ym_st (cA := cc') (comp := comp) (M := n.toNatClampNeg) X₁ 3
  obtain ⟨f1, f2, f3, f4⟩ := ymT_is (T.setVm vm₁) cc' comp n.toNatClampNeg 3
  have hr := X.roomAbove (show cells + 4 ≤ R.cells from hcells) (show slots + (3 + 3 * n.toNatClampNeg) ≤ R.slots by omega)
  obtain ⟨t', a1, b1⟩ := kk (ymT (T.setVm vm₁) cc' comp n.toNatClampNeg 3).heap L cc' hfcc f1 f2 (fun j hj => ymT_in _ _ _ _ 3 j hj) (fun q hq => ymT_old (T.setVm vm₁) cc' comp n.toNatClampNeg hq 3) hL (ymT (T.setVm vm₁) cc' comp n.toNatClampNeg 3) rfl (by rw [show cells + 4 = cells + 1 + 3 by omega]; exact X₄)
  refine ⟨t', ?_, b1⟩
  jvm_step X.here [hexec, hdg, ym_cold (e := e) (T := T) (f := g) X.here.top hg₁ hready₁]
  have hlim : e.platform.arrayLengthLimit = _ := Launch.admits_arrayLengthLimit X.admits
  have hmax : e.platform.maxHeapBytes = 536870912 := Launch.admits_maxHeapBytes X.admits
  refine ym_sem (s := T.setVm vm₁) (k := kA₁) (kc := kI₁) X.here.top hready₁ hkA₁ hkindA₁ hkI₁ hkindI₁ hstack hn (by rw [hlim]; omega) (by rw [hmax]; omega) (by rw [hlim]; omega) (by rw [hmax]; omega) (by show T.heap.size + 3 < _; omega) (by show T.slotsUsed + 3 + _ ≤ _; omega) (fun d2 a2 acts => ?_)
  have htj := ymT_tj (T.setVm vm₁) cc' comp n.toNatClampNeg X.here.top 3
  show Steps p.tables e below (((ymT (T.setVm vm₁) cc' comp n.toNatClampNeg 3).setTop { g with stack := .ref (T.setVm vm₁).heap.size :: rest }).modifyTopJava _) t'
  rw [State.modifyTopJava_setTop]
  exact a1
end YMW
/-- that there is a class of rows of rows -/
def va_A2 (U : State) : Prop := (Cond.arrayOver (.array .int)).before #[] U = true
section YMX
variable {x : yC} {l : Launch} {g : yG} {nL : Nat} {cc : ByteArray} {own : String} {ret : Option FieldType} {rm : Room} {Q : State → Prop} {sch : yS} {n : Nat} {σ : yM} {cells slots pc : Nat} {lv : List (Nat × Value)} {st : List Value}
def kL2 (g : yG) (n : Nat) : (Int → Int) → va_E := fun _ => .inl (g.2.2.1 4, 3, .inr (.inr (.inr (.inr (fun j => some (g.1 + (n + 1 + j)))))))
theorem ymO_vp (g : yG) (n : Nat) : ymO (g.2.2.1 4) (g.1 + n) 3 = vp_cell (g.2.2.1 4) (3, .inr (.inr (.inr (.inr (fun j => some (g.1 + (n + 1 + j))))))) := by
  rw [vp_cell_q]
  rfl
theorem y_multi (hF : yF x l g nL cc own ret rm) (hA2 : va_A2 x.2.2.2.2.1) {index : Nat} {len : Nat} {sch' : yS} (hdg : decode cc pc = .ok (.multianewarray index 2, 4)) (hcl : Cond.classLink own index "[[I" ∈ y_tb) (hlen : len < 100000) (hc : cells + 4 ≤ rm.cells ∧ slots + 3 + 3 * len ≤ rm.slots) (hs0 : sch' n = some (kL2 g n)) (hs1 : ∀ j, j < 3 → sch' (n + 1 + j) = some (kI g len)) (ho : ∀ (k : Nat) (f : (Int → Int) → va_E), k < n → sch' k = some f → sch k = some f) (k : yV x g nL Q sch' (n + 4) (ynew (ynew (ynew (ynew σ n (fun _ => 0)) (n + 1) (fun _ => 0)) (n + 2) (fun _ => 0)) (n + 3) (fun _ => 0)) (cells + 4) (slots + 3 + 3 * len) (pc + 4) lv (yR g n :: st)) : yV x g nL Q sch n σ cells slots pc lv (yI (len : Int) :: yI 3 :: st) := by
  obtain ⟨p, l', e, R, s, m, args, below, meth, c⟩ := x
  obtain ⟨hl0, hRm, hx, hb, hml, hown, hts, hK, hZ, hbs, hlk, hrt, hNw⟩ := hF
  intro H locs ls hH hS hl
  subst hRm
  have e0 : (Int32.ofInt (len : Int)).toNatClampNeg = len := by
    rw [Int32.toNatClampNeg_ofInt_of_le (by omega) (by omega)]
    exact Int.toNat_natCast len
  have hsz := hH.2.2
  obtain ⟨-, kcI, hkI, c0, hkindI⟩ := (hK.2 0 _ rfl).1 0 (fun _ => .null)
  refine yw_multi hx hb hown (hts _ hcl) hA2 (hK.2 0 _ rfl).2 hkI hkindI rfl hdg rfl (fun q => ?_) (by rw [e0]; omega) hc.1 (by rw [e0]; exact hc.2) fun H1 L cA hfA z1 e1 e2 o1 hL => ?_
  · have := (y_lt (a := (len : Int)) (b := 0) (by omega) (by omega)).mp q
    omega
  · have hcA : cA = g.2.2.1 4 := Option.some.inj (hfA.symm.trans (hK.2 4 _ rfl).2)
    subst hcA
    rw [e0] at e2 ⊢
    rw [hsz]
    refine k H1 _ ls (y_ofcells (fun j f hj hs => ?_) (by rw [z1, hsz]; omega)) ⟨Nat.le_trans hS.1 (by rw [z1]; omega), fun q h1 h2 => (o1 q (Nat.lt_of_lt_of_le h1 hS.1)).trans (hS.2.1 q h1 h2), fun q hq => ?_⟩ hl
    · rcases Decidable.em (j < n) with q | q
      · have := y_cells hH q (ho j f q hs)
        rw [ynew_n (by omega), ynew_n (by omega), ynew_n (by omega), ynew_n (by omega)]
        exact this.kept (o1 _ (by omega))
      · rcases Decidable.em (j = n) with q2 | q2
        · subst q2
          have hf : f = kL2 g j := Option.some.inj (hs.symm.trans hs0)
          subst hf
          show H1[g.1 + j]? = some (vp_cell _ _)
          rw [← hsz, e1, hsz, ymO_vp]
        · obtain ⟨i, hi⟩ : ∃ i, j = n + 1 + i := ⟨j - (n + 1), by omega⟩
          subst hi
          have hf : f = kI g len := Option.some.inj (hs.symm.trans (hs1 i (by omega)))
          subst hf
          show H1[g.1 + (n + 1 + i)]? = some (vp_cell _ _)
          rw [show g.1 + (n + 1 + i) = H.size + 1 + i by omega, e2 i (by omega)]
          have hz : (ynew (ynew (ynew (ynew σ n (fun _ => 0)) (n + 1) (fun _ => 0)) (n + 2) (fun _ => 0)) (n + 3) (fun _ => 0)) (n + 1 + i) = fun _ => 0 := by
            rcases (show i = 0 ∨ i = 1 ∨ i = 2 by omega) with r | r | r
            · subst r
              rw [ynew_n (by omega), ynew_n (by omega)]
              exact ynew_s _ _ _
            · subst r
              rw [ynew_n (by omega)]
              exact ynew_s _ _ _
            · subst r
              exact ynew_s _ _ _
          rw [hz]
          rw [vp_cell_i, ymI, ← arrV_new]
          rfl
    · rcases List.mem_append.mp hq with r | r
      · exact hS.2.2 q r
      · show g.1 ≤ q.base
        rw [hL q r, hsz]
        omega
end YMX
