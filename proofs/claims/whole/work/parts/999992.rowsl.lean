/-! rows of the law -/
theorem y_and31 {a : Int} : Int32.ofInt a &&& Int32.ofInt 31 = Int32.ofInt (a % 32) := by
  apply Int32.toBitVec_inj.mp
  apply BitVec.eq_of_toNat_eq
  show (BitVec.ofInt 32 a &&& BitVec.ofInt 32 31).toNat = (BitVec.ofInt 32 (a % 32)).toNat
  rw [BitVec.toNat_and, BitVec.toNat_ofInt, BitVec.toNat_ofInt, BitVec.toNat_ofInt, show ((31 : Int) % ((2 ^ 32 : Nat) : Int)).toNat = 2 ^ 5 - 1 by decide, Nat.and_two_pow_sub_one_eq_mod]
  omega
theorem ycmp_s (a : Int) : ycmp a a = 0 := by
  unfold ycmp
  rw [if_neg (by omega), if_pos rfl]
section YRL
variable {x : yC} {l : Launch} {g : yG} {nL : Nat} {cc : ByteArray} {own : String} {ret : Option FieldType} {hh : List (Nat × Nat × Nat × Nat)} {rm : Room} {Q : State → Prop} {sch : yS} {n : Nat} {σ : yM} {cells slots pc : Nat} {lv : List (Nat × Value)} {st : List Value}
theorem y_iand31 (hF : yF x l g nL cc own ret rm) (hdg : decode cc pc = .ok (.iand, 1)) {a : Int} (k : yV x g nL Q sch n σ cells slots (pc + 1) lv (yI (a % 32) :: st)) : yV x g nL Q sch n σ cells slots pc lv (yI 31 :: yI a :: st) := by
  obtain ⟨p, l', e, R, s', m, args, below, meth, c⟩ := x
  obtain ⟨hl0, hRm, hx, hb, hml, hown, hts, hK, hZ, hbs, hlk, hrt, hNw⟩ := hF
  intro H locs ls hH hS hl
  refine lv_iand hx hb hdg ?_
  rw [y_and31]
  exact k H locs ls hH hS hl
theorem y_i2lw (hF : yF x l g nL cc own ret rm) (hdg : decode cc pc = .ok (.i2l, 1)) {a : Int} (k : yV x g nL Q sch n σ cells slots (pc + 1) lv (yJ (wr a) :: st)) : yV x g nL Q sch n σ cells slots pc lv (yI a :: st) := by
  rw [← yI_wr a]
  exact y_i2l hF hdg (wr_r a) k
theorem y_icmp_same (hF : yF x l g nL cc own ret rm) {off : Int} (hdg : decode cc pc = .ok (.if_icmp .eq off, 3)) (tgt : Nat) (ht : (pc : Int) + off = (tgt : Int)) {a : Int} (kt : yV x g nL Q sch n σ cells slots tgt lv st) : yV x g nL Q sch n σ cells slots pc lv (yI a :: yI a :: st) := by
  rw [← yI_wr a]
  exact y_icmp_eq hF hdg tgt ht (wr_r a) (wr_r a) (fun _ => kt) (fun h => absurd rfl h)
theorem y_lcmp_same (hF : yF x l g nL cc own ret rm) (hdg : decode cc pc = .ok (.lcmp, 1)) {a : Int} (k : yV x g nL Q sch n σ cells slots (pc + 1) lv (yI 0 :: st)) : yV x g nL Q sch n σ cells slots pc lv (yJ a :: yJ a :: st) := by
  have e : yJ a = yJ ((Int64.ofInt a).toInt) := by
    unfold yJ
    rw [Int64.ofInt_toInt]
  have h1 := Int64.le_toInt (Int64.ofInt a)
  have h2 := Int64.toInt_lt (Int64.ofInt a)
  rw [e]
  refine y_lcmp hF hdg (by omega) (by omega) ?_
  rw [ycmp_s]
  exact k
/-- the script's length, and its elements -/
theorem y_scl (hF : yF x l g nL cc own ret rm) {b L : Nat} {xs : Nat → Int32} (hX : va_X b L xs x.2.2.2.2.1 x.2.2.2.2.1.heap) (hb0 : b < g.1) (hdg : decode cc pc = .ok (.arraylength, 1)) (k : yV x g nL Q sch n σ cells slots (pc + 1) lv (yI (L : Int) :: st)) : yV x g nL Q sch n σ cells slots pc lv (.ref b :: st) := by
  obtain ⟨p, l', e, R, s, m, args, below, meth, c⟩ := x
  obtain ⟨hl0, hRm, hx, hb, hml, hown, hts, hK, hZ, hbs, hlk, hrt, hNw⟩ := hF
  intro H locs ls hH hS hl
  refine va_slen hx hb hX (Nat.lt_of_lt_of_le hb0 hbs) (Nat.not_le.mpr hb0) hS hdg ?_
  first
    | exact k H locs ls hH hS hl
    | (rw [← Int32.ofInt_eq_ofNat]; exact k H locs ls hH hS hl)
theorem y_sci (hF : yF x l g nL cc own ret rm) {b L : Nat} {xs : Nat → Int32} (hX : va_X b L xs x.2.2.2.2.1 x.2.2.2.2.1.heap) (hb0 : b < g.1) (hdg : decode cc pc = .ok (.iaload, 1)) {i : Int} (hi : 0 ≤ i ∧ i < (L : Int)) (hlen : L < 2147483648) (k : yV x g nL Q sch n σ cells slots (pc + 1) lv (yI (xs i.toNat).toInt :: st)) : yV x g nL Q sch n σ cells slots pc lv (yI i :: .ref b :: st) := by
  obtain ⟨p, l', e, R, s, m, args, below, meth, c⟩ := x
  obtain ⟨hl0, hRm, hx, hb, hml, hown, hts, hK, hZ, hbs, hlk, hrt, hNw⟩ := hF
  intro H locs ls hH hS hl
  obtain ⟨h1, h2⟩ := y_nat hi hlen
  refine va_sld hx hb hX (Nat.lt_of_lt_of_le hb0 hbs) (Nat.not_le.mpr hb0) hS h1 hdg ?_
  have h3 : (Int32.ofInt i).toNatClampNeg = i.toNat := by omega
  rw [h3]
  have h4 := k H locs ls hH hS hl
  have h5 : yI (xs i.toNat).toInt = .int (xs i.toNat) := by
    unfold yI
    rw [Int32.ofInt_toInt]
  rw [h5] at h4
  exact h4
theorem y_wid {cells' slots' : Nat} (h1 : cells ≤ cells') (h2 : slots ≤ slots') (k : yV x g nL Q sch n σ cells' slots' pc lv st) : yV x g nL Q sch n σ cells slots pc lv st := by
  obtain ⟨p, l', e, R, s, m, args, below, meth, c⟩ := x
  intro H locs ls hH hS hl
  exact W.widen h1 h2 (k H locs ls hH hS hl)
/-- a static call of a method with handlers, out of the law -/
theorem y_rSL (hF : yF x l g nL cc own ret rm) (hTx : yTx g x.2.2.2.2.1 x.2.2.2.2.1.heap) (hTs : yTs x.2.2.2.2.1) {y : MethodName} {cc2 : ByteArray} {nL2 na index : Nat} {ret2 : Option FieldType} {rm2 : Room} {As rest : List Value} {sch' : yS} {Post : Option Value → Nat → yM → Prop} (hM : yMH l g y cc2 nL2 ret2 hh rm2 As sch n σ sch' Post) (hdg : decode cc pc = .ok (.invokestatic index, 3)) (hw : Cond.methodLink own index y ∈ y_tb) (w1 : Cond.static y ∈ y_tb) (w3 : Cond.codeWith y cc2 nL2 ret2 hh ∈ y_tb) (w4 : Cond.initialized y.cls ∈ y_tb) (hd : y.cls ≠ "java/lang/invoke/MethodHandle" ∧ y.cls ≠ "java/lang/invoke/VarHandle" ∧ (parseMethodDescriptor y.desc).map (fun d => d.parameters.length) = some na) (hna : As.length = na) (hrm : rm2.frames + 1 ≤ rm.frames ∧ 8 + (nL2 + 11) + rm2.locals ≤ rm.locals) (hcs : cells + rm2.cells ≤ rm.cells ∧ slots + rm2.slots ≤ rm.slots) (hcat : (rest.map fun v => v.category).sum ≤ 8) (hst : st = As.reverse ++ rest) : yRun x g nL sch n σ cells slots pc rm2.cells rm2.slots lv st rest sch' Post := by
  obtain ⟨p, l', e, R, s, m, args, below, meth, c⟩ := x
  obtain ⟨hl0, hRm, hx, hb, hml, hown, hts, hK, hZ, hbs, hlk, hrt, hNw⟩ := hF
  intro H locs ls hH hS hl
  subst hst
  subst hRm
  subst hl0
  exact ⟨_, vx_runSW (Ts := y_tb) (own := own) (As := As) (rest := rest) ⟨hx, hb, hml, hown, hts⟩ hM ⟨⟨rfl, rfl, hrm.1, hrm.2, pay_in hts (y_goodIn w3), List.mem_cons_self⟩, hts _ w3, hts _ w4, ⟨hd.1, hd.2.1⟩, fun sig h => by have h2 := hd.2.2; rw [h] at h2; exact (Option.some.inj h2).symm, hts _ hw, hts _ w1⟩ ⟨yPreX_blind, fun U hU hW => ⟨rfl, ⟨by rw [hU]; exact hH, va_K.moved hW.alike hK, by rw [hU]; exact yZ.kept (yZ.moved hW.alike hZ) hbs (fun a h1 h2 => hS.2.1 a h1 h2), yNw.warm hW hNw⟩, by rw [hU]; exact (yTx.moved hW.alike hTx).kept (fun a h1 h2 => hS.2.1 a h1 h2), yTs.warm hW hTs⟩⟩ rfl hna hl.1 rfl (lv_room hcat) hdg hcs⟩
end YRL
