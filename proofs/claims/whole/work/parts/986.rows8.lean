/-! bytes with their sign -/
theorem y_nar8 {v : Int} (h : -128 ≤ v ∧ v ≤ 127) : (Int32.ofInt v).toInt8.toInt32 = Int32.ofInt v := by
  apply Int32.toInt_inj.mp
  have e1 : (Int32.ofInt v).toInt = v := Int32.toInt_ofInt_of_le (by omega) (by omega)
  rw [e1, Int8.toInt_toInt32, Int32.toInt_toInt8, e1]
  show Int.bmod v 256 = v
  rw [Int.bmod_def]
  split <;> omega
section YR8
variable {x : yC} {l : Launch} {g : yG} {nL : Nat} {cc : ByteArray} {own : String} {ret : Option FieldType} {rm : Room} {Q : State → Prop} {sch : yS} {n : Nat} {σ : yM} {cells slots pc : Nat} {lv : List (Nat × Value)} {st : List Value}
theorem y_i2b (hF : yF x l g nL cc own ret rm) (hdg : decode cc pc = .ok (.i2b, 1)) {a : Int} (ha : -2147483648 ≤ a ∧ a < 2147483648) (k : yV x g nL Q sch n σ cells slots (pc + 1) lv (yI (sb (a % 256)) :: st)) : yV x g nL Q sch n σ cells slots pc lv (yI a :: st) := by
  obtain ⟨p, l', e, R, s', m, args, below, meth, c⟩ := x
  obtain ⟨hl0, hRm, hx, hb, hml, hown, hts, hK, hZ, hbs, hlk, hrt, hNw⟩ := hF
  intro H locs ls hH hS hl
  refine lv_i2b hx hb hdg ?_ (k H locs ls hH hS hl)
  apply Int32.toInt_inj.mp
  have e1 : (Int32.ofInt a).toInt = a := Int32.toInt_ofInt_of_le (by omega) (by omega)
  have e2 : (Int32.ofInt (sb (a % 256))).toInt = sb (a % 256) := Int32.toInt_ofInt_of_le (by unfold sb; split <;> omega) (by unfold sb; split <;> omega)
  rw [e2, Int8.toInt_toInt32, Int32.toInt_toInt8, e1]
  show Int.bmod a 256 = _
  rw [Int.bmod_def]
  unfold sb
  split <;> split <;> omega
end YR8
