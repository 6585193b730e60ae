/-! a number's bytes -/
theorem y_bv {a : Int} : (Int32.ofInt a).toBitVec = BitVec.ofInt 32 a := rfl
theorem y_ushr {a : Int} {s : Nat} (hs : s < 32) : ((Int32.ofInt a).toUInt32 >>> (UInt32.ofNat s)).toInt32 = Int32.ofInt (a % 4294967296 / 2 ^ s) := by
  apply Int32.toBitVec_inj.mp
  apply BitVec.eq_of_toNat_eq
  have h1 : (((Int32.ofInt a).toUInt32 >>> (UInt32.ofNat s)).toInt32).toBitVec.toNat = (a % 4294967296).toNat / 2 ^ s := by
    show ((Int32.ofInt a).toUInt32 >>> (UInt32.ofNat s)).toNat = _
    rw [UInt32.toNat_shiftRight]
    have e1 : (Int32.ofInt a).toUInt32.toNat = (a % 4294967296).toNat := by
      show (BitVec.ofInt 32 a).toNat = _
      rw [BitVec.toNat_ofInt]
      rfl
    have e2 : (UInt32.ofNat s).toNat % 32 = s := by
      rw [UInt32.toNat_ofNat']
      omega
    rw [e1, e2, Nat.shiftRight_eq_div_pow]
  have h2 : (Int32.ofInt (a % 4294967296 / 2 ^ s)).toBitVec.toNat = (a % 4294967296).toNat / 2 ^ s := by
    show (BitVec.ofInt 32 _).toNat = _
    rw [BitVec.toNat_ofInt]
    have h3 : a % 4294967296 / 2 ^ s = (((a % 4294967296).toNat / 2 ^ s : Nat) : Int) := by
      have : ((a % 4294967296).toNat : Int) = a % 4294967296 := by omega
      rw [Int.natCast_ediv, this]
      simp
    have h4 : (a % 4294967296).toNat / 2 ^ s ≤ (a % 4294967296).toNat := Nat.div_le_self _ _
    rw [h3]
    omega
  rw [h1, h2]
theorem y_and255 {a : Int} : Int32.ofInt a &&& Int32.ofInt 255 = Int32.ofInt (a % 256) := by
  apply Int32.toBitVec_inj.mp
  apply BitVec.eq_of_toNat_eq
  show (BitVec.ofInt 32 a &&& BitVec.ofInt 32 255).toNat = (BitVec.ofInt 32 (a % 256)).toNat
  rw [BitVec.toNat_and, BitVec.toNat_ofInt, BitVec.toNat_ofInt, BitVec.toNat_ofInt, show ((255 : Int) % ((2 ^ 32 : Nat) : Int)).toNat = 2 ^ 8 - 1 by decide, Nat.and_two_pow_sub_one_eq_mod]
  omega
section YR7
variable {x : yC} {l : Launch} {g : yG} {nL : Nat} {cc : ByteArray} {own : String} {ret : Option FieldType} {rm : Room} {Q : State → Prop} {sch : yS} {n : Nat} {σ : yM} {cells slots pc : Nat} {lv : List (Nat × Value)} {st : List Value}
theorem y_iushr (hF : yF x l g nL cc own ret rm) (hdg : decode cc pc = .ok (.iushr, 1)) {a s : Int} (hs : s = 0 ∨ s = 8 ∨ s = 16 ∨ s = 24) (k : yV x g nL Q sch n σ cells slots (pc + 1) lv (yI (a % 4294967296 / 2 ^ s.toNat) :: st)) : yV x g nL Q sch n σ cells slots pc lv (yI s :: yI a :: st) := by
  obtain ⟨p, l', e, R, s', m, args, below, meth, c⟩ := x
  obtain ⟨hl0, hRm, hx, hb, hml, hown, hts, hK, hZ, hbs, hlk, hrt, hNw⟩ := hF
  intro H locs ls hH hS hl
  refine lv_iushr hx hb hdg ?_ (k H locs ls hH hS hl)
  rw [← y_ushr (by omega)]
  rcases hs with rfl | rfl | rfl | rfl <;> rfl
theorem y_iand255 (hF : yF x l g nL cc own ret rm) (hdg : decode cc pc = .ok (.iand, 1)) {a : Int} (k : yV x g nL Q sch n σ cells slots (pc + 1) lv (yI (a % 256) :: st)) : yV x g nL Q sch n σ cells slots pc lv (yI 255 :: yI a :: st) := by
  obtain ⟨p, l', e, R, s', m, args, below, meth, c⟩ := x
  obtain ⟨hl0, hRm, hx, hb, hml, hown, hts, hK, hZ, hbs, hlk, hrt, hNw⟩ := hF
  intro H locs ls hH hS hl
  refine lv_iand hx hb hdg ?_
  rw [y_and255]
  exact k H locs ls hH hS hl
end YR7
