section YR6
variable {x : yC} {l : Launch} {g : yG} {nL : Nat} {cc : ByteArray} {own : String} {ret : Option FieldType} {rm : Room} {Q : State → Prop} {sch : yS} {n : Nat} {σ : yM} {cells slots pc : Nat} {lv : List (Nat × Value)} {st : List Value}
/-- any row's length -/
theorem y_alenA (hF : yF x l g nL cc own ret rm) (hdg : decode cc pc = .ok (.arraylength, 1)) {kk len t0 : Nat} {f : (Int → Int) → va_E} {cA : ClassId} {ty : FieldType} {rf : _} (hk : kk < n) (hs : sch kk = some f) (hf : f (σ kk) = .inl (cA, len, rf)) (ht : (y_tys g)[t0]? = some (cA, ty)) (k : yV x g nL Q sch n σ cells slots (pc + 1) lv (yI len :: st)) : yV x g nL Q sch n σ cells slots pc lv (yR g kk :: st) := by
  obtain ⟨p, l', e, R, s, m, args, below, meth, c⟩ := x
  obtain ⟨hl0, hRm, hx, hb, hml, hown, hts, hK, hZ, hbs, hlk, hrt, hNw⟩ := hF
  intro H locs ls hH hS hl
  obtain ⟨q0, hq⟩ := y_at (g := g) (σ := σ) hk hs
  rw [hf] at hq
  exact va_alen hx hb hK hH.1 q0 t0 hq ht Int32.ofInt_eq_ofNat.symm hdg (k H locs ls hH hS hl)
theorem y_alenR (hF : yF x l g nL cc own ret rm) (hdg : decode cc pc = .ok (.arraylength, 1)) (hk : 14 < n) (hs : sch 14 = some (kRng g)) (k : yV x g nL Q sch n σ cells slots (pc + 1) lv (yI 11 :: st)) : yV x g nL Q sch n σ cells slots pc lv (yR g 14 :: st) := y_alenA (t0 := 3) (len := 11) hF hdg hk hs rfl rfl k
/-- a number as an int has it -/
def wr (v : Int) : Int := (Int32.ofInt v).toInt
theorem wr_r (v : Int) : -2147483648 ≤ wr v ∧ wr v < 2147483648 := by
  have h1 := Int32.le_toInt (Int32.ofInt v)
  have h2 := Int32.toInt_lt (Int32.ofInt v)
  unfold wr
  omega
theorem wr_of {v : Int} (h : -2147483648 ≤ v ∧ v < 2147483648) : wr v = v := y_toInt h
theorem yI_wr (v : Int) : yI (wr v) = yI v := by
  unfold yI wr
  rw [Int32.ofInt_toInt]
end YR6
