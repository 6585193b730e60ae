/-! shifts with the sign; a byte put -/
theorem y_sshr {a : Int} (ha : -2147483648 ≤ a ∧ a < 2147483648) {s : Int} (hs : s = 0 ∨ s = 8 ∨ s = 16 ∨ s = 24) : Int32.ofInt a >>> (Int32.ofInt s &&& 31) = Int32.ofInt (a / 2 ^ s.toNat) := by
  have e1 : (Int32.ofInt a).toInt = a := Int32.toInt_ofInt_of_le (by omega) (by omega)
  have hd : ∀ q : Nat, -2147483648 ≤ a / 2 ^ q ∧ a / 2 ^ q < 2147483648 := fun q => by
    have hp : (0 : Int) < 2 ^ q := Int.pow_pos (by decide)
    constructor
    · rw [Int.le_ediv_iff_mul_le hp]
      have : (1 : Int) ≤ 2 ^ q := by omega
      have h2 : (2147483648 : Int) * 1 ≤ 2147483648 * 2 ^ q := Int.mul_le_mul_of_nonneg_left this (by decide)
      omega
    · rw [Int.ediv_lt_iff_lt_mul hp]
      have : (1 : Int) ≤ 2 ^ q := by omega
      have h2 : (2147483648 : Int) * 1 ≤ 2147483648 * 2 ^ q := Int.mul_le_mul_of_nonneg_left this (by decide)
      omega
  have key : ∀ (q : Nat) (b : Int32), (b.toBitVec.smod 32).toNat = q → Int32.ofInt a >>> b = Int32.ofInt (a / 2 ^ q) := fun q b hb => by
    apply Int32.toInt_inj.mp
    rw [Int32.toInt_ofInt_of_le (by have := hd q; omega) (by have := hd q; omega)]
    show ((Int32.ofInt a).toBitVec.sshiftRight (b.toBitVec.smod 32).toNat).toInt = _
    rw [hb, BitVec.toInt_sshiftRight, Int.shiftRight_eq_div_pow]
    show (Int32.ofInt a).toInt / _ = _
    rw [e1]
    simp
  rcases hs with rfl | rfl | rfl | rfl
  · exact key 0 _ (by decide)
  · exact key 8 _ (by decide)
  · exact key 16 _ (by decide)
  · exact key 24 _ (by decide)
section YR9
variable {x : yC} {l : Launch} {g : yG} {nL : Nat} {cc : ByteArray} {own : String} {ret : Option FieldType} {rm : Room} {Q : State → Prop} {sch : yS} {n : Nat} {σ : yM} {cells slots pc : Nat} {lv : List (Nat × Value)} {st : List Value}
theorem y_ishr (hF : yF x l g nL cc own ret rm) (hdg : decode cc pc = .ok (.ishr, 1)) {a s : Int} (ha : -2147483648 ≤ a ∧ a < 2147483648) (hs : s = 0 ∨ s = 8 ∨ s = 16 ∨ s = 24) (k : yV x g nL Q sch n σ cells slots (pc + 1) lv (yI (a / 2 ^ s.toNat) :: st)) : yV x g nL Q sch n σ cells slots pc lv (yI s :: yI a :: st) := by
  obtain ⟨p, l', e, R, s', m, args, below, meth, c⟩ := x
  obtain ⟨hl0, hRm, hx, hb, hml, hown, hts, hK, hZ, hbs, hlk, hrt, hNw⟩ := hF
  intro H locs ls hH hS hl
  refine lv_ishr hx hb hdg ?_
  rw [y_sshr ha hs]
  exact k H locs ls hH hS hl
theorem y_bastore (hF : yF x l g nL cc own ret rm) (hdg : decode cc pc = .ok (.bastore, 1)) {kk len : Nat} {i v : Int} (hk : kk < n) (hs : sch kk = some (kB g len)) (hi : 0 ≤ i ∧ i < len) (hlen : len < 2147483648) (hv : -128 ≤ v ∧ v ≤ 127) (k : yV x g nL Q sch n (yset σ kk i v) cells slots (pc + 1) lv st) : yV x g nL Q sch n σ cells slots pc lv (yI v :: yI i :: yR g kk :: st) := by
  obtain ⟨p, l', e, R, s, m, args, below, meth, c⟩ := x
  obtain ⟨hl0, hRm, hx, hb, hml, hown, hts, hK, hZ, hbs, hlk, hrt, hNw⟩ := hF
  intro H locs ls hH hS hl
  obtain ⟨q0, hq⟩ := y_at (g := g) (σ := σ) hk hs
  obtain ⟨h1, h2⟩ := y_nat hi hlen
  have hset := y_wset (σ' := yset σ kk i v) (e := kB g len (yset σ kk i v kk)) hH.2.1 hk hs hq rfl (fun k' h => yset_n h)
  refine W.bast hx hb (hH.1 q0 _ hq) ((hK.2 1 _ rfl).1 len (fun j => .int (Int32.ofInt (σ kk (j : Int))))) (fun q => by cases q) (by show ¬ (_ < (0 : Int32) ∨ (arrV _ _ _).slots.size ≤ _); rw [arrV_size]; exact h1) rfl rfl hdg fun H1 e z oq => ?_
  have hP1 := hH.1.set (e := kB g len (yset σ kk i v kk)) hH.2.1 hq (by
    show H1[g.1 + kk]? = some (vp_cell _ _)
    rw [e]
    rw [vp_cell_i, vp_cell_i, arrV_store]
    congr 2
    funext q
    by_cases hq2 : q = (Int32.ofInt i).toNatClampNeg
    · subst hq2
      simp [updV, h2, yset, narrow]
      simpa using y_nar8 hv
    · have : ¬ (q : Int) = i := fun h => hq2 (by omega)
      simp [updV, hq2, yset, this]) oq
  have hD1 := hH.2.1.set (e := kB g len (yset σ kk i v kk)) hq
  rw [hset] at hP1 hD1
  exact k H1 _ ls ⟨hP1, hD1, z.trans hH.2.2⟩ (hS.put z oq (hH.2.1.2 q0 _ hq)) hl
end YR9
