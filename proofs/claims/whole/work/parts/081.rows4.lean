/-! rows of references, statics, copies, shifts -/
def ys (j : Nat) (i : Int) : Int := (y_st.getD j ("", "", [])).2.2.getD i.toNat 0
/-- the first c places of row a into row b -/
def ycp (σ : yM) (a b : Nat) (c : Int) : yM := fun k => if k = b then (fun j => if 0 ≤ j ∧ j < c then σ a j else σ b j) else σ k
theorem y_copied (c0 c1 : ClassId) (f g : Nat → Int32) {n0 n1 : Nat} (sp dp n : Int32) (h4 : sp.toNatClampNeg + n.toNatClampNeg ≤ n0) : copied (vp_cell c0 (n0, .inl f)) (vp_cell c1 (n1, .inl g)) sp dp n = vp_cell c1 (n1, .inl (va_cpy f g sp.toNatClampNeg dp.toNatClampNeg n.toNatClampNeg)) := va_copied (fun z => .int z) c0 c1 f g h4
section YR4
variable {x : yC} {l : Launch} {g : yG} {nL : Nat} {cc : ByteArray} {own : String} {ret : Option FieldType} {rm : Room} {Q : State → Prop} {sch : yS} {n : Nat} {σ : yM} {cells slots pc : Nat} {lv : List (Nat × Value)} {st : List Value}
theorem y_aaload (hF : yF x l g nL cc own ret rm) (hdg : decode cc pc = .ok (.aaload, 1)) {kk len t0 tgt : Nat} {i : Int} {f : (Int → Int) → va_E} {cA : ClassId} {ty : FieldType} {rf : Nat → Option Nat} (hk : kk < n) (hs : sch kk = some f) (hf : f (σ kk) = .inl (cA, len, .inr (.inr (.inr (.inr rf))))) (ht : (y_tys g)[t0]? = some (cA, ty)) (hty : ty.isReference = true) (hi : 0 ≤ i ∧ i < len) (hlen : len < 2147483648) (hv : rf i.toNat = some (g.1 + tgt)) (k : yV x g nL Q sch n σ cells slots (pc + 1) lv (yR g tgt :: st)) : yV x g nL Q sch n σ cells slots pc lv (yI i :: yR g kk :: st) := by
  obtain ⟨p, l', e, R, s, m, args, below, meth, c⟩ := x
  obtain ⟨hl0, hRm, hx, hb, hml, hown, hts, hK, hZ, hbs, hlk, hrt, hNw⟩ := hF
  intro H locs ls hH hS hl
  obtain ⟨q0, hq⟩ := y_at (g := g) (σ := σ) hk hs
  rw [hf] at hq
  obtain ⟨h1, h2⟩ := y_nat hi hlen
  have hlt : (Int32.ofInt i).toNatClampNeg < len := by omega
  have h3 : (Int32.ofInt i).toNatClampNeg = i.toNat := by omega
  refine W.aald (v := .ref (g.1 + tgt)) (ty := ty) hx hb (hH.1 q0 _ hq) ((hK.2 t0 _ ht).1 len (fun j => va_rf (rf j))) hty (fun q => by cases q) (by show ¬ (_ < (0 : Int32) ∨ (arrV _ _ _).slots.size ≤ _); rw [arrV_size]; exact h1) (by show (arrV _ _ _).slots[_]? = _; rw [arrV_read _ _ hlt, h3, hv]; rfl) rfl rfl hdg (k H locs ls hH hS hl)
theorem y_aaM (hF : yF x l g nL cc own ret rm) (hdg : decode cc pc = .ok (.aaload, 1)) {z : Nat} (hn : 172 ≤ n) (hs : sch 157 = some (kLay g)) (hz : z < 3) (k : yV x g nL Q sch n σ cells slots (pc + 1) lv (yR g (158 + z) :: st)) : yV x g nL Q sch n σ cells slots pc lv (yI (z : Int) :: yR g 157 :: st) := y_aaload (t0 := 4) (f := kLay g) (ty := .array .int) (len := 3) hF hdg (by omega) hs rfl rfl rfl (by omega) (by decide) (by rw [Int.toNat_natCast]) k
theorem y_aaM0 (hF : yF x l g nL cc own ret rm) (hdg : decode cc pc = .ok (.aaload, 1)) (hn : 172 ≤ n) (hs : sch 157 = some (kLay g)) (k : yV x g nL Q sch n σ cells slots (pc + 1) lv (yR g 158 :: st)) : yV x g nL Q sch n σ cells slots pc lv (yI 0 :: yR g 157 :: st) := y_aaM (z := 0) hF hdg hn hs (by decide) k
theorem y_aaM1 (hF : yF x l g nL cc own ret rm) (hdg : decode cc pc = .ok (.aaload, 1)) {z : Nat} (hn : 172 ≤ n) (hs : sch 157 = some (kLay g)) (hz : z < 2) (k : yV x g nL Q sch n σ cells slots (pc + 1) lv (yR g (159 + z) :: st)) : yV x g nL Q sch n σ cells slots pc lv (yI ((z : Int) + 1) :: yR g 157 :: st) := by
  have h := y_aaM (z := z + 1) (Q := Q) (st := st) (σ := σ) hF hdg hn hs (by omega) (by rw [show 158 + (z + 1) = 159 + z by omega]; exact k)
  rw [show (((z + 1 : Nat)) : Int) = (z : Int) + 1 by omega] at h
  exact h
theorem y_aaR (hF : yF x l g nL cc own ret rm) (hdg : decode cc pc = .ok (.aaload, 1)) {i : Int} (hn : 172 ≤ n) (hs : sch 14 = some (kRng g)) (hi : 0 ≤ i ∧ i < 11) (k : yV x g nL Q sch n σ cells slots (pc + 1) lv (yR g (15 + 9 * i.toNat) :: st)) : yV x g nL Q sch n σ cells slots pc lv (yI i :: yR g 14 :: st) := y_aaload (t0 := 3) (f := kRng g) (ty := .object "FilledHoles$Snapshot") (len := 11) hF hdg (by omega) hs rfl rfl rfl hi (by decide) rfl k
theorem y_gets (hF : yF x l g nL cc own ret rm) {index : Nat} {host : String} {q : String × String × List Int} (hdg : decode cc pc = .ok (.getstatic index, 3)) (j : Nat) (hj : y_st[j]? = some q) (hw : Cond.fieldLink own index q.1 q.2.1 "[I" ∈ y_tb) (k : yV x g nL Q sch n σ cells slots (pc + 3) lv (.ref (g.2.2.2 j) :: st)) : yV x g nL Q sch n σ cells slots pc lv st := by
  obtain ⟨p, l', e, R, s, m, args, below, meth, c⟩ := x
  obtain ⟨hl0, hRm, hx, hb, hml, hown, hts, hK, hZ, hbs, hlk, hrt, hNw⟩ := hF
  intro H locs ls hH hS hl
  exact va_gets hx hb (hZ j q hj).1 hS hown (hts _ hw) (fun _ h => h) hdg (k H locs ls hH hS hl)
theorem y_getsN (hF : yF x l g nL cc own ret rm) {index : Nat} {host : String} {q : String × String × List Int} (hdg : decode cc pc = .ok (.getstatic index, 3)) (j : Nat) (hj : y_st[j]? = some q) (hw : Cond.fieldLinkNest own index q.1 q.2.1 "[I" host ∈ y_nw) (k : yV x g nL Q sch n σ cells slots (pc + 3) lv (.ref (g.2.2.2 j) :: st)) : yV x g nL Q sch n σ cells slots pc lv st := by
  obtain ⟨p, l', e, R, s, m, args, below, meth, c⟩ := x
  obtain ⟨hl0, hRm, hx, hb, hml, hown, hts, hK, hZ, hbs, hlk, hrt, hNw⟩ := hF
  intro H locs ls hH hS hl
  exact va_getsN hx hb (hZ j q hj).1 hS hown (va_Nw.use rfl (hNw _ hw)) (fun _ h => h) hdg (k H locs ls hH hS hl)
theorem y_sald (hF : yF x l g nL cc own ret rm) (hdg : decode cc pc = .ok (.iaload, 1)) (j : Nat) {q : String × String × List Int} (hj : y_st[j]? = some q) {i : Int} (hi : 0 ≤ i ∧ i < q.2.2.length) (hlen : q.2.2.length < 2147483648) (k : yV x g nL Q sch n σ cells slots (pc + 1) lv (yI (ys j i) :: st)) : yV x g nL Q sch n σ cells slots pc lv (yI i :: .ref (g.2.2.2 j) :: st) := by
  obtain ⟨p, l', e, R, s, m, args, below, meth, c⟩ := x
  obtain ⟨hl0, hRm, hx, hb, hml, hown, hts, hK, hZ, hbs, hlk, hrt, hNw⟩ := hF
  intro H locs ls hH hS hl
  obtain ⟨h1, h2⟩ := y_nat hi hlen
  obtain ⟨-, hX, hlt⟩ := hZ j q hj
  refine va_sld hx hb hX (Nat.lt_of_lt_of_le hlt hbs) (Nat.not_le.mpr hlt) hS h1 hdg ?_
  have h3 : (Int32.ofInt i).toNatClampNeg = i.toNat := by omega
  rw [h3, show q.2.2.getD i.toNat 0 = ys j i by unfold ys; simp [hj]]
  exact k H locs ls hH hS hl
theorem y_slen (hF : yF x l g nL cc own ret rm) (hdg : decode cc pc = .ok (.arraylength, 1)) (j : Nat) {q : String × String × List Int} (hj : y_st[j]? = some q) (k : yV x g nL Q sch n σ cells slots (pc + 1) lv (yI (q.2.2.length : Int) :: st)) : yV x g nL Q sch n σ cells slots pc lv (.ref (g.2.2.2 j) :: st) := by
  obtain ⟨p, l', e, R, s, m, args, below, meth, c⟩ := x
  obtain ⟨hl0, hRm, hx, hb, hml, hown, hts, hK, hZ, hbs, hlk, hrt, hNw⟩ := hF
  intro H locs ls hH hS hl
  obtain ⟨-, hX, hlt⟩ := hZ j q hj
  refine va_slen hx hb hX (Nat.lt_of_lt_of_le hlt hbs) (Nat.not_le.mpr hlt) hS hdg ?_
  first
    | exact k H locs ls hH hS hl
    | (rw [← Int32.ofInt_eq_ofNat]; exact k H locs ls hH hS hl)
theorem y_copy0 (hF : yF x l g nL cc own ret rm) {index a b la lb : Nat} {c0 : Int} (hdg : decode cc pc = .ok (.invokestatic index, 3)) (hw : Cond.methodLink own index arraycopyName ∈ y_tb) (h1w : Cond.native arraycopyName ∈ y_tb) (h2w : Cond.static arraycopyName ∈ y_tb) (h3w : Cond.initialized "java/lang/System" ∈ y_tb) (hka : a < n) (hsa : sch a = some (kI g la)) (hkb : b < n) (hsb : sch b = some (kI g lb)) (hc : 0 ≤ c0 ∧ c0 ≤ la ∧ c0 ≤ lb) (hlen : la < 2147483648 ∧ lb < 2147483648) (hfr : 1 ≤ rm.frames) (hlo : (st.map fun v => v.category).sum + (nativeFrameWords "java/lang/System" "arraycopy" 5 + 11) ≤ rm.locals) (k : yV x g nL Q sch n (ycp σ a b c0) cells slots (pc + 3) lv st) : yV x g nL Q sch n σ cells slots pc lv (yI c0 :: yI 0 :: yR g b :: yI 0 :: yR g a :: st) := by
  obtain ⟨p, l', e, R, s, m, args, below, meth, c⟩ := x
  obtain ⟨hl0, hRm, hx, hb, hml, hown, hts, hK, hZ, hbs, hlk, hrt, hNw⟩ := hF
  intro H locs ls hH hS hl
  subst hRm
  obtain ⟨q0, hq0⟩ := y_at (g := g) (σ := σ) hka hsa
  obtain ⟨q1, hq1⟩ := y_at (g := g) (σ := σ) hkb hsb
  have ec : (Int32.ofInt c0).toNatClampNeg = c0.toNat := Int32.toNatClampNeg_ofInt_of_le (by omega) (by omega)
  have hset := y_wset (σ' := ycp σ a b c0) (e := kI g lb (ycp σ a b c0 b)) hH.2.1 hkb hsb hq1 rfl (fun k' h => by simp [ycp, h])
  have hn0 : ¬ Int32.ofInt c0 < 0 := fun q => by
    have := (y_lt (b := 0) (by omega) (by omega)).mp (show Int32.ofInt c0 < Int32.ofInt 0 from q)
    omega
  intro T hT X
  have hc0 : H[g.1 + a]? = some (vp_cell _ (la, .inl _)) := hH.1 q0 _ hq0
  have hc1 : H[g.1 + b]? = some (vp_cell _ (lb, .inl _)) := hH.1 q1 _ hq1
  have z0 : (Int32.ofInt 0).toNatClampNeg = 0 := rfl
  obtain ⟨-, k0, hk0, cm0, hkk0⟩ := (hK.2 0 _ rfl).1 la (fun j => .int (Int32.ofInt (σ a (j : Int))))
  obtain ⟨-, k1, hk1, cm1, hkk1⟩ := (hK.2 0 _ rfl).1 lb (fun j => .int (Int32.ofInt (σ b (j : Int))))
  have eI : (Int32.ofInt c0).toInt = c0 := y_toInt (by omega)
  obtain ⟨vm', X', step⟩ := X.arraycopy hx hown (hts _ hw) (hts _ h1w) (hts _ h2w) (hts _ h3w) (src := g.1 + a) (dst := g.1 + b) (cs := vp_cell (g.2.2.1 0) (la, .inl (fun j => Int32.ofInt (σ a (j : Int))))) (cd := vp_cell (g.2.2.1 0) (lb, .inl (fun j => Int32.ofInt (σ b (j : Int))))) (srcPos := Int32.ofInt 0) (destPos := Int32.ofInt 0) (n := Int32.ofInt c0) (by rw [hT]; exact hc0) (by rw [hT]; exact hc1)
    (fun _ h => by cases h) (fun _ h => by cases h) (fun h => by cases h) (fun h => by cases h) hk0 hk1 hkk0 hkk1 (by simp [refKind]) (by decide) (by decide) hn0
    (by rw [eI]; show ¬ _ > ((arrV _ la (fun j => .int (Int32.ofInt (σ a (j : Int))))).slots.size : Int); rw [arrV_size]; show ¬ (0 + c0 > (la : Int)); omega)
    (by rw [eI]; show ¬ _ > ((arrV _ lb (fun j => .int (Int32.ofInt (σ b (j : Int))))).slots.size : Int); rw [arrV_size]; show ¬ (0 + c0 > (lb : Int)); omega)
    (fun vm₁ _ i hi => by
      have e : (vp_cell (g.2.2.1 0) (la, .inl (fun j => Int32.ofInt (σ a (j : Int))))).slots.getD ((Int32.ofInt 0).toNatClampNeg + i) .null = .int (Int32.ofInt (σ a (((Int32.ofInt 0).toNatClampNeg + i : Nat) : Int))) := by
        show (arrV _ la (fun j => .int (Int32.ofInt (σ a (j : Int))))).slots.getD _ _ = _
        rw [Array.getD_eq_getD_getElem?, arrV_read _ _ (by rw [z0]; omega)]
        rfl
      refine ⟨?_, ?_⟩
      · rw [e]
        rfl
      · rw [e]
        exact trivial)
    (g := F0 m pc ls (.int (Int32.ofInt c0) :: .int (Int32.ofInt 0) :: .ref (g.1 + b) :: .int (Int32.ofInt 0) :: .ref (g.1 + a) :: st)) rfl (by rw [hml]; exact hl.1) (rest := st) rfl (by rw [hb]; exact hdg) hfr (by show 2 * 0 + _ + _ ≤ _; omega)
  have e1 : copied (vp_cell (g.2.2.1 0) (la, .inl (fun j => Int32.ofInt (σ a (j : Int))))) (vp_cell (g.2.2.1 0) (lb, .inl (fun j => Int32.ofInt (σ b (j : Int))))) (Int32.ofInt 0) (Int32.ofInt 0) (Int32.ofInt c0) = vp_cell (g.2.2.1 0) (lb, .inl (va_cpy (fun j => Int32.ofInt (σ a (j : Int))) (fun j => Int32.ofInt (σ b (j : Int))) (Int32.ofInt 0).toNatClampNeg (Int32.ofInt 0).toNatClampNeg (Int32.ofInt c0).toNatClampNeg)) := y_copied _ _ _ _ _ _ _ (by rw [z0]; omega)
  rw [e1] at X' step
  have e2 : (va_cpy (fun j => Int32.ofInt (σ a (j : Int))) (fun j => Int32.ofInt (σ b (j : Int))) (Int32.ofInt 0).toNatClampNeg (Int32.ofInt 0).toNatClampNeg (Int32.ofInt c0).toNatClampNeg) = (fun j : Nat => Int32.ofInt (ycp σ a b c0 b (j : Int))) := by
    funext j
    unfold va_cpy ycp
    rw [z0, ec, if_pos rfl]
    by_cases hj : (j : Int) < c0
    · rw [if_pos ⟨Nat.zero_le _, by omega⟩, if_pos ⟨by omega, hj⟩]
      simp
    · rw [if_neg (by omega), if_neg (by omega)]
  rw [e2] at X' step
  have hl2 : g.1 + b < H.size := (Array.getElem?_eq_some_iff.mp hc1).1
  have hheap : ((T.setVm vm').setCell (g.1 + b) (vp_cell (g.2.2.1 0) (lb, .inl (fun j : Nat => Int32.ofInt (ycp σ a b c0 b (j : Int)))))).heap = H.setIfInBounds (g.1 + b) (vp_cell (g.2.2.1 0) (lb, .inl (fun j : Nat => Int32.ofInt (ycp σ a b c0 b (j : Int))))) := by rw [← hT]; rfl
  have oq : ∀ q : Nat, q ≠ g.1 + b → (H.setIfInBounds (g.1 + b) (vp_cell (g.2.2.1 0) (lb, .inl (fun j : Nat => Int32.ofInt (ycp σ a b c0 b (j : Int))))))[q]? = H[q]? := fun q hq => by simp [Array.getElem?_setIfInBounds, Ne.symm hq]
  have hP1 := hH.1.set (e := kI g lb (ycp σ a b c0 b)) hH.2.1 hq1 (show (H.setIfInBounds (g.1 + b) (vp_cell (g.2.2.1 0) (lb, .inl (fun j : Nat => Int32.ofInt (ycp σ a b c0 b (j : Int))))))[g.1 + b]? = some _ by simp [Array.getElem?_setIfInBounds, hl2]) oq
  have hD1 := hH.2.1.set (e := kI g lb (ycp σ a b c0 b)) hq1
  rw [hset] at hP1 hD1
  obtain ⟨t, a1, b1⟩ := k _ _ ls ⟨hP1, hD1, by simp; exact hH.2.2⟩ ⟨by simp; exact hS.1, fun q g1 g2 => by
      rw [oq q (fun e => g2 (by rw [e]; exact hH.2.1.2 q1 _ hq1))]
      exact hS.2.1 q g1 g2, fun q hq => by
      rcases List.mem_append.mp hq with h | h
      · exact hS.2.2 q h
      · obtain ⟨z, -, hz⟩ := List.mem_map.mp h
        rw [← hz]
        exact hH.2.1.2 q1 _ hq1⟩ hl _ hheap X'
  exact ⟨t, step t a1, b1⟩
def ycmp (a b : Int) : Int := if b < a then 1 else if a = b then 0 else -1
theorem ycmp_r {a b : Int} : -2147483648 ≤ ycmp a b ∧ ycmp a b < 2147483648 := by
  unfold ycmp
  split
  · decide
  · split <;> decide
theorem y_lcmp (hF : yF x l g nL cc own ret rm) (hdg : decode cc pc = .ok (.lcmp, 1)) {a b : Int} (ha : -9223372036854775808 ≤ a ∧ a < 9223372036854775808) (hb2 : -9223372036854775808 ≤ b ∧ b < 9223372036854775808) (k : yV x g nL Q sch n σ cells slots (pc + 1) lv (yI (ycmp a b) :: st)) : yV x g nL Q sch n σ cells slots pc lv (yJ b :: yJ a :: st) := by
  obtain ⟨p, l', e, R, s, m, args, below, meth, c⟩ := x
  obtain ⟨hl0, hRm, hx, hb, hml, hown, hts, hK, hZ, hbs, hlk, hrt, hNw⟩ := hF
  intro H locs ls hH hS hl
  refine W.lcmp hx hb hdg ?_
  have e : lg_cmp (Int64.ofInt a) (Int64.ofInt b) = Int32.ofInt (ycmp a b) := by
    have h1 : (Int64.ofInt a > Int64.ofInt b) ↔ b < a := by
      show Int64.ofInt b < Int64.ofInt a ↔ _
      rw [Int64.lt_iff_toInt_lt, y_toIntL ha, y_toIntL hb2]
    have h2 : (Int64.ofInt a = Int64.ofInt b) ↔ a = b := by rw [← Int64.toInt_inj, y_toIntL ha, y_toIntL hb2]
    unfold lg_cmp ycmp
    by_cases q1 : b < a
    · rw [if_pos (h1.mpr q1), if_pos q1]
      rfl
    · rw [if_neg (fun z => q1 (h1.mp z)), if_neg q1]
      by_cases q2 : a = b
      · rw [if_pos (h2.mpr q2), if_pos q2]
        rfl
      · rw [if_neg (fun z => q2 (h2.mp z)), if_neg q2]
        rfl
  rw [e]
  exact k H locs ls hH hS hl
theorem y_shl1 (hF : yF x l g nL cc own ret rm) (hdg : decode cc pc = .ok (.ishl, 1)) {t : Int} (ht : 0 ≤ t ∧ t ≤ 3) (k : yV x g nL Q sch n σ cells slots (pc + 1) lv (yI (2 ^ t.toNat) :: st)) : yV x g nL Q sch n σ cells slots pc lv (yI t :: yI 1 :: st) := by
  obtain ⟨p, l', e, R, s, m, args, below, meth, c⟩ := x
  obtain ⟨hl0, hRm, hx, hb, hml, hown, hts, hK, hZ, hbs, hlk, hrt, hNw⟩ := hF
  intro H locs ls hH hS hl
  refine lv_ishl hx hb hdg ?_
  have e : Int32.ofInt 1 <<< (Int32.ofInt t &&& 31) = Int32.ofInt (2 ^ t.toNat) := by
    rcases (show t = 0 ∨ t = 1 ∨ t = 2 ∨ t = 3 by omega) with rfl | rfl | rfl | rfl <;> decide
  rw [e]
  exact k H locs ls hH hS hl
theorem y_sub (ks : List Nat) {lv' : List (Nat × Value)} (hk : lv_pick lv' ks = lv) (k : yV x g nL Q sch n σ cells slots pc lv st) : yV x g nL Q sch n σ cells slots pc lv' st := by
  obtain ⟨p, l', e, R, s, m, args, below, meth, c⟩ := x
  intro H locs ls hH hS hl
  exact k H locs ls hH hS (lv_sub hl ks hk)
end YR4
theorem w_884 : Cond.code Lib.Math.abs.name Lib.Math.abs.code 1 (some .int) ∈ y_tb := y_in (mt_4 _ (List.mem_of_getElem? (i := 79) rfl)) rfl
theorem w_700 : Cond.code Lib.Math.min.name Lib.Math.min.code 2 (some .int) ∈ y_tb := y_in (mt_3 _ (List.mem_of_getElem? (i := 135) rfl)) rfl
theorem w_877 : Cond.code Lib.Math.max.name Lib.Math.max.code 2 (some .int) ∈ y_tb := y_in (mt_4 _ (List.mem_of_getElem? (i := 72) rfl)) rfl
theorem w_566 : Cond.native arraycopyName ∈ y_tb := y_in (mt_3 _ (List.mem_of_getElem? (i := 1) rfl)) rfl
theorem sc_lay {z : Nat} (hz : z < 3) (g : yG) : SC g (158 + z) = some (kI g 2273) := by
  rcases (show z = 0 ∨ z = 1 ∨ z = 2 by omega) with rfl | rfl | rfl <;> rfl
theorem sc_lay1 {z : Nat} (hz : z < 2) (g : yG) : SC g (159 + z) = some (kI g 2273) := by
  rcases (show z = 0 ∨ z = 1 by omega) with rfl | rfl <;> rfl
