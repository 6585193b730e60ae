section YRG
variable {x : yC} {l : Launch} {g : yG} {nL : Nat} {cc : ByteArray} {own : String} {ret : Option FieldType} {rm : Room} {Q : State → Prop} {sch : yS} {n : Nat} {σ : yM} {cells slots pc : Nat} {lv : List (Nat × Value)} {st : List Value}
theorem kRp_up (g : yG) {i : Nat} : (fun j => if j < i + 1 then some (g.1 + (15 + 9 * j)) else none) = va_up (fun j => if j < i then some (g.1 + (15 + 9 * j)) else none) i (some (g.1 + (15 + 9 * i))) := by
  funext j
  unfold va_up
  by_cases e : j = i
  · rw [if_pos e, if_pos (by omega), e]
  · rw [if_neg e]
    show (if j < i + 1 then some (g.1 + (15 + 9 * j)) else none) = if j < i then some (g.1 + (15 + 9 * j)) else none
    by_cases e2 : j < i
    · rw [if_pos e2, if_pos (by omega)]
    · rw [if_neg e2, if_neg (by omega)]
theorem y_aastS (hF : yF x l g nL cc own ret rm) {i : Nat} {fS : (Int → Int) → va_E} {fs : List Value} {sch' : yS} (hdg : decode cc pc = .ok (.aastore, 1)) (hk : 14 < n) (hs : sch 14 = some (kRp g i)) (hi : i < 11) (hk2 : 15 + 9 * i < n) (hs2 : sch (15 + 9 * i) = some fS) (hfS : fS (σ (15 + 9 * i)) = .inr (8, fs)) (hs' : sch' 14 = some (kRp g (i + 1))) (ho : ∀ k', k' ≠ 14 → sch' k' = sch k') (k : yV x g nL Q sch' n σ cells slots (pc + 1) lv st) : yV x g nL Q sch n σ cells slots pc lv (yR g (15 + 9 * i) :: yI (i : Int) :: yR g 14 :: st) := by
  obtain ⟨p, l', e, R, s, m, args, below, meth, c⟩ := x
  obtain ⟨hl0, hRm, hx, hb, hml, hown, hts, hK, hZ, hbs, hlk, hrt, hNw⟩ := hF
  intro H locs ls hH hS hl
  obtain ⟨q0, hq⟩ := y_at (g := g) (σ := σ) hk hs
  obtain ⟨q1, hq1⟩ := y_at (g := g) (σ := σ) hk2 hs2
  have hset := y_wset2 (e := .inl (g.2.2.1 3, 11, .inr (.inr (.inr (.inr (fun j => if j < i + 1 then some (g.1 + (15 + 9 * j)) else none)))))) (σ' := σ) (sch' := sch') hH.2.1 hk hs hs' hq rfl (fun k' h => ⟨rfl, ho k' h⟩)
  rw [hfS] at hq1
  obtain ⟨e0, e1⟩ := y_nat (i := (i : Int)) (len := 11) ⟨by omega, by omega⟩ (by decide)
  have hi2 : (Int32.ofInt (i : Int)).toNatClampNeg = i := by
    rw [Int32.toNatClampNeg_ofInt_of_le (by omega) (by omega)]
    exact Int.toNat_natCast i
  have hn0 : ¬ Int32.ofInt (i : Int) < 0 := fun q => by
    have := (y_lt (a := (i : Int)) (b := 0) (by omega) (by omega)).mp q
    omega
  have hc8 : y_cls[8]? = some (RX8, TX8, 2) := rfl
  obtain ⟨r', hr', cellV, g1, g2, g3, -⟩ := hH.1 q1 _ hq1
  have hcls := (hK.1 8 _ hc8).2
  obtain ⟨kA, comp, k1, k2, k3, -⟩ := (hK.2 3 _ rfl).2
  have hcomp : comp = g.2.1.1 8 := Option.some.inj (k3.symm.trans hcls.1)
  subst hcomp
  obtain ⟨kC, hkC, -⟩ := hcls.2
  refine W.aast hx hb (hH.1 q0 _ hq) (fun q h => by cases h) (fun h => by cases h) k1 k2 rfl hkC ⟨hn0, by show _ < (arrV _ _ _).slots.size; rw [arrV_size, hi2]; exact hi⟩ g1 (fun q h => by rw [g3] at h; cases h) (by rw [g2]; exact hkC) (by rw [g2]; exact va_assign hcls) rfl rfl hdg fun H1 ee z oq => ?_
  have hP1 := hH.1.set (e := .inl (g.2.2.1 3, 11, .inr (.inr (.inr (.inr (fun j => if j < i + 1 then some (g.1 + (15 + 9 * j)) else none)))))) hH.2.1 hq (by
    show H1[g.1 + 14]? = some (vp_cell _ _)
    rw [ee, kRp_up, hi2]
    show some ((vp_cell _ _).setSlot _ _) = _
    rw [vp_cell_q, vp_cell_q, arrV_store]
    congr 2
    funext q
    by_cases hqq : q = i
    · subst hqq
      simp [updV, va_up, va_rf]
    · simp [updV, va_up, hqq]) oq
  have hD1 := hH.2.1.set (e := .inl (g.2.2.1 3, 11, .inr (.inr (.inr (.inr (fun j => if j < i + 1 then some (g.1 + (15 + 9 * j)) else none)))))) hq
  rw [hset] at hP1 hD1
  exact k H1 _ ls ⟨hP1, hD1, z.trans hH.2.2⟩ (hS.put z oq (hH.2.1.2 q0 _ hq)) hl
theorem y_alenP (hF : yF x l g nL cc own ret rm) {i : Nat} (hdg : decode cc pc = .ok (.arraylength, 1)) (hk : 14 < n) (hs : sch 14 = some (kRp g i)) (k : yV x g nL Q sch n σ cells slots (pc + 1) lv (yI 11 :: st)) : yV x g nL Q sch n σ cells slots pc lv (yR g 14 :: st) := y_alenA (t0 := 3) (len := 11) hF hdg hk hs rfl rfl k
end YRG
theorem sX4_c {g : yG} {A B : yS} {n c : Nat} (h : A c = B c) : sX4 g A n c = sX4 g B n c := by
  unfold sX4 sadd
  simp only [h]
theorem sX2_c {g : yG} {A B : yS} {n c : Nat} (h : A c = B c) : sX2 g A n c = sX2 g B n c := by
  unfold sX2 sadd
  simp only [h]
theorem sX8_c {g : yG} {A B : yS} {n c : Nat} (h : A c = B c) : sX8 g A n c = sX8 g B n c := by
  unfold sX8
  rcases Decidable.em (c = n) with e | e
  · subst e
    rw [sadd_s, sadd_s]
  · rw [sadd_o e, sadd_o e]
    exact sX2_c (sX4_c h)
theorem sX8_lo {g : yG} {A : yS} {n c : Nat} (h : c < n) : sX8 g A n c = A c := by
  unfold sX8 sX2 sX4 sadd
  repeat rw [if_neg (by omega)]
/-- the ring's snapshots, one behind the other -/
def sRg (g : yG) (R : yS) : Nat → yS
  | 0 => R
  | i + 1 => sX8 g (sRg g R i) (15 + 9 * i)
def mRg (σ : yM) : Nat → yM
  | 0 => σ
  | i + 1 => mX8 (ynew (mRg σ i) (15 + 9 * i) (fun _ => 0)) (15 + 9 * i)
theorem sRg_c {g : yG} {A B : yS} {c : Nat} (h : A c = B c) : ∀ i : Nat, sRg g A i c = sRg g B i c
  | 0 => h
  | i + 1 => sX8_c (sRg_c h i)
theorem sRg_lo {g : yG} {A : yS} {c : Nat} (h : c < 15) : ∀ i : Nat, sRg g A i c = A c
  | 0 => rfl
  | i + 1 => (sX8_lo (by omega)).trans (sRg_lo h i)
/-- with the word that there is a class of rows of snapshots -/
def yPreA (g : yG) (sch : yS) (n : Nat) (σ : yM) : State → Prop := fun U => yPre g sch n σ U ∧ va_AO "FilledHoles$Snapshot" U
def yMetA (l : Launch) (g : yG) (y : MethodName) (cc : ByteArray) (nL : Nat) (ret : Option FieldType) (rm : Room) (av : List Value) (sch : yS) (n : Nat) (σ : yM) (sch' : yS) (Post : Option Value → Nat → yM → Prop) : Prop :=
  Met l y (.code y cc nL ret :: y_tb) rm (va_Pc av (yPreA g sch n σ)) (yQc g sch' Post) rm.cells rm.slots (yA g)
theorem yPreA_blind {g : yG} {sch : yS} {n : Nat} {σ : yM} {av : List Value} : FrameBlind (va_Pc av (yPreA g sch n σ)) := fun a U g' mk q => by
  obtain ⟨q0, ⟨qR, qK, qZ, qN⟩, qA⟩ := q
  exact ⟨q0, ⟨qR, va_K.moved (u := U) (U := U.calling g' mk a) (Vm.Alike.refl U.vm) qK, yZ.moved (u := U) (U := U.calling g' mk a) (Vm.Alike.refl U.vm) qZ, yNw.same (u := U) rfl qN⟩, va_AO.moved (u := U) (U := U.calling g' mk a) (Vm.Alike.refl U.vm) qA⟩
theorem y_startA {l : Launch} {g : yG} {y : MethodName} {cc : ByteArray} {nL : Nat} {ret : Option FieldType} {rm : Room} {av : List Value} {sch : yS} {n : Nat} {σ : yM} {sch' : yS} {Post : Option Value → Nat → yM → Prop} (hy : plainName y.cls = true) (hfit : (lg_sl av).length ≤ nL) (hyn : y.name = "<init>")
    (body : ∀ x : yC, yF x l g nL cc y.cls ret rm → x.2.2.2.2.2.2.2.2.1.name = "<init>" → va_AO "FilledHoles$Snapshot" x.2.2.2.2.1 → yV x g nL (yQ x g sch' Post rm) sch n σ 0 0 0 (lv_args 0 av) []) : yMetA l g y cc nL ret rm av sch n σ sch' Post := by
  refine Met.ofW (cc := cc) (maxL := nL) (ret := ret) hy rfl ?_
  intro p e s m args below meth c s₁ B hml hv
  obtain ⟨rfl, ⟨hR, hK, hZ, hNw⟩, hAO⟩ := hv
  have hts := atoms_spec (ws := .code y cc nL ret :: y_tb) B.pre
  have h := body (p, l, e, (headSpec (.code y cc nL ret :: y_tb) rm).room, s, m, av.toArray, below, meth, c) ⟨rfl, rfl, B.exec, B.bytes, hml, findClass_of_methodNamed B.named, fun w hw => hts w (List.mem_cons_of_mem _ hw), hK, hZ, by rw [hR.2.2]; omega, B.notSynchronized, B.returns, hNw⟩ ((name_of_methodNamed B.named B.method).1.trans hyn) hAO
  rw [lg_entry_eq]
  exact h s.heap [] _ hR va_S.rf (lv_entry av hfit)
section YRH
variable {x : yC} {l : Launch} {g : yG} {nL : Nat} {cc : ByteArray} {own : String} {ret : Option FieldType} {rm : Room} {Q : State → Prop} {sch : yS} {n : Nat} {σ : yM} {cells slots pc : Nat} {lv : List (Nat × Value)} {st : List Value}
theorem y_anewA (hF : yF x l g nL cc own ret rm) {index : Nat} {sch' : yS} (hdg : decode cc pc = .ok (.anewarray index, 3)) (hcl : Cond.classLink own index "FilledHoles$Snapshot" ∈ y_tb) (hov : va_AO "FilledHoles$Snapshot" x.2.2.2.2.1) (hc : cells + 1 ≤ rm.cells ∧ slots + 11 ≤ rm.slots) (hs' : sch' n = some (kRp g 0)) (ho : ∀ (k : Nat) (f : (Int → Int) → va_E), k < n → sch' k = some f → sch k = some f) (k : yV x g nL Q sch' (n + 1) (ynew σ n (fun _ => 0)) (cells + 1) (slots + 11) (pc + 3) lv (yR g n :: st)) : yV x g nL Q sch n σ cells slots pc lv (yI 11 :: st) := by
  obtain ⟨p, l', e, R, s, m, args, below, meth, c⟩ := x
  obtain ⟨hl0, hRm, hx, hb, hml, hown, hts, hK, hZ, hbs, hlk, hrt, hNw⟩ := hF
  intro H locs ls hH hS hl
  subst hRm
  have e0 : (Int32.ofInt 11).toNatClampNeg = 11 := by decide
  refine W.anew hx hb hown (hts _ hcl) (va_AO.use hov) rfl hdg rfl (by decide) (by rw [e0]; decide) hc.1 (by rw [e0]; exact hc.2) fun cA kA comp f1 f2 f3 f4 => ?_
  rw [e0]
  generalize hH1 : H.push ({ cls := cA, slots := Array.replicate 11 .null, vm := .none } : Cell) = H1
  have z1 : H1.size = H.size + 1 := by rw [← hH1, Array.size_push]
  have e1 : H1[H.size]? = some (arrV cA 11 (fun _ => .null)) := by rw [← hH1, Array.getElem?_push_size, ← arrV_new]
  have o1 : ∀ q : Nat, q < H.size → H1[q]? = H[q]? := fun q hq => by rw [← hH1, Array.getElem?_push, if_neg (Nat.ne_of_lt hq)]
  have hcA : cA = g.2.2.1 3 := by
    have := (hK.2 3 _ rfl).2
    obtain ⟨kA2, comp2, g1, g2, g3, g4⟩ := this
    exact Option.some.inj (f1.symm.trans g4)
  rw [hH.2.2]
  refine k H1 locs ls (y_ofcells (fun j f hj hs => ?_) (by rw [z1, hH.2.2]; omega)) ⟨Nat.le_trans hS.1 (by rw [z1]; omega), fun q h1 h2 => (o1 q (Nat.lt_of_lt_of_le h1 hS.1)).trans (hS.2.1 q h1 h2), hS.2.2⟩ hl
  by_cases hjn : j = n
  · subst hjn
    have hf : f = kRp g 0 := Option.some.inj (hs.symm.trans hs')
    subst hf
    show H1[g.1 + j]? = some (vp_cell _ _)
    rw [← hH.2.2, e1, hcA]
    rfl
  · have := y_cells hH (show j < n by omega) (ho j f (by omega) hs)
    rw [ynew_n hjn]
    exact this.kept (o1 _ (by have := hH.2.2; omega))
theorem y_rIA (hF : yF x l g nL cc own ret rm) (hAO : va_AO "FilledHoles$Snapshot" x.2.2.2.2.1) {y : MethodName} {cc2 : ByteArray} {nL2 na index : Nat}  {rm2 : Room} {As rest : List Value} {kk : Nat} {sch' : yS} {Post : Option Value → Nat → yM → Prop} (hM : yMetA l g y cc2 nL2 none rm2 (yR g kk :: As) sch n σ sch' Post) (hdg : decode cc pc = .ok (.invokespecial index, 3)) (hw : Cond.methodLink own index y ∈ y_tb) (hcal : yCalI y cc2 nL2 na) (hna : As.length = na) (hrm : rm2.frames + 1 ≤ rm.frames ∧ 8 + (nL2 + 11) + rm2.locals ≤ rm.locals) (hcs : cells + rm2.cells ≤ rm.cells ∧ slots + rm2.slots ≤ rm.slots) (hcat : (rest.map fun v => v.category).sum ≤ 8) (hst : st = As.reverse ++ yR g kk :: rest) : yRun x g nL sch n σ cells slots pc rm2.cells rm2.slots lv st rest sch' Post := by
  obtain ⟨p, l', e, R, s, m, args, below, meth, c⟩ := x
  obtain ⟨hl0, hRm, hx, hb, hml, hown, hts, hK, hZ, hbs, hlk, hrt, hNw⟩ := hF
  intro H locs ls hH hS hl
  subst hst
  subst hRm
  subst hl0
  obtain ⟨w1, w3, w4, hyn, hd⟩ := hcal
  exact ⟨_, va_runI (Ts := y_tb) (own := own) (b := g.1 + kk) (As := As) (rest := rest) ⟨hx, hb, hml, hown, hts⟩ hM ⟨callB_of na hts (y_goodIn w3) rfl rfl rfl (hts _ w4) (hts _ hw) hd hrm, hyn, hts _ w1⟩ ⟨yPreA_blind, fun U hU hW => ⟨rfl, ⟨by rw [hU]; exact hH, va_K.moved hW.alike hK, by rw [hU]; exact yZ.kept (yZ.moved hW.alike hZ) hbs (fun a h1 h2 => hS.2.1 a h1 h2), yNw.warm hW hNw⟩, va_AO.moved hW.alike hAO⟩⟩ rfl hna hl.1 rfl (lv_room hcat) hdg hcs⟩
end YRH
