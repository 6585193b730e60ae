theorem va_A2.moved {u U : State} (hvm : u.vm.Alike U.vm) (h : va_A2 u) : va_A2 U := by
  obtain ⟨comp, c, k, h1, h2, h3, h4, h5⟩ := arrayOverA_spec h
  obtain ⟨k', hk', he⟩ := hvm.2.2 _ _ h3
  have hi : (U.vm.classes.findIdx? fun (x : Class) => match x.kind with | .array component _ => component == comp | _ => false) = some c := by
    rw [hvm.findIdx?_eq _ (fun _ => rfl)]
    exact h2
  have hkind : k'.kind = .array comp (.array .int) := by rw [he]; exact h4
  have f1 : U.vm.findClass (FieldType.array .int).toString = some comp := by rw [hvm.findClass]; exact h1
  have f2 : U.vm.findClass ("[" ++ (FieldType.array .int).toString) = some c := by rw [hvm.findClass]; exact h5
  unfold va_A2 Cond.before Cond.holds
  simp only [Cond.value]
  rw [f1, Option.bind_some]
  refine (congrArg (fun o : Option Nat => (o.bind (fun c => (U.vm.classes[c]?).map fun (k : Class) => match k.kind with | .array _ ty => decide (ty = FieldType.array .int) && decide (U.vm.findClass ("[" ++ (FieldType.array .int).toString) = some c) | _ => false) == some true)) hi).trans ?_
  simp [hk', hkind, f2]
section YIE
variable {x : yC} {l : Launch} {g : yG} {nL : Nat} {cc : ByteArray} {own : String} {ret : Option FieldType} {rm : Room} {Q : State → Prop} {sch : yS} {n : Nat} {σ : yM} {cells slots pc : Nat} {lv : List (Nat × Value)} {st : List Value}
theorem y_aaK (hF : yF x l g nL cc own ret rm) (hdg : decode cc pc = .ok (.aaload, 1)) (hk : 157 < n) (hs : sch 157 = some (kLay g)) (k : yV x g nL Q sch n σ cells slots (pc + 1) lv (yR g 158 :: st)) : yV x g nL Q sch n σ cells slots pc lv (yI 0 :: yR g 157 :: st) := y_aaload (t0 := 4) (f := kLay g) (ty := .array .int) (len := 3) hF hdg hk hs rfl rfl rfl ⟨by decide, by decide⟩ (by decide) rfl k
end YIE

set_option maxHeartbeats 4000000 in
set_option maxRecDepth 100000 in
theorem tAtG {l : Launch} {g : yG} {n : Nat} {σ : yM} {sch : yS} (a b : Int) : yMet l g yX11_at cX11_at 2 (some .int) (rmL 1) [yI a, yI b] sch n σ sch (yPp (20 * b + a) n σ) := by
  refine y_start (by decide) (Nat.le_of_ble_eq_true rfl) (fun X0 hF => ?_)
  show yV X0 g 2 (yQ X0 g sch (yPp (20 * b + a) n σ) (rmL 1)) sch n σ 0 0 0 [(0, yI a), (1, yI b)] []
  refine y_bipush (pc := 0) hF dX11_at_0 (by decide) ?_
  refine y_iload_n (pc := 2) hF dX11_at_2 1 rfl ?_
  refine y_imul (pc := 3) hF dX11_at_3 ?_
  refine y_iload_n (pc := 4) hF dX11_at_4 0 rfl ?_
  refine y_iadd (pc := 5) hF dX11_at_5 ?_
  exact y_iret (pc := 6) hF dX11_at_6 (Nat.zero_le _) (Nat.zero_le _) ⟨_, rfl, rfl, rfl, rfl⟩

set_option maxHeartbeats 4000000 in
set_option maxRecDepth 100000 in
theorem tFoG {l : Launch} {g : yG} {n : Nat} {σ : yM} {sch : yS} (hn : 171 ≤ n) (h155 : sch 155 = some (kMod g)) (h157 : sch 157 = some (kLay g)) (h158 : sch 158 = some (kI g 2273)) (i : Int) (hi : 0 ≤ i ∧ i < 400) : yMet l g yX11_forgets cX11_forgets 3 none (rmL 1) [yR g 155, yI 0, yI i] sch n σ sch (yPv (fun n' σ' => n' = n ∧ σ' = yset (yset (yset σ 158 (800 + i) 0) 158 (1200 + i) (-1)) 158 (1600 + i) (-1))) := by
  refine y_start (by decide) (Nat.le_of_ble_eq_true rfl) (fun X0 hF => ?_)
  show yV X0 g 3 (yQ X0 g sch (yPv (fun n' σ' => n' = n ∧ σ' = yset (yset (yset σ 158 (800 + i) 0) 158 (1200 + i) (-1)) 158 (1600 + i) (-1))) (rmL 1)) sch n σ 0 0 0 [(0, yR g 155), (1, yI 0), (2, yI i)] []
  refine y_aload_n (pc := 0) hF dX11_forgets_0 0 rfl ?_
  refine y_get (pc := 1) (ci := 11) hF dX11_forgets_1 (by omega) h155 rfl rfl iX11 2 (by decide) w_1249 rfl ?_
  refine y_iload_n (pc := 4) hF dX11_forgets_4 1 rfl ?_
  refine y_aaK (pc := 5) hF dX11_forgets_5 (by omega) h157 ?_
  refine y_sipush (pc := 6) hF dX11_forgets_6 (by decide) ?_
  refine y_iload_n (pc := 9) hF dX11_forgets_9 2 rfl ?_
  refine y_iadd (pc := 10) hF dX11_forgets_10 ?_
  refine y_iconst (pc := 11) hF dX11_forgets_11 ?_
  refine y_iastore (pc := 12) hF dX11_forgets_12 (by omega) h158 (by omega) (by decide) ?_
  refine y_aload_n (pc := 13) hF dX11_forgets_13 0 rfl ?_
  refine y_get (pc := 14) (ci := 11) hF dX11_forgets_14 (by omega) h155 rfl rfl iX11 2 (by decide) w_1249 rfl ?_
  refine y_iload_n (pc := 17) hF dX11_forgets_17 1 rfl ?_
  refine y_aaK (pc := 18) hF dX11_forgets_18 (by omega) h157 ?_
  refine y_sipush (pc := 19) hF dX11_forgets_19 (by decide) ?_
  refine y_iload_n (pc := 22) hF dX11_forgets_22 2 rfl ?_
  refine y_iadd (pc := 23) hF dX11_forgets_23 ?_
  refine y_iconst (pc := 24) hF dX11_forgets_24 ?_
  refine y_iastore (pc := 25) hF dX11_forgets_25 (by omega) h158 (by omega) (by decide) ?_
  refine y_aload_n (pc := 26) hF dX11_forgets_26 0 rfl ?_
  refine y_get (pc := 27) (ci := 11) hF dX11_forgets_27 (by omega) h155 rfl rfl iX11 2 (by decide) w_1249 rfl ?_
  refine y_iload_n (pc := 30) hF dX11_forgets_30 1 rfl ?_
  refine y_aaK (pc := 31) hF dX11_forgets_31 (by omega) h157 ?_
  refine y_sipush (pc := 32) hF dX11_forgets_32 (by decide) ?_
  refine y_iload_n (pc := 35) hF dX11_forgets_35 2 rfl ?_
  refine y_iadd (pc := 36) hF dX11_forgets_36 ?_
  refine y_iconst (pc := 37) hF dX11_forgets_37 ?_
  refine y_iastore (pc := 38) hF dX11_forgets_38 (by omega) h158 (by omega) (by decide) ?_
  exact y_vret (pc := 39) hF dX11_forgets_39 (Nat.zero_le _) (Nat.zero_le _) ⟨rfl, rfl, rfl⟩

set_option maxHeartbeats 4000000 in
set_option maxRecDepth 100000 in
theorem tKnG {l : Launch} {g : yG} {n : Nat} {σ : yM} {sch : yS} (hn : 171 ≤ n) (h155 : sch 155 = some (kMod g)) (h157 : sch 157 = some (kLay g)) (h158 : sch 158 = some (kI g 2273)) (i t : Int) (hi : 0 ≤ i ∧ i < 400) : yMet l g yX11_known cX11_known 4 none (rmL 2) [yR g 155, yI 0, yI i, yI t] sch n σ sch (yPv (fun n' σ' => n' = n ∧ σ' = mkn σ 0 i t)) := by
  refine y_start (by decide) (Nat.le_of_ble_eq_true rfl) (fun X0 hF => ?_)
  show yV X0 g 4 (yQ X0 g sch (yPv (fun n' σ' => n' = n ∧ σ' = mkn σ 0 i t)) (rmL 2)) sch n σ 0 0 0 [(0, yR g 155), (1, yI 0), (2, yI i), (3, yI t)] []
  refine y_aload_n (pc := 0) hF dX11_known_0 0 rfl ?_
  refine y_get (pc := 1) (ci := 11) hF dX11_known_1 (by omega) h155 rfl rfl iX11 2 (by decide) w_1249 rfl ?_
  refine y_iload_n (pc := 4) hF dX11_known_4 1 rfl ?_
  refine y_aaK (pc := 5) hF dX11_known_5 (by omega) h157 ?_
  refine y_iconst (pc := 6) hF dX11_known_6 ?_
  refine y_iload_n (pc := 7) hF dX11_known_7 2 rfl ?_
  refine y_iadd (pc := 8) hF dX11_known_8 ?_
  rw [show 0 + i = i from (Int.zero_add _)]
  refine y_iload_n (pc := 9) hF dX11_known_9 3 rfl ?_
  refine y_iastore (pc := 10) hF dX11_known_10 (by omega) h158 (by omega) (by decide) ?_
  refine y_aload_n (pc := 11) hF dX11_known_11 0 rfl ?_
  refine y_get (pc := 12) (ci := 11) hF dX11_known_12 (by omega) h155 rfl rfl iX11 2 (by decide) w_1249 rfl ?_
  refine y_iload_n (pc := 15) hF dX11_known_15 1 rfl ?_
  refine y_aaK (pc := 16) hF dX11_known_16 (by omega) h157 ?_
  refine y_sipush (pc := 17) hF dX11_known_17 (by decide) ?_
  refine y_iload_n (pc := 20) hF dX11_known_20 2 rfl ?_
  refine y_iadd (pc := 21) hF dX11_known_21 ?_
  refine y_sipush (pc := 22) hF dX11_known_22 (by decide) ?_
  refine y_iastore (pc := 25) hF dX11_known_25 (by omega) h158 (by omega) (by decide) ?_
  refine y_aload_n (pc := 26) hF dX11_known_26 0 rfl ?_
  refine y_iload_n (pc := 27) hF dX11_known_27 1 rfl ?_
  refine y_iload_n (pc := 28) hF dX11_known_28 2 rfl ?_
  refine y_cv (y_rV (pc := 29) hF (tFoG hn h155 h157 h158 i hi) dX11_known_29 (by omega) h155 rfl rfl w_1243 qX11_forgets rfl ⟨Nat.le_of_ble_eq_true rfl, Nat.le_of_ble_eq_true rfl⟩ ⟨Nat.zero_le _, Nat.zero_le _⟩ (Nat.le_of_ble_eq_true rfl) rfl) rfl rfl (fun n' σ' zp29 => ?_)
  obtain ⟨zn29, rfl⟩ := zp29
  have zn29 := zn29.symm
  subst zn29
  exact y_vret (pc := 32) hF dX11_known_32 (Nat.zero_le _) (Nat.zero_le _) ⟨rfl, rfl, rfl⟩
