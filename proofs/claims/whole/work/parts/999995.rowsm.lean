/-! the law's steps -/
def zE (x : yC) (l : Launch) (g : yG) (b L : Nat) (xs : Nat → Int32) : Prop := yF x l g 7 code RL ret room_1 ∧ yTx g x.2.2.2.2.1 x.2.2.2.2.1.heap ∧ yTs x.2.2.2.2.1 ∧ l.stackTraces = false ∧ va_X b L xs x.2.2.2.2.1 x.2.2.2.2.1.heap ∧ b < g.1 ∧ L ≤ 3072
def zG (N : Int) (σ : yM) (A : aA) : Prop := cV σ A ∧ mV σ A ∧ aW N A
def zA (xs : Nat → Int32) (i k : Int) : Int := (xs (i + k).toNat).toInt
theorem zA_r (xs : Nat → Int32) (i k : Int) : -2147483648 ≤ zA xs i k ∧ zA xs i k < 2147483648 := by
  have h1 := Int32.le_toInt (xs (i + k).toNat)
  have h2 := Int32.toInt_lt (xs (i + k).toNat)
  unfold zA
  omega
abbrev zL (g : yG) (b : Nat) (i : Int) : List (Nat × Value) := [(0, .ref b), (1, yR g 0), (2, yR g 155), (3, yR g 171), (4, yI i)]
abbrev zL5 (g : yG) (b : Nat) (i zk : Int) : List (Nat × Value) := [(0, .ref b), (1, yR g 0), (2, yR g 155), (3, yR g 171), (4, yI i), (5, yI zk)]
abbrev zL6 (g : yG) (b : Nat) (i zk zb : Int) : List (Nat × Value) := [(0, .ref b), (1, yR g 0), (2, yR g 155), (3, yR g 171), (4, yI i), (5, yI zk), (6, yI zb)]
def zK (x : yC) (g : yG) (b : Nat) (Q : State → Prop) (n : Nat) (N : Int) (cells slots : Nat) (i : Int) : Prop := ∀ (n' : Nat) (σ' : yM) (A' : aA), n ≤ n' → zG (N + 400) σ' A' → yV x g 7 Q (SC g) n' σ' (cells + 408) (slots + 3660) 2060 (zL g b i) []
section YRM
variable {x : yC} {l : Launch} {g : yG} {b L : Nat} {xs : Nat → Int32} {Q : State → Prop} {sch : yS} {n : Nat} {σ : yM} {cells slots pc : Nat} {lv : List (Nat × Value)} {st : List Value}
theorem y_aloadQ_n {nL : Nat} {cc : ByteArray} {own : String} {ret : Option FieldType} {rm : Room} (hF : yF x l g nL cc own ret rm) {i : Fin 4} (hdg : decode cc pc = .ok (.aload_n i, 1)) (j : Nat) {a : Nat} (hj : lv[j]? = some ((i : Nat), .ref a)) (k : yV x g nL Q sch n σ cells slots (pc + 1) lv (.ref a :: st)) : yV x g nL Q sch n σ cells slots pc lv st := by
  obtain ⟨p, l', e, R, s, m, args, below, meth, c⟩ := x
  obtain ⟨hl0, hRm, hx, hb, hml, hown, hts, hK, hZ, hbs, hlk, hrt, hNw⟩ := hF
  intro H locs ls hH hS hl
  exact lv_aload_n hx hb hdg rfl (lv_at hl j hj) (k H locs ls hH hS hl)
theorem zl_arg (E : zE x l g b L xs) {kc i : Int} (d0 : decode code pc = .ok (.aload_n 0, 1)) (d1 : decode code (pc + 1) = .ok (.iload 4, 2)) (d2 : decode code (pc + 3) = .ok (.iconst kc, 1)) (d3 : decode code (pc + 4) = .ok (.iadd, 1)) (d4 : decode code (pc + 5) = .ok (.iaload, 1)) (j0 : lv[0]? = some (0, .ref b)) (j4 : lv[4]? = some (4, yI i)) (hi : 0 ≤ i + kc ∧ i + kc < (L : Int)) (k : yV x g 7 Q sch n σ cells slots (pc + 6) lv (yI (zA xs i kc) :: st)) : yV x g 7 Q sch n σ cells slots pc lv st := by
  obtain ⟨hF, hTx, hTs, hlt, hX, hb0, hL⟩ := E
  refine y_aloadQ_n (pc := pc) hF d0 0 j0 ?_
  refine y_iload (pc := pc + 1) hF d1 4 j4 ?_
  refine y_iconst (pc := pc + 3) hF d2 ?_
  refine y_iadd (pc := pc + 4) hF d3 ?_
  exact y_sci (pc := pc + 5) hF hX hb0 d4 hi (by omega) k
theorem zl_tail (E : zE x l g b L xs) {i zk zb off : Int} (d0 : decode code pc = .ok (.aload_n 2, 1)) (d1 : decode code (pc + 1) = .ok (.invokevirtual 107, 3)) (d2 : decode code (pc + 4) = .ok (.iload 5, 2)) (d3 : decode code (pc + 6) = .ok (.if_icmp .eq 5, 3)) (d4 : decode code (pc + 11) = .ok (.iload 5, 2)) (d5 : decode code (pc + 13) = .ok (.ifCond .ne 15, 3)) (d6 : decode code (pc + 16) = .ok (.aload_n 3, 1)) (d7 : decode code (pc + 17) = .ok (.iconst 0, 1)) (d8 : decode code (pc + 18) = .ok (.laload, 1)) (d9 : decode code (pc + 19) = .ok (.iload 6, 2)) (da : decode code (pc + 21) = .ok (.i2l, 1)) (db : decode code (pc + 22) = .ok (.lcmp, 1)) (dc : decode code (pc + 23) = .ok (.ifCond .eq 5, 3)) (dd : decode code (pc + 28) = .ok (.goto off, 3)) (hoff : ((pc + 28 : Nat) : Int) + off = ((2060 : Nat) : Int))
    (tk : zk = σ 155 0) (tr : 0 ≤ zk ∧ zk ≤ 2) (to : zk = 0 → σ 171 0 = wr zb) (hn : 172 ≤ n) (hc : cells ≤ 601024) (hs : slots ≤ 7293033) (k : yV x g 7 Q (SC g) n σ cells slots 2060 (zL g b i) []) : yV x g 7 Q (SC g) n σ cells slots pc (zL6 g b i zk zb) [] := by
  obtain ⟨hF, hTx, hTs, hlt, hX, hb0, hL⟩ := E
  have k2 : yV x g 7 Q (SC g) n σ cells slots (pc + 28) (zL6 g b i zk zb) [] := y_goto (pc := pc + 28) hF dd 2060 hoff (y_sub [0, 1, 2, 3, 4] rfl k)
  refine y_aload_n (pc := pc) hF d0 2 rfl ?_
  refine y_cp (y_rV (pc := pc + 1) (rest := []) hF (tX11_thrown hn) d1 (by omega) rfl rfl rfl w_1224 qX11_thrown rfl ⟨Nat.le_of_ble_eq_true rfl, Nat.le_of_ble_eq_true rfl⟩ ⟨hc, hs⟩ (Nat.le_of_ble_eq_true rfl) rfl) ?_
  refine y_iload (pc := pc + 4) hF d2 5 rfl ?_
  rw [← tk]
  refine y_icmp_same (pc := pc + 6) hF d3 (pc + 11) (by omega) ?_
  refine y_iload (pc := pc + 11) hF d4 5 rfl ?_
  refine y_if_ne (pc := pc + 13) hF d5 (pc + 28) (by omega) (by omega) (fun _ => k2) (fun z0 => ?_)
  refine y_aload_n (pc := pc + 16) hF d6 3 rfl ?_
  refine y_iconst (pc := pc + 17) hF d7 ?_
  refine y_laload (pc := pc + 18) (kk := 171) (len := 1) hF d8 (by omega) rfl (by decide) (by decide) ?_
  rw [to z0]
  refine y_iload (pc := pc + 19) hF d9 6 rfl ?_
  refine y_i2lw (pc := pc + 21) hF da ?_
  refine y_lcmp_same (pc := pc + 22) hF db ?_
  exact y_if_eq (pc := pc + 23) hF dc (pc + 28) (by omega) (by decide) (fun _ => k2) (fun z => absurd rfl z)
theorem y_tab {nL : Nat} {cc : ByteArray} {own : String} {ret : Option FieldType} {rm : Room} (hF : yF x l g nL cc own ret rm) {dflt lo hi : Int} {offs : Array Int} {len : Nat} {a off : Int} {tgt : Nat} (hdg : decode cc pc = .ok (.tableswitch dflt lo hi offs, len)) (ha : -2147483648 ≤ a ∧ a < 2147483648) (h1 : lo ≤ a) (h2 : a ≤ hi) (ho : offs[(a - lo).toNat]? = some off) (ht : (pc : Int) + off = (tgt : Int)) (k : yV x g nL Q sch n σ cells slots tgt lv st) : yV x g nL Q sch n σ cells slots pc lv (yI a :: st) := by
  obtain ⟨p, l', e, R, s, m, args, below, meth, c⟩ := x
  obtain ⟨hl0, hRm, hx, hb, hml, hown, hts, hK, hZ, hbs, hlk, hrt, hNw⟩ := hF
  intro H locs ls hH hS hl
  have e1 : (Int32.ofInt a).toInt = a := Int32.toInt_ofInt_of_le (by omega) (by omega)
  exact lv_tableIn hx hb hdg (by rw [e1]; omega) (by rw [e1]; omega) (by rw [e1]; exact ho) ht (k H locs ls hH hS hl)
end YRM
