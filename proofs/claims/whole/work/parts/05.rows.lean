/-! branches, the heap, calls, ends -/
theorem y_mem {g : yG} {sch : yS} {n k : Nat} {f : (Int → Int) → va_E} (hk : k < n) (hs : sch k = some f) : g.1 + k ∈ yLA g sch n := List.mem_map.mpr ⟨k, List.mem_filter.mpr ⟨List.mem_range.mpr hk, by simp [hs]⟩, rfl⟩
theorem y_cf {g : yG} {sch : yS} {σ : yM} {k : Nat} {f : (Int → Int) → va_E} (hs : sch k = some f) : yCF g sch σ (g.1 + k) = f (σ k) := by
  unfold yCF
  rw [Nat.add_sub_cancel_left, hs]
theorem y_at {g : yG} {sch : yS} {n k : Nat} {σ : yM} {f : (Int → Int) → va_E} (hk : k < n) (hs : sch k = some f) : ∃ q0 : Nat, (yW g sch n σ)[q0]? = some (g.1 + k, f (σ k)) := by
  obtain ⟨q0, h⟩ := va_pl_get (X := []) (f := yCF g sch σ) (y_mem (g := g) hk hs)
  rw [y_cf hs] at h
  exact ⟨q0, h⟩
theorem y_plc {L : List Nat} {f h : Nat → va_E} (e : ∀ a ∈ L, f a = h a) : va_pl L f = va_pl L h := List.map_congr_left (fun a ha => by rw [e a ha])
theorem y_la {g : yG} {sch : yS} {n a : Nat} (h : a ∈ yLA g sch n) : ∃ (k : Nat) (f : (Int → Int) → va_E), a = g.1 + k ∧ k < n ∧ sch k = some f := by
  obtain ⟨k, h1, rfl⟩ := List.mem_map.mp h
  obtain ⟨h2, h3⟩ := List.mem_filter.mp h1
  obtain ⟨f, hf⟩ := Option.isSome_iff_exists.mp h3
  exact ⟨k, f, rfl, List.mem_range.mp h2, hf⟩
theorem y_wset {g : yG} {sch : yS} {n k q0 : Nat} {σ σ' : yM} {f : (Int → Int) → va_E} {e : va_E} (hD : va_D (yA g) (yW g sch n σ)) (hk : k < n) (hs : sch k = some f) (hq : (yW g sch n σ)[q0]? = some (g.1 + k, f (σ k))) (he : f (σ' k) = e) (ho : ∀ k', k' ≠ k → σ' k' = σ k') : (yW g sch n σ).set q0 (g.1 + k, e) = yW g sch n σ' := by
  have h1 := va_pl_set (X := []) (e := e) hD (y_mem (g := g) hk hs) (by rw [y_cf hs]; exact hq)
  refine (show _ = _ from h1).trans (y_plc (fun a ha => ?_))
  obtain ⟨k', f', rfl, h2, h3⟩ := y_la ha
  by_cases hkk : k' = k
  · subst hkk
    rw [va_up_self, y_cf hs, he]
  · rw [va_up_ne _ _ (by omega), y_cf h3, y_cf h3, ho k' hkk]
def kI (g : yG) (len : Nat) : (Int → Int) → va_E := fun f => .inl (g.2.2.1 0, len, .inl (fun j => Int32.ofInt (f (j : Int))))
def kB (g : yG) (len : Nat) : (Int → Int) → va_E := fun f => .inl (g.2.2.1 1, len, .inl (fun j => Int32.ofInt (f (j : Int))))
def kJ (g : yG) (len : Nat) : (Int → Int) → va_E := fun f => .inl (g.2.2.1 2, len, .inr (.inl (fun j => Int64.ofInt (f (j : Int)))))
section YR2
variable {x : yC} {l : Launch} {g : yG} {nL : Nat} {cc : ByteArray} {own : String} {ret : Option FieldType} {rm : Room} {Q : State → Prop} {sch : yS} {n : Nat} {σ : yM} {cells slots pc : Nat} {lv : List (Nat × Value)} {st : List Value}
theorem y_icmp_eq (hF : yF x l g nL cc own ret rm) {off : Int} (hdg : decode cc pc = .ok (.if_icmp .eq off, 3)) (tgt : Nat) (ht : (pc : Int) + off = (tgt : Int)) {a b : Int} (ha : -2147483648 ≤ a ∧ a < 2147483648) (hb2 : -2147483648 ≤ b ∧ b < 2147483648) (kt : a = b → yV x g nL Q sch n σ cells slots tgt lv st) (kf : a ≠ b → yV x g nL Q sch n σ cells slots (pc + 3) lv st) : yV x g nL Q sch n σ cells slots pc lv (yI b :: yI a :: st) := by
  obtain ⟨p, l', e, R, s, m, args, below, meth, c⟩ := x
  obtain ⟨hl0, hRm, hx, hb, hml, hown, hts, hK, hZ, hbs, hlk, hrt, hNw⟩ := hF
  intro H locs ls hH hS hl
  exact lv_icmp_eq hx hb hdg ht (fun q => kt ((y_eq ha hb2).mp q) H locs ls hH hS hl) (fun q => kf (fun w => q ((y_eq ha hb2).mpr w)) H locs ls hH hS hl)
theorem y_icmp_ne (hF : yF x l g nL cc own ret rm) {off : Int} (hdg : decode cc pc = .ok (.if_icmp .ne off, 3)) (tgt : Nat) (ht : (pc : Int) + off = (tgt : Int)) {a b : Int} (ha : -2147483648 ≤ a ∧ a < 2147483648) (hb2 : -2147483648 ≤ b ∧ b < 2147483648) (kt : a ≠ b → yV x g nL Q sch n σ cells slots tgt lv st) (kf : a = b → yV x g nL Q sch n σ cells slots (pc + 3) lv st) : yV x g nL Q sch n σ cells slots pc lv (yI b :: yI a :: st) := by
  obtain ⟨p, l', e, R, s, m, args, below, meth, c⟩ := x
  obtain ⟨hl0, hRm, hx, hb, hml, hown, hts, hK, hZ, hbs, hlk, hrt, hNw⟩ := hF
  intro H locs ls hH hS hl
  exact lv_icmp_ne hx hb hdg ht (fun q => kt ((not_congr (y_eq ha hb2)).mp q) H locs ls hH hS hl) (fun q => kf ((y_eq ha hb2).mp q) H locs ls hH hS hl)
theorem y_icmp_lt (hF : yF x l g nL cc own ret rm) {off : Int} (hdg : decode cc pc = .ok (.if_icmp .lt off, 3)) (tgt : Nat) (ht : (pc : Int) + off = (tgt : Int)) {a b : Int} (ha : -2147483648 ≤ a ∧ a < 2147483648) (hb2 : -2147483648 ≤ b ∧ b < 2147483648) (kt : a < b → yV x g nL Q sch n σ cells slots tgt lv st) (kf : b ≤ a → yV x g nL Q sch n σ cells slots (pc + 3) lv st) : yV x g nL Q sch n σ cells slots pc lv (yI b :: yI a :: st) := by
  obtain ⟨p, l', e, R, s, m, args, below, meth, c⟩ := x
  obtain ⟨hl0, hRm, hx, hb, hml, hown, hts, hK, hZ, hbs, hlk, hrt, hNw⟩ := hF
  intro H locs ls hH hS hl
  exact lv_icmp_lt hx hb hdg ht (fun q => kt ((y_lt ha hb2).mp q) H locs ls hH hS hl) (fun q => kf (Int.not_lt.mp (fun w => q ((y_lt ha hb2).mpr w))) H locs ls hH hS hl)
theorem y_icmp_ge (hF : yF x l g nL cc own ret rm) {off : Int} (hdg : decode cc pc = .ok (.if_icmp .ge off, 3)) (tgt : Nat) (ht : (pc : Int) + off = (tgt : Int)) {a b : Int} (ha : -2147483648 ≤ a ∧ a < 2147483648) (hb2 : -2147483648 ≤ b ∧ b < 2147483648) (kt : b ≤ a → yV x g nL Q sch n σ cells slots tgt lv st) (kf : a < b → yV x g nL Q sch n σ cells slots (pc + 3) lv st) : yV x g nL Q sch n σ cells slots pc lv (yI b :: yI a :: st) := by
  obtain ⟨p, l', e, R, s, m, args, below, meth, c⟩ := x
  obtain ⟨hl0, hRm, hx, hb, hml, hown, hts, hK, hZ, hbs, hlk, hrt, hNw⟩ := hF
  intro H locs ls hH hS hl
  exact lv_icmp_ge hx hb hdg ht (fun q => kt ((y_le hb2 ha).mp q) H locs ls hH hS hl) (fun q => kf (Int.not_le.mp (fun w => q ((y_le hb2 ha).mpr w))) H locs ls hH hS hl)
theorem y_icmp_gt (hF : yF x l g nL cc own ret rm) {off : Int} (hdg : decode cc pc = .ok (.if_icmp .gt off, 3)) (tgt : Nat) (ht : (pc : Int) + off = (tgt : Int)) {a b : Int} (ha : -2147483648 ≤ a ∧ a < 2147483648) (hb2 : -2147483648 ≤ b ∧ b < 2147483648) (kt : b < a → yV x g nL Q sch n σ cells slots tgt lv st) (kf : a ≤ b → yV x g nL Q sch n σ cells slots (pc + 3) lv st) : yV x g nL Q sch n σ cells slots pc lv (yI b :: yI a :: st) := by
  obtain ⟨p, l', e, R, s, m, args, below, meth, c⟩ := x
  obtain ⟨hl0, hRm, hx, hb, hml, hown, hts, hK, hZ, hbs, hlk, hrt, hNw⟩ := hF
  intro H locs ls hH hS hl
  exact lv_icmp_gt hx hb hdg ht (fun q => kt ((y_lt hb2 ha).mp q) H locs ls hH hS hl) (fun q => kf (Int.not_lt.mp (fun w => q ((y_lt hb2 ha).mpr w))) H locs ls hH hS hl)
theorem y_icmp_le (hF : yF x l g nL cc own ret rm) {off : Int} (hdg : decode cc pc = .ok (.if_icmp .le off, 3)) (tgt : Nat) (ht : (pc : Int) + off = (tgt : Int)) {a b : Int} (ha : -2147483648 ≤ a ∧ a < 2147483648) (hb2 : -2147483648 ≤ b ∧ b < 2147483648) (kt : a ≤ b → yV x g nL Q sch n σ cells slots tgt lv st) (kf : b < a → yV x g nL Q sch n σ cells slots (pc + 3) lv st) : yV x g nL Q sch n σ cells slots pc lv (yI b :: yI a :: st) := by
  obtain ⟨p, l', e, R, s, m, args, below, meth, c⟩ := x
  obtain ⟨hl0, hRm, hx, hb, hml, hown, hts, hK, hZ, hbs, hlk, hrt, hNw⟩ := hF
  intro H locs ls hH hS hl
  exact lv_icmp_le hx hb hdg ht (fun q => kt ((y_le ha hb2).mp q) H locs ls hH hS hl) (fun q => kf (Int.not_le.mp (fun w => q ((y_le ha hb2).mpr w))) H locs ls hH hS hl)
theorem y_if_eq (hF : yF x l g nL cc own ret rm) {off : Int} (hdg : decode cc pc = .ok (.ifCond .eq off, 3)) (tgt : Nat) (ht : (pc : Int) + off = (tgt : Int)) {a : Int} (ha : -2147483648 ≤ a ∧ a < 2147483648) (kt : a = 0 → yV x g nL Q sch n σ cells slots tgt lv st) (kf : a ≠ 0 → yV x g nL Q sch n σ cells slots (pc + 3) lv st) : yV x g nL Q sch n σ cells slots pc lv (yI a :: st) := by
  obtain ⟨p, l', e, R, s, m, args, below, meth, c⟩ := x
  obtain ⟨hl0, hRm, hx, hb, hml, hown, hts, hK, hZ, hbs, hlk, hrt, hNw⟩ := hF
  intro H locs ls hH hS hl
  exact lv_if_eq hx hb hdg ht (fun q => kt ((y_eq (b := 0) ha (by omega)).mp q) H locs ls hH hS hl) (fun q => kf (fun w => q ((y_eq (b := 0) ha (by omega)).mpr w)) H locs ls hH hS hl)
theorem y_if_ne (hF : yF x l g nL cc own ret rm) {off : Int} (hdg : decode cc pc = .ok (.ifCond .ne off, 3)) (tgt : Nat) (ht : (pc : Int) + off = (tgt : Int)) {a : Int} (ha : -2147483648 ≤ a ∧ a < 2147483648) (kt : a ≠ 0 → yV x g nL Q sch n σ cells slots tgt lv st) (kf : a = 0 → yV x g nL Q sch n σ cells slots (pc + 3) lv st) : yV x g nL Q sch n σ cells slots pc lv (yI a :: st) := by
  obtain ⟨p, l', e, R, s, m, args, below, meth, c⟩ := x
  obtain ⟨hl0, hRm, hx, hb, hml, hown, hts, hK, hZ, hbs, hlk, hrt, hNw⟩ := hF
  intro H locs ls hH hS hl
  exact lv_if_ne hx hb hdg ht (fun q => kt ((not_congr (y_eq (b := 0) ha (by omega))).mp q) H locs ls hH hS hl) (fun q => kf ((y_eq (b := 0) ha (by omega)).mp q) H locs ls hH hS hl)
theorem y_if_lt (hF : yF x l g nL cc own ret rm) {off : Int} (hdg : decode cc pc = .ok (.ifCond .lt off, 3)) (tgt : Nat) (ht : (pc : Int) + off = (tgt : Int)) {a : Int} (ha : -2147483648 ≤ a ∧ a < 2147483648) (kt : a < 0 → yV x g nL Q sch n σ cells slots tgt lv st) (kf : 0 ≤ a → yV x g nL Q sch n σ cells slots (pc + 3) lv st) : yV x g nL Q sch n σ cells slots pc lv (yI a :: st) := by
  obtain ⟨p, l', e, R, s, m, args, below, meth, c⟩ := x
  obtain ⟨hl0, hRm, hx, hb, hml, hown, hts, hK, hZ, hbs, hlk, hrt, hNw⟩ := hF
  intro H locs ls hH hS hl
  exact lv_if_lt hx hb hdg ht (fun q => kt ((y_lt (b := 0) ha (by omega)).mp q) H locs ls hH hS hl) (fun q => kf (Int.not_lt.mp (fun w => q ((y_lt (b := 0) ha (by omega)).mpr w))) H locs ls hH hS hl)
theorem y_if_ge (hF : yF x l g nL cc own ret rm) {off : Int} (hdg : decode cc pc = .ok (.ifCond .ge off, 3)) (tgt : Nat) (ht : (pc : Int) + off = (tgt : Int)) {a : Int} (ha : -2147483648 ≤ a ∧ a < 2147483648) (kt : 0 ≤ a → yV x g nL Q sch n σ cells slots tgt lv st) (kf : a < 0 → yV x g nL Q sch n σ cells slots (pc + 3) lv st) : yV x g nL Q sch n σ cells slots pc lv (yI a :: st) := by
  obtain ⟨p, l', e, R, s, m, args, below, meth, c⟩ := x
  obtain ⟨hl0, hRm, hx, hb, hml, hown, hts, hK, hZ, hbs, hlk, hrt, hNw⟩ := hF
  intro H locs ls hH hS hl
  exact lv_if_ge hx hb hdg ht (fun q => kt ((y_le (a := 0) (by omega) ha).mp q) H locs ls hH hS hl) (fun q => kf (Int.not_le.mp (fun w => q ((y_le (a := 0) (by omega) ha).mpr w))) H locs ls hH hS hl)
theorem y_if_gt (hF : yF x l g nL cc own ret rm) {off : Int} (hdg : decode cc pc = .ok (.ifCond .gt off, 3)) (tgt : Nat) (ht : (pc : Int) + off = (tgt : Int)) {a : Int} (ha : -2147483648 ≤ a ∧ a < 2147483648) (kt : 0 < a → yV x g nL Q sch n σ cells slots tgt lv st) (kf : a ≤ 0 → yV x g nL Q sch n σ cells slots (pc + 3) lv st) : yV x g nL Q sch n σ cells slots pc lv (yI a :: st) := by
  obtain ⟨p, l', e, R, s, m, args, below, meth, c⟩ := x
  obtain ⟨hl0, hRm, hx, hb, hml, hown, hts, hK, hZ, hbs, hlk, hrt, hNw⟩ := hF
  intro H locs ls hH hS hl
  exact lv_if_gt hx hb hdg ht (fun q => kt ((y_lt (a := 0) (by omega) ha).mp q) H locs ls hH hS hl) (fun q => kf (Int.not_lt.mp (fun w => q ((y_lt (a := 0) (by omega) ha).mpr w))) H locs ls hH hS hl)
theorem y_if_le (hF : yF x l g nL cc own ret rm) {off : Int} (hdg : decode cc pc = .ok (.ifCond .le off, 3)) (tgt : Nat) (ht : (pc : Int) + off = (tgt : Int)) {a : Int} (ha : -2147483648 ≤ a ∧ a < 2147483648) (kt : a ≤ 0 → yV x g nL Q sch n σ cells slots tgt lv st) (kf : 0 < a → yV x g nL Q sch n σ cells slots (pc + 3) lv st) : yV x g nL Q sch n σ cells slots pc lv (yI a :: st) := by
  obtain ⟨p, l', e, R, s, m, args, below, meth, c⟩ := x
  obtain ⟨hl0, hRm, hx, hb, hml, hown, hts, hK, hZ, hbs, hlk, hrt, hNw⟩ := hF
  intro H locs ls hH hS hl
  exact lv_if_le hx hb hdg ht (fun q => kt ((y_le (b := 0) ha (by omega)).mp q) H locs ls hH hS hl) (fun q => kf (Int.not_le.mp (fun w => q ((y_le (b := 0) ha (by omega)).mpr w))) H locs ls hH hS hl)
theorem y_ifnull (hF : yF x l g nL cc own ret rm) {off : Int} (hdg : decode cc pc = .ok (.ifnull off, 3)) {a : Nat} (k : yV x g nL Q sch n σ cells slots (pc + 3) lv st) : yV x g nL Q sch n σ cells slots pc lv (yR g a :: st) := by
  obtain ⟨p, l', e, R, s, m, args, below, meth, c⟩ := x
  obtain ⟨hl0, hRm, hx, hb, hml, hown, hts, hK, hZ, hbs, hlk, hrt, hNw⟩ := hF
  intro H locs ls hH hS hl
  exact lv_ifnull hx hb hdg (k H locs ls hH hS hl)
theorem y_ifnullN (hF : yF x l g nL cc own ret rm) {off : Int} (hdg : decode cc pc = .ok (.ifnull off, 3)) (tgt : Nat) (ht : (pc : Int) + off = (tgt : Int)) (k : yV x g nL Q sch n σ cells slots tgt lv st) : yV x g nL Q sch n σ cells slots pc lv (.null :: st) := by
  obtain ⟨p, l', e, R, s, m, args, below, meth, c⟩ := x
  obtain ⟨hl0, hRm, hx, hb, hml, hown, hts, hK, hZ, hbs, hlk, hrt, hNw⟩ := hF
  intro H locs ls hH hS hl
  exact lv_ifnullN hx hb hdg ht (k H locs ls hH hS hl)
theorem y_tswI (hF : yF x l g nL cc own ret rm) {dflt lo hi : Int} {offs : Array Int} {len : Nat} (hdg : decode cc pc = .ok (.tableswitch dflt lo hi offs, len)) {a off : Int} (i : Int) (hai : a = i) (hr : -2147483648 ≤ i ∧ i < 2147483648 ∧ lo ≤ i ∧ i ≤ hi) (ho : offs[(i - lo).toNat]? = some off) (tgt : Nat) (ht : (pc : Int) + off = (tgt : Int)) (k : yV x g nL Q sch n σ cells slots tgt lv st) : yV x g nL Q sch n σ cells slots pc lv (yI a :: st) := by
  obtain ⟨p, l', e, R, s, m, args, below, meth, c⟩ := x
  obtain ⟨hl0, hRm, hx, hb, hml, hown, hts, hK, hZ, hbs, hlk, hrt, hNw⟩ := hF
  intro H locs ls hH hS hl
  subst hai
  have ei := y_toInt (a := a) (by omega)
  exact lv_tableIn hx hb hdg (by rw [ei]; omega) (by rw [ei]; omega) (by rw [ei]; exact ho) ht (k H locs ls hH hS hl)
theorem y_tswO (hF : yF x l g nL cc own ret rm) {dflt lo hi : Int} {offs : Array Int} {len : Nat} (hdg : decode cc pc = .ok (.tableswitch dflt lo hi offs, len)) {a : Int} (ha : -2147483648 ≤ a ∧ a < 2147483648) (ho : a < lo ∨ hi < a) (tgt : Nat) (ht : (pc : Int) + dflt = (tgt : Int)) (k : yV x g nL Q sch n σ cells slots tgt lv st) : yV x g nL Q sch n σ cells slots pc lv (yI a :: st) := by
  obtain ⟨p, l', e, R, s, m, args, below, meth, c⟩ := x
  obtain ⟨hl0, hRm, hx, hb, hml, hown, hts, hK, hZ, hbs, hlk, hrt, hNw⟩ := hF
  intro H locs ls hH hS hl
  exact lv_tableOut hx hb hdg (by rw [y_toInt ha]; exact ho) ht (k H locs ls hH hS hl)
theorem y_lsw (hF : yF x l g nL cc own ret rm) {dflt : Int} {ps : Array (Int × Int)} {len : Nat} (hdg : decode cc pc = .ok (.lookupswitch dflt ps, len)) (hp : (ps.toList.zip (ps.toList.drop 1)).all (fun (a, next) => a.1 < next.1) = true) {a off : Int} (ha : -2147483648 ≤ a ∧ a < 2147483648) (ho : Op.lookupswitch.offset ps.toList dflt a = off) (tgt : Nat) (ht : (pc : Int) + off = (tgt : Int)) (k : yV x g nL Q sch n σ cells slots tgt lv st) : yV x g nL Q sch n σ cells slots pc lv (yI a :: st) := by
  obtain ⟨p, l', e, R, s, m, args, below, meth, c⟩ := x
  obtain ⟨hl0, hRm, hx, hb, hml, hown, hts, hK, hZ, hbs, hlk, hrt, hNw⟩ := hF
  intro H locs ls hH hS hl
  exact lv_lookup hx hb hdg hp (by rw [y_toInt ha]; exact ho) ht (k H locs ls hH hS hl)
theorem y_get (hF : yF x l g nL cc own ret rm) {C : String} {T : u_T} {N ci index kk : Nat} {f : (Int → Int) → va_E} {fs : List Value} (hdg : decode cc pc = .ok (.getfield index, 3)) (hk : kk < n) (hs : sch kk = some f) (hfs : f (σ kk) = .inr (ci, fs)) (hc : y_cls[ci]? = some (C, T, N)) (hin : ∀ w ∈ u_ws C T N, w ∈ y_tb) (j : Nat) (hj : j < N) (hw : Cond.fieldLink own index (T j).1 (T j).2.1 (T j).2.2.1 ∈ y_tb) {v : Value} (hv : fs[j]? = some v) (k : yV x g nL Q sch n σ cells slots (pc + 3) lv (v :: st)) : yV x g nL Q sch n σ cells slots pc lv (yR g kk :: st) := by
  obtain ⟨p, l', e, R, s, m, args, below, meth, c⟩ := x
  obtain ⟨hl0, hRm, hx, hb, hml, hown, hts, hK, hZ, hbs, hlk, hrt, hNw⟩ := hF
  intro H locs ls hH hS hl
  obtain ⟨q0, hq⟩ := y_at (g := g) (σ := σ) hk hs
  rw [hfs] at hq
  exact va_get hx hb hts hin hown hK hH.1 q0 hq hc j hj (hts _ hw) (fun _ h => h) hv hdg (k H locs ls hH hS hl)
theorem y_getN (hF : yF x l g nL cc own ret rm) {host : String} {C : String} {T : u_T} {N ci index kk : Nat} {f : (Int → Int) → va_E} {fs : List Value} (hdg : decode cc pc = .ok (.getfield index, 3)) (hk : kk < n) (hs : sch kk = some f) (hfs : f (σ kk) = .inr (ci, fs)) (hc : y_cls[ci]? = some (C, T, N)) (hin : ∀ w ∈ u_ws C T N, w ∈ y_tb) (j : Nat) (hj : j < N) (hw : Cond.fieldLinkNest own index (T j).1 (T j).2.1 (T j).2.2.1 host ∈ y_nw) {v : Value} (hv : fs[j]? = some v) (k : yV x g nL Q sch n σ cells slots (pc + 3) lv (v :: st)) : yV x g nL Q sch n σ cells slots pc lv (yR g kk :: st) := by
  obtain ⟨p, l', e, R, s, m, args, below, meth, c⟩ := x
  obtain ⟨hl0, hRm, hx, hb, hml, hown, hts, hK, hZ, hbs, hlk, hrt, hNw⟩ := hF
  intro H locs ls hH hS hl
  obtain ⟨q0, hq⟩ := y_at (g := g) (σ := σ) hk hs
  rw [hfs] at hq
  exact va_getN hx hb hts hin hown hK hH.1 q0 hq hc j hj (va_Nw.use rfl (hNw _ hw)) (fun _ h => h) hv hdg (k H locs ls hH hS hl)
theorem y_wset2 {g : yG} {sch sch' : yS} {n kk q0 : Nat} {σ σ' : yM} {f f' : (Int → Int) → va_E} {e : va_E} (hD : va_D (yA g) (yW g sch n σ)) (hk : kk < n) (hs : sch kk = some f) (hs' : sch' kk = some f') (hq : (yW g sch n σ)[q0]? = some (g.1 + kk, f (σ kk))) (he : f' (σ' kk) = e) (ho : ∀ k', k' ≠ kk → σ' k' = σ k' ∧ sch' k' = sch k') : (yW g sch n σ).set q0 (g.1 + kk, e) = yW g sch' n σ' := by
  have h1 := va_pl_set (X := []) (e := e) hD (y_mem (g := g) hk hs) (by rw [y_cf hs]; exact hq)
  have hL : yLA g sch' n = yLA g sch n := by
    unfold yLA
    congr 1
    refine List.filter_congr (fun k' _ => ?_)
    by_cases h : k' = kk
    · subst h
      rw [hs, hs']
      rfl
    · rw [(ho k' h).2]
  unfold yW
  rw [hL]
  refine (show _ = _ from h1).trans (y_plc (fun a ha => ?_))
  obtain ⟨k', f2, rfl, h2, h3⟩ := y_la ha
  by_cases hkk : k' = kk
  · subst hkk
    rw [va_up_self, y_cf hs', he]
  · rw [va_up_ne _ _ (by omega), y_cf h3, y_cf (by rw [(ho k' hkk).2]; exact h3), (ho k' hkk).1]
theorem y_putf (hF : yF x l g nL cc own ret rm) {C : String} {T : u_T} {N ci index kk : Nat} {f f' : (Int → Int) → va_E} {fs : List Value} {sch' : yS} {σ' : yM} (hdg : decode cc pc = .ok (.putfield index, 3)) (hk : kk < n) (hs : sch kk = some f) (hfs : f (σ kk) = .inr (ci, fs)) (hc : y_cls[ci]? = some (C, T, N)) (hin : ∀ w ∈ u_ws C T N, w ∈ y_tb) (j : Nat) (hj : j < N) (hw : Cond.fieldLink own index (T j).1 (T j).2.1 (T j).2.2.1 ∈ y_tb) (ty0 : Nat → FieldType) (hty : ∀ k, k < N → parseFieldDescriptor (T k).2.2.1 = some (ty0 k)) (hnm : ∀ a, a < N → ∀ b, b < N → a ≠ b → (T a).2.1 ≠ (T b).2.1) (hfin : (T j).2.2.2 = false) {ty : FieldType} {v : Value} (hd : parseFieldDescriptor (T j).2.2.1 = some ty) (hn : narrow ty v = v) (hfit : fits ty v = true) (hl2 : j < fs.length) (hs' : sch' kk = some f') (hfs' : f' (σ' kk) = .inr (ci, fs.set j v)) (ho : ∀ k', k' ≠ kk → σ' k' = σ k' ∧ sch' k' = sch k') (k : yV x g nL Q sch' n σ' cells slots (pc + 3) lv st) : yV x g nL Q sch n σ cells slots pc lv (v :: yR g kk :: st) := by
  obtain ⟨p, l', e, R, s, m, args, below, meth, c⟩ := x
  obtain ⟨hl0, hRm, hx, hb, hml, hown, hts, hK, hZ, hbs, hlk, hrt, hNw⟩ := hF
  intro H locs ls hH hS hl
  obtain ⟨q0, hq⟩ := y_at (g := g) (σ := σ) hk hs
  have hset := y_wset2 (e := .inr (ci, fs.set j v)) (σ' := σ') (sch' := sch') hH.2.1 hk hs hs' hq hfs' ho
  rw [hfs] at hq
  have hap := va_apart (own := own) hts hin ty0 hty hnm hK hc
  obtain ⟨r, h1, cell, q1, q2, q3, q4⟩ := hH.1 q0 _ hq
  have hr : r = (C, T, N) := Option.some.inj (h1.symm.trans hc)
  subst hr
  obtain ⟨hSl, hfc, kC, hkC, hkind⟩ := hK.1 ci _ hc
  obtain ⟨cf, kf, fi, fd, hi, hsl⟩ := hSl j hj
  have hlay := hts _ (hin _ (u_in_lay hj))
  unfold u_lay at hlay
  have hst := (u_facts hfc hkC (u_lays hts hin hj) hi).1
  rw [if_neg (by rw [hfin]; decide)] at hlay
  have h6 := u_store hfc hkC hkind hlay hi hd hn hfit
  refine W.putK hx hb (f := fd) ⟨hown, hts _ hw, ⟨_, _, _, hi⟩, hst⟩ (by rw [q2]; exact h6) q1 q3 (by rw [hsl]; exact k2_hasslot (q4 j hj)) rfl rfl hdg fun H' e1 e2 e3 => ?_
  rw [hsl] at e1 ⊢
  have hP1 := hH.1.set (e := .inr (ci, fs.set j v)) hH.2.1 hq ⟨_, hc, t_OB.to (V := updV (vp_V fs) j v) ⟨_, e1, q2, q3, t_set q4 hap hj v⟩ (fun j' _ => vp_updV_set hl2 v j')⟩ e3
  have hD1 := hH.2.1.set (e := .inr (ci, fs.set j v)) hq
  rw [hset] at hP1 hD1
  exact k H' _ ls ⟨hP1, hD1, e2.trans hH.2.2⟩ (hS.put e2 e3 (hH.2.1.2 q0 _ hq)) hl
theorem y_putfN (hF : yF x l g nL cc own ret rm) {host : String} {C : String} {T : u_T} {N ci index kk : Nat} {f f' : (Int → Int) → va_E} {fs : List Value} {sch' : yS} {σ' : yM} (hdg : decode cc pc = .ok (.putfield index, 3)) (hk : kk < n) (hs : sch kk = some f) (hfs : f (σ kk) = .inr (ci, fs)) (hc : y_cls[ci]? = some (C, T, N)) (hin : ∀ w ∈ u_ws C T N, w ∈ y_tb) (j : Nat) (hj : j < N) (hw : Cond.fieldLinkNest own index (T j).1 (T j).2.1 (T j).2.2.1 host ∈ y_nw) (ty0 : Nat → FieldType) (hty : ∀ k, k < N → parseFieldDescriptor (T k).2.2.1 = some (ty0 k)) (hnm : ∀ a, a < N → ∀ b, b < N → a ≠ b → (T a).2.1 ≠ (T b).2.1) (hfin : (T j).2.2.2 = false) {ty : FieldType} {v : Value} (hd : parseFieldDescriptor (T j).2.2.1 = some ty) (hn : narrow ty v = v) (hfit : fits ty v = true) (hl2 : j < fs.length) (hs' : sch' kk = some f') (hfs' : f' (σ' kk) = .inr (ci, fs.set j v)) (ho : ∀ k', k' ≠ kk → σ' k' = σ k' ∧ sch' k' = sch k') (k : yV x g nL Q sch' n σ' cells slots (pc + 3) lv st) : yV x g nL Q sch n σ cells slots pc lv (v :: yR g kk :: st) := by
  obtain ⟨p, l', e, R, s, m, args, below, meth, c⟩ := x
  obtain ⟨hl0, hRm, hx, hb, hml, hown, hts, hK, hZ, hbs, hlk, hrt, hNw⟩ := hF
  intro H locs ls hH hS hl
  obtain ⟨q0, hq⟩ := y_at (g := g) (σ := σ) hk hs
  have hset := y_wset2 (e := .inr (ci, fs.set j v)) (σ' := σ') (sch' := sch') hH.2.1 hk hs hs' hq hfs' ho
  rw [hfs] at hq
  have hap := va_apart (own := own) hts hin ty0 hty hnm hK hc
  obtain ⟨r, h1, cell, q1, q2, q3, q4⟩ := hH.1 q0 _ hq
  have hr : r = (C, T, N) := Option.some.inj (h1.symm.trans hc)
  subst hr
  obtain ⟨hSl, hfc, kC, hkC, hkind⟩ := hK.1 ci _ hc
  obtain ⟨cf, kf, fi, fd, hi, hsl⟩ := hSl j hj
  have hlay := hts _ (hin _ (u_in_lay hj))
  unfold u_lay at hlay
  have hst := (u_facts hfc hkC (u_lays hts hin hj) hi).1
  rw [if_neg (by rw [hfin]; decide)] at hlay
  have h6 := u_store hfc hkC hkind hlay hi hd hn hfit
  refine va_WputK hx hb (f := fd) hown (va_Nw.use rfl (hNw _ hw)) hi hst (by rw [q2]; exact h6) q1 q3 (by rw [hsl]; exact k2_hasslot (q4 j hj)) rfl rfl hdg fun H' e1 e2 e3 => ?_
  rw [hsl] at e1 ⊢
  have hP1 := hH.1.set (e := .inr (ci, fs.set j v)) hH.2.1 hq ⟨_, hc, t_OB.to (V := updV (vp_V fs) j v) ⟨_, e1, q2, q3, t_set q4 hap hj v⟩ (fun j' _ => vp_updV_set hl2 v j')⟩ e3
  have hD1 := hH.2.1.set (e := .inr (ci, fs.set j v)) hq
  rw [hset] at hP1 hD1
  exact k H' _ ls ⟨hP1, hD1, e2.trans hH.2.2⟩ (hS.put e2 e3 (hH.2.1.2 q0 _ hq)) hl
theorem y_putfF (hF : yF x l g nL cc own ret rm) {C : String} {T : u_T} {N ci index kk : Nat} {f f' : (Int → Int) → va_E} {fs : List Value} {sch' : yS} {σ' : yM} (hdg : decode cc pc = .ok (.putfield index, 3)) (hk : kk < n) (hs : sch kk = some f) (hfs : f (σ kk) = .inr (ci, fs)) (hc : y_cls[ci]? = some (C, T, N)) (hin : ∀ w ∈ u_ws C T N, w ∈ y_tb) (j : Nat) (hj : j < N) (hw : Cond.fieldLink own index (T j).1 (T j).2.1 (T j).2.2.1 ∈ y_tb) (ty0 : Nat → FieldType) (hty : ∀ k, k < N → parseFieldDescriptor (T k).2.2.1 = some (ty0 k)) (hnm : ∀ a, a < N → ∀ b, b < N → a ≠ b → (T a).2.1 ≠ (T b).2.1) (hfin : (T j).2.2.2 = true) (hin2 : x.2.2.2.2.2.2.2.2.1.name = "<init>") (hdecl : (T j).1 = own) {ty : FieldType} {v : Value} (hd : parseFieldDescriptor (T j).2.2.1 = some ty) (hn : narrow ty v = v) (hfit : fits ty v = true) (hl2 : j < fs.length) (hs' : sch' kk = some f') (hfs' : f' (σ' kk) = .inr (ci, fs.set j v)) (ho : ∀ k', k' ≠ kk → σ' k' = σ k' ∧ sch' k' = sch k') (k : yV x g nL Q sch' n σ' cells slots (pc + 3) lv st) : yV x g nL Q sch n σ cells slots pc lv (v :: yR g kk :: st) := by
  obtain ⟨p, l', e, R, s, m, args, below, meth, c⟩ := x
  obtain ⟨hl0, hRm, hx, hb, hml, hown, hts, hK, hZ, hbs, hlk, hrt, hNw⟩ := hF
  intro H locs ls hH hS hl
  obtain ⟨q0, hq⟩ := y_at (g := g) (σ := σ) hk hs
  have hset := y_wset2 (e := .inr (ci, fs.set j v)) (σ' := σ') (sch' := sch') hH.2.1 hk hs hs' hq hfs' ho
  rw [hfs] at hq
  have hap := va_apart (own := own) hts hin ty0 hty hnm hK hc
  obtain ⟨r, h1, cell, q1, q2, q3, q4⟩ := hH.1 q0 _ hq
  have hr : r = (C, T, N) := Option.some.inj (h1.symm.trans hc)
  subst hr
  obtain ⟨hSl, hfc, kC, hkC, hkind⟩ := hK.1 ci _ hc
  obtain ⟨cf, kf, fi, fd, hi, hsl⟩ := hSl j hj
  have hlay := hts _ (hin _ (u_in_lay hj))
  unfold u_lay at hlay
  have hst := (u_facts hfc hkC (u_lays hts hin hj) hi).1
  rw [if_pos hfin] at hlay
  have hcf : m.cls = cf := by
    obtain ⟨_, _, c', _, _, _, -, -, hf', -, -, -, hown2, -⟩ := Cond.laysFinal_spec hlay
    have e1 : c' = cf := by have := hi.symm.trans hf'; simp at this; exact this.1.symm
    rw [hdecl] at hown2
    rw [← e1]; exact Option.some.inj (hown.symm.trans hown2)
  have h6 := u_fits hfc hkC hkind (Or.inr hlay) hi hd hn hfit
  refine W.putFinK hx hb hown (hts _ hw) hi hst hcf hin2 (by rw [q2]; exact h6) q1 q3 (by rw [hsl]; exact k2_hasslot (q4 j hj)) rfl rfl hdg fun H' e1 e2 e3 => ?_
  rw [hsl] at e1 ⊢
  have hP1 := hH.1.set (e := .inr (ci, fs.set j v)) hH.2.1 hq ⟨_, hc, t_OB.to (V := updV (vp_V fs) j v) ⟨_, e1, q2, q3, t_set q4 hap hj v⟩ (fun j' _ => vp_updV_set hl2 v j')⟩ e3
  have hD1 := hH.2.1.set (e := .inr (ci, fs.set j v)) hq
  rw [hset] at hP1 hD1
  exact k H' _ ls ⟨hP1, hD1, e2.trans hH.2.2⟩ (hS.put e2 e3 (hH.2.1.2 q0 _ hq)) hl
theorem y_iaload (hF : yF x l g nL cc own ret rm) (hdg : decode cc pc = .ok (.iaload, 1)) {kk len : Nat} {i : Int} (hk : kk < n) (hs : sch kk = some (kI g len)) (hi : 0 ≤ i ∧ i < len) (hlen : len < 2147483648) (k : yV x g nL Q sch n σ cells slots (pc + 1) lv (yI (σ kk i) :: st)) : yV x g nL Q sch n σ cells slots pc lv (yI i :: yR g kk :: st) := by
  obtain ⟨p, l', e, R, s, m, args, below, meth, c⟩ := x
  obtain ⟨hl0, hRm, hx, hb, hml, hown, hts, hK, hZ, hbs, hlk, hrt, hNw⟩ := hF
  intro H locs ls hH hS hl
  obtain ⟨q0, hq⟩ := y_at (g := g) (σ := σ) hk hs
  obtain ⟨h1, h2⟩ := y_nat hi hlen
  refine va_iald hx hb hK hH.1 q0 0 hq rfl h1 hdg ?_
  rw [h2]
  exact k H locs ls hH hS hl
theorem y_baload (hF : yF x l g nL cc own ret rm) (hdg : decode cc pc = .ok (.baload, 1)) {kk len : Nat} {i : Int} (hk : kk < n) (hs : sch kk = some (kB g len)) (hi : 0 ≤ i ∧ i < len) (hlen : len < 2147483648) (k : yV x g nL Q sch n σ cells slots (pc + 1) lv (yI (σ kk i) :: st)) : yV x g nL Q sch n σ cells slots pc lv (yI i :: yR g kk :: st) := by
  obtain ⟨p, l', e, R, s, m, args, below, meth, c⟩ := x
  obtain ⟨hl0, hRm, hx, hb, hml, hown, hts, hK, hZ, hbs, hlk, hrt, hNw⟩ := hF
  intro H locs ls hH hS hl
  obtain ⟨q0, hq⟩ := y_at (g := g) (σ := σ) hk hs
  obtain ⟨h1, h2⟩ := y_nat hi hlen
  refine va_bald hx hb hK hH.1 q0 1 hq rfl h1 hdg ?_
  rw [h2]
  exact k H locs ls hH hS hl
theorem y_laload (hF : yF x l g nL cc own ret rm) (hdg : decode cc pc = .ok (.laload, 1)) {kk len : Nat} {i : Int} (hk : kk < n) (hs : sch kk = some (kJ g len)) (hi : 0 ≤ i ∧ i < len) (hlen : len < 2147483648) (k : yV x g nL Q sch n σ cells slots (pc + 1) lv (yJ (σ kk i) :: st)) : yV x g nL Q sch n σ cells slots pc lv (yI i :: yR g kk :: st) := by
  obtain ⟨p, l', e, R, s, m, args, below, meth, c⟩ := x
  obtain ⟨hl0, hRm, hx, hb, hml, hown, hts, hK, hZ, hbs, hlk, hrt, hNw⟩ := hF
  intro H locs ls hH hS hl
  obtain ⟨q0, hq⟩ := y_at (g := g) (σ := σ) hk hs
  obtain ⟨h1, h2⟩ := y_nat hi hlen
  refine va_lald hx hb hK hH.1 q0 2 hq rfl h1 hdg ?_
  rw [h2]
  exact k H locs ls hH hS hl
theorem y_iastore (hF : yF x l g nL cc own ret rm) (hdg : decode cc pc = .ok (.iastore, 1)) {kk len : Nat} {i v : Int} (hk : kk < n) (hs : sch kk = some (kI g len)) (hi : 0 ≤ i ∧ i < len) (hlen : len < 2147483648) (k : yV x g nL Q sch n (yset σ kk i v) cells slots (pc + 1) lv st) : yV x g nL Q sch n σ cells slots pc lv (yI v :: yI i :: yR g kk :: st) := by
  obtain ⟨p, l', e, R, s, m, args, below, meth, c⟩ := x
  obtain ⟨hl0, hRm, hx, hb, hml, hown, hts, hK, hZ, hbs, hlk, hrt, hNw⟩ := hF
  intro H locs ls hH hS hl
  obtain ⟨q0, hq⟩ := y_at (g := g) (σ := σ) hk hs
  obtain ⟨h1, h2⟩ := y_nat hi hlen
  have hset := y_wset (σ' := yset σ kk i v) (e := kI g len (yset σ kk i v kk)) hH.2.1 hk hs hq rfl (fun k' h => yset_n h)
  refine W.iast hx hb (hH.1 q0 _ hq) ((hK.2 0 _ rfl).1 len (fun j => .int (Int32.ofInt (σ kk (j : Int))))) (fun q => by cases q) (by show ¬ (_ < (0 : Int32) ∨ (arrV _ _ _).slots.size ≤ _); rw [arrV_size]; exact h1) rfl rfl hdg fun H1 e z oq => ?_
  have hP1 := hH.1.set (e := kI g len (yset σ kk i v kk)) hH.2.1 hq (by
    show H1[g.1 + kk]? = some (vp_cell _ _)
    rw [e]
    rw [vp_cell_i, vp_cell_i, arrV_store]
    congr 2
    funext q
    by_cases hq2 : q = (Int32.ofInt i).toNatClampNeg
    · subst hq2
      simp [updV, h2, yset]
    · have : ¬ (q : Int) = i := fun h => hq2 (by omega)
      simp [updV, hq2, yset, this]) oq
  have hD1 := hH.2.1.set (e := kI g len (yset σ kk i v kk)) hq
  rw [hset] at hP1 hD1
  exact k H1 _ ls ⟨hP1, hD1, z.trans hH.2.2⟩ (hS.put z oq (hH.2.1.2 q0 _ hq)) hl
theorem y_lastore (hF : yF x l g nL cc own ret rm) (hdg : decode cc pc = .ok (.lastore, 1)) {kk len : Nat} {i v : Int} (hk : kk < n) (hs : sch kk = some (kJ g len)) (hi : 0 ≤ i ∧ i < len) (hlen : len < 2147483648) (k : yV x g nL Q sch n (yset σ kk i v) cells slots (pc + 1) lv st) : yV x g nL Q sch n σ cells slots pc lv (yJ v :: yI i :: yR g kk :: st) := by
  obtain ⟨p, l', e, R, s, m, args, below, meth, c⟩ := x
  obtain ⟨hl0, hRm, hx, hb, hml, hown, hts, hK, hZ, hbs, hlk, hrt, hNw⟩ := hF
  intro H locs ls hH hS hl
  obtain ⟨q0, hq⟩ := y_at (g := g) (σ := σ) hk hs
  obtain ⟨h1, h2⟩ := y_nat hi hlen
  have hset := y_wset (σ' := yset σ kk i v) (e := kJ g len (yset σ kk i v kk)) hH.2.1 hk hs hq rfl (fun k' h => yset_n h)
  refine W.last hx hb (hH.1 q0 _ hq) ((hK.2 2 _ rfl).1 len (fun j => .long (Int64.ofInt (σ kk (j : Int))))) (fun q => by cases q) (by show ¬ (_ < (0 : Int32) ∨ (arrV _ _ _).slots.size ≤ _); rw [arrV_size]; exact h1) rfl rfl hdg fun H1 e z oq => ?_
  have hP1 := hH.1.set (e := kJ g len (yset σ kk i v kk)) hH.2.1 hq (by
    show H1[g.1 + kk]? = some (vp_cell _ _)
    rw [e]
    rw [vp_cell_l, vp_cell_l, arrV_store]
    congr 2
    funext q
    by_cases hq2 : q = (Int32.ofInt i).toNatClampNeg
    · subst hq2
      simp [updV, h2, yset]
    · have : ¬ (q : Int) = i := fun h => hq2 (by omega)
      simp [updV, hq2, yset, this]) oq
  have hD1 := hH.2.1.set (e := kJ g len (yset σ kk i v kk)) hq
  rw [hset] at hP1 hD1
  exact k H1 _ ls ⟨hP1, hD1, z.trans hH.2.2⟩ (hS.put z oq (hH.2.1.2 q0 _ hq)) hl
theorem y_alen (hF : yF x l g nL cc own ret rm) (hdg : decode cc pc = .ok (.arraylength, 1)) {kk len : Nat} (hk : kk < n) (hs : sch kk = some (kI g len)) (k : yV x g nL Q sch n σ cells slots (pc + 1) lv (yI len :: st)) : yV x g nL Q sch n σ cells slots pc lv (yR g kk :: st) := by
  obtain ⟨p, l', e, R, s, m, args, below, meth, c⟩ := x
  obtain ⟨hl0, hRm, hx, hb, hml, hown, hts, hK, hZ, hbs, hlk, hrt, hNw⟩ := hF
  intro H locs ls hH hS hl
  obtain ⟨q0, hq⟩ := y_at (g := g) (σ := σ) hk hs
  exact va_alen hx hb hK hH.1 q0 0 hq rfl Int32.ofInt_eq_ofNat.symm hdg (k H locs ls hH hS hl)
theorem y_iret (hF : yF x l g nL cc own (some .int) rm) (hdg : decode cc pc = .ok (.ireturn, 1)) {v : Int}  {Post : Option Value → Nat → yM → Prop} (hc : cells ≤ rm.cells) (hs : slots ≤ rm.slots) (hp : Post (some (yI v)) n σ) : yV x g nL (yQ x g sch Post rm) sch n σ cells slots pc lv [yI v] := by
  obtain ⟨p, l', e, R, s, m, args, below, meth, c⟩ := x
  obtain ⟨hl0, hRm, hx, hb, hml, hown, hts, hK, hZ, hbs, hlk, hrt, hNw⟩ := hF
  intro H locs ls hH hS hl
  refine W.widen hc hs ?_
  exact W.iret hx hb hrt (fun t ht _ => ⟨⟨_, n, σ, rfl, hp, by rw [ht]; exact hH⟩, hS.F ht⟩) (fun q hq => hS.2.2 q hq) hdg hlk
theorem y_zret (hF : yF x l g nL cc own (some .boolean) rm) (hdg : decode cc pc = .ok (.ireturn, 1)) {v : Int} (hv : v = 0 ∨ v = 1) {Post : Option Value → Nat → yM → Prop} (hc : cells ≤ rm.cells) (hs : slots ≤ rm.slots) (hp : Post (some (yI v)) n σ) : yV x g nL (yQ x g sch Post rm) sch n σ cells slots pc lv [yI v] := by
  obtain ⟨p, l', e, R, s, m, args, below, meth, c⟩ := x
  obtain ⟨hl0, hRm, hx, hb, hml, hown, hts, hK, hZ, hbs, hlk, hrt, hNw⟩ := hF
  intro H locs ls hH hS hl
  refine W.widen hc hs ?_
  exact W.zret hx hb hrt (by rcases hv with rfl | rfl <;> rfl) (fun t ht _ => ⟨⟨_, n, σ, rfl, hp, by rw [ht]; exact hH⟩, hS.F ht⟩) (fun q hq => hS.2.2 q hq) hdg hlk
theorem y_vret (hF : yF x l g nL cc own none rm) (hdg : decode cc pc = .ok (.return_, 1))   {Post : Option Value → Nat → yM → Prop} (hc : cells ≤ rm.cells) (hs : slots ≤ rm.slots) (hp : Post none n σ) : yV x g nL (yQ x g sch Post rm) sch n σ cells slots pc lv [] := by
  obtain ⟨p, l', e, R, s, m, args, below, meth, c⟩ := x
  obtain ⟨hl0, hRm, hx, hb, hml, hown, hts, hK, hZ, hbs, hlk, hrt, hNw⟩ := hF
  intro H locs ls hH hS hl
  refine W.widen hc hs ?_
  exact W.vret hx hb hrt (fun t ht _ => ⟨⟨_, n, σ, rfl, hp, by rw [ht]; exact hH⟩, hS.F ht⟩) (fun q hq => hS.2.2 q hq) hdg hlk
theorem y_lret (hF : yF x l g nL cc own (some .long) rm) (hdg : decode cc pc = .ok (.lreturn, 1)) {v : Int}  {Post : Option Value → Nat → yM → Prop} (hc : cells ≤ rm.cells) (hs : slots ≤ rm.slots) (hp : Post (some (yJ v)) n σ) : yV x g nL (yQ x g sch Post rm) sch n σ cells slots pc lv [yJ v] := by
  obtain ⟨p, l', e, R, s, m, args, below, meth, c⟩ := x
  obtain ⟨hl0, hRm, hx, hb, hml, hown, hts, hK, hZ, hbs, hlk, hrt, hNw⟩ := hF
  intro H locs ls hH hS hl
  refine W.widen hc hs ?_
  exact W.lret hx hb hrt (fun t ht _ => ⟨⟨_, n, σ, rfl, hp, by rw [ht]; exact hH⟩, hS.F ht⟩) (fun q hq => hS.2.2 q hq) hdg hlk
end YR2
