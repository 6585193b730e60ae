theorem dW_0 : decode code 0 = .ok (.new 8, 3) := by decide +kernel
theorem dW_3 : decode code 3 = .ok (.dup, 1) := by decide +kernel
theorem dW_4 : decode code 4 = .ok (.invokespecial 93, 3) := by decide +kernel
theorem dW_7 : decode code 7 = .ok (.astore_n 1, 1) := by decide +kernel
theorem dW_8 : decode code 8 = .ok (.new 94, 3) := by decide +kernel
theorem dW_11 : decode code 11 = .ok (.dup, 1) := by decide +kernel
theorem dW_12 : decode code 12 = .ok (.invokespecial 96, 3) := by decide +kernel
theorem dW_15 : decode code 15 = .ok (.astore_n 2, 1) := by decide +kernel
theorem dW_16 : decode code 16 = .ok (.iconst 1, 1) := by decide +kernel
theorem dW_17 : decode code 17 = .ok (.newarray .long, 2) := by decide +kernel
theorem dW_19 : decode code 19 = .ok (.astore_n 3, 1) := by decide +kernel
theorem dW_20 : decode code 20 = .ok (.iconst 0, 1) := by decide +kernel
theorem dW_21 : decode code 21 = .ok (.istore 4, 2) := by decide +kernel
theorem dW_2066 : decode code 2066 = .ok (.iconst 1, 1) := by decide +kernel
theorem dW_2067 : decode code 2067 = .ok (.ireturn, 1) := by decide +kernel
theorem m11_lo (σ : yM) {c : Nat} (h : c < 155) : mX11 σ c = σ c := by
  unfold mX11
  rw [ynew_n (show c ≠ 155 by omega), yset_n (show c ≠ 162 by omega), yset_n (show c ≠ 161 by omega), ynew_n (show c ≠ 170 by omega), ynew_n (show c ≠ 169 by omega), ynew_n (show c ≠ 168 by omega), ynew_n (show c ≠ 167 by omega), yset_n (show c ≠ 166 by omega), yset_n (show c ≠ 166 by omega), yset_n (show c ≠ 166 by omega), yset_n (show c ≠ 166 by omega), yset_n (show c ≠ 166 by omega), yset_n (show c ≠ 166 by omega), yset_n (show c ≠ 166 by omega), ynew_n (show c ≠ 166 by omega), ynew_n (show c ≠ 165 by omega), ynew_n (show c ≠ 164 by omega), ynew_n (show c ≠ 163 by omega), ynew_n (show c ≠ 162 by omega), ynew_n (show c ≠ 161 by omega), ynew_n (show c ≠ 160 by omega), ynew_n (show c ≠ 159 by omega), ynew_n (show c ≠ 158 by omega), ynew_n (show c ≠ 157 by omega), ynew_n (show c ≠ 156 by omega)]
def zF10 : List Value := [.null, .null, .null, .null, .null, .null, yI 0, .null, .null, .null, .null, .null, .null, .null, yI 0, yI 0]
def zF11 : List Value := [yI 0, .null, .null, .null, .null, .null, .null, .null, yI 0, yI 0, .null, yI 0, yI 0, yI 0, yI 0, yI 0, yI 0, yI 0, yI 0, yI 0, yI 0, yI 0, yI 0, yI 0, yI 0, yI 0, yI 0, .null, .null, yI 0, yI 0, yI 0, yI 0, yI 0, yI 0, yI 0, yI 0, yI 0, .null, .null, yI 0, yI 0, yI 0, yI 0]
theorem zS0_s : zS0 0 = some (fun _ => .inr (10, zF10)) := rfl
theorem zS1_s (g : yG) : zS1 g 155 = some (fun _ => .inr (11, zF11)) := rfl
section YLA
variable {x : yC} {l : Launch} {g : yG} {b L : Nat} {xs : Nat → Int32} {Q : State → Prop} {n : Nat} {σ : yM} {cells slots : Nat}
set_option maxHeartbeats 4000000 in
set_option maxRecDepth 100000 in
theorem zstart (E : zE x l g b L xs) (hAO : va_AO "FilledHoles$Snapshot" x.2.2.2.2.1) (hA2 : va_A2 x.2.2.2.2.1) (ke : ∀ (n : Nat) (σ : yM) (cells slots : Nat) (i : Int), cells ≤ 601024 → slots ≤ 7293033 → yV x g 7 Q (SC g) n σ cells slots 2066 (zL g b i) []) : yV x g 7 Q (fun _ => none) 0 (fun _ _ => 0) 0 0 0 [(0, .ref b)] [] := by
  have hF := E.1
  have hL := E.2.2.2.2.2.2
  refine y_newO (pc := 0) (C := RX10) (T := TX10) (N := 16) (ci := 10) (fs := zF10) (sch' := zS0) (f0 := (fun _ => .inr (10, zF10))) (φ := fun _ => 0) hF dW_0 iX10 tyX10 tyX10_ok w_106 w_107 w_86 rfl (by decide +kernel) ⟨Nat.le_of_ble_eq_true rfl, Nat.le_of_ble_eq_true rfl⟩ zS0_s rfl (fun k f h => absurd h (by omega)) ?_
  show yV x g 7 Q zS0 1 (ynew (fun _ _ => 0) 0 (fun _ => 0)) 1 16 3 [(0, .ref b)] [yR g 0]
  generalize ynew (fun _ _ => 0) 0 (fun _ => 0) = σ0
  refine y_dup (pc := 3) hF dW_3 rfl ?_
  refine y_cv (cells' := 155) (slots' := 39279) (y_rIA (pc := 4) (rest := [yR g 0]) hF hAO (tX10_init (σ := σ0) zS0 zS0_s) dW_4 w_108 qX10_init rfl ⟨Nat.le_of_ble_eq_true rfl, Nat.le_of_ble_eq_true rfl⟩ ⟨Nat.le_of_ble_eq_true rfl, Nat.le_of_ble_eq_true rfl⟩ (Nat.le_of_ble_eq_true rfl) rfl) rfl rfl (fun n' σ' zp => ?_)
  obtain ⟨zn, zs⟩ := zp
  subst zn
  subst zs
  show yV x g 7 Q (sX10 g zS0) 155 (mX10 σ0) 155 39279 7 [(0, .ref b)] [yR g 0]
  refine y_astore_n (pc := 7) (lv' := [(0, .ref b), (1, yR g 0)]) hF dW_7 (by decide) rfl rfl ?_
  refine y_newO (pc := 8) (C := RX11) (T := TX11) (N := 44) (ci := 11) (fs := zF11) (sch' := zS1 g) (f0 := (fun _ => .inr (11, zF11))) (φ := fun _ => 0) hF dW_8 iX11 tyX11 tyX11_ok w_1228 w_1229 w_98 rfl (by decide +kernel) ⟨Nat.le_of_ble_eq_true rfl, Nat.le_of_ble_eq_true rfl⟩ (zS1_s g) rfl (fun k f h hh => (sadd_o (show k ≠ 155 by omega)).symm.trans hh) ?_
  show yV x g 7 Q (zS1 g) 156 (ynew (mX10 σ0) 155 (fun _ => 0)) 156 39323 11 [(0, .ref b), (1, yR g 0)] [yR g 155]
  refine y_dup (pc := 11) hF dW_11 rfl ?_
  refine y_cv (cells' := 171) (slots' := 73063) (y_rIB (pc := 12) (rest := [yR g 155]) hF hA2 (tX11_init (σ := ynew (mX10 σ0) 155 (fun _ => 0)) (zS1 g) (zS1_s g)) dW_12 w_1230 qX11_init rfl ⟨Nat.le_of_ble_eq_true rfl, Nat.le_of_ble_eq_true rfl⟩ ⟨Nat.le_of_ble_eq_true rfl, Nat.le_of_ble_eq_true rfl⟩ (Nat.le_of_ble_eq_true rfl) rfl) rfl rfl (fun n' σ' zp => ?_)
  obtain ⟨zn, z1, z2, z3⟩ := zp
  subst zn
  show yV x g 7 Q (sX11 g (zS1 g)) 171 σ' 171 73063 15 [(0, .ref b), (1, yR g 0)] [yR g 155]
  refine y_astore_n (pc := 15) (lv' := [(0, .ref b), (1, yR g 0), (2, yR g 155)]) hF dW_15 (by decide) rfl rfl ?_
  refine y_iconst (pc := 16) hF dW_16 ?_
  refine y_newJ (pc := 17) (len := 1) (sch' := SC g) hF dW_17 wac_long (by decide) ⟨Nat.le_of_ble_eq_true rfl, Nat.le_of_ble_eq_true rfl⟩ rfl (fun k f hk h => (zS_all g k hk).symm.trans h) ?_
  show yV x g 7 Q (SC g) 172 (ynew σ' 171 (fun _ => 0)) 172 73064 19 [(0, .ref b), (1, yR g 0), (2, yR g 155)] [yR g 171]
  refine y_astore_n (pc := 19) (lv' := [(0, .ref b), (1, yR g 0), (2, yR g 155), (3, yR g 171)]) hF dW_19 (by decide) rfl rfl ?_
  refine y_iconst (pc := 20) hF dW_20 ?_
  refine y_istore (pc := 21) (lv' := zL g b 0) hF dW_21 (by decide) rfl rfl ?_
  refine zloop E ke 512 0 0 172 _ zA0 172 73064 (by omega) ⟨z0_c (σ := σ0) (fun c hc => ?_), z0_m (σ := ynew (mX10 σ0) 155 (fun _ => 0)) (fun c h1 h2 h3 => ?_) (fun a b h1 h2 h3 h4 => ?_) (fun j hj => ?_), z0_W⟩ (by omega) (by omega) (by omega) (by omega) (by omega) (by omega) (by omega)
  · rw [ynew_n (by omega), z1 c (by omega), m11_lo _ hc, ynew_n (by omega)]
  · rw [ynew_n (by omega), z1 c h3]
  · rw [ynew_n (by omega)]
    exact z2 a b h1 h2 h3 h4
  · rw [ynew_n (by omega)]
    exact z3 j hj
end YLA
