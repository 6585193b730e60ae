def sX2 (g : yG) (sch : yS) (k : Nat) : yS := sadd (sadd sch (k + 1) (kI g 270)) k (kJou g k)
def mX2 (σ : yM) (k : Nat) : yM := ynew (ynew (σ) (k + 1) (fun _ => 0)) k (fun _ => 0)
theorem sX2_wk {g : yG} {R : yS} {k n : Nat} {F D : (Int → Int) → va_E} {c : Nat} {f : (Int → Int) → va_E} (h : k < n) (hh : sadd (sX2 g R n) k F c = some f) : sX2 g (sadd (sadd R n D) k F) n c = some f := by
  rcases Decidable.em (c = k) with e | e
  · subst e
    have e1 : f = F := (Option.some.inj ((sadd_s _ _ _).symm.trans hh)).symm
    subst e1
    unfold sX2 sadd
    repeat rw [if_neg (by omega)]
    rw [if_pos rfl]
  · rw [sadd_o e] at hh
    rcases Decidable.em (c = n) with e2 | e2
    · subst e2
      unfold sX2 sadd at hh ⊢
      (try simp only [if_true] at hh ⊢)
      exact hh
    · unfold sX2 sadd at hh ⊢
      rw [if_neg e2] at hh ⊢
      simp only [if_neg e, if_neg e2]
      exact hh
theorem dX2_init_0 : decode cX2_init 0 = .ok (.aload_n 0, 1) := by decide +kernel
theorem dX2_init_1 : decode cX2_init 1 = .ok (.invokespecial 3, 3) := by decide +kernel
theorem dX2_init_4 : decode cX2_init 4 = .ok (.aload_n 0, 1) := by decide +kernel
theorem dX2_init_5 : decode cX2_init 5 = .ok (.iconst 0, 1) := by decide +kernel
theorem dX2_init_6 : decode cX2_init 6 = .ok (.putfield 9, 3) := by decide +kernel
theorem dX2_init_9 : decode cX2_init 9 = .ok (.aload_n 0, 1) := by decide +kernel
theorem dX2_init_10 : decode cX2_init 10 = .ok (.lconst 0, 1) := by decide +kernel
theorem dX2_init_11 : decode cX2_init 11 = .ok (.putfield 15, 3) := by decide +kernel
theorem dX2_init_14 : decode cX2_init 14 = .ok (.aload_n 0, 1) := by decide +kernel
theorem dX2_init_15 : decode cX2_init 15 = .ok (.sipush 270, 3) := by decide +kernel
theorem dX2_init_18 : decode cX2_init 18 = .ok (.newarray .int, 2) := by decide +kernel
theorem dX2_init_20 : decode cX2_init 20 = .ok (.putfield 19, 3) := by decide +kernel
theorem dX2_init_23 : decode cX2_init 23 = .ok (.return_, 1) := by decide +kernel
set_option maxHeartbeats 4000000 in
set_option maxRecDepth 100000 in
theorem tX2_init {l : Launch} {g : yG} {σ : yM} (k : Nat) (sch : yS) (hs0 : sch k = some (fun _ => .inr (2, [yI 0, yJ 0, .null]))) : yMet l g yX2_init cX2_init 1 none (rmA 2 1 270) [yR g k] sch (k + 1) σ (sX2 g sch k) (yPv (fun n' σ' => n' = k + 2 ∧ σ' = mX2 σ k)) := by
  refine y_startC (by decide) (Nat.le_of_ble_eq_true rfl) rfl (fun X0 hF hIn => ?_)
  refine y_wk (sch' := sadd sch k (fun _ => .inr (2, [yI 0, yJ 0, .null]))) (fun c f _ hh => sad_b hs0 hh) ?_
  show yV X0 g 1 (yQ X0 g (sX2 g sch k) (yPv (fun n' σ' => n' = k + 2 ∧ σ' = mX2 σ k)) (rmA 2 1 270)) (sadd sch k (fun _ => .inr (2, [yI 0, yJ 0, .null]))) (k + 1) (σ) 0 0 0 [(0, yR g k)] []
  refine y_aload_n (pc := 0) hF dX2_init_0 0 rfl ?_
  refine y_objI (pc := 1) hF dX2_init_1 w_256 w_112 w_oi ⟨Nat.le_of_ble_eq_true rfl, Nat.le_of_ble_eq_true rfl⟩ (Nat.le_of_ble_eq_true rfl) ?_
  refine y_aload_n (pc := 4) hF dX2_init_4 0 rfl ?_
  refine y_iconst (pc := 5) hF dX2_init_5 ?_
  refine y_putf (pc := 6) (ci := 2) (σ' := σ) (sch' := sadd sch k (fun _ => .inr (2, [yI 0, yJ 0, .null]))) hF dX2_init_6 (by omega) (sadd_s _ _ _) rfl rfl iX2 0 (by decide) w_257 tyX2 tyX2_ok nmX2 rfl rfl rfl rfl (Nat.le_of_ble_eq_true rfl) (sadd_s _ _ _) rfl (fun k' h => ⟨rfl, (sadd_o h).trans (sadd_o h).symm⟩) ?_
  show yV X0 g 1 (yQ X0 g (sX2 g sch k) (yPv (fun n' σ' => n' = k + 2 ∧ σ' = mX2 σ k)) (rmA 2 1 270)) (sadd sch k (fun _ => .inr (2, [yI 0, yJ 0, .null]))) (k + 1) (σ) 0 0 9 [(0, yR g k)] []
  refine y_aload_n (pc := 9) hF dX2_init_9 0 rfl ?_
  refine y_lconst (pc := 10) (v := 0) hF dX2_init_10 rfl ?_
  refine y_putf (pc := 11) (ci := 2) (σ' := σ) (sch' := sadd sch k (fun _ => .inr (2, [yI 0, yJ 0, .null]))) hF dX2_init_11 (by omega) (sadd_s _ _ _) rfl rfl iX2 1 (by decide) w_260 tyX2 tyX2_ok nmX2 rfl rfl rfl rfl (Nat.le_of_ble_eq_true rfl) (sadd_s _ _ _) rfl (fun k' h => ⟨rfl, (sadd_o h).trans (sadd_o h).symm⟩) ?_
  show yV X0 g 1 (yQ X0 g (sX2 g sch k) (yPv (fun n' σ' => n' = k + 2 ∧ σ' = mX2 σ k)) (rmA 2 1 270)) (sadd sch k (fun _ => .inr (2, [yI 0, yJ 0, .null]))) (k + 1) (σ) 0 0 14 [(0, yR g k)] []
  refine y_aload_n (pc := 14) hF dX2_init_14 0 rfl ?_
  refine y_sipush (pc := 15) hF dX2_init_15 (by decide) ?_
  refine y_newI (pc := 18) (len := 270) (sch' := sadd (sadd sch (k + 1) (kI g 270)) k (fun _ => .inr (2, [yI 0, yJ 0, .null]))) hF dX2_init_18 wac_int (by decide) ⟨Nat.le_of_ble_eq_true rfl, Nat.le_of_ble_eq_true rfl⟩ ((sadd_o (by omega)).trans (sadd_s _ _ _)) (sal_o _ _ _ _ _) ?_
  show yV X0 g 1 (yQ X0 g (sX2 g sch k) (yPv (fun n' σ' => n' = k + 2 ∧ σ' = mX2 σ k)) (rmA 2 1 270)) (sadd (sadd sch (k + 1) (kI g 270)) k (fun _ => .inr (2, [yI 0, yJ 0, .null]))) (k + 2) (ynew (σ) (k + 1) (fun _ => 0)) 1 270 20 [(0, yR g k)] [yR g (k + 1), yR g k]
  refine y_putfF (pc := 20) (ci := 2) (σ' := ynew (σ) (k + 1) (fun _ => 0)) (sch' := sadd (sadd sch (k + 1) (kI g 270)) k (fun _ => .inr (2, [yI 0, yJ 0, yR g (k + 1)]))) hF dX2_init_20 (by omega) (sadd_s _ _ _) rfl rfl iX2 2 (by decide) w_262 tyX2 tyX2_ok nmX2 rfl hIn rfl rfl rfl rfl (Nat.le_of_ble_eq_true rfl) (sadd_s _ _ _) rfl (fun k' h => ⟨rfl, (sadd_o h).trans (sadd_o h).symm⟩) ?_
  show yV X0 g 1 (yQ X0 g (sX2 g sch k) (yPv (fun n' σ' => n' = k + 2 ∧ σ' = mX2 σ k)) (rmA 2 1 270)) (sadd (sadd sch (k + 1) (kI g 270)) k (fun _ => .inr (2, [yI 0, yJ 0, yR g (k + 1)]))) (k + 2) (ynew (σ) (k + 1) (fun _ => 0)) 1 270 23 [(0, yR g k)] []
  refine y_fin (R := sadd sch (k + 1) (kI g 270)) (k := k) (K := kJou g k) (φ := (fun _ => 0)) rfl ?_
  exact y_vret (pc := 23) hF dX2_init_23 (Nat.le_of_ble_eq_true rfl) (Nat.le_of_ble_eq_true rfl) ⟨rfl, rfl, rfl⟩

def sX7 (g : yG) (sch : yS) (k : Nat) : yS := sadd sch k (kSet)
def mX7 (σ : yM) (k : Nat) : yM := ynew (σ) k (fun j => if j = 0 then 1 else if j = 1 then 20 else 0)
theorem sX7_wk {g : yG} {R : yS} {k n : Nat} {F D : (Int → Int) → va_E} {c : Nat} {f : (Int → Int) → va_E} (h : k < n) (hh : sadd (sX7 g R n) k F c = some f) : sX7 g (sadd (sadd R n D) k F) n c = some f := by
  rcases Decidable.em (c = k) with e | e
  · subst e
    have e1 : f = F := (Option.some.inj ((sadd_s _ _ _).symm.trans hh)).symm
    subst e1
    unfold sX7 sadd
    repeat rw [if_neg (by omega)]
    rw [if_pos rfl]
  · rw [sadd_o e] at hh
    rcases Decidable.em (c = n) with e2 | e2
    · subst e2
      unfold sX7 sadd at hh ⊢
      (try simp only [if_true] at hh ⊢)
      exact hh
    · unfold sX7 sadd at hh ⊢
      rw [if_neg e2] at hh ⊢
      simp only [if_neg e, if_neg e2]
      exact hh
theorem dX7_init_0 : decode cX7_init 0 = .ok (.aload_n 0, 1) := by decide +kernel
theorem dX7_init_1 : decode cX7_init 1 = .ok (.invokespecial 3, 3) := by decide +kernel
theorem dX7_init_4 : decode cX7_init 4 = .ok (.aload_n 0, 1) := by decide +kernel
theorem dX7_init_5 : decode cX7_init 5 = .ok (.iconst 1, 1) := by decide +kernel
theorem dX7_init_6 : decode cX7_init 6 = .ok (.putfield 9, 3) := by decide +kernel
theorem dX7_init_9 : decode cX7_init 9 = .ok (.aload_n 0, 1) := by decide +kernel
theorem dX7_init_10 : decode cX7_init 10 = .ok (.bipush 20, 2) := by decide +kernel
theorem dX7_init_12 : decode cX7_init 12 = .ok (.putfield 15, 3) := by decide +kernel
theorem dX7_init_15 : decode cX7_init 15 = .ok (.aload_n 0, 1) := by decide +kernel
theorem dX7_init_16 : decode cX7_init 16 = .ok (.iconst 0, 1) := by decide +kernel
theorem dX7_init_17 : decode cX7_init 17 = .ok (.putfield 18, 3) := by decide +kernel
theorem dX7_init_20 : decode cX7_init 20 = .ok (.aload_n 0, 1) := by decide +kernel
theorem dX7_init_21 : decode cX7_init 21 = .ok (.iconst 0, 1) := by decide +kernel
theorem dX7_init_22 : decode cX7_init 22 = .ok (.putfield 21, 3) := by decide +kernel
theorem dX7_init_25 : decode cX7_init 25 = .ok (.aload_n 0, 1) := by decide +kernel
theorem dX7_init_26 : decode cX7_init 26 = .ok (.iconst 0, 1) := by decide +kernel
theorem dX7_init_27 : decode cX7_init 27 = .ok (.putfield 24, 3) := by decide +kernel
theorem dX7_init_30 : decode cX7_init 30 = .ok (.aload_n 0, 1) := by decide +kernel
theorem dX7_init_31 : decode cX7_init 31 = .ok (.iconst 0, 1) := by decide +kernel
theorem dX7_init_32 : decode cX7_init 32 = .ok (.putfield 27, 3) := by decide +kernel
theorem dX7_init_35 : decode cX7_init 35 = .ok (.aload_n 0, 1) := by decide +kernel
theorem dX7_init_36 : decode cX7_init 36 = .ok (.iconst 0, 1) := by decide +kernel
theorem dX7_init_37 : decode cX7_init 37 = .ok (.putfield 30, 3) := by decide +kernel
theorem dX7_init_40 : decode cX7_init 40 = .ok (.return_, 1) := by decide +kernel
set_option maxHeartbeats 4000000 in
set_option maxRecDepth 100000 in
theorem tX7_init {l : Launch} {g : yG} {σ : yM} (k : Nat) (sch : yS) (hs0 : sch k = some (fun _ => .inr (7, [yI 0, yI 0, yI 0, yI 0, yI 0, yI 0, yI 0]))) : yMet l g yX7_init cX7_init 1 none (rmA 2 0 0) [yR g k] sch (k + 1) σ (sX7 g sch k) (yPv (fun n' σ' => n' = k + 1 ∧ σ' = mX7 σ k)) := by
  refine y_startC (by decide) (Nat.le_of_ble_eq_true rfl) rfl (fun X0 hF hIn => ?_)
  refine y_wk (sch' := sadd sch k (fun _ => .inr (7, [yI 0, yI 0, yI 0, yI 0, yI 0, yI 0, yI 0]))) (fun c f _ hh => sad_b hs0 hh) ?_
  show yV X0 g 1 (yQ X0 g (sX7 g sch k) (yPv (fun n' σ' => n' = k + 1 ∧ σ' = mX7 σ k)) (rmA 2 0 0)) (sadd sch k (fun _ => .inr (7, [yI 0, yI 0, yI 0, yI 0, yI 0, yI 0, yI 0]))) (k + 1) (σ) 0 0 0 [(0, yR g k)] []
  refine y_aload_n (pc := 0) hF dX7_init_0 0 rfl ?_
  refine y_objI (pc := 1) hF dX7_init_1 w_162 w_112 w_oi ⟨Nat.le_of_ble_eq_true rfl, Nat.le_of_ble_eq_true rfl⟩ (Nat.le_of_ble_eq_true rfl) ?_
  refine y_aload_n (pc := 4) hF dX7_init_4 0 rfl ?_
  refine y_iconst (pc := 5) hF dX7_init_5 ?_
  refine y_putf (pc := 6) (ci := 7) (σ' := σ) (sch' := sadd sch k (fun _ => .inr (7, [yI 1, yI 0, yI 0, yI 0, yI 0, yI 0, yI 0]))) hF dX7_init_6 (by omega) (sadd_s _ _ _) rfl rfl iX7 0 (by decide) w_163 tyX7 tyX7_ok nmX7 rfl rfl rfl rfl (Nat.le_of_ble_eq_true rfl) (sadd_s _ _ _) rfl (fun k' h => ⟨rfl, (sadd_o h).trans (sadd_o h).symm⟩) ?_
  show yV X0 g 1 (yQ X0 g (sX7 g sch k) (yPv (fun n' σ' => n' = k + 1 ∧ σ' = mX7 σ k)) (rmA 2 0 0)) (sadd sch k (fun _ => .inr (7, [yI 1, yI 0, yI 0, yI 0, yI 0, yI 0, yI 0]))) (k + 1) (σ) 0 0 9 [(0, yR g k)] []
  refine y_aload_n (pc := 9) hF dX7_init_9 0 rfl ?_
  refine y_bipush (pc := 10) hF dX7_init_10 (by decide) ?_
  refine y_putf (pc := 12) (ci := 7) (σ' := σ) (sch' := sadd sch k (fun _ => .inr (7, [yI 1, yI 20, yI 0, yI 0, yI 0, yI 0, yI 0]))) hF dX7_init_12 (by omega) (sadd_s _ _ _) rfl rfl iX7 1 (by decide) w_168 tyX7 tyX7_ok nmX7 rfl rfl rfl rfl (Nat.le_of_ble_eq_true rfl) (sadd_s _ _ _) rfl (fun k' h => ⟨rfl, (sadd_o h).trans (sadd_o h).symm⟩) ?_
  show yV X0 g 1 (yQ X0 g (sX7 g sch k) (yPv (fun n' σ' => n' = k + 1 ∧ σ' = mX7 σ k)) (rmA 2 0 0)) (sadd sch k (fun _ => .inr (7, [yI 1, yI 20, yI 0, yI 0, yI 0, yI 0, yI 0]))) (k + 1) (σ) 0 0 15 [(0, yR g k)] []
  refine y_aload_n (pc := 15) hF dX7_init_15 0 rfl ?_
  refine y_iconst (pc := 16) hF dX7_init_16 ?_
  refine y_putf (pc := 17) (ci := 7) (σ' := σ) (sch' := sadd sch k (fun _ => .inr (7, [yI 1, yI 20, yI 0, yI 0, yI 0, yI 0, yI 0]))) hF dX7_init_17 (by omega) (sadd_s _ _ _) rfl rfl iX7 2 (by decide) w_171 tyX7 tyX7_ok nmX7 rfl rfl rfl rfl (Nat.le_of_ble_eq_true rfl) (sadd_s _ _ _) rfl (fun k' h => ⟨rfl, (sadd_o h).trans (sadd_o h).symm⟩) ?_
  show yV X0 g 1 (yQ X0 g (sX7 g sch k) (yPv (fun n' σ' => n' = k + 1 ∧ σ' = mX7 σ k)) (rmA 2 0 0)) (sadd sch k (fun _ => .inr (7, [yI 1, yI 20, yI 0, yI 0, yI 0, yI 0, yI 0]))) (k + 1) (σ) 0 0 20 [(0, yR g k)] []
  refine y_aload_n (pc := 20) hF dX7_init_20 0 rfl ?_
  refine y_iconst (pc := 21) hF dX7_init_21 ?_
  refine y_putf (pc := 22) (ci := 7) (σ' := σ) (sch' := sadd sch k (fun _ => .inr (7, [yI 1, yI 20, yI 0, yI 0, yI 0, yI 0, yI 0]))) hF dX7_init_22 (by omega) (sadd_s _ _ _) rfl rfl iX7 3 (by decide) w_174 tyX7 tyX7_ok nmX7 rfl rfl rfl rfl (Nat.le_of_ble_eq_true rfl) (sadd_s _ _ _) rfl (fun k' h => ⟨rfl, (sadd_o h).trans (sadd_o h).symm⟩) ?_
  show yV X0 g 1 (yQ X0 g (sX7 g sch k) (yPv (fun n' σ' => n' = k + 1 ∧ σ' = mX7 σ k)) (rmA 2 0 0)) (sadd sch k (fun _ => .inr (7, [yI 1, yI 20, yI 0, yI 0, yI 0, yI 0, yI 0]))) (k + 1) (σ) 0 0 25 [(0, yR g k)] []
  refine y_aload_n (pc := 25) hF dX7_init_25 0 rfl ?_
  refine y_iconst (pc := 26) hF dX7_init_26 ?_
  refine y_putf (pc := 27) (ci := 7) (σ' := σ) (sch' := sadd sch k (fun _ => .inr (7, [yI 1, yI 20, yI 0, yI 0, yI 0, yI 0, yI 0]))) hF dX7_init_27 (by omega) (sadd_s _ _ _) rfl rfl iX7 4 (by decide) w_177 tyX7 tyX7_ok nmX7 rfl rfl rfl rfl (Nat.le_of_ble_eq_true rfl) (sadd_s _ _ _) rfl (fun k' h => ⟨rfl, (sadd_o h).trans (sadd_o h).symm⟩) ?_
  show yV X0 g 1 (yQ X0 g (sX7 g sch k) (yPv (fun n' σ' => n' = k + 1 ∧ σ' = mX7 σ k)) (rmA 2 0 0)) (sadd sch k (fun _ => .inr (7, [yI 1, yI 20, yI 0, yI 0, yI 0, yI 0, yI 0]))) (k + 1) (σ) 0 0 30 [(0, yR g k)] []
  refine y_aload_n (pc := 30) hF dX7_init_30 0 rfl ?_
  refine y_iconst (pc := 31) hF dX7_init_31 ?_
  refine y_putf (pc := 32) (ci := 7) (σ' := σ) (sch' := sadd sch k (fun _ => .inr (7, [yI 1, yI 20, yI 0, yI 0, yI 0, yI 0, yI 0]))) hF dX7_init_32 (by omega) (sadd_s _ _ _) rfl rfl iX7 5 (by decide) w_180 tyX7 tyX7_ok nmX7 rfl rfl rfl rfl (Nat.le_of_ble_eq_true rfl) (sadd_s _ _ _) rfl (fun k' h => ⟨rfl, (sadd_o h).trans (sadd_o h).symm⟩) ?_
  show yV X0 g 1 (yQ X0 g (sX7 g sch k) (yPv (fun n' σ' => n' = k + 1 ∧ σ' = mX7 σ k)) (rmA 2 0 0)) (sadd sch k (fun _ => .inr (7, [yI 1, yI 20, yI 0, yI 0, yI 0, yI 0, yI 0]))) (k + 1) (σ) 0 0 35 [(0, yR g k)] []
  refine y_aload_n (pc := 35) hF dX7_init_35 0 rfl ?_
  refine y_iconst (pc := 36) hF dX7_init_36 ?_
  refine y_putf (pc := 37) (ci := 7) (σ' := σ) (sch' := sadd sch k (fun _ => .inr (7, [yI 1, yI 20, yI 0, yI 0, yI 0, yI 0, yI 0]))) hF dX7_init_37 (by omega) (sadd_s _ _ _) rfl rfl iX7 6 (by decide) w_183 tyX7 tyX7_ok nmX7 rfl rfl rfl rfl (Nat.le_of_ble_eq_true rfl) (sadd_s _ _ _) rfl (fun k' h => ⟨rfl, (sadd_o h).trans (sadd_o h).symm⟩) ?_
  show yV X0 g 1 (yQ X0 g (sX7 g sch k) (yPv (fun n' σ' => n' = k + 1 ∧ σ' = mX7 σ k)) (rmA 2 0 0)) (sadd sch k (fun _ => .inr (7, [yI 1, yI 20, yI 0, yI 0, yI 0, yI 0, yI 0]))) (k + 1) (σ) 0 0 40 [(0, yR g k)] []
  refine y_fin (R := sch) (k := k) (K := kSet) (φ := (fun j => if j = 0 then 1 else if j = 1 then 20 else 0)) rfl ?_
  exact y_vret (pc := 40) hF dX7_init_40 (Nat.le_of_ble_eq_true rfl) (Nat.le_of_ble_eq_true rfl) ⟨rfl, rfl, rfl⟩

def sX4 (g : yG) (sch : yS) (k : Nat) : yS := sadd (sadd (sadd (sadd (sadd (sadd sch (k + 1) (kI g 400)) (k + 2) (kI g 400)) (k + 3) (kI g 400)) (k + 4) (kI g 400)) (k + 5) (kI g 400)) k (kPic g k)
def mX4 (σ : yM) (k : Nat) : yM := ynew (yfl (yfl (yfl (ynew (ynew (ynew (ynew (ynew (σ) (k + 1) (fun _ => 0)) (k + 2) (fun _ => 0)) (k + 3) (fun _ => 0)) (k + 4) (fun _ => 0)) (k + 5) (fun _ => 0)) (k + 2) ((400 : Nat) : Int) 1000) (k + 4) ((400 : Nat) : Int) (-1)) (k + 5) ((400 : Nat) : Int) (-1)) k (fun j => if j = 0 then 8 else if j = 1 then 8 else 0)
theorem sX4_wk {g : yG} {R : yS} {k n : Nat} {F D : (Int → Int) → va_E} {c : Nat} {f : (Int → Int) → va_E} (h : k < n) (hh : sadd (sX4 g R n) k F c = some f) : sX4 g (sadd (sadd R n D) k F) n c = some f := by
  rcases Decidable.em (c = k) with e | e
  · subst e
    have e1 : f = F := (Option.some.inj ((sadd_s _ _ _).symm.trans hh)).symm
    subst e1
    unfold sX4 sadd
    repeat rw [if_neg (by omega)]
    rw [if_pos rfl]
  · rw [sadd_o e] at hh
    rcases Decidable.em (c = n) with e2 | e2
    · subst e2
      unfold sX4 sadd at hh ⊢
      (try simp only [if_true] at hh ⊢)
      exact hh
    · unfold sX4 sadd at hh ⊢
      rw [if_neg e2] at hh ⊢
      simp only [if_neg e, if_neg e2]
      exact hh
theorem dX4_init_0 : decode cX4_init 0 = .ok (.aload_n 0, 1) := by decide +kernel
theorem dX4_init_1 : decode cX4_init 1 = .ok (.invokespecial 3, 3) := by decide +kernel
theorem dX4_init_4 : decode cX4_init 4 = .ok (.aload_n 0, 1) := by decide +kernel
theorem dX4_init_5 : decode cX4_init 5 = .ok (.bipush 8, 2) := by decide +kernel
theorem dX4_init_7 : decode cX4_init 7 = .ok (.putfield 9, 3) := by decide +kernel
theorem dX4_init_10 : decode cX4_init 10 = .ok (.aload_n 0, 1) := by decide +kernel
theorem dX4_init_11 : decode cX4_init 11 = .ok (.bipush 8, 2) := by decide +kernel
theorem dX4_init_13 : decode cX4_init 13 = .ok (.putfield 15, 3) := by decide +kernel
theorem dX4_init_16 : decode cX4_init 16 = .ok (.aload_n 0, 1) := by decide +kernel
theorem dX4_init_17 : decode cX4_init 17 = .ok (.sipush 400, 3) := by decide +kernel
theorem dX4_init_20 : decode cX4_init 20 = .ok (.newarray .int, 2) := by decide +kernel
theorem dX4_init_22 : decode cX4_init 22 = .ok (.putfield 18, 3) := by decide +kernel
theorem dX4_init_25 : decode cX4_init 25 = .ok (.aload_n 0, 1) := by decide +kernel
theorem dX4_init_26 : decode cX4_init 26 = .ok (.sipush 400, 3) := by decide +kernel
theorem dX4_init_29 : decode cX4_init 29 = .ok (.newarray .int, 2) := by decide +kernel
theorem dX4_init_31 : decode cX4_init 31 = .ok (.putfield 22, 3) := by decide +kernel
theorem dX4_init_34 : decode cX4_init 34 = .ok (.aload_n 0, 1) := by decide +kernel
theorem dX4_init_35 : decode cX4_init 35 = .ok (.sipush 400, 3) := by decide +kernel
theorem dX4_init_38 : decode cX4_init 38 = .ok (.newarray .int, 2) := by decide +kernel
theorem dX4_init_40 : decode cX4_init 40 = .ok (.putfield 25, 3) := by decide +kernel
theorem dX4_init_43 : decode cX4_init 43 = .ok (.aload_n 0, 1) := by decide +kernel
theorem dX4_init_44 : decode cX4_init 44 = .ok (.sipush 400, 3) := by decide +kernel
theorem dX4_init_47 : decode cX4_init 47 = .ok (.newarray .int, 2) := by decide +kernel
theorem dX4_init_49 : decode cX4_init 49 = .ok (.putfield 28, 3) := by decide +kernel
theorem dX4_init_52 : decode cX4_init 52 = .ok (.aload_n 0, 1) := by decide +kernel
theorem dX4_init_53 : decode cX4_init 53 = .ok (.sipush 400, 3) := by decide +kernel
theorem dX4_init_56 : decode cX4_init 56 = .ok (.newarray .int, 2) := by decide +kernel
theorem dX4_init_58 : decode cX4_init 58 = .ok (.putfield 31, 3) := by decide +kernel
theorem dX4_init_61 : decode cX4_init 61 = .ok (.aload_n 0, 1) := by decide +kernel
theorem dX4_init_62 : decode cX4_init 62 = .ok (.getfield 22, 3) := by decide +kernel
theorem dX4_init_65 : decode cX4_init 65 = .ok (.sipush 1000, 3) := by decide +kernel
theorem dX4_init_68 : decode cX4_init 68 = .ok (.invokestatic 34, 3) := by decide +kernel
theorem dX4_init_71 : decode cX4_init 71 = .ok (.aload_n 0, 1) := by decide +kernel
theorem dX4_init_72 : decode cX4_init 72 = .ok (.getfield 28, 3) := by decide +kernel
theorem dX4_init_75 : decode cX4_init 75 = .ok (.iconst (-1), 1) := by decide +kernel
theorem dX4_init_76 : decode cX4_init 76 = .ok (.invokestatic 34, 3) := by decide +kernel
theorem dX4_init_79 : decode cX4_init 79 = .ok (.aload_n 0, 1) := by decide +kernel
theorem dX4_init_80 : decode cX4_init 80 = .ok (.getfield 31, 3) := by decide +kernel
theorem dX4_init_83 : decode cX4_init 83 = .ok (.iconst (-1), 1) := by decide +kernel
theorem dX4_init_84 : decode cX4_init 84 = .ok (.invokestatic 34, 3) := by decide +kernel
theorem dX4_init_87 : decode cX4_init 87 = .ok (.return_, 1) := by decide +kernel
set_option maxHeartbeats 4000000 in
set_option maxRecDepth 100000 in
theorem tX4_init {l : Launch} {g : yG} {σ : yM} (k : Nat) (sch : yS) (hs0 : sch k = some (fun _ => .inr (4, [yI 0, yI 0, .null, .null, .null, .null, .null]))) : yMet l g yX4_init cX4_init 1 none (rmA 3 5 2000) [yR g k] sch (k + 1) σ (sX4 g sch k) (yPv (fun n' σ' => n' = k + 6 ∧ σ' = mX4 σ k)) := by
  refine y_startC (by decide) (Nat.le_of_ble_eq_true rfl) rfl (fun X0 hF hIn => ?_)
  refine y_wk (sch' := sadd sch k (fun _ => .inr (4, [yI 0, yI 0, .null, .null, .null, .null, .null]))) (fun c f _ hh => sad_b hs0 hh) ?_
  show yV X0 g 1 (yQ X0 g (sX4 g sch k) (yPv (fun n' σ' => n' = k + 6 ∧ σ' = mX4 σ k)) (rmA 3 5 2000)) (sadd sch k (fun _ => .inr (4, [yI 0, yI 0, .null, .null, .null, .null, .null]))) (k + 1) (σ) 0 0 0 [(0, yR g k)] []
  refine y_aload_n (pc := 0) hF dX4_init_0 0 rfl ?_
  refine y_objI (pc := 1) hF dX4_init_1 w_206 w_112 w_oi ⟨Nat.le_of_ble_eq_true rfl, Nat.le_of_ble_eq_true rfl⟩ (Nat.le_of_ble_eq_true rfl) ?_
  refine y_aload_n (pc := 4) hF dX4_init_4 0 rfl ?_
  refine y_bipush (pc := 5) hF dX4_init_5 (by decide) ?_
  refine y_putf (pc := 7) (ci := 4) (σ' := σ) (sch' := sadd sch k (fun _ => .inr (4, [yI 8, yI 0, .null, .null, .null, .null, .null]))) hF dX4_init_7 (by omega) (sadd_s _ _ _) rfl rfl iX4 0 (by decide) w_210 tyX4 tyX4_ok nmX4 rfl rfl rfl rfl (Nat.le_of_ble_eq_true rfl) (sadd_s _ _ _) rfl (fun k' h => ⟨rfl, (sadd_o h).trans (sadd_o h).symm⟩) ?_
  show yV X0 g 1 (yQ X0 g (sX4 g sch k) (yPv (fun n' σ' => n' = k + 6 ∧ σ' = mX4 σ k)) (rmA 3 5 2000)) (sadd sch k (fun _ => .inr (4, [yI 8, yI 0, .null, .null, .null, .null, .null]))) (k + 1) (σ) 0 0 10 [(0, yR g k)] []
  refine y_aload_n (pc := 10) hF dX4_init_10 0 rfl ?_
  refine y_bipush (pc := 11) hF dX4_init_11 (by decide) ?_
  refine y_putf (pc := 13) (ci := 4) (σ' := σ) (sch' := sadd sch k (fun _ => .inr (4, [yI 8, yI 8, .null, .null, .null, .null, .null]))) hF dX4_init_13 (by omega) (sadd_s _ _ _) rfl rfl iX4 1 (by decide) w_214 tyX4 tyX4_ok nmX4 rfl rfl rfl rfl (Nat.le_of_ble_eq_true rfl) (sadd_s _ _ _) rfl (fun k' h => ⟨rfl, (sadd_o h).trans (sadd_o h).symm⟩) ?_
  show yV X0 g 1 (yQ X0 g (sX4 g sch k) (yPv (fun n' σ' => n' = k + 6 ∧ σ' = mX4 σ k)) (rmA 3 5 2000)) (sadd sch k (fun _ => .inr (4, [yI 8, yI 8, .null, .null, .null, .null, .null]))) (k + 1) (σ) 0 0 16 [(0, yR g k)] []
  refine y_aload_n (pc := 16) hF dX4_init_16 0 rfl ?_
  refine y_sipush (pc := 17) hF dX4_init_17 (by decide) ?_
  refine y_newI (pc := 20) (len := 400) (sch' := sadd (sadd sch (k + 1) (kI g 400)) k (fun _ => .inr (4, [yI 8, yI 8, .null, .null, .null, .null, .null]))) hF dX4_init_20 wac_int (by decide) ⟨Nat.le_of_ble_eq_true rfl, Nat.le_of_ble_eq_true rfl⟩ ((sadd_o (by omega)).trans (sadd_s _ _ _)) (sal_o _ _ _ _ _) ?_
  show yV X0 g 1 (yQ X0 g (sX4 g sch k) (yPv (fun n' σ' => n' = k + 6 ∧ σ' = mX4 σ k)) (rmA 3 5 2000)) (sadd (sadd sch (k + 1) (kI g 400)) k (fun _ => .inr (4, [yI 8, yI 8, .null, .null, .null, .null, .null]))) (k + 2) (ynew (σ) (k + 1) (fun _ => 0)) 1 400 22 [(0, yR g k)] [yR g (k + 1), yR g k]
  refine y_putfF (pc := 22) (ci := 4) (σ' := ynew (σ) (k + 1) (fun _ => 0)) (sch' := sadd (sadd sch (k + 1) (kI g 400)) k (fun _ => .inr (4, [yI 8, yI 8, yR g (k + 1), .null, .null, .null, .null]))) hF dX4_init_22 (by omega) (sadd_s _ _ _) rfl rfl iX4 2 (by decide) w_218 tyX4 tyX4_ok nmX4 rfl hIn rfl rfl rfl rfl (Nat.le_of_ble_eq_true rfl) (sadd_s _ _ _) rfl (fun k' h => ⟨rfl, (sadd_o h).trans (sadd_o h).symm⟩) ?_
  show yV X0 g 1 (yQ X0 g (sX4 g sch k) (yPv (fun n' σ' => n' = k + 6 ∧ σ' = mX4 σ k)) (rmA 3 5 2000)) (sadd (sadd sch (k + 1) (kI g 400)) k (fun _ => .inr (4, [yI 8, yI 8, yR g (k + 1), .null, .null, .null, .null]))) (k + 2) (ynew (σ) (k + 1) (fun _ => 0)) 1 400 25 [(0, yR g k)] []
  refine y_aload_n (pc := 25) hF dX4_init_25 0 rfl ?_
  refine y_sipush (pc := 26) hF dX4_init_26 (by decide) ?_
  refine y_newI (pc := 29) (len := 400) (sch' := sadd (sadd (sadd sch (k + 1) (kI g 400)) (k + 2) (kI g 400)) k (fun _ => .inr (4, [yI 8, yI 8, yR g (k + 1), .null, .null, .null, .null]))) hF dX4_init_29 wac_int (by decide) ⟨Nat.le_of_ble_eq_true rfl, Nat.le_of_ble_eq_true rfl⟩ ((sadd_o (by omega)).trans (sadd_s _ _ _)) (sal_o _ _ _ _ _) ?_
  show yV X0 g 1 (yQ X0 g (sX4 g sch k) (yPv (fun n' σ' => n' = k + 6 ∧ σ' = mX4 σ k)) (rmA 3 5 2000)) (sadd (sadd (sadd sch (k + 1) (kI g 400)) (k + 2) (kI g 400)) k (fun _ => .inr (4, [yI 8, yI 8, yR g (k + 1), .null, .null, .null, .null]))) (k + 3) (ynew (ynew (σ) (k + 1) (fun _ => 0)) (k + 2) (fun _ => 0)) 2 800 31 [(0, yR g k)] [yR g (k + 2), yR g k]
  refine y_putfF (pc := 31) (ci := 4) (σ' := ynew (ynew (σ) (k + 1) (fun _ => 0)) (k + 2) (fun _ => 0)) (sch' := sadd (sadd (sadd sch (k + 1) (kI g 400)) (k + 2) (kI g 400)) k (fun _ => .inr (4, [yI 8, yI 8, yR g (k + 1), yR g (k + 2), .null, .null, .null]))) hF dX4_init_31 (by omega) (sadd_s _ _ _) rfl rfl iX4 3 (by decide) w_224 tyX4 tyX4_ok nmX4 rfl hIn rfl rfl rfl rfl (Nat.le_of_ble_eq_true rfl) (sadd_s _ _ _) rfl (fun k' h => ⟨rfl, (sadd_o h).trans (sadd_o h).symm⟩) ?_
  show yV X0 g 1 (yQ X0 g (sX4 g sch k) (yPv (fun n' σ' => n' = k + 6 ∧ σ' = mX4 σ k)) (rmA 3 5 2000)) (sadd (sadd (sadd sch (k + 1) (kI g 400)) (k + 2) (kI g 400)) k (fun _ => .inr (4, [yI 8, yI 8, yR g (k + 1), yR g (k + 2), .null, .null, .null]))) (k + 3) (ynew (ynew (σ) (k + 1) (fun _ => 0)) (k + 2) (fun _ => 0)) 2 800 34 [(0, yR g k)] []
  refine y_aload_n (pc := 34) hF dX4_init_34 0 rfl ?_
  refine y_sipush (pc := 35) hF dX4_init_35 (by decide) ?_
  refine y_newI (pc := 38) (len := 400) (sch' := sadd (sadd (sadd (sadd sch (k + 1) (kI g 400)) (k + 2) (kI g 400)) (k + 3) (kI g 400)) k (fun _ => .inr (4, [yI 8, yI 8, yR g (k + 1), yR g (k + 2), .null, .null, .null]))) hF dX4_init_38 wac_int (by decide) ⟨Nat.le_of_ble_eq_true rfl, Nat.le_of_ble_eq_true rfl⟩ ((sadd_o (by omega)).trans (sadd_s _ _ _)) (sal_o _ _ _ _ _) ?_
  show yV X0 g 1 (yQ X0 g (sX4 g sch k) (yPv (fun n' σ' => n' = k + 6 ∧ σ' = mX4 σ k)) (rmA 3 5 2000)) (sadd (sadd (sadd (sadd sch (k + 1) (kI g 400)) (k + 2) (kI g 400)) (k + 3) (kI g 400)) k (fun _ => .inr (4, [yI 8, yI 8, yR g (k + 1), yR g (k + 2), .null, .null, .null]))) (k + 4) (ynew (ynew (ynew (σ) (k + 1) (fun _ => 0)) (k + 2) (fun _ => 0)) (k + 3) (fun _ => 0)) 3 1200 40 [(0, yR g k)] [yR g (k + 3), yR g k]
  refine y_putfF (pc := 40) (ci := 4) (σ' := ynew (ynew (ynew (σ) (k + 1) (fun _ => 0)) (k + 2) (fun _ => 0)) (k + 3) (fun _ => 0)) (sch' := sadd (sadd (sadd (sadd sch (k + 1) (kI g 400)) (k + 2) (kI g 400)) (k + 3) (kI g 400)) k (fun _ => .inr (4, [yI 8, yI 8, yR g (k + 1), yR g (k + 2), yR g (k + 3), .null, .null]))) hF dX4_init_40 (by omega) (sadd_s _ _ _) rfl rfl iX4 4 (by decide) w_228 tyX4 tyX4_ok nmX4 rfl hIn rfl rfl rfl rfl (Nat.le_of_ble_eq_true rfl) (sadd_s _ _ _) rfl (fun k' h => ⟨rfl, (sadd_o h).trans (sadd_o h).symm⟩) ?_
  show yV X0 g 1 (yQ X0 g (sX4 g sch k) (yPv (fun n' σ' => n' = k + 6 ∧ σ' = mX4 σ k)) (rmA 3 5 2000)) (sadd (sadd (sadd (sadd sch (k + 1) (kI g 400)) (k + 2) (kI g 400)) (k + 3) (kI g 400)) k (fun _ => .inr (4, [yI 8, yI 8, yR g (k + 1), yR g (k + 2), yR g (k + 3), .null, .null]))) (k + 4) (ynew (ynew (ynew (σ) (k + 1) (fun _ => 0)) (k + 2) (fun _ => 0)) (k + 3) (fun _ => 0)) 3 1200 43 [(0, yR g k)] []
  refine y_aload_n (pc := 43) hF dX4_init_43 0 rfl ?_
  refine y_sipush (pc := 44) hF dX4_init_44 (by decide) ?_
  refine y_newI (pc := 47) (len := 400) (sch' := sadd (sadd (sadd (sadd (sadd sch (k + 1) (kI g 400)) (k + 2) (kI g 400)) (k + 3) (kI g 400)) (k + 4) (kI g 400)) k (fun _ => .inr (4, [yI 8, yI 8, yR g (k + 1), yR g (k + 2), yR g (k + 3), .null, .null]))) hF dX4_init_47 wac_int (by decide) ⟨Nat.le_of_ble_eq_true rfl, Nat.le_of_ble_eq_true rfl⟩ ((sadd_o (by omega)).trans (sadd_s _ _ _)) (sal_o _ _ _ _ _) ?_
  show yV X0 g 1 (yQ X0 g (sX4 g sch k) (yPv (fun n' σ' => n' = k + 6 ∧ σ' = mX4 σ k)) (rmA 3 5 2000)) (sadd (sadd (sadd (sadd (sadd sch (k + 1) (kI g 400)) (k + 2) (kI g 400)) (k + 3) (kI g 400)) (k + 4) (kI g 400)) k (fun _ => .inr (4, [yI 8, yI 8, yR g (k + 1), yR g (k + 2), yR g (k + 3), .null, .null]))) (k + 5) (ynew (ynew (ynew (ynew (σ) (k + 1) (fun _ => 0)) (k + 2) (fun _ => 0)) (k + 3) (fun _ => 0)) (k + 4) (fun _ => 0)) 4 1600 49 [(0, yR g k)] [yR g (k + 4), yR g k]
  refine y_putfF (pc := 49) (ci := 4) (σ' := ynew (ynew (ynew (ynew (σ) (k + 1) (fun _ => 0)) (k + 2) (fun _ => 0)) (k + 3) (fun _ => 0)) (k + 4) (fun _ => 0)) (sch' := sadd (sadd (sadd (sadd (sadd sch (k + 1) (kI g 400)) (k + 2) (kI g 400)) (k + 3) (kI g 400)) (k + 4) (kI g 400)) k (fun _ => .inr (4, [yI 8, yI 8, yR g (k + 1), yR g (k + 2), yR g (k + 3), yR g (k + 4), .null]))) hF dX4_init_49 (by omega) (sadd_s _ _ _) rfl rfl iX4 5 (by decide) w_231 tyX4 tyX4_ok nmX4 rfl hIn rfl rfl rfl rfl (Nat.le_of_ble_eq_true rfl) (sadd_s _ _ _) rfl (fun k' h => ⟨rfl, (sadd_o h).trans (sadd_o h).symm⟩) ?_
  show yV X0 g 1 (yQ X0 g (sX4 g sch k) (yPv (fun n' σ' => n' = k + 6 ∧ σ' = mX4 σ k)) (rmA 3 5 2000)) (sadd (sadd (sadd (sadd (sadd sch (k + 1) (kI g 400)) (k + 2) (kI g 400)) (k + 3) (kI g 400)) (k + 4) (kI g 400)) k (fun _ => .inr (4, [yI 8, yI 8, yR g (k + 1), yR g (k + 2), yR g (k + 3), yR g (k + 4), .null]))) (k + 5) (ynew (ynew (ynew (ynew (σ) (k + 1) (fun _ => 0)) (k + 2) (fun _ => 0)) (k + 3) (fun _ => 0)) (k + 4) (fun _ => 0)) 4 1600 52 [(0, yR g k)] []
  refine y_aload_n (pc := 52) hF dX4_init_52 0 rfl ?_
  refine y_sipush (pc := 53) hF dX4_init_53 (by decide) ?_
  refine y_newI (pc := 56) (len := 400) (sch' := sadd (sadd (sadd (sadd (sadd (sadd sch (k + 1) (kI g 400)) (k + 2) (kI g 400)) (k + 3) (kI g 400)) (k + 4) (kI g 400)) (k + 5) (kI g 400)) k (fun _ => .inr (4, [yI 8, yI 8, yR g (k + 1), yR g (k + 2), yR g (k + 3), yR g (k + 4), .null]))) hF dX4_init_56 wac_int (by decide) ⟨Nat.le_of_ble_eq_true rfl, Nat.le_of_ble_eq_true rfl⟩ ((sadd_o (by omega)).trans (sadd_s _ _ _)) (sal_o _ _ _ _ _) ?_
  show yV X0 g 1 (yQ X0 g (sX4 g sch k) (yPv (fun n' σ' => n' = k + 6 ∧ σ' = mX4 σ k)) (rmA 3 5 2000)) (sadd (sadd (sadd (sadd (sadd (sadd sch (k + 1) (kI g 400)) (k + 2) (kI g 400)) (k + 3) (kI g 400)) (k + 4) (kI g 400)) (k + 5) (kI g 400)) k (fun _ => .inr (4, [yI 8, yI 8, yR g (k + 1), yR g (k + 2), yR g (k + 3), yR g (k + 4), .null]))) (k + 6) (ynew (ynew (ynew (ynew (ynew (σ) (k + 1) (fun _ => 0)) (k + 2) (fun _ => 0)) (k + 3) (fun _ => 0)) (k + 4) (fun _ => 0)) (k + 5) (fun _ => 0)) 5 2000 58 [(0, yR g k)] [yR g (k + 5), yR g k]
  refine y_putfF (pc := 58) (ci := 4) (σ' := ynew (ynew (ynew (ynew (ynew (σ) (k + 1) (fun _ => 0)) (k + 2) (fun _ => 0)) (k + 3) (fun _ => 0)) (k + 4) (fun _ => 0)) (k + 5) (fun _ => 0)) (sch' := sadd (sadd (sadd (sadd (sadd (sadd sch (k + 1) (kI g 400)) (k + 2) (kI g 400)) (k + 3) (kI g 400)) (k + 4) (kI g 400)) (k + 5) (kI g 400)) k (fun _ => .inr (4, [yI 8, yI 8, yR g (k + 1), yR g (k + 2), yR g (k + 3), yR g (k + 4), yR g (k + 5)]))) hF dX4_init_58 (by omega) (sadd_s _ _ _) rfl rfl iX4 6 (by decide) w_234 tyX4 tyX4_ok nmX4 rfl hIn rfl rfl rfl rfl (Nat.le_of_ble_eq_true rfl) (sadd_s _ _ _) rfl (fun k' h => ⟨rfl, (sadd_o h).trans (sadd_o h).symm⟩) ?_
  show yV X0 g 1 (yQ X0 g (sX4 g sch k) (yPv (fun n' σ' => n' = k + 6 ∧ σ' = mX4 σ k)) (rmA 3 5 2000)) (sadd (sadd (sadd (sadd (sadd (sadd sch (k + 1) (kI g 400)) (k + 2) (kI g 400)) (k + 3) (kI g 400)) (k + 4) (kI g 400)) (k + 5) (kI g 400)) k (fun _ => .inr (4, [yI 8, yI 8, yR g (k + 1), yR g (k + 2), yR g (k + 3), yR g (k + 4), yR g (k + 5)]))) (k + 6) (ynew (ynew (ynew (ynew (ynew (σ) (k + 1) (fun _ => 0)) (k + 2) (fun _ => 0)) (k + 3) (fun _ => 0)) (k + 4) (fun _ => 0)) (k + 5) (fun _ => 0)) 5 2000 61 [(0, yR g k)] []
  refine y_aload_n (pc := 61) hF dX4_init_61 0 rfl ?_
  refine y_get (pc := 62) (ci := 4) hF dX4_init_62 (by omega) (sadd_s _ _ _) rfl rfl iX4 3 (by decide) w_224 rfl ?_
  refine y_sipush (pc := 65) hF dX4_init_65 (by decide) ?_
  refine y_cv (y_rS (pc := 68) (As := [yR g (k + 2), yI 1000]) (kk := 0) hF (tJ7_fill_53178 (k + 2) 400 (by omega) (sadd_n (sadd_n (sadd_n (sadd_n (sadd_s _ _ _) (by omega)) (by omega)) (by omega)) (by omega)) (by decide) 1000) dX4_init_68 w_207 qJ7_fill_53178 rfl ⟨Nat.le_of_ble_eq_true rfl, Nat.le_of_ble_eq_true rfl⟩ ⟨Nat.le_of_ble_eq_true rfl, Nat.le_of_ble_eq_true rfl⟩ (Nat.le_of_ble_eq_true rfl) rfl) rfl rfl (fun n' σ' zp68 => ?_)
  obtain ⟨zn68, rfl⟩ := zp68
  have zn68 := zn68.symm
  subst zn68
  show yV X0 g 1 (yQ X0 g (sX4 g sch k) (yPv (fun n' σ' => n' = k + 6 ∧ σ' = mX4 σ k)) (rmA 3 5 2000)) (sadd (sadd (sadd (sadd (sadd (sadd sch (k + 1) (kI g 400)) (k + 2) (kI g 400)) (k + 3) (kI g 400)) (k + 4) (kI g 400)) (k + 5) (kI g 400)) k (fun _ => .inr (4, [yI 8, yI 8, yR g (k + 1), yR g (k + 2), yR g (k + 3), yR g (k + 4), yR g (k + 5)]))) (k + 6) (yfl (ynew (ynew (ynew (ynew (ynew (σ) (k + 1) (fun _ => 0)) (k + 2) (fun _ => 0)) (k + 3) (fun _ => 0)) (k + 4) (fun _ => 0)) (k + 5) (fun _ => 0)) (k + 2) ((400 : Nat) : Int) 1000) 5 2000 71 [(0, yR g k)] []
  refine y_aload_n (pc := 71) hF dX4_init_71 0 rfl ?_
  refine y_get (pc := 72) (ci := 4) hF dX4_init_72 (by omega) (sadd_s _ _ _) rfl rfl iX4 5 (by decide) w_231 rfl ?_
  refine y_iconst (pc := 75) hF dX4_init_75 ?_
  refine y_cv (y_rS (pc := 76) (As := [yR g (k + 4), yI (-1)]) (kk := 0) hF (tJ7_fill_53178 (k + 4) 400 (by omega) (sadd_n (sadd_n (sadd_s _ _ _) (by omega)) (by omega)) (by decide) (-1)) dX4_init_76 w_207 qJ7_fill_53178 rfl ⟨Nat.le_of_ble_eq_true rfl, Nat.le_of_ble_eq_true rfl⟩ ⟨Nat.le_of_ble_eq_true rfl, Nat.le_of_ble_eq_true rfl⟩ (Nat.le_of_ble_eq_true rfl) rfl) rfl rfl (fun n' σ' zp76 => ?_)
  obtain ⟨zn76, rfl⟩ := zp76
  have zn76 := zn76.symm
  subst zn76
  show yV X0 g 1 (yQ X0 g (sX4 g sch k) (yPv (fun n' σ' => n' = k + 6 ∧ σ' = mX4 σ k)) (rmA 3 5 2000)) (sadd (sadd (sadd (sadd (sadd (sadd sch (k + 1) (kI g 400)) (k + 2) (kI g 400)) (k + 3) (kI g 400)) (k + 4) (kI g 400)) (k + 5) (kI g 400)) k (fun _ => .inr (4, [yI 8, yI 8, yR g (k + 1), yR g (k + 2), yR g (k + 3), yR g (k + 4), yR g (k + 5)]))) (k + 6) (yfl (yfl (ynew (ynew (ynew (ynew (ynew (σ) (k + 1) (fun _ => 0)) (k + 2) (fun _ => 0)) (k + 3) (fun _ => 0)) (k + 4) (fun _ => 0)) (k + 5) (fun _ => 0)) (k + 2) ((400 : Nat) : Int) 1000) (k + 4) ((400 : Nat) : Int) (-1)) 5 2000 79 [(0, yR g k)] []
  refine y_aload_n (pc := 79) hF dX4_init_79 0 rfl ?_
  refine y_get (pc := 80) (ci := 4) hF dX4_init_80 (by omega) (sadd_s _ _ _) rfl rfl iX4 6 (by decide) w_234 rfl ?_
  refine y_iconst (pc := 83) hF dX4_init_83 ?_
  refine y_cv (y_rS (pc := 84) (As := [yR g (k + 5), yI (-1)]) (kk := 0) hF (tJ7_fill_53178 (k + 5) 400 (by omega) (sadd_n (sadd_s _ _ _) (by omega)) (by decide) (-1)) dX4_init_84 w_207 qJ7_fill_53178 rfl ⟨Nat.le_of_ble_eq_true rfl, Nat.le_of_ble_eq_true rfl⟩ ⟨Nat.le_of_ble_eq_true rfl, Nat.le_of_ble_eq_true rfl⟩ (Nat.le_of_ble_eq_true rfl) rfl) rfl rfl (fun n' σ' zp84 => ?_)
  obtain ⟨zn84, rfl⟩ := zp84
  have zn84 := zn84.symm
  subst zn84
  show yV X0 g 1 (yQ X0 g (sX4 g sch k) (yPv (fun n' σ' => n' = k + 6 ∧ σ' = mX4 σ k)) (rmA 3 5 2000)) (sadd (sadd (sadd (sadd (sadd (sadd sch (k + 1) (kI g 400)) (k + 2) (kI g 400)) (k + 3) (kI g 400)) (k + 4) (kI g 400)) (k + 5) (kI g 400)) k (fun _ => .inr (4, [yI 8, yI 8, yR g (k + 1), yR g (k + 2), yR g (k + 3), yR g (k + 4), yR g (k + 5)]))) (k + 6) (yfl (yfl (yfl (ynew (ynew (ynew (ynew (ynew (σ) (k + 1) (fun _ => 0)) (k + 2) (fun _ => 0)) (k + 3) (fun _ => 0)) (k + 4) (fun _ => 0)) (k + 5) (fun _ => 0)) (k + 2) ((400 : Nat) : Int) 1000) (k + 4) ((400 : Nat) : Int) (-1)) (k + 5) ((400 : Nat) : Int) (-1)) 5 2000 87 [(0, yR g k)] []
  refine y_fin (R := sadd (sadd (sadd (sadd (sadd sch (k + 1) (kI g 400)) (k + 2) (kI g 400)) (k + 3) (kI g 400)) (k + 4) (kI g 400)) (k + 5) (kI g 400)) (k := k) (K := kPic g k) (φ := (fun j => if j = 0 then 8 else if j = 1 then 8 else 0)) rfl ?_
  exact y_vret (pc := 87) hF dX4_init_87 (Nat.le_of_ble_eq_true rfl) (Nat.le_of_ble_eq_true rfl) ⟨rfl, rfl, rfl⟩
