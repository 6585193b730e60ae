def sX8 (g : yG) (sch : yS) (k : Nat) : yS := sadd (sX2 g (sX4 g sch (k + 1)) (k + 7)) k (kSnp g k)
def mX8 (σ : yM) (k : Nat) : yM := ynew (mX2 (ynew (mX4 (ynew (σ) (k + 1) (fun _ => 0)) (k + 1)) (k + 7) (fun _ => 0)) (k + 7)) k (fun _ => 0)
theorem sX8_wk {g : yG} {R : yS} {k n : Nat} {F D : (Int → Int) → va_E} {c : Nat} {f : (Int → Int) → va_E} (h : k < n) (hh : sadd (sX8 g R n) k F c = some f) : sX8 g (sadd (sadd R n D) k F) n c = some f := by
  rcases Decidable.em (c = k) with e | e
  · subst e
    have e1 : f = F := (Option.some.inj ((sadd_s _ _ _).symm.trans hh)).symm
    subst e1
    unfold sX8 sX2 sX4 sadd
    repeat rw [if_neg (by omega)]
    rw [if_pos rfl]
  · rw [sadd_o e] at hh
    rcases Decidable.em (c = n) with e2 | e2
    · subst e2
      unfold sX8 sX2 sX4 sadd at hh ⊢
      (try simp only [if_true] at hh ⊢)
      exact hh
    · unfold sX8 sX2 sX4 sadd at hh ⊢
      rw [if_neg e2] at hh ⊢
      simp only [if_neg e, if_neg e2]
      exact hh
theorem dX8_init_0 : decode cX8_init 0 = .ok (.aload_n 0, 1) := by decide +kernel
theorem dX8_init_1 : decode cX8_init 1 = .ok (.invokespecial 1, 3) := by decide +kernel
theorem dX8_init_4 : decode cX8_init 4 = .ok (.aload_n 0, 1) := by decide +kernel
theorem dX8_init_5 : decode cX8_init 5 = .ok (.new 7, 3) := by decide +kernel
theorem dX8_init_8 : decode cX8_init 8 = .ok (.dup, 1) := by decide +kernel
theorem dX8_init_9 : decode cX8_init 9 = .ok (.invokespecial 9, 3) := by decide +kernel
theorem dX8_init_12 : decode cX8_init 12 = .ok (.putfield 10, 3) := by decide +kernel
theorem dX8_init_15 : decode cX8_init 15 = .ok (.aload_n 0, 1) := by decide +kernel
theorem dX8_init_16 : decode cX8_init 16 = .ok (.new 16, 3) := by decide +kernel
theorem dX8_init_19 : decode cX8_init 19 = .ok (.dup, 1) := by decide +kernel
theorem dX8_init_20 : decode cX8_init 20 = .ok (.invokespecial 18, 3) := by decide +kernel
theorem dX8_init_23 : decode cX8_init 23 = .ok (.putfield 19, 3) := by decide +kernel
theorem dX8_init_26 : decode cX8_init 26 = .ok (.return_, 1) := by decide +kernel
set_option maxHeartbeats 4000000 in
set_option maxRecDepth 100000 in
theorem tX8_init {l : Launch} {g : yG} {σ : yM} (k : Nat) (sch : yS) (hs0 : sch k = some (fun _ => .inr (8, [.null, .null]))) : yMet l g yX8_init cX8_init 1 none (rmA 4 8 2280) [yR g k] sch (k + 1) σ (sX8 g sch k) (yPv (fun n' σ' => n' = k + 9 ∧ σ' = mX8 σ k)) := by
  refine y_startC (by decide) (Nat.le_of_ble_eq_true rfl) rfl (fun X0 hF hIn => ?_)
  refine y_wk (sch' := sadd sch k (fun _ => .inr (8, [.null, .null]))) (fun c f _ hh => sad_b hs0 hh) ?_
  show yV X0 g 1 (yQ X0 g (sX8 g sch k) (yPv (fun n' σ' => n' = k + 9 ∧ σ' = mX8 σ k)) (rmA 4 8 2280)) (sadd sch k (fun _ => .inr (8, [.null, .null]))) (k + 1) (σ) 0 0 0 [(0, yR g k)] []
  refine y_aload_n (pc := 0) hF dX8_init_0 0 rfl ?_
  refine y_objI (pc := 1) hF dX8_init_1 w_282 w_112 w_oi ⟨Nat.le_of_ble_eq_true rfl, Nat.le_of_ble_eq_true rfl⟩ (Nat.le_of_ble_eq_true rfl) ?_
  refine y_aload_n (pc := 4) hF dX8_init_4 0 rfl ?_
  refine y_newO (pc := 5) (C := RX4) (T := TX4) (N := 7) (ci := 4) (fs := [yI 0, yI 0, .null, .null, .null, .null, .null]) (sch' := sadd (sadd sch (k + 1) (fun _ => .inr (4, [yI 0, yI 0, .null, .null, .null, .null, .null]))) k (fun _ => .inr (8, [.null, .null]))) (f0 := (fun _ => .inr (4, [yI 0, yI 0, .null, .null, .null, .null, .null]))) (φ := fun _ => 0) hF dX8_init_5 iX4 tyX4 tyX4_ok w_283 w_202 w_89 rfl (by decide +kernel) ⟨Nat.le_of_ble_eq_true rfl, Nat.le_of_ble_eq_true rfl⟩ ((sadd_o (by omega)).trans (sadd_s _ _ _)) rfl (sal_o _ _ _ _ _) ?_
  show yV X0 g 1 (yQ X0 g (sX8 g sch k) (yPv (fun n' σ' => n' = k + 9 ∧ σ' = mX8 σ k)) (rmA 4 8 2280)) (sadd (sadd sch (k + 1) (fun _ => .inr (4, [yI 0, yI 0, .null, .null, .null, .null, .null]))) k (fun _ => .inr (8, [.null, .null]))) (k + 2) (ynew (σ) (k + 1) (fun _ => 0)) 1 7 8 [(0, yR g k)] [yR g (k + 1), yR g k]
  refine y_dup (pc := 8) hF dX8_init_8 rfl ?_
  refine y_cv (cells' := 6) (slots' := 2007) (y_rI (pc := 9) hF (tX4_init (σ := ynew (σ) (k + 1) (fun _ => 0)) (k + 1) (sadd (sadd sch (k + 1) (fun _ => .inr (4, [yI 0, yI 0, .null, .null, .null, .null, .null]))) k (fun _ => .inr (8, [.null, .null]))) ((sadd_o (by omega)).trans (sadd_s _ _ _))) dX8_init_9 w_284 qX4_init rfl ⟨Nat.le_of_ble_eq_true rfl, Nat.le_of_ble_eq_true rfl⟩ ⟨Nat.le_of_ble_eq_true rfl, Nat.le_of_ble_eq_true rfl⟩ (Nat.le_of_ble_eq_true rfl) rfl) rfl rfl (fun n' σ' zp9 => ?_)
  obtain ⟨zn9, zs9⟩ := zp9
  subst zn9
  subst zs9
  refine y_wk (sch' := sadd (sX4 g sch (k + 1)) k (fun _ => .inr (8, [.null, .null]))) (fun c f _ hh => sX4_wk (by omega) hh) ?_
  show yV X0 g 1 (yQ X0 g (sX8 g sch k) (yPv (fun n' σ' => n' = k + 9 ∧ σ' = mX8 σ k)) (rmA 4 8 2280)) (sadd (sX4 g sch (k + 1)) k (fun _ => .inr (8, [.null, .null]))) (k + 7) (mX4 (ynew (σ) (k + 1) (fun _ => 0)) (k + 1)) 6 2007 12 [(0, yR g k)] [yR g (k + 1), yR g k]
  refine y_putfF (pc := 12) (ci := 8) (σ' := mX4 (ynew (σ) (k + 1) (fun _ => 0)) (k + 1)) (sch' := sadd (sX4 g sch (k + 1)) k (fun _ => .inr (8, [yR g (k + 1), .null]))) hF dX8_init_12 (by omega) (sadd_s _ _ _) rfl rfl iX8 0 (by decide) w_287 tyX8 tyX8_ok nmX8 rfl hIn rfl rfl rfl rfl (Nat.le_of_ble_eq_true rfl) (sadd_s _ _ _) rfl (fun k' h => ⟨rfl, (sadd_o h).trans (sadd_o h).symm⟩) ?_
  show yV X0 g 1 (yQ X0 g (sX8 g sch k) (yPv (fun n' σ' => n' = k + 9 ∧ σ' = mX8 σ k)) (rmA 4 8 2280)) (sadd (sX4 g sch (k + 1)) k (fun _ => .inr (8, [yR g (k + 1), .null]))) (k + 7) (mX4 (ynew (σ) (k + 1) (fun _ => 0)) (k + 1)) 6 2007 15 [(0, yR g k)] []
  refine y_aload_n (pc := 15) hF dX8_init_15 0 rfl ?_
  refine y_newO (pc := 16) (C := RX2) (T := TX2) (N := 3) (ci := 2) (fs := [yI 0, yJ 0, .null]) (sch' := sadd (sadd (sX4 g sch (k + 1)) (k + 7) (fun _ => .inr (2, [yI 0, yJ 0, .null]))) k (fun _ => .inr (8, [yR g (k + 1), .null]))) (f0 := (fun _ => .inr (2, [yI 0, yJ 0, .null]))) (φ := fun _ => 0) hF dX8_init_16 iX2 tyX2 tyX2_ok w_285 w_252 w_91 rfl (by decide +kernel) ⟨Nat.le_of_ble_eq_true rfl, Nat.le_of_ble_eq_true rfl⟩ ((sadd_o (by omega)).trans (sadd_s _ _ _)) rfl (sal_o _ _ _ _ _) ?_
  show yV X0 g 1 (yQ X0 g (sX8 g sch k) (yPv (fun n' σ' => n' = k + 9 ∧ σ' = mX8 σ k)) (rmA 4 8 2280)) (sadd (sadd (sX4 g sch (k + 1)) (k + 7) (fun _ => .inr (2, [yI 0, yJ 0, .null]))) k (fun _ => .inr (8, [yR g (k + 1), .null]))) (k + 8) (ynew (mX4 (ynew (σ) (k + 1) (fun _ => 0)) (k + 1)) (k + 7) (fun _ => 0)) 7 2010 19 [(0, yR g k)] [yR g (k + 7), yR g k]
  refine y_dup (pc := 19) hF dX8_init_19 rfl ?_
  refine y_cv (cells' := 8) (slots' := 2280) (y_rIN (pc := 20) hF (tX2_init (σ := ynew (mX4 (ynew (σ) (k + 1) (fun _ => 0)) (k + 1)) (k + 7) (fun _ => 0)) (k + 7) (sadd (sadd (sX4 g sch (k + 1)) (k + 7) (fun _ => .inr (2, [yI 0, yJ 0, .null]))) k (fun _ => .inr (8, [yR g (k + 1), .null]))) ((sadd_o (by omega)).trans (sadd_s _ _ _))) dX8_init_20 w_286 qX2_init rfl ⟨Nat.le_of_ble_eq_true rfl, Nat.le_of_ble_eq_true rfl⟩ ⟨Nat.le_of_ble_eq_true rfl, Nat.le_of_ble_eq_true rfl⟩ (Nat.le_of_ble_eq_true rfl) rfl) rfl rfl (fun n' σ' zp20 => ?_)
  obtain ⟨zn20, zs20⟩ := zp20
  subst zn20
  subst zs20
  refine y_wk (sch' := sadd (sX2 g (sX4 g sch (k + 1)) (k + 7)) k (fun _ => .inr (8, [yR g (k + 1), .null]))) (fun c f _ hh => sX2_wk (by omega) hh) ?_
  show yV X0 g 1 (yQ X0 g (sX8 g sch k) (yPv (fun n' σ' => n' = k + 9 ∧ σ' = mX8 σ k)) (rmA 4 8 2280)) (sadd (sX2 g (sX4 g sch (k + 1)) (k + 7)) k (fun _ => .inr (8, [yR g (k + 1), .null]))) (k + 9) (mX2 (ynew (mX4 (ynew (σ) (k + 1) (fun _ => 0)) (k + 1)) (k + 7) (fun _ => 0)) (k + 7)) 8 2280 23 [(0, yR g k)] [yR g (k + 7), yR g k]
  refine y_putfF (pc := 23) (ci := 8) (σ' := mX2 (ynew (mX4 (ynew (σ) (k + 1) (fun _ => 0)) (k + 1)) (k + 7) (fun _ => 0)) (k + 7)) (sch' := sadd (sX2 g (sX4 g sch (k + 1)) (k + 7)) k (fun _ => .inr (8, [yR g (k + 1), yR g (k + 7)]))) hF dX8_init_23 (by omega) (sadd_s _ _ _) rfl rfl iX8 1 (by decide) w_289 tyX8 tyX8_ok nmX8 rfl hIn rfl rfl rfl rfl (Nat.le_of_ble_eq_true rfl) (sadd_s _ _ _) rfl (fun k' h => ⟨rfl, (sadd_o h).trans (sadd_o h).symm⟩) ?_
  show yV X0 g 1 (yQ X0 g (sX8 g sch k) (yPv (fun n' σ' => n' = k + 9 ∧ σ' = mX8 σ k)) (rmA 4 8 2280)) (sadd (sX2 g (sX4 g sch (k + 1)) (k + 7)) k (fun _ => .inr (8, [yR g (k + 1), yR g (k + 7)]))) (k + 9) (mX2 (ynew (mX4 (ynew (σ) (k + 1) (fun _ => 0)) (k + 1)) (k + 7) (fun _ => 0)) (k + 7)) 8 2280 26 [(0, yR g k)] []
  refine y_fin (R := sX2 g (sX4 g sch (k + 1)) (k + 7)) (k := k) (K := kSnp g k) (φ := (fun _ => 0)) rfl ?_
  exact y_vret (pc := 26) hF dX8_init_26 (Nat.le_of_ble_eq_true rfl) (Nat.le_of_ble_eq_true rfl) ⟨rfl, rfl, rfl⟩

def sX9 (g : yG) (sch : yS) : yS := sadd (sadd (sadd sch (2) (kI g 300)) (3) (kI g 400)) 1 (kTap g)
def mX9 (σ : yM) : yM := ynew (ynew (ynew (σ) (2) (fun _ => 0)) (3) (fun _ => 0)) 1 (fun j => if j = 5 then (-1) else 0)
theorem sX9_wk {g : yG} {R : yS} {k : Nat} {F D : (Int → Int) → va_E} {c : Nat} {f : (Int → Int) → va_E} (h : k < 1) (hh : sadd (sX9 g R) k F c = some f) : sX9 g (sadd (sadd R 1 D) k F) c = some f := by
  rcases Decidable.em (c = k) with e | e
  · subst e
    have e1 : f = F := (Option.some.inj ((sadd_s _ _ _).symm.trans hh)).symm
    subst e1
    unfold sX9 sadd
    repeat rw [if_neg (by omega)]
    rw [if_pos rfl]
  · rw [sadd_o e] at hh
    rcases Decidable.em (c = 1) with e2 | e2
    · subst e2
      unfold sX9 sadd at hh ⊢
      (try simp only [if_true] at hh ⊢)
      exact hh
    · unfold sX9 sadd at hh ⊢
      rw [if_neg e2] at hh ⊢
      simp only [if_neg e, if_neg e2]
      exact hh
theorem dX9_init_0 : decode cX9_init 0 = .ok (.aload_n 0, 1) := by decide +kernel
theorem dX9_init_1 : decode cX9_init 1 = .ok (.invokespecial 3, 3) := by decide +kernel
theorem dX9_init_4 : decode cX9_init 4 = .ok (.aload_n 0, 1) := by decide +kernel
theorem dX9_init_5 : decode cX9_init 5 = .ok (.sipush 300, 3) := by decide +kernel
theorem dX9_init_8 : decode cX9_init 8 = .ok (.newarray .int, 2) := by decide +kernel
theorem dX9_init_10 : decode cX9_init 10 = .ok (.putfield 11, 3) := by decide +kernel
theorem dX9_init_13 : decode cX9_init 13 = .ok (.aload_n 0, 1) := by decide +kernel
theorem dX9_init_14 : decode cX9_init 14 = .ok (.iconst 0, 1) := by decide +kernel
theorem dX9_init_15 : decode cX9_init 15 = .ok (.putfield 15, 3) := by decide +kernel
theorem dX9_init_18 : decode cX9_init 18 = .ok (.aload_n 0, 1) := by decide +kernel
theorem dX9_init_19 : decode cX9_init 19 = .ok (.sipush 400, 3) := by decide +kernel
theorem dX9_init_22 : decode cX9_init 22 = .ok (.newarray .int, 2) := by decide +kernel
theorem dX9_init_24 : decode cX9_init 24 = .ok (.putfield 19, 3) := by decide +kernel
theorem dX9_init_27 : decode cX9_init 27 = .ok (.aload_n 0, 1) := by decide +kernel
theorem dX9_init_28 : decode cX9_init 28 = .ok (.iconst 0, 1) := by decide +kernel
theorem dX9_init_29 : decode cX9_init 29 = .ok (.putfield 22, 3) := by decide +kernel
theorem dX9_init_32 : decode cX9_init 32 = .ok (.aload_n 0, 1) := by decide +kernel
theorem dX9_init_33 : decode cX9_init 33 = .ok (.iconst 0, 1) := by decide +kernel
theorem dX9_init_34 : decode cX9_init 34 = .ok (.putfield 25, 3) := by decide +kernel
theorem dX9_init_37 : decode cX9_init 37 = .ok (.aload_n 0, 1) := by decide +kernel
theorem dX9_init_38 : decode cX9_init 38 = .ok (.iconst (-1), 1) := by decide +kernel
theorem dX9_init_39 : decode cX9_init 39 = .ok (.putfield 28, 3) := by decide +kernel
theorem dX9_init_42 : decode cX9_init 42 = .ok (.aload_n 0, 1) := by decide +kernel
theorem dX9_init_43 : decode cX9_init 43 = .ok (.iconst 0, 1) := by decide +kernel
theorem dX9_init_44 : decode cX9_init 44 = .ok (.putfield 31, 3) := by decide +kernel
theorem dX9_init_47 : decode cX9_init 47 = .ok (.aload_n 0, 1) := by decide +kernel
theorem dX9_init_48 : decode cX9_init 48 = .ok (.iconst 0, 1) := by decide +kernel
theorem dX9_init_49 : decode cX9_init 49 = .ok (.putfield 34, 3) := by decide +kernel
theorem dX9_init_52 : decode cX9_init 52 = .ok (.aload_n 0, 1) := by decide +kernel
theorem dX9_init_53 : decode cX9_init 53 = .ok (.iconst 0, 1) := by decide +kernel
theorem dX9_init_54 : decode cX9_init 54 = .ok (.putfield 37, 3) := by decide +kernel
theorem dX9_init_57 : decode cX9_init 57 = .ok (.aload_n 0, 1) := by decide +kernel
theorem dX9_init_58 : decode cX9_init 58 = .ok (.iconst 0, 1) := by decide +kernel
theorem dX9_init_59 : decode cX9_init 59 = .ok (.putfield 40, 3) := by decide +kernel
theorem dX9_init_62 : decode cX9_init 62 = .ok (.return_, 1) := by decide +kernel
set_option maxHeartbeats 4000000 in
set_option maxRecDepth 100000 in
theorem tX9_init {l : Launch} {g : yG} {σ : yM} (sch : yS) (hs0 : sch 1 = some (fun _ => .inr (9, [.null, yI 0, .null, yI 0, yI 0, yI 0, yI 0, yI 0, yI 0, yI 0]))) : yMet l g yX9_init cX9_init 1 none (rmA 2 2 700) [yR g 1] sch (2) σ (sX9 g sch) (yPv (fun n' σ' => n' = 4 ∧ σ' = mX9 σ)) := by
  refine y_startC (by decide) (Nat.le_of_ble_eq_true rfl) rfl (fun X0 hF hIn => ?_)
  refine y_wk (sch' := sadd sch 1 (fun _ => .inr (9, [.null, yI 0, .null, yI 0, yI 0, yI 0, yI 0, yI 0, yI 0, yI 0]))) (fun c f _ hh => sad_b hs0 hh) ?_
  show yV X0 g 1 (yQ X0 g (sX9 g sch) (yPv (fun n' σ' => n' = 4 ∧ σ' = mX9 σ)) (rmA 2 2 700)) (sadd sch 1 (fun _ => .inr (9, [.null, yI 0, .null, yI 0, yI 0, yI 0, yI 0, yI 0, yI 0, yI 0]))) (2) (σ) 0 0 0 [(0, yR g 1)] []
  refine y_aload_n (pc := 0) hF dX9_init_0 0 rfl ?_
  refine y_objI (pc := 1) hF dX9_init_1 w_119 w_112 w_oi ⟨Nat.le_of_ble_eq_true rfl, Nat.le_of_ble_eq_true rfl⟩ (Nat.le_of_ble_eq_true rfl) ?_
  refine y_aload_n (pc := 4) hF dX9_init_4 0 rfl ?_
  refine y_sipush (pc := 5) hF dX9_init_5 (by decide) ?_
  refine y_newI (pc := 8) (len := 300) (sch' := sadd (sadd sch (2) (kI g 300)) 1 (fun _ => .inr (9, [.null, yI 0, .null, yI 0, yI 0, yI 0, yI 0, yI 0, yI 0, yI 0]))) hF dX9_init_8 wac_int (by decide) ⟨Nat.le_of_ble_eq_true rfl, Nat.le_of_ble_eq_true rfl⟩ ((sadd_o (by omega)).trans (sadd_s _ _ _)) (sal_o _ _ _ _ _) ?_
  show yV X0 g 1 (yQ X0 g (sX9 g sch) (yPv (fun n' σ' => n' = 4 ∧ σ' = mX9 σ)) (rmA 2 2 700)) (sadd (sadd sch (2) (kI g 300)) 1 (fun _ => .inr (9, [.null, yI 0, .null, yI 0, yI 0, yI 0, yI 0, yI 0, yI 0, yI 0]))) (3) (ynew (σ) (2) (fun _ => 0)) 1 300 10 [(0, yR g 1)] [yR g 2, yR g 1]
  refine y_putfF (pc := 10) (ci := 9) (σ' := ynew (σ) (2) (fun _ => 0)) (sch' := sadd (sadd sch (2) (kI g 300)) 1 (fun _ => .inr (9, [yR g 2, yI 0, .null, yI 0, yI 0, yI 0, yI 0, yI 0, yI 0, yI 0]))) hF dX9_init_10 (by omega) (sadd_s _ _ _) rfl rfl iX9 0 (by decide) w_120 tyX9 tyX9_ok nmX9 rfl hIn rfl rfl rfl rfl (Nat.le_of_ble_eq_true rfl) (sadd_s _ _ _) rfl (fun k' h => ⟨rfl, (sadd_o h).trans (sadd_o h).symm⟩) ?_
  show yV X0 g 1 (yQ X0 g (sX9 g sch) (yPv (fun n' σ' => n' = 4 ∧ σ' = mX9 σ)) (rmA 2 2 700)) (sadd (sadd sch (2) (kI g 300)) 1 (fun _ => .inr (9, [yR g 2, yI 0, .null, yI 0, yI 0, yI 0, yI 0, yI 0, yI 0, yI 0]))) (3) (ynew (σ) (2) (fun _ => 0)) 1 300 13 [(0, yR g 1)] []
  refine y_aload_n (pc := 13) hF dX9_init_13 0 rfl ?_
  refine y_iconst (pc := 14) hF dX9_init_14 ?_
  refine y_putf (pc := 15) (ci := 9) (σ' := ynew (σ) (2) (fun _ => 0)) (sch' := sadd (sadd sch (2) (kI g 300)) 1 (fun _ => .inr (9, [yR g 2, yI 0, .null, yI 0, yI 0, yI 0, yI 0, yI 0, yI 0, yI 0]))) hF dX9_init_15 (by omega) (sadd_s _ _ _) rfl rfl iX9 1 (by decide) w_121 tyX9 tyX9_ok nmX9 rfl rfl rfl rfl (Nat.le_of_ble_eq_true rfl) (sadd_s _ _ _) rfl (fun k' h => ⟨rfl, (sadd_o h).trans (sadd_o h).symm⟩) ?_
  show yV X0 g 1 (yQ X0 g (sX9 g sch) (yPv (fun n' σ' => n' = 4 ∧ σ' = mX9 σ)) (rmA 2 2 700)) (sadd (sadd sch (2) (kI g 300)) 1 (fun _ => .inr (9, [yR g 2, yI 0, .null, yI 0, yI 0, yI 0, yI 0, yI 0, yI 0, yI 0]))) (3) (ynew (σ) (2) (fun _ => 0)) 1 300 18 [(0, yR g 1)] []
  refine y_aload_n (pc := 18) hF dX9_init_18 0 rfl ?_
  refine y_sipush (pc := 19) hF dX9_init_19 (by decide) ?_
  refine y_newI (pc := 22) (len := 400) (sch' := sadd (sadd (sadd sch (2) (kI g 300)) (3) (kI g 400)) 1 (fun _ => .inr (9, [yR g 2, yI 0, .null, yI 0, yI 0, yI 0, yI 0, yI 0, yI 0, yI 0]))) hF dX9_init_22 wac_int (by decide) ⟨Nat.le_of_ble_eq_true rfl, Nat.le_of_ble_eq_true rfl⟩ ((sadd_o (by omega)).trans (sadd_s _ _ _)) (sal_o _ _ _ _ _) ?_
  show yV X0 g 1 (yQ X0 g (sX9 g sch) (yPv (fun n' σ' => n' = 4 ∧ σ' = mX9 σ)) (rmA 2 2 700)) (sadd (sadd (sadd sch (2) (kI g 300)) (3) (kI g 400)) 1 (fun _ => .inr (9, [yR g 2, yI 0, .null, yI 0, yI 0, yI 0, yI 0, yI 0, yI 0, yI 0]))) (4) (ynew (ynew (σ) (2) (fun _ => 0)) (3) (fun _ => 0)) 2 700 24 [(0, yR g 1)] [yR g 3, yR g 1]
  refine y_putfF (pc := 24) (ci := 9) (σ' := ynew (ynew (σ) (2) (fun _ => 0)) (3) (fun _ => 0)) (sch' := sadd (sadd (sadd sch (2) (kI g 300)) (3) (kI g 400)) 1 (fun _ => .inr (9, [yR g 2, yI 0, yR g 3, yI 0, yI 0, yI 0, yI 0, yI 0, yI 0, yI 0]))) hF dX9_init_24 (by omega) (sadd_s _ _ _) rfl rfl iX9 2 (by decide) w_123 tyX9 tyX9_ok nmX9 rfl hIn rfl rfl rfl rfl (Nat.le_of_ble_eq_true rfl) (sadd_s _ _ _) rfl (fun k' h => ⟨rfl, (sadd_o h).trans (sadd_o h).symm⟩) ?_
  show yV X0 g 1 (yQ X0 g (sX9 g sch) (yPv (fun n' σ' => n' = 4 ∧ σ' = mX9 σ)) (rmA 2 2 700)) (sadd (sadd (sadd sch (2) (kI g 300)) (3) (kI g 400)) 1 (fun _ => .inr (9, [yR g 2, yI 0, yR g 3, yI 0, yI 0, yI 0, yI 0, yI 0, yI 0, yI 0]))) (4) (ynew (ynew (σ) (2) (fun _ => 0)) (3) (fun _ => 0)) 2 700 27 [(0, yR g 1)] []
  refine y_aload_n (pc := 27) hF dX9_init_27 0 rfl ?_
  refine y_iconst (pc := 28) hF dX9_init_28 ?_
  refine y_putf (pc := 29) (ci := 9) (σ' := ynew (ynew (σ) (2) (fun _ => 0)) (3) (fun _ => 0)) (sch' := sadd (sadd (sadd sch (2) (kI g 300)) (3) (kI g 400)) 1 (fun _ => .inr (9, [yR g 2, yI 0, yR g 3, yI 0, yI 0, yI 0, yI 0, yI 0, yI 0, yI 0]))) hF dX9_init_29 (by omega) (sadd_s _ _ _) rfl rfl iX9 3 (by decide) w_125 tyX9 tyX9_ok nmX9 rfl rfl rfl rfl (Nat.le_of_ble_eq_true rfl) (sadd_s _ _ _) rfl (fun k' h => ⟨rfl, (sadd_o h).trans (sadd_o h).symm⟩) ?_
  show yV X0 g 1 (yQ X0 g (sX9 g sch) (yPv (fun n' σ' => n' = 4 ∧ σ' = mX9 σ)) (rmA 2 2 700)) (sadd (sadd (sadd sch (2) (kI g 300)) (3) (kI g 400)) 1 (fun _ => .inr (9, [yR g 2, yI 0, yR g 3, yI 0, yI 0, yI 0, yI 0, yI 0, yI 0, yI 0]))) (4) (ynew (ynew (σ) (2) (fun _ => 0)) (3) (fun _ => 0)) 2 700 32 [(0, yR g 1)] []
  refine y_aload_n (pc := 32) hF dX9_init_32 0 rfl ?_
  refine y_iconst (pc := 33) hF dX9_init_33 ?_
  refine y_putf (pc := 34) (ci := 9) (σ' := ynew (ynew (σ) (2) (fun _ => 0)) (3) (fun _ => 0)) (sch' := sadd (sadd (sadd sch (2) (kI g 300)) (3) (kI g 400)) 1 (fun _ => .inr (9, [yR g 2, yI 0, yR g 3, yI 0, yI 0, yI 0, yI 0, yI 0, yI 0, yI 0]))) hF dX9_init_34 (by omega) (sadd_s _ _ _) rfl rfl iX9 4 (by decide) w_127 tyX9 tyX9_ok nmX9 rfl rfl rfl rfl (Nat.le_of_ble_eq_true rfl) (sadd_s _ _ _) rfl (fun k' h => ⟨rfl, (sadd_o h).trans (sadd_o h).symm⟩) ?_
  show yV X0 g 1 (yQ X0 g (sX9 g sch) (yPv (fun n' σ' => n' = 4 ∧ σ' = mX9 σ)) (rmA 2 2 700)) (sadd (sadd (sadd sch (2) (kI g 300)) (3) (kI g 400)) 1 (fun _ => .inr (9, [yR g 2, yI 0, yR g 3, yI 0, yI 0, yI 0, yI 0, yI 0, yI 0, yI 0]))) (4) (ynew (ynew (σ) (2) (fun _ => 0)) (3) (fun _ => 0)) 2 700 37 [(0, yR g 1)] []
  refine y_aload_n (pc := 37) hF dX9_init_37 0 rfl ?_
  refine y_iconst (pc := 38) hF dX9_init_38 ?_
  refine y_putf (pc := 39) (ci := 9) (σ' := ynew (ynew (σ) (2) (fun _ => 0)) (3) (fun _ => 0)) (sch' := sadd (sadd (sadd sch (2) (kI g 300)) (3) (kI g 400)) 1 (fun _ => .inr (9, [yR g 2, yI 0, yR g 3, yI 0, yI 0, yI (-1), yI 0, yI 0, yI 0, yI 0]))) hF dX9_init_39 (by omega) (sadd_s _ _ _) rfl rfl iX9 5 (by decide) w_129 tyX9 tyX9_ok nmX9 rfl rfl rfl rfl (Nat.le_of_ble_eq_true rfl) (sadd_s _ _ _) rfl (fun k' h => ⟨rfl, (sadd_o h).trans (sadd_o h).symm⟩) ?_
  show yV X0 g 1 (yQ X0 g (sX9 g sch) (yPv (fun n' σ' => n' = 4 ∧ σ' = mX9 σ)) (rmA 2 2 700)) (sadd (sadd (sadd sch (2) (kI g 300)) (3) (kI g 400)) 1 (fun _ => .inr (9, [yR g 2, yI 0, yR g 3, yI 0, yI 0, yI (-1), yI 0, yI 0, yI 0, yI 0]))) (4) (ynew (ynew (σ) (2) (fun _ => 0)) (3) (fun _ => 0)) 2 700 42 [(0, yR g 1)] []
  refine y_aload_n (pc := 42) hF dX9_init_42 0 rfl ?_
  refine y_iconst (pc := 43) hF dX9_init_43 ?_
  refine y_putf (pc := 44) (ci := 9) (σ' := ynew (ynew (σ) (2) (fun _ => 0)) (3) (fun _ => 0)) (sch' := sadd (sadd (sadd sch (2) (kI g 300)) (3) (kI g 400)) 1 (fun _ => .inr (9, [yR g 2, yI 0, yR g 3, yI 0, yI 0, yI (-1), yI 0, yI 0, yI 0, yI 0]))) hF dX9_init_44 (by omega) (sadd_s _ _ _) rfl rfl iX9 6 (by decide) w_131 tyX9 tyX9_ok nmX9 rfl rfl rfl rfl (Nat.le_of_ble_eq_true rfl) (sadd_s _ _ _) rfl (fun k' h => ⟨rfl, (sadd_o h).trans (sadd_o h).symm⟩) ?_
  show yV X0 g 1 (yQ X0 g (sX9 g sch) (yPv (fun n' σ' => n' = 4 ∧ σ' = mX9 σ)) (rmA 2 2 700)) (sadd (sadd (sadd sch (2) (kI g 300)) (3) (kI g 400)) 1 (fun _ => .inr (9, [yR g 2, yI 0, yR g 3, yI 0, yI 0, yI (-1), yI 0, yI 0, yI 0, yI 0]))) (4) (ynew (ynew (σ) (2) (fun _ => 0)) (3) (fun _ => 0)) 2 700 47 [(0, yR g 1)] []
  refine y_aload_n (pc := 47) hF dX9_init_47 0 rfl ?_
  refine y_iconst (pc := 48) hF dX9_init_48 ?_
  refine y_putf (pc := 49) (ci := 9) (σ' := ynew (ynew (σ) (2) (fun _ => 0)) (3) (fun _ => 0)) (sch' := sadd (sadd (sadd sch (2) (kI g 300)) (3) (kI g 400)) 1 (fun _ => .inr (9, [yR g 2, yI 0, yR g 3, yI 0, yI 0, yI (-1), yI 0, yI 0, yI 0, yI 0]))) hF dX9_init_49 (by omega) (sadd_s _ _ _) rfl rfl iX9 7 (by decide) w_132 tyX9 tyX9_ok nmX9 rfl rfl rfl rfl (Nat.le_of_ble_eq_true rfl) (sadd_s _ _ _) rfl (fun k' h => ⟨rfl, (sadd_o h).trans (sadd_o h).symm⟩) ?_
  show yV X0 g 1 (yQ X0 g (sX9 g sch) (yPv (fun n' σ' => n' = 4 ∧ σ' = mX9 σ)) (rmA 2 2 700)) (sadd (sadd (sadd sch (2) (kI g 300)) (3) (kI g 400)) 1 (fun _ => .inr (9, [yR g 2, yI 0, yR g 3, yI 0, yI 0, yI (-1), yI 0, yI 0, yI 0, yI 0]))) (4) (ynew (ynew (σ) (2) (fun _ => 0)) (3) (fun _ => 0)) 2 700 52 [(0, yR g 1)] []
  refine y_aload_n (pc := 52) hF dX9_init_52 0 rfl ?_
  refine y_iconst (pc := 53) hF dX9_init_53 ?_
  refine y_putf (pc := 54) (ci := 9) (σ' := ynew (ynew (σ) (2) (fun _ => 0)) (3) (fun _ => 0)) (sch' := sadd (sadd (sadd sch (2) (kI g 300)) (3) (kI g 400)) 1 (fun _ => .inr (9, [yR g 2, yI 0, yR g 3, yI 0, yI 0, yI (-1), yI 0, yI 0, yI 0, yI 0]))) hF dX9_init_54 (by omega) (sadd_s _ _ _) rfl rfl iX9 8 (by decide) w_133 tyX9 tyX9_ok nmX9 rfl rfl rfl rfl (Nat.le_of_ble_eq_true rfl) (sadd_s _ _ _) rfl (fun k' h => ⟨rfl, (sadd_o h).trans (sadd_o h).symm⟩) ?_
  show yV X0 g 1 (yQ X0 g (sX9 g sch) (yPv (fun n' σ' => n' = 4 ∧ σ' = mX9 σ)) (rmA 2 2 700)) (sadd (sadd (sadd sch (2) (kI g 300)) (3) (kI g 400)) 1 (fun _ => .inr (9, [yR g 2, yI 0, yR g 3, yI 0, yI 0, yI (-1), yI 0, yI 0, yI 0, yI 0]))) (4) (ynew (ynew (σ) (2) (fun _ => 0)) (3) (fun _ => 0)) 2 700 57 [(0, yR g 1)] []
  refine y_aload_n (pc := 57) hF dX9_init_57 0 rfl ?_
  refine y_iconst (pc := 58) hF dX9_init_58 ?_
  refine y_putf (pc := 59) (ci := 9) (σ' := ynew (ynew (σ) (2) (fun _ => 0)) (3) (fun _ => 0)) (sch' := sadd (sadd (sadd sch (2) (kI g 300)) (3) (kI g 400)) 1 (fun _ => .inr (9, [yR g 2, yI 0, yR g 3, yI 0, yI 0, yI (-1), yI 0, yI 0, yI 0, yI 0]))) hF dX9_init_59 (by omega) (sadd_s _ _ _) rfl rfl iX9 9 (by decide) w_134 tyX9 tyX9_ok nmX9 rfl rfl rfl rfl (Nat.le_of_ble_eq_true rfl) (sadd_s _ _ _) rfl (fun k' h => ⟨rfl, (sadd_o h).trans (sadd_o h).symm⟩) ?_
  show yV X0 g 1 (yQ X0 g (sX9 g sch) (yPv (fun n' σ' => n' = 4 ∧ σ' = mX9 σ)) (rmA 2 2 700)) (sadd (sadd (sadd sch (2) (kI g 300)) (3) (kI g 400)) 1 (fun _ => .inr (9, [yR g 2, yI 0, yR g 3, yI 0, yI 0, yI (-1), yI 0, yI 0, yI 0, yI 0]))) (4) (ynew (ynew (σ) (2) (fun _ => 0)) (3) (fun _ => 0)) 2 700 62 [(0, yR g 1)] []
  refine y_fin (R := sadd (sadd sch (2) (kI g 300)) (3) (kI g 400)) (k := 1) (K := kTap g) (φ := (fun j => if j = 5 then (-1) else 0)) rfl ?_
  exact y_vret (pc := 62) hF dX9_init_62 (Nat.le_of_ble_eq_true rfl) (Nat.le_of_ble_eq_true rfl) ⟨rfl, rfl, rfl⟩

def sX5 (g : yG) (sch : yS) : yS := sadd (sadd (sadd sch (121) (kI g 400)) (122) (kI g 400)) 120 (kRan g)
def mX5 (σ : yM) : yM := ynew (ynew (ynew (σ) (121) (fun _ => 0)) (122) (fun _ => 0)) 120 (fun _ => 0)
theorem sX5_wk {g : yG} {R : yS} {k : Nat} {F D : (Int → Int) → va_E} {c : Nat} {f : (Int → Int) → va_E} (h : k < 120) (hh : sadd (sX5 g R) k F c = some f) : sX5 g (sadd (sadd R 120 D) k F) c = some f := by
  rcases Decidable.em (c = k) with e | e
  · subst e
    have e1 : f = F := (Option.some.inj ((sadd_s _ _ _).symm.trans hh)).symm
    subst e1
    unfold sX5 sadd
    repeat rw [if_neg (by omega)]
    rw [if_pos rfl]
  · rw [sadd_o e] at hh
    rcases Decidable.em (c = 120) with e2 | e2
    · subst e2
      unfold sX5 sadd at hh ⊢
      (try simp only [if_true] at hh ⊢)
      exact hh
    · unfold sX5 sadd at hh ⊢
      rw [if_neg e2] at hh ⊢
      simp only [if_neg e, if_neg e2]
      exact hh
theorem dX5_init_0 : decode cX5_init 0 = .ok (.aload_n 0, 1) := by decide +kernel
theorem dX5_init_1 : decode cX5_init 1 = .ok (.invokespecial 3, 3) := by decide +kernel
theorem dX5_init_4 : decode cX5_init 4 = .ok (.aload_n 0, 1) := by decide +kernel
theorem dX5_init_5 : decode cX5_init 5 = .ok (.iconst 0, 1) := by decide +kernel
theorem dX5_init_6 : decode cX5_init 6 = .ok (.putfield 9, 3) := by decide +kernel
theorem dX5_init_9 : decode cX5_init 9 = .ok (.aload_n 0, 1) := by decide +kernel
theorem dX5_init_10 : decode cX5_init 10 = .ok (.iconst 0, 1) := by decide +kernel
theorem dX5_init_11 : decode cX5_init 11 = .ok (.putfield 15, 3) := by decide +kernel
theorem dX5_init_14 : decode cX5_init 14 = .ok (.aload_n 0, 1) := by decide +kernel
theorem dX5_init_15 : decode cX5_init 15 = .ok (.iconst 0, 1) := by decide +kernel
theorem dX5_init_16 : decode cX5_init 16 = .ok (.putfield 18, 3) := by decide +kernel
theorem dX5_init_19 : decode cX5_init 19 = .ok (.aload_n 0, 1) := by decide +kernel
theorem dX5_init_20 : decode cX5_init 20 = .ok (.iconst 0, 1) := by decide +kernel
theorem dX5_init_21 : decode cX5_init 21 = .ok (.putfield 21, 3) := by decide +kernel
theorem dX5_init_24 : decode cX5_init 24 = .ok (.aload_n 0, 1) := by decide +kernel
theorem dX5_init_25 : decode cX5_init 25 = .ok (.iconst 0, 1) := by decide +kernel
theorem dX5_init_26 : decode cX5_init 26 = .ok (.putfield 24, 3) := by decide +kernel
theorem dX5_init_29 : decode cX5_init 29 = .ok (.aload_n 0, 1) := by decide +kernel
theorem dX5_init_30 : decode cX5_init 30 = .ok (.iconst 0, 1) := by decide +kernel
theorem dX5_init_31 : decode cX5_init 31 = .ok (.putfield 27, 3) := by decide +kernel
theorem dX5_init_34 : decode cX5_init 34 = .ok (.aload_n 0, 1) := by decide +kernel
theorem dX5_init_35 : decode cX5_init 35 = .ok (.iconst 0, 1) := by decide +kernel
theorem dX5_init_36 : decode cX5_init 36 = .ok (.putfield 30, 3) := by decide +kernel
theorem dX5_init_39 : decode cX5_init 39 = .ok (.aload_n 0, 1) := by decide +kernel
theorem dX5_init_40 : decode cX5_init 40 = .ok (.sipush 400, 3) := by decide +kernel
theorem dX5_init_43 : decode cX5_init 43 = .ok (.newarray .int, 2) := by decide +kernel
theorem dX5_init_45 : decode cX5_init 45 = .ok (.putfield 33, 3) := by decide +kernel
theorem dX5_init_48 : decode cX5_init 48 = .ok (.aload_n 0, 1) := by decide +kernel
theorem dX5_init_49 : decode cX5_init 49 = .ok (.sipush 400, 3) := by decide +kernel
theorem dX5_init_52 : decode cX5_init 52 = .ok (.newarray .int, 2) := by decide +kernel
theorem dX5_init_54 : decode cX5_init 54 = .ok (.putfield 37, 3) := by decide +kernel
theorem dX5_init_57 : decode cX5_init 57 = .ok (.aload_n 0, 1) := by decide +kernel
theorem dX5_init_58 : decode cX5_init 58 = .ok (.iconst 0, 1) := by decide +kernel
theorem dX5_init_59 : decode cX5_init 59 = .ok (.putfield 40, 3) := by decide +kernel
theorem dX5_init_62 : decode cX5_init 62 = .ok (.return_, 1) := by decide +kernel
set_option maxHeartbeats 4000000 in
set_option maxRecDepth 100000 in
theorem tX5_init {l : Launch} {g : yG} {σ : yM} (sch : yS) (hs0 : sch 120 = some (fun _ => .inr (5, [yI 0, yI 0, yI 0, yI 0, yI 0, yI 0, yI 0, .null, .null, yI 0]))) : yMet l g yX5_init cX5_init 1 none (rmA 2 2 800) [yR g 120] sch (121) σ (sX5 g sch) (yPv (fun n' σ' => n' = 123 ∧ σ' = mX5 σ)) := by
  refine y_startC (by decide) (Nat.le_of_ble_eq_true rfl) rfl (fun X0 hF hIn => ?_)
  refine y_wk (sch' := sadd sch 120 (fun _ => .inr (5, [yI 0, yI 0, yI 0, yI 0, yI 0, yI 0, yI 0, .null, .null, yI 0]))) (fun c f _ hh => sad_b hs0 hh) ?_
  show yV X0 g 1 (yQ X0 g (sX5 g sch) (yPv (fun n' σ' => n' = 123 ∧ σ' = mX5 σ)) (rmA 2 2 800)) (sadd sch 120 (fun _ => .inr (5, [yI 0, yI 0, yI 0, yI 0, yI 0, yI 0, yI 0, .null, .null, yI 0]))) (121) (σ) 0 0 0 [(0, yR g 120)] []
  refine y_aload_n (pc := 0) hF dX5_init_0 0 rfl ?_
  refine y_objI (pc := 1) hF dX5_init_1 w_312 w_112 w_oi ⟨Nat.le_of_ble_eq_true rfl, Nat.le_of_ble_eq_true rfl⟩ (Nat.le_of_ble_eq_true rfl) ?_
  refine y_aload_n (pc := 4) hF dX5_init_4 0 rfl ?_
  refine y_iconst (pc := 5) hF dX5_init_5 ?_
  refine y_putf (pc := 6) (ci := 5) (σ' := σ) (sch' := sadd sch 120 (fun _ => .inr (5, [yI 0, yI 0, yI 0, yI 0, yI 0, yI 0, yI 0, .null, .null, yI 0]))) hF dX5_init_6 (by omega) (sadd_s _ _ _) rfl rfl iX5 0 (by decide) w_313 tyX5 tyX5_ok nmX5 rfl rfl rfl rfl (Nat.le_of_ble_eq_true rfl) (sadd_s _ _ _) rfl (fun k' h => ⟨rfl, (sadd_o h).trans (sadd_o h).symm⟩) ?_
  show yV X0 g 1 (yQ X0 g (sX5 g sch) (yPv (fun n' σ' => n' = 123 ∧ σ' = mX5 σ)) (rmA 2 2 800)) (sadd sch 120 (fun _ => .inr (5, [yI 0, yI 0, yI 0, yI 0, yI 0, yI 0, yI 0, .null, .null, yI 0]))) (121) (σ) 0 0 9 [(0, yR g 120)] []
  refine y_aload_n (pc := 9) hF dX5_init_9 0 rfl ?_
  refine y_iconst (pc := 10) hF dX5_init_10 ?_
  refine y_putf (pc := 11) (ci := 5) (σ' := σ) (sch' := sadd sch 120 (fun _ => .inr (5, [yI 0, yI 0, yI 0, yI 0, yI 0, yI 0, yI 0, .null, .null, yI 0]))) hF dX5_init_11 (by omega) (sadd_s _ _ _) rfl rfl iX5 1 (by decide) w_316 tyX5 tyX5_ok nmX5 rfl rfl rfl rfl (Nat.le_of_ble_eq_true rfl) (sadd_s _ _ _) rfl (fun k' h => ⟨rfl, (sadd_o h).trans (sadd_o h).symm⟩) ?_
  show yV X0 g 1 (yQ X0 g (sX5 g sch) (yPv (fun n' σ' => n' = 123 ∧ σ' = mX5 σ)) (rmA 2 2 800)) (sadd sch 120 (fun _ => .inr (5, [yI 0, yI 0, yI 0, yI 0, yI 0, yI 0, yI 0, .null, .null, yI 0]))) (121) (σ) 0 0 14 [(0, yR g 120)] []
  refine y_aload_n (pc := 14) hF dX5_init_14 0 rfl ?_
  refine y_iconst (pc := 15) hF dX5_init_15 ?_
  refine y_putf (pc := 16) (ci := 5) (σ' := σ) (sch' := sadd sch 120 (fun _ => .inr (5, [yI 0, yI 0, yI 0, yI 0, yI 0, yI 0, yI 0, .null, .null, yI 0]))) hF dX5_init_16 (by omega) (sadd_s _ _ _) rfl rfl iX5 2 (by decide) w_318 tyX5 tyX5_ok nmX5 rfl rfl rfl rfl (Nat.le_of_ble_eq_true rfl) (sadd_s _ _ _) rfl (fun k' h => ⟨rfl, (sadd_o h).trans (sadd_o h).symm⟩) ?_
  show yV X0 g 1 (yQ X0 g (sX5 g sch) (yPv (fun n' σ' => n' = 123 ∧ σ' = mX5 σ)) (rmA 2 2 800)) (sadd sch 120 (fun _ => .inr (5, [yI 0, yI 0, yI 0, yI 0, yI 0, yI 0, yI 0, .null, .null, yI 0]))) (121) (σ) 0 0 19 [(0, yR g 120)] []
  refine y_aload_n (pc := 19) hF dX5_init_19 0 rfl ?_
  refine y_iconst (pc := 20) hF dX5_init_20 ?_
  refine y_putf (pc := 21) (ci := 5) (σ' := σ) (sch' := sadd sch 120 (fun _ => .inr (5, [yI 0, yI 0, yI 0, yI 0, yI 0, yI 0, yI 0, .null, .null, yI 0]))) hF dX5_init_21 (by omega) (sadd_s _ _ _) rfl rfl iX5 3 (by decide) w_320 tyX5 tyX5_ok nmX5 rfl rfl rfl rfl (Nat.le_of_ble_eq_true rfl) (sadd_s _ _ _) rfl (fun k' h => ⟨rfl, (sadd_o h).trans (sadd_o h).symm⟩) ?_
  show yV X0 g 1 (yQ X0 g (sX5 g sch) (yPv (fun n' σ' => n' = 123 ∧ σ' = mX5 σ)) (rmA 2 2 800)) (sadd sch 120 (fun _ => .inr (5, [yI 0, yI 0, yI 0, yI 0, yI 0, yI 0, yI 0, .null, .null, yI 0]))) (121) (σ) 0 0 24 [(0, yR g 120)] []
  refine y_aload_n (pc := 24) hF dX5_init_24 0 rfl ?_
  refine y_iconst (pc := 25) hF dX5_init_25 ?_
  refine y_putf (pc := 26) (ci := 5) (σ' := σ) (sch' := sadd sch 120 (fun _ => .inr (5, [yI 0, yI 0, yI 0, yI 0, yI 0, yI 0, yI 0, .null, .null, yI 0]))) hF dX5_init_26 (by omega) (sadd_s _ _ _) rfl rfl iX5 4 (by decide) w_322 tyX5 tyX5_ok nmX5 rfl rfl rfl rfl (Nat.le_of_ble_eq_true rfl) (sadd_s _ _ _) rfl (fun k' h => ⟨rfl, (sadd_o h).trans (sadd_o h).symm⟩) ?_
  show yV X0 g 1 (yQ X0 g (sX5 g sch) (yPv (fun n' σ' => n' = 123 ∧ σ' = mX5 σ)) (rmA 2 2 800)) (sadd sch 120 (fun _ => .inr (5, [yI 0, yI 0, yI 0, yI 0, yI 0, yI 0, yI 0, .null, .null, yI 0]))) (121) (σ) 0 0 29 [(0, yR g 120)] []
  refine y_aload_n (pc := 29) hF dX5_init_29 0 rfl ?_
  refine y_iconst (pc := 30) hF dX5_init_30 ?_
  refine y_putf (pc := 31) (ci := 5) (σ' := σ) (sch' := sadd sch 120 (fun _ => .inr (5, [yI 0, yI 0, yI 0, yI 0, yI 0, yI 0, yI 0, .null, .null, yI 0]))) hF dX5_init_31 (by omega) (sadd_s _ _ _) rfl rfl iX5 5 (by decide) w_324 tyX5 tyX5_ok nmX5 rfl rfl rfl rfl (Nat.le_of_ble_eq_true rfl) (sadd_s _ _ _) rfl (fun k' h => ⟨rfl, (sadd_o h).trans (sadd_o h).symm⟩) ?_
  show yV X0 g 1 (yQ X0 g (sX5 g sch) (yPv (fun n' σ' => n' = 123 ∧ σ' = mX5 σ)) (rmA 2 2 800)) (sadd sch 120 (fun _ => .inr (5, [yI 0, yI 0, yI 0, yI 0, yI 0, yI 0, yI 0, .null, .null, yI 0]))) (121) (σ) 0 0 34 [(0, yR g 120)] []
  refine y_aload_n (pc := 34) hF dX5_init_34 0 rfl ?_
  refine y_iconst (pc := 35) hF dX5_init_35 ?_
  refine y_putf (pc := 36) (ci := 5) (σ' := σ) (sch' := sadd sch 120 (fun _ => .inr (5, [yI 0, yI 0, yI 0, yI 0, yI 0, yI 0, yI 0, .null, .null, yI 0]))) hF dX5_init_36 (by omega) (sadd_s _ _ _) rfl rfl iX5 6 (by decide) w_326 tyX5 tyX5_ok nmX5 rfl rfl rfl rfl (Nat.le_of_ble_eq_true rfl) (sadd_s _ _ _) rfl (fun k' h => ⟨rfl, (sadd_o h).trans (sadd_o h).symm⟩) ?_
  show yV X0 g 1 (yQ X0 g (sX5 g sch) (yPv (fun n' σ' => n' = 123 ∧ σ' = mX5 σ)) (rmA 2 2 800)) (sadd sch 120 (fun _ => .inr (5, [yI 0, yI 0, yI 0, yI 0, yI 0, yI 0, yI 0, .null, .null, yI 0]))) (121) (σ) 0 0 39 [(0, yR g 120)] []
  refine y_aload_n (pc := 39) hF dX5_init_39 0 rfl ?_
  refine y_sipush (pc := 40) hF dX5_init_40 (by decide) ?_
  refine y_newI (pc := 43) (len := 400) (sch' := sadd (sadd sch (121) (kI g 400)) 120 (fun _ => .inr (5, [yI 0, yI 0, yI 0, yI 0, yI 0, yI 0, yI 0, .null, .null, yI 0]))) hF dX5_init_43 wac_int (by decide) ⟨Nat.le_of_ble_eq_true rfl, Nat.le_of_ble_eq_true rfl⟩ ((sadd_o (by omega)).trans (sadd_s _ _ _)) (sal_o _ _ _ _ _) ?_
  show yV X0 g 1 (yQ X0 g (sX5 g sch) (yPv (fun n' σ' => n' = 123 ∧ σ' = mX5 σ)) (rmA 2 2 800)) (sadd (sadd sch (121) (kI g 400)) 120 (fun _ => .inr (5, [yI 0, yI 0, yI 0, yI 0, yI 0, yI 0, yI 0, .null, .null, yI 0]))) (122) (ynew (σ) (121) (fun _ => 0)) 1 400 45 [(0, yR g 120)] [yR g 121, yR g 120]
  refine y_putfF (pc := 45) (ci := 5) (σ' := ynew (σ) (121) (fun _ => 0)) (sch' := sadd (sadd sch (121) (kI g 400)) 120 (fun _ => .inr (5, [yI 0, yI 0, yI 0, yI 0, yI 0, yI 0, yI 0, yR g 121, .null, yI 0]))) hF dX5_init_45 (by omega) (sadd_s _ _ _) rfl rfl iX5 7 (by decide) w_328 tyX5 tyX5_ok nmX5 rfl hIn rfl rfl rfl rfl (Nat.le_of_ble_eq_true rfl) (sadd_s _ _ _) rfl (fun k' h => ⟨rfl, (sadd_o h).trans (sadd_o h).symm⟩) ?_
  show yV X0 g 1 (yQ X0 g (sX5 g sch) (yPv (fun n' σ' => n' = 123 ∧ σ' = mX5 σ)) (rmA 2 2 800)) (sadd (sadd sch (121) (kI g 400)) 120 (fun _ => .inr (5, [yI 0, yI 0, yI 0, yI 0, yI 0, yI 0, yI 0, yR g 121, .null, yI 0]))) (122) (ynew (σ) (121) (fun _ => 0)) 1 400 48 [(0, yR g 120)] []
  refine y_aload_n (pc := 48) hF dX5_init_48 0 rfl ?_
  refine y_sipush (pc := 49) hF dX5_init_49 (by decide) ?_
  refine y_newI (pc := 52) (len := 400) (sch' := sadd (sadd (sadd sch (121) (kI g 400)) (122) (kI g 400)) 120 (fun _ => .inr (5, [yI 0, yI 0, yI 0, yI 0, yI 0, yI 0, yI 0, yR g 121, .null, yI 0]))) hF dX5_init_52 wac_int (by decide) ⟨Nat.le_of_ble_eq_true rfl, Nat.le_of_ble_eq_true rfl⟩ ((sadd_o (by omega)).trans (sadd_s _ _ _)) (sal_o _ _ _ _ _) ?_
  show yV X0 g 1 (yQ X0 g (sX5 g sch) (yPv (fun n' σ' => n' = 123 ∧ σ' = mX5 σ)) (rmA 2 2 800)) (sadd (sadd (sadd sch (121) (kI g 400)) (122) (kI g 400)) 120 (fun _ => .inr (5, [yI 0, yI 0, yI 0, yI 0, yI 0, yI 0, yI 0, yR g 121, .null, yI 0]))) (123) (ynew (ynew (σ) (121) (fun _ => 0)) (122) (fun _ => 0)) 2 800 54 [(0, yR g 120)] [yR g 122, yR g 120]
  refine y_putfF (pc := 54) (ci := 5) (σ' := ynew (ynew (σ) (121) (fun _ => 0)) (122) (fun _ => 0)) (sch' := sadd (sadd (sadd sch (121) (kI g 400)) (122) (kI g 400)) 120 (fun _ => .inr (5, [yI 0, yI 0, yI 0, yI 0, yI 0, yI 0, yI 0, yR g 121, yR g 122, yI 0]))) hF dX5_init_54 (by omega) (sadd_s _ _ _) rfl rfl iX5 8 (by decide) w_331 tyX5 tyX5_ok nmX5 rfl hIn rfl rfl rfl rfl (Nat.le_of_ble_eq_true rfl) (sadd_s _ _ _) rfl (fun k' h => ⟨rfl, (sadd_o h).trans (sadd_o h).symm⟩) ?_
  show yV X0 g 1 (yQ X0 g (sX5 g sch) (yPv (fun n' σ' => n' = 123 ∧ σ' = mX5 σ)) (rmA 2 2 800)) (sadd (sadd (sadd sch (121) (kI g 400)) (122) (kI g 400)) 120 (fun _ => .inr (5, [yI 0, yI 0, yI 0, yI 0, yI 0, yI 0, yI 0, yR g 121, yR g 122, yI 0]))) (123) (ynew (ynew (σ) (121) (fun _ => 0)) (122) (fun _ => 0)) 2 800 57 [(0, yR g 120)] []
  refine y_aload_n (pc := 57) hF dX5_init_57 0 rfl ?_
  refine y_iconst (pc := 58) hF dX5_init_58 ?_
  refine y_putf (pc := 59) (ci := 5) (σ' := ynew (ynew (σ) (121) (fun _ => 0)) (122) (fun _ => 0)) (sch' := sadd (sadd (sadd sch (121) (kI g 400)) (122) (kI g 400)) 120 (fun _ => .inr (5, [yI 0, yI 0, yI 0, yI 0, yI 0, yI 0, yI 0, yR g 121, yR g 122, yI 0]))) hF dX5_init_59 (by omega) (sadd_s _ _ _) rfl rfl iX5 9 (by decide) w_333 tyX5 tyX5_ok nmX5 rfl rfl rfl rfl (Nat.le_of_ble_eq_true rfl) (sadd_s _ _ _) rfl (fun k' h => ⟨rfl, (sadd_o h).trans (sadd_o h).symm⟩) ?_
  show yV X0 g 1 (yQ X0 g (sX5 g sch) (yPv (fun n' σ' => n' = 123 ∧ σ' = mX5 σ)) (rmA 2 2 800)) (sadd (sadd (sadd sch (121) (kI g 400)) (122) (kI g 400)) 120 (fun _ => .inr (5, [yI 0, yI 0, yI 0, yI 0, yI 0, yI 0, yI 0, yR g 121, yR g 122, yI 0]))) (123) (ynew (ynew (σ) (121) (fun _ => 0)) (122) (fun _ => 0)) 2 800 62 [(0, yR g 120)] []
  refine y_fin (R := sadd (sadd sch (121) (kI g 400)) (122) (kI g 400)) (k := 120) (K := kRan g) (φ := (fun _ => 0)) rfl ?_
  exact y_vret (pc := 62) hF dX5_init_62 (Nat.le_of_ble_eq_true rfl) (Nat.le_of_ble_eq_true rfl) ⟨rfl, rfl, rfl⟩

def sX6 (g : yG) (sch : yS) : yS := sadd (sadd (sadd (sadd (sadd sch (124) (kI g 49)) (125) (kI g 49)) (126) (kI g 392)) (127) (kI g 441)) 123 (kSea g)
def mX6 (σ : yM) : yM := ynew (ynew (ynew (ynew (ynew (σ) (124) (fun _ => 0)) (125) (fun _ => 0)) (126) (fun _ => 0)) (127) (fun _ => 0)) 123 (fun j => if j = 0 then 5 else if j = 1 then 4 else if j = 12 then (-1) else if j = 13 then (-1) else if j = 14 then (-1) else 0)
theorem sX6_wk {g : yG} {R : yS} {k : Nat} {F D : (Int → Int) → va_E} {c : Nat} {f : (Int → Int) → va_E} (h : k < 123) (hh : sadd (sX6 g R) k F c = some f) : sX6 g (sadd (sadd R 123 D) k F) c = some f := by
  rcases Decidable.em (c = k) with e | e
  · subst e
    have e1 : f = F := (Option.some.inj ((sadd_s _ _ _).symm.trans hh)).symm
    subst e1
    unfold sX6 sadd
    repeat rw [if_neg (by omega)]
    rw [if_pos rfl]
  · rw [sadd_o e] at hh
    rcases Decidable.em (c = 123) with e2 | e2
    · subst e2
      unfold sX6 sadd at hh ⊢
      (try simp only [if_true] at hh ⊢)
      exact hh
    · unfold sX6 sadd at hh ⊢
      rw [if_neg e2] at hh ⊢
      simp only [if_neg e, if_neg e2]
      exact hh
theorem dX6_init_0 : decode cX6_init 0 = .ok (.aload_n 0, 1) := by decide +kernel
theorem dX6_init_1 : decode cX6_init 1 = .ok (.invokespecial 3, 3) := by decide +kernel
theorem dX6_init_4 : decode cX6_init 4 = .ok (.aload_n 0, 1) := by decide +kernel
theorem dX6_init_5 : decode cX6_init 5 = .ok (.iconst 0, 1) := by decide +kernel
theorem dX6_init_6 : decode cX6_init 6 = .ok (.putfield 9, 3) := by decide +kernel
theorem dX6_init_9 : decode cX6_init 9 = .ok (.aload_n 0, 1) := by decide +kernel
theorem dX6_init_10 : decode cX6_init 10 = .ok (.iconst 0, 1) := by decide +kernel
theorem dX6_init_11 : decode cX6_init 11 = .ok (.putfield 15, 3) := by decide +kernel
theorem dX6_init_14 : decode cX6_init 14 = .ok (.aload_n 0, 1) := by decide +kernel
theorem dX6_init_15 : decode cX6_init 15 = .ok (.bipush 49, 2) := by decide +kernel
theorem dX6_init_17 : decode cX6_init 17 = .ok (.newarray .int, 2) := by decide +kernel
theorem dX6_init_19 : decode cX6_init 19 = .ok (.putfield 18, 3) := by decide +kernel
theorem dX6_init_22 : decode cX6_init 22 = .ok (.aload_n 0, 1) := by decide +kernel
theorem dX6_init_23 : decode cX6_init 23 = .ok (.bipush 49, 2) := by decide +kernel
theorem dX6_init_25 : decode cX6_init 25 = .ok (.newarray .int, 2) := by decide +kernel
theorem dX6_init_27 : decode cX6_init 27 = .ok (.putfield 22, 3) := by decide +kernel
theorem dX6_init_30 : decode cX6_init 30 = .ok (.aload_n 0, 1) := by decide +kernel
theorem dX6_init_31 : decode cX6_init 31 = .ok (.sipush 392, 3) := by decide +kernel
theorem dX6_init_34 : decode cX6_init 34 = .ok (.newarray .int, 2) := by decide +kernel
theorem dX6_init_36 : decode cX6_init 36 = .ok (.putfield 25, 3) := by decide +kernel
theorem dX6_init_39 : decode cX6_init 39 = .ok (.aload_n 0, 1) := by decide +kernel
theorem dX6_init_40 : decode cX6_init 40 = .ok (.iconst 0, 1) := by decide +kernel
theorem dX6_init_41 : decode cX6_init 41 = .ok (.putfield 28, 3) := by decide +kernel
theorem dX6_init_44 : decode cX6_init 44 = .ok (.aload_n 0, 1) := by decide +kernel
theorem dX6_init_45 : decode cX6_init 45 = .ok (.iconst 0, 1) := by decide +kernel
theorem dX6_init_46 : decode cX6_init 46 = .ok (.putfield 31, 3) := by decide +kernel
theorem dX6_init_49 : decode cX6_init 49 = .ok (.aload_n 0, 1) := by decide +kernel
theorem dX6_init_50 : decode cX6_init 50 = .ok (.sipush 441, 3) := by decide +kernel
theorem dX6_init_53 : decode cX6_init 53 = .ok (.newarray .int, 2) := by decide +kernel
theorem dX6_init_55 : decode cX6_init 55 = .ok (.putfield 34, 3) := by decide +kernel
theorem dX6_init_58 : decode cX6_init 58 = .ok (.aload_n 0, 1) := by decide +kernel
theorem dX6_init_59 : decode cX6_init 59 = .ok (.iconst 0, 1) := by decide +kernel
theorem dX6_init_60 : decode cX6_init 60 = .ok (.putfield 37, 3) := by decide +kernel
theorem dX6_init_63 : decode cX6_init 63 = .ok (.aload_n 0, 1) := by decide +kernel
theorem dX6_init_64 : decode cX6_init 64 = .ok (.lconst 0, 1) := by decide +kernel
theorem dX6_init_65 : decode cX6_init 65 = .ok (.putfield 40, 3) := by decide +kernel
theorem dX6_init_68 : decode cX6_init 68 = .ok (.aload_n 0, 1) := by decide +kernel
theorem dX6_init_69 : decode cX6_init 69 = .ok (.iconst (-1), 1) := by decide +kernel
theorem dX6_init_70 : decode cX6_init 70 = .ok (.putfield 44, 3) := by decide +kernel
theorem dX6_init_73 : decode cX6_init 73 = .ok (.aload_n 0, 1) := by decide +kernel
theorem dX6_init_74 : decode cX6_init 74 = .ok (.iconst (-1), 1) := by decide +kernel
theorem dX6_init_75 : decode cX6_init 75 = .ok (.putfield 47, 3) := by decide +kernel
theorem dX6_init_78 : decode cX6_init 78 = .ok (.aload_n 0, 1) := by decide +kernel
theorem dX6_init_79 : decode cX6_init 79 = .ok (.iconst (-1), 1) := by decide +kernel
theorem dX6_init_80 : decode cX6_init 80 = .ok (.putfield 50, 3) := by decide +kernel
theorem dX6_init_83 : decode cX6_init 83 = .ok (.aload_n 0, 1) := by decide +kernel
theorem dX6_init_84 : decode cX6_init 84 = .ok (.iconst 0, 1) := by decide +kernel
theorem dX6_init_85 : decode cX6_init 85 = .ok (.putfield 53, 3) := by decide +kernel
theorem dX6_init_88 : decode cX6_init 88 = .ok (.aload_n 0, 1) := by decide +kernel
theorem dX6_init_89 : decode cX6_init 89 = .ok (.iconst 0, 1) := by decide +kernel
theorem dX6_init_90 : decode cX6_init 90 = .ok (.putfield 56, 3) := by decide +kernel
theorem dX6_init_93 : decode cX6_init 93 = .ok (.aload_n 0, 1) := by decide +kernel
theorem dX6_init_94 : decode cX6_init 94 = .ok (.iconst 0, 1) := by decide +kernel
theorem dX6_init_95 : decode cX6_init 95 = .ok (.putfield 59, 3) := by decide +kernel
theorem dX6_init_98 : decode cX6_init 98 = .ok (.aload_n 0, 1) := by decide +kernel
theorem dX6_init_99 : decode cX6_init 99 = .ok (.iconst 0, 1) := by decide +kernel
theorem dX6_init_100 : decode cX6_init 100 = .ok (.putfield 62, 3) := by decide +kernel
theorem dX6_init_103 : decode cX6_init 103 = .ok (.aload_n 0, 1) := by decide +kernel
theorem dX6_init_104 : decode cX6_init 104 = .ok (.iconst 0, 1) := by decide +kernel
theorem dX6_init_105 : decode cX6_init 105 = .ok (.putfield 65, 3) := by decide +kernel
theorem dX6_init_108 : decode cX6_init 108 = .ok (.aload_n 0, 1) := by decide +kernel
theorem dX6_init_109 : decode cX6_init 109 = .ok (.aload_n 1, 1) := by decide +kernel
theorem dX6_init_110 : decode cX6_init 110 = .ok (.putfield 68, 3) := by decide +kernel
theorem dX6_init_113 : decode cX6_init 113 = .ok (.aload_n 0, 1) := by decide +kernel
theorem dX6_init_114 : decode cX6_init 114 = .ok (.aload_n 2, 1) := by decide +kernel
theorem dX6_init_115 : decode cX6_init 115 = .ok (.putfield 72, 3) := by decide +kernel
theorem dX6_init_118 : decode cX6_init 118 = .ok (.return_, 1) := by decide +kernel
set_option maxHeartbeats 4000000 in
set_option maxRecDepth 100000 in
theorem tX6_init {l : Launch} {g : yG} {σ : yM} (sch : yS) (hs0 : sch 123 = some (fun _ => .inr (6, [.null, .null, yI 0, yI 0, .null, .null, .null, yI 0, yI 0, .null, yI 0, yJ 0, yI 0, yI 0, yI 0, yI 0, yI 0, yI 0, yI 0, yI 0]))) : yMet l g yX6_init cX6_init 3 none (rmA 2 4 931) [yR g 123, yR g 5, yR g 4] sch (124) σ (sX6 g sch) (yPv (fun n' σ' => n' = 128 ∧ σ' = mX6 σ)) := by
  refine y_startC (by decide) (Nat.le_of_ble_eq_true rfl) rfl (fun X0 hF hIn => ?_)
  refine y_wk (sch' := sadd sch 123 (fun _ => .inr (6, [.null, .null, yI 0, yI 0, .null, .null, .null, yI 0, yI 0, .null, yI 0, yJ 0, yI 0, yI 0, yI 0, yI 0, yI 0, yI 0, yI 0, yI 0]))) (fun c f _ hh => sad_b hs0 hh) ?_
  show yV X0 g 3 (yQ X0 g (sX6 g sch) (yPv (fun n' σ' => n' = 128 ∧ σ' = mX6 σ)) (rmA 2 4 931)) (sadd sch 123 (fun _ => .inr (6, [.null, .null, yI 0, yI 0, .null, .null, .null, yI 0, yI 0, .null, yI 0, yJ 0, yI 0, yI 0, yI 0, yI 0, yI 0, yI 0, yI 0, yI 0]))) (124) (σ) 0 0 0 [(0, yR g 123), (1, yR g 5), (2, yR g 4)] []
  refine y_aload_n (pc := 0) hF dX6_init_0 0 rfl ?_
  refine y_objI (pc := 1) hF dX6_init_1 w_360 w_112 w_oi ⟨Nat.le_of_ble_eq_true rfl, Nat.le_of_ble_eq_true rfl⟩ (Nat.le_of_ble_eq_true rfl) ?_
  refine y_aload_n (pc := 4) hF dX6_init_4 0 rfl ?_
  refine y_iconst (pc := 5) hF dX6_init_5 ?_
  refine y_putf (pc := 6) (ci := 6) (σ' := σ) (sch' := sadd sch 123 (fun _ => .inr (6, [.null, .null, yI 0, yI 0, .null, .null, .null, yI 0, yI 0, .null, yI 0, yJ 0, yI 0, yI 0, yI 0, yI 0, yI 0, yI 0, yI 0, yI 0]))) hF dX6_init_6 (by omega) (sadd_s _ _ _) rfl rfl iX6 2 (by decide) w_363 tyX6 tyX6_ok nmX6 rfl rfl rfl rfl (Nat.le_of_ble_eq_true rfl) (sadd_s _ _ _) rfl (fun k' h => ⟨rfl, (sadd_o h).trans (sadd_o h).symm⟩) ?_
  show yV X0 g 3 (yQ X0 g (sX6 g sch) (yPv (fun n' σ' => n' = 128 ∧ σ' = mX6 σ)) (rmA 2 4 931)) (sadd sch 123 (fun _ => .inr (6, [.null, .null, yI 0, yI 0, .null, .null, .null, yI 0, yI 0, .null, yI 0, yJ 0, yI 0, yI 0, yI 0, yI 0, yI 0, yI 0, yI 0, yI 0]))) (124) (σ) 0 0 9 [(0, yR g 123), (1, yR g 5), (2, yR g 4)] []
  refine y_aload_n (pc := 9) hF dX6_init_9 0 rfl ?_
  refine y_iconst (pc := 10) hF dX6_init_10 ?_
  refine y_putf (pc := 11) (ci := 6) (σ' := σ) (sch' := sadd sch 123 (fun _ => .inr (6, [.null, .null, yI 0, yI 0, .null, .null, .null, yI 0, yI 0, .null, yI 0, yJ 0, yI 0, yI 0, yI 0, yI 0, yI 0, yI 0, yI 0, yI 0]))) hF dX6_init_11 (by omega) (sadd_s _ _ _) rfl rfl iX6 3 (by decide) w_366 tyX6 tyX6_ok nmX6 rfl rfl rfl rfl (Nat.le_of_ble_eq_true rfl) (sadd_s _ _ _) rfl (fun k' h => ⟨rfl, (sadd_o h).trans (sadd_o h).symm⟩) ?_
  show yV X0 g 3 (yQ X0 g (sX6 g sch) (yPv (fun n' σ' => n' = 128 ∧ σ' = mX6 σ)) (rmA 2 4 931)) (sadd sch 123 (fun _ => .inr (6, [.null, .null, yI 0, yI 0, .null, .null, .null, yI 0, yI 0, .null, yI 0, yJ 0, yI 0, yI 0, yI 0, yI 0, yI 0, yI 0, yI 0, yI 0]))) (124) (σ) 0 0 14 [(0, yR g 123), (1, yR g 5), (2, yR g 4)] []
  refine y_aload_n (pc := 14) hF dX6_init_14 0 rfl ?_
  refine y_bipush (pc := 15) hF dX6_init_15 (by decide) ?_
  refine y_newI (pc := 17) (len := 49) (sch' := sadd (sadd sch (124) (kI g 49)) 123 (fun _ => .inr (6, [.null, .null, yI 0, yI 0, .null, .null, .null, yI 0, yI 0, .null, yI 0, yJ 0, yI 0, yI 0, yI 0, yI 0, yI 0, yI 0, yI 0, yI 0]))) hF dX6_init_17 wac_int (by decide) ⟨Nat.le_of_ble_eq_true rfl, Nat.le_of_ble_eq_true rfl⟩ ((sadd_o (by omega)).trans (sadd_s _ _ _)) (sal_o _ _ _ _ _) ?_
  show yV X0 g 3 (yQ X0 g (sX6 g sch) (yPv (fun n' σ' => n' = 128 ∧ σ' = mX6 σ)) (rmA 2 4 931)) (sadd (sadd sch (124) (kI g 49)) 123 (fun _ => .inr (6, [.null, .null, yI 0, yI 0, .null, .null, .null, yI 0, yI 0, .null, yI 0, yJ 0, yI 0, yI 0, yI 0, yI 0, yI 0, yI 0, yI 0, yI 0]))) (125) (ynew (σ) (124) (fun _ => 0)) 1 49 19 [(0, yR g 123), (1, yR g 5), (2, yR g 4)] [yR g 124, yR g 123]
  refine y_putfF (pc := 19) (ci := 6) (σ' := ynew (σ) (124) (fun _ => 0)) (sch' := sadd (sadd sch (124) (kI g 49)) 123 (fun _ => .inr (6, [.null, .null, yI 0, yI 0, yR g 124, .null, .null, yI 0, yI 0, .null, yI 0, yJ 0, yI 0, yI 0, yI 0, yI 0, yI 0, yI 0, yI 0, yI 0]))) hF dX6_init_19 (by omega) (sadd_s _ _ _) rfl rfl iX6 4 (by decide) w_369 tyX6 tyX6_ok nmX6 rfl hIn rfl rfl rfl rfl (Nat.le_of_ble_eq_true rfl) (sadd_s _ _ _) rfl (fun k' h => ⟨rfl, (sadd_o h).trans (sadd_o h).symm⟩) ?_
  show yV X0 g 3 (yQ X0 g (sX6 g sch) (yPv (fun n' σ' => n' = 128 ∧ σ' = mX6 σ)) (rmA 2 4 931)) (sadd (sadd sch (124) (kI g 49)) 123 (fun _ => .inr (6, [.null, .null, yI 0, yI 0, yR g 124, .null, .null, yI 0, yI 0, .null, yI 0, yJ 0, yI 0, yI 0, yI 0, yI 0, yI 0, yI 0, yI 0, yI 0]))) (125) (ynew (σ) (124) (fun _ => 0)) 1 49 22 [(0, yR g 123), (1, yR g 5), (2, yR g 4)] []
  refine y_aload_n (pc := 22) hF dX6_init_22 0 rfl ?_
  refine y_bipush (pc := 23) hF dX6_init_23 (by decide) ?_
  refine y_newI (pc := 25) (len := 49) (sch' := sadd (sadd (sadd sch (124) (kI g 49)) (125) (kI g 49)) 123 (fun _ => .inr (6, [.null, .null, yI 0, yI 0, yR g 124, .null, .null, yI 0, yI 0, .null, yI 0, yJ 0, yI 0, yI 0, yI 0, yI 0, yI 0, yI 0, yI 0, yI 0]))) hF dX6_init_25 wac_int (by decide) ⟨Nat.le_of_ble_eq_true rfl, Nat.le_of_ble_eq_true rfl⟩ ((sadd_o (by omega)).trans (sadd_s _ _ _)) (sal_o _ _ _ _ _) ?_
  show yV X0 g 3 (yQ X0 g (sX6 g sch) (yPv (fun n' σ' => n' = 128 ∧ σ' = mX6 σ)) (rmA 2 4 931)) (sadd (sadd (sadd sch (124) (kI g 49)) (125) (kI g 49)) 123 (fun _ => .inr (6, [.null, .null, yI 0, yI 0, yR g 124, .null, .null, yI 0, yI 0, .null, yI 0, yJ 0, yI 0, yI 0, yI 0, yI 0, yI 0, yI 0, yI 0, yI 0]))) (126) (ynew (ynew (σ) (124) (fun _ => 0)) (125) (fun _ => 0)) 2 98 27 [(0, yR g 123), (1, yR g 5), (2, yR g 4)] [yR g 125, yR g 123]
  refine y_putfF (pc := 27) (ci := 6) (σ' := ynew (ynew (σ) (124) (fun _ => 0)) (125) (fun _ => 0)) (sch' := sadd (sadd (sadd sch (124) (kI g 49)) (125) (kI g 49)) 123 (fun _ => .inr (6, [.null, .null, yI 0, yI 0, yR g 124, yR g 125, .null, yI 0, yI 0, .null, yI 0, yJ 0, yI 0, yI 0, yI 0, yI 0, yI 0, yI 0, yI 0, yI 0]))) hF dX6_init_27 (by omega) (sadd_s _ _ _) rfl rfl iX6 5 (by decide) w_370 tyX6 tyX6_ok nmX6 rfl hIn rfl rfl rfl rfl (Nat.le_of_ble_eq_true rfl) (sadd_s _ _ _) rfl (fun k' h => ⟨rfl, (sadd_o h).trans (sadd_o h).symm⟩) ?_
  show yV X0 g 3 (yQ X0 g (sX6 g sch) (yPv (fun n' σ' => n' = 128 ∧ σ' = mX6 σ)) (rmA 2 4 931)) (sadd (sadd (sadd sch (124) (kI g 49)) (125) (kI g 49)) 123 (fun _ => .inr (6, [.null, .null, yI 0, yI 0, yR g 124, yR g 125, .null, yI 0, yI 0, .null, yI 0, yJ 0, yI 0, yI 0, yI 0, yI 0, yI 0, yI 0, yI 0, yI 0]))) (126) (ynew (ynew (σ) (124) (fun _ => 0)) (125) (fun _ => 0)) 2 98 30 [(0, yR g 123), (1, yR g 5), (2, yR g 4)] []
  refine y_aload_n (pc := 30) hF dX6_init_30 0 rfl ?_
  refine y_sipush (pc := 31) hF dX6_init_31 (by decide) ?_
  refine y_newI (pc := 34) (len := 392) (sch' := sadd (sadd (sadd (sadd sch (124) (kI g 49)) (125) (kI g 49)) (126) (kI g 392)) 123 (fun _ => .inr (6, [.null, .null, yI 0, yI 0, yR g 124, yR g 125, .null, yI 0, yI 0, .null, yI 0, yJ 0, yI 0, yI 0, yI 0, yI 0, yI 0, yI 0, yI 0, yI 0]))) hF dX6_init_34 wac_int (by decide) ⟨Nat.le_of_ble_eq_true rfl, Nat.le_of_ble_eq_true rfl⟩ ((sadd_o (by omega)).trans (sadd_s _ _ _)) (sal_o _ _ _ _ _) ?_
  show yV X0 g 3 (yQ X0 g (sX6 g sch) (yPv (fun n' σ' => n' = 128 ∧ σ' = mX6 σ)) (rmA 2 4 931)) (sadd (sadd (sadd (sadd sch (124) (kI g 49)) (125) (kI g 49)) (126) (kI g 392)) 123 (fun _ => .inr (6, [.null, .null, yI 0, yI 0, yR g 124, yR g 125, .null, yI 0, yI 0, .null, yI 0, yJ 0, yI 0, yI 0, yI 0, yI 0, yI 0, yI 0, yI 0, yI 0]))) (127) (ynew (ynew (ynew (σ) (124) (fun _ => 0)) (125) (fun _ => 0)) (126) (fun _ => 0)) 3 490 36 [(0, yR g 123), (1, yR g 5), (2, yR g 4)] [yR g 126, yR g 123]
  refine y_putfF (pc := 36) (ci := 6) (σ' := ynew (ynew (ynew (σ) (124) (fun _ => 0)) (125) (fun _ => 0)) (126) (fun _ => 0)) (sch' := sadd (sadd (sadd (sadd sch (124) (kI g 49)) (125) (kI g 49)) (126) (kI g 392)) 123 (fun _ => .inr (6, [.null, .null, yI 0, yI 0, yR g 124, yR g 125, yR g 126, yI 0, yI 0, .null, yI 0, yJ 0, yI 0, yI 0, yI 0, yI 0, yI 0, yI 0, yI 0, yI 0]))) hF dX6_init_36 (by omega) (sadd_s _ _ _) rfl rfl iX6 6 (by decide) w_371 tyX6 tyX6_ok nmX6 rfl hIn rfl rfl rfl rfl (Nat.le_of_ble_eq_true rfl) (sadd_s _ _ _) rfl (fun k' h => ⟨rfl, (sadd_o h).trans (sadd_o h).symm⟩) ?_
  show yV X0 g 3 (yQ X0 g (sX6 g sch) (yPv (fun n' σ' => n' = 128 ∧ σ' = mX6 σ)) (rmA 2 4 931)) (sadd (sadd (sadd (sadd sch (124) (kI g 49)) (125) (kI g 49)) (126) (kI g 392)) 123 (fun _ => .inr (6, [.null, .null, yI 0, yI 0, yR g 124, yR g 125, yR g 126, yI 0, yI 0, .null, yI 0, yJ 0, yI 0, yI 0, yI 0, yI 0, yI 0, yI 0, yI 0, yI 0]))) (127) (ynew (ynew (ynew (σ) (124) (fun _ => 0)) (125) (fun _ => 0)) (126) (fun _ => 0)) 3 490 39 [(0, yR g 123), (1, yR g 5), (2, yR g 4)] []
  refine y_aload_n (pc := 39) hF dX6_init_39 0 rfl ?_
  refine y_iconst (pc := 40) hF dX6_init_40 ?_
  refine y_putf (pc := 41) (ci := 6) (σ' := ynew (ynew (ynew (σ) (124) (fun _ => 0)) (125) (fun _ => 0)) (126) (fun _ => 0)) (sch' := sadd (sadd (sadd (sadd sch (124) (kI g 49)) (125) (kI g 49)) (126) (kI g 392)) 123 (fun _ => .inr (6, [.null, .null, yI 0, yI 0, yR g 124, yR g 125, yR g 126, yI 0, yI 0, .null, yI 0, yJ 0, yI 0, yI 0, yI 0, yI 0, yI 0, yI 0, yI 0, yI 0]))) hF dX6_init_41 (by omega) (sadd_s _ _ _) rfl rfl iX6 7 (by decide) w_372 tyX6 tyX6_ok nmX6 rfl rfl rfl rfl (Nat.le_of_ble_eq_true rfl) (sadd_s _ _ _) rfl (fun k' h => ⟨rfl, (sadd_o h).trans (sadd_o h).symm⟩) ?_
  show yV X0 g 3 (yQ X0 g (sX6 g sch) (yPv (fun n' σ' => n' = 128 ∧ σ' = mX6 σ)) (rmA 2 4 931)) (sadd (sadd (sadd (sadd sch (124) (kI g 49)) (125) (kI g 49)) (126) (kI g 392)) 123 (fun _ => .inr (6, [.null, .null, yI 0, yI 0, yR g 124, yR g 125, yR g 126, yI 0, yI 0, .null, yI 0, yJ 0, yI 0, yI 0, yI 0, yI 0, yI 0, yI 0, yI 0, yI 0]))) (127) (ynew (ynew (ynew (σ) (124) (fun _ => 0)) (125) (fun _ => 0)) (126) (fun _ => 0)) 3 490 44 [(0, yR g 123), (1, yR g 5), (2, yR g 4)] []
  refine y_aload_n (pc := 44) hF dX6_init_44 0 rfl ?_
  refine y_iconst (pc := 45) hF dX6_init_45 ?_
  refine y_putf (pc := 46) (ci := 6) (σ' := ynew (ynew (ynew (σ) (124) (fun _ => 0)) (125) (fun _ => 0)) (126) (fun _ => 0)) (sch' := sadd (sadd (sadd (sadd sch (124) (kI g 49)) (125) (kI g 49)) (126) (kI g 392)) 123 (fun _ => .inr (6, [.null, .null, yI 0, yI 0, yR g 124, yR g 125, yR g 126, yI 0, yI 0, .null, yI 0, yJ 0, yI 0, yI 0, yI 0, yI 0, yI 0, yI 0, yI 0, yI 0]))) hF dX6_init_46 (by omega) (sadd_s _ _ _) rfl rfl iX6 8 (by decide) w_373 tyX6 tyX6_ok nmX6 rfl rfl rfl rfl (Nat.le_of_ble_eq_true rfl) (sadd_s _ _ _) rfl (fun k' h => ⟨rfl, (sadd_o h).trans (sadd_o h).symm⟩) ?_
  show yV X0 g 3 (yQ X0 g (sX6 g sch) (yPv (fun n' σ' => n' = 128 ∧ σ' = mX6 σ)) (rmA 2 4 931)) (sadd (sadd (sadd (sadd sch (124) (kI g 49)) (125) (kI g 49)) (126) (kI g 392)) 123 (fun _ => .inr (6, [.null, .null, yI 0, yI 0, yR g 124, yR g 125, yR g 126, yI 0, yI 0, .null, yI 0, yJ 0, yI 0, yI 0, yI 0, yI 0, yI 0, yI 0, yI 0, yI 0]))) (127) (ynew (ynew (ynew (σ) (124) (fun _ => 0)) (125) (fun _ => 0)) (126) (fun _ => 0)) 3 490 49 [(0, yR g 123), (1, yR g 5), (2, yR g 4)] []
  refine y_aload_n (pc := 49) hF dX6_init_49 0 rfl ?_
  refine y_sipush (pc := 50) hF dX6_init_50 (by decide) ?_
  refine y_newI (pc := 53) (len := 441) (sch' := sadd (sadd (sadd (sadd (sadd sch (124) (kI g 49)) (125) (kI g 49)) (126) (kI g 392)) (127) (kI g 441)) 123 (fun _ => .inr (6, [.null, .null, yI 0, yI 0, yR g 124, yR g 125, yR g 126, yI 0, yI 0, .null, yI 0, yJ 0, yI 0, yI 0, yI 0, yI 0, yI 0, yI 0, yI 0, yI 0]))) hF dX6_init_53 wac_int (by decide) ⟨Nat.le_of_ble_eq_true rfl, Nat.le_of_ble_eq_true rfl⟩ ((sadd_o (by omega)).trans (sadd_s _ _ _)) (sal_o _ _ _ _ _) ?_
  show yV X0 g 3 (yQ X0 g (sX6 g sch) (yPv (fun n' σ' => n' = 128 ∧ σ' = mX6 σ)) (rmA 2 4 931)) (sadd (sadd (sadd (sadd (sadd sch (124) (kI g 49)) (125) (kI g 49)) (126) (kI g 392)) (127) (kI g 441)) 123 (fun _ => .inr (6, [.null, .null, yI 0, yI 0, yR g 124, yR g 125, yR g 126, yI 0, yI 0, .null, yI 0, yJ 0, yI 0, yI 0, yI 0, yI 0, yI 0, yI 0, yI 0, yI 0]))) (128) (ynew (ynew (ynew (ynew (σ) (124) (fun _ => 0)) (125) (fun _ => 0)) (126) (fun _ => 0)) (127) (fun _ => 0)) 4 931 55 [(0, yR g 123), (1, yR g 5), (2, yR g 4)] [yR g 127, yR g 123]
  refine y_putfF (pc := 55) (ci := 6) (σ' := ynew (ynew (ynew (ynew (σ) (124) (fun _ => 0)) (125) (fun _ => 0)) (126) (fun _ => 0)) (127) (fun _ => 0)) (sch' := sadd (sadd (sadd (sadd (sadd sch (124) (kI g 49)) (125) (kI g 49)) (126) (kI g 392)) (127) (kI g 441)) 123 (fun _ => .inr (6, [.null, .null, yI 0, yI 0, yR g 124, yR g 125, yR g 126, yI 0, yI 0, yR g 127, yI 0, yJ 0, yI 0, yI 0, yI 0, yI 0, yI 0, yI 0, yI 0, yI 0]))) hF dX6_init_55 (by omega) (sadd_s _ _ _) rfl rfl iX6 9 (by decide) w_374 tyX6 tyX6_ok nmX6 rfl hIn rfl rfl rfl rfl (Nat.le_of_ble_eq_true rfl) (sadd_s _ _ _) rfl (fun k' h => ⟨rfl, (sadd_o h).trans (sadd_o h).symm⟩) ?_
  show yV X0 g 3 (yQ X0 g (sX6 g sch) (yPv (fun n' σ' => n' = 128 ∧ σ' = mX6 σ)) (rmA 2 4 931)) (sadd (sadd (sadd (sadd (sadd sch (124) (kI g 49)) (125) (kI g 49)) (126) (kI g 392)) (127) (kI g 441)) 123 (fun _ => .inr (6, [.null, .null, yI 0, yI 0, yR g 124, yR g 125, yR g 126, yI 0, yI 0, yR g 127, yI 0, yJ 0, yI 0, yI 0, yI 0, yI 0, yI 0, yI 0, yI 0, yI 0]))) (128) (ynew (ynew (ynew (ynew (σ) (124) (fun _ => 0)) (125) (fun _ => 0)) (126) (fun _ => 0)) (127) (fun _ => 0)) 4 931 58 [(0, yR g 123), (1, yR g 5), (2, yR g 4)] []
  refine y_aload_n (pc := 58) hF dX6_init_58 0 rfl ?_
  refine y_iconst (pc := 59) hF dX6_init_59 ?_
  refine y_putf (pc := 60) (ci := 6) (σ' := ynew (ynew (ynew (ynew (σ) (124) (fun _ => 0)) (125) (fun _ => 0)) (126) (fun _ => 0)) (127) (fun _ => 0)) (sch' := sadd (sadd (sadd (sadd (sadd sch (124) (kI g 49)) (125) (kI g 49)) (126) (kI g 392)) (127) (kI g 441)) 123 (fun _ => .inr (6, [.null, .null, yI 0, yI 0, yR g 124, yR g 125, yR g 126, yI 0, yI 0, yR g 127, yI 0, yJ 0, yI 0, yI 0, yI 0, yI 0, yI 0, yI 0, yI 0, yI 0]))) hF dX6_init_60 (by omega) (sadd_s _ _ _) rfl rfl iX6 10 (by decide) w_375 tyX6 tyX6_ok nmX6 rfl rfl rfl rfl (Nat.le_of_ble_eq_true rfl) (sadd_s _ _ _) rfl (fun k' h => ⟨rfl, (sadd_o h).trans (sadd_o h).symm⟩) ?_
  show yV X0 g 3 (yQ X0 g (sX6 g sch) (yPv (fun n' σ' => n' = 128 ∧ σ' = mX6 σ)) (rmA 2 4 931)) (sadd (sadd (sadd (sadd (sadd sch (124) (kI g 49)) (125) (kI g 49)) (126) (kI g 392)) (127) (kI g 441)) 123 (fun _ => .inr (6, [.null, .null, yI 0, yI 0, yR g 124, yR g 125, yR g 126, yI 0, yI 0, yR g 127, yI 0, yJ 0, yI 0, yI 0, yI 0, yI 0, yI 0, yI 0, yI 0, yI 0]))) (128) (ynew (ynew (ynew (ynew (σ) (124) (fun _ => 0)) (125) (fun _ => 0)) (126) (fun _ => 0)) (127) (fun _ => 0)) 4 931 63 [(0, yR g 123), (1, yR g 5), (2, yR g 4)] []
  refine y_aload_n (pc := 63) hF dX6_init_63 0 rfl ?_
  refine y_lconst (pc := 64) (v := 0) hF dX6_init_64 rfl ?_
  refine y_putf (pc := 65) (ci := 6) (σ' := ynew (ynew (ynew (ynew (σ) (124) (fun _ => 0)) (125) (fun _ => 0)) (126) (fun _ => 0)) (127) (fun _ => 0)) (sch' := sadd (sadd (sadd (sadd (sadd sch (124) (kI g 49)) (125) (kI g 49)) (126) (kI g 392)) (127) (kI g 441)) 123 (fun _ => .inr (6, [.null, .null, yI 0, yI 0, yR g 124, yR g 125, yR g 126, yI 0, yI 0, yR g 127, yI 0, yJ 0, yI 0, yI 0, yI 0, yI 0, yI 0, yI 0, yI 0, yI 0]))) hF dX6_init_65 (by omega) (sadd_s _ _ _) rfl rfl iX6 11 (by decide) w_376 tyX6 tyX6_ok nmX6 rfl rfl rfl rfl (Nat.le_of_ble_eq_true rfl) (sadd_s _ _ _) rfl (fun k' h => ⟨rfl, (sadd_o h).trans (sadd_o h).symm⟩) ?_
  show yV X0 g 3 (yQ X0 g (sX6 g sch) (yPv (fun n' σ' => n' = 128 ∧ σ' = mX6 σ)) (rmA 2 4 931)) (sadd (sadd (sadd (sadd (sadd sch (124) (kI g 49)) (125) (kI g 49)) (126) (kI g 392)) (127) (kI g 441)) 123 (fun _ => .inr (6, [.null, .null, yI 0, yI 0, yR g 124, yR g 125, yR g 126, yI 0, yI 0, yR g 127, yI 0, yJ 0, yI 0, yI 0, yI 0, yI 0, yI 0, yI 0, yI 0, yI 0]))) (128) (ynew (ynew (ynew (ynew (σ) (124) (fun _ => 0)) (125) (fun _ => 0)) (126) (fun _ => 0)) (127) (fun _ => 0)) 4 931 68 [(0, yR g 123), (1, yR g 5), (2, yR g 4)] []
  refine y_aload_n (pc := 68) hF dX6_init_68 0 rfl ?_
  refine y_iconst (pc := 69) hF dX6_init_69 ?_
  refine y_putf (pc := 70) (ci := 6) (σ' := ynew (ynew (ynew (ynew (σ) (124) (fun _ => 0)) (125) (fun _ => 0)) (126) (fun _ => 0)) (127) (fun _ => 0)) (sch' := sadd (sadd (sadd (sadd (sadd sch (124) (kI g 49)) (125) (kI g 49)) (126) (kI g 392)) (127) (kI g 441)) 123 (fun _ => .inr (6, [.null, .null, yI 0, yI 0, yR g 124, yR g 125, yR g 126, yI 0, yI 0, yR g 127, yI 0, yJ 0, yI (-1), yI 0, yI 0, yI 0, yI 0, yI 0, yI 0, yI 0]))) hF dX6_init_70 (by omega) (sadd_s _ _ _) rfl rfl iX6 12 (by decide) w_378 tyX6 tyX6_ok nmX6 rfl rfl rfl rfl (Nat.le_of_ble_eq_true rfl) (sadd_s _ _ _) rfl (fun k' h => ⟨rfl, (sadd_o h).trans (sadd_o h).symm⟩) ?_
  show yV X0 g 3 (yQ X0 g (sX6 g sch) (yPv (fun n' σ' => n' = 128 ∧ σ' = mX6 σ)) (rmA 2 4 931)) (sadd (sadd (sadd (sadd (sadd sch (124) (kI g 49)) (125) (kI g 49)) (126) (kI g 392)) (127) (kI g 441)) 123 (fun _ => .inr (6, [.null, .null, yI 0, yI 0, yR g 124, yR g 125, yR g 126, yI 0, yI 0, yR g 127, yI 0, yJ 0, yI (-1), yI 0, yI 0, yI 0, yI 0, yI 0, yI 0, yI 0]))) (128) (ynew (ynew (ynew (ynew (σ) (124) (fun _ => 0)) (125) (fun _ => 0)) (126) (fun _ => 0)) (127) (fun _ => 0)) 4 931 73 [(0, yR g 123), (1, yR g 5), (2, yR g 4)] []
  refine y_aload_n (pc := 73) hF dX6_init_73 0 rfl ?_
  refine y_iconst (pc := 74) hF dX6_init_74 ?_
  refine y_putf (pc := 75) (ci := 6) (σ' := ynew (ynew (ynew (ynew (σ) (124) (fun _ => 0)) (125) (fun _ => 0)) (126) (fun _ => 0)) (127) (fun _ => 0)) (sch' := sadd (sadd (sadd (sadd (sadd sch (124) (kI g 49)) (125) (kI g 49)) (126) (kI g 392)) (127) (kI g 441)) 123 (fun _ => .inr (6, [.null, .null, yI 0, yI 0, yR g 124, yR g 125, yR g 126, yI 0, yI 0, yR g 127, yI 0, yJ 0, yI (-1), yI (-1), yI 0, yI 0, yI 0, yI 0, yI 0, yI 0]))) hF dX6_init_75 (by omega) (sadd_s _ _ _) rfl rfl iX6 13 (by decide) w_382 tyX6 tyX6_ok nmX6 rfl rfl rfl rfl (Nat.le_of_ble_eq_true rfl) (sadd_s _ _ _) rfl (fun k' h => ⟨rfl, (sadd_o h).trans (sadd_o h).symm⟩) ?_
  show yV X0 g 3 (yQ X0 g (sX6 g sch) (yPv (fun n' σ' => n' = 128 ∧ σ' = mX6 σ)) (rmA 2 4 931)) (sadd (sadd (sadd (sadd (sadd sch (124) (kI g 49)) (125) (kI g 49)) (126) (kI g 392)) (127) (kI g 441)) 123 (fun _ => .inr (6, [.null, .null, yI 0, yI 0, yR g 124, yR g 125, yR g 126, yI 0, yI 0, yR g 127, yI 0, yJ 0, yI (-1), yI (-1), yI 0, yI 0, yI 0, yI 0, yI 0, yI 0]))) (128) (ynew (ynew (ynew (ynew (σ) (124) (fun _ => 0)) (125) (fun _ => 0)) (126) (fun _ => 0)) (127) (fun _ => 0)) 4 931 78 [(0, yR g 123), (1, yR g 5), (2, yR g 4)] []
  refine y_aload_n (pc := 78) hF dX6_init_78 0 rfl ?_
  refine y_iconst (pc := 79) hF dX6_init_79 ?_
  refine y_putf (pc := 80) (ci := 6) (σ' := ynew (ynew (ynew (ynew (σ) (124) (fun _ => 0)) (125) (fun _ => 0)) (126) (fun _ => 0)) (127) (fun _ => 0)) (sch' := sadd (sadd (sadd (sadd (sadd sch (124) (kI g 49)) (125) (kI g 49)) (126) (kI g 392)) (127) (kI g 441)) 123 (fun _ => .inr (6, [.null, .null, yI 0, yI 0, yR g 124, yR g 125, yR g 126, yI 0, yI 0, yR g 127, yI 0, yJ 0, yI (-1), yI (-1), yI (-1), yI 0, yI 0, yI 0, yI 0, yI 0]))) hF dX6_init_80 (by omega) (sadd_s _ _ _) rfl rfl iX6 14 (by decide) w_386 tyX6 tyX6_ok nmX6 rfl rfl rfl rfl (Nat.le_of_ble_eq_true rfl) (sadd_s _ _ _) rfl (fun k' h => ⟨rfl, (sadd_o h).trans (sadd_o h).symm⟩) ?_
  show yV X0 g 3 (yQ X0 g (sX6 g sch) (yPv (fun n' σ' => n' = 128 ∧ σ' = mX6 σ)) (rmA 2 4 931)) (sadd (sadd (sadd (sadd (sadd sch (124) (kI g 49)) (125) (kI g 49)) (126) (kI g 392)) (127) (kI g 441)) 123 (fun _ => .inr (6, [.null, .null, yI 0, yI 0, yR g 124, yR g 125, yR g 126, yI 0, yI 0, yR g 127, yI 0, yJ 0, yI (-1), yI (-1), yI (-1), yI 0, yI 0, yI 0, yI 0, yI 0]))) (128) (ynew (ynew (ynew (ynew (σ) (124) (fun _ => 0)) (125) (fun _ => 0)) (126) (fun _ => 0)) (127) (fun _ => 0)) 4 931 83 [(0, yR g 123), (1, yR g 5), (2, yR g 4)] []
  refine y_aload_n (pc := 83) hF dX6_init_83 0 rfl ?_
  refine y_iconst (pc := 84) hF dX6_init_84 ?_
  refine y_putf (pc := 85) (ci := 6) (σ' := ynew (ynew (ynew (ynew (σ) (124) (fun _ => 0)) (125) (fun _ => 0)) (126) (fun _ => 0)) (127) (fun _ => 0)) (sch' := sadd (sadd (sadd (sadd (sadd sch (124) (kI g 49)) (125) (kI g 49)) (126) (kI g 392)) (127) (kI g 441)) 123 (fun _ => .inr (6, [.null, .null, yI 0, yI 0, yR g 124, yR g 125, yR g 126, yI 0, yI 0, yR g 127, yI 0, yJ 0, yI (-1), yI (-1), yI (-1), yI 0, yI 0, yI 0, yI 0, yI 0]))) hF dX6_init_85 (by omega) (sadd_s _ _ _) rfl rfl iX6 15 (by decide) w_389 tyX6 tyX6_ok nmX6 rfl rfl rfl rfl (Nat.le_of_ble_eq_true rfl) (sadd_s _ _ _) rfl (fun k' h => ⟨rfl, (sadd_o h).trans (sadd_o h).symm⟩) ?_
  show yV X0 g 3 (yQ X0 g (sX6 g sch) (yPv (fun n' σ' => n' = 128 ∧ σ' = mX6 σ)) (rmA 2 4 931)) (sadd (sadd (sadd (sadd (sadd sch (124) (kI g 49)) (125) (kI g 49)) (126) (kI g 392)) (127) (kI g 441)) 123 (fun _ => .inr (6, [.null, .null, yI 0, yI 0, yR g 124, yR g 125, yR g 126, yI 0, yI 0, yR g 127, yI 0, yJ 0, yI (-1), yI (-1), yI (-1), yI 0, yI 0, yI 0, yI 0, yI 0]))) (128) (ynew (ynew (ynew (ynew (σ) (124) (fun _ => 0)) (125) (fun _ => 0)) (126) (fun _ => 0)) (127) (fun _ => 0)) 4 931 88 [(0, yR g 123), (1, yR g 5), (2, yR g 4)] []
  refine y_aload_n (pc := 88) hF dX6_init_88 0 rfl ?_
  refine y_iconst (pc := 89) hF dX6_init_89 ?_
  refine y_putf (pc := 90) (ci := 6) (σ' := ynew (ynew (ynew (ynew (σ) (124) (fun _ => 0)) (125) (fun _ => 0)) (126) (fun _ => 0)) (127) (fun _ => 0)) (sch' := sadd (sadd (sadd (sadd (sadd sch (124) (kI g 49)) (125) (kI g 49)) (126) (kI g 392)) (127) (kI g 441)) 123 (fun _ => .inr (6, [.null, .null, yI 0, yI 0, yR g 124, yR g 125, yR g 126, yI 0, yI 0, yR g 127, yI 0, yJ 0, yI (-1), yI (-1), yI (-1), yI 0, yI 0, yI 0, yI 0, yI 0]))) hF dX6_init_90 (by omega) (sadd_s _ _ _) rfl rfl iX6 16 (by decide) w_393 tyX6 tyX6_ok nmX6 rfl rfl rfl rfl (Nat.le_of_ble_eq_true rfl) (sadd_s _ _ _) rfl (fun k' h => ⟨rfl, (sadd_o h).trans (sadd_o h).symm⟩) ?_
  show yV X0 g 3 (yQ X0 g (sX6 g sch) (yPv (fun n' σ' => n' = 128 ∧ σ' = mX6 σ)) (rmA 2 4 931)) (sadd (sadd (sadd (sadd (sadd sch (124) (kI g 49)) (125) (kI g 49)) (126) (kI g 392)) (127) (kI g 441)) 123 (fun _ => .inr (6, [.null, .null, yI 0, yI 0, yR g 124, yR g 125, yR g 126, yI 0, yI 0, yR g 127, yI 0, yJ 0, yI (-1), yI (-1), yI (-1), yI 0, yI 0, yI 0, yI 0, yI 0]))) (128) (ynew (ynew (ynew (ynew (σ) (124) (fun _ => 0)) (125) (fun _ => 0)) (126) (fun _ => 0)) (127) (fun _ => 0)) 4 931 93 [(0, yR g 123), (1, yR g 5), (2, yR g 4)] []
  refine y_aload_n (pc := 93) hF dX6_init_93 0 rfl ?_
  refine y_iconst (pc := 94) hF dX6_init_94 ?_
  refine y_putf (pc := 95) (ci := 6) (σ' := ynew (ynew (ynew (ynew (σ) (124) (fun _ => 0)) (125) (fun _ => 0)) (126) (fun _ => 0)) (127) (fun _ => 0)) (sch' := sadd (sadd (sadd (sadd (sadd sch (124) (kI g 49)) (125) (kI g 49)) (126) (kI g 392)) (127) (kI g 441)) 123 (fun _ => .inr (6, [.null, .null, yI 0, yI 0, yR g 124, yR g 125, yR g 126, yI 0, yI 0, yR g 127, yI 0, yJ 0, yI (-1), yI (-1), yI (-1), yI 0, yI 0, yI 0, yI 0, yI 0]))) hF dX6_init_95 (by omega) (sadd_s _ _ _) rfl rfl iX6 17 (by decide) w_395 tyX6 tyX6_ok nmX6 rfl rfl rfl rfl (Nat.le_of_ble_eq_true rfl) (sadd_s _ _ _) rfl (fun k' h => ⟨rfl, (sadd_o h).trans (sadd_o h).symm⟩) ?_
  show yV X0 g 3 (yQ X0 g (sX6 g sch) (yPv (fun n' σ' => n' = 128 ∧ σ' = mX6 σ)) (rmA 2 4 931)) (sadd (sadd (sadd (sadd (sadd sch (124) (kI g 49)) (125) (kI g 49)) (126) (kI g 392)) (127) (kI g 441)) 123 (fun _ => .inr (6, [.null, .null, yI 0, yI 0, yR g 124, yR g 125, yR g 126, yI 0, yI 0, yR g 127, yI 0, yJ 0, yI (-1), yI (-1), yI (-1), yI 0, yI 0, yI 0, yI 0, yI 0]))) (128) (ynew (ynew (ynew (ynew (σ) (124) (fun _ => 0)) (125) (fun _ => 0)) (126) (fun _ => 0)) (127) (fun _ => 0)) 4 931 98 [(0, yR g 123), (1, yR g 5), (2, yR g 4)] []
  refine y_aload_n (pc := 98) hF dX6_init_98 0 rfl ?_
  refine y_iconst (pc := 99) hF dX6_init_99 ?_
  refine y_putf (pc := 100) (ci := 6) (σ' := ynew (ynew (ynew (ynew (σ) (124) (fun _ => 0)) (125) (fun _ => 0)) (126) (fun _ => 0)) (127) (fun _ => 0)) (sch' := sadd (sadd (sadd (sadd (sadd sch (124) (kI g 49)) (125) (kI g 49)) (126) (kI g 392)) (127) (kI g 441)) 123 (fun _ => .inr (6, [.null, .null, yI 0, yI 0, yR g 124, yR g 125, yR g 126, yI 0, yI 0, yR g 127, yI 0, yJ 0, yI (-1), yI (-1), yI (-1), yI 0, yI 0, yI 0, yI 0, yI 0]))) hF dX6_init_100 (by omega) (sadd_s _ _ _) rfl rfl iX6 18 (by decide) w_397 tyX6 tyX6_ok nmX6 rfl rfl rfl rfl (Nat.le_of_ble_eq_true rfl) (sadd_s _ _ _) rfl (fun k' h => ⟨rfl, (sadd_o h).trans (sadd_o h).symm⟩) ?_
  show yV X0 g 3 (yQ X0 g (sX6 g sch) (yPv (fun n' σ' => n' = 128 ∧ σ' = mX6 σ)) (rmA 2 4 931)) (sadd (sadd (sadd (sadd (sadd sch (124) (kI g 49)) (125) (kI g 49)) (126) (kI g 392)) (127) (kI g 441)) 123 (fun _ => .inr (6, [.null, .null, yI 0, yI 0, yR g 124, yR g 125, yR g 126, yI 0, yI 0, yR g 127, yI 0, yJ 0, yI (-1), yI (-1), yI (-1), yI 0, yI 0, yI 0, yI 0, yI 0]))) (128) (ynew (ynew (ynew (ynew (σ) (124) (fun _ => 0)) (125) (fun _ => 0)) (126) (fun _ => 0)) (127) (fun _ => 0)) 4 931 103 [(0, yR g 123), (1, yR g 5), (2, yR g 4)] []
  refine y_aload_n (pc := 103) hF dX6_init_103 0 rfl ?_
  refine y_iconst (pc := 104) hF dX6_init_104 ?_
  refine y_putf (pc := 105) (ci := 6) (σ' := ynew (ynew (ynew (ynew (σ) (124) (fun _ => 0)) (125) (fun _ => 0)) (126) (fun _ => 0)) (127) (fun _ => 0)) (sch' := sadd (sadd (sadd (sadd (sadd sch (124) (kI g 49)) (125) (kI g 49)) (126) (kI g 392)) (127) (kI g 441)) 123 (fun _ => .inr (6, [.null, .null, yI 0, yI 0, yR g 124, yR g 125, yR g 126, yI 0, yI 0, yR g 127, yI 0, yJ 0, yI (-1), yI (-1), yI (-1), yI 0, yI 0, yI 0, yI 0, yI 0]))) hF dX6_init_105 (by omega) (sadd_s _ _ _) rfl rfl iX6 19 (by decide) w_399 tyX6 tyX6_ok nmX6 rfl rfl rfl rfl (Nat.le_of_ble_eq_true rfl) (sadd_s _ _ _) rfl (fun k' h => ⟨rfl, (sadd_o h).trans (sadd_o h).symm⟩) ?_
  show yV X0 g 3 (yQ X0 g (sX6 g sch) (yPv (fun n' σ' => n' = 128 ∧ σ' = mX6 σ)) (rmA 2 4 931)) (sadd (sadd (sadd (sadd (sadd sch (124) (kI g 49)) (125) (kI g 49)) (126) (kI g 392)) (127) (kI g 441)) 123 (fun _ => .inr (6, [.null, .null, yI 0, yI 0, yR g 124, yR g 125, yR g 126, yI 0, yI 0, yR g 127, yI 0, yJ 0, yI (-1), yI (-1), yI (-1), yI 0, yI 0, yI 0, yI 0, yI 0]))) (128) (ynew (ynew (ynew (ynew (σ) (124) (fun _ => 0)) (125) (fun _ => 0)) (126) (fun _ => 0)) (127) (fun _ => 0)) 4 931 108 [(0, yR g 123), (1, yR g 5), (2, yR g 4)] []
  refine y_aload_n (pc := 108) hF dX6_init_108 0 rfl ?_
  refine y_aload_n (pc := 109) hF dX6_init_109 1 rfl ?_
  refine y_putf (pc := 110) (ci := 6) (σ' := ynew (ynew (ynew (ynew (σ) (124) (fun _ => 0)) (125) (fun _ => 0)) (126) (fun _ => 0)) (127) (fun _ => 0)) (sch' := sadd (sadd (sadd (sadd (sadd sch (124) (kI g 49)) (125) (kI g 49)) (126) (kI g 392)) (127) (kI g 441)) 123 (fun _ => .inr (6, [yR g 5, .null, yI 0, yI 0, yR g 124, yR g 125, yR g 126, yI 0, yI 0, yR g 127, yI 0, yJ 0, yI (-1), yI (-1), yI (-1), yI 0, yI 0, yI 0, yI 0, yI 0]))) hF dX6_init_110 (by omega) (sadd_s _ _ _) rfl rfl iX6 0 (by decide) w_361 tyX6 tyX6_ok nmX6 rfl rfl rfl rfl (Nat.le_of_ble_eq_true rfl) (sadd_s _ _ _) rfl (fun k' h => ⟨rfl, (sadd_o h).trans (sadd_o h).symm⟩) ?_
  show yV X0 g 3 (yQ X0 g (sX6 g sch) (yPv (fun n' σ' => n' = 128 ∧ σ' = mX6 σ)) (rmA 2 4 931)) (sadd (sadd (sadd (sadd (sadd sch (124) (kI g 49)) (125) (kI g 49)) (126) (kI g 392)) (127) (kI g 441)) 123 (fun _ => .inr (6, [yR g 5, .null, yI 0, yI 0, yR g 124, yR g 125, yR g 126, yI 0, yI 0, yR g 127, yI 0, yJ 0, yI (-1), yI (-1), yI (-1), yI 0, yI 0, yI 0, yI 0, yI 0]))) (128) (ynew (ynew (ynew (ynew (σ) (124) (fun _ => 0)) (125) (fun _ => 0)) (126) (fun _ => 0)) (127) (fun _ => 0)) 4 931 113 [(0, yR g 123), (1, yR g 5), (2, yR g 4)] []
  refine y_aload_n (pc := 113) hF dX6_init_113 0 rfl ?_
  refine y_aload_n (pc := 114) hF dX6_init_114 2 rfl ?_
  refine y_putf (pc := 115) (ci := 6) (σ' := ynew (ynew (ynew (ynew (σ) (124) (fun _ => 0)) (125) (fun _ => 0)) (126) (fun _ => 0)) (127) (fun _ => 0)) (sch' := sadd (sadd (sadd (sadd (sadd sch (124) (kI g 49)) (125) (kI g 49)) (126) (kI g 392)) (127) (kI g 441)) 123 (fun _ => .inr (6, [yR g 5, yR g 4, yI 0, yI 0, yR g 124, yR g 125, yR g 126, yI 0, yI 0, yR g 127, yI 0, yJ 0, yI (-1), yI (-1), yI (-1), yI 0, yI 0, yI 0, yI 0, yI 0]))) hF dX6_init_115 (by omega) (sadd_s _ _ _) rfl rfl iX6 1 (by decide) w_362 tyX6 tyX6_ok nmX6 rfl rfl rfl rfl (Nat.le_of_ble_eq_true rfl) (sadd_s _ _ _) rfl (fun k' h => ⟨rfl, (sadd_o h).trans (sadd_o h).symm⟩) ?_
  show yV X0 g 3 (yQ X0 g (sX6 g sch) (yPv (fun n' σ' => n' = 128 ∧ σ' = mX6 σ)) (rmA 2 4 931)) (sadd (sadd (sadd (sadd (sadd sch (124) (kI g 49)) (125) (kI g 49)) (126) (kI g 392)) (127) (kI g 441)) 123 (fun _ => .inr (6, [yR g 5, yR g 4, yI 0, yI 0, yR g 124, yR g 125, yR g 126, yI 0, yI 0, yR g 127, yI 0, yJ 0, yI (-1), yI (-1), yI (-1), yI 0, yI 0, yI 0, yI 0, yI 0]))) (128) (ynew (ynew (ynew (ynew (σ) (124) (fun _ => 0)) (125) (fun _ => 0)) (126) (fun _ => 0)) (127) (fun _ => 0)) 4 931 118 [(0, yR g 123), (1, yR g 5), (2, yR g 4)] []
  refine y_fin (R := sadd (sadd (sadd (sadd sch (124) (kI g 49)) (125) (kI g 49)) (126) (kI g 392)) (127) (kI g 441)) (k := 123) (K := kSea g) (φ := (fun j => if j = 0 then 5 else if j = 1 then 4 else if j = 12 then (-1) else if j = 13 then (-1) else if j = 14 then (-1) else 0)) rfl ?_
  exact y_vret (pc := 118) hF dX6_init_118 (Nat.le_of_ble_eq_true rfl) (Nat.le_of_ble_eq_true rfl) ⟨rfl, rfl, rfl⟩

def sX3 (g : yG) (sch : yS) : yS := sadd (sadd (sadd sch (129) (kI g 400)) (130) (kI g 400)) 128 (kPar g)
def mX3 (σ : yM) : yM := ynew (ynew (ynew (σ) (129) (fun _ => 0)) (130) (fun _ => 0)) 128 (fun _ => 0)
theorem sX3_wk {g : yG} {R : yS} {k : Nat} {F D : (Int → Int) → va_E} {c : Nat} {f : (Int → Int) → va_E} (h : k < 128) (hh : sadd (sX3 g R) k F c = some f) : sX3 g (sadd (sadd R 128 D) k F) c = some f := by
  rcases Decidable.em (c = k) with e | e
  · subst e
    have e1 : f = F := (Option.some.inj ((sadd_s _ _ _).symm.trans hh)).symm
    subst e1
    unfold sX3 sadd
    repeat rw [if_neg (by omega)]
    rw [if_pos rfl]
  · rw [sadd_o e] at hh
    rcases Decidable.em (c = 128) with e2 | e2
    · subst e2
      unfold sX3 sadd at hh ⊢
      (try simp only [if_true] at hh ⊢)
      exact hh
    · unfold sX3 sadd at hh ⊢
      rw [if_neg e2] at hh ⊢
      simp only [if_neg e, if_neg e2]
      exact hh
theorem dX3_init_0 : decode cX3_init 0 = .ok (.aload_n 0, 1) := by decide +kernel
theorem dX3_init_1 : decode cX3_init 1 = .ok (.invokespecial 3, 3) := by decide +kernel
theorem dX3_init_4 : decode cX3_init 4 = .ok (.aload_n 0, 1) := by decide +kernel
theorem dX3_init_5 : decode cX3_init 5 = .ok (.sipush 400, 3) := by decide +kernel
theorem dX3_init_8 : decode cX3_init 8 = .ok (.newarray .int, 2) := by decide +kernel
theorem dX3_init_10 : decode cX3_init 10 = .ok (.putfield 9, 3) := by decide +kernel
theorem dX3_init_13 : decode cX3_init 13 = .ok (.aload_n 0, 1) := by decide +kernel
theorem dX3_init_14 : decode cX3_init 14 = .ok (.sipush 400, 3) := by decide +kernel
theorem dX3_init_17 : decode cX3_init 17 = .ok (.newarray .int, 2) := by decide +kernel
theorem dX3_init_19 : decode cX3_init 19 = .ok (.putfield 15, 3) := by decide +kernel
theorem dX3_init_22 : decode cX3_init 22 = .ok (.aload_n 0, 1) := by decide +kernel
theorem dX3_init_23 : decode cX3_init 23 = .ok (.iconst 0, 1) := by decide +kernel
theorem dX3_init_24 : decode cX3_init 24 = .ok (.putfield 18, 3) := by decide +kernel
theorem dX3_init_27 : decode cX3_init 27 = .ok (.return_, 1) := by decide +kernel
set_option maxHeartbeats 4000000 in
set_option maxRecDepth 100000 in
theorem tX3_init {l : Launch} {g : yG} {σ : yM} (sch : yS) (hs0 : sch 128 = some (fun _ => .inr (3, [.null, .null, yI 0]))) : yMet l g yX3_init cX3_init 1 none (rmA 2 2 800) [yR g 128] sch (129) σ (sX3 g sch) (yPv (fun n' σ' => n' = 131 ∧ σ' = mX3 σ)) := by
  refine y_startC (by decide) (Nat.le_of_ble_eq_true rfl) rfl (fun X0 hF hIn => ?_)
  refine y_wk (sch' := sadd sch 128 (fun _ => .inr (3, [.null, .null, yI 0]))) (fun c f _ hh => sad_b hs0 hh) ?_
  show yV X0 g 1 (yQ X0 g (sX3 g sch) (yPv (fun n' σ' => n' = 131 ∧ σ' = mX3 σ)) (rmA 2 2 800)) (sadd sch 128 (fun _ => .inr (3, [.null, .null, yI 0]))) (129) (σ) 0 0 0 [(0, yR g 128)] []
  refine y_aload_n (pc := 0) hF dX3_init_0 0 rfl ?_
  refine y_objI (pc := 1) hF dX3_init_1 w_447 w_112 w_oi ⟨Nat.le_of_ble_eq_true rfl, Nat.le_of_ble_eq_true rfl⟩ (Nat.le_of_ble_eq_true rfl) ?_
  refine y_aload_n (pc := 4) hF dX3_init_4 0 rfl ?_
  refine y_sipush (pc := 5) hF dX3_init_5 (by decide) ?_
  refine y_newI (pc := 8) (len := 400) (sch' := sadd (sadd sch (129) (kI g 400)) 128 (fun _ => .inr (3, [.null, .null, yI 0]))) hF dX3_init_8 wac_int (by decide) ⟨Nat.le_of_ble_eq_true rfl, Nat.le_of_ble_eq_true rfl⟩ ((sadd_o (by omega)).trans (sadd_s _ _ _)) (sal_o _ _ _ _ _) ?_
  show yV X0 g 1 (yQ X0 g (sX3 g sch) (yPv (fun n' σ' => n' = 131 ∧ σ' = mX3 σ)) (rmA 2 2 800)) (sadd (sadd sch (129) (kI g 400)) 128 (fun _ => .inr (3, [.null, .null, yI 0]))) (130) (ynew (σ) (129) (fun _ => 0)) 1 400 10 [(0, yR g 128)] [yR g 129, yR g 128]
  refine y_putfF (pc := 10) (ci := 3) (σ' := ynew (σ) (129) (fun _ => 0)) (sch' := sadd (sadd sch (129) (kI g 400)) 128 (fun _ => .inr (3, [yR g 129, .null, yI 0]))) hF dX3_init_10 (by omega) (sadd_s _ _ _) rfl rfl iX3 0 (by decide) w_448 tyX3 tyX3_ok nmX3 rfl hIn rfl rfl rfl rfl (Nat.le_of_ble_eq_true rfl) (sadd_s _ _ _) rfl (fun k' h => ⟨rfl, (sadd_o h).trans (sadd_o h).symm⟩) ?_
  show yV X0 g 1 (yQ X0 g (sX3 g sch) (yPv (fun n' σ' => n' = 131 ∧ σ' = mX3 σ)) (rmA 2 2 800)) (sadd (sadd sch (129) (kI g 400)) 128 (fun _ => .inr (3, [yR g 129, .null, yI 0]))) (130) (ynew (σ) (129) (fun _ => 0)) 1 400 13 [(0, yR g 128)] []
  refine y_aload_n (pc := 13) hF dX3_init_13 0 rfl ?_
  refine y_sipush (pc := 14) hF dX3_init_14 (by decide) ?_
  refine y_newI (pc := 17) (len := 400) (sch' := sadd (sadd (sadd sch (129) (kI g 400)) (130) (kI g 400)) 128 (fun _ => .inr (3, [yR g 129, .null, yI 0]))) hF dX3_init_17 wac_int (by decide) ⟨Nat.le_of_ble_eq_true rfl, Nat.le_of_ble_eq_true rfl⟩ ((sadd_o (by omega)).trans (sadd_s _ _ _)) (sal_o _ _ _ _ _) ?_
  show yV X0 g 1 (yQ X0 g (sX3 g sch) (yPv (fun n' σ' => n' = 131 ∧ σ' = mX3 σ)) (rmA 2 2 800)) (sadd (sadd (sadd sch (129) (kI g 400)) (130) (kI g 400)) 128 (fun _ => .inr (3, [yR g 129, .null, yI 0]))) (131) (ynew (ynew (σ) (129) (fun _ => 0)) (130) (fun _ => 0)) 2 800 19 [(0, yR g 128)] [yR g 130, yR g 128]
  refine y_putfF (pc := 19) (ci := 3) (σ' := ynew (ynew (σ) (129) (fun _ => 0)) (130) (fun _ => 0)) (sch' := sadd (sadd (sadd sch (129) (kI g 400)) (130) (kI g 400)) 128 (fun _ => .inr (3, [yR g 129, yR g 130, yI 0]))) hF dX3_init_19 (by omega) (sadd_s _ _ _) rfl rfl iX3 1 (by decide) w_450 tyX3 tyX3_ok nmX3 rfl hIn rfl rfl rfl rfl (Nat.le_of_ble_eq_true rfl) (sadd_s _ _ _) rfl (fun k' h => ⟨rfl, (sadd_o h).trans (sadd_o h).symm⟩) ?_
  show yV X0 g 1 (yQ X0 g (sX3 g sch) (yPv (fun n' σ' => n' = 131 ∧ σ' = mX3 σ)) (rmA 2 2 800)) (sadd (sadd (sadd sch (129) (kI g 400)) (130) (kI g 400)) 128 (fun _ => .inr (3, [yR g 129, yR g 130, yI 0]))) (131) (ynew (ynew (σ) (129) (fun _ => 0)) (130) (fun _ => 0)) 2 800 22 [(0, yR g 128)] []
  refine y_aload_n (pc := 22) hF dX3_init_22 0 rfl ?_
  refine y_iconst (pc := 23) hF dX3_init_23 ?_
  refine y_putf (pc := 24) (ci := 3) (σ' := ynew (ynew (σ) (129) (fun _ => 0)) (130) (fun _ => 0)) (sch' := sadd (sadd (sadd sch (129) (kI g 400)) (130) (kI g 400)) 128 (fun _ => .inr (3, [yR g 129, yR g 130, yI 0]))) hF dX3_init_24 (by omega) (sadd_s _ _ _) rfl rfl iX3 2 (by decide) w_451 tyX3 tyX3_ok nmX3 rfl rfl rfl rfl (Nat.le_of_ble_eq_true rfl) (sadd_s _ _ _) rfl (fun k' h => ⟨rfl, (sadd_o h).trans (sadd_o h).symm⟩) ?_
  show yV X0 g 1 (yQ X0 g (sX3 g sch) (yPv (fun n' σ' => n' = 131 ∧ σ' = mX3 σ)) (rmA 2 2 800)) (sadd (sadd (sadd sch (129) (kI g 400)) (130) (kI g 400)) 128 (fun _ => .inr (3, [yR g 129, yR g 130, yI 0]))) (131) (ynew (ynew (σ) (129) (fun _ => 0)) (130) (fun _ => 0)) 2 800 27 [(0, yR g 128)] []
  refine y_fin (R := sadd (sadd sch (129) (kI g 400)) (130) (kI g 400)) (k := 128) (K := kPar g) (φ := (fun _ => 0)) rfl ?_
  exact y_vret (pc := 27) hF dX3_init_27 (Nat.le_of_ble_eq_true rfl) (Nat.le_of_ble_eq_true rfl) ⟨rfl, rfl, rfl⟩

def sX0 (g : yG) (sch : yS) : yS := sadd (sX2 g (sX4 g (sX4 g sch (132)) (138)) (144)) 131 (kFil g)
def mX0 (σ : yM) : yM := ynew (mX2 (ynew (mX4 (ynew (mX4 (ynew (σ) (132) (fun _ => 0)) (132)) (138) (fun _ => 0)) (138)) (144) (fun _ => 0)) (144)) 131 (fun _ => 0)
theorem sX0_wk {g : yG} {R : yS} {k : Nat} {F D : (Int → Int) → va_E} {c : Nat} {f : (Int → Int) → va_E} (h : k < 131) (hh : sadd (sX0 g R) k F c = some f) : sX0 g (sadd (sadd R 131 D) k F) c = some f := by
  rcases Decidable.em (c = k) with e | e
  · subst e
    have e1 : f = F := (Option.some.inj ((sadd_s _ _ _).symm.trans hh)).symm
    subst e1
    unfold sX0 sX2 sX4 sadd
    repeat rw [if_neg (by omega)]
    rw [if_pos rfl]
  · rw [sadd_o e] at hh
    rcases Decidable.em (c = 131) with e2 | e2
    · subst e2
      unfold sX0 sX2 sX4 sadd at hh ⊢
      (try simp only [if_true] at hh ⊢)
      exact hh
    · unfold sX0 sX2 sX4 sadd at hh ⊢
      rw [if_neg e2] at hh ⊢
      simp only [if_neg e, if_neg e2]
      exact hh
theorem dX0_init_0 : decode cX0_init 0 = .ok (.aload_n 0, 1) := by decide +kernel
theorem dX0_init_1 : decode cX0_init 1 = .ok (.invokespecial 3, 3) := by decide +kernel
theorem dX0_init_4 : decode cX0_init 4 = .ok (.aload_n 0, 1) := by decide +kernel
theorem dX0_init_5 : decode cX0_init 5 = .ok (.new 9, 3) := by decide +kernel
theorem dX0_init_8 : decode cX0_init 8 = .ok (.dup, 1) := by decide +kernel
theorem dX0_init_9 : decode cX0_init 9 = .ok (.invokespecial 11, 3) := by decide +kernel
theorem dX0_init_12 : decode cX0_init 12 = .ok (.putfield 12, 3) := by decide +kernel
theorem dX0_init_15 : decode cX0_init 15 = .ok (.aload_n 0, 1) := by decide +kernel
theorem dX0_init_16 : decode cX0_init 16 = .ok (.new 9, 3) := by decide +kernel
theorem dX0_init_19 : decode cX0_init 19 = .ok (.dup, 1) := by decide +kernel
theorem dX0_init_20 : decode cX0_init 20 = .ok (.invokespecial 11, 3) := by decide +kernel
theorem dX0_init_23 : decode cX0_init 23 = .ok (.putfield 18, 3) := by decide +kernel
theorem dX0_init_26 : decode cX0_init 26 = .ok (.aload_n 0, 1) := by decide +kernel
theorem dX0_init_27 : decode cX0_init 27 = .ok (.new 21, 3) := by decide +kernel
theorem dX0_init_30 : decode cX0_init 30 = .ok (.dup, 1) := by decide +kernel
theorem dX0_init_31 : decode cX0_init 31 = .ok (.invokespecial 23, 3) := by decide +kernel
theorem dX0_init_34 : decode cX0_init 34 = .ok (.putfield 24, 3) := by decide +kernel
theorem dX0_init_37 : decode cX0_init 37 = .ok (.aload_n 0, 1) := by decide +kernel
theorem dX0_init_38 : decode cX0_init 38 = .ok (.aload_n 1, 1) := by decide +kernel
theorem dX0_init_39 : decode cX0_init 39 = .ok (.putfield 28, 3) := by decide +kernel
theorem dX0_init_42 : decode cX0_init 42 = .ok (.aload_n 0, 1) := by decide +kernel
theorem dX0_init_43 : decode cX0_init 43 = .ok (.aload_n 2, 1) := by decide +kernel
theorem dX0_init_44 : decode cX0_init 44 = .ok (.putfield 32, 3) := by decide +kernel
theorem dX0_init_47 : decode cX0_init 47 = .ok (.return_, 1) := by decide +kernel
set_option maxHeartbeats 4000000 in
set_option maxRecDepth 100000 in
theorem tX0_init {l : Launch} {g : yG} {σ : yM} (sch : yS) (hs0 : sch 131 = some (fun _ => .inr (0, [.null, .null, .null, .null, .null]))) : yMet l g yX0_init cX0_init 3 none (rmA 4 14 4287) [yR g 131, yR g 120, yR g 123] sch (132) σ (sX0 g sch) (yPv (fun n' σ' => n' = 146 ∧ σ' = mX0 σ)) := by
  refine y_startC (by decide) (Nat.le_of_ble_eq_true rfl) rfl (fun X0 hF hIn => ?_)
  refine y_wk (sch' := sadd sch 131 (fun _ => .inr (0, [.null, .null, .null, .null, .null]))) (fun c f _ hh => sad_b hs0 hh) ?_
  show yV X0 g 3 (yQ X0 g (sX0 g sch) (yPv (fun n' σ' => n' = 146 ∧ σ' = mX0 σ)) (rmA 4 14 4287)) (sadd sch 131 (fun _ => .inr (0, [.null, .null, .null, .null, .null]))) (132) (σ) 0 0 0 [(0, yR g 131), (1, yR g 120), (2, yR g 123)] []
  refine y_aload_n (pc := 0) hF dX0_init_0 0 rfl ?_
  refine y_objI (pc := 1) hF dX0_init_1 w_464 w_112 w_oi ⟨Nat.le_of_ble_eq_true rfl, Nat.le_of_ble_eq_true rfl⟩ (Nat.le_of_ble_eq_true rfl) ?_
  refine y_aload_n (pc := 4) hF dX0_init_4 0 rfl ?_
  refine y_newO (pc := 5) (C := RX4) (T := TX4) (N := 7) (ci := 4) (fs := [yI 0, yI 0, .null, .null, .null, .null, .null]) (sch' := sadd (sadd sch (132) (fun _ => .inr (4, [yI 0, yI 0, .null, .null, .null, .null, .null]))) 131 (fun _ => .inr (0, [.null, .null, .null, .null, .null]))) (f0 := (fun _ => .inr (4, [yI 0, yI 0, .null, .null, .null, .null, .null]))) (φ := fun _ => 0) hF dX0_init_5 iX4 tyX4 tyX4_ok w_465 w_202 w_89 rfl (by decide +kernel) ⟨Nat.le_of_ble_eq_true rfl, Nat.le_of_ble_eq_true rfl⟩ ((sadd_o (by omega)).trans (sadd_s _ _ _)) rfl (sal_o _ _ _ _ _) ?_
  show yV X0 g 3 (yQ X0 g (sX0 g sch) (yPv (fun n' σ' => n' = 146 ∧ σ' = mX0 σ)) (rmA 4 14 4287)) (sadd (sadd sch (132) (fun _ => .inr (4, [yI 0, yI 0, .null, .null, .null, .null, .null]))) 131 (fun _ => .inr (0, [.null, .null, .null, .null, .null]))) (133) (ynew (σ) (132) (fun _ => 0)) 1 7 8 [(0, yR g 131), (1, yR g 120), (2, yR g 123)] [yR g 132, yR g 131]
  refine y_dup (pc := 8) hF dX0_init_8 rfl ?_
  refine y_cv (cells' := 6) (slots' := 2007) (y_rI (pc := 9) hF (tX4_init (σ := ynew (σ) (132) (fun _ => 0)) (132) (sadd (sadd sch (132) (fun _ => .inr (4, [yI 0, yI 0, .null, .null, .null, .null, .null]))) 131 (fun _ => .inr (0, [.null, .null, .null, .null, .null]))) ((sadd_o (by omega)).trans (sadd_s _ _ _))) dX0_init_9 w_466 qX4_init rfl ⟨Nat.le_of_ble_eq_true rfl, Nat.le_of_ble_eq_true rfl⟩ ⟨Nat.le_of_ble_eq_true rfl, Nat.le_of_ble_eq_true rfl⟩ (Nat.le_of_ble_eq_true rfl) rfl) rfl rfl (fun n' σ' zp9 => ?_)
  obtain ⟨zn9, zs9⟩ := zp9
  subst zn9
  subst zs9
  refine y_wk (sch' := sadd (sX4 g sch (132)) 131 (fun _ => .inr (0, [.null, .null, .null, .null, .null]))) (fun c f _ hh => sX4_wk (by omega) hh) ?_
  show yV X0 g 3 (yQ X0 g (sX0 g sch) (yPv (fun n' σ' => n' = 146 ∧ σ' = mX0 σ)) (rmA 4 14 4287)) (sadd (sX4 g sch (132)) 131 (fun _ => .inr (0, [.null, .null, .null, .null, .null]))) (138) (mX4 (ynew (σ) (132) (fun _ => 0)) (132)) 6 2007 12 [(0, yR g 131), (1, yR g 120), (2, yR g 123)] [yR g 132, yR g 131]
  refine y_putfF (pc := 12) (ci := 0) (σ' := mX4 (ynew (σ) (132) (fun _ => 0)) (132)) (sch' := sadd (sX4 g sch (132)) 131 (fun _ => .inr (0, [.null, .null, yR g 132, .null, .null]))) hF dX0_init_12 (by omega) (sadd_s _ _ _) rfl rfl iX0 2 (by decide) w_471 tyX0 tyX0_ok nmX0 rfl hIn rfl rfl rfl rfl (Nat.le_of_ble_eq_true rfl) (sadd_s _ _ _) rfl (fun k' h => ⟨rfl, (sadd_o h).trans (sadd_o h).symm⟩) ?_
  show yV X0 g 3 (yQ X0 g (sX0 g sch) (yPv (fun n' σ' => n' = 146 ∧ σ' = mX0 σ)) (rmA 4 14 4287)) (sadd (sX4 g sch (132)) 131 (fun _ => .inr (0, [.null, .null, yR g 132, .null, .null]))) (138) (mX4 (ynew (σ) (132) (fun _ => 0)) (132)) 6 2007 15 [(0, yR g 131), (1, yR g 120), (2, yR g 123)] []
  refine y_aload_n (pc := 15) hF dX0_init_15 0 rfl ?_
  refine y_newO (pc := 16) (C := RX4) (T := TX4) (N := 7) (ci := 4) (fs := [yI 0, yI 0, .null, .null, .null, .null, .null]) (sch' := sadd (sadd (sX4 g sch (132)) (138) (fun _ => .inr (4, [yI 0, yI 0, .null, .null, .null, .null, .null]))) 131 (fun _ => .inr (0, [.null, .null, yR g 132, .null, .null]))) (f0 := (fun _ => .inr (4, [yI 0, yI 0, .null, .null, .null, .null, .null]))) (φ := fun _ => 0) hF dX0_init_16 iX4 tyX4 tyX4_ok w_465 w_202 w_89 rfl (by decide +kernel) ⟨Nat.le_of_ble_eq_true rfl, Nat.le_of_ble_eq_true rfl⟩ ((sadd_o (by omega)).trans (sadd_s _ _ _)) rfl (sal_o _ _ _ _ _) ?_
  show yV X0 g 3 (yQ X0 g (sX0 g sch) (yPv (fun n' σ' => n' = 146 ∧ σ' = mX0 σ)) (rmA 4 14 4287)) (sadd (sadd (sX4 g sch (132)) (138) (fun _ => .inr (4, [yI 0, yI 0, .null, .null, .null, .null, .null]))) 131 (fun _ => .inr (0, [.null, .null, yR g 132, .null, .null]))) (139) (ynew (mX4 (ynew (σ) (132) (fun _ => 0)) (132)) (138) (fun _ => 0)) 7 2014 19 [(0, yR g 131), (1, yR g 120), (2, yR g 123)] [yR g 138, yR g 131]
  refine y_dup (pc := 19) hF dX0_init_19 rfl ?_
  refine y_cv (cells' := 12) (slots' := 4014) (y_rI (pc := 20) hF (tX4_init (σ := ynew (mX4 (ynew (σ) (132) (fun _ => 0)) (132)) (138) (fun _ => 0)) (138) (sadd (sadd (sX4 g sch (132)) (138) (fun _ => .inr (4, [yI 0, yI 0, .null, .null, .null, .null, .null]))) 131 (fun _ => .inr (0, [.null, .null, yR g 132, .null, .null]))) ((sadd_o (by omega)).trans (sadd_s _ _ _))) dX0_init_20 w_466 qX4_init rfl ⟨Nat.le_of_ble_eq_true rfl, Nat.le_of_ble_eq_true rfl⟩ ⟨Nat.le_of_ble_eq_true rfl, Nat.le_of_ble_eq_true rfl⟩ (Nat.le_of_ble_eq_true rfl) rfl) rfl rfl (fun n' σ' zp20 => ?_)
  obtain ⟨zn20, zs20⟩ := zp20
  subst zn20
  subst zs20
  refine y_wk (sch' := sadd (sX4 g (sX4 g sch (132)) (138)) 131 (fun _ => .inr (0, [.null, .null, yR g 132, .null, .null]))) (fun c f _ hh => sX4_wk (by omega) hh) ?_
  show yV X0 g 3 (yQ X0 g (sX0 g sch) (yPv (fun n' σ' => n' = 146 ∧ σ' = mX0 σ)) (rmA 4 14 4287)) (sadd (sX4 g (sX4 g sch (132)) (138)) 131 (fun _ => .inr (0, [.null, .null, yR g 132, .null, .null]))) (144) (mX4 (ynew (mX4 (ynew (σ) (132) (fun _ => 0)) (132)) (138) (fun _ => 0)) (138)) 12 4014 23 [(0, yR g 131), (1, yR g 120), (2, yR g 123)] [yR g 138, yR g 131]
  refine y_putfF (pc := 23) (ci := 0) (σ' := mX4 (ynew (mX4 (ynew (σ) (132) (fun _ => 0)) (132)) (138) (fun _ => 0)) (138)) (sch' := sadd (sX4 g (sX4 g sch (132)) (138)) 131 (fun _ => .inr (0, [.null, .null, yR g 132, yR g 138, .null]))) hF dX0_init_23 (by omega) (sadd_s _ _ _) rfl rfl iX0 3 (by decide) w_473 tyX0 tyX0_ok nmX0 rfl hIn rfl rfl rfl rfl (Nat.le_of_ble_eq_true rfl) (sadd_s _ _ _) rfl (fun k' h => ⟨rfl, (sadd_o h).trans (sadd_o h).symm⟩) ?_
  show yV X0 g 3 (yQ X0 g (sX0 g sch) (yPv (fun n' σ' => n' = 146 ∧ σ' = mX0 σ)) (rmA 4 14 4287)) (sadd (sX4 g (sX4 g sch (132)) (138)) 131 (fun _ => .inr (0, [.null, .null, yR g 132, yR g 138, .null]))) (144) (mX4 (ynew (mX4 (ynew (σ) (132) (fun _ => 0)) (132)) (138) (fun _ => 0)) (138)) 12 4014 26 [(0, yR g 131), (1, yR g 120), (2, yR g 123)] []
  refine y_aload_n (pc := 26) hF dX0_init_26 0 rfl ?_
  refine y_newO (pc := 27) (C := RX2) (T := TX2) (N := 3) (ci := 2) (fs := [yI 0, yJ 0, .null]) (sch' := sadd (sadd (sX4 g (sX4 g sch (132)) (138)) (144) (fun _ => .inr (2, [yI 0, yJ 0, .null]))) 131 (fun _ => .inr (0, [.null, .null, yR g 132, yR g 138, .null]))) (f0 := (fun _ => .inr (2, [yI 0, yJ 0, .null]))) (φ := fun _ => 0) hF dX0_init_27 iX2 tyX2 tyX2_ok w_467 w_252 w_91 rfl (by decide +kernel) ⟨Nat.le_of_ble_eq_true rfl, Nat.le_of_ble_eq_true rfl⟩ ((sadd_o (by omega)).trans (sadd_s _ _ _)) rfl (sal_o _ _ _ _ _) ?_
  show yV X0 g 3 (yQ X0 g (sX0 g sch) (yPv (fun n' σ' => n' = 146 ∧ σ' = mX0 σ)) (rmA 4 14 4287)) (sadd (sadd (sX4 g (sX4 g sch (132)) (138)) (144) (fun _ => .inr (2, [yI 0, yJ 0, .null]))) 131 (fun _ => .inr (0, [.null, .null, yR g 132, yR g 138, .null]))) (145) (ynew (mX4 (ynew (mX4 (ynew (σ) (132) (fun _ => 0)) (132)) (138) (fun _ => 0)) (138)) (144) (fun _ => 0)) 13 4017 30 [(0, yR g 131), (1, yR g 120), (2, yR g 123)] [yR g 144, yR g 131]
  refine y_dup (pc := 30) hF dX0_init_30 rfl ?_
  refine y_cv (cells' := 14) (slots' := 4287) (y_rIN (pc := 31) hF (tX2_init (σ := ynew (mX4 (ynew (mX4 (ynew (σ) (132) (fun _ => 0)) (132)) (138) (fun _ => 0)) (138)) (144) (fun _ => 0)) (144) (sadd (sadd (sX4 g (sX4 g sch (132)) (138)) (144) (fun _ => .inr (2, [yI 0, yJ 0, .null]))) 131 (fun _ => .inr (0, [.null, .null, yR g 132, yR g 138, .null]))) ((sadd_o (by omega)).trans (sadd_s _ _ _))) dX0_init_31 w_468 qX2_init rfl ⟨Nat.le_of_ble_eq_true rfl, Nat.le_of_ble_eq_true rfl⟩ ⟨Nat.le_of_ble_eq_true rfl, Nat.le_of_ble_eq_true rfl⟩ (Nat.le_of_ble_eq_true rfl) rfl) rfl rfl (fun n' σ' zp31 => ?_)
  obtain ⟨zn31, zs31⟩ := zp31
  subst zn31
  subst zs31
  refine y_wk (sch' := sadd (sX2 g (sX4 g (sX4 g sch (132)) (138)) (144)) 131 (fun _ => .inr (0, [.null, .null, yR g 132, yR g 138, .null]))) (fun c f _ hh => sX2_wk (by omega) hh) ?_
  show yV X0 g 3 (yQ X0 g (sX0 g sch) (yPv (fun n' σ' => n' = 146 ∧ σ' = mX0 σ)) (rmA 4 14 4287)) (sadd (sX2 g (sX4 g (sX4 g sch (132)) (138)) (144)) 131 (fun _ => .inr (0, [.null, .null, yR g 132, yR g 138, .null]))) (146) (mX2 (ynew (mX4 (ynew (mX4 (ynew (σ) (132) (fun _ => 0)) (132)) (138) (fun _ => 0)) (138)) (144) (fun _ => 0)) (144)) 14 4287 34 [(0, yR g 131), (1, yR g 120), (2, yR g 123)] [yR g 144, yR g 131]
  refine y_putfF (pc := 34) (ci := 0) (σ' := mX2 (ynew (mX4 (ynew (mX4 (ynew (σ) (132) (fun _ => 0)) (132)) (138) (fun _ => 0)) (138)) (144) (fun _ => 0)) (144)) (sch' := sadd (sX2 g (sX4 g (sX4 g sch (132)) (138)) (144)) 131 (fun _ => .inr (0, [.null, .null, yR g 132, yR g 138, yR g 144]))) hF dX0_init_34 (by omega) (sadd_s _ _ _) rfl rfl iX0 4 (by decide) w_475 tyX0 tyX0_ok nmX0 rfl hIn rfl rfl rfl rfl (Nat.le_of_ble_eq_true rfl) (sadd_s _ _ _) rfl (fun k' h => ⟨rfl, (sadd_o h).trans (sadd_o h).symm⟩) ?_
  show yV X0 g 3 (yQ X0 g (sX0 g sch) (yPv (fun n' σ' => n' = 146 ∧ σ' = mX0 σ)) (rmA 4 14 4287)) (sadd (sX2 g (sX4 g (sX4 g sch (132)) (138)) (144)) 131 (fun _ => .inr (0, [.null, .null, yR g 132, yR g 138, yR g 144]))) (146) (mX2 (ynew (mX4 (ynew (mX4 (ynew (σ) (132) (fun _ => 0)) (132)) (138) (fun _ => 0)) (138)) (144) (fun _ => 0)) (144)) 14 4287 37 [(0, yR g 131), (1, yR g 120), (2, yR g 123)] []
  refine y_aload_n (pc := 37) hF dX0_init_37 0 rfl ?_
  refine y_aload_n (pc := 38) hF dX0_init_38 1 rfl ?_
  refine y_putfF (pc := 39) (ci := 0) (σ' := mX2 (ynew (mX4 (ynew (mX4 (ynew (σ) (132) (fun _ => 0)) (132)) (138) (fun _ => 0)) (138)) (144) (fun _ => 0)) (144)) (sch' := sadd (sX2 g (sX4 g (sX4 g sch (132)) (138)) (144)) 131 (fun _ => .inr (0, [yR g 120, .null, yR g 132, yR g 138, yR g 144]))) hF dX0_init_39 (by omega) (sadd_s _ _ _) rfl rfl iX0 0 (by decide) w_469 tyX0 tyX0_ok nmX0 rfl hIn rfl rfl rfl rfl (Nat.le_of_ble_eq_true rfl) (sadd_s _ _ _) rfl (fun k' h => ⟨rfl, (sadd_o h).trans (sadd_o h).symm⟩) ?_
  show yV X0 g 3 (yQ X0 g (sX0 g sch) (yPv (fun n' σ' => n' = 146 ∧ σ' = mX0 σ)) (rmA 4 14 4287)) (sadd (sX2 g (sX4 g (sX4 g sch (132)) (138)) (144)) 131 (fun _ => .inr (0, [yR g 120, .null, yR g 132, yR g 138, yR g 144]))) (146) (mX2 (ynew (mX4 (ynew (mX4 (ynew (σ) (132) (fun _ => 0)) (132)) (138) (fun _ => 0)) (138)) (144) (fun _ => 0)) (144)) 14 4287 42 [(0, yR g 131), (1, yR g 120), (2, yR g 123)] []
  refine y_aload_n (pc := 42) hF dX0_init_42 0 rfl ?_
  refine y_aload_n (pc := 43) hF dX0_init_43 2 rfl ?_
  refine y_putfF (pc := 44) (ci := 0) (σ' := mX2 (ynew (mX4 (ynew (mX4 (ynew (σ) (132) (fun _ => 0)) (132)) (138) (fun _ => 0)) (138)) (144) (fun _ => 0)) (144)) (sch' := sadd (sX2 g (sX4 g (sX4 g sch (132)) (138)) (144)) 131 (fun _ => .inr (0, [yR g 120, yR g 123, yR g 132, yR g 138, yR g 144]))) hF dX0_init_44 (by omega) (sadd_s _ _ _) rfl rfl iX0 1 (by decide) w_470 tyX0 tyX0_ok nmX0 rfl hIn rfl rfl rfl rfl (Nat.le_of_ble_eq_true rfl) (sadd_s _ _ _) rfl (fun k' h => ⟨rfl, (sadd_o h).trans (sadd_o h).symm⟩) ?_
  show yV X0 g 3 (yQ X0 g (sX0 g sch) (yPv (fun n' σ' => n' = 146 ∧ σ' = mX0 σ)) (rmA 4 14 4287)) (sadd (sX2 g (sX4 g (sX4 g sch (132)) (138)) (144)) 131 (fun _ => .inr (0, [yR g 120, yR g 123, yR g 132, yR g 138, yR g 144]))) (146) (mX2 (ynew (mX4 (ynew (mX4 (ynew (σ) (132) (fun _ => 0)) (132)) (138) (fun _ => 0)) (138)) (144) (fun _ => 0)) (144)) 14 4287 47 [(0, yR g 131), (1, yR g 120), (2, yR g 123)] []
  refine y_fin (R := sX2 g (sX4 g (sX4 g sch (132)) (138)) (144)) (k := 131) (K := kFil g) (φ := (fun _ => 0)) rfl ?_
  exact y_vret (pc := 47) hF dX0_init_47 (Nat.le_of_ble_eq_true rfl) (Nat.le_of_ble_eq_true rfl) ⟨rfl, rfl, rfl⟩
