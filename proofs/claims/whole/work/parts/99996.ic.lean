def sX1 (g : yG) (sch : yS) : yS := sadd (sadd (sRg g sch 11) 14 (kRng g)) 13 (kHis g)
def mX1 (σ : yM) : yM := ynew (mRg (ynew σ 14 (fun _ => 0)) 11) 13 (fun _ => 0)
theorem sX1_wk {g : yG} {R : yS} {k : Nat} {F D : (Int → Int) → va_E} {c : Nat} {f : (Int → Int) → va_E} (h : k < 13) (hh : sadd (sX1 g R) k F c = some f) : sX1 g (sadd (sadd R 13 D) k F) c = some f := by
  rcases Decidable.em (c = k) with e | e
  · subst e
    have e1 : f = F := (Option.some.inj ((sadd_s _ _ _).symm.trans hh)).symm
    subst e1
    unfold sX1
    rw [sadd_o (by omega), sadd_o (by omega), sRg_lo (by omega), sadd_s]
  · rw [sadd_o e] at hh
    unfold sX1 at hh ⊢
    rcases Decidable.em (c = 13) with e2 | e2
    · subst e2
      rw [sadd_s] at hh ⊢
      exact hh
    · rw [sadd_o e2] at hh ⊢
      rcases Decidable.em (c = 14) with e3 | e3
      · subst e3
        rw [sadd_s] at hh ⊢
        exact hh
      · rw [sadd_o e3] at hh ⊢
        rw [sRg_c (A := sadd (sadd R 13 D) k F) (B := R) (by rw [sadd_o e, sadd_o e2])]
        exact hh
theorem kRp_all {g : yG} {H : Heap} {a : Nat} {φ ψ : Int → Int} (h : va_at g.2.1 y_cls (a, kRp g 11 φ) H) : va_at g.2.1 y_cls (a, kRng g ψ) H := by
  have h1 : H[a]? = some (vp_cell (g.2.2.1 3) (11, .inr (.inr (.inr (.inr (fun j => if j < 11 then some (g.1 + (15 + 9 * j)) else none)))))) := h
  show H[a]? = some (vp_cell (g.2.2.1 3) (11, .inr (.inr (.inr (.inr (fun j => some (g.1 + (15 + 9 * j))))))))
  rw [h1]
  rfl
theorem dX1_init_0 : decode cX1_init 0 = .ok (.aload_n 0, 1) := by decide +kernel
theorem dX1_init_1 : decode cX1_init 1 = .ok (.invokespecial 1, 3) := by decide +kernel
theorem dX1_init_4 : decode cX1_init 4 = .ok (.aload_n 0, 1) := by decide +kernel
theorem dX1_init_5 : decode cX1_init 5 = .ok (.bipush 11, 2) := by decide +kernel
theorem dX1_init_7 : decode cX1_init 7 = .ok (.anewarray 9, 3) := by decide +kernel
theorem dX1_init_10 : decode cX1_init 10 = .ok (.putfield 11, 3) := by decide +kernel
theorem dX1_init_13 : decode cX1_init 13 = .ok (.aload_n 0, 1) := by decide +kernel
theorem dX1_init_14 : decode cX1_init 14 = .ok (.iconst 0, 1) := by decide +kernel
theorem dX1_init_15 : decode cX1_init 15 = .ok (.putfield 15, 3) := by decide +kernel
theorem dX1_init_18 : decode cX1_init 18 = .ok (.aload_n 0, 1) := by decide +kernel
theorem dX1_init_19 : decode cX1_init 19 = .ok (.iconst 0, 1) := by decide +kernel
theorem dX1_init_20 : decode cX1_init 20 = .ok (.putfield 19, 3) := by decide +kernel
theorem dX1_init_23 : decode cX1_init 23 = .ok (.iconst 0, 1) := by decide +kernel
theorem dX1_init_24 : decode cX1_init 24 = .ok (.istore_n 1, 1) := by decide +kernel
theorem dX1_init_25 : decode cX1_init 25 = .ok (.iload_n 1, 1) := by decide +kernel
theorem dX1_init_26 : decode cX1_init 26 = .ok (.aload_n 0, 1) := by decide +kernel
theorem dX1_init_27 : decode cX1_init 27 = .ok (.getfield 11, 3) := by decide +kernel
theorem dX1_init_30 : decode cX1_init 30 = .ok (.arraylength, 1) := by decide +kernel
theorem dX1_init_31 : decode cX1_init 31 = .ok (.if_icmp .ge 22, 3) := by decide +kernel
theorem dX1_init_34 : decode cX1_init 34 = .ok (.aload_n 0, 1) := by decide +kernel
theorem dX1_init_35 : decode cX1_init 35 = .ok (.getfield 11, 3) := by decide +kernel
theorem dX1_init_38 : decode cX1_init 38 = .ok (.iload_n 1, 1) := by decide +kernel
theorem dX1_init_39 : decode cX1_init 39 = .ok (.new 9, 3) := by decide +kernel
theorem dX1_init_42 : decode cX1_init 42 = .ok (.dup, 1) := by decide +kernel
theorem dX1_init_43 : decode cX1_init 43 = .ok (.invokespecial 22, 3) := by decide +kernel
theorem dX1_init_46 : decode cX1_init 46 = .ok (.aastore, 1) := by decide +kernel
theorem dX1_init_47 : decode cX1_init 47 = .ok (.iinc 1 1, 3) := by decide +kernel
theorem dX1_init_50 : decode cX1_init 50 = .ok (.goto (-25), 3) := by decide +kernel
theorem dX1_init_53 : decode cX1_init 53 = .ok (.return_, 1) := by decide +kernel
set_option maxHeartbeats 4000000 in
set_option maxRecDepth 100000 in
theorem tX1_init {l : Launch} {g : yG} {σ : yM} (sch : yS) (hs0 : sch 13 = some (fun _ => .inr (1, [.null, yI 0, yI 0]))) : yMetA l g yX1_init cX1_init 2 none (rmA 6 100 25113) [yR g 13] sch (14) σ (sX1 g sch) (yPv (fun n' σ' => n' = 114 ∧ σ' = mX1 σ)) := by
  refine y_startA (by decide) (Nat.le_of_ble_eq_true rfl) rfl (fun X0 hF hIn hAO => ?_)
  refine y_wk (sch' := sadd sch 13 (fun _ => .inr (1, [.null, yI 0, yI 0]))) (fun c f _ hh => sad_b hs0 hh) ?_
  show yV X0 g 2 (yQ X0 g (sX1 g sch) (yPv (fun n' σ' => n' = 114 ∧ σ' = mX1 σ)) (rmA 6 100 25113)) (sadd sch 13 (fun _ => .inr (1, [.null, yI 0, yI 0]))) (14) (σ) (0) (0) 0 [(0, yR g 13)] []
  refine y_aload_n (pc := 0) hF dX1_init_0 0 rfl ?_
  refine y_objI (pc := 1) hF dX1_init_1 w_275 w_112 w_oi ⟨Nat.le_of_ble_eq_true rfl, Nat.le_of_ble_eq_true rfl⟩ (Nat.le_of_ble_eq_true rfl) ?_
  refine y_aload_n (pc := 4) hF dX1_init_4 0 rfl ?_
  refine y_bipush (pc := 5) hF dX1_init_5 (by decide) ?_
  refine y_anewA (pc := 7) (sch' := sadd (sadd sch 14 (kRp g 0)) 13 (fun _ => .inr (1, [.null, yI 0, yI 0]))) hF dX1_init_7 w_276 hAO ⟨Nat.le_of_ble_eq_true rfl, Nat.le_of_ble_eq_true rfl⟩ ((sadd_o (by omega)).trans (sadd_s _ _ _)) (sal_o _ _ _ _ _) ?_
  show yV X0 g 2 (yQ X0 g (sX1 g sch) (yPv (fun n' σ' => n' = 114 ∧ σ' = mX1 σ)) (rmA 6 100 25113)) (sadd (sadd sch 14 (kRp g 0)) 13 (fun _ => .inr (1, [.null, yI 0, yI 0]))) (15) (ynew σ 14 (fun _ => 0)) (1) (11) 10 [(0, yR g 13)] [yR g 14, yR g 13]
  refine y_putfF (pc := 10) (ci := 1) (σ' := ynew σ 14 (fun _ => 0)) (sch' := sadd (sadd sch 14 (kRp g 0)) 13 (fun _ => .inr (1, [yR g 14, yI 0, yI 0]))) hF dX1_init_10 (by omega) (sadd_s _ _ _) rfl rfl iX1 0 (by decide) w_296 tyX1 tyX1_ok nmX1 rfl hIn rfl rfl rfl rfl (Nat.le_of_ble_eq_true rfl) (sadd_s _ _ _) rfl (fun k' h => ⟨rfl, (sadd_o h).trans (sadd_o h).symm⟩) ?_
  refine y_aload_n (pc := 13) hF dX1_init_13 0 rfl ?_
  refine y_iconst (pc := 14) hF dX1_init_14 ?_
  refine y_putf (pc := 15) (ci := 1) (σ' := ynew σ 14 (fun _ => 0)) (sch' := sadd (sadd sch 14 (kRp g 0)) 13 (fun _ => .inr (1, [yR g 14, yI 0, yI 0]))) hF dX1_init_15 (by omega) (sadd_s _ _ _) rfl rfl iX1 1 (by decide) w_297 tyX1 tyX1_ok nmX1 rfl rfl rfl rfl (Nat.le_of_ble_eq_true rfl) (sadd_s _ _ _) rfl (fun k' h => ⟨rfl, (sadd_o h).trans (sadd_o h).symm⟩) ?_
  refine y_aload_n (pc := 18) hF dX1_init_18 0 rfl ?_
  refine y_iconst (pc := 19) hF dX1_init_19 ?_
  refine y_putf (pc := 20) (ci := 1) (σ' := ynew σ 14 (fun _ => 0)) (sch' := sadd (sadd sch 14 (kRp g 0)) 13 (fun _ => .inr (1, [yR g 14, yI 0, yI 0]))) hF dX1_init_20 (by omega) (sadd_s _ _ _) rfl rfl iX1 2 (by decide) w_298 tyX1 tyX1_ok nmX1 rfl rfl rfl rfl (Nat.le_of_ble_eq_true rfl) (sadd_s _ _ _) rfl (fun k' h => ⟨rfl, (sadd_o h).trans (sadd_o h).symm⟩) ?_
  refine y_iconst (pc := 23) hF dX1_init_23 ?_
  refine y_istore_n (pc := 24) (lv' := [(0, yR g 13), (1, yI 0)]) hF dX1_init_24 (by decide) rfl rfl ?_
  have zL : ∀ (N i : Nat), N = 11 - i → i ≤ 11 → yV X0 g 2 (yQ X0 g (sX1 g sch) (yPv (fun n' σ' => n' = 114 ∧ σ' = mX1 σ)) (rmA 6 100 25113)) (sadd (sadd (sRg g sch i) 14 (kRp g i)) 13 (fun _ => .inr (1, [yR g 14, yI 0, yI 0]))) (15 + 9 * i) (mRg (ynew σ 14 (fun _ => 0)) i) (1 + 9 * i) (11 + 2282 * i) 25 [(0, yR g 13), (1, yI (i : Int))] [] := by
    intro N
    induction N with
    | zero =>
      intro i hN hi
      have hi11 : i = 11 := by omega
      subst hi11
      refine y_iload_n (pc := 25) hF dX1_init_25 1 rfl ?_
      refine y_aload_n (pc := 26) hF dX1_init_26 0 rfl ?_
      refine y_get (pc := 27) (ci := 1) hF dX1_init_27 (by omega) (sadd_s _ _ _) rfl rfl iX1 0 (by decide) w_296 rfl ?_
      refine y_alenP (pc := 30) hF dX1_init_30 (by omega) ((sadd_o (by omega)).trans (sadd_s _ _ _)) ?_
      refine y_icmp_ge (pc := 31) hF dX1_init_31 53 rfl (by omega) (by omega) (fun zc => ?_) (fun zc => absurd zc (by decide))
      refine y_conv (sch' := sadd (sadd (sRg g sch 11) 14 (kRng g)) 13 (fun _ => .inr (1, [yR g 14, yI 0, yI 0]))) (σ' := mRg (ynew σ 14 (fun _ => 0)) 11) (fun c f' _ hs => ?_) ?_
      · rcases Decidable.em (c = 13) with e | e
        · subst e
          exact ⟨f', by rw [sadd_s] at hs ⊢; exact hs, fun H h => h⟩
        · rw [sadd_o e] at hs
          rcases Decidable.em (c = 14) with e2 | e2
          · subst e2
            have e3 : f' = kRng g := (Option.some.inj ((sadd_s _ _ _).symm.trans hs)).symm
            subst e3
            exact ⟨kRp g 11, (sadd_o e).trans (sadd_s _ _ _), fun H h => kRp_all h⟩
          · exact ⟨f', by rw [sadd_o e, sadd_o e2]; rw [sadd_o e2] at hs; exact hs, fun H h => h⟩
      refine y_fin (R := sadd (sRg g sch 11) 14 (kRng g)) (k := 13) (K := kHis g) (φ := fun _ => 0) rfl ?_
      exact y_vret (pc := 53) hF dX1_init_53 (Nat.le_of_ble_eq_true rfl) (Nat.le_of_ble_eq_true rfl) ⟨rfl, rfl, rfl⟩
    | succ N ih =>
      intro i hN hi
      refine y_iload_n (pc := 25) hF dX1_init_25 1 rfl ?_
      refine y_aload_n (pc := 26) hF dX1_init_26 0 rfl ?_
      refine y_get (pc := 27) (ci := 1) hF dX1_init_27 (by omega) (sadd_s _ _ _) rfl rfl iX1 0 (by decide) w_296 rfl ?_
      refine y_alenP (pc := 30) hF dX1_init_30 (by omega) ((sadd_o (by omega)).trans (sadd_s _ _ _)) ?_
      refine y_icmp_ge (pc := 31) hF dX1_init_31 53 rfl (by omega) (by omega) (fun zc => absurd zc (by omega)) (fun zc => ?_)
      refine y_aload_n (pc := 34) hF dX1_init_34 0 rfl ?_
      refine y_get (pc := 35) (ci := 1) hF dX1_init_35 (by omega) (sadd_s _ _ _) rfl rfl iX1 0 (by decide) w_296 rfl ?_
      refine y_iload_n (pc := 38) hF dX1_init_38 1 rfl ?_
      refine y_newO (pc := 39) (C := RX8) (T := TX8) (N := 2) (ci := 8) (fs := [.null, .null]) (sch' := sadd (sadd (sadd (sRg g sch i) 14 (kRp g i)) (15 + 9 * i) (fun _ => .inr (8, [.null, .null]))) 13 (fun _ => .inr (1, [yR g 14, yI 0, yI 0]))) (f0 := (fun _ => .inr (8, [.null, .null]))) (φ := fun _ => 0) hF dX1_init_39 iX8 tyX8 tyX8_ok w_276 w_278 w_93 rfl (by decide +kernel) ⟨by show 1 + 9 * i + 1 ≤ 100; omega, by show 11 + 2282 * i + 2 ≤ 25113; omega⟩ ((sadd_o (by omega)).trans (sadd_s _ _ _)) rfl (sal_o _ _ _ _ _) ?_
      refine y_dup (pc := 42) hF dX1_init_42 rfl ?_
      refine y_cv (cells' := 1 + 9 * (i + 1)) (slots' := 11 + 2282 * (i + 1)) (y_rIN (pc := 43) hF (tX8_init (σ := ynew (mRg (ynew σ 14 (fun _ => 0)) i) (15 + 9 * i) (fun _ => 0)) (15 + 9 * i) (sadd (sadd (sadd (sRg g sch i) 14 (kRp g i)) (15 + 9 * i) (fun _ => .inr (8, [.null, .null]))) 13 (fun _ => .inr (1, [yR g 14, yI 0, yI 0]))) ((sadd_o (by omega)).trans (sadd_s _ _ _))) dX1_init_43 w_279 qX8_init rfl ⟨Nat.le_of_ble_eq_true rfl, Nat.le_of_ble_eq_true rfl⟩ ⟨by show 1 + 9 * i + 1 + 8 ≤ 100; omega, by show 11 + 2282 * i + 2 + 2280 ≤ 25113; omega⟩ (Nat.le_of_ble_eq_true rfl) rfl) (by show 1 + 9 * i + 1 + 8 = _; omega) (by show 11 + 2282 * i + 2 + 2280 = _; omega) (fun n' σ' zp => ?_)
      obtain ⟨zn, zs⟩ := zp
      subst zn
      subst zs
      refine y_wk (sch' := sadd (sX8 g (sadd (sRg g sch i) 14 (kRp g i)) (15 + 9 * i)) 13 (fun _ => .inr (1, [yR g 14, yI 0, yI 0]))) (fun c f _ hh => sX8_wk (by omega) hh) ?_
      refine y_aastS (pc := 46) (i := i) (fS := kSnp g (15 + 9 * i)) (sch' := sadd (sadd (sRg g sch (i + 1)) 14 (kRp g (i + 1))) 13 (fun _ => .inr (1, [yR g 14, yI 0, yI 0]))) hF dX1_init_46 (by omega) ((sadd_o (by omega)).trans ((sX8_lo (by omega)).trans (sadd_s _ _ _))) (by omega) (by omega) ((sadd_o (by omega)).trans (sadd_s _ _ _)) rfl ((sadd_o (by omega)).trans (sadd_s _ _ _)) (fun k' h => ?_) ?_
      · rcases Decidable.em (k' = 13) with e | e
        · subst e
          rw [sadd_s, sadd_s]
        · rw [sadd_o e, sadd_o e, sadd_o h]
          exact sX8_c (sadd_o h).symm
      refine y_iinc (pc := 47) (lv' := [(0, yR g 13), (1, yI ((i : Int) + 1))]) hF dX1_init_47 1 rfl (by decide) rfl rfl ?_
      refine y_goto (pc := 50) hF dX1_init_50 25 rfl ?_
      have hz := ih (i + 1) (by omega) (by omega)
      exact hz
  exact zL 11 0 rfl (by omega)
