theorem ycmp_0 {a : Int} (h : ycmp a 0 = 0) : a = 0 := by
  unfold ycmp at h
  split at h
  · exact absurd h (by decide)
  · split at h
    · assumption
    · exact absurd h (by decide)
theorem y_sqL {a : Int} (h : -1000000 ≤ a ∧ a ≤ 1000000) : -9223372036854775808 ≤ a * a ∧ a * a < 9223372036854775808 := by
  rcases Int.le_total 0 a with h0 | h0
  · have h1 : a * a ≤ 1000000 * a := Int.mul_le_mul_of_nonneg_right h.2 h0
    have h2 : 0 ≤ a * a := Int.mul_nonneg h0 h0
    omega
  · have h1 : (-a) * (-a) ≤ 1000000 * (-a) := Int.mul_le_mul_of_nonneg_right (by omega) (by omega)
    have h2 : 0 ≤ a * a := Int.mul_nonneg_of_nonpos_of_nonpos h0 h0
    rw [Int.neg_mul_neg] at h1
    omega
theorem ycmp_n0 {a : Int} (h : ycmp a 0 ≠ 0) : a ≠ 0 := fun e => h (by rw [e]; rfl)
theorem dX11_findsNext_0 : decode cX11_findsNext 0 = .ok (.aload_n 0, 1) := by decide +kernel
theorem dX11_findsNext_1 : decode cX11_findsNext 1 = .ok (.iconst (-1), 1) := by decide +kernel
theorem dX11_findsNext_2 : decode cX11_findsNext 2 = .ok (.putfield 112, 3) := by decide +kernel
theorem dX11_findsNext_5 : decode cX11_findsNext 5 = .ok (.aload_n 0, 1) := by decide +kernel
theorem dX11_findsNext_6 : decode cX11_findsNext 6 = .ok (.iconst (-1), 1) := by decide +kernel
theorem dX11_findsNext_7 : decode cX11_findsNext 7 = .ok (.putfield 115, 3) := by decide +kernel
theorem dX11_findsNext_10 : decode cX11_findsNext 10 = .ok (.aload_n 0, 1) := by decide +kernel
theorem dX11_findsNext_11 : decode cX11_findsNext 11 = .ok (.iconst (-1), 1) := by decide +kernel
theorem dX11_findsNext_12 : decode cX11_findsNext 12 = .ok (.putfield 118, 3) := by decide +kernel
theorem dX11_findsNext_15 : decode cX11_findsNext 15 = .ok (.iconst 0, 1) := by decide +kernel
theorem dX11_findsNext_16 : decode cX11_findsNext 16 = .ok (.istore_n 2, 1) := by decide +kernel
theorem dX11_findsNext_17 : decode cX11_findsNext 17 = .ok (.iload_n 2, 1) := by decide +kernel
theorem dX11_findsNext_18 : decode cX11_findsNext 18 = .ok (.aload_n 0, 1) := by decide +kernel
theorem dX11_findsNext_19 : decode cX11_findsNext 19 = .ok (.getfield 25, 3) := by decide +kernel
theorem dX11_findsNext_22 : decode cX11_findsNext 22 = .ok (.iload_n 1, 1) := by decide +kernel
theorem dX11_findsNext_23 : decode cX11_findsNext 23 = .ok (.iaload, 1) := by decide +kernel
theorem dX11_findsNext_24 : decode cX11_findsNext 24 = .ok (.if_icmp .ge 77, 3) := by decide +kernel
theorem dX11_findsNext_27 : decode cX11_findsNext 27 = .ok (.iconst 0, 1) := by decide +kernel
theorem dX11_findsNext_28 : decode cX11_findsNext 28 = .ok (.istore_n 3, 1) := by decide +kernel
theorem dX11_findsNext_29 : decode cX11_findsNext 29 = .ok (.iload_n 3, 1) := by decide +kernel
theorem dX11_findsNext_30 : decode cX11_findsNext 30 = .ok (.aload_n 0, 1) := by decide +kernel
theorem dX11_findsNext_31 : decode cX11_findsNext 31 = .ok (.getfield 22, 3) := by decide +kernel
theorem dX11_findsNext_34 : decode cX11_findsNext 34 = .ok (.iload_n 1, 1) := by decide +kernel
theorem dX11_findsNext_35 : decode cX11_findsNext 35 = .ok (.iaload, 1) := by decide +kernel
theorem dX11_findsNext_36 : decode cX11_findsNext 36 = .ok (.if_icmp .ge 59, 3) := by decide +kernel
theorem dX11_findsNext_39 : decode cX11_findsNext 39 = .ok (.aload_n 0, 1) := by decide +kernel
theorem dX11_findsNext_40 : decode cX11_findsNext 40 = .ok (.iload_n 1, 1) := by decide +kernel
theorem dX11_findsNext_41 : decode cX11_findsNext 41 = .ok (.iload_n 3, 1) := by decide +kernel
theorem dX11_findsNext_42 : decode cX11_findsNext 42 = .ok (.iload_n 2, 1) := by decide +kernel
theorem dX11_findsNext_43 : decode cX11_findsNext 43 = .ok (.invokevirtual 121, 3) := by decide +kernel
theorem dX11_findsNext_46 : decode cX11_findsNext 46 = .ok (.ifCond .ne 6, 3) := by decide +kernel
theorem dX11_findsNext_49 : decode cX11_findsNext 49 = .ok (.goto 40, 3) := by decide +kernel
theorem dX11_findsNext_52 : decode cX11_findsNext 52 = .ok (.aload_n 0, 1) := by decide +kernel
theorem dX11_findsNext_53 : decode cX11_findsNext 53 = .ok (.iload_n 1, 1) := by decide +kernel
theorem dX11_findsNext_54 : decode cX11_findsNext 54 = .ok (.iload_n 3, 1) := by decide +kernel
theorem dX11_findsNext_55 : decode cX11_findsNext 55 = .ok (.iload_n 2, 1) := by decide +kernel
theorem dX11_findsNext_56 : decode cX11_findsNext 56 = .ok (.invokevirtual 124, 3) := by decide +kernel
theorem dX11_findsNext_59 : decode cX11_findsNext 59 = .ok (.istore 4, 2) := by decide +kernel
theorem dX11_findsNext_61 : decode cX11_findsNext 61 = .ok (.iload 4, 2) := by decide +kernel
theorem dX11_findsNext_63 : decode cX11_findsNext 63 = .ok (.aload_n 0, 1) := by decide +kernel
theorem dX11_findsNext_64 : decode cX11_findsNext 64 = .ok (.getfield 118, 3) := by decide +kernel
theorem dX11_findsNext_67 : decode cX11_findsNext 67 = .ok (.if_icmp .gt 6, 3) := by decide +kernel
theorem dX11_findsNext_70 : decode cX11_findsNext 70 = .ok (.goto 19, 3) := by decide +kernel
theorem dX11_findsNext_73 : decode cX11_findsNext 73 = .ok (.aload_n 0, 1) := by decide +kernel
theorem dX11_findsNext_74 : decode cX11_findsNext 74 = .ok (.iload_n 3, 1) := by decide +kernel
theorem dX11_findsNext_75 : decode cX11_findsNext 75 = .ok (.putfield 112, 3) := by decide +kernel
theorem dX11_findsNext_78 : decode cX11_findsNext 78 = .ok (.aload_n 0, 1) := by decide +kernel
theorem dX11_findsNext_79 : decode cX11_findsNext 79 = .ok (.iload_n 2, 1) := by decide +kernel
theorem dX11_findsNext_80 : decode cX11_findsNext 80 = .ok (.putfield 115, 3) := by decide +kernel
theorem dX11_findsNext_83 : decode cX11_findsNext 83 = .ok (.aload_n 0, 1) := by decide +kernel
theorem dX11_findsNext_84 : decode cX11_findsNext 84 = .ok (.iload 4, 2) := by decide +kernel
theorem dX11_findsNext_86 : decode cX11_findsNext 86 = .ok (.putfield 118, 3) := by decide +kernel
theorem dX11_findsNext_89 : decode cX11_findsNext 89 = .ok (.iinc 3 1, 3) := by decide +kernel
theorem dX11_findsNext_92 : decode cX11_findsNext 92 = .ok (.goto (-63), 3) := by decide +kernel
theorem dX11_findsNext_95 : decode cX11_findsNext 95 = .ok (.iinc 2 1, 3) := by decide +kernel
theorem dX11_findsNext_98 : decode cX11_findsNext 98 = .ok (.goto (-81), 3) := by decide +kernel
theorem dX11_findsNext_101 : decode cX11_findsNext 101 = .ok (.aload_n 0, 1) := by decide +kernel
theorem dX11_findsNext_102 : decode cX11_findsNext 102 = .ok (.getfield 112, 3) := by decide +kernel
theorem dX11_findsNext_105 : decode cX11_findsNext 105 = .ok (.iconst (-1), 1) := by decide +kernel
theorem dX11_findsNext_106 : decode cX11_findsNext 106 = .ok (.if_icmp .eq 7, 3) := by decide +kernel
theorem dX11_findsNext_109 : decode cX11_findsNext 109 = .ok (.iconst 1, 1) := by decide +kernel
theorem dX11_findsNext_110 : decode cX11_findsNext 110 = .ok (.goto 4, 3) := by decide +kernel
theorem dX11_findsNext_113 : decode cX11_findsNext 113 = .ok (.iconst 0, 1) := by decide +kernel
theorem dX11_findsNext_114 : decode cX11_findsNext 114 = .ok (.ireturn, 1) := by decide +kernel
set_option maxHeartbeats 4000000 in
set_option maxRecDepth 100000 in
theorem tX11_findsNext {l : Launch} {g : yG} {n : Nat} {σ : yM} (z : Nat) (w h : Int) (T S F P O : Int → Int → Int) (s re fo ra tu we sh : Int) (hn : 172 ≤ n) (hz : z < 3) (hA : rM σ z w h T S F P O) (hS : rS σ 166 s re fo ra tu we sh) : yMet l g yX11_findsNext cX11_findsNext 5 (some .boolean) (rmL 7) [yR g 155, yI (z : Int)] (SC g) n σ (SC g) (yPi (fun v n' σ' => n' = n ∧ v = bi (decide ((sNx w h T S s ra).1 ≠ -1)) ∧ fR 11 15 σ σ' ∧ (σ' 155 13, σ' 155 14, σ' 155 15) = sNx w h T S s ra)) := by
  obtain ⟨hw1, hw2, hw3, hw4⟩ := id hA.1.1
  obtain ⟨hs1, hs2, hs3, hs4, hs5, hs6, hs7⟩ := id hS.2
  refine y_start (by decide) (Nat.le_of_ble_eq_true rfl) (fun X0 hF => ?_)
  show yV X0 g 5 (yQ X0 g (SC g) (yPi (fun v n' σ' => n' = n ∧ v = bi (decide ((sNx w h T S s ra).1 ≠ -1)) ∧ fR 11 15 σ σ' ∧ (σ' 155 13, σ' 155 14, σ' 155 15) = sNx w h T S s ra)) (rmL 7)) (SC g) n σ 0 0 0 [(0, yR g 155), (1, yI (z : Int))] []
  refine y_aload_n (pc := 0) hF dX11_findsNext_0 0 rfl ?_
  refine y_iconst (pc := 1) hF dX11_findsNext_1 ?_
  refine y_putf (pc := 2) (ci := 11) (σ' := yset σ 155 13 (-1)) (sch' := (SC g)) hF dX11_findsNext_2 (by omega) rfl rfl rfl iX11 13 (by decide) w_1260 tyX11 tyX11_ok nmX11 rfl rfl rfl rfl (Nat.le_of_ble_eq_true rfl) rfl (y_ps rfl) (fun k' h => ⟨yset_n h, rfl⟩) ?_
  refine y_aload_n (pc := 5) hF dX11_findsNext_5 0 rfl ?_
  refine y_iconst (pc := 6) hF dX11_findsNext_6 ?_
  refine y_putf (pc := 7) (ci := 11) (σ' := yset (yset σ 155 13 (-1)) 155 14 (-1)) (sch' := (SC g)) hF dX11_findsNext_7 (by omega) rfl rfl rfl iX11 14 (by decide) w_1261 tyX11 tyX11_ok nmX11 rfl rfl rfl rfl (Nat.le_of_ble_eq_true rfl) rfl (y_ps rfl) (fun k' h => ⟨yset_n h, rfl⟩) ?_
  refine y_aload_n (pc := 10) hF dX11_findsNext_10 0 rfl ?_
  refine y_iconst (pc := 11) hF dX11_findsNext_11 ?_
  refine y_putf (pc := 12) (ci := 11) (σ' := yset (yset (yset σ 155 13 (-1)) 155 14 (-1)) 155 15 (-1)) (sch' := (SC g)) hF dX11_findsNext_12 (by omega) rfl rfl rfl iX11 15 (by decide) w_1262 tyX11 tyX11_ok nmX11 rfl rfl rfl rfl (Nat.le_of_ble_eq_true rfl) rfl (y_ps rfl) (fun k' h => ⟨yset_n h, rfl⟩) ?_
  obtain ⟨τ0, hτ0⟩ : ∃ t, t = yset (yset (yset σ 155 13 (-1)) 155 14 (-1)) 155 15 (-1) := ⟨_, rfl⟩
  rw [← hτ0]
  have zf0 : fR 11 15 σ τ0 := by rw [hτ0]; exact (((fR.rf σ).st (by omega)).st (by omega)).st (by omega)
  have zA_τ0 := hA.fR hz zf0
  have zS_τ0 := hS.fR (by omega) zf0
  skip
  refine y_iconst (pc := 15) hF dX11_findsNext_15 ?_
  refine y_istore_n (pc := 16) (lv' := [(0, yR g 155), (1, yI (z : Int)), (2, yI 0)]) hF dX11_findsNext_16 (by decide) rfl rfl ?_
  have zL17 : ∀ (N : Nat) (τ : yM) (y : Int), N = (h - y).toNat → (fR 11 15 σ τ ∧ (0 ≤ y ∧ y ≤ h) ∧ ((-1 ≤ τ 155 15 ∧ τ 155 15 ≤ 513000) ∧ (-1 ≤ τ 155 13 ∧ τ 155 13 ≤ 20)) ∧ (τ 155 13, τ 155 14, τ 155 15) = fr (fun q y => fr (fun q x => nxF w h T S s ra q x y) 0 w.toNat q) 0 y.toNat (-1, -1, -1)) → yV X0 g 5 (yQ X0 g (SC g) (yPi (fun v n' σ' => n' = n ∧ v = bi (decide ((sNx w h T S s ra).1 ≠ -1)) ∧ fR 11 15 σ σ' ∧ (σ' 155 13, σ' 155 14, σ' 155 15) = sNx w h T S s ra)) (rmL 7)) (SC g) n τ 0 0 17 [(0, yR g 155), (1, yI (z : Int)), (2, yI y)] [] := by
    intro N
    induction N using Nat.strongRecOn with
    | ind N zh17 =>
      intro τ  y  zN17 zI17
      have zA_τ := hA.fR hz zI17.1
      have zS_τ := hS.fR (by omega) zI17.1
      refine y_iload_n (pc := 17) hF dX11_findsNext_17 2 rfl ?_
      refine y_aload_n (pc := 18) hF dX11_findsNext_18 0 rfl ?_
      refine y_get (pc := 19) (ci := 11) hF dX11_findsNext_19 (by omega) rfl rfl rfl iX11 4 (by decide) w_1251 rfl ?_
      refine y_iload_n (pc := 22) hF dX11_findsNext_22 1 rfl ?_
      refine y_iaload (pc := 23) hF dX11_findsNext_23 (by omega) rfl (by omega) (by decide) ?_
      rw [show τ 162 (z : Int) = h from zA_τ.2.2.1]
      refine y_icmp_ge (pc := 24) hF dX11_findsNext_24 101 rfl (by omega) (by omega) (fun zc24 => ?_) (fun zc24 => ?_)
      · skip
        have ze : (τ 155 13, τ 155 14, τ 155 15) = sNx w h T S s ra := by rw [zI17.2.2.2, show y = h by omega]; rfl
        have ze1 : τ 155 13 = (sNx w h T S s ra).1 := congrArg Prod.fst ze
        refine y_aload_n (pc := 101) hF dX11_findsNext_101 0 rfl ?_
        refine y_get (pc := 102) (ci := 11) hF dX11_findsNext_102 (by omega) rfl rfl rfl iX11 13 (by decide) w_1260 rfl ?_
        refine y_iconst (pc := 105) hF dX11_findsNext_105 ?_
        refine y_icmp_eq (pc := 106) hF dX11_findsNext_106 113 rfl (by omega) (by omega) (fun zc106 => ?_) (fun zc106 => ?_)
        · skip
          refine y_iconst (pc := 113) hF dX11_findsNext_113 ?_
          exact y_zret (pc := 114) hF dX11_findsNext_114 (by decide) (Nat.zero_le _) (Nat.zero_le _) ⟨_, rfl, rfl, by rw [show decide ((sNx w h T S s ra).1 ≠ -1) = false by simp; omega]; rfl, zI17.1, ze⟩
        · skip
          refine y_iconst (pc := 109) hF dX11_findsNext_109 ?_
          refine y_goto (pc := 110) hF dX11_findsNext_110 114 rfl ?_
          exact y_zret (pc := 114) hF dX11_findsNext_114 (by decide) (Nat.zero_le _) (Nat.zero_le _) ⟨_, rfl, rfl, by rw [show decide ((sNx w h T S s ra).1 ≠ -1) = true by simp; omega]; rfl, zI17.1, ze⟩
      · skip
        refine y_iconst (pc := 27) hF dX11_findsNext_27 ?_
        refine y_istore_n (pc := 28) (lv' := [(0, yR g 155), (1, yI (z : Int)), (2, yI y), (3, yI 0)]) hF dX11_findsNext_28 (by decide) rfl rfl ?_
        have zL29 : ∀ (N : Nat) (υ : yM) (x : Int), N = (w - x).toNat → (fR 11 15 σ υ ∧ (0 ≤ x ∧ x ≤ w) ∧ ((-1 ≤ υ 155 15 ∧ υ 155 15 ≤ 513000) ∧ (-1 ≤ υ 155 13 ∧ υ 155 13 ≤ 20)) ∧ (υ 155 13, υ 155 14, υ 155 15) = fr (fun q x => nxF w h T S s ra q x y) 0 x.toNat (τ 155 13, τ 155 14, τ 155 15)) → yV X0 g 5 (yQ X0 g (SC g) (yPi (fun v n' σ' => n' = n ∧ v = bi (decide ((sNx w h T S s ra).1 ≠ -1)) ∧ fR 11 15 σ σ' ∧ (σ' 155 13, σ' 155 14, σ' 155 15) = sNx w h T S s ra)) (rmL 7)) (SC g) n υ 0 0 29 [(0, yR g 155), (1, yI (z : Int)), (2, yI y), (3, yI x)] [] := by
          intro N
          induction N using Nat.strongRecOn with
          | ind N zh29 =>
            intro υ  x  zN29 zI29
            have zA_υ := hA.fR hz zI29.1
            have zS_υ := hS.fR (by omega) zI29.1
            refine y_iload_n (pc := 29) hF dX11_findsNext_29 3 rfl ?_
            refine y_aload_n (pc := 30) hF dX11_findsNext_30 0 rfl ?_
            refine y_get (pc := 31) (ci := 11) hF dX11_findsNext_31 (by omega) rfl rfl rfl iX11 3 (by decide) w_1250 rfl ?_
            refine y_iload_n (pc := 34) hF dX11_findsNext_34 1 rfl ?_
            refine y_iaload (pc := 35) hF dX11_findsNext_35 (by omega) rfl (by omega) (by decide) ?_
            rw [show υ 161 (z : Int) = w from zA_υ.2.1]
            refine y_icmp_ge (pc := 36) hF dX11_findsNext_36 95 rfl (by omega) (by omega) (fun zc36 => ?_) (fun zc36 => ?_)
            · skip
              refine y_iinc (pc := 95) (lv' := [(0, yR g 155), (1, yI (z : Int)), (2, yI (y + 1)), (3, yI x)]) hF dX11_findsNext_95 2 rfl (by decide) rfl rfl ?_
              refine y_goto (pc := 98) hF dX11_findsNext_98 17 rfl ?_
              refine y_sub [0, 1, 2] rfl ?_
              exact zh17 _ (by omega) υ (y + 1) rfl ⟨zI29.1, by omega, zI29.2.2.1, by rw [fr_up _ _ _ _ zI17.2.1.1, ← zI17.2.2.2, Int.zero_add, zI29.2.2.2, show x = w by omega]⟩
            · skip
              refine y_aload_n (pc := 39) hF dX11_findsNext_39 0 rfl ?_
              refine y_iload_n (pc := 40) hF dX11_findsNext_40 1 rfl ?_
              refine y_iload_n (pc := 41) hF dX11_findsNext_41 3 rfl ?_
              refine y_iload_n (pc := 42) hF dX11_findsNext_42 2 rfl ?_
              refine y_cp (y_rV (pc := 43) hF (tX11_isFront z w h T S F P O hn hz zA_υ x y (by omega) (by omega)) dX11_findsNext_43 (by omega) rfl rfl rfl w_1500 qX11_isFront rfl ⟨Nat.le_of_ble_eq_true rfl, Nat.le_of_ble_eq_true rfl⟩ ⟨Nat.zero_le _, Nat.zero_le _⟩ (Nat.le_of_ble_eq_true rfl) rfl) ?_
              refine y_if_ne (pc := 46) hF dX11_findsNext_46 52 rfl bi_r (fun zc46 => ?_) (fun zc46 => ?_)
              · replace zc46 := bi_n0.mp zc46
                have zin := sFr_in zc46
                have zrb := sRk_bd (s := s) (ra := ra) hA.1 ⟨by omega, hs1.2⟩ zin
                refine y_aload_n (pc := 52) hF dX11_findsNext_52 0 rfl ?_
                refine y_iload_n (pc := 53) hF dX11_findsNext_53 1 rfl ?_
                refine y_iload_n (pc := 54) hF dX11_findsNext_54 3 rfl ?_
                refine y_iload_n (pc := 55) hF dX11_findsNext_55 2 rfl ?_
                refine y_ci (y_rV (pc := 56) hF (tX11_rankOf z w h T S F P O s re fo ra tu we sh hn hz zA_υ zS_υ x y zin) dX11_findsNext_56 (by omega) rfl rfl rfl w_1508 qX11_rankOf rfl ⟨Nat.le_of_ble_eq_true rfl, Nat.le_of_ble_eq_true rfl⟩ ⟨Nat.zero_le _, Nat.zero_le _⟩ (Nat.le_of_ble_eq_true rfl) rfl) rfl rfl (fun r56 n' σ56 zp56 => ?_)
                obtain ⟨zn56, zp56⟩ := zp56
                have zn56 := zn56.symm
                subst zn56
                have zA_σ56 := zA_υ.fR hz zp56.2
                have zS_σ56 := zS_υ.fR (by omega) zp56.2
                refine y_istore (pc := 59) (lv' := [(0, yR g 155), (1, yI (z : Int)), (2, yI y), (3, yI x), (4, yI r56)]) hF dX11_findsNext_59 (by decide) rfl rfl ?_
                have zrr := zp56.1
                have zr15 := zp56.2 155 15 (by omega)
                refine y_iload (pc := 61) hF dX11_findsNext_61 4 rfl ?_
                refine y_aload_n (pc := 63) hF dX11_findsNext_63 0 rfl ?_
                refine y_get (pc := 64) (ci := 11) hF dX11_findsNext_64 (by omega) rfl rfl rfl iX11 15 (by decide) w_1262 rfl ?_
                refine y_icmp_gt (pc := 67) hF dX11_findsNext_67 73 rfl (by omega) (by omega) (fun zc67 => ?_) (fun zc67 => ?_)
                · skip
                  refine y_aload_n (pc := 73) hF dX11_findsNext_73 0 rfl ?_
                  refine y_iload_n (pc := 74) hF dX11_findsNext_74 3 rfl ?_
                  refine y_putf (pc := 75) (ci := 11) (σ' := yset σ56 155 13 x) (sch' := (SC g)) hF dX11_findsNext_75 (by omega) rfl rfl rfl iX11 13 (by decide) w_1260 tyX11 tyX11_ok nmX11 rfl rfl rfl rfl (Nat.le_of_ble_eq_true rfl) rfl (y_ps rfl) (fun k' h => ⟨yset_n h, rfl⟩) ?_
                  refine y_aload_n (pc := 78) hF dX11_findsNext_78 0 rfl ?_
                  refine y_iload_n (pc := 79) hF dX11_findsNext_79 2 rfl ?_
                  refine y_putf (pc := 80) (ci := 11) (σ' := yset (yset σ56 155 13 x) 155 14 y) (sch' := (SC g)) hF dX11_findsNext_80 (by omega) rfl rfl rfl iX11 14 (by decide) w_1261 tyX11 tyX11_ok nmX11 rfl rfl rfl rfl (Nat.le_of_ble_eq_true rfl) rfl (y_ps rfl) (fun k' h => ⟨yset_n h, rfl⟩) ?_
                  refine y_aload_n (pc := 83) hF dX11_findsNext_83 0 rfl ?_
                  refine y_iload (pc := 84) hF dX11_findsNext_84 4 rfl ?_
                  refine y_putf (pc := 86) (ci := 11) (σ' := yset (yset (yset σ56 155 13 x) 155 14 y) 155 15 r56) (sch' := (SC g)) hF dX11_findsNext_86 (by omega) rfl rfl rfl iX11 15 (by decide) w_1262 tyX11 tyX11_ok nmX11 rfl rfl rfl rfl (Nat.le_of_ble_eq_true rfl) rfl (y_ps rfl) (fun k' h => ⟨yset_n h, rfl⟩) ?_
                  refine y_iinc (pc := 89) (lv' := [(0, yR g 155), (1, yI (z : Int)), (2, yI y), (3, yI (x + 1)), (4, yI r56)]) hF dX11_findsNext_89 3 rfl (by decide) rfl rfl ?_
                  refine y_goto (pc := 92) hF dX11_findsNext_92 29 rfl ?_
                  refine y_sub [0, 1, 2, 3] rfl ?_
                  exact zh29 _ (by omega) (yset (yset (yset σ56 155 13 x) 155 14 y) 155 15 r56) (x + 1) rfl ⟨(((zI29.1.tr (zp56.2.wk (by omega) (by omega))).st (by omega)).st (by omega)).st (by omega), by omega, by simp only [yset_ap]; simp; omega, by rw [fr_up _ _ _ _ zI29.2.1.1, ← zI29.2.2.2, Int.zero_add]; unfold nxF; rw [if_pos zc46, if_neg (show ¬ (sRk w h T S s ra x y ≤ υ 155 15) by omega), ← zp56.1]; simp [yset_ap]⟩
                · skip
                  refine y_goto (pc := 70) hF dX11_findsNext_70 89 rfl ?_
                  refine y_iinc (pc := 89) (lv' := [(0, yR g 155), (1, yI (z : Int)), (2, yI y), (3, yI (x + 1)), (4, yI r56)]) hF dX11_findsNext_89 3 rfl (by decide) rfl rfl ?_
                  refine y_goto (pc := 92) hF dX11_findsNext_92 29 rfl ?_
                  refine y_sub [0, 1, 2, 3] rfl ?_
                  exact zh29 _ (by omega) σ56 (x + 1) rfl ⟨zI29.1.tr (zp56.2.wk (by omega) (by omega)), by omega, by rw [zp56.2 155 13 (by omega), zp56.2 155 15 (by omega)]; exact zI29.2.2.1, by rw [fr_up _ _ _ _ zI29.2.1.1, ← zI29.2.2.2, Int.zero_add, zp56.2 155 13 (by omega), zp56.2 155 14 (by omega), zp56.2 155 15 (by omega)]; unfold nxF; rw [if_pos zc46, if_pos (show sRk w h T S s ra x y ≤ υ 155 15 by omega)]⟩
              · replace zc46 := bi_0.mp zc46
                refine y_goto (pc := 49) hF dX11_findsNext_49 89 rfl ?_
                refine y_iinc (pc := 89) (lv' := [(0, yR g 155), (1, yI (z : Int)), (2, yI y), (3, yI (x + 1))]) hF dX11_findsNext_89 3 rfl (by decide) rfl rfl ?_
                refine y_goto (pc := 92) hF dX11_findsNext_92 29 rfl ?_
                exact zh29 _ (by omega) υ (x + 1) rfl ⟨zI29.1, by omega, zI29.2.2.1, by rw [fr_up _ _ _ _ zI29.2.1.1, ← zI29.2.2.2, Int.zero_add]; simp [nxF, zc46]⟩
        exact zL29 _ τ (0) rfl ⟨zI17.1, by omega, zI17.2.2.1, rfl⟩
  exact zL17 _ τ0 (0) rfl ⟨zf0, by omega, by rw [hτ0]; simp [yset_ap], by rw [hτ0]; simp [yset_ap, fr_0]⟩

theorem dX11_isWholeSource_0 : decode cX11_isWholeSource 0 = .ok (.iload_n 3, 1) := by decide +kernel
theorem dX11_isWholeSource_1 : decode cX11_isWholeSource 1 = .ok (.aload_n 0, 1) := by decide +kernel
theorem dX11_isWholeSource_2 : decode cX11_isWholeSource 2 = .ok (.getfield 37, 3) := by decide +kernel
theorem dX11_isWholeSource_5 : decode cX11_isWholeSource 5 = .ok (.iconst 0, 1) := by decide +kernel
theorem dX11_isWholeSource_6 : decode cX11_isWholeSource 6 = .ok (.iaload, 1) := by decide +kernel
theorem dX11_isWholeSource_7 : decode cX11_isWholeSource 7 = .ok (.isub, 1) := by decide +kernel
theorem dX11_isWholeSource_8 : decode cX11_isWholeSource 8 = .ok (.istore 4, 2) := by decide +kernel
theorem dX11_isWholeSource_10 : decode cX11_isWholeSource 10 = .ok (.iload 4, 2) := by decide +kernel
theorem dX11_isWholeSource_12 : decode cX11_isWholeSource 12 = .ok (.iload_n 3, 1) := by decide +kernel
theorem dX11_isWholeSource_13 : decode cX11_isWholeSource 13 = .ok (.aload_n 0, 1) := by decide +kernel
theorem dX11_isWholeSource_14 : decode cX11_isWholeSource 14 = .ok (.getfield 37, 3) := by decide +kernel
theorem dX11_isWholeSource_17 : decode cX11_isWholeSource 17 = .ok (.iconst 0, 1) := by decide +kernel
theorem dX11_isWholeSource_18 : decode cX11_isWholeSource 18 = .ok (.iaload, 1) := by decide +kernel
theorem dX11_isWholeSource_19 : decode cX11_isWholeSource 19 = .ok (.iadd, 1) := by decide +kernel
theorem dX11_isWholeSource_20 : decode cX11_isWholeSource 20 = .ok (.if_icmp .gt 73, 3) := by decide +kernel
theorem dX11_isWholeSource_23 : decode cX11_isWholeSource 23 = .ok (.iload_n 2, 1) := by decide +kernel
theorem dX11_isWholeSource_24 : decode cX11_isWholeSource 24 = .ok (.aload_n 0, 1) := by decide +kernel
theorem dX11_isWholeSource_25 : decode cX11_isWholeSource 25 = .ok (.getfield 37, 3) := by decide +kernel
theorem dX11_isWholeSource_28 : decode cX11_isWholeSource 28 = .ok (.iconst 0, 1) := by decide +kernel
theorem dX11_isWholeSource_29 : decode cX11_isWholeSource 29 = .ok (.iaload, 1) := by decide +kernel
theorem dX11_isWholeSource_30 : decode cX11_isWholeSource 30 = .ok (.isub, 1) := by decide +kernel
theorem dX11_isWholeSource_31 : decode cX11_isWholeSource 31 = .ok (.istore 5, 2) := by decide +kernel
theorem dX11_isWholeSource_33 : decode cX11_isWholeSource 33 = .ok (.iload 5, 2) := by decide +kernel
theorem dX11_isWholeSource_35 : decode cX11_isWholeSource 35 = .ok (.iload_n 2, 1) := by decide +kernel
theorem dX11_isWholeSource_36 : decode cX11_isWholeSource 36 = .ok (.aload_n 0, 1) := by decide +kernel
theorem dX11_isWholeSource_37 : decode cX11_isWholeSource 37 = .ok (.getfield 37, 3) := by decide +kernel
theorem dX11_isWholeSource_40 : decode cX11_isWholeSource 40 = .ok (.iconst 0, 1) := by decide +kernel
theorem dX11_isWholeSource_41 : decode cX11_isWholeSource 41 = .ok (.iaload, 1) := by decide +kernel
theorem dX11_isWholeSource_42 : decode cX11_isWholeSource 42 = .ok (.iadd, 1) := by decide +kernel
theorem dX11_isWholeSource_43 : decode cX11_isWholeSource 43 = .ok (.if_icmp .gt 44, 3) := by decide +kernel
theorem dX11_isWholeSource_46 : decode cX11_isWholeSource 46 = .ok (.aload_n 0, 1) := by decide +kernel
theorem dX11_isWholeSource_47 : decode cX11_isWholeSource 47 = .ok (.iload_n 1, 1) := by decide +kernel
theorem dX11_isWholeSource_48 : decode cX11_isWholeSource 48 = .ok (.iload 5, 2) := by decide +kernel
theorem dX11_isWholeSource_50 : decode cX11_isWholeSource 50 = .ok (.iload 4, 2) := by decide +kernel
theorem dX11_isWholeSource_52 : decode cX11_isWholeSource 52 = .ok (.invokevirtual 78, 3) := by decide +kernel
theorem dX11_isWholeSource_55 : decode cX11_isWholeSource 55 = .ok (.ifCond .eq 24, 3) := by decide +kernel
theorem dX11_isWholeSource_58 : decode cX11_isWholeSource 58 = .ok (.aload_n 0, 1) := by decide +kernel
theorem dX11_isWholeSource_59 : decode cX11_isWholeSource 59 = .ok (.getfield 37, 3) := by decide +kernel
theorem dX11_isWholeSource_62 : decode cX11_isWholeSource 62 = .ok (.iconst 2, 1) := by decide +kernel
theorem dX11_isWholeSource_63 : decode cX11_isWholeSource 63 = .ok (.iaload, 1) := by decide +kernel
theorem dX11_isWholeSource_64 : decode cX11_isWholeSource 64 = .ok (.ifCond .ne 17, 3) := by decide +kernel
theorem dX11_isWholeSource_67 : decode cX11_isWholeSource 67 = .ok (.aload_n 0, 1) := by decide +kernel
theorem dX11_isWholeSource_68 : decode cX11_isWholeSource 68 = .ok (.iload_n 1, 1) := by decide +kernel
theorem dX11_isWholeSource_69 : decode cX11_isWholeSource 69 = .ok (.iload 5, 2) := by decide +kernel
theorem dX11_isWholeSource_71 : decode cX11_isWholeSource 71 = .ok (.iload 4, 2) := by decide +kernel
theorem dX11_isWholeSource_73 : decode cX11_isWholeSource 73 = .ok (.invokevirtual 127, 3) := by decide +kernel
theorem dX11_isWholeSource_76 : decode cX11_isWholeSource 76 = .ok (.ifCond .eq 5, 3) := by decide +kernel
theorem dX11_isWholeSource_79 : decode cX11_isWholeSource 79 = .ok (.iconst 0, 1) := by decide +kernel
theorem dX11_isWholeSource_80 : decode cX11_isWholeSource 80 = .ok (.ireturn, 1) := by decide +kernel
theorem dX11_isWholeSource_81 : decode cX11_isWholeSource 81 = .ok (.iinc 5 1, 3) := by decide +kernel
theorem dX11_isWholeSource_84 : decode cX11_isWholeSource 84 = .ok (.goto (-51), 3) := by decide +kernel
theorem dX11_isWholeSource_87 : decode cX11_isWholeSource 87 = .ok (.iinc 4 1, 3) := by decide +kernel
theorem dX11_isWholeSource_90 : decode cX11_isWholeSource 90 = .ok (.goto (-80), 3) := by decide +kernel
theorem dX11_isWholeSource_93 : decode cX11_isWholeSource 93 = .ok (.iconst 1, 1) := by decide +kernel
theorem dX11_isWholeSource_94 : decode cX11_isWholeSource 94 = .ok (.ireturn, 1) := by decide +kernel
set_option maxHeartbeats 4000000 in
set_option maxRecDepth 100000 in
theorem tX11_isWholeSource {l : Launch} {g : yG} {n : Nat} {σ : yM} (z : Nat) (w h : Int) (T S F P O : Int → Int → Int) (s re fo ra tu we sh : Int) (hn : 172 ≤ n) (hz : z < 3) (hA : rM σ z w h T S F P O) (hS : rS σ 166 s re fo ra tu we sh) (u v : Int) (hu : -1000000 ≤ u ∧ u ≤ 1000000) (hv : -1000000 ≤ v ∧ v ≤ 1000000) : yMet l g yX11_isWholeSource cX11_isWholeSource 6 (some .boolean) (rmL 4) [yR g 155, yI (z : Int), yI u, yI v] (SC g) n σ (SC g) (yPp (bi (sWs w h T F s fo u v)) n σ) := by
  obtain ⟨hw1, hw2, hw3, hw4⟩ := id hA.1.1
  obtain ⟨hs1, hs2, hs3, hs4, hs5, hs6, hs7⟩ := id hS.2
  refine y_start (by decide) (Nat.le_of_ble_eq_true rfl) (fun X0 hF => ?_)
  show yV X0 g 6 (yQ X0 g (SC g) (yPp (bi (sWs w h T F s fo u v)) n σ) (rmL 4)) (SC g) n σ 0 0 0 [(0, yR g 155), (1, yI (z : Int)), (2, yI u), (3, yI v)] []
  refine y_iload_n (pc := 0) hF dX11_isWholeSource_0 3 rfl ?_
  refine y_aload_n (pc := 1) hF dX11_isWholeSource_1 0 rfl ?_
  refine y_get (pc := 2) (ci := 11) hF dX11_isWholeSource_2 (by omega) rfl rfl rfl iX11 10 (by decide) w_1257 rfl ?_
  refine y_iconst (pc := 5) hF dX11_isWholeSource_5 ?_
  refine y_iaload (pc := 6) hF dX11_isWholeSource_6 (by omega) rfl (by omega) (by decide) ?_
  rw [show σ 166 0 = s from hS.1.1]
  refine y_isub (pc := 7) hF dX11_isWholeSource_7 ?_
  refine y_istore (pc := 8) (lv' := [(0, yR g 155), (1, yI (z : Int)), (2, yI u), (3, yI v), (4, yI (v - s))]) hF dX11_isWholeSource_8 (by decide) rfl rfl ?_
  have zL10 : ∀ (N : Nat) (j : Int), N = (v + s + 1 - j).toNat → ((v - s ≤ j ∧ j ≤ v + s + 1) ∧ ∀ i' j' : Int, u - s ≤ i' → i' ≤ u + s → v - s ≤ j' → j' < j → uOk w h T F fo i' j' = true) → yV X0 g 6 (yQ X0 g (SC g) (yPp (bi (sWs w h T F s fo u v)) n σ) (rmL 4)) (SC g) n σ 0 0 10 [(0, yR g 155), (1, yI (z : Int)), (2, yI u), (3, yI v), (4, yI j)] [] := by
    intro N
    induction N using Nat.strongRecOn with
    | ind N zh10 =>
      intro j  zN10 zI10
      refine y_iload (pc := 10) hF dX11_isWholeSource_10 4 rfl ?_
      refine y_iload_n (pc := 12) hF dX11_isWholeSource_12 3 rfl ?_
      refine y_aload_n (pc := 13) hF dX11_isWholeSource_13 0 rfl ?_
      refine y_get (pc := 14) (ci := 11) hF dX11_isWholeSource_14 (by omega) rfl rfl rfl iX11 10 (by decide) w_1257 rfl ?_
      refine y_iconst (pc := 17) hF dX11_isWholeSource_17 ?_
      refine y_iaload (pc := 18) hF dX11_isWholeSource_18 (by omega) rfl (by omega) (by decide) ?_
      rw [show σ 166 0 = s from hS.1.1]
      refine y_iadd (pc := 19) hF dX11_isWholeSource_19 ?_
      refine y_icmp_gt (pc := 20) hF dX11_isWholeSource_20 93 rfl (by omega) (by omega) (fun zc20 => ?_) (fun zc20 => ?_)
      · skip
        refine y_iconst (pc := 93) hF dX11_isWholeSource_93 ?_
        exact y_zret (pc := 94) hF dX11_isWholeSource_94 (by decide) (Nat.zero_le _) (Nat.zero_le _) ⟨_, rfl, by rw [show sWs w h T F s fo u v = true by rw [sWs_iff (by omega)]; exact fun i' j' z1 z2 z3 z4 => zI10.2 i' j' z1 z2 z3 (by omega)]; rfl, rfl, rfl⟩
      · skip
        refine y_iload_n (pc := 23) hF dX11_isWholeSource_23 2 rfl ?_
        refine y_aload_n (pc := 24) hF dX11_isWholeSource_24 0 rfl ?_
        refine y_get (pc := 25) (ci := 11) hF dX11_isWholeSource_25 (by omega) rfl rfl rfl iX11 10 (by decide) w_1257 rfl ?_
        refine y_iconst (pc := 28) hF dX11_isWholeSource_28 ?_
        refine y_iaload (pc := 29) hF dX11_isWholeSource_29 (by omega) rfl (by omega) (by decide) ?_
        rw [show σ 166 0 = s from hS.1.1]
        refine y_isub (pc := 30) hF dX11_isWholeSource_30 ?_
        refine y_istore (pc := 31) (lv' := [(0, yR g 155), (1, yI (z : Int)), (2, yI u), (3, yI v), (4, yI j), (5, yI (u - s))]) hF dX11_isWholeSource_31 (by decide) rfl rfl ?_
        have zL33 : ∀ (N : Nat) (i : Int), N = (u + s + 1 - i).toNat → ((u - s ≤ i ∧ i ≤ u + s + 1) ∧ ∀ i' : Int, u - s ≤ i' → i' < i → uOk w h T F fo i' j = true) → yV X0 g 6 (yQ X0 g (SC g) (yPp (bi (sWs w h T F s fo u v)) n σ) (rmL 4)) (SC g) n σ 0 0 33 [(0, yR g 155), (1, yI (z : Int)), (2, yI u), (3, yI v), (4, yI j), (5, yI i)] [] := by
          intro N
          induction N using Nat.strongRecOn with
          | ind N zh33 =>
            intro i  zN33 zI33
            refine y_iload (pc := 33) hF dX11_isWholeSource_33 5 rfl ?_
            refine y_iload_n (pc := 35) hF dX11_isWholeSource_35 2 rfl ?_
            refine y_aload_n (pc := 36) hF dX11_isWholeSource_36 0 rfl ?_
            refine y_get (pc := 37) (ci := 11) hF dX11_isWholeSource_37 (by omega) rfl rfl rfl iX11 10 (by decide) w_1257 rfl ?_
            refine y_iconst (pc := 40) hF dX11_isWholeSource_40 ?_
            refine y_iaload (pc := 41) hF dX11_isWholeSource_41 (by omega) rfl (by omega) (by decide) ?_
            rw [show σ 166 0 = s from hS.1.1]
            refine y_iadd (pc := 42) hF dX11_isWholeSource_42 ?_
            refine y_icmp_gt (pc := 43) hF dX11_isWholeSource_43 87 rfl (by omega) (by omega) (fun zc43 => ?_) (fun zc43 => ?_)
            · skip
              refine y_iinc (pc := 87) (lv' := [(0, yR g 155), (1, yI (z : Int)), (2, yI u), (3, yI v), (4, yI (j + 1)), (5, yI i)]) hF dX11_isWholeSource_87 4 rfl (by decide) rfl rfl ?_
              refine y_goto (pc := 90) hF dX11_isWholeSource_90 10 rfl ?_
              refine y_sub [0, 1, 2, 3, 4] rfl ?_
              exact zh10 _ (by omega) (j + 1) rfl ⟨by omega, fun i' j' z1 z2 z3 z4 => by rcases Decidable.em (j' = j) with zq | zq; (exact zq ▸ zI33.2 i' z1 (by omega)); (exact zI10.2 i' j' z1 z2 z3 (by omega))⟩
            · skip
              refine y_aload_n (pc := 46) hF dX11_isWholeSource_46 0 rfl ?_
              refine y_iload_n (pc := 47) hF dX11_isWholeSource_47 1 rfl ?_
              refine y_iload (pc := 48) hF dX11_isWholeSource_48 5 rfl ?_
              refine y_iload (pc := 50) hF dX11_isWholeSource_50 4 rfl ?_
              refine y_cp (y_rV (pc := 52) hF (tX11_isKnown z w h T S F P O hn hz hA i j (by omega) (by omega)) dX11_isWholeSource_52 (by omega) rfl rfl rfl w_1440 qX11_isKnown rfl ⟨Nat.le_of_ble_eq_true rfl, Nat.le_of_ble_eq_true rfl⟩ ⟨Nat.zero_le _, Nat.zero_le _⟩ (Nat.le_of_ble_eq_true rfl) rfl) ?_
              refine y_if_eq (pc := 55) hF dX11_isWholeSource_55 79 rfl bi_r (fun zc55 => ?_) (fun zc55 => ?_)
              · replace zc55 := bi_0.mp zc55
                refine y_iconst (pc := 79) hF dX11_isWholeSource_79 ?_
                exact y_zret (pc := 80) hF dX11_isWholeSource_80 (by decide) (Nat.zero_le _) (Nat.zero_le _) ⟨_, rfl, by rw [show sWs w h T F s fo u v = false by rw [← Bool.not_eq_true, sWs_iff (by omega)]; intro zq; have zq2 := zq i j (by omega) (by omega) (by omega) (by omega); simp [uOk, zc55] at zq2]; rfl, rfl, rfl⟩
              · replace zc55 := bi_n0.mp zc55
                refine y_aload_n (pc := 58) hF dX11_isWholeSource_58 0 rfl ?_
                refine y_get (pc := 59) (ci := 11) hF dX11_isWholeSource_59 (by omega) rfl rfl rfl iX11 10 (by decide) w_1257 rfl ?_
                refine y_iconst (pc := 62) hF dX11_isWholeSource_62 ?_
                refine y_iaload (pc := 63) hF dX11_isWholeSource_63 (by omega) rfl (by omega) (by decide) ?_
                rw [show σ 166 2 = fo from hS.1.2.2.1]
                refine y_if_ne (pc := 64) hF dX11_isWholeSource_64 81 rfl (by omega) (fun zc64 => ?_) (fun zc64 => ?_)
                · skip
                  refine y_iinc (pc := 81) (lv' := [(0, yR g 155), (1, yI (z : Int)), (2, yI u), (3, yI v), (4, yI j), (5, yI (i + 1))]) hF dX11_isWholeSource_81 5 rfl (by decide) rfl rfl ?_
                  refine y_goto (pc := 84) hF dX11_isWholeSource_84 33 rfl ?_
                  exact zh33 _ (by omega) (i + 1) rfl ⟨by omega, fun i' z1 z2 => by rcases Decidable.em (i' = i) with zq | zq; (subst zq; simp [uOk, zc55, zc64]); (exact zI33.2 i' z1 (by omega))⟩
                · skip
                  refine y_aload_n (pc := 67) hF dX11_isWholeSource_67 0 rfl ?_
                  refine y_iload_n (pc := 68) hF dX11_isWholeSource_68 1 rfl ?_
                  refine y_iload (pc := 69) hF dX11_isWholeSource_69 5 rfl ?_
                  refine y_iload (pc := 71) hF dX11_isWholeSource_71 4 rfl ?_
                  refine y_cp (y_rV (pc := 73) hF (tX11_isFilled z w h T S F P O hn hz hA i j (sKn_in zc55)) dX11_isWholeSource_73 (by omega) rfl rfl rfl w_1545 qX11_isFilled rfl ⟨Nat.le_of_ble_eq_true rfl, Nat.le_of_ble_eq_true rfl⟩ ⟨Nat.zero_le _, Nat.zero_le _⟩ (Nat.le_of_ble_eq_true rfl) rfl) ?_
                  refine y_if_eq (pc := 76) hF dX11_isWholeSource_76 81 rfl bi_r (fun zc76 => ?_) (fun zc76 => ?_)
                  · replace zc76 := bi_0.mp zc76
                    refine y_iinc (pc := 81) (lv' := [(0, yR g 155), (1, yI (z : Int)), (2, yI u), (3, yI v), (4, yI j), (5, yI (i + 1))]) hF dX11_isWholeSource_81 5 rfl (by decide) rfl rfl ?_
                    refine y_goto (pc := 84) hF dX11_isWholeSource_84 33 rfl ?_
                    exact zh33 _ (by omega) (i + 1) rfl ⟨by omega, fun i' z1 z2 => by rcases Decidable.em (i' = i) with zq | zq; (subst zq; simp [uOk, zc55, zc76]); (exact zI33.2 i' z1 (by omega))⟩
                  · replace zc76 := bi_n0.mp zc76
                    refine y_iconst (pc := 79) hF dX11_isWholeSource_79 ?_
                    exact y_zret (pc := 80) hF dX11_isWholeSource_80 (by decide) (Nat.zero_le _) (Nat.zero_le _) ⟨_, rfl, by rw [show sWs w h T F s fo u v = false by rw [← Bool.not_eq_true, sWs_iff (by omega)]; intro zq; have zq2 := zq i j (by omega) (by omega) (by omega) (by omega); simp [uOk, zc55, zc64, zc76] at zq2]; rfl, rfl, rfl⟩
        exact zL33 _ (u - s) rfl ⟨by omega, fun i' _ _ => by omega⟩
  exact zL10 _ (v - s) rfl ⟨by omega, fun i' j' _ _ _ _ => by omega⟩

theorem dX11_isNear_0 : decode cX11_isNear 0 = .ok (.iload_n 1, 1) := by decide +kernel
theorem dX11_isNear_1 : decode cX11_isNear 1 = .ok (.iload_n 3, 1) := by decide +kernel
theorem dX11_isNear_2 : decode cX11_isNear 2 = .ok (.isub, 1) := by decide +kernel
theorem dX11_isNear_3 : decode cX11_isNear 3 = .ok (.invokestatic 91, 3) := by decide +kernel
theorem dX11_isNear_6 : decode cX11_isNear 6 = .ok (.iload 5, 2) := by decide +kernel
theorem dX11_isNear_8 : decode cX11_isNear 8 = .ok (.if_icmp .gt 19, 3) := by decide +kernel
theorem dX11_isNear_11 : decode cX11_isNear 11 = .ok (.iload_n 2, 1) := by decide +kernel
theorem dX11_isNear_12 : decode cX11_isNear 12 = .ok (.iload 4, 2) := by decide +kernel
theorem dX11_isNear_14 : decode cX11_isNear 14 = .ok (.isub, 1) := by decide +kernel
theorem dX11_isNear_15 : decode cX11_isNear 15 = .ok (.invokestatic 91, 3) := by decide +kernel
theorem dX11_isNear_18 : decode cX11_isNear 18 = .ok (.iload 5, 2) := by decide +kernel
theorem dX11_isNear_20 : decode cX11_isNear 20 = .ok (.if_icmp .gt 7, 3) := by decide +kernel
theorem dX11_isNear_23 : decode cX11_isNear 23 = .ok (.iconst 1, 1) := by decide +kernel
theorem dX11_isNear_24 : decode cX11_isNear 24 = .ok (.goto 4, 3) := by decide +kernel
theorem dX11_isNear_27 : decode cX11_isNear 27 = .ok (.iconst 0, 1) := by decide +kernel
theorem dX11_isNear_28 : decode cX11_isNear 28 = .ok (.ireturn, 1) := by decide +kernel
set_option maxHeartbeats 4000000 in
set_option maxRecDepth 100000 in
theorem tX11_isNear {l : Launch} {g : yG} {n : Nat} {σ : yM} (x y u v re : Int) (hx : -1000000 ≤ x ∧ x ≤ 1000000) (hy : -1000000 ≤ y ∧ y ≤ 1000000) (hu : -1000000 ≤ u ∧ u ≤ 1000000) (hv : -1000000 ≤ v ∧ v ≤ 1000000) (hre : -1000000 ≤ re ∧ re ≤ 1000000) : yMet l g yX11_isNear cX11_isNear 6 (some .boolean) (rmL 1) [yR g 155, yI x, yI y, yI u, yI v, yI re] (SC g) n σ (SC g) (yPp (bi (sNr x y u v re)) n σ) := by
  refine y_start (by decide) (Nat.le_of_ble_eq_true rfl) (fun X0 hF => ?_)
  show yV X0 g 6 (yQ X0 g (SC g) (yPp (bi (sNr x y u v re)) n σ) (rmL 1)) (SC g) n σ 0 0 0 [(0, yR g 155), (1, yI x), (2, yI y), (3, yI u), (4, yI v), (5, yI re)] []
  refine y_iload_n (pc := 0) hF dX11_isNear_0 1 rfl ?_
  refine y_iload_n (pc := 1) hF dX11_isNear_1 3 rfl ?_
  refine y_isub (pc := 2) hF dX11_isNear_2 ?_
  refine y_mabs (pc := 3) hF dX11_isNear_3 w_1524 w_883 w_103 w_884 (Nat.le_of_ble_eq_true rfl) (Nat.le_of_ble_eq_true rfl) ⟨Nat.zero_le _, Nat.zero_le _⟩ (by omega) ?_
  refine y_iload (pc := 6) hF dX11_isNear_6 5 rfl ?_
  refine y_icmp_gt (pc := 8) hF dX11_isNear_8 27 rfl (by omega) (by omega) (fun zc8 => ?_) (fun zc8 => ?_)
  · skip
    refine y_iconst (pc := 27) hF dX11_isNear_27 ?_
    exact y_zret (pc := 28) hF dX11_isNear_28 (by decide) (Nat.zero_le _) (Nat.zero_le _) ⟨_, rfl, by rw [show sNr x y u v re = false by simp [sNr]; omega]; rfl, rfl, rfl⟩
  · skip
    refine y_iload_n (pc := 11) hF dX11_isNear_11 2 rfl ?_
    refine y_iload (pc := 12) hF dX11_isNear_12 4 rfl ?_
    refine y_isub (pc := 14) hF dX11_isNear_14 ?_
    refine y_mabs (pc := 15) hF dX11_isNear_15 w_1524 w_883 w_103 w_884 (Nat.le_of_ble_eq_true rfl) (Nat.le_of_ble_eq_true rfl) ⟨Nat.zero_le _, Nat.zero_le _⟩ (by omega) ?_
    refine y_iload (pc := 18) hF dX11_isNear_18 5 rfl ?_
    refine y_icmp_gt (pc := 20) hF dX11_isNear_20 27 rfl (by omega) (by omega) (fun zc20 => ?_) (fun zc20 => ?_)
    · skip
      refine y_iconst (pc := 27) hF dX11_isNear_27 ?_
      exact y_zret (pc := 28) hF dX11_isNear_28 (by decide) (Nat.zero_le _) (Nat.zero_le _) ⟨_, rfl, by rw [show sNr x y u v re = false by simp [sNr]; omega]; rfl, rfl, rfl⟩
    · skip
      refine y_iconst (pc := 23) hF dX11_isNear_23 ?_
      refine y_goto (pc := 24) hF dX11_isNear_24 28 rfl ?_
      exact y_zret (pc := 28) hF dX11_isNear_28 (by decide) (Nat.zero_le _) (Nat.zero_le _) ⟨_, rfl, by rw [show sNr x y u v re = true by simp [sNr]; omega]; rfl, rfl, rfl⟩

theorem dX11_wayX_0 : decode cX11_wayX 0 = .ok (.iload_n 0, 1) := by decide +kernel
theorem dX11_wayX_1 : decode cX11_wayX 1 = .ok (.iconst 4, 1) := by decide +kernel
theorem dX11_wayX_2 : decode cX11_wayX 2 = .ok (.if_icmp .ge 7, 3) := by decide +kernel
theorem dX11_wayX_5 : decode cX11_wayX 5 = .ok (.iload_n 1, 1) := by decide +kernel
theorem dX11_wayX_6 : decode cX11_wayX 6 = .ok (.goto 4, 3) := by decide +kernel
theorem dX11_wayX_9 : decode cX11_wayX 9 = .ok (.iload_n 2, 1) := by decide +kernel
theorem dX11_wayX_10 : decode cX11_wayX 10 = .ok (.istore_n 3, 1) := by decide +kernel
theorem dX11_wayX_11 : decode cX11_wayX 11 = .ok (.iload_n 0, 1) := by decide +kernel
theorem dX11_wayX_12 : decode cX11_wayX 12 = .ok (.iconst 1, 1) := by decide +kernel
theorem dX11_wayX_13 : decode cX11_wayX 13 = .ok (.if_icmp .eq 19, 3) := by decide +kernel
theorem dX11_wayX_16 : decode cX11_wayX 16 = .ok (.iload_n 0, 1) := by decide +kernel
theorem dX11_wayX_17 : decode cX11_wayX 17 = .ok (.iconst 2, 1) := by decide +kernel
theorem dX11_wayX_18 : decode cX11_wayX 18 = .ok (.if_icmp .eq 14, 3) := by decide +kernel
theorem dX11_wayX_21 : decode cX11_wayX 21 = .ok (.iload_n 0, 1) := by decide +kernel
theorem dX11_wayX_22 : decode cX11_wayX 22 = .ok (.iconst 5, 1) := by decide +kernel
theorem dX11_wayX_23 : decode cX11_wayX 23 = .ok (.if_icmp .eq 9, 3) := by decide +kernel
theorem dX11_wayX_26 : decode cX11_wayX 26 = .ok (.iload_n 0, 1) := by decide +kernel
theorem dX11_wayX_27 : decode cX11_wayX 27 = .ok (.bipush 6, 2) := by decide +kernel
theorem dX11_wayX_29 : decode cX11_wayX 29 = .ok (.if_icmp .ne 8, 3) := by decide +kernel
theorem dX11_wayX_32 : decode cX11_wayX 32 = .ok (.iload_n 3, 1) := by decide +kernel
theorem dX11_wayX_33 : decode cX11_wayX 33 = .ok (.ineg, 1) := by decide +kernel
theorem dX11_wayX_34 : decode cX11_wayX 34 = .ok (.goto 4, 3) := by decide +kernel
theorem dX11_wayX_37 : decode cX11_wayX 37 = .ok (.iload_n 3, 1) := by decide +kernel
theorem dX11_wayX_38 : decode cX11_wayX 38 = .ok (.ireturn, 1) := by decide +kernel
set_option maxHeartbeats 4000000 in
set_option maxRecDepth 100000 in
theorem tX11_wayX {l : Launch} {g : yG} {n : Nat} {σ : yM} (way dx dy : Int) (hway : -1000000 ≤ way ∧ way ≤ 1000000) : yMet l g yX11_wayX cX11_wayX 4 (some .int) (rmL 1) [yI way, yI dx, yI dy] (SC g) n σ (SC g) (yPp (wX way dx dy) n σ) := by
  refine y_start (by decide) (Nat.le_of_ble_eq_true rfl) (fun X0 hF => ?_)
  show yV X0 g 4 (yQ X0 g (SC g) (yPp (wX way dx dy) n σ) (rmL 1)) (SC g) n σ 0 0 0 [(0, yI way), (1, yI dx), (2, yI dy)] []
  refine y_iload_n (pc := 0) hF dX11_wayX_0 0 rfl ?_
  refine y_iconst (pc := 1) hF dX11_wayX_1 ?_
  refine y_icmp_ge (pc := 2) hF dX11_wayX_2 9 rfl (by omega) (by omega) (fun zc2 => ?_) (fun zc2 => ?_)
  · skip
    refine y_iload_n (pc := 9) hF dX11_wayX_9 2 rfl ?_
    refine y_istore_n (pc := 10) (lv' := [(0, yI way), (1, yI dx), (2, yI dy), (3, yI dy)]) hF dX11_wayX_10 (by decide) rfl rfl ?_
    refine y_iload_n (pc := 11) hF dX11_wayX_11 0 rfl ?_
    refine y_iconst (pc := 12) hF dX11_wayX_12 ?_
    refine y_icmp_eq (pc := 13) hF dX11_wayX_13 32 rfl (by omega) (by omega) (fun zc13 => ?_) (fun zc13 => ?_)
    · skip
      refine y_iload_n (pc := 32) hF dX11_wayX_32 3 rfl ?_
      refine y_ineg (pc := 33) hF dX11_wayX_33 ?_
      refine y_goto (pc := 34) hF dX11_wayX_34 38 rfl ?_
      exact y_iret (pc := 38) hF dX11_wayX_38 (Nat.zero_le _) (Nat.zero_le _) ⟨_, rfl, by first | (exfalso; omega) | (unfold wX; (first | rw [if_pos (by omega)] | rw [if_neg (by omega)]); (first | rw [if_pos (by omega)] | rw [if_neg (by omega)])), rfl, rfl⟩
    · skip
      refine y_iload_n (pc := 16) hF dX11_wayX_16 0 rfl ?_
      refine y_iconst (pc := 17) hF dX11_wayX_17 ?_
      refine y_icmp_eq (pc := 18) hF dX11_wayX_18 32 rfl (by omega) (by omega) (fun zc18 => ?_) (fun zc18 => ?_)
      · skip
        refine y_iload_n (pc := 32) hF dX11_wayX_32 3 rfl ?_
        refine y_ineg (pc := 33) hF dX11_wayX_33 ?_
        refine y_goto (pc := 34) hF dX11_wayX_34 38 rfl ?_
        exact y_iret (pc := 38) hF dX11_wayX_38 (Nat.zero_le _) (Nat.zero_le _) ⟨_, rfl, by first | (exfalso; omega) | (unfold wX; (first | rw [if_pos (by omega)] | rw [if_neg (by omega)]); (first | rw [if_pos (by omega)] | rw [if_neg (by omega)])), rfl, rfl⟩
      · skip
        refine y_iload_n (pc := 21) hF dX11_wayX_21 0 rfl ?_
        refine y_iconst (pc := 22) hF dX11_wayX_22 ?_
        refine y_icmp_eq (pc := 23) hF dX11_wayX_23 32 rfl (by omega) (by omega) (fun zc23 => ?_) (fun zc23 => ?_)
        · skip
          refine y_iload_n (pc := 32) hF dX11_wayX_32 3 rfl ?_
          refine y_ineg (pc := 33) hF dX11_wayX_33 ?_
          refine y_goto (pc := 34) hF dX11_wayX_34 38 rfl ?_
          exact y_iret (pc := 38) hF dX11_wayX_38 (Nat.zero_le _) (Nat.zero_le _) ⟨_, rfl, by first | (exfalso; omega) | (unfold wX; (first | rw [if_pos (by omega)] | rw [if_neg (by omega)]); (first | rw [if_pos (by omega)] | rw [if_neg (by omega)])), rfl, rfl⟩
        · skip
          refine y_iload_n (pc := 26) hF dX11_wayX_26 0 rfl ?_
          refine y_bipush (pc := 27) hF dX11_wayX_27 (by decide) ?_
          refine y_icmp_ne (pc := 29) hF dX11_wayX_29 37 rfl (by omega) (by omega) (fun zc29 => ?_) (fun zc29 => ?_)
          · skip
            refine y_iload_n (pc := 37) hF dX11_wayX_37 3 rfl ?_
            exact y_iret (pc := 38) hF dX11_wayX_38 (Nat.zero_le _) (Nat.zero_le _) ⟨_, rfl, by first | (exfalso; omega) | (unfold wX; (first | rw [if_pos (by omega)] | rw [if_neg (by omega)]); (first | rw [if_pos (by omega)] | rw [if_neg (by omega)])), rfl, rfl⟩
          · skip
            refine y_iload_n (pc := 32) hF dX11_wayX_32 3 rfl ?_
            refine y_ineg (pc := 33) hF dX11_wayX_33 ?_
            refine y_goto (pc := 34) hF dX11_wayX_34 38 rfl ?_
            exact y_iret (pc := 38) hF dX11_wayX_38 (Nat.zero_le _) (Nat.zero_le _) ⟨_, rfl, by first | (exfalso; omega) | (unfold wX; (first | rw [if_pos (by omega)] | rw [if_neg (by omega)]); (first | rw [if_pos (by omega)] | rw [if_neg (by omega)])), rfl, rfl⟩
  · skip
    refine y_iload_n (pc := 5) hF dX11_wayX_5 1 rfl ?_
    refine y_goto (pc := 6) hF dX11_wayX_6 10 rfl ?_
    refine y_istore_n (pc := 10) (lv' := [(0, yI way), (1, yI dx), (2, yI dy), (3, yI dx)]) hF dX11_wayX_10 (by decide) rfl rfl ?_
    refine y_iload_n (pc := 11) hF dX11_wayX_11 0 rfl ?_
    refine y_iconst (pc := 12) hF dX11_wayX_12 ?_
    refine y_icmp_eq (pc := 13) hF dX11_wayX_13 32 rfl (by omega) (by omega) (fun zc13 => ?_) (fun zc13 => ?_)
    · skip
      refine y_iload_n (pc := 32) hF dX11_wayX_32 3 rfl ?_
      refine y_ineg (pc := 33) hF dX11_wayX_33 ?_
      refine y_goto (pc := 34) hF dX11_wayX_34 38 rfl ?_
      exact y_iret (pc := 38) hF dX11_wayX_38 (Nat.zero_le _) (Nat.zero_le _) ⟨_, rfl, by first | (exfalso; omega) | (unfold wX; (first | rw [if_pos (by omega)] | rw [if_neg (by omega)]); (first | rw [if_pos (by omega)] | rw [if_neg (by omega)])), rfl, rfl⟩
    · skip
      refine y_iload_n (pc := 16) hF dX11_wayX_16 0 rfl ?_
      refine y_iconst (pc := 17) hF dX11_wayX_17 ?_
      refine y_icmp_eq (pc := 18) hF dX11_wayX_18 32 rfl (by omega) (by omega) (fun zc18 => ?_) (fun zc18 => ?_)
      · skip
        refine y_iload_n (pc := 32) hF dX11_wayX_32 3 rfl ?_
        refine y_ineg (pc := 33) hF dX11_wayX_33 ?_
        refine y_goto (pc := 34) hF dX11_wayX_34 38 rfl ?_
        exact y_iret (pc := 38) hF dX11_wayX_38 (Nat.zero_le _) (Nat.zero_le _) ⟨_, rfl, by first | (exfalso; omega) | (unfold wX; (first | rw [if_pos (by omega)] | rw [if_neg (by omega)]); (first | rw [if_pos (by omega)] | rw [if_neg (by omega)])), rfl, rfl⟩
      · skip
        refine y_iload_n (pc := 21) hF dX11_wayX_21 0 rfl ?_
        refine y_iconst (pc := 22) hF dX11_wayX_22 ?_
        refine y_icmp_eq (pc := 23) hF dX11_wayX_23 32 rfl (by omega) (by omega) (fun zc23 => ?_) (fun zc23 => ?_)
        · skip
          refine y_iload_n (pc := 32) hF dX11_wayX_32 3 rfl ?_
          refine y_ineg (pc := 33) hF dX11_wayX_33 ?_
          refine y_goto (pc := 34) hF dX11_wayX_34 38 rfl ?_
          exact y_iret (pc := 38) hF dX11_wayX_38 (Nat.zero_le _) (Nat.zero_le _) ⟨_, rfl, by first | (exfalso; omega) | (unfold wX; (first | rw [if_pos (by omega)] | rw [if_neg (by omega)]); (first | rw [if_pos (by omega)] | rw [if_neg (by omega)])), rfl, rfl⟩
        · skip
          refine y_iload_n (pc := 26) hF dX11_wayX_26 0 rfl ?_
          refine y_bipush (pc := 27) hF dX11_wayX_27 (by decide) ?_
          refine y_icmp_ne (pc := 29) hF dX11_wayX_29 37 rfl (by omega) (by omega) (fun zc29 => ?_) (fun zc29 => ?_)
          · skip
            refine y_iload_n (pc := 37) hF dX11_wayX_37 3 rfl ?_
            exact y_iret (pc := 38) hF dX11_wayX_38 (Nat.zero_le _) (Nat.zero_le _) ⟨_, rfl, by first | (exfalso; omega) | (unfold wX; (first | rw [if_pos (by omega)] | rw [if_neg (by omega)]); (first | rw [if_pos (by omega)] | rw [if_neg (by omega)])), rfl, rfl⟩
          · skip
            refine y_iload_n (pc := 32) hF dX11_wayX_32 3 rfl ?_
            refine y_ineg (pc := 33) hF dX11_wayX_33 ?_
            refine y_goto (pc := 34) hF dX11_wayX_34 38 rfl ?_
            exact y_iret (pc := 38) hF dX11_wayX_38 (Nat.zero_le _) (Nat.zero_le _) ⟨_, rfl, by first | (exfalso; omega) | (unfold wX; (first | rw [if_pos (by omega)] | rw [if_neg (by omega)]); (first | rw [if_pos (by omega)] | rw [if_neg (by omega)])), rfl, rfl⟩

theorem dX11_wayY_0 : decode cX11_wayY 0 = .ok (.iload_n 0, 1) := by decide +kernel
theorem dX11_wayY_1 : decode cX11_wayY 1 = .ok (.iconst 4, 1) := by decide +kernel
theorem dX11_wayY_2 : decode cX11_wayY 2 = .ok (.if_icmp .ge 7, 3) := by decide +kernel
theorem dX11_wayY_5 : decode cX11_wayY 5 = .ok (.iload_n 2, 1) := by decide +kernel
theorem dX11_wayY_6 : decode cX11_wayY 6 = .ok (.goto 4, 3) := by decide +kernel
theorem dX11_wayY_9 : decode cX11_wayY 9 = .ok (.iload_n 1, 1) := by decide +kernel
theorem dX11_wayY_10 : decode cX11_wayY 10 = .ok (.istore_n 3, 1) := by decide +kernel
theorem dX11_wayY_11 : decode cX11_wayY 11 = .ok (.iload_n 0, 1) := by decide +kernel
theorem dX11_wayY_12 : decode cX11_wayY 12 = .ok (.iconst 2, 1) := by decide +kernel
theorem dX11_wayY_13 : decode cX11_wayY 13 = .ok (.if_icmp .eq 20, 3) := by decide +kernel
theorem dX11_wayY_16 : decode cX11_wayY 16 = .ok (.iload_n 0, 1) := by decide +kernel
theorem dX11_wayY_17 : decode cX11_wayY 17 = .ok (.iconst 3, 1) := by decide +kernel
theorem dX11_wayY_18 : decode cX11_wayY 18 = .ok (.if_icmp .eq 15, 3) := by decide +kernel
theorem dX11_wayY_21 : decode cX11_wayY 21 = .ok (.iload_n 0, 1) := by decide +kernel
theorem dX11_wayY_22 : decode cX11_wayY 22 = .ok (.bipush 6, 2) := by decide +kernel
theorem dX11_wayY_24 : decode cX11_wayY 24 = .ok (.if_icmp .eq 9, 3) := by decide +kernel
theorem dX11_wayY_27 : decode cX11_wayY 27 = .ok (.iload_n 0, 1) := by decide +kernel
theorem dX11_wayY_28 : decode cX11_wayY 28 = .ok (.bipush 7, 2) := by decide +kernel
theorem dX11_wayY_30 : decode cX11_wayY 30 = .ok (.if_icmp .ne 8, 3) := by decide +kernel
theorem dX11_wayY_33 : decode cX11_wayY 33 = .ok (.iload_n 3, 1) := by decide +kernel
theorem dX11_wayY_34 : decode cX11_wayY 34 = .ok (.ineg, 1) := by decide +kernel
theorem dX11_wayY_35 : decode cX11_wayY 35 = .ok (.goto 4, 3) := by decide +kernel
theorem dX11_wayY_38 : decode cX11_wayY 38 = .ok (.iload_n 3, 1) := by decide +kernel
theorem dX11_wayY_39 : decode cX11_wayY 39 = .ok (.ireturn, 1) := by decide +kernel
set_option maxHeartbeats 4000000 in
set_option maxRecDepth 100000 in
theorem tX11_wayY {l : Launch} {g : yG} {n : Nat} {σ : yM} (way dx dy : Int) (hway : -1000000 ≤ way ∧ way ≤ 1000000) : yMet l g yX11_wayY cX11_wayY 4 (some .int) (rmL 1) [yI way, yI dx, yI dy] (SC g) n σ (SC g) (yPp (wY way dx dy) n σ) := by
  refine y_start (by decide) (Nat.le_of_ble_eq_true rfl) (fun X0 hF => ?_)
  show yV X0 g 4 (yQ X0 g (SC g) (yPp (wY way dx dy) n σ) (rmL 1)) (SC g) n σ 0 0 0 [(0, yI way), (1, yI dx), (2, yI dy)] []
  refine y_iload_n (pc := 0) hF dX11_wayY_0 0 rfl ?_
  refine y_iconst (pc := 1) hF dX11_wayY_1 ?_
  refine y_icmp_ge (pc := 2) hF dX11_wayY_2 9 rfl (by omega) (by omega) (fun zc2 => ?_) (fun zc2 => ?_)
  · skip
    refine y_iload_n (pc := 9) hF dX11_wayY_9 1 rfl ?_
    refine y_istore_n (pc := 10) (lv' := [(0, yI way), (1, yI dx), (2, yI dy), (3, yI dx)]) hF dX11_wayY_10 (by decide) rfl rfl ?_
    refine y_iload_n (pc := 11) hF dX11_wayY_11 0 rfl ?_
    refine y_iconst (pc := 12) hF dX11_wayY_12 ?_
    refine y_icmp_eq (pc := 13) hF dX11_wayY_13 33 rfl (by omega) (by omega) (fun zc13 => ?_) (fun zc13 => ?_)
    · skip
      refine y_iload_n (pc := 33) hF dX11_wayY_33 3 rfl ?_
      refine y_ineg (pc := 34) hF dX11_wayY_34 ?_
      refine y_goto (pc := 35) hF dX11_wayY_35 39 rfl ?_
      exact y_iret (pc := 39) hF dX11_wayY_39 (Nat.zero_le _) (Nat.zero_le _) ⟨_, rfl, by first | (exfalso; omega) | (unfold wY; (first | rw [if_pos (by omega)] | rw [if_neg (by omega)]); (first | rw [if_pos (by omega)] | rw [if_neg (by omega)])), rfl, rfl⟩
    · skip
      refine y_iload_n (pc := 16) hF dX11_wayY_16 0 rfl ?_
      refine y_iconst (pc := 17) hF dX11_wayY_17 ?_
      refine y_icmp_eq (pc := 18) hF dX11_wayY_18 33 rfl (by omega) (by omega) (fun zc18 => ?_) (fun zc18 => ?_)
      · skip
        refine y_iload_n (pc := 33) hF dX11_wayY_33 3 rfl ?_
        refine y_ineg (pc := 34) hF dX11_wayY_34 ?_
        refine y_goto (pc := 35) hF dX11_wayY_35 39 rfl ?_
        exact y_iret (pc := 39) hF dX11_wayY_39 (Nat.zero_le _) (Nat.zero_le _) ⟨_, rfl, by first | (exfalso; omega) | (unfold wY; (first | rw [if_pos (by omega)] | rw [if_neg (by omega)]); (first | rw [if_pos (by omega)] | rw [if_neg (by omega)])), rfl, rfl⟩
      · skip
        refine y_iload_n (pc := 21) hF dX11_wayY_21 0 rfl ?_
        refine y_bipush (pc := 22) hF dX11_wayY_22 (by decide) ?_
        refine y_icmp_eq (pc := 24) hF dX11_wayY_24 33 rfl (by omega) (by omega) (fun zc24 => ?_) (fun zc24 => ?_)
        · skip
          refine y_iload_n (pc := 33) hF dX11_wayY_33 3 rfl ?_
          refine y_ineg (pc := 34) hF dX11_wayY_34 ?_
          refine y_goto (pc := 35) hF dX11_wayY_35 39 rfl ?_
          exact y_iret (pc := 39) hF dX11_wayY_39 (Nat.zero_le _) (Nat.zero_le _) ⟨_, rfl, by first | (exfalso; omega) | (unfold wY; (first | rw [if_pos (by omega)] | rw [if_neg (by omega)]); (first | rw [if_pos (by omega)] | rw [if_neg (by omega)])), rfl, rfl⟩
        · skip
          refine y_iload_n (pc := 27) hF dX11_wayY_27 0 rfl ?_
          refine y_bipush (pc := 28) hF dX11_wayY_28 (by decide) ?_
          refine y_icmp_ne (pc := 30) hF dX11_wayY_30 38 rfl (by omega) (by omega) (fun zc30 => ?_) (fun zc30 => ?_)
          · skip
            refine y_iload_n (pc := 38) hF dX11_wayY_38 3 rfl ?_
            exact y_iret (pc := 39) hF dX11_wayY_39 (Nat.zero_le _) (Nat.zero_le _) ⟨_, rfl, by first | (exfalso; omega) | (unfold wY; (first | rw [if_pos (by omega)] | rw [if_neg (by omega)]); (first | rw [if_pos (by omega)] | rw [if_neg (by omega)])), rfl, rfl⟩
          · skip
            refine y_iload_n (pc := 33) hF dX11_wayY_33 3 rfl ?_
            refine y_ineg (pc := 34) hF dX11_wayY_34 ?_
            refine y_goto (pc := 35) hF dX11_wayY_35 39 rfl ?_
            exact y_iret (pc := 39) hF dX11_wayY_39 (Nat.zero_le _) (Nat.zero_le _) ⟨_, rfl, by first | (exfalso; omega) | (unfold wY; (first | rw [if_pos (by omega)] | rw [if_neg (by omega)]); (first | rw [if_pos (by omega)] | rw [if_neg (by omega)])), rfl, rfl⟩
  · skip
    refine y_iload_n (pc := 5) hF dX11_wayY_5 2 rfl ?_
    refine y_goto (pc := 6) hF dX11_wayY_6 10 rfl ?_
    refine y_istore_n (pc := 10) (lv' := [(0, yI way), (1, yI dx), (2, yI dy), (3, yI dy)]) hF dX11_wayY_10 (by decide) rfl rfl ?_
    refine y_iload_n (pc := 11) hF dX11_wayY_11 0 rfl ?_
    refine y_iconst (pc := 12) hF dX11_wayY_12 ?_
    refine y_icmp_eq (pc := 13) hF dX11_wayY_13 33 rfl (by omega) (by omega) (fun zc13 => ?_) (fun zc13 => ?_)
    · skip
      refine y_iload_n (pc := 33) hF dX11_wayY_33 3 rfl ?_
      refine y_ineg (pc := 34) hF dX11_wayY_34 ?_
      refine y_goto (pc := 35) hF dX11_wayY_35 39 rfl ?_
      exact y_iret (pc := 39) hF dX11_wayY_39 (Nat.zero_le _) (Nat.zero_le _) ⟨_, rfl, by first | (exfalso; omega) | (unfold wY; (first | rw [if_pos (by omega)] | rw [if_neg (by omega)]); (first | rw [if_pos (by omega)] | rw [if_neg (by omega)])), rfl, rfl⟩
    · skip
      refine y_iload_n (pc := 16) hF dX11_wayY_16 0 rfl ?_
      refine y_iconst (pc := 17) hF dX11_wayY_17 ?_
      refine y_icmp_eq (pc := 18) hF dX11_wayY_18 33 rfl (by omega) (by omega) (fun zc18 => ?_) (fun zc18 => ?_)
      · skip
        refine y_iload_n (pc := 33) hF dX11_wayY_33 3 rfl ?_
        refine y_ineg (pc := 34) hF dX11_wayY_34 ?_
        refine y_goto (pc := 35) hF dX11_wayY_35 39 rfl ?_
        exact y_iret (pc := 39) hF dX11_wayY_39 (Nat.zero_le _) (Nat.zero_le _) ⟨_, rfl, by first | (exfalso; omega) | (unfold wY; (first | rw [if_pos (by omega)] | rw [if_neg (by omega)]); (first | rw [if_pos (by omega)] | rw [if_neg (by omega)])), rfl, rfl⟩
      · skip
        refine y_iload_n (pc := 21) hF dX11_wayY_21 0 rfl ?_
        refine y_bipush (pc := 22) hF dX11_wayY_22 (by decide) ?_
        refine y_icmp_eq (pc := 24) hF dX11_wayY_24 33 rfl (by omega) (by omega) (fun zc24 => ?_) (fun zc24 => ?_)
        · skip
          refine y_iload_n (pc := 33) hF dX11_wayY_33 3 rfl ?_
          refine y_ineg (pc := 34) hF dX11_wayY_34 ?_
          refine y_goto (pc := 35) hF dX11_wayY_35 39 rfl ?_
          exact y_iret (pc := 39) hF dX11_wayY_39 (Nat.zero_le _) (Nat.zero_le _) ⟨_, rfl, by first | (exfalso; omega) | (unfold wY; (first | rw [if_pos (by omega)] | rw [if_neg (by omega)]); (first | rw [if_pos (by omega)] | rw [if_neg (by omega)])), rfl, rfl⟩
        · skip
          refine y_iload_n (pc := 27) hF dX11_wayY_27 0 rfl ?_
          refine y_bipush (pc := 28) hF dX11_wayY_28 (by decide) ?_
          refine y_icmp_ne (pc := 30) hF dX11_wayY_30 38 rfl (by omega) (by omega) (fun zc30 => ?_) (fun zc30 => ?_)
          · skip
            refine y_iload_n (pc := 38) hF dX11_wayY_38 3 rfl ?_
            exact y_iret (pc := 39) hF dX11_wayY_39 (Nat.zero_le _) (Nat.zero_le _) ⟨_, rfl, by first | (exfalso; omega) | (unfold wY; (first | rw [if_pos (by omega)] | rw [if_neg (by omega)]); (first | rw [if_pos (by omega)] | rw [if_neg (by omega)])), rfl, rfl⟩
          · skip
            refine y_iload_n (pc := 33) hF dX11_wayY_33 3 rfl ?_
            refine y_ineg (pc := 34) hF dX11_wayY_34 ?_
            refine y_goto (pc := 35) hF dX11_wayY_35 39 rfl ?_
            exact y_iret (pc := 39) hF dX11_wayY_39 (Nat.zero_le _) (Nat.zero_le _) ⟨_, rfl, by first | (exfalso; omega) | (unfold wY; (first | rw [if_pos (by omega)] | rw [if_neg (by omega)]); (first | rw [if_pos (by omega)] | rw [if_neg (by omega)])), rfl, rfl⟩

theorem dX11_weight_0 : decode cX11_weight 0 = .ok (.aload_n 0, 1) := by decide +kernel
theorem dX11_weight_1 : decode cX11_weight 1 = .ok (.getfield 37, 3) := by decide +kernel
theorem dX11_weight_4 : decode cX11_weight 4 = .ok (.iconst 5, 1) := by decide +kernel
theorem dX11_weight_5 : decode cX11_weight 5 = .ok (.iaload, 1) := by decide +kernel
theorem dX11_weight_6 : decode cX11_weight 6 = .ok (.ifCond .ne 7, 3) := by decide +kernel
theorem dX11_weight_9 : decode cX11_weight 9 = .ok (.iconst 1, 1) := by decide +kernel
theorem dX11_weight_10 : decode cX11_weight 10 = .ok (.goto 25, 3) := by decide +kernel
theorem dX11_weight_13 : decode cX11_weight 13 = .ok (.aload_n 0, 1) := by decide +kernel
theorem dX11_weight_14 : decode cX11_weight 14 = .ok (.getfield 19, 3) := by decide +kernel
theorem dX11_weight_17 : decode cX11_weight 17 = .ok (.iload_n 1, 1) := by decide +kernel
theorem dX11_weight_18 : decode cX11_weight 18 = .ok (.aaload, 1) := by decide +kernel
theorem dX11_weight_19 : decode cX11_weight 19 = .ok (.sipush 400, 3) := by decide +kernel
theorem dX11_weight_22 : decode cX11_weight 22 = .ok (.iload_n 2, 1) := by decide +kernel
theorem dX11_weight_23 : decode cX11_weight 23 = .ok (.iload_n 3, 1) := by decide +kernel
theorem dX11_weight_24 : decode cX11_weight 24 = .ok (.invokestatic 56, 3) := by decide +kernel
theorem dX11_weight_27 : decode cX11_weight 27 = .ok (.iadd, 1) := by decide +kernel
theorem dX11_weight_28 : decode cX11_weight 28 = .ok (.iaload, 1) := by decide +kernel
theorem dX11_weight_29 : decode cX11_weight 29 = .ok (.sipush 250, 3) := by decide +kernel
theorem dX11_weight_32 : decode cX11_weight 32 = .ok (.idiv, 1) := by decide +kernel
theorem dX11_weight_33 : decode cX11_weight 33 = .ok (.iconst 1, 1) := by decide +kernel
theorem dX11_weight_34 : decode cX11_weight 34 = .ok (.iadd, 1) := by decide +kernel
theorem dX11_weight_35 : decode cX11_weight 35 = .ok (.ireturn, 1) := by decide +kernel
set_option maxHeartbeats 4000000 in
set_option maxRecDepth 100000 in
theorem tX11_weight {l : Launch} {g : yG} {n : Nat} {σ : yM} (z : Nat) (w h : Int) (T S F P O : Int → Int → Int) (s re fo ra tu we sh : Int) (hn : 172 ≤ n) (hz : z < 3) (hA : rM σ z w h T S F P O) (hS : rS σ 166 s re fo ra tu we sh) (a b : Int) (hi : sIn w h a b = true) : yMet l g yX11_weight cX11_weight 4 (some .int) (rmL 2) [yR g 155, yI (z : Int), yI a, yI b] (SC g) n σ (SC g) (yPp (sWt S we a b) n σ) := by
  obtain ⟨hw1, hw2, hw3, hw4⟩ := id hA.1.1
  obtain ⟨hs1, hs2, hs3, hs4, hs5, hs6, hs7⟩ := id hS.2
  have zi := sIn_iff.mp hi
  have zm := hA.2.2.2 a b zi.1 zi.2.1 zi.2.2.1 zi.2.2.2
  have zt := hA.1.2 a b zi.1 zi.2.1 zi.2.2.1 zi.2.2.2
  refine y_start (by decide) (Nat.le_of_ble_eq_true rfl) (fun X0 hF => ?_)
  show yV X0 g 4 (yQ X0 g (SC g) (yPp (sWt S we a b) n σ) (rmL 2)) (SC g) n σ 0 0 0 [(0, yR g 155), (1, yI (z : Int)), (2, yI a), (3, yI b)] []
  refine y_aload_n (pc := 0) hF dX11_weight_0 0 rfl ?_
  refine y_get (pc := 1) (ci := 11) hF dX11_weight_1 (by omega) rfl rfl rfl iX11 10 (by decide) w_1257 rfl ?_
  refine y_iconst (pc := 4) hF dX11_weight_4 ?_
  refine y_iaload (pc := 5) hF dX11_weight_5 (by omega) rfl (by omega) (by decide) ?_
  rw [show σ 166 5 = we from hS.1.2.2.2.2.2.1]
  refine y_if_ne (pc := 6) hF dX11_weight_6 13 rfl (by omega) (fun zc6 => ?_) (fun zc6 => ?_)
  · skip
    refine y_aload_n (pc := 13) hF dX11_weight_13 0 rfl ?_
    refine y_get (pc := 14) (ci := 11) hF dX11_weight_14 (by omega) rfl rfl rfl iX11 2 (by decide) w_1249 rfl ?_
    refine y_iload_n (pc := 17) hF dX11_weight_17 1 rfl ?_
    refine y_aaM (pc := 18) (z := z) hF dX11_weight_18 hn rfl hz ?_
    refine y_sipush (pc := 19) hF dX11_weight_19 (by decide) ?_
    refine y_iload_n (pc := 22) hF dX11_weight_22 2 rfl ?_
    refine y_iload_n (pc := 23) hF dX11_weight_23 3 rfl ?_
    refine y_cp (y_rS (pc := 24) (As := [yI a, yI b]) (kk := 0) hF (tX11_at a b) dX11_weight_24 w_1236 qX11_at rfl ⟨Nat.le_of_ble_eq_true rfl, Nat.le_of_ble_eq_true rfl⟩ ⟨Nat.zero_le _, Nat.zero_le _⟩ (Nat.le_of_ble_eq_true rfl) rfl) ?_
    refine y_iadd (pc := 27) hF dX11_weight_27 ?_
    refine y_iaload (pc := 28) hF dX11_weight_28 (by omega) (sc_lay hz g) (by omega) (by decide) ?_
    rw [show σ (158 + z) (400 + (20 * b + a)) = S a b from zm.2.1]
    refine y_sipush (pc := 29) hF dX11_weight_29 (by decide) ?_
    refine y_idiv (pc := 32) hF dX11_weight_32 (by omega) (by omega) (by omega) ?_
    rw [show Int.tdiv (S a b) 250 = S a b / 250 from (y_quo (by omega))]
    refine y_iconst (pc := 33) hF dX11_weight_33 ?_
    refine y_iadd (pc := 34) hF dX11_weight_34 ?_
    exact y_iret (pc := 35) hF dX11_weight_35 (Nat.zero_le _) (Nat.zero_le _) ⟨_, rfl, by unfold sWt; first | rw [if_pos (by omega)] | rw [if_neg (by omega)], rfl, rfl⟩
  · skip
    refine y_iconst (pc := 9) hF dX11_weight_9 ?_
    refine y_goto (pc := 10) hF dX11_weight_10 35 rfl ?_
    exact y_iret (pc := 35) hF dX11_weight_35 (Nat.zero_le _) (Nat.zero_le _) ⟨_, rfl, by unfold sWt; first | rw [if_pos (by omega)] | rw [if_neg (by omega)], rfl, rfl⟩

theorem dX11_apart_0 : decode cX11_apart 0 = .ok (.aload_n 0, 1) := by decide +kernel
theorem dX11_apart_1 : decode cX11_apart 1 = .ok (.iload_n 1, 1) := by decide +kernel
theorem dX11_apart_2 : decode cX11_apart 2 = .ok (.iload 4, 2) := by decide +kernel
theorem dX11_apart_4 : decode cX11_apart 4 = .ok (.iload 5, 2) := by decide +kernel
theorem dX11_apart_6 : decode cX11_apart 6 = .ok (.invokevirtual 87, 3) := by decide +kernel
theorem dX11_apart_9 : decode cX11_apart 9 = .ok (.aload_n 0, 1) := by decide +kernel
theorem dX11_apart_10 : decode cX11_apart 10 = .ok (.iload_n 1, 1) := by decide +kernel
theorem dX11_apart_11 : decode cX11_apart 11 = .ok (.iload 6, 2) := by decide +kernel
theorem dX11_apart_13 : decode cX11_apart 13 = .ok (.iload 8, 2) := by decide +kernel
theorem dX11_apart_15 : decode cX11_apart 15 = .ok (.iload 4, 2) := by decide +kernel
theorem dX11_apart_17 : decode cX11_apart 17 = .ok (.iload_n 2, 1) := by decide +kernel
theorem dX11_apart_18 : decode cX11_apart 18 = .ok (.isub, 1) := by decide +kernel
theorem dX11_apart_19 : decode cX11_apart 19 = .ok (.iload 5, 2) := by decide +kernel
theorem dX11_apart_21 : decode cX11_apart 21 = .ok (.iload_n 3, 1) := by decide +kernel
theorem dX11_apart_22 : decode cX11_apart 22 = .ok (.isub, 1) := by decide +kernel
theorem dX11_apart_23 : decode cX11_apart 23 = .ok (.invokestatic 130, 3) := by decide +kernel
theorem dX11_apart_26 : decode cX11_apart 26 = .ok (.iadd, 1) := by decide +kernel
theorem dX11_apart_27 : decode cX11_apart 27 = .ok (.iload 7, 2) := by decide +kernel
theorem dX11_apart_29 : decode cX11_apart 29 = .ok (.iload 8, 2) := by decide +kernel
theorem dX11_apart_31 : decode cX11_apart 31 = .ok (.iload 4, 2) := by decide +kernel
theorem dX11_apart_33 : decode cX11_apart 33 = .ok (.iload_n 2, 1) := by decide +kernel
theorem dX11_apart_34 : decode cX11_apart 34 = .ok (.isub, 1) := by decide +kernel
theorem dX11_apart_35 : decode cX11_apart 35 = .ok (.iload 5, 2) := by decide +kernel
theorem dX11_apart_37 : decode cX11_apart 37 = .ok (.iload_n 3, 1) := by decide +kernel
theorem dX11_apart_38 : decode cX11_apart 38 = .ok (.isub, 1) := by decide +kernel
theorem dX11_apart_39 : decode cX11_apart 39 = .ok (.invokestatic 133, 3) := by decide +kernel
theorem dX11_apart_42 : decode cX11_apart 42 = .ok (.iadd, 1) := by decide +kernel
theorem dX11_apart_43 : decode cX11_apart 43 = .ok (.invokevirtual 87, 3) := by decide +kernel
theorem dX11_apart_46 : decode cX11_apart 46 = .ok (.isub, 1) := by decide +kernel
theorem dX11_apart_47 : decode cX11_apart 47 = .ok (.ireturn, 1) := by decide +kernel
set_option maxHeartbeats 4000000 in
set_option maxRecDepth 100000 in
theorem tX11_apart {l : Launch} {g : yG} {n : Nat} {σ : yM} (z : Nat) (w h : Int) (T S F P O : Int → Int → Int) (hn : 172 ≤ n) (hz : z < 3) (hA : rM σ z w h T S F P O) (x y i j u v way : Int) (hway : -1000000 ≤ way ∧ way ≤ 1000000) (h1 : sIn w h i j = true) (h2 : sIn w h (u + wX way (i - x) (j - y)) (v + wY way (i - x) (j - y)) = true) : yMet l g yX11_apart cX11_apart 9 (some .int) (rmL 3) [yR g 155, yI (z : Int), yI x, yI y, yI i, yI j, yI u, yI v, yI way] (SC g) n σ (SC g) (yPp (sAp T x y i j u v way) n σ) := by
  refine y_start (by decide) (Nat.le_of_ble_eq_true rfl) (fun X0 hF => ?_)
  show yV X0 g 9 (yQ X0 g (SC g) (yPp (sAp T x y i j u v way) n σ) (rmL 3)) (SC g) n σ 0 0 0 [(0, yR g 155), (1, yI (z : Int)), (2, yI x), (3, yI y), (4, yI i), (5, yI j), (6, yI u), (7, yI v), (8, yI way)] []
  refine y_aload_n (pc := 0) hF dX11_apart_0 0 rfl ?_
  refine y_iload_n (pc := 1) hF dX11_apart_1 1 rfl ?_
  refine y_iload (pc := 2) hF dX11_apart_2 4 rfl ?_
  refine y_iload (pc := 4) hF dX11_apart_4 5 rfl ?_
  refine y_cp (y_rV (pc := 6) hF (tX11_toneOf z w h T S F P O hn hz hA i j h1) dX11_apart_6 (by omega) rfl rfl rfl w_1472 qX11_toneOf rfl ⟨Nat.le_of_ble_eq_true rfl, Nat.le_of_ble_eq_true rfl⟩ ⟨Nat.zero_le _, Nat.zero_le _⟩ (Nat.le_of_ble_eq_true rfl) rfl) ?_
  refine y_aload_n (pc := 9) hF dX11_apart_9 0 rfl ?_
  refine y_iload_n (pc := 10) hF dX11_apart_10 1 rfl ?_
  refine y_iload (pc := 11) hF dX11_apart_11 6 rfl ?_
  refine y_iload (pc := 13) hF dX11_apart_13 8 rfl ?_
  refine y_iload (pc := 15) hF dX11_apart_15 4 rfl ?_
  refine y_iload_n (pc := 17) hF dX11_apart_17 2 rfl ?_
  refine y_isub (pc := 18) hF dX11_apart_18 ?_
  refine y_iload (pc := 19) hF dX11_apart_19 5 rfl ?_
  refine y_iload_n (pc := 21) hF dX11_apart_21 3 rfl ?_
  refine y_isub (pc := 22) hF dX11_apart_22 ?_
  refine y_cp (y_rS (pc := 23) (As := [yI way, yI (i - x), yI (j - y)]) (kk := 0) hF (tX11_wayX way (i - x) (j - y) (by omega)) dX11_apart_23 w_1561 qX11_wayX rfl ⟨Nat.le_of_ble_eq_true rfl, Nat.le_of_ble_eq_true rfl⟩ ⟨Nat.zero_le _, Nat.zero_le _⟩ (Nat.le_of_ble_eq_true rfl) rfl) ?_
  refine y_iadd (pc := 26) hF dX11_apart_26 ?_
  refine y_iload (pc := 27) hF dX11_apart_27 7 rfl ?_
  refine y_iload (pc := 29) hF dX11_apart_29 8 rfl ?_
  refine y_iload (pc := 31) hF dX11_apart_31 4 rfl ?_
  refine y_iload_n (pc := 33) hF dX11_apart_33 2 rfl ?_
  refine y_isub (pc := 34) hF dX11_apart_34 ?_
  refine y_iload (pc := 35) hF dX11_apart_35 5 rfl ?_
  refine y_iload_n (pc := 37) hF dX11_apart_37 3 rfl ?_
  refine y_isub (pc := 38) hF dX11_apart_38 ?_
  refine y_cp (y_rS (pc := 39) (As := [yI way, yI (i - x), yI (j - y)]) (kk := 0) hF (tX11_wayY way (i - x) (j - y) (by omega)) dX11_apart_39 w_1564 qX11_wayY rfl ⟨Nat.le_of_ble_eq_true rfl, Nat.le_of_ble_eq_true rfl⟩ ⟨Nat.zero_le _, Nat.zero_le _⟩ (Nat.le_of_ble_eq_true rfl) rfl) ?_
  refine y_iadd (pc := 42) hF dX11_apart_42 ?_
  refine y_cp (y_rV (pc := 43) hF (tX11_toneOf z w h T S F P O hn hz hA (u + (wX way (i - x) (j - y))) (v + (wY way (i - x) (j - y))) h2) dX11_apart_43 (by omega) rfl rfl rfl w_1472 qX11_toneOf rfl ⟨Nat.le_of_ble_eq_true rfl, Nat.le_of_ble_eq_true rfl⟩ ⟨Nat.zero_le _, Nat.zero_le _⟩ (Nat.le_of_ble_eq_true rfl) rfl) ?_
  refine y_isub (pc := 46) hF dX11_apart_46 ?_
  exact y_iret (pc := 47) hF dX11_apart_47 (Nat.zero_le _) (Nat.zero_le _) ⟨_, rfl, rfl, rfl, rfl⟩

theorem dX11_bounds_0 : decode cX11_bounds 0 = .ok (.lconst 0, 1) := by decide +kernel
theorem dX11_bounds_1 : decode cX11_bounds 1 = .ok (.lstore 7, 2) := by decide +kernel
theorem dX11_bounds_3 : decode cX11_bounds 3 = .ok (.lconst 0, 1) := by decide +kernel
theorem dX11_bounds_4 : decode cX11_bounds 4 = .ok (.lstore 9, 2) := by decide +kernel
theorem dX11_bounds_6 : decode cX11_bounds 6 = .ok (.iload_n 3, 1) := by decide +kernel
theorem dX11_bounds_7 : decode cX11_bounds 7 = .ok (.aload_n 0, 1) := by decide +kernel
theorem dX11_bounds_8 : decode cX11_bounds 8 = .ok (.getfield 37, 3) := by decide +kernel
theorem dX11_bounds_11 : decode cX11_bounds 11 = .ok (.iconst 0, 1) := by decide +kernel
theorem dX11_bounds_12 : decode cX11_bounds 12 = .ok (.iaload, 1) := by decide +kernel
theorem dX11_bounds_13 : decode cX11_bounds 13 = .ok (.isub, 1) := by decide +kernel
theorem dX11_bounds_14 : decode cX11_bounds 14 = .ok (.istore 11, 2) := by decide +kernel
theorem dX11_bounds_16 : decode cX11_bounds 16 = .ok (.iload 11, 2) := by decide +kernel
theorem dX11_bounds_18 : decode cX11_bounds 18 = .ok (.iload_n 3, 1) := by decide +kernel
theorem dX11_bounds_19 : decode cX11_bounds 19 = .ok (.aload_n 0, 1) := by decide +kernel
theorem dX11_bounds_20 : decode cX11_bounds 20 = .ok (.getfield 37, 3) := by decide +kernel
theorem dX11_bounds_23 : decode cX11_bounds 23 = .ok (.iconst 0, 1) := by decide +kernel
theorem dX11_bounds_24 : decode cX11_bounds 24 = .ok (.iaload, 1) := by decide +kernel
theorem dX11_bounds_25 : decode cX11_bounds 25 = .ok (.iadd, 1) := by decide +kernel
theorem dX11_bounds_26 : decode cX11_bounds 26 = .ok (.if_icmp .gt 101, 3) := by decide +kernel
theorem dX11_bounds_29 : decode cX11_bounds 29 = .ok (.iload_n 2, 1) := by decide +kernel
theorem dX11_bounds_30 : decode cX11_bounds 30 = .ok (.aload_n 0, 1) := by decide +kernel
theorem dX11_bounds_31 : decode cX11_bounds 31 = .ok (.getfield 37, 3) := by decide +kernel
theorem dX11_bounds_34 : decode cX11_bounds 34 = .ok (.iconst 0, 1) := by decide +kernel
theorem dX11_bounds_35 : decode cX11_bounds 35 = .ok (.iaload, 1) := by decide +kernel
theorem dX11_bounds_36 : decode cX11_bounds 36 = .ok (.isub, 1) := by decide +kernel
theorem dX11_bounds_37 : decode cX11_bounds 37 = .ok (.istore 12, 2) := by decide +kernel
theorem dX11_bounds_39 : decode cX11_bounds 39 = .ok (.iload 12, 2) := by decide +kernel
theorem dX11_bounds_41 : decode cX11_bounds 41 = .ok (.iload_n 2, 1) := by decide +kernel
theorem dX11_bounds_42 : decode cX11_bounds 42 = .ok (.aload_n 0, 1) := by decide +kernel
theorem dX11_bounds_43 : decode cX11_bounds 43 = .ok (.getfield 37, 3) := by decide +kernel
theorem dX11_bounds_46 : decode cX11_bounds 46 = .ok (.iconst 0, 1) := by decide +kernel
theorem dX11_bounds_47 : decode cX11_bounds 47 = .ok (.iaload, 1) := by decide +kernel
theorem dX11_bounds_48 : decode cX11_bounds 48 = .ok (.iadd, 1) := by decide +kernel
theorem dX11_bounds_49 : decode cX11_bounds 49 = .ok (.if_icmp .gt 72, 3) := by decide +kernel
theorem dX11_bounds_52 : decode cX11_bounds 52 = .ok (.aload_n 0, 1) := by decide +kernel
theorem dX11_bounds_53 : decode cX11_bounds 53 = .ok (.iload_n 1, 1) := by decide +kernel
theorem dX11_bounds_54 : decode cX11_bounds 54 = .ok (.iload 12, 2) := by decide +kernel
theorem dX11_bounds_56 : decode cX11_bounds 56 = .ok (.iload 11, 2) := by decide +kernel
theorem dX11_bounds_58 : decode cX11_bounds 58 = .ok (.invokevirtual 78, 3) := by decide +kernel
theorem dX11_bounds_61 : decode cX11_bounds 61 = .ok (.ifCond .ne 6, 3) := by decide +kernel
theorem dX11_bounds_64 : decode cX11_bounds 64 = .ok (.goto 51, 3) := by decide +kernel
theorem dX11_bounds_67 : decode cX11_bounds 67 = .ok (.lload 7, 2) := by decide +kernel
theorem dX11_bounds_69 : decode cX11_bounds 69 = .ok (.aload_n 0, 1) := by decide +kernel
theorem dX11_bounds_70 : decode cX11_bounds 70 = .ok (.iload_n 1, 1) := by decide +kernel
theorem dX11_bounds_71 : decode cX11_bounds 71 = .ok (.iload_n 2, 1) := by decide +kernel
theorem dX11_bounds_72 : decode cX11_bounds 72 = .ok (.iload_n 3, 1) := by decide +kernel
theorem dX11_bounds_73 : decode cX11_bounds 73 = .ok (.iload 12, 2) := by decide +kernel
theorem dX11_bounds_75 : decode cX11_bounds 75 = .ok (.iload 11, 2) := by decide +kernel
theorem dX11_bounds_77 : decode cX11_bounds 77 = .ok (.iload 4, 2) := by decide +kernel
theorem dX11_bounds_79 : decode cX11_bounds 79 = .ok (.iload 5, 2) := by decide +kernel
theorem dX11_bounds_81 : decode cX11_bounds 81 = .ok (.iload 6, 2) := by decide +kernel
theorem dX11_bounds_83 : decode cX11_bounds 83 = .ok (.invokevirtual 136, 3) := by decide +kernel
theorem dX11_bounds_86 : decode cX11_bounds 86 = .ok (.aload_n 0, 1) := by decide +kernel
theorem dX11_bounds_87 : decode cX11_bounds 87 = .ok (.iload_n 1, 1) := by decide +kernel
theorem dX11_bounds_88 : decode cX11_bounds 88 = .ok (.iload 12, 2) := by decide +kernel
theorem dX11_bounds_90 : decode cX11_bounds 90 = .ok (.iload 11, 2) := by decide +kernel
theorem dX11_bounds_92 : decode cX11_bounds 92 = .ok (.invokevirtual 140, 3) := by decide +kernel
theorem dX11_bounds_95 : decode cX11_bounds 95 = .ok (.imul, 1) := by decide +kernel
theorem dX11_bounds_96 : decode cX11_bounds 96 = .ok (.i2l, 1) := by decide +kernel
theorem dX11_bounds_97 : decode cX11_bounds 97 = .ok (.ladd, 1) := by decide +kernel
theorem dX11_bounds_98 : decode cX11_bounds 98 = .ok (.lstore 7, 2) := by decide +kernel
theorem dX11_bounds_100 : decode cX11_bounds 100 = .ok (.lload 9, 2) := by decide +kernel
theorem dX11_bounds_102 : decode cX11_bounds 102 = .ok (.aload_n 0, 1) := by decide +kernel
theorem dX11_bounds_103 : decode cX11_bounds 103 = .ok (.iload_n 1, 1) := by decide +kernel
theorem dX11_bounds_104 : decode cX11_bounds 104 = .ok (.iload 12, 2) := by decide +kernel
theorem dX11_bounds_106 : decode cX11_bounds 106 = .ok (.iload 11, 2) := by decide +kernel
theorem dX11_bounds_108 : decode cX11_bounds 108 = .ok (.invokevirtual 140, 3) := by decide +kernel
theorem dX11_bounds_111 : decode cX11_bounds 111 = .ok (.i2l, 1) := by decide +kernel
theorem dX11_bounds_112 : decode cX11_bounds 112 = .ok (.ladd, 1) := by decide +kernel
theorem dX11_bounds_113 : decode cX11_bounds 113 = .ok (.lstore 9, 2) := by decide +kernel
theorem dX11_bounds_115 : decode cX11_bounds 115 = .ok (.iinc 12 1, 3) := by decide +kernel
theorem dX11_bounds_118 : decode cX11_bounds 118 = .ok (.goto (-79), 3) := by decide +kernel
theorem dX11_bounds_121 : decode cX11_bounds 121 = .ok (.iinc 11 1, 3) := by decide +kernel
theorem dX11_bounds_124 : decode cX11_bounds 124 = .ok (.goto (-108), 3) := by decide +kernel
theorem dX11_bounds_127 : decode cX11_bounds 127 = .ok (.aload_n 0, 1) := by decide +kernel
theorem dX11_bounds_128 : decode cX11_bounds 128 = .ok (.aload_n 0, 1) := by decide +kernel
theorem dX11_bounds_129 : decode cX11_bounds 129 = .ok (.getfield 37, 3) := by decide +kernel
theorem dX11_bounds_132 : decode cX11_bounds 132 = .ok (.bipush 6, 2) := by decide +kernel
theorem dX11_bounds_134 : decode cX11_bounds 134 = .ok (.iaload, 1) := by decide +kernel
theorem dX11_bounds_135 : decode cX11_bounds 135 = .ok (.ifCond .eq 10, 3) := by decide +kernel
theorem dX11_bounds_138 : decode cX11_bounds 138 = .ok (.lload 9, 2) := by decide +kernel
theorem dX11_bounds_140 : decode cX11_bounds 140 = .ok (.lconst 0, 1) := by decide +kernel
theorem dX11_bounds_141 : decode cX11_bounds 141 = .ok (.lcmp, 1) := by decide +kernel
theorem dX11_bounds_142 : decode cX11_bounds 142 = .ok (.ifCond .ne 7, 3) := by decide +kernel
theorem dX11_bounds_145 : decode cX11_bounds 145 = .ok (.iconst 0, 1) := by decide +kernel
theorem dX11_bounds_146 : decode cX11_bounds 146 = .ok (.goto 9, 3) := by decide +kernel
theorem dX11_bounds_149 : decode cX11_bounds 149 = .ok (.lload 7, 2) := by decide +kernel
theorem dX11_bounds_151 : decode cX11_bounds 151 = .ok (.lload 9, 2) := by decide +kernel
theorem dX11_bounds_153 : decode cX11_bounds 153 = .ok (.ldiv, 1) := by decide +kernel
theorem dX11_bounds_154 : decode cX11_bounds 154 = .ok (.l2i, 1) := by decide +kernel
theorem dX11_bounds_155 : decode cX11_bounds 155 = .ok (.putfield 143, 3) := by decide +kernel
theorem dX11_bounds_158 : decode cX11_bounds 158 = .ok (.lload 7, 2) := by decide +kernel
theorem dX11_bounds_160 : decode cX11_bounds 160 = .ok (.aload_n 0, 1) := by decide +kernel
theorem dX11_bounds_161 : decode cX11_bounds 161 = .ok (.getfield 143, 3) := by decide +kernel
theorem dX11_bounds_164 : decode cX11_bounds 164 = .ok (.i2l, 1) := by decide +kernel
theorem dX11_bounds_165 : decode cX11_bounds 165 = .ok (.lload 9, 2) := by decide +kernel
theorem dX11_bounds_167 : decode cX11_bounds 167 = .ok (.lmul, 1) := by decide +kernel
theorem dX11_bounds_168 : decode cX11_bounds 168 = .ok (.lsub, 1) := by decide +kernel
theorem dX11_bounds_169 : decode cX11_bounds 169 = .ok (.lstore 7, 2) := by decide +kernel
theorem dX11_bounds_171 : decode cX11_bounds 171 = .ok (.aload_n 0, 1) := by decide +kernel
theorem dX11_bounds_172 : decode cX11_bounds 172 = .ok (.lload 9, 2) := by decide +kernel
theorem dX11_bounds_174 : decode cX11_bounds 174 = .ok (.lconst 0, 1) := by decide +kernel
theorem dX11_bounds_175 : decode cX11_bounds 175 = .ok (.lcmp, 1) := by decide +kernel
theorem dX11_bounds_176 : decode cX11_bounds 176 = .ok (.ifCond .ne 7, 3) := by decide +kernel
theorem dX11_bounds_179 : decode cX11_bounds 179 = .ok (.iconst 0, 1) := by decide +kernel
theorem dX11_bounds_180 : decode cX11_bounds 180 = .ok (.goto 12, 3) := by decide +kernel
theorem dX11_bounds_183 : decode cX11_bounds 183 = .ok (.lload 7, 2) := by decide +kernel
theorem dX11_bounds_185 : decode cX11_bounds 185 = .ok (.lload 7, 2) := by decide +kernel
theorem dX11_bounds_187 : decode cX11_bounds 187 = .ok (.lmul, 1) := by decide +kernel
theorem dX11_bounds_188 : decode cX11_bounds 188 = .ok (.lload 9, 2) := by decide +kernel
theorem dX11_bounds_190 : decode cX11_bounds 190 = .ok (.ldiv, 1) := by decide +kernel
theorem dX11_bounds_191 : decode cX11_bounds 191 = .ok (.l2i, 1) := by decide +kernel
theorem dX11_bounds_192 : decode cX11_bounds 192 = .ok (.putfield 146, 3) := by decide +kernel
theorem dX11_bounds_195 : decode cX11_bounds 195 = .ok (.return_, 1) := by decide +kernel
set_option maxHeartbeats 4000000 in
set_option maxRecDepth 100000 in
theorem tX11_bounds {l : Launch} {g : yG} {n : Nat} {σ : yM} (z : Nat) (w h : Int) (T S F P O : Int → Int → Int) (s re fo ra tu we sh : Int) (hn : 172 ≤ n) (hz : z < 3) (hA : rM σ z w h T S F P O) (hS : rS σ 166 s re fo ra tu we sh) (x y u v way : Int) (hi : sIn w h x y = true) (hq : sPl w h T s u v) (huv : sIn w h u v = true) (hy : 0 ≤ way ∧ way ≤ 7) : yMet l g yX11_bounds cX11_bounds 13 none (rmL 4) [yR g 155, yI (z : Int), yI x, yI y, yI u, yI v, yI way] (SC g) n σ (SC g) (yPv (fun n' σ' => n' = n ∧ fR 16 17 σ σ' ∧ σ' 155 16 = sSh w h T S s we sh x y u v way ∧ σ' 155 17 = sBo w h T S s we sh x y u v way)) := by
  obtain ⟨hw1, hw2, hw3, hw4⟩ := id hA.1.1
  obtain ⟨hs1, hs2, hs3, hs4, hs5, hs6, hs7⟩ := id hS.2
  have zi := sIn_iff.mp hi
  have zu := sIn_iff.mp huv
  have zB := sB2_bd hA.1 (we := we) (way := way) (x := x) (y := y) ⟨by omega, hs1.2⟩ hq
  have zH := sSh_bd hA.1 (we := we) (sh := sh) (way := way) (x := x) (y := y) ⟨by omega, hs1.2⟩ hq
  refine y_start (by decide) (Nat.le_of_ble_eq_true rfl) (fun X0 hF => ?_)
  show yV X0 g 13 (yQ X0 g (SC g) (yPv (fun n' σ' => n' = n ∧ fR 16 17 σ σ' ∧ σ' 155 16 = sSh w h T S s we sh x y u v way ∧ σ' 155 17 = sBo w h T S s we sh x y u v way)) (rmL 4)) (SC g) n σ 0 0 0 [(0, yR g 155), (1, yI (z : Int)), (2, yI x), (3, yI y), (4, yI u), (5, yI v), (6, yI way)] []
  refine y_lconst (pc := 0) (v := 0) hF dX11_bounds_0 rfl ?_
  refine y_lstore (pc := 1) (lv' := [(0, yR g 155), (1, yI (z : Int)), (2, yI x), (3, yI y), (4, yI u), (5, yI v), (6, yI way), (7, yJ 0)]) hF dX11_bounds_1 (by decide) rfl rfl rfl ?_
  refine y_lconst (pc := 3) (v := 0) hF dX11_bounds_3 rfl ?_
  refine y_lstore (pc := 4) (lv' := [(0, yR g 155), (1, yI (z : Int)), (2, yI x), (3, yI y), (4, yI u), (5, yI v), (6, yI way), (7, yJ 0), (9, yJ 0)]) hF dX11_bounds_4 (by decide) rfl rfl rfl ?_
  refine y_iload_n (pc := 6) hF dX11_bounds_6 3 rfl ?_
  refine y_aload_n (pc := 7) hF dX11_bounds_7 0 rfl ?_
  refine y_get (pc := 8) (ci := 11) hF dX11_bounds_8 (by omega) rfl rfl rfl iX11 10 (by decide) w_1257 rfl ?_
  refine y_iconst (pc := 11) hF dX11_bounds_11 ?_
  refine y_iaload (pc := 12) hF dX11_bounds_12 (by omega) rfl (by omega) (by decide) ?_
  rw [show σ 166 0 = s from hS.1.1]
  refine y_isub (pc := 13) hF dX11_bounds_13 ?_
  refine y_istore (pc := 14) (lv' := [(0, yR g 155), (1, yI (z : Int)), (2, yI x), (3, yI y), (4, yI u), (5, yI v), (6, yI way), (7, yJ 0), (9, yJ 0), (11, yI (y - s))]) hF dX11_bounds_14 (by decide) rfl rfl ?_
  have zL16 : ∀ (N : Nat) (j a c : Int), N = (y + s + 1 - j).toNat → ((y - s ≤ j ∧ j ≤ y + s + 1) ∧ (-(255 * c) ≤ a ∧ a ≤ 255 * c) ∧ (0 ≤ c ∧ c ≤ 35 * (j - (y - s))) ∧ (a, c) = fr (fun q j => fr (fun q i => bdF w h T S we x y u v way q i j) (x - s) (2 * s + 1).toNat q) (y - s) (j - (y - s)).toNat (0, 0)) → yV X0 g 13 (yQ X0 g (SC g) (yPv (fun n' σ' => n' = n ∧ fR 16 17 σ σ' ∧ σ' 155 16 = sSh w h T S s we sh x y u v way ∧ σ' 155 17 = sBo w h T S s we sh x y u v way)) (rmL 4)) (SC g) n σ 0 0 16 [(0, yR g 155), (1, yI (z : Int)), (2, yI x), (3, yI y), (4, yI u), (5, yI v), (6, yI way), (7, yJ a), (9, yJ c), (11, yI j)] [] := by
    intro N
    induction N using Nat.strongRecOn with
    | ind N zh16 =>
      intro j a c  zN16 zI16
      refine y_iload (pc := 16) hF dX11_bounds_16 9 rfl ?_
      refine y_iload_n (pc := 18) hF dX11_bounds_18 3 rfl ?_
      refine y_aload_n (pc := 19) hF dX11_bounds_19 0 rfl ?_
      refine y_get (pc := 20) (ci := 11) hF dX11_bounds_20 (by omega) rfl rfl rfl iX11 10 (by decide) w_1257 rfl ?_
      refine y_iconst (pc := 23) hF dX11_bounds_23 ?_
      refine y_iaload (pc := 24) hF dX11_bounds_24 (by omega) rfl (by omega) (by decide) ?_
      rw [show σ 166 0 = s from hS.1.1]
      refine y_iadd (pc := 25) hF dX11_bounds_25 ?_
      refine y_icmp_gt (pc := 26) hF dX11_bounds_26 127 rfl (by omega) (by omega) (fun zc26 => ?_) (fun zc26 => ?_)
      · skip
        have ze : (a, c) = sB2 w h T S s we x y u v way := by rw [zI16.2.2.2, show j - (y - s) = 2 * s + 1 by omega]; rfl
        have ze1 : a = (sB2 w h T S s we x y u v way).1 := congrArg Prod.fst ze
        have ze2 : c = (sB2 w h T S s we x y u v way).2 := congrArg Prod.snd ze
        have zJ155 : ∀ (b : Int), b = sSh w h T S s we sh x y u v way → yV X0 g 13 (yQ X0 g (SC g) (yPv (fun n' σ' => n' = n ∧ fR 16 17 σ σ' ∧ σ' 155 16 = sSh w h T S s we sh x y u v way ∧ σ' 155 17 = sBo w h T S s we sh x y u v way)) (rmL 4)) (SC g) n σ 0 0 155 [(0, yR g 155), (1, yI (z : Int)), (2, yI x), (3, yI y), (4, yI u), (5, yI v), (6, yI way), (7, yJ a), (9, yJ c), (11, yI j)] [yI b, yR g 155] := by
          intro b  zb
          have zbc1 : b * c ≤ 255 * c := Int.mul_le_mul_of_nonneg_right (by omega) (by omega)
          have zbc2 : -255 * c ≤ b * c := Int.mul_le_mul_of_nonneg_right (by omega) (by omega)
          have zd : -1000000 ≤ a - b * c ∧ a - b * c ≤ 1000000 := by omega
          refine y_putf (pc := 155) (ci := 11) (σ' := yset σ 155 16 b) (sch' := (SC g)) hF dX11_bounds_155 (by omega) rfl rfl rfl iX11 16 (by decide) w_1263 tyX11 tyX11_ok nmX11 rfl rfl rfl rfl (Nat.le_of_ble_eq_true rfl) rfl (y_ps rfl) (fun k' h => ⟨yset_n h, rfl⟩) ?_
          refine y_lload (pc := 158) hF dX11_bounds_158 7 rfl ?_
          refine y_aload_n (pc := 160) hF dX11_bounds_160 0 rfl ?_
          refine y_get (pc := 161) (ci := 11) hF dX11_bounds_161 (by omega) rfl rfl rfl iX11 16 (by decide) w_1263 rfl ?_
          rw [show (yset σ 155 16 b) 155 16 = b from (yset_e _ _ _ _)]
          refine y_i2l (pc := 164) hF dX11_bounds_164 (by omega) ?_
          refine y_lload (pc := 165) hF dX11_bounds_165 8 rfl ?_
          refine y_lmul (pc := 167) hF dX11_bounds_167 ?_
          refine y_lsub (pc := 168) hF dX11_bounds_168 ?_
          refine y_lstore (pc := 169) (lv' := [(0, yR g 155), (1, yI (z : Int)), (2, yI x), (3, yI y), (4, yI u), (5, yI v), (6, yI way), (7, yJ (a - (b * c))), (9, yJ c), (11, yI j)]) hF dX11_bounds_169 (by decide) rfl rfl rfl ?_
          refine y_aload_n (pc := 171) hF dX11_bounds_171 0 rfl ?_
          refine y_lload (pc := 172) hF dX11_bounds_172 8 rfl ?_
          refine y_lconst (pc := 174) (v := 0) hF dX11_bounds_174 rfl ?_
          refine y_lcmp (pc := 175) hF dX11_bounds_175 (by omega) (by omega) ?_
          refine y_if_ne (pc := 176) hF dX11_bounds_176 183 rfl ycmp_r (fun zc176 => ?_) (fun zc176 => ?_)
          · skip
            refine y_lload (pc := 183) hF dX11_bounds_183 7 rfl ?_
            refine y_lload (pc := 185) hF dX11_bounds_185 7 rfl ?_
            refine y_lmul (pc := 187) hF dX11_bounds_187 ?_
            refine y_lload (pc := 188) hF dX11_bounds_188 8 rfl ?_
            refine y_ldiv (pc := 190) hF dX11_bounds_190 (y_sqL zd) (by omega) (ycmp_n0 zc176) ?_
            refine y_l2i (pc := 191) hF dX11_bounds_191 ?_
            refine y_putf (pc := 192) (ci := 11) (σ' := yset (yset σ 155 16 b) 155 17 (Int.tdiv ((a - (b * c)) * (a - (b * c))) c)) (sch' := (SC g)) hF dX11_bounds_192 (by omega) rfl rfl rfl iX11 17 (by decide) w_1264 tyX11 tyX11_ok nmX11 rfl rfl rfl rfl (Nat.le_of_ble_eq_true rfl) rfl (y_ps rfl) (fun k' h => ⟨yset_n h, rfl⟩) ?_
            exact y_vret (pc := 195) hF dX11_bounds_195 (Nat.zero_le _) (Nat.zero_le _) ⟨rfl, rfl, ((fR.rf σ).st (by omega)).st (by omega), by simp [yset_ap]; exact zb, by simp only [yset_e]; unfold sBo; rw [← ze1, ← ze2, ← zb]; rw [if_neg (ycmp_n0 zc176)]⟩
          · skip
            refine y_iconst (pc := 179) hF dX11_bounds_179 ?_
            refine y_goto (pc := 180) hF dX11_bounds_180 192 rfl ?_
            refine y_putf (pc := 192) (ci := 11) (σ' := yset (yset σ 155 16 b) 155 17 0) (sch' := (SC g)) hF dX11_bounds_192 (by omega) rfl rfl rfl iX11 17 (by decide) w_1264 tyX11 tyX11_ok nmX11 rfl rfl rfl rfl (Nat.le_of_ble_eq_true rfl) rfl (y_ps rfl) (fun k' h => ⟨yset_n h, rfl⟩) ?_
            exact y_vret (pc := 195) hF dX11_bounds_195 (Nat.zero_le _) (Nat.zero_le _) ⟨rfl, rfl, ((fR.rf σ).st (by omega)).st (by omega), by simp [yset_ap]; exact zb, by simp only [yset_e]; unfold sBo; rw [← ze1, ← ze2, ← zb]; rw [if_pos (ycmp_0 zc176)]⟩
        refine y_aload_n (pc := 127) hF dX11_bounds_127 0 rfl ?_
        refine y_aload_n (pc := 128) hF dX11_bounds_128 0 rfl ?_
        refine y_get (pc := 129) (ci := 11) hF dX11_bounds_129 (by omega) rfl rfl rfl iX11 10 (by decide) w_1257 rfl ?_
        refine y_bipush (pc := 132) hF dX11_bounds_132 (by decide) ?_
        refine y_iaload (pc := 134) hF dX11_bounds_134 (by omega) rfl (by omega) (by decide) ?_
        rw [show σ 166 6 = sh from hS.1.2.2.2.2.2.2]
        refine y_if_eq (pc := 135) hF dX11_bounds_135 145 rfl (by omega) (fun zc135 => ?_) (fun zc135 => ?_)
        · skip
          refine y_iconst (pc := 145) hF dX11_bounds_145 ?_
          refine y_goto (pc := 146) hF dX11_bounds_146 155 rfl ?_
          exact zJ155 (0) (by unfold sSh; rw [if_pos (Or.inl zc135)])
        · skip
          refine y_lload (pc := 138) hF dX11_bounds_138 8 rfl ?_
          refine y_lconst (pc := 140) (v := 0) hF dX11_bounds_140 rfl ?_
          refine y_lcmp (pc := 141) hF dX11_bounds_141 (by omega) (by omega) ?_
          refine y_if_ne (pc := 142) hF dX11_bounds_142 149 rfl ycmp_r (fun zc142 => ?_) (fun zc142 => ?_)
          · skip
            refine y_lload (pc := 149) hF dX11_bounds_149 7 rfl ?_
            refine y_lload (pc := 151) hF dX11_bounds_151 8 rfl ?_
            refine y_ldiv (pc := 153) hF dX11_bounds_153 (by omega) (by omega) (ycmp_n0 zc142) ?_
            refine y_l2i (pc := 154) hF dX11_bounds_154 ?_
            exact zJ155 (Int.tdiv a c) (by unfold sSh; rw [if_neg (by rw [← ze2]; exact fun zq => zq.elim zc135 (ycmp_n0 zc142)), ze1, ze2])
          · skip
            refine y_iconst (pc := 145) hF dX11_bounds_145 ?_
            refine y_goto (pc := 146) hF dX11_bounds_146 155 rfl ?_
            exact zJ155 (0) (by unfold sSh; rw [if_pos (Or.inr (by rw [← ze2]; exact ycmp_0 zc142))])
      · skip
        refine y_iload_n (pc := 29) hF dX11_bounds_29 2 rfl ?_
        refine y_aload_n (pc := 30) hF dX11_bounds_30 0 rfl ?_
        refine y_get (pc := 31) (ci := 11) hF dX11_bounds_31 (by omega) rfl rfl rfl iX11 10 (by decide) w_1257 rfl ?_
        refine y_iconst (pc := 34) hF dX11_bounds_34 ?_
        refine y_iaload (pc := 35) hF dX11_bounds_35 (by omega) rfl (by omega) (by decide) ?_
        rw [show σ 166 0 = s from hS.1.1]
        refine y_isub (pc := 36) hF dX11_bounds_36 ?_
        refine y_istore (pc := 37) (lv' := [(0, yR g 155), (1, yI (z : Int)), (2, yI x), (3, yI y), (4, yI u), (5, yI v), (6, yI way), (7, yJ a), (9, yJ c), (11, yI j), (12, yI (x - s))]) hF dX11_bounds_37 (by decide) rfl rfl ?_
        have zL39 : ∀ (N : Nat) (i a2 c2 : Int), N = (x + s + 1 - i).toNat → ((x - s ≤ i ∧ i ≤ x + s + 1) ∧ (-(255 * c2) ≤ a2 ∧ a2 ≤ 255 * c2) ∧ (0 ≤ c2 ∧ c2 ≤ c + 5 * (i - (x - s))) ∧ (a2, c2) = fr (fun q i => bdF w h T S we x y u v way q i j) (x - s) (i - (x - s)).toNat (a, c)) → yV X0 g 13 (yQ X0 g (SC g) (yPv (fun n' σ' => n' = n ∧ fR 16 17 σ σ' ∧ σ' 155 16 = sSh w h T S s we sh x y u v way ∧ σ' 155 17 = sBo w h T S s we sh x y u v way)) (rmL 4)) (SC g) n σ 0 0 39 [(0, yR g 155), (1, yI (z : Int)), (2, yI x), (3, yI y), (4, yI u), (5, yI v), (6, yI way), (7, yJ a2), (9, yJ c2), (11, yI j), (12, yI i)] [] := by
          intro N
          induction N using Nat.strongRecOn with
          | ind N zh39 =>
            intro i a2 c2  zN39 zI39
            refine y_iload (pc := 39) hF dX11_bounds_39 10 rfl ?_
            refine y_iload_n (pc := 41) hF dX11_bounds_41 2 rfl ?_
            refine y_aload_n (pc := 42) hF dX11_bounds_42 0 rfl ?_
            refine y_get (pc := 43) (ci := 11) hF dX11_bounds_43 (by omega) rfl rfl rfl iX11 10 (by decide) w_1257 rfl ?_
            refine y_iconst (pc := 46) hF dX11_bounds_46 ?_
            refine y_iaload (pc := 47) hF dX11_bounds_47 (by omega) rfl (by omega) (by decide) ?_
            rw [show σ 166 0 = s from hS.1.1]
            refine y_iadd (pc := 48) hF dX11_bounds_48 ?_
            refine y_icmp_gt (pc := 49) hF dX11_bounds_49 121 rfl (by omega) (by omega) (fun zc49 => ?_) (fun zc49 => ?_)
            · skip
              refine y_iinc (pc := 121) (lv' := [(0, yR g 155), (1, yI (z : Int)), (2, yI x), (3, yI y), (4, yI u), (5, yI v), (6, yI way), (7, yJ a2), (9, yJ c2), (11, yI (j + 1)), (12, yI i)]) hF dX11_bounds_121 9 rfl (by decide) rfl rfl ?_
              refine y_goto (pc := 124) hF dX11_bounds_124 16 rfl ?_
              refine y_sub [0, 1, 2, 3, 4, 5, 6, 7, 8, 9] rfl ?_
              exact zh16 _ (by omega) (j + 1) (a2) (c2) rfl ⟨by omega, by omega, by omega, by rw [fr_up' _ _ zI16.1.1, ← zI16.2.2.2, zI39.2.2.2, show i - (x - s) = 2 * s + 1 by omega]⟩
            · skip
              refine y_aload_n (pc := 52) hF dX11_bounds_52 0 rfl ?_
              refine y_iload_n (pc := 53) hF dX11_bounds_53 1 rfl ?_
              refine y_iload (pc := 54) hF dX11_bounds_54 10 rfl ?_
              refine y_iload (pc := 56) hF dX11_bounds_56 9 rfl ?_
              refine y_cp (y_rV (pc := 58) hF (tX11_isKnown z w h T S F P O hn hz hA i j (by omega) (by omega)) dX11_bounds_58 (by omega) rfl rfl rfl w_1440 qX11_isKnown rfl ⟨Nat.le_of_ble_eq_true rfl, Nat.le_of_ble_eq_true rfl⟩ ⟨Nat.zero_le _, Nat.zero_le _⟩ (Nat.le_of_ble_eq_true rfl) rfl) ?_
              refine y_if_ne (pc := 61) hF dX11_bounds_61 67 rfl bi_r (fun zc61 => ?_) (fun zc61 => ?_)
              · replace zc61 := bi_n0.mp zc61
                have zw := sWt_bd (we := we) (hA.1.S i j (sKn_in zc61))
                have zp := sAp_bd hA.1 (way := way) (x := x) (y := y) hq zc61 (by omega) (by omega)
                have zm1 : sAp T x y i j u v way * sWt S we i j ≤ 255 * sWt S we i j := Int.mul_le_mul_of_nonneg_right zp.2 (by omega)
                have zm2 : -255 * sWt S we i j ≤ sAp T x y i j u v way * sWt S we i j := Int.mul_le_mul_of_nonneg_right zp.1 (by omega)
                refine y_lload (pc := 67) hF dX11_bounds_67 7 rfl ?_
                refine y_aload_n (pc := 69) hF dX11_bounds_69 0 rfl ?_
                refine y_iload_n (pc := 70) hF dX11_bounds_70 1 rfl ?_
                refine y_iload_n (pc := 71) hF dX11_bounds_71 2 rfl ?_
                refine y_iload_n (pc := 72) hF dX11_bounds_72 3 rfl ?_
                refine y_iload (pc := 73) hF dX11_bounds_73 10 rfl ?_
                refine y_iload (pc := 75) hF dX11_bounds_75 9 rfl ?_
                refine y_iload (pc := 77) hF dX11_bounds_77 4 rfl ?_
                refine y_iload (pc := 79) hF dX11_bounds_79 5 rfl ?_
                refine y_iload (pc := 81) hF dX11_bounds_81 6 rfl ?_
                refine y_cp (y_rV (pc := 83) hF (tX11_apart z w h T S F P O hn hz hA x y i j u v way (by omega) (sKn_in zc61) (sKn_in (hq.at (by omega) (by omega)))) dX11_bounds_83 (by omega) rfl rfl rfl w_1557 qX11_apart rfl ⟨Nat.le_of_ble_eq_true rfl, Nat.le_of_ble_eq_true rfl⟩ ⟨Nat.zero_le _, Nat.zero_le _⟩ (Nat.le_of_ble_eq_true rfl) rfl) ?_
                refine y_aload_n (pc := 86) hF dX11_bounds_86 0 rfl ?_
                refine y_iload_n (pc := 87) hF dX11_bounds_87 1 rfl ?_
                refine y_iload (pc := 88) hF dX11_bounds_88 10 rfl ?_
                refine y_iload (pc := 90) hF dX11_bounds_90 9 rfl ?_
                refine y_cp (y_rV (pc := 92) hF (tX11_weight z w h T S F P O s re fo ra tu we sh hn hz hA hS i j (sKn_in zc61)) dX11_bounds_92 (by omega) rfl rfl rfl w_1567 qX11_weight rfl ⟨Nat.le_of_ble_eq_true rfl, Nat.le_of_ble_eq_true rfl⟩ ⟨Nat.zero_le _, Nat.zero_le _⟩ (Nat.le_of_ble_eq_true rfl) rfl) ?_
                refine y_imul (pc := 95) hF dX11_bounds_95 ?_
                refine y_i2l (pc := 96) hF dX11_bounds_96 (by omega) ?_
                refine y_ladd (pc := 97) hF dX11_bounds_97 ?_
                refine y_lstore (pc := 98) (lv' := [(0, yR g 155), (1, yI (z : Int)), (2, yI x), (3, yI y), (4, yI u), (5, yI v), (6, yI way), (7, yJ (a2 + ((sAp T x y i j u v way) * (sWt S we i j)))), (9, yJ c2), (11, yI j), (12, yI i)]) hF dX11_bounds_98 (by decide) rfl rfl rfl ?_
                refine y_lload (pc := 100) hF dX11_bounds_100 8 rfl ?_
                refine y_aload_n (pc := 102) hF dX11_bounds_102 0 rfl ?_
                refine y_iload_n (pc := 103) hF dX11_bounds_103 1 rfl ?_
                refine y_iload (pc := 104) hF dX11_bounds_104 10 rfl ?_
                refine y_iload (pc := 106) hF dX11_bounds_106 9 rfl ?_
                refine y_cp (y_rV (pc := 108) hF (tX11_weight z w h T S F P O s re fo ra tu we sh hn hz hA hS i j (sKn_in zc61)) dX11_bounds_108 (by omega) rfl rfl rfl w_1567 qX11_weight rfl ⟨Nat.le_of_ble_eq_true rfl, Nat.le_of_ble_eq_true rfl⟩ ⟨Nat.zero_le _, Nat.zero_le _⟩ (Nat.le_of_ble_eq_true rfl) rfl) ?_
                refine y_i2l (pc := 111) hF dX11_bounds_111 (by omega) ?_
                refine y_ladd (pc := 112) hF dX11_bounds_112 ?_
                refine y_lstore (pc := 113) (lv' := [(0, yR g 155), (1, yI (z : Int)), (2, yI x), (3, yI y), (4, yI u), (5, yI v), (6, yI way), (7, yJ (a2 + ((sAp T x y i j u v way) * (sWt S we i j)))), (9, yJ (c2 + (sWt S we i j))), (11, yI j), (12, yI i)]) hF dX11_bounds_113 (by decide) rfl rfl rfl ?_
                refine y_iinc (pc := 115) (lv' := [(0, yR g 155), (1, yI (z : Int)), (2, yI x), (3, yI y), (4, yI u), (5, yI v), (6, yI way), (7, yJ (a2 + ((sAp T x y i j u v way) * (sWt S we i j)))), (9, yJ (c2 + (sWt S we i j))), (11, yI j), (12, yI (i + 1))]) hF dX11_bounds_115 10 rfl (by decide) rfl rfl ?_
                refine y_goto (pc := 118) hF dX11_bounds_118 39 rfl ?_
                exact zh39 _ (by omega) (i + 1) (a2 + ((sAp T x y i j u v way) * (sWt S we i j))) (c2 + (sWt S we i j)) rfl ⟨by omega, by omega, by omega, by rw [fr_up' _ _ zI39.1.1, ← zI39.2.2.2]; simp [bdF, zc61]⟩
              · replace zc61 := bi_0.mp zc61
                refine y_goto (pc := 64) hF dX11_bounds_64 115 rfl ?_
                refine y_iinc (pc := 115) (lv' := [(0, yR g 155), (1, yI (z : Int)), (2, yI x), (3, yI y), (4, yI u), (5, yI v), (6, yI way), (7, yJ a2), (9, yJ c2), (11, yI j), (12, yI (i + 1))]) hF dX11_bounds_115 10 rfl (by decide) rfl rfl ?_
                refine y_goto (pc := 118) hF dX11_bounds_118 39 rfl ?_
                exact zh39 _ (by omega) (i + 1) (a2) (c2) rfl ⟨by omega, by omega, by omega, by rw [fr_up' _ _ zI39.1.1, ← zI39.2.2.2]; simp [bdF, zc61]⟩
        exact zL39 _ (x - s) (a) (c) rfl ⟨by omega, by omega, by omega, (fr_no _ _ _).symm⟩
  exact zL16 _ (y - s) (0) (0) rfl ⟨by omega, by omega, by omega, (fr_no _ _ _).symm⟩
