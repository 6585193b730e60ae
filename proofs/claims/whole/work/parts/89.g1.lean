theorem dX10_reach_0 : decode cX10_reach 0 = .ok (.aload_n 0, 1) := by decide +kernel
theorem dX10_reach_1 : decode cX10_reach 1 = .ok (.iload_n 1, 1) := by decide +kernel
theorem dX10_reach_2 : decode cX10_reach 2 = .ok (.iload_n 2, 1) := by decide +kernel
theorem dX10_reach_3 : decode cX10_reach 3 = .ok (.invokevirtual 156, 3) := by decide +kernel
theorem dX10_reach_6 : decode cX10_reach 6 = .ok (.aload_n 0, 1) := by decide +kernel
theorem dX10_reach_7 : decode cX10_reach 7 = .ok (.iload_n 3, 1) := by decide +kernel
theorem dX10_reach_8 : decode cX10_reach 8 = .ok (.ifCond .eq 8, 3) := by decide +kernel
theorem dX10_reach_11 : decode cX10_reach 11 = .ok (.iload_n 3, 1) := by decide +kernel
theorem dX10_reach_12 : decode cX10_reach 12 = .ok (.iconst 1, 1) := by decide +kernel
theorem dX10_reach_13 : decode cX10_reach 13 = .ok (.if_icmp .ne 7, 3) := by decide +kernel
theorem dX10_reach_16 : decode cX10_reach 16 = .ok (.iconst 1, 1) := by decide +kernel
theorem dX10_reach_17 : decode cX10_reach 17 = .ok (.goto 4, 3) := by decide +kernel
theorem dX10_reach_20 : decode cX10_reach 20 = .ok (.iconst 0, 1) := by decide +kernel
theorem dX10_reach_21 : decode cX10_reach 21 = .ok (.invokevirtual 110, 3) := by decide +kernel
theorem dX10_reach_24 : decode cX10_reach 24 = .ok (.aload_n 0, 1) := by decide +kernel
theorem dX10_reach_25 : decode cX10_reach 25 = .ok (.getfield 83, 3) := by decide +kernel
theorem dX10_reach_28 : decode cX10_reach 28 = .ok (.aload_n 0, 1) := by decide +kernel
theorem dX10_reach_29 : decode cX10_reach 29 = .ok (.getfield 19, 3) := by decide +kernel
theorem dX10_reach_32 : decode cX10_reach 32 = .ok (.invokevirtual 394, 3) := by decide +kernel
theorem dX10_reach_35 : decode cX10_reach 35 = .ok (.aload_n 0, 1) := by decide +kernel
theorem dX10_reach_36 : decode cX10_reach 36 = .ok (.getfield 83, 3) := by decide +kernel
theorem dX10_reach_39 : decode cX10_reach 39 = .ok (.bipush 20, 2) := by decide +kernel
theorem dX10_reach_41 : decode cX10_reach 41 = .ok (.putfield 211, 3) := by decide +kernel
theorem dX10_reach_44 : decode cX10_reach 44 = .ok (.aload_n 0, 1) := by decide +kernel
theorem dX10_reach_45 : decode cX10_reach 45 = .ok (.getfield 63, 3) := by decide +kernel
theorem dX10_reach_48 : decode cX10_reach 48 = .ok (.aload_n 0, 1) := by decide +kernel
theorem dX10_reach_49 : decode cX10_reach 49 = .ok (.getfield 26, 3) := by decide +kernel
theorem dX10_reach_52 : decode cX10_reach 52 = .ok (.aload_n 0, 1) := by decide +kernel
theorem dX10_reach_53 : decode cX10_reach 53 = .ok (.getfield 83, 3) := by decide +kernel
theorem dX10_reach_56 : decode cX10_reach 56 = .ok (.iload_n 1, 1) := by decide +kernel
theorem dX10_reach_57 : decode cX10_reach 57 = .ok (.iload_n 2, 1) := by decide +kernel
theorem dX10_reach_58 : decode cX10_reach 58 = .ok (.invokevirtual 297, 3) := by decide +kernel
theorem dX10_reach_61 : decode cX10_reach 61 = .ok (.iload_n 3, 1) := by decide +kernel
theorem dX10_reach_62 : decode cX10_reach 62 = .ok (.ifCond .ne 11, 3) := by decide +kernel
theorem dX10_reach_65 : decode cX10_reach 65 = .ok (.aload_n 0, 1) := by decide +kernel
theorem dX10_reach_66 : decode cX10_reach 66 = .ok (.getfield 63, 3) := by decide +kernel
theorem dX10_reach_69 : decode cX10_reach 69 = .ok (.invokevirtual 397, 3) := by decide +kernel
theorem dX10_reach_72 : decode cX10_reach 72 = .ok (.ireturn, 1) := by decide +kernel
theorem dX10_reach_73 : decode cX10_reach 73 = .ok (.aload_n 0, 1) := by decide +kernel
theorem dX10_reach_74 : decode cX10_reach 74 = .ok (.getfield 63, 3) := by decide +kernel
theorem dX10_reach_77 : decode cX10_reach 77 = .ok (.invokevirtual 300, 3) := by decide +kernel
theorem dX10_reach_80 : decode cX10_reach 80 = .ok (.aload_n 0, 1) := by decide +kernel
theorem dX10_reach_81 : decode cX10_reach 81 = .ok (.getfield 63, 3) := by decide +kernel
theorem dX10_reach_84 : decode cX10_reach 84 = .ok (.getfield 303, 3) := by decide +kernel
theorem dX10_reach_87 : decode cX10_reach 87 = .ok (.iconst (-1), 1) := by decide +kernel
theorem dX10_reach_88 : decode cX10_reach 88 = .ok (.if_icmp .ne 7, 3) := by decide +kernel
theorem dX10_reach_91 : decode cX10_reach 91 = .ok (.iconst (-1), 1) := by decide +kernel
theorem dX10_reach_92 : decode cX10_reach 92 = .ok (.goto 17, 3) := by decide +kernel
theorem dX10_reach_95 : decode cX10_reach 95 = .ok (.aload_n 0, 1) := by decide +kernel
theorem dX10_reach_96 : decode cX10_reach 96 = .ok (.getfield 63, 3) := by decide +kernel
theorem dX10_reach_99 : decode cX10_reach 99 = .ok (.aload_n 0, 1) := by decide +kernel
theorem dX10_reach_100 : decode cX10_reach 100 = .ok (.getfield 63, 3) := by decide +kernel
theorem dX10_reach_103 : decode cX10_reach 103 = .ok (.getfield 303, 3) := by decide +kernel
theorem dX10_reach_106 : decode cX10_reach 106 = .ok (.invokevirtual 400, 3) := by decide +kernel
theorem dX10_reach_109 : decode cX10_reach 109 = .ok (.ireturn, 1) := by decide +kernel
set_option maxHeartbeats 4000000 in
set_option maxRecDepth 100000 in
theorem tX10_reach {l : Launch} {g : yG} {n : Nat} {σ : yM} (hlt : l.stackTraces = false) (hn : 172 ≤ n) (w h : Int) (T S F P O : Int → Int → Int) (nf df nl : Int) (lg : Int → Int → Int) (s re fo ra tu we sh : Int) (H : List aX) (ht : Bool) (K : Int → Int → Int) (tl : Int) (tb : Int → Int) (fa r1 r2 N : Int) (hV : cV σ (w, h, (T, S, F, P, O, nf, df, nl, lg), (s, re, fo, ra, tu, we, sh), H, ht, K, tl, tb, fa, r1, r2)) (hW : aW N (w, h, (T, S, F, P, O, nf, df, nl, lg), (s, re, fo, ra, tu, we, sh), H, ht, K, tl, tb, fa, r1, r2)) (x y a : Int) (hx : -2147483648 ≤ x ∧ x < 2147483648) (hy : -2147483648 ≤ y ∧ y < 2147483648) (ha : -2147483648 ≤ a ∧ a < 2147483648) : yMX l g yX10_reach cX10_reach 4 (some .int) (rmA 8 4 24) [yR g 0, yI x, yI y, yI a] (SC g) n σ (SC g) (yPi (fun zv n' σ' => n ≤ n' ∧ ((sIn w h x y = true) ∧ (a = 0 ∨ a = 1)) ∧ zv = reV w h T S F s fo tu we sh x y a ∧ cV σ' (w, h, (T, S, F, P, O, nf, df, nl, lg), (s, re, fo, ra, tu, we, sh), H, ht, K, tl, tb, fa, r1, r2) ∧ cF σ σ')) (fun E n' σ' => n ≤ n' ∧ ((E = eN ∧ ¬ (sIn w h x y = true) ∧ cV σ' (bN (w, h, (T, S, F, P, O, nf, df, nl, lg), (s, re, fo, ra, tu, we, sh), H, ht, K, tl, tb, fa, r1, r2))) ∨ (E = eA ∧ (sIn w h x y = true) ∧ ¬ (a = 0 ∨ a = 1) ∧ cV σ' (bA (w, h, (T, S, F, P, O, nf, df, nl, lg), (s, re, fo, ra, tu, we, sh), H, ht, K, tl, tb, fa, r1, r2)))) ∧ cF σ σ') := by
  obtain ⟨⟨hA, hJ⟩, hS, hH, ⟨hb1, hb2⟩, ⟨ht1, ht2⟩, hfa, hr1, hr2, hT⟩ := id hV
  obtain ⟨hw1, hw2, hw3, hw4⟩ := id hA.1.1
  obtain ⟨hs1, hs2, hs3, hs4, hs5, hs6, hs7⟩ := id hS.2
  have z128 : 128 < n := by omega
  have z129 : 129 < n := by omega
  have z130 : 130 < n := by omega
  refine y_startX (by decide) (Nat.le_of_ble_eq_true rfl) (fun X0 hX => ?_)
  have hF := hX.1
  show yV X0 g 4 (yQX X0 g (SC g) (yPi (fun zv n' σ' => n ≤ n' ∧ ((sIn w h x y = true) ∧ (a = 0 ∨ a = 1)) ∧ zv = reV w h T S F s fo tu we sh x y a ∧ cV σ' (w, h, (T, S, F, P, O, nf, df, nl, lg), (s, re, fo, ra, tu, we, sh), H, ht, K, tl, tb, fa, r1, r2) ∧ cF σ σ')) (fun E n' σ' => n ≤ n' ∧ ((E = eN ∧ ¬ (sIn w h x y = true) ∧ cV σ' (bN (w, h, (T, S, F, P, O, nf, df, nl, lg), (s, re, fo, ra, tu, we, sh), H, ht, K, tl, tb, fa, r1, r2))) ∨ (E = eA ∧ (sIn w h x y = true) ∧ ¬ (a = 0 ∨ a = 1) ∧ cV σ' (bA (w, h, (T, S, F, P, O, nf, df, nl, lg), (s, re, fo, ra, tu, we, sh), H, ht, K, tl, tb, fa, r1, r2)))) ∧ cF σ σ') (rmA 8 4 24)) (SC g) n σ 0 0 0 [(0, yR g 0), (1, yI x), (2, yI y), (3, yI a)] []
  refine y_aload_n (pc := 0) hF dX10_reach_0 0 rfl ?_
  refine y_iload_n (pc := 1) hF dX10_reach_1 1 rfl ?_
  refine y_iload_n (pc := 2) hF dX10_reach_2 2 rfl ?_
  refine y_contX (cells' := 0 + 1) (slots' := 0 + 6) hX (y_rVX (pc := 3) hX (tX10_demandDot hlt hn w h T S F P O hA x y (by omega) (by omega)) dX10_reach_3 (by omega) rfl rfl rfl w_752 qX10_demandDot rfl ⟨Nat.le_of_ble_eq_true rfl, Nat.le_of_ble_eq_true rfl⟩ ⟨Nat.le_of_ble_eq_true rfl, Nat.le_of_ble_eq_true rfl⟩ (Nat.le_of_ble_eq_true rfl) rfl) rfl rfl ⟨Nat.le_of_ble_eq_true rfl, Nat.le_of_ble_eq_true rfl⟩ (fun E n' σ' zx => ⟨zx.2.1, Or.inl ⟨zx.1, by rw [zx.2.2.1]; decide, by rw [zx.2.2.2]; exact hV.bN⟩, by rw [zx.2.2.2]; exact cF_N⟩) (fun r3 n' σ3 zp3 => ?_)
  obtain ⟨zr3, zp3⟩ := zp3
  subst zr3
  obtain ⟨zn3, zs3, zb3⟩ := zp3
  have zs3 := zs3.symm
  subst zs3
  have zn3 := zn3.symm
  subst zn3
  skip
  show yV X0 g 4 (yQX X0 g (SC g) (yPi (fun zv n' σ' => n ≤ n' ∧ ((sIn w h x y = true) ∧ (a = 0 ∨ a = 1)) ∧ zv = reV w h T S F s fo tu we sh x y a ∧ cV σ' (w, h, (T, S, F, P, O, nf, df, nl, lg), (s, re, fo, ra, tu, we, sh), H, ht, K, tl, tb, fa, r1, r2) ∧ cF σ σ')) (fun E n' σ' => n ≤ n' ∧ ((E = eN ∧ ¬ (sIn w h x y = true) ∧ cV σ' (bN (w, h, (T, S, F, P, O, nf, df, nl, lg), (s, re, fo, ra, tu, we, sh), H, ht, K, tl, tb, fa, r1, r2))) ∨ (E = eA ∧ (sIn w h x y = true) ∧ ¬ (a = 0 ∨ a = 1) ∧ cV σ' (bA (w, h, (T, S, F, P, O, nf, df, nl, lg), (s, re, fo, ra, tu, we, sh), H, ht, K, tl, tb, fa, r1, r2)))) ∧ cF σ σ') (rmA 8 4 24)) (SC g) n σ (0 + 1) (0 + 6) 6 [(0, yR g 0), (1, yI x), (2, yI y), (3, yI a)] []
  have zJ21 : ∀ (zb : Bool), (zb = decide (a = 0 ∨ a = 1)) → yV X0 g 4 (yQX X0 g (SC g) (yPi (fun zv n' σ' => n ≤ n' ∧ ((sIn w h x y = true) ∧ (a = 0 ∨ a = 1)) ∧ zv = reV w h T S F s fo tu we sh x y a ∧ cV σ' (w, h, (T, S, F, P, O, nf, df, nl, lg), (s, re, fo, ra, tu, we, sh), H, ht, K, tl, tb, fa, r1, r2) ∧ cF σ σ')) (fun E n' σ' => n ≤ n' ∧ ((E = eN ∧ ¬ (sIn w h x y = true) ∧ cV σ' (bN (w, h, (T, S, F, P, O, nf, df, nl, lg), (s, re, fo, ra, tu, we, sh), H, ht, K, tl, tb, fa, r1, r2))) ∨ (E = eA ∧ (sIn w h x y = true) ∧ ¬ (a = 0 ∨ a = 1) ∧ cV σ' (bA (w, h, (T, S, F, P, O, nf, df, nl, lg), (s, re, fo, ra, tu, we, sh), H, ht, K, tl, tb, fa, r1, r2)))) ∧ cF σ σ') (rmA 8 4 24)) (SC g) n σ (0 + 1) (0 + 6) 21 [(0, yR g 0), (1, yI x), (2, yI y), (3, yI a)] [yI (bi zb), yR g 0] := by
    intro zb  zhb
    refine y_contX (cells' := 0 + 1 + 1) (slots' := 0 + 6 + 6) hX (y_rVX (pc := 21) hX (tX10_demand hlt hn zb) dX10_reach_21 (by omega) rfl rfl rfl w_611 qX10_demand rfl ⟨Nat.le_of_ble_eq_true rfl, Nat.le_of_ble_eq_true rfl⟩ ⟨Nat.le_of_ble_eq_true rfl, Nat.le_of_ble_eq_true rfl⟩ (Nat.le_of_ble_eq_true rfl) rfl) rfl rfl ⟨Nat.le_of_ble_eq_true rfl, Nat.le_of_ble_eq_true rfl⟩ (fun E n' σ' zx => ⟨zx.2.1, Or.inr ⟨zx.1, zb3, by have zq := zx.2.2.1; rw [zhb] at zq; simpa using zq, by rw [zx.2.2.2]; exact hV.bA⟩, by rw [zx.2.2.2]; exact cF_N⟩) (fun r21 n' σ21 zp21 => ?_)
    obtain ⟨zr21, zp21⟩ := zp21
    subst zr21
    obtain ⟨zn21, zs21, zb21⟩ := zp21
    have zs21 := zs21.symm
    subst zs21
    have zn21 := zn21.symm
    subst zn21
    skip
    show yV X0 g 4 (yQX X0 g (SC g) (yPi (fun zv n' σ' => n ≤ n' ∧ ((sIn w h x y = true) ∧ (a = 0 ∨ a = 1)) ∧ zv = reV w h T S F s fo tu we sh x y a ∧ cV σ' (w, h, (T, S, F, P, O, nf, df, nl, lg), (s, re, fo, ra, tu, we, sh), H, ht, K, tl, tb, fa, r1, r2) ∧ cF σ σ')) (fun E n' σ' => n ≤ n' ∧ ((E = eN ∧ ¬ (sIn w h x y = true) ∧ cV σ' (bN (w, h, (T, S, F, P, O, nf, df, nl, lg), (s, re, fo, ra, tu, we, sh), H, ht, K, tl, tb, fa, r1, r2))) ∨ (E = eA ∧ (sIn w h x y = true) ∧ ¬ (a = 0 ∨ a = 1) ∧ cV σ' (bA (w, h, (T, S, F, P, O, nf, df, nl, lg), (s, re, fo, ra, tu, we, sh), H, ht, K, tl, tb, fa, r1, r2)))) ∧ cF σ σ') (rmA 8 4 24)) (SC g) n σ (0 + 1 + 1) (0 + 6 + 6) 24 [(0, yR g 0), (1, yI x), (2, yI y), (3, yI a)] []
    have zok : (sIn w h x y = true) ∧ (a = 0 ∨ a = 1) := ⟨zb3, by have zq := zb21; rw [zhb] at zq; simpa using zq⟩
    have zi := sIn_iff.mp zb3
    refine y_aload_n (pc := 24) hF dX10_reach_24 0 rfl ?_
    refine y_get (pc := 25) (ci := 10) hF dX10_reach_25 (by omega) rfl rfl rfl iX10 11 (by decide) w_498 rfl ?_
    refine y_aload_n (pc := 28) hF dX10_reach_28 0 rfl ?_
    refine y_get (pc := 29) (ci := 10) hF dX10_reach_29 (by omega) rfl rfl rfl iX10 1 (by decide) w_488 rfl ?_
    refine y_cv (y_rV (pc := 32) hF (tX7_copyFrom 146 4 hn set_146 set_4 (by omega)) dX10_reach_32 (by omega) rfl rfl rfl w_1145 qX7_copyFrom rfl ⟨Nat.le_of_ble_eq_true rfl, Nat.le_of_ble_eq_true rfl⟩ ⟨Nat.le_of_ble_eq_true rfl, Nat.le_of_ble_eq_true rfl⟩ (Nat.le_of_ble_eq_true rfl) rfl) rfl rfl (fun n' σ32 zp32 => ?_)
    obtain ⟨zn32, zp32⟩ := zp32
    have zn32 := zn32.symm
    subst zn32
    have zS32 := zp32.2 _ _ _ _ _ _ _ hS
    have zA_σ32 := hA.fc (by omega) zp32.1
    refine y_aload_n (pc := 35) hF dX10_reach_35 0 rfl ?_
    refine y_get (pc := 36) (ci := 10) hF dX10_reach_36 (by omega) rfl rfl rfl iX10 11 (by decide) w_498 rfl ?_
    refine y_bipush (pc := 39) hF dX10_reach_39 (by decide) ?_
    refine y_putfN (pc := 41) (ci := 7) (σ' := yset σ32 146 1 20) (sch' := (SC g)) hF dX10_reach_41 (by omega) rfl rfl rfl iX7 1 (by decide) w_170 tyX7 tyX7_ok nmX7 rfl rfl (by rfl) rfl (Nat.le_of_ble_eq_true rfl) rfl (y_ps rfl) (fun k' h => ⟨yset_n h, rfl⟩) ?_
    obtain ⟨τ1, hτ1⟩ : ∃ s, s = yset σ32 146 1 20 := ⟨_, rfl⟩
    rw [← hτ1]
    have zt9 : ∀ c : Nat, c ≠ 146 → τ1 c = σ32 c := fun c hc => by rw [hτ1, yset_n hc]
    have zA9 := zA_σ32.fr (σ' := τ1) (fun c a b => zt9 c (by omega))
    have zT9 := hT.fr (σ' := τ1) (by rw [zt9 127 (by omega), zp32.1 127 (by omega)])
    have zS9 : rS τ1 146 s 20 fo ra tu we sh := by rw [hτ1]; have zq := rS_set (a := 1) (v := 20) zS32 (by decide); simpa using zq
    refine y_aload_n (pc := 44) hF dX10_reach_44 0 rfl ?_
    refine y_get (pc := 45) (ci := 10) hF dX10_reach_45 (by omega) rfl rfl rfl iX10 8 (by decide) w_495 rfl ?_
    refine y_aload_n (pc := 48) hF dX10_reach_48 0 rfl ?_
    refine y_get (pc := 49) (ci := 10) hF dX10_reach_49 (by omega) rfl rfl rfl iX10 2 (by decide) w_489 rfl ?_
    refine y_aload_n (pc := 52) hF dX10_reach_52 0 rfl ?_
    refine y_get (pc := 53) (ci := 10) hF dX10_reach_53 (by omega) rfl rfl rfl iX10 11 (by decide) w_498 rfl ?_
    refine y_iload_n (pc := 56) hF dX10_reach_56 1 rfl ?_
    refine y_iload_n (pc := 57) hF dX10_reach_57 2 rfl ?_
    refine y_cv (y_rV (pc := 58) hF (tX6_aim 5 146 w h T S F P O s 20 fo ra tu we sh hn pic_5 set_146 zA9 zS9 (by omega) (by omega) zT9 x y zb3) dX10_reach_58 (by omega) rfl rfl rfl w_1048 qX6_aim rfl ⟨Nat.le_of_ble_eq_true rfl, Nat.le_of_ble_eq_true rfl⟩ ⟨Nat.le_of_ble_eq_true rfl, Nat.le_of_ble_eq_true rfl⟩ (Nat.le_of_ble_eq_true rfl) rfl) rfl rfl (fun n' σ58 zp58 => ?_)
    obtain ⟨zn58, zp58⟩ := zp58
    have zn58 := zn58.symm
    subst zn58
    have zA_σ58 := zA9.fc (by omega) zp58.1
    have zS58 := zS9.fc (by omega) zp58.1
    have zf : fc 120 154 σ σ58 := fun c a => by rw [zp58.1 c (by omega), zt9 c (by omega)]; exact zp32.1 c (by omega)
    have zV1 := hV.scr zf (by omega) zp58.2.1.2.1
    refine y_iload_n (pc := 61) hF dX10_reach_61 3 rfl ?_
    refine y_if_ne (pc := 62) hF dX10_reach_62 73 rfl (by omega) (fun zc62 => ?_) (fun zc62 => ?_)
    · skip
      refine y_aload_n (pc := 73) hF dX10_reach_73 0 rfl ?_
      refine y_get (pc := 74) (ci := 10) hF dX10_reach_74 (by omega) rfl rfl rfl iX10 8 (by decide) w_495 rfl ?_
      refine y_cv (y_rV (pc := 77) hF (tX6_scanInReach 5 146 w h T S F P O s 20 fo ra tu we sh hn pic_5 set_146 zA_σ58 zS58 (by omega) (by omega) x y zp58.2.1.1 zb3 zp58.2.1.2.2.1 zp58.2.1.2.2.2 q0 zp58.2.2 (qOk_q0 _ _ _ _) (by decide)) dX10_reach_77 (by omega) rfl rfl rfl w_1049 qX6_scanInReach rfl ⟨Nat.le_of_ble_eq_true rfl, Nat.le_of_ble_eq_true rfl⟩ ⟨Nat.le_of_ble_eq_true rfl, Nat.le_of_ble_eq_true rfl⟩ (Nat.le_of_ble_eq_true rfl) rfl) rfl rfl (fun n' σ77 zp77 => ?_)
      obtain ⟨zn77, zp77⟩ := zp77
      have zn77 := zn77.symm
      subst zn77
      have zA_σ77 := zA_σ58.fc (by omega) zp77.1.fc
      have zS77 := zS58.fc (by omega) zp77.1.fc
      have zB77 := zp58.2.1.1.fr (σ' := σ77) (fun j _ _ => zp77.1 123 j (by omega))
      have zg : fc 120 154 σ σ77 := fun c a => by rw [zp77.1.fc c (by omega)]; exact zf c a
      have zV2 := hV.scr zg (by omega) (zp58.2.1.2.1.fr (zp77.1.fc 127 (by omega)))
      obtain ⟨q, hq⟩ : ∃ q, q = fr2 (scF w h T S F s fo tu we sh x y 20) 0 w.toNat 0 h.toNat q0 := ⟨_, rfl⟩
      rw [← hq] at zp77
      obtain ⟨bx, by_, bw, bs, bd, so, sk, sp, lo⟩ := q
      obtain ⟨zf1, ⟨zq12, zq13, zq14, zq15, zq16, zq17, zq18, zq19⟩, zqo⟩ := zp77
      have zqd := zqo.d
      have zqr := b_r ⟨hw1, hw2⟩ ⟨hw3, hw4⟩ zqd
      have zse : sSe w h T S F s fo tu we sh x y 20 = (bx, by_, bw, bs, bd, so, sk, sp, lo) := hq.symm
      refine y_aload_n (pc := 80) hF dX10_reach_80 0 rfl ?_
      refine y_get (pc := 81) (ci := 10) hF dX10_reach_81 (by omega) rfl rfl rfl iX10 8 (by decide) w_495 rfl ?_
      refine y_getN (pc := 84) (ci := 6) hF dX10_reach_84 (by omega) rfl rfl rfl iX6 12 (by decide) w_381 rfl ?_
      rw [show σ77 123 12 = (if bx = -1 then -1 else by_ * w + bx) from zq12]
      refine y_iconst (pc := 87) hF dX10_reach_87 ?_
      refine y_icmp_ne (pc := 88) hF dX10_reach_88 95 rfl zqr (by decide) (fun zc88 => ?_) (fun zc88 => ?_)
      · skip
        have zbx : bx ≠ -1 := fun ze => zc88 (if_pos ze)
        have zbq : (if bx = -1 then -1 else by_ * w + bx) = by_ * w + bx := if_neg zbx
        have zj := sIn_iff.mp (zqd.resolve_left (fun ze => zbx ze.1))
        have zx := y_ix (w := w) (h := h) (x := bx) (y := by_) ⟨hw1, hw2⟩ ⟨hw3, hw4⟩ (by omega) (by omega)
        refine y_aload_n (pc := 95) hF dX10_reach_95 0 rfl ?_
        refine y_get (pc := 96) (ci := 10) hF dX10_reach_96 (by omega) rfl rfl rfl iX10 8 (by decide) w_495 rfl ?_
        refine y_aload_n (pc := 99) hF dX10_reach_99 0 rfl ?_
        refine y_get (pc := 100) (ci := 10) hF dX10_reach_100 (by omega) rfl rfl rfl iX10 8 (by decide) w_495 rfl ?_
        refine y_getN (pc := 103) (ci := 6) hF dX10_reach_103 (by omega) rfl rfl rfl iX6 12 (by decide) w_381 rfl ?_
        rw [show σ77 123 12 = by_ * w + bx from (by rw [zq12]; exact zbq)]
        have zz106 := y_rV (pc := 106) hF (tX6_reachTo (n := n) (σ := σ77) 5 146 w h T S F P O s 20 fo ra tu we sh hn pic_5 set_146 zA_σ77 zS77 (by omega) (by omega) x y zB77 (by omega) (by omega) (by_ * w + bx) (by omega)) dX10_reach_106 (by omega) rfl rfl rfl w_1183 qX6_reachTo rfl ⟨Nat.le_of_ble_eq_true rfl, Nat.le_of_ble_eq_true rfl⟩ ⟨Nat.le_of_ble_eq_true rfl, Nat.le_of_ble_eq_true rfl⟩ (Nat.le_of_ble_eq_true rfl) rfl (rest := []) (cells := 0 + 1 + 1) (slots := 0 + 6 + 6) (lv := [(0, yR g 0), (1, yI x), (2, yI y), (3, yI a)])
        refine y_cp (zz106) ?_
        exact y_retX (y_iret (pc := 109) hF dX10_reach_109 (Nat.le_of_ble_eq_true rfl) (Nat.le_of_ble_eq_true rfl) ⟨_, rfl, Nat.le_refl _, zok, by unfold reV; rw [if_neg zc62, zse, if_neg zbx]; rfl, zV2, zg.cF (by omega)⟩)
      · skip
        have zbx : bx = -1 := by rcases zqd with zq | zq; (omega); (have zj := sIn_iff.mp zq; have zx := y_ix (w := w) (h := h) (x := bx) (y := by_) ⟨hw1, hw2⟩ ⟨hw3, hw4⟩ (by omega) (by omega); rw [if_neg (by omega)] at zc88; omega)
        refine y_iconst (pc := 91) hF dX10_reach_91 ?_
        refine y_goto (pc := 92) hF dX10_reach_92 109 rfl ?_
        exact y_retX (y_iret (pc := 109) hF dX10_reach_109 (Nat.le_of_ble_eq_true rfl) (Nat.le_of_ble_eq_true rfl) ⟨_, rfl, Nat.le_refl _, zok, by unfold reV; rw [if_neg zc62, zse, if_pos zbx], zV2, zg.cF (by omega)⟩)
    · skip
      refine y_aload_n (pc := 65) hF dX10_reach_65 0 rfl ?_
      refine y_get (pc := 66) (ci := 10) hF dX10_reach_66 (by omega) rfl rfl rfl iX10 8 (by decide) w_495 rfl ?_
      have zz69 := y_rV (pc := 69) hF (tX6_leastReachOfAny (n := n) (σ := σ58) 5 146 w h T S F P O s 20 fo ra tu we sh hn pic_5 set_146 zA_σ58 zS58 (by omega) (by omega) x y zp58.2.1.1 zp58.2.1.2.2.1 (by omega) (by omega)) dX10_reach_69 (by omega) rfl rfl rfl w_1174 qX6_leastReachOfAny rfl ⟨Nat.le_of_ble_eq_true rfl, Nat.le_of_ble_eq_true rfl⟩ ⟨Nat.le_of_ble_eq_true rfl, Nat.le_of_ble_eq_true rfl⟩ (Nat.le_of_ble_eq_true rfl) rfl (rest := []) (cells := 0 + 1 + 1) (slots := 0 + 6 + 6) (lv := [(0, yR g 0), (1, yI x), (2, yI y), (3, yI a)])
      refine y_cp (zz69) ?_
      exact y_retX (y_iret (pc := 72) hF dX10_reach_72 (Nat.le_of_ble_eq_true rfl) (Nat.le_of_ble_eq_true rfl) ⟨_, rfl, Nat.le_refl _, zok, by unfold reV; rw [if_pos zc62], zV1, zf.cF (by omega)⟩)
  refine y_aload_n (pc := 6) hF dX10_reach_6 0 rfl ?_
  refine y_iload_n (pc := 7) hF dX10_reach_7 3 rfl ?_
  refine y_if_eq (pc := 8) hF dX10_reach_8 16 rfl (by omega) (fun zc8 => ?_) (fun zc8 => ?_)
  · skip
    refine y_iconst (pc := 16) hF dX10_reach_16 ?_
    refine y_goto (pc := 17) hF dX10_reach_17 21 rfl ?_
    exact zJ21 true (decide_eq_true (by omega)).symm
  · skip
    refine y_iload_n (pc := 11) hF dX10_reach_11 3 rfl ?_
    refine y_iconst (pc := 12) hF dX10_reach_12 ?_
    refine y_icmp_ne (pc := 13) hF dX10_reach_13 20 rfl (by omega) (by omega) (fun zc13 => ?_) (fun zc13 => ?_)
    · skip
      refine y_iconst (pc := 20) hF dX10_reach_20 ?_
      exact zJ21 false (decide_eq_false (by omega)).symm
    · skip
      refine y_iconst (pc := 16) hF dX10_reach_16 ?_
      refine y_goto (pc := 17) hF dX10_reach_17 21 rfl ?_
      exact zJ21 true (decide_eq_true (by omega)).symm
