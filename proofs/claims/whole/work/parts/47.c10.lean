theorem dX6_ask_0 : decode cX6_ask 0 = .ok (.aload_n 0, 1) := by decide +kernel
theorem dX6_ask_1 : decode cX6_ask 1 = .ok (.dup, 1) := by decide +kernel
theorem dX6_ask_2 : decode cX6_ask 2 = .ok (.getfield 56, 3) := by decide +kernel
theorem dX6_ask_5 : decode cX6_ask 5 = .ok (.iconst 1, 1) := by decide +kernel
theorem dX6_ask_6 : decode cX6_ask 6 = .ok (.iadd, 1) := by decide +kernel
theorem dX6_ask_7 : decode cX6_ask 7 = .ok (.putfield 56, 3) := by decide +kernel
theorem dX6_ask_10 : decode cX6_ask 10 = .ok (.aload_n 0, 1) := by decide +kernel
theorem dX6_ask_11 : decode cX6_ask 11 = .ok (.getfield 44, 3) := by decide +kernel
theorem dX6_ask_14 : decode cX6_ask 14 = .ok (.iconst (-1), 1) := by decide +kernel
theorem dX6_ask_15 : decode cX6_ask 15 = .ok (.if_icmp .ne 8, 3) := by decide +kernel
theorem dX6_ask_18 : decode cX6_ask 18 = .ok (.ldc 175, 2) := by decide +kernel
theorem dX6_ask_20 : decode cX6_ask 20 = .ok (.goto 7, 3) := by decide +kernel
theorem dX6_ask_23 : decode cX6_ask 23 = .ok (.aload_n 0, 1) := by decide +kernel
theorem dX6_ask_24 : decode cX6_ask 24 = .ok (.getfield 50, 3) := by decide +kernel
theorem dX6_ask_27 : decode cX6_ask 27 = .ok (.istore_n 3, 1) := by decide +kernel
theorem dX6_ask_28 : decode cX6_ask 28 = .ok (.iload_n 3, 1) := by decide +kernel
theorem dX6_ask_29 : decode cX6_ask 29 = .ok (.ifCond .ne 14, 3) := by decide +kernel
theorem dX6_ask_32 : decode cX6_ask 32 = .ok (.aload_n 0, 1) := by decide +kernel
theorem dX6_ask_33 : decode cX6_ask 33 = .ok (.dup, 1) := by decide +kernel
theorem dX6_ask_34 : decode cX6_ask 34 = .ok (.getfield 59, 3) := by decide +kernel
theorem dX6_ask_37 : decode cX6_ask 37 = .ok (.iconst 1, 1) := by decide +kernel
theorem dX6_ask_38 : decode cX6_ask 38 = .ok (.iadd, 1) := by decide +kernel
theorem dX6_ask_39 : decode cX6_ask 39 = .ok (.putfield 59, 3) := by decide +kernel
theorem dX6_ask_42 : decode cX6_ask 42 = .ok (.return_, 1) := by decide +kernel
theorem dX6_ask_43 : decode cX6_ask 43 = .ok (.aload_n 0, 1) := by decide +kernel
theorem dX6_ask_44 : decode cX6_ask 44 = .ok (.iload_n 1, 1) := by decide +kernel
theorem dX6_ask_45 : decode cX6_ask 45 = .ok (.iload_n 2, 1) := by decide +kernel
theorem dX6_ask_46 : decode cX6_ask 46 = .ok (.invokevirtual 176, 3) := by decide +kernel
theorem dX6_ask_49 : decode cX6_ask 49 = .ok (.aload_n 0, 1) := by decide +kernel
theorem dX6_ask_50 : decode cX6_ask 50 = .ok (.getfield 44, 3) := by decide +kernel
theorem dX6_ask_53 : decode cX6_ask 53 = .ok (.iconst (-1), 1) := by decide +kernel
theorem dX6_ask_54 : decode cX6_ask 54 = .ok (.if_icmp .eq 24, 3) := by decide +kernel
theorem dX6_ask_57 : decode cX6_ask 57 = .ok (.aload_n 0, 1) := by decide +kernel
theorem dX6_ask_58 : decode cX6_ask 58 = .ok (.getfield 40, 3) := by decide +kernel
theorem dX6_ask_61 : decode cX6_ask 61 = .ok (.iload_n 3, 1) := by decide +kernel
theorem dX6_ask_62 : decode cX6_ask 62 = .ok (.i2l, 1) := by decide +kernel
theorem dX6_ask_63 : decode cX6_ask 63 = .ok (.lcmp, 1) := by decide +kernel
theorem dX6_ask_64 : decode cX6_ask 64 = .ok (.ifCond .lt 14, 3) := by decide +kernel
theorem dX6_ask_67 : decode cX6_ask 67 = .ok (.aload_n 0, 1) := by decide +kernel
theorem dX6_ask_68 : decode cX6_ask 68 = .ok (.dup, 1) := by decide +kernel
theorem dX6_ask_69 : decode cX6_ask 69 = .ok (.getfield 59, 3) := by decide +kernel
theorem dX6_ask_72 : decode cX6_ask 72 = .ok (.iconst 1, 1) := by decide +kernel
theorem dX6_ask_73 : decode cX6_ask 73 = .ok (.iadd, 1) := by decide +kernel
theorem dX6_ask_74 : decode cX6_ask 74 = .ok (.putfield 59, 3) := by decide +kernel
theorem dX6_ask_77 : decode cX6_ask 77 = .ok (.return_, 1) := by decide +kernel
theorem dX6_ask_78 : decode cX6_ask 78 = .ok (.aload_n 0, 1) := by decide +kernel
theorem dX6_ask_79 : decode cX6_ask 79 = .ok (.iload_n 1, 1) := by decide +kernel
theorem dX6_ask_80 : decode cX6_ask 80 = .ok (.iload_n 2, 1) := by decide +kernel
theorem dX6_ask_81 : decode cX6_ask 81 = .ok (.iload_n 3, 1) := by decide +kernel
theorem dX6_ask_82 : decode cX6_ask 82 = .ok (.invokevirtual 179, 3) := by decide +kernel
theorem dX6_ask_85 : decode cX6_ask 85 = .ok (.istore 4, 2) := by decide +kernel
theorem dX6_ask_87 : decode cX6_ask 87 = .ok (.iload 4, 2) := by decide +kernel
theorem dX6_ask_89 : decode cX6_ask 89 = .ok (.iload_n 3, 1) := by decide +kernel
theorem dX6_ask_90 : decode cX6_ask 90 = .ok (.if_icmp .lt 14, 3) := by decide +kernel
theorem dX6_ask_93 : decode cX6_ask 93 = .ok (.aload_n 0, 1) := by decide +kernel
theorem dX6_ask_94 : decode cX6_ask 94 = .ok (.dup, 1) := by decide +kernel
theorem dX6_ask_95 : decode cX6_ask 95 = .ok (.getfield 62, 3) := by decide +kernel
theorem dX6_ask_98 : decode cX6_ask 98 = .ok (.iconst 1, 1) := by decide +kernel
theorem dX6_ask_99 : decode cX6_ask 99 = .ok (.iadd, 1) := by decide +kernel
theorem dX6_ask_100 : decode cX6_ask 100 = .ok (.putfield 62, 3) := by decide +kernel
theorem dX6_ask_103 : decode cX6_ask 103 = .ok (.return_, 1) := by decide +kernel
theorem dX6_ask_104 : decode cX6_ask 104 = .ok (.aload_n 0, 1) := by decide +kernel
theorem dX6_ask_105 : decode cX6_ask 105 = .ok (.iload_n 1, 1) := by decide +kernel
theorem dX6_ask_106 : decode cX6_ask 106 = .ok (.putfield 44, 3) := by decide +kernel
theorem dX6_ask_109 : decode cX6_ask 109 = .ok (.aload_n 0, 1) := by decide +kernel
theorem dX6_ask_110 : decode cX6_ask 110 = .ok (.iload_n 2, 1) := by decide +kernel
theorem dX6_ask_111 : decode cX6_ask 111 = .ok (.putfield 47, 3) := by decide +kernel
theorem dX6_ask_114 : decode cX6_ask 114 = .ok (.aload_n 0, 1) := by decide +kernel
theorem dX6_ask_115 : decode cX6_ask 115 = .ok (.iload 4, 2) := by decide +kernel
theorem dX6_ask_117 : decode cX6_ask 117 = .ok (.putfield 50, 3) := by decide +kernel
theorem dX6_ask_120 : decode cX6_ask 120 = .ok (.aload_n 0, 1) := by decide +kernel
theorem dX6_ask_121 : decode cX6_ask 121 = .ok (.aload_n 0, 1) := by decide +kernel
theorem dX6_ask_122 : decode cX6_ask 122 = .ok (.getfield 37, 3) := by decide +kernel
theorem dX6_ask_125 : decode cX6_ask 125 = .ok (.putfield 53, 3) := by decide +kernel
theorem dX6_ask_128 : decode cX6_ask 128 = .ok (.return_, 1) := by decide +kernel
set_option maxHeartbeats 4000000 in
set_option maxRecDepth 100000 in
theorem tX6_ask {l : Launch} {g : yG} {n : Nat} {σ : yM} (k cs : Nat) (w h : Int) (T S F P O : Int → Int → Int) (s re fo ra tu we sh : Int) (hn : 172 ≤ n) (hP : isPic k) (hcs : isSet cs) (hA : rC σ k w h T S F P O) (hS : rS σ cs s re fo ra tu we sh) (hk : k + 5 < 120 ∨ 130 < k) (hc2 : cs < 120 ∨ 130 < cs) (ax ay : Int) (hB : rA σ k cs ax ay) (u v way : Int) (huv : sIn w h u v = true) (hwy : 0 ≤ way ∧ way < 8) (hq : sPl w h T s u v) (hG : rG σ w T S we ax ay (kL w h T s ax ay)) (bx by_ bw bs bd so sk sp lo : Int) (hQ : rQ σ w (bx, by_, bw, bs, bd, so, sk, sp, lo)) (hqo : qOk w h T s (bx, by_, bw, bs, bd, so, sk, sp, lo)) : yMet l g yX6_ask cX6_ask 5 none (rmL 2) [yR g 123, yI (v * w + u), yI way] (SC g) n σ (SC g) (yPv (fun n' σ' => n' = n ∧ fk 123 10 19 σ σ' ∧ rQ σ' w (asF w h T S s we sh ax ay u v (bx, by_, bw, bs, bd, so, sk, sp, lo) way))) := by
  obtain ⟨hw1, hw2, hw3, hw4⟩ := id hA.1.1
  obtain ⟨hs1, hs2, hs3, hs4, hs5, hs6, hs7⟩ := id hS.2
  have zkn : k < n := by have := hP.1; omega
  have zcsn : cs < n := by have := hcs.1; omega
  have z123 : 123 < n := by omega
  have z124 : 124 < n := by omega
  have z125 : 125 < n := by omega
  have z126 : 126 < n := by omega
  have z127 : 127 < n := by omega
  have zkn1 : k + 1 < n := by have := hP.1; omega
  have zkn2 : k + 2 < n := by have := hP.1; omega
  have zkn3 : k + 3 < n := by have := hP.1; omega
  have zkn4 : k + 4 < n := by have := hP.1; omega
  have zkn5 : k + 5 < n := by have := hP.1; omega
  have zln := kL_len (w := w) (h := h) (T := T) (x := ax) (y := ay) hs1
  have zu := sIn_iff.mp huv
  have zB2 := sB2_bd hA.1 (we := we) (way := way) (x := ax) (y := ay) ⟨by omega, hs1.2⟩ hq
  have zSH := sSh_bd hA.1 (we := we) (sh := sh) (way := way) (x := ax) (y := ay) ⟨by omega, hs1.2⟩ hq
  have zbo := sBo_bd hA.1 (we := we) (sh := sh) (way := way) (x := ax) (y := ay) ⟨by omega, hs1.2⟩ hq
  obtain ⟨hq12, hq13, hq14, hq15, hq16, hq17, hq18, hq19⟩ := id hQ
  obtain ⟨Z0, hZ0⟩ : ∃ z, z = (if bx = -1 then -1 else by_ * w + bx) := ⟨_, rfl⟩
  rw [← hZ0] at hq12
  have zZ : (bx = -1 ∧ Z0 = -1) ∨ (bx ≠ -1 ∧ 0 ≤ Z0 ∧ Z0 < 400 ∧ 0 ≤ bd ∧ bd ≤ 63724500) := by { rcases hqo.1 with zq | zq; exact Or.inl ⟨zq.1, by rw [hZ0, if_pos zq.1]⟩; have zi := sIn_iff.mp zq.1; have zx := y_ix (w := w) (h := h) (x := bx) (y := by_) ⟨hw1, hw2⟩ ⟨hw3, hw4⟩ (by omega) (by omega); exact Or.inr ⟨by omega, by rw [hZ0, if_neg (by omega)]; omega, by rw [hZ0, if_neg (by omega)]; omega, zq.2.2.2.2.1⟩ }
  refine y_start (by decide) (Nat.le_of_ble_eq_true rfl) (fun X0 hF => ?_)
  show yV X0 g 5 (yQ X0 g (SC g) (yPv (fun n' σ' => n' = n ∧ fk 123 10 19 σ σ' ∧ rQ σ' w (asF w h T S s we sh ax ay u v (bx, by_, bw, bs, bd, so, sk, sp, lo) way))) (rmL 2)) (SC g) n σ 0 0 0 [(0, yR g 123), (1, yI (v * w + u)), (2, yI way)] []
  refine y_aload_n (pc := 0) hF dX6_ask_0 0 rfl ?_
  refine y_dup (pc := 1) hF dX6_ask_1 rfl ?_
  refine y_get (pc := 2) (ci := 6) hF dX6_ask_2 z123 rfl rfl rfl iX6 16 (by decide) w_393 rfl ?_
  rw [show σ 123 16 = so from hq16]
  refine y_iconst (pc := 5) hF dX6_ask_5 ?_
  refine y_iadd (pc := 6) hF dX6_ask_6 ?_
  refine y_putf (pc := 7) (ci := 6) (σ' := yset σ 123 16 (so + 1)) (sch' := (SC g)) hF dX6_ask_7 z123 rfl rfl rfl iX6 16 (by decide) w_393 tyX6 tyX6_ok nmX6 rfl rfl rfl rfl (Nat.le_of_ble_eq_true rfl) rfl (y_ps rfl) (fun k' h => ⟨yset_n h, rfl⟩) ?_
  obtain ⟨τ0, hτ0⟩ : ∃ s, s = yset σ 123 16 (so + 1) := ⟨_, rfl⟩
  rw [← hτ0]
  have zf_τ0 : fk 123 10 19 σ τ0 := by rw [hτ0]; exact (fk.rf σ).st (by omega)
  have zA_τ0 := hA.fc (by omega) (zf_τ0).fc
  have zS_τ0 := hS.fc (by omega) (zf_τ0).fc
  have zB_τ0 := hB.fr (fun j _ _ => (zf_τ0) 123 j (by omega))
  have zG_τ0 := hG.fk10 (zf_τ0)
  have ze_τ0 : ∀ j : Int, j ≠ 16 → τ0 123 j = σ 123 j := fun j q => by rw [hτ0, yset_ap, if_neg (by omega)]
  have zt16 : τ0 123 16 = so + 1 := by rw [hτ0]; simp [yset_ap]
  have zJ27 : ∀ (le : Int), ((bx = -1 ∧ le = 2147483647) ∨ (bx ≠ -1 ∧ le = bd)) → yV X0 g 5 (yQ X0 g (SC g) (yPv (fun n' σ' => n' = n ∧ fk 123 10 19 σ σ' ∧ rQ σ' w (asF w h T S s we sh ax ay u v (bx, by_, bw, bs, bd, so, sk, sp, lo) way))) (rmL 2)) (SC g) n τ0 0 0 27 [(0, yR g 123), (1, yI (v * w + u)), (2, yI way)] [yI le] := by
    intro le  zle
    refine y_istore_n (pc := 27) (lv' := [(0, yR g 123), (1, yI (v * w + u)), (2, yI way), (3, yI le)]) hF dX6_ask_27 (by decide) rfl rfl ?_
    refine y_iload_n (pc := 28) hF dX6_ask_28 3 rfl ?_
    refine y_if_ne (pc := 29) hF dX6_ask_29 43 rfl (by omega) (fun zc29 => ?_) (fun zc29 => ?_)
    · skip
      refine y_aload_n (pc := 43) hF dX6_ask_43 0 rfl ?_
      refine y_iload_n (pc := 44) hF dX6_ask_44 1 rfl ?_
      refine y_iload_n (pc := 45) hF dX6_ask_45 2 rfl ?_
      refine y_cv (y_rV (pc := 46) hF (tX6_compare k cs w h T S F P O s re fo ra tu we sh hn hP hcs zA_τ0 zS_τ0 hk hc2 ax ay zB_τ0 u v way huv hwy hq zG_τ0) dX6_ask_46 z123 rfl rfl rfl w_941 qX6_compare rfl ⟨Nat.le_of_ble_eq_true rfl, Nat.le_of_ble_eq_true rfl⟩ ⟨Nat.zero_le _, Nat.zero_le _⟩ (Nat.le_of_ble_eq_true rfl) rfl) rfl rfl (fun n' σ46 zp46 => ?_)
      obtain ⟨zn46, zp46⟩ := zp46
      have zn46 := zn46.symm
      subst zn46
      have zf_σ46 : fk 123 10 19 σ σ46 := zf_τ0.tr (zp46.1.wk (by omega) (by omega))
      have zA_σ46 := hA.fc (by omega) (zf_σ46).fc
      have zS_σ46 := hS.fc (by omega) (zf_σ46).fc
      have zB_σ46 := hB.fr (fun j _ _ => (zf_σ46) 123 j (by omega))
      have zG_σ46 := hG.fk10 (zf_σ46)
      have ze_σ46 : ∀ j : Int, 12 ≤ j → j ≠ 16 → σ46 123 j = σ 123 j := fun j q1 q2 => by rw [zp46.1 123 j (by omega), ze_τ0 j q2]
      have zt16b : σ46 123 16 = so + 1 := by rw [zp46.1 123 16 (by omega)]; exact zt16
      have zJ78 : (bx = -1 ∨ sBo w h T S s we sh ax ay u v way < bd) → yV X0 g 5 (yQ X0 g (SC g) (yPv (fun n' σ' => n' = n ∧ fk 123 10 19 σ σ' ∧ rQ σ' w (asF w h T S s we sh ax ay u v (bx, by_, bw, bs, bd, so, sk, sp, lo) way))) (rmL 2)) (SC g) n σ46 0 0 78 [(0, yR g 123), (1, yI (v * w + u)), (2, yI way), (3, yI le)] [] := by
        intro zbb
        refine y_aload_n (pc := 78) hF dX6_ask_78 0 rfl ?_
        refine y_iload_n (pc := 79) hF dX6_ask_79 1 rfl ?_
        refine y_iload_n (pc := 80) hF dX6_ask_80 2 rfl ?_
        refine y_iload_n (pc := 81) hF dX6_ask_81 3 rfl ?_
        refine y_ci (y_rV (pc := 82) hF (tX6_reckon k cs w h T S F P O s re fo ra tu we sh hn hP hcs zA_σ46 zS_σ46 hk hc2 ax ay zB_σ46 u v way huv hwy hq zG_σ46 (sSh w h T S s we sh ax ay u v way) le zp46.2.1 zSH (by omega)) dX6_ask_82 z123 rfl rfl rfl w_945 qX6_reckon rfl ⟨Nat.le_of_ble_eq_true rfl, Nat.le_of_ble_eq_true rfl⟩ ⟨Nat.zero_le _, Nat.zero_le _⟩ (Nat.le_of_ble_eq_true rfl) rfl) rfl rfl (fun r82 n' σ82 zp82 => ?_)
        obtain ⟨zn82, zv82, zp82⟩ := zp82
        have zn82 := zn82.symm
        subst zn82
        subst zv82
        have zf_σ82 : fk 123 10 19 σ σ82 := zf_σ46.tr (zp82.1.wk (by omega) (by omega))
        have zdb := sDf_bd hA.1 (we := we) (way := way) (x := ax) (y := ay) (sf := sSh w h T S s we sh ax ay u v way) (le := le) ⟨by omega, hs1.2⟩ hq zSH
        have zled : sDf w h T S s we ax ay u v way (sSh w h T S s we sh ax ay u v way) (if bx = -1 then 1000000000 else bd) = sDf w h T S s we ax ay u v way (sSh w h T S s we sh ax ay u v way) le := by { rcases zle with zq | zq; rw [if_pos zq.1, zq.2]; exact sDf_le hA.1 hs1 hq zSH (by decide) (by decide); rw [if_neg zq.1, zq.2] }
        have ze_σ82 : ∀ j : Int, 12 ≤ j → j ≤ 18 → j ≠ 16 → σ82 123 j = σ 123 j := fun j q1 q2 q3 => by rw [zp82.1 123 j (by omega), ze_σ46 j q1 q3]
        have zt16c : σ82 123 16 = so + 1 := by rw [zp82.1 123 16 (by omega)]; exact zt16b
        have zt19 : σ82 123 19 = lo + (sDf w h T S s we ax ay u v way (sSh w h T S s we sh ax ay u v way) le).2 := by rw [zp82.2, ze_σ46 19 (by omega) (by omega), hq19]
        have zt10 : σ82 123 10 = sSh w h T S s we sh ax ay u v way := by rw [zp82.1 123 10 (by omega)]; exact zp46.2.1
        refine y_istore (pc := 85) (lv' := [(0, yR g 123), (1, yI (v * w + u)), (2, yI way), (3, yI le), (4, yI ((sDf w h T S s we ax ay u v way (sSh w h T S s we sh ax ay u v way) le).1))]) hF dX6_ask_85 (by decide) rfl rfl ?_
        refine y_iload (pc := 87) hF dX6_ask_87 4 rfl ?_
        refine y_iload_n (pc := 89) hF dX6_ask_89 3 rfl ?_
        refine y_icmp_lt (pc := 90) hF dX6_ask_90 104 rfl (by omega) (by omega) (fun zc90 => ?_) (fun zc90 => ?_)
        · skip
          refine y_aload_n (pc := 104) hF dX6_ask_104 0 rfl ?_
          refine y_iload_n (pc := 105) hF dX6_ask_105 1 rfl ?_
          refine y_putf (pc := 106) (ci := 6) (σ' := yset σ82 123 12 (v * w + u)) (sch' := (SC g)) hF dX6_ask_106 z123 rfl rfl rfl iX6 12 (by decide) w_378 tyX6 tyX6_ok nmX6 rfl rfl rfl rfl (Nat.le_of_ble_eq_true rfl) rfl (y_ps rfl) (fun k' h => ⟨yset_n h, rfl⟩) ?_
          refine y_aload_n (pc := 109) hF dX6_ask_109 0 rfl ?_
          refine y_iload_n (pc := 110) hF dX6_ask_110 2 rfl ?_
          refine y_putf (pc := 111) (ci := 6) (σ' := yset (yset σ82 123 12 (v * w + u)) 123 13 way) (sch' := (SC g)) hF dX6_ask_111 z123 rfl rfl rfl iX6 13 (by decide) w_382 tyX6 tyX6_ok nmX6 rfl rfl rfl rfl (Nat.le_of_ble_eq_true rfl) rfl (y_ps rfl) (fun k' h => ⟨yset_n h, rfl⟩) ?_
          refine y_aload_n (pc := 114) hF dX6_ask_114 0 rfl ?_
          refine y_iload (pc := 115) hF dX6_ask_115 4 rfl ?_
          refine y_putf (pc := 117) (ci := 6) (σ' := yset (yset (yset σ82 123 12 (v * w + u)) 123 13 way) 123 14 ((sDf w h T S s we ax ay u v way (sSh w h T S s we sh ax ay u v way) le).1)) (sch' := (SC g)) hF dX6_ask_117 z123 rfl rfl rfl iX6 14 (by decide) w_386 tyX6 tyX6_ok nmX6 rfl rfl rfl rfl (Nat.le_of_ble_eq_true rfl) rfl (y_ps rfl) (fun k' h => ⟨yset_n h, rfl⟩) ?_
          refine y_aload_n (pc := 120) hF dX6_ask_120 0 rfl ?_
          refine y_aload_n (pc := 121) hF dX6_ask_121 0 rfl ?_
          refine y_get (pc := 122) (ci := 6) hF dX6_ask_122 z123 rfl rfl rfl iX6 10 (by decide) w_375 rfl ?_
          rw [show (yset (yset (yset σ82 123 12 (v * w + u)) 123 13 way) 123 14 ((sDf w h T S s we ax ay u v way (sSh w h T S s we sh ax ay u v way) le).1)) 123 10 = sSh w h T S s we sh ax ay u v way from (by simp [yset_ap]; exact zt10)]
          refine y_putf (pc := 125) (ci := 6) (σ' := yset (yset (yset (yset σ82 123 12 (v * w + u)) 123 13 way) 123 14 ((sDf w h T S s we ax ay u v way (sSh w h T S s we sh ax ay u v way) le).1)) 123 15 (sSh w h T S s we sh ax ay u v way)) (sch' := (SC g)) hF dX6_ask_125 z123 rfl rfl rfl iX6 15 (by decide) w_389 tyX6 tyX6_ok nmX6 rfl rfl rfl rfl (Nat.le_of_ble_eq_true rfl) rfl (y_ps rfl) (fun k' h => ⟨yset_n h, rfl⟩) ?_
          exact y_vret (pc := 128) hF dX6_ask_128 (Nat.zero_le _) (Nat.zero_le _) ⟨rfl, rfl, (((zf_σ82.st (by omega)).st (by omega)).st (by omega)).st (by omega), by have zq : asF w h T S s we sh ax ay u v (bx, by_, bw, bs, bd, so, sk, sp, lo) way = (u, v, way, sSh w h T S s we sh ax ay u v way, (sDf w h T S s we ax ay u v way (sSh w h T S s we sh ax ay u v way) le).1, so + 1, sk, sp, lo + (sDf w h T S s we ax ay u v way (sSh w h T S s we sh ax ay u v way) le).2) := (by unfold asF qBd; simp only; rw [zled]; exact asG_take (by omega) (by omega)); rw [zq]; exact ⟨by rw [if_neg (show ¬ u = -1 by omega)]; simp [yset_ap], by simp [yset_ap], by simp [yset_ap], by simp [yset_ap], by simp [yset_ap]; exact zt16c, by simp [yset_ap]; exact (ze_σ82 17 (by omega) (by omega) (by omega)).trans hq17, by simp [yset_ap]; exact (ze_σ82 18 (by omega) (by omega) (by omega)).trans hq18, by simp [yset_ap]; exact zt19⟩⟩
        · skip
          refine y_aload_n (pc := 93) hF dX6_ask_93 0 rfl ?_
          refine y_dup (pc := 94) hF dX6_ask_94 rfl ?_
          refine y_get (pc := 95) (ci := 6) hF dX6_ask_95 z123 rfl rfl rfl iX6 18 (by decide) w_397 rfl ?_
          rw [show σ82 123 18 = sp from (by rw [ze_σ82 18 (by omega) (by omega) (by omega)]; exact hq18)]
          refine y_iconst (pc := 98) hF dX6_ask_98 ?_
          refine y_iadd (pc := 99) hF dX6_ask_99 ?_
          refine y_putf (pc := 100) (ci := 6) (σ' := yset σ82 123 18 (sp + 1)) (sch' := (SC g)) hF dX6_ask_100 z123 rfl rfl rfl iX6 18 (by decide) w_397 tyX6 tyX6_ok nmX6 rfl rfl rfl rfl (Nat.le_of_ble_eq_true rfl) rfl (y_ps rfl) (fun k' h => ⟨yset_n h, rfl⟩) ?_
          exact y_vret (pc := 103) hF dX6_ask_103 (Nat.zero_le _) (Nat.zero_le _) ⟨rfl, rfl, zf_σ82.st (by omega), by have zq : asF w h T S s we sh ax ay u v (bx, by_, bw, bs, bd, so, sk, sp, lo) way = (bx, by_, bw, bs, bd, so + 1, sk, sp + 1, lo + (sDf w h T S s we ax ay u v way (sSh w h T S s we sh ax ay u v way) le).2) := (by unfold asF qBd; simp only; rw [zled]; exact asG_stop (by omega) ⟨by omega, by omega⟩); rw [zq]; exact ⟨by rw [yset_ap, if_neg (by omega), ze_σ82 12 (by omega) (by omega) (by omega)]; exact hq12.trans hZ0, by rw [yset_ap, if_neg (by omega), ze_σ82 13 (by omega) (by omega) (by omega)]; exact hq13, by rw [yset_ap, if_neg (by omega), ze_σ82 14 (by omega) (by omega) (by omega)]; exact hq14, by rw [yset_ap, if_neg (by omega), ze_σ82 15 (by omega) (by omega) (by omega)]; exact hq15, by rw [yset_ap, if_neg (by omega)]; exact zt16c, by rw [yset_ap, if_neg (by omega), ze_σ82 17 (by omega) (by omega) (by omega)]; exact hq17, by rw [yset_ap, if_pos ⟨rfl, rfl⟩], by rw [yset_ap, if_neg (by omega)]; exact zt19⟩⟩
      refine y_aload_n (pc := 49) hF dX6_ask_49 0 rfl ?_
      refine y_get (pc := 50) (ci := 6) hF dX6_ask_50 z123 rfl rfl rfl iX6 12 (by decide) w_378 rfl ?_
      rw [show σ46 123 12 = Z0 from (by rw [ze_σ46 12 (by omega) (by omega)]; exact hq12)]
      refine y_iconst (pc := 53) hF dX6_ask_53 ?_
      refine y_icmp_eq (pc := 54) hF dX6_ask_54 78 rfl (by omega) (by omega) (fun zc54 => ?_) (fun zc54 => ?_)
      · skip
        exact zJ78  (by omega)
      · skip
        refine y_aload_n (pc := 57) hF dX6_ask_57 0 rfl ?_
        refine y_get (pc := 58) (ci := 6) hF dX6_ask_58 z123 rfl rfl rfl iX6 11 (by decide) w_376 rfl ?_
        rw [show σ46 123 11 = sBo w h T S s we sh ax ay u v way from zp46.2.2]
        refine y_iload_n (pc := 61) hF dX6_ask_61 3 rfl ?_
        refine y_i2l (pc := 62) hF dX6_ask_62 (by omega) ?_
        refine y_lcmp (pc := 63) hF dX6_ask_63 (by omega) (by omega) ?_
        refine y_if_lt (pc := 64) hF dX6_ask_64 78 rfl ycmp_r (fun zc64 => ?_) (fun zc64 => ?_)
        · skip
          exact zJ78  (by have zq := ycmp_lt zc64; omega)
        · skip
          refine y_aload_n (pc := 67) hF dX6_ask_67 0 rfl ?_
          refine y_dup (pc := 68) hF dX6_ask_68 rfl ?_
          refine y_get (pc := 69) (ci := 6) hF dX6_ask_69 z123 rfl rfl rfl iX6 17 (by decide) w_395 rfl ?_
          rw [show σ46 123 17 = sk from (by rw [ze_σ46 17 (by omega) (by omega)]; exact hq17)]
          refine y_iconst (pc := 72) hF dX6_ask_72 ?_
          refine y_iadd (pc := 73) hF dX6_ask_73 ?_
          refine y_putf (pc := 74) (ci := 6) (σ' := yset σ46 123 17 (sk + 1)) (sch' := (SC g)) hF dX6_ask_74 z123 rfl rfl rfl iX6 17 (by decide) w_395 tyX6 tyX6_ok nmX6 rfl rfl rfl rfl (Nat.le_of_ble_eq_true rfl) rfl (y_ps rfl) (fun k' h => ⟨yset_n h, rfl⟩) ?_
          exact y_vret (pc := 77) hF dX6_ask_77 (Nat.zero_le _) (Nat.zero_le _) ⟨rfl, rfl, zf_σ46.st (by omega), by have zq0 := ycmp_ge zc64; have zq : asF w h T S s we sh ax ay u v (bx, by_, bw, bs, bd, so, sk, sp, lo) way = _ := asG_skip ⟨by omega, by omega⟩; rw [zq]; exact ⟨by rw [yset_ap, if_neg (by omega), ze_σ46 12 (by omega) (by omega)]; exact hq12.trans hZ0, by rw [yset_ap, if_neg (by omega), ze_σ46 13 (by omega) (by omega)]; exact hq13, by rw [yset_ap, if_neg (by omega), ze_σ46 14 (by omega) (by omega)]; exact hq14, by rw [yset_ap, if_neg (by omega), ze_σ46 15 (by omega) (by omega)]; exact hq15, by rw [yset_ap, if_neg (by omega)]; exact zt16b, by rw [yset_ap, if_pos ⟨rfl, rfl⟩], by rw [yset_ap, if_neg (by omega), ze_σ46 18 (by omega) (by omega)]; exact hq18, by rw [yset_ap, if_neg (by omega), ze_σ46 19 (by omega) (by omega)]; exact hq19⟩⟩
    · skip
      refine y_aload_n (pc := 32) hF dX6_ask_32 0 rfl ?_
      refine y_dup (pc := 33) hF dX6_ask_33 rfl ?_
      refine y_get (pc := 34) (ci := 6) hF dX6_ask_34 z123 rfl rfl rfl iX6 17 (by decide) w_395 rfl ?_
      rw [show τ0 123 17 = sk from (by rw [ze_τ0 17 (by omega)]; exact hq17)]
      refine y_iconst (pc := 37) hF dX6_ask_37 ?_
      refine y_iadd (pc := 38) hF dX6_ask_38 ?_
      refine y_putf (pc := 39) (ci := 6) (σ' := yset τ0 123 17 (sk + 1)) (sch' := (SC g)) hF dX6_ask_39 z123 rfl rfl rfl iX6 17 (by decide) w_395 tyX6 tyX6_ok nmX6 rfl rfl rfl rfl (Nat.le_of_ble_eq_true rfl) rfl (y_ps rfl) (fun k' h => ⟨yset_n h, rfl⟩) ?_
      exact y_vret (pc := 42) hF dX6_ask_42 (Nat.zero_le _) (Nat.zero_le _) ⟨rfl, rfl, zf_τ0.st (by omega), by have zq : asF w h T S s we sh ax ay u v (bx, by_, bw, bs, bd, so, sk, sp, lo) way = _ := asG_skip ⟨by omega, by omega⟩; rw [zq]; exact ⟨by rw [yset_ap, if_neg (by omega), ze_τ0 12 (by omega)]; exact hq12.trans hZ0, by rw [yset_ap, if_neg (by omega), ze_τ0 13 (by omega)]; exact hq13, by rw [yset_ap, if_neg (by omega), ze_τ0 14 (by omega)]; exact hq14, by rw [yset_ap, if_neg (by omega), ze_τ0 15 (by omega)]; exact hq15, by rw [yset_ap, if_neg (by omega)]; exact zt16, by rw [yset_ap, if_pos ⟨rfl, rfl⟩], by rw [yset_ap, if_neg (by omega), ze_τ0 18 (by omega)]; exact hq18, by rw [yset_ap, if_neg (by omega), ze_τ0 19 (by omega)]; exact hq19⟩⟩
  refine y_aload_n (pc := 10) hF dX6_ask_10 0 rfl ?_
  refine y_get (pc := 11) (ci := 6) hF dX6_ask_11 z123 rfl rfl rfl iX6 12 (by decide) w_378 rfl ?_
  rw [show τ0 123 12 = Z0 from (by rw [ze_τ0 12 (by omega)]; exact hq12)]
  refine y_iconst (pc := 14) hF dX6_ask_14 ?_
  refine y_icmp_ne (pc := 15) hF dX6_ask_15 23 rfl (by omega) (by omega) (fun zc15 => ?_) (fun zc15 => ?_)
  · skip
    refine y_aload_n (pc := 23) hF dX6_ask_23 0 rfl ?_
    refine y_get (pc := 24) (ci := 6) hF dX6_ask_24 z123 rfl rfl rfl iX6 14 (by decide) w_386 rfl ?_
    rw [show τ0 123 14 = bd from (by rw [ze_τ0 14 (by omega)]; exact hq14)]
    exact zJ27 (bd) (by omega)
  · skip
    refine y_ldc (pc := 18) (v := 2147483647) hF dX6_ask_18 wk_940 ?_
    refine y_goto (pc := 20) hF dX6_ask_20 27 rfl ?_
    exact zJ27 (2147483647) (by omega)
