theorem dX6_compare_0 : decode cX6_compare 0 = .ok (.iconst 0, 1) := by decide +kernel
theorem dX6_compare_1 : decode cX6_compare 1 = .ok (.istore_n 3, 1) := by decide +kernel
theorem dX6_compare_2 : decode cX6_compare 2 = .ok (.iload_n 2, 1) := by decide +kernel
theorem dX6_compare_3 : decode cX6_compare 3 = .ok (.bipush 49, 2) := by decide +kernel
theorem dX6_compare_5 : decode cX6_compare 5 = .ok (.imul, 1) := by decide +kernel
theorem dX6_compare_6 : decode cX6_compare 6 = .ok (.istore 4, 2) := by decide +kernel
theorem dX6_compare_8 : decode cX6_compare 8 = .ok (.iconst 0, 1) := by decide +kernel
theorem dX6_compare_9 : decode cX6_compare 9 = .ok (.istore 5, 2) := by decide +kernel
theorem dX6_compare_11 : decode cX6_compare 11 = .ok (.iload 5, 2) := by decide +kernel
theorem dX6_compare_13 : decode cX6_compare 13 = .ok (.aload_n 0, 1) := by decide +kernel
theorem dX6_compare_14 : decode cX6_compare 14 = .ok (.getfield 28, 3) := by decide +kernel
theorem dX6_compare_17 : decode cX6_compare 17 = .ok (.if_icmp .ge 48, 3) := by decide +kernel
theorem dX6_compare_20 : decode cX6_compare 20 = .ok (.iload_n 3, 1) := by decide +kernel
theorem dX6_compare_21 : decode cX6_compare 21 = .ok (.aload_n 0, 1) := by decide +kernel
theorem dX6_compare_22 : decode cX6_compare 22 = .ok (.getfield 18, 3) := by decide +kernel
theorem dX6_compare_25 : decode cX6_compare 25 = .ok (.iload 5, 2) := by decide +kernel
theorem dX6_compare_27 : decode cX6_compare 27 = .ok (.iaload, 1) := by decide +kernel
theorem dX6_compare_28 : decode cX6_compare 28 = .ok (.aload_n 0, 1) := by decide +kernel
theorem dX6_compare_29 : decode cX6_compare 29 = .ok (.getfield 68, 3) := by decide +kernel
theorem dX6_compare_32 : decode cX6_compare 32 = .ok (.getfield 99, 3) := by decide +kernel
theorem dX6_compare_35 : decode cX6_compare 35 = .ok (.iload_n 1, 1) := by decide +kernel
theorem dX6_compare_36 : decode cX6_compare 36 = .ok (.aload_n 0, 1) := by decide +kernel
theorem dX6_compare_37 : decode cX6_compare 37 = .ok (.getfield 25, 3) := by decide +kernel
theorem dX6_compare_40 : decode cX6_compare 40 = .ok (.iload 4, 2) := by decide +kernel
theorem dX6_compare_42 : decode cX6_compare 42 = .ok (.iload 5, 2) := by decide +kernel
theorem dX6_compare_44 : decode cX6_compare 44 = .ok (.iadd, 1) := by decide +kernel
theorem dX6_compare_45 : decode cX6_compare 45 = .ok (.iaload, 1) := by decide +kernel
theorem dX6_compare_46 : decode cX6_compare 46 = .ok (.iadd, 1) := by decide +kernel
theorem dX6_compare_47 : decode cX6_compare 47 = .ok (.iaload, 1) := by decide +kernel
theorem dX6_compare_48 : decode cX6_compare 48 = .ok (.isub, 1) := by decide +kernel
theorem dX6_compare_49 : decode cX6_compare 49 = .ok (.aload_n 0, 1) := by decide +kernel
theorem dX6_compare_50 : decode cX6_compare 50 = .ok (.getfield 22, 3) := by decide +kernel
theorem dX6_compare_53 : decode cX6_compare 53 = .ok (.iload 5, 2) := by decide +kernel
theorem dX6_compare_55 : decode cX6_compare 55 = .ok (.iaload, 1) := by decide +kernel
theorem dX6_compare_56 : decode cX6_compare 56 = .ok (.imul, 1) := by decide +kernel
theorem dX6_compare_57 : decode cX6_compare 57 = .ok (.iadd, 1) := by decide +kernel
theorem dX6_compare_58 : decode cX6_compare 58 = .ok (.istore_n 3, 1) := by decide +kernel
theorem dX6_compare_59 : decode cX6_compare 59 = .ok (.iinc 5 1, 3) := by decide +kernel
theorem dX6_compare_62 : decode cX6_compare 62 = .ok (.goto (-51), 3) := by decide +kernel
theorem dX6_compare_65 : decode cX6_compare 65 = .ok (.aload_n 0, 1) := by decide +kernel
theorem dX6_compare_66 : decode cX6_compare 66 = .ok (.iconst 0, 1) := by decide +kernel
theorem dX6_compare_67 : decode cX6_compare 67 = .ok (.putfield 37, 3) := by decide +kernel
theorem dX6_compare_70 : decode cX6_compare 70 = .ok (.aload_n 0, 1) := by decide +kernel
theorem dX6_compare_71 : decode cX6_compare 71 = .ok (.lconst 0, 1) := by decide +kernel
theorem dX6_compare_72 : decode cX6_compare 72 = .ok (.putfield 40, 3) := by decide +kernel
theorem dX6_compare_75 : decode cX6_compare 75 = .ok (.aload_n 0, 1) := by decide +kernel
theorem dX6_compare_76 : decode cX6_compare 76 = .ok (.getfield 31, 3) := by decide +kernel
theorem dX6_compare_79 : decode cX6_compare 79 = .ok (.ifCond .le 57, 3) := by decide +kernel
theorem dX6_compare_82 : decode cX6_compare 82 = .ok (.aload_n 0, 1) := by decide +kernel
theorem dX6_compare_83 : decode cX6_compare 83 = .ok (.aload_n 0, 1) := by decide +kernel
theorem dX6_compare_84 : decode cX6_compare 84 = .ok (.getfield 72, 3) := by decide +kernel
theorem dX6_compare_87 : decode cX6_compare 87 = .ok (.getfield 182, 3) := by decide +kernel
theorem dX6_compare_90 : decode cX6_compare 90 = .ok (.iconst 1, 1) := by decide +kernel
theorem dX6_compare_91 : decode cX6_compare 91 = .ok (.if_icmp .ne 12, 3) := by decide +kernel
theorem dX6_compare_94 : decode cX6_compare 94 = .ok (.iload_n 3, 1) := by decide +kernel
theorem dX6_compare_95 : decode cX6_compare 95 = .ok (.aload_n 0, 1) := by decide +kernel
theorem dX6_compare_96 : decode cX6_compare 96 = .ok (.getfield 31, 3) := by decide +kernel
theorem dX6_compare_99 : decode cX6_compare 99 = .ok (.idiv, 1) := by decide +kernel
theorem dX6_compare_100 : decode cX6_compare 100 = .ok (.goto 4, 3) := by decide +kernel
theorem dX6_compare_103 : decode cX6_compare 103 = .ok (.iconst 0, 1) := by decide +kernel
theorem dX6_compare_104 : decode cX6_compare 104 = .ok (.putfield 37, 3) := by decide +kernel
theorem dX6_compare_107 : decode cX6_compare 107 = .ok (.iload_n 3, 1) := by decide +kernel
theorem dX6_compare_108 : decode cX6_compare 108 = .ok (.aload_n 0, 1) := by decide +kernel
theorem dX6_compare_109 : decode cX6_compare 109 = .ok (.getfield 37, 3) := by decide +kernel
theorem dX6_compare_112 : decode cX6_compare 112 = .ok (.aload_n 0, 1) := by decide +kernel
theorem dX6_compare_113 : decode cX6_compare 113 = .ok (.getfield 31, 3) := by decide +kernel
theorem dX6_compare_116 : decode cX6_compare 116 = .ok (.imul, 1) := by decide +kernel
theorem dX6_compare_117 : decode cX6_compare 117 = .ok (.isub, 1) := by decide +kernel
theorem dX6_compare_118 : decode cX6_compare 118 = .ok (.i2l, 1) := by decide +kernel
theorem dX6_compare_119 : decode cX6_compare 119 = .ok (.lstore 5, 2) := by decide +kernel
theorem dX6_compare_121 : decode cX6_compare 121 = .ok (.aload_n 0, 1) := by decide +kernel
theorem dX6_compare_122 : decode cX6_compare 122 = .ok (.lload 5, 2) := by decide +kernel
theorem dX6_compare_124 : decode cX6_compare 124 = .ok (.lload 5, 2) := by decide +kernel
theorem dX6_compare_126 : decode cX6_compare 126 = .ok (.lmul, 1) := by decide +kernel
theorem dX6_compare_127 : decode cX6_compare 127 = .ok (.aload_n 0, 1) := by decide +kernel
theorem dX6_compare_128 : decode cX6_compare 128 = .ok (.getfield 31, 3) := by decide +kernel
theorem dX6_compare_131 : decode cX6_compare 131 = .ok (.i2l, 1) := by decide +kernel
theorem dX6_compare_132 : decode cX6_compare 132 = .ok (.ldiv, 1) := by decide +kernel
theorem dX6_compare_133 : decode cX6_compare 133 = .ok (.putfield 40, 3) := by decide +kernel
theorem dX6_compare_136 : decode cX6_compare 136 = .ok (.return_, 1) := by decide +kernel
set_option maxHeartbeats 4000000 in
set_option maxRecDepth 100000 in
theorem tX6_compare {l : Launch} {g : yG} {n : Nat} {σ : yM} (k cs : Nat) (w h : Int) (T S F P O : Int → Int → Int) (s re fo ra tu we sh : Int) (hn : 172 ≤ n) (hP : isPic k) (hcs : isSet cs) (hA : rC σ k w h T S F P O) (hS : rS σ cs s re fo ra tu we sh) (hk : k + 5 < 120 ∨ 130 < k) (hc2 : cs < 120 ∨ 130 < cs) (ax ay : Int) (hB : rA σ k cs ax ay) (u v way : Int) (huv : sIn w h u v = true) (hwy : 0 ≤ way ∧ way < 8) (hq : sPl w h T s u v) (hG : rG σ w T S we ax ay (kL w h T s ax ay)) : yMet l g yX6_compare cX6_compare 7 none (rmL 1) [yR g 123, yI (v * w + u), yI way] (SC g) n σ (SC g) (yPv (fun n' σ' => n' = n ∧ fk 123 10 11 σ σ' ∧ σ' 123 10 = sSh w h T S s we sh ax ay u v way ∧ σ' 123 11 = sBo w h T S s we sh ax ay u v way)) := by
  obtain ⟨hw1, hw2, hw3, hw4⟩ := id hA.1.1
  obtain ⟨hs1, hs2, hs3, hs4, hs5, hs6, hs7⟩ := id hS.2
  have zkn : k < n := by have := hP.1; omega
  have zcsn : cs < n := by have := hcs.1; omega
  have z123 : 123 < n := by omega
  have z124 : 124 < n := by omega
  have z125 : 125 < n := by omega
  have z126 : 126 < n := by omega
  have z127 : 127 < n := by omega
  have zkn1 : k + 1 < n := by have := hP.1; omega
  have zkn2 : k + 2 < n := by have := hP.1; omega
  have zkn3 : k + 3 < n := by have := hP.1; omega
  have zkn4 : k + 4 < n := by have := hP.1; omega
  have zkn5 : k + 5 < n := by have := hP.1; omega
  have zln := kL_len (w := w) (h := h) (T := T) (x := ax) (y := ay) hs1
  have zu := sIn_iff.mp huv
  have zB2 := sB2_bd hA.1 (we := we) (way := way) (x := ax) (y := ay) ⟨by omega, hs1.2⟩ hq
  have zSH := sSh_bd hA.1 (we := we) (sh := sh) (way := way) (x := ax) (y := ay) ⟨by omega, hs1.2⟩ hq
  refine y_start (by decide) (Nat.le_of_ble_eq_true rfl) (fun X0 hF => ?_)
  show yV X0 g 7 (yQ X0 g (SC g) (yPv (fun n' σ' => n' = n ∧ fk 123 10 11 σ σ' ∧ σ' 123 10 = sSh w h T S s we sh ax ay u v way ∧ σ' 123 11 = sBo w h T S s we sh ax ay u v way)) (rmL 1)) (SC g) n σ 0 0 0 [(0, yR g 123), (1, yI (v * w + u)), (2, yI way)] []
  refine y_iconst (pc := 0) hF dX6_compare_0 ?_
  refine y_istore_n (pc := 1) (lv' := [(0, yR g 123), (1, yI (v * w + u)), (2, yI way), (3, yI 0)]) hF dX6_compare_1 (by decide) rfl rfl ?_
  refine y_iload_n (pc := 2) hF dX6_compare_2 2 rfl ?_
  refine y_bipush (pc := 3) hF dX6_compare_3 (by decide) ?_
  refine y_imul (pc := 5) hF dX6_compare_5 ?_
  refine y_istore (pc := 6) (lv' := [(0, yR g 123), (1, yI (v * w + u)), (2, yI way), (3, yI 0), (4, yI (way * 49))]) hF dX6_compare_6 (by decide) rfl rfl ?_
  refine y_iconst (pc := 8) hF dX6_compare_8 ?_
  refine y_istore (pc := 9) (lv' := [(0, yR g 123), (1, yI (v * w + u)), (2, yI way), (3, yI 0), (4, yI (way * 49)), (5, yI 0)]) hF dX6_compare_9 (by decide) rfl rfl ?_
  have zL11 : ∀ (N : Nat) (m c : Int), N = (((kL w h T s ax ay).length : Int) - m).toNat → ((0 ≤ m ∧ m ≤ ((kL w h T s ax ay).length : Int)) ∧ c = (fr (fun q i => cmG T S we ax ay u v way q (gk (kL w h T s ax ay) i)) 0 m.toNat (0, 0)).1) → yV X0 g 7 (yQ X0 g (SC g) (yPv (fun n' σ' => n' = n ∧ fk 123 10 11 σ σ' ∧ σ' 123 10 = sSh w h T S s we sh ax ay u v way ∧ σ' 123 11 = sBo w h T S s we sh ax ay u v way)) (rmL 1)) (SC g) n σ 0 0 11 [(0, yR g 123), (1, yI (v * w + u)), (2, yI way), (3, yI c), (4, yI (way * 49)), (5, yI m)] [] := by
    intro N
    induction N using Nat.strongRecOn with
    | ind N zh11 =>
      intro m c  zN11 zI11
      refine y_iload (pc := 11) hF dX6_compare_11 5 rfl ?_
      refine y_aload_n (pc := 13) hF dX6_compare_13 0 rfl ?_
      refine y_get (pc := 14) (ci := 6) hF dX6_compare_14 z123 rfl rfl rfl iX6 7 (by decide) w_372 rfl ?_
      rw [show σ 123 7 = ((kL w h T s ax ay).length : Int) from hG.1]
      refine y_icmp_ge (pc := 17) hF dX6_compare_17 65 rfl (by omega) (by omega) (fun zc17 => ?_) (fun zc17 => ?_)
      · skip
        have zc1 : c = (sB2 w h T S s we ax ay u v way).1 := by rw [zI11.2, show m.toNat = (kL w h T s ax ay).length by omega, cm_all]
        refine y_aload_n (pc := 65) hF dX6_compare_65 0 rfl ?_
        refine y_iconst (pc := 66) hF dX6_compare_66 ?_
        refine y_putf (pc := 67) (ci := 6) (σ' := yset σ 123 10 0) (sch' := (SC g)) hF dX6_compare_67 z123 rfl rfl rfl iX6 10 (by decide) w_375 tyX6 tyX6_ok nmX6 rfl rfl rfl rfl (Nat.le_of_ble_eq_true rfl) rfl (y_ps rfl) (fun k' h => ⟨yset_n h, rfl⟩) ?_
        refine y_aload_n (pc := 70) hF dX6_compare_70 0 rfl ?_
        refine y_lconst (pc := 71) (v := 0) hF dX6_compare_71 rfl ?_
        refine y_putf (pc := 72) (ci := 6) (σ' := yset (yset σ 123 10 0) 123 11 0) (sch' := (SC g)) hF dX6_compare_72 z123 rfl rfl rfl iX6 11 (by decide) w_376 tyX6 tyX6_ok nmX6 rfl rfl rfl rfl (Nat.le_of_ble_eq_true rfl) rfl (y_ps rfl) (fun k' h => ⟨yset_n h, rfl⟩) ?_
        obtain ⟨τ0, hτ0⟩ : ∃ s, s = yset (yset σ 123 10 0) 123 11 0 := ⟨_, rfl⟩
        rw [← hτ0]
        have zf0 : fk 123 10 11 σ τ0 := by rw [hτ0]; exact ((fk.rf σ).st (by omega)).st (by omega)
        have zB_τ0 := hB.fr (fun j _ _ => zf0 123 j (by omega))
        have zA_τ0 := hA.fc (by omega) zf0.fc
        have zS_τ0 := hS.fc (by omega) zf0.fc
        have zW0 : τ0 123 8 = (sB2 w h T S s we ax ay u v way).2 := by rw [zf0 123 8 (by omega)]; exact hG.W
        refine y_aload_n (pc := 75) hF dX6_compare_75 0 rfl ?_
        refine y_get (pc := 76) (ci := 6) hF dX6_compare_76 z123 rfl rfl rfl iX6 8 (by decide) w_373 rfl ?_
        rw [show τ0 123 8 = (sB2 w h T S s we ax ay u v way).2 from zW0]
        refine y_if_le (pc := 79) hF dX6_compare_79 136 rfl (by omega) (fun zc79 => ?_) (fun zc79 => ?_)
        · skip
          exact y_vret (pc := 136) hF dX6_compare_136 (Nat.zero_le _) (Nat.zero_le _) ⟨rfl, rfl, zf0, by rw [hτ0]; simp [yset_ap]; unfold sSh; rw [if_pos (Or.inr (by omega))], by rw [hτ0]; simp [yset_ap]; unfold sBo; rw [if_pos (by omega)]⟩
        · skip
          have zJ104 : ∀ (b : Int), (b = sSh w h T S s we sh ax ay u v way) → yV X0 g 7 (yQ X0 g (SC g) (yPv (fun n' σ' => n' = n ∧ fk 123 10 11 σ σ' ∧ σ' 123 10 = sSh w h T S s we sh ax ay u v way ∧ σ' 123 11 = sBo w h T S s we sh ax ay u v way)) (rmL 1)) (SC g) n τ0 0 0 104 [(0, yR g 123), (1, yI (v * w + u)), (2, yI way), (3, yI c), (4, yI (way * 49)), (5, yI m)] [yI b, yR g 123] := by
            intro b  zb
            refine y_putf (pc := 104) (ci := 6) (σ' := yset τ0 123 10 b) (sch' := (SC g)) hF dX6_compare_104 z123 rfl rfl rfl iX6 10 (by decide) w_375 tyX6 tyX6_ok nmX6 rfl rfl rfl rfl (Nat.le_of_ble_eq_true rfl) rfl (y_ps rfl) (fun k' h => ⟨yset_n h, rfl⟩) ?_
            obtain ⟨τ1, hτ1⟩ : ∃ s, s = yset τ0 123 10 b := ⟨_, rfl⟩
            rw [← hτ1]
            have zf1 : fk 123 10 11 σ τ1 := by rw [hτ1]; exact zf0.st (by omega)
            have zW1 : τ1 123 8 = (sB2 w h T S s we ax ay u v way).2 := by rw [zf1 123 8 (by omega)]; exact hG.W
            have zb1 : τ1 123 10 = b := by rw [hτ1]; simp [yset_ap]
            have zbc1 : b * (sB2 w h T S s we ax ay u v way).2 ≤ 255 * (sB2 w h T S s we ax ay u v way).2 := Int.mul_le_mul_of_nonneg_right (by omega) (by omega)
            have zbc2 : -255 * (sB2 w h T S s we ax ay u v way).2 ≤ b * (sB2 w h T S s we ax ay u v way).2 := Int.mul_le_mul_of_nonneg_right (by omega) (by omega)
            have zd : -1000000 ≤ c - b * (sB2 w h T S s we ax ay u v way).2 ∧ c - b * (sB2 w h T S s we ax ay u v way).2 ≤ 1000000 := by omega
            refine y_iload_n (pc := 107) hF dX6_compare_107 3 rfl ?_
            refine y_aload_n (pc := 108) hF dX6_compare_108 0 rfl ?_
            refine y_get (pc := 109) (ci := 6) hF dX6_compare_109 z123 rfl rfl rfl iX6 10 (by decide) w_375 rfl ?_
            rw [show τ1 123 10 = b from zb1]
            refine y_aload_n (pc := 112) hF dX6_compare_112 0 rfl ?_
            refine y_get (pc := 113) (ci := 6) hF dX6_compare_113 z123 rfl rfl rfl iX6 8 (by decide) w_373 rfl ?_
            rw [show τ1 123 8 = (sB2 w h T S s we ax ay u v way).2 from zW1]
            refine y_imul (pc := 116) hF dX6_compare_116 ?_
            refine y_isub (pc := 117) hF dX6_compare_117 ?_
            refine y_i2l (pc := 118) hF dX6_compare_118 (by omega) ?_
            refine y_lstore (pc := 119) (lv' := [(0, yR g 123), (1, yI (v * w + u)), (2, yI way), (3, yI c), (4, yI (way * 49)), (5, yJ (c - (b * ((sB2 w h T S s we ax ay u v way).2))))]) hF dX6_compare_119 (by decide) rfl rfl rfl ?_
            refine y_aload_n (pc := 121) hF dX6_compare_121 0 rfl ?_
            refine y_lload (pc := 122) hF dX6_compare_122 5 rfl ?_
            refine y_lload (pc := 124) hF dX6_compare_124 5 rfl ?_
            refine y_lmul (pc := 126) hF dX6_compare_126 ?_
            refine y_aload_n (pc := 127) hF dX6_compare_127 0 rfl ?_
            refine y_get (pc := 128) (ci := 6) hF dX6_compare_128 z123 rfl rfl rfl iX6 8 (by decide) w_373 rfl ?_
            rw [show τ1 123 8 = (sB2 w h T S s we ax ay u v way).2 from zW1]
            refine y_i2l (pc := 131) hF dX6_compare_131 (by omega) ?_
            refine y_ldiv (pc := 132) hF dX6_compare_132 (y_sqL zd) (by omega) (by omega) ?_
            refine y_putf (pc := 133) (ci := 6) (σ' := yset τ1 123 11 (Int.tdiv ((c - (b * ((sB2 w h T S s we ax ay u v way).2))) * (c - (b * ((sB2 w h T S s we ax ay u v way).2)))) ((sB2 w h T S s we ax ay u v way).2))) (sch' := (SC g)) hF dX6_compare_133 z123 rfl rfl rfl iX6 11 (by decide) w_376 tyX6 tyX6_ok nmX6 rfl rfl rfl rfl (Nat.le_of_ble_eq_true rfl) rfl (y_ps rfl) (fun k' h => ⟨yset_n h, rfl⟩) ?_
            exact y_vret (pc := 136) hF dX6_compare_136 (Nat.zero_le _) (Nat.zero_le _) ⟨rfl, rfl, zf1.st (by omega), by rw [yset_ap, if_neg (by omega), zb1, zb], by rw [yset_ap, if_pos ⟨rfl, rfl⟩]; unfold sBo; rw [if_neg (by omega), zc1, zb]⟩
          refine y_aload_n (pc := 82) hF dX6_compare_82 0 rfl ?_
          refine y_aload_n (pc := 83) hF dX6_compare_83 0 rfl ?_
          refine y_get (pc := 84) (ci := 6) hF dX6_compare_84 z123 rfl rfl rfl iX6 1 (by decide) w_362 rfl ?_
          rw [show (τ0 123 1).toNat = cs from zB_τ0.c]
          refine y_getN (pc := 87) (ci := 7) hF dX6_compare_87 zcsn (hcs.2 g) rfl rfl iX7 6 (by decide) w_184 rfl ?_
          rw [show τ0 cs 6 = sh from zS_τ0.1.2.2.2.2.2.2]
          refine y_iconst (pc := 90) hF dX6_compare_90 ?_
          refine y_icmp_ne (pc := 91) hF dX6_compare_91 103 rfl (by omega) (by omega) (fun zc91 => ?_) (fun zc91 => ?_)
          · skip
            refine y_iconst (pc := 103) hF dX6_compare_103 ?_
            exact zJ104 (0) (by unfold sSh; rw [if_pos (Or.inl (by omega))])
          · skip
            refine y_iload_n (pc := 94) hF dX6_compare_94 3 rfl ?_
            refine y_aload_n (pc := 95) hF dX6_compare_95 0 rfl ?_
            refine y_get (pc := 96) (ci := 6) hF dX6_compare_96 z123 rfl rfl rfl iX6 8 (by decide) w_373 rfl ?_
            rw [show τ0 123 8 = (sB2 w h T S s we ax ay u v way).2 from zW0]
            refine y_idiv (pc := 99) hF dX6_compare_99 (by omega) (by omega) (by omega) ?_
            refine y_goto (pc := 100) hF dX6_compare_100 104 rfl ?_
            exact zJ104 (Int.tdiv c ((sB2 w h T S s we ax ay u v way).2)) (by unfold sSh; rw [if_neg (by omega), zc1])
      · skip
        have zm0 : m < ((kL w h T s ax ay).length : Int) := by omega
        have zgm := hG.2.2 m (by omega) zm0
        have zka := kL_at (w := w) (h := h) (T := T) (x := ax) (y := ay) (s := s) (by omega) (show 0 ≤ m by omega) zm0
        have zks := hq.at (way := way) (x := ax) (y := ay) zka.2.1 zka.2.2
        have zki := sIn_iff.mp (sKn_in zks)
        have zkx := y_ix (w := w) (h := h) (x := u + wX way ((gk (kL w h T s ax ay) m).1 - ax) ((gk (kL w h T s ax ay) m).2 - ay)) (y := v + wY way ((gk (kL w h T s ax ay) m).1 - ax) ((gk (kL w h T s ax ay) m).2 - ay)) ⟨hw1, hw2⟩ ⟨hw3, hw4⟩ (by omega) (by omega)
        have zke : v * w + u + (wY way ((gk (kL w h T s ax ay) m).1 - ax) ((gk (kL w h T s ax ay) m).2 - ay) * w + wX way ((gk (kL w h T s ax ay) m).1 - ax) ((gk (kL w h T s ax ay) m).2 - ay)) = (v + wY way ((gk (kL w h T s ax ay) m).1 - ax) ((gk (kL w h T s ax ay) m).2 - ay)) * w + (u + wX way ((gk (kL w h T s ax ay) m).1 - ax) ((gk (kL w h T s ax ay) m).2 - ay)) := by rw [Int.add_mul]; omega
        have zkm := hA.2.2.2 (u + wX way ((gk (kL w h T s ax ay) m).1 - ax) ((gk (kL w h T s ax ay) m).2 - ay)) (v + wY way ((gk (kL w h T s ax ay) m).1 - ax) ((gk (kL w h T s ax ay) m).2 - ay)) (by omega) (by omega) (by omega) (by omega)
        refine y_iload_n (pc := 20) hF dX6_compare_20 3 rfl ?_
        refine y_aload_n (pc := 21) hF dX6_compare_21 0 rfl ?_
        refine y_get (pc := 22) (ci := 6) hF dX6_compare_22 z123 rfl rfl rfl iX6 4 (by decide) w_369 rfl ?_
        refine y_iload (pc := 25) hF dX6_compare_25 5 rfl ?_
        refine y_iaload (pc := 27) hF dX6_compare_27 z124 rfl (by omega) (by decide) ?_
        rw [show σ 124 m = T (gk (kL w h T s ax ay) m).1 (gk (kL w h T s ax ay) m).2 from zgm.1]
        refine y_aload_n (pc := 28) hF dX6_compare_28 0 rfl ?_
        refine y_get (pc := 29) (ci := 6) hF dX6_compare_29 z123 rfl rfl rfl iX6 0 (by decide) w_361 rfl ?_
        rw [show (σ 123 0).toNat = k from hB.k]
        refine y_getN (pc := 32) (ci := 4) hF dX6_compare_32 zkn (hP.2 g).1 rfl rfl iX4 2 (by decide) w_220 rfl ?_
        refine y_iload_n (pc := 35) hF dX6_compare_35 1 rfl ?_
        refine y_aload_n (pc := 36) hF dX6_compare_36 0 rfl ?_
        refine y_get (pc := 37) (ci := 6) hF dX6_compare_37 z123 rfl rfl rfl iX6 6 (by decide) w_371 rfl ?_
        refine y_iload (pc := 40) hF dX6_compare_40 4 rfl ?_
        refine y_iload (pc := 42) hF dX6_compare_42 5 rfl ?_
        refine y_iadd (pc := 44) hF dX6_compare_44 ?_
        refine y_iaload (pc := 45) hF dX6_compare_45 z126 rfl (by omega) (by decide) ?_
        rw [show σ 126 ((way * 49) + m) = wY way ((gk (kL w h T s ax ay) m).1 - ax) ((gk (kL w h T s ax ay) m).2 - ay) * w + wX way ((gk (kL w h T s ax ay) m).1 - ax) ((gk (kL w h T s ax ay) m).2 - ay) from (zgm.2.2 way hwy.1 hwy.2)]
        refine y_iadd (pc := 46) hF dX6_compare_46 ?_
        refine y_iaload (pc := 47) hF dX6_compare_47 zkn1 (hP.2 g).2.1 (by rw [zke]; omega) (by decide) ?_
        rw [show σ (k + 1) ((v * w + u) + (wY way ((gk (kL w h T s ax ay) m).1 - ax) ((gk (kL w h T s ax ay) m).2 - ay) * w + wX way ((gk (kL w h T s ax ay) m).1 - ax) ((gk (kL w h T s ax ay) m).2 - ay))) = T (u + wX way ((gk (kL w h T s ax ay) m).1 - ax) ((gk (kL w h T s ax ay) m).2 - ay)) (v + wY way ((gk (kL w h T s ax ay) m).1 - ax) ((gk (kL w h T s ax ay) m).2 - ay)) from (by rw [zke]; exact zkm.1)]
        refine y_isub (pc := 48) hF dX6_compare_48 ?_
        rw [show (T (gk (kL w h T s ax ay) m).1 (gk (kL w h T s ax ay) m).2) - (T (u + wX way ((gk (kL w h T s ax ay) m).1 - ax) ((gk (kL w h T s ax ay) m).2 - ay)) (v + wY way ((gk (kL w h T s ax ay) m).1 - ax) ((gk (kL w h T s ax ay) m).2 - ay))) = sAp T ax ay (gk (kL w h T s ax ay) m).1 (gk (kL w h T s ax ay) m).2 u v way from rfl]
        refine y_aload_n (pc := 49) hF dX6_compare_49 0 rfl ?_
        refine y_get (pc := 50) (ci := 6) hF dX6_compare_50 z123 rfl rfl rfl iX6 5 (by decide) w_370 rfl ?_
        refine y_iload (pc := 53) hF dX6_compare_53 5 rfl ?_
        refine y_iaload (pc := 55) hF dX6_compare_55 z125 rfl (by omega) (by decide) ?_
        rw [show σ 125 m = sWt S we (gk (kL w h T s ax ay) m).1 (gk (kL w h T s ax ay) m).2 from zgm.2.1]
        refine y_imul (pc := 56) hF dX6_compare_56 ?_
        refine y_iadd (pc := 57) hF dX6_compare_57 ?_
        refine y_istore_n (pc := 58) (lv' := [(0, yR g 123), (1, yI (v * w + u)), (2, yI way), (3, yI (c + ((sAp T ax ay (gk (kL w h T s ax ay) m).1 (gk (kL w h T s ax ay) m).2 u v way) * (sWt S we (gk (kL w h T s ax ay) m).1 (gk (kL w h T s ax ay) m).2)))), (4, yI (way * 49)), (5, yI m)]) hF dX6_compare_58 (by decide) rfl rfl ?_
        refine y_iinc (pc := 59) (lv' := [(0, yR g 123), (1, yI (v * w + u)), (2, yI way), (3, yI (c + ((sAp T ax ay (gk (kL w h T s ax ay) m).1 (gk (kL w h T s ax ay) m).2 u v way) * (sWt S we (gk (kL w h T s ax ay) m).1 (gk (kL w h T s ax ay) m).2)))), (4, yI (way * 49)), (5, yI (m + 1))]) hF dX6_compare_59 5 rfl (by decide) rfl rfl ?_
        refine y_goto (pc := 62) hF dX6_compare_62 11 rfl ?_
        exact zh11 _ (by omega) (m + 1) (c + ((sAp T ax ay (gk (kL w h T s ax ay) m).1 (gk (kL w h T s ax ay) m).2 u v way) * (sWt S we (gk (kL w h T s ax ay) m).1 (gk (kL w h T s ax ay) m).2))) rfl ⟨by omega, cm_up zI11.1.1 zI11.2⟩
  exact zL11 _ (0) (0) rfl ⟨by omega, rfl⟩
