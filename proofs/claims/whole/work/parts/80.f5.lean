theorem dX10_isSeam_0 : decode cX10_isSeam 0 = .ok (.aload_n 0, 1) := by decide +kernel
theorem dX10_isSeam_1 : decode cX10_isSeam 1 = .ok (.getfield 26, 3) := by decide +kernel
theorem dX10_isSeam_4 : decode cX10_isSeam 4 = .ok (.getfield 176, 3) := by decide +kernel
theorem dX10_isSeam_7 : decode cX10_isSeam 7 = .ok (.iload_n 1, 1) := by decide +kernel
theorem dX10_isSeam_8 : decode cX10_isSeam 8 = .ok (.iaload, 1) := by decide +kernel
theorem dX10_isSeam_9 : decode cX10_isSeam 9 = .ok (.iconst (-1), 1) := by decide +kernel
theorem dX10_isSeam_10 : decode cX10_isSeam 10 = .ok (.if_icmp .eq 15, 3) := by decide +kernel
theorem dX10_isSeam_13 : decode cX10_isSeam 13 = .ok (.aload_n 0, 1) := by decide +kernel
theorem dX10_isSeam_14 : decode cX10_isSeam 14 = .ok (.getfield 26, 3) := by decide +kernel
theorem dX10_isSeam_17 : decode cX10_isSeam 17 = .ok (.iload_n 2, 1) := by decide +kernel
theorem dX10_isSeam_18 : decode cX10_isSeam 18 = .ok (.iload_n 3, 1) := by decide +kernel
theorem dX10_isSeam_19 : decode cX10_isSeam 19 = .ok (.invokevirtual 159, 3) := by decide +kernel
theorem dX10_isSeam_22 : decode cX10_isSeam 22 = .ok (.ifCond .ne 5, 3) := by decide +kernel
theorem dX10_isSeam_25 : decode cX10_isSeam 25 = .ok (.iconst 0, 1) := by decide +kernel
theorem dX10_isSeam_26 : decode cX10_isSeam 26 = .ok (.ireturn, 1) := by decide +kernel
theorem dX10_isSeam_27 : decode cX10_isSeam 27 = .ok (.aload_n 0, 1) := by decide +kernel
theorem dX10_isSeam_28 : decode cX10_isSeam 28 = .ok (.getfield 26, 3) := by decide +kernel
theorem dX10_isSeam_31 : decode cX10_isSeam 31 = .ok (.getfield 236, 3) := by decide +kernel
theorem dX10_isSeam_34 : decode cX10_isSeam 34 = .ok (.iload_n 1, 1) := by decide +kernel
theorem dX10_isSeam_35 : decode cX10_isSeam 35 = .ok (.iaload, 1) := by decide +kernel
theorem dX10_isSeam_36 : decode cX10_isSeam 36 = .ok (.ifCond .le 7, 3) := by decide +kernel
theorem dX10_isSeam_39 : decode cX10_isSeam 39 = .ok (.iconst 1, 1) := by decide +kernel
theorem dX10_isSeam_40 : decode cX10_isSeam 40 = .ok (.goto 4, 3) := by decide +kernel
theorem dX10_isSeam_43 : decode cX10_isSeam 43 = .ok (.iconst 0, 1) := by decide +kernel
theorem dX10_isSeam_44 : decode cX10_isSeam 44 = .ok (.aload_n 0, 1) := by decide +kernel
theorem dX10_isSeam_45 : decode cX10_isSeam 45 = .ok (.getfield 26, 3) := by decide +kernel
theorem dX10_isSeam_48 : decode cX10_isSeam 48 = .ok (.getfield 236, 3) := by decide +kernel
theorem dX10_isSeam_51 : decode cX10_isSeam 51 = .ok (.aload_n 0, 1) := by decide +kernel
theorem dX10_isSeam_52 : decode cX10_isSeam 52 = .ok (.getfield 26, 3) := by decide +kernel
theorem dX10_isSeam_55 : decode cX10_isSeam 55 = .ok (.iload_n 2, 1) := by decide +kernel
theorem dX10_isSeam_56 : decode cX10_isSeam 56 = .ok (.iload_n 3, 1) := by decide +kernel
theorem dX10_isSeam_57 : decode cX10_isSeam 57 = .ok (.invokevirtual 169, 3) := by decide +kernel
theorem dX10_isSeam_60 : decode cX10_isSeam 60 = .ok (.iaload, 1) := by decide +kernel
theorem dX10_isSeam_61 : decode cX10_isSeam 61 = .ok (.ifCond .le 7, 3) := by decide +kernel
theorem dX10_isSeam_64 : decode cX10_isSeam 64 = .ok (.iconst 1, 1) := by decide +kernel
theorem dX10_isSeam_65 : decode cX10_isSeam 65 = .ok (.goto 4, 3) := by decide +kernel
theorem dX10_isSeam_68 : decode cX10_isSeam 68 = .ok (.iconst 0, 1) := by decide +kernel
theorem dX10_isSeam_69 : decode cX10_isSeam 69 = .ok (.if_icmp .eq 7, 3) := by decide +kernel
theorem dX10_isSeam_72 : decode cX10_isSeam 72 = .ok (.iconst 1, 1) := by decide +kernel
theorem dX10_isSeam_73 : decode cX10_isSeam 73 = .ok (.goto 4, 3) := by decide +kernel
theorem dX10_isSeam_76 : decode cX10_isSeam 76 = .ok (.iconst 0, 1) := by decide +kernel
theorem dX10_isSeam_77 : decode cX10_isSeam 77 = .ok (.ireturn, 1) := by decide +kernel
set_option maxHeartbeats 4000000 in
set_option maxRecDepth 100000 in
theorem tX10_isSeam {l : Launch} {g : yG} {n : Nat} {σ : yM} (hn : 172 ≤ n) (w h : Int) (T S F P O : Int → Int → Int) (hA : rC σ 5 w h T S F P O) (a b : Int) (hi : sIn w h a b = true) (x y : Int) (hx : -1000 ≤ x ∧ x ≤ 1000) (hy : -1000 ≤ y ∧ y ≤ 1000) (f : Int) (hf : f = b * w + a) : yMet l g yX10_isSeam cX10_isSeam 4 (some .boolean) (rmL 3) [yR g 0, yI f, yI x, yI y] (SC g) n σ (SC g) (yPp (bi (sKn w h T a b && (sKn w h T x y && (decide (0 < F a b) != decide (0 < F x y))))) n σ) := by
  subst hf
  obtain ⟨hw1, hw2, hw3, hw4⟩ := id hA.1.1
  have zi := sIn_iff.mp hi
  have zix := y_ix (w := w) (h := h) (x := a) (y := b) ⟨hw1, hw2⟩ ⟨hw3, hw4⟩ (by omega) (by omega)
  have zm := hA.2.2.2 a b zi.1 zi.2.1 zi.2.2.1 zi.2.2.2
  have za := hA.1.2 a b zi.1 zi.2.1 zi.2.2.1 zi.2.2.2
  have z4 : 0 ≤ b * w + a ∧ b * w + a < (400 : Int) := by omega
  refine y_start (by decide) (Nat.le_of_ble_eq_true rfl) (fun X0 hF => ?_)
  show yV X0 g 4 (yQ X0 g (SC g) (yPp (bi (sKn w h T a b && (sKn w h T x y && (decide (0 < F a b) != decide (0 < F x y))))) n σ) (rmL 3)) (SC g) n σ 0 0 0 [(0, yR g 0), (1, yI (b * w + a)), (2, yI x), (3, yI y)] []
  refine y_aload_n (pc := 0) hF dX10_isSeam_0 0 rfl ?_
  refine y_get (pc := 1) (ci := 10) hF dX10_isSeam_1 (by omega) rfl rfl rfl iX10 2 (by decide) w_489 rfl ?_
  refine y_getN (pc := 4) (ci := 4) hF dX10_isSeam_4 (by have := pic_5.1; omega) (pic_5.2 g).1 rfl rfl iX4 2 (by decide) w_223 rfl ?_
  refine y_iload_n (pc := 7) hF dX10_isSeam_7 1 rfl ?_
  refine y_iaload (pc := 8) hF dX10_isSeam_8 (by have := pic_5.1; omega) (pic_5.2 g).2.1 z4 (by decide) ?_
  rw [show σ (5 + 1) (b * w + a) = T a b from zm.1]
  refine y_iconst (pc := 9) hF dX10_isSeam_9 ?_
  refine y_icmp_eq (pc := 10) hF dX10_isSeam_10 25 rfl (by omega) (by omega) (fun zc10 => ?_) (fun zc10 => ?_)
  · skip
    refine y_iconst (pc := 25) hF dX10_isSeam_25 ?_
    exact y_zret (pc := 26) hF dX10_isSeam_26 (by decide) (Nat.zero_le _) (Nat.zero_le _) ⟨_, rfl, by rw [show (sKn w h T a b && (sKn w h T x y && (decide (0 < F a b) != decide (0 < F x y)))) = false by simp [sKn, zc10]]; rfl, rfl, rfl⟩
  · skip
    refine y_aload_n (pc := 13) hF dX10_isSeam_13 0 rfl ?_
    refine y_get (pc := 14) (ci := 10) hF dX10_isSeam_14 (by omega) rfl rfl rfl iX10 2 (by decide) w_489 rfl ?_
    refine y_iload_n (pc := 17) hF dX10_isSeam_17 2 rfl ?_
    refine y_iload_n (pc := 18) hF dX10_isSeam_18 3 rfl ?_
    have zz19 := y_rV (pc := 19) hF (tX4_isKnown (n := n) (σ := σ) 5 w h T S F P O hn pic_5 hA x y (by omega) (by omega)) dX10_isSeam_19 (by have := pic_5.1; omega) (pic_5.2 g).1 rfl rfl w_780 qX4_isKnown rfl ⟨Nat.le_of_ble_eq_true rfl, Nat.le_of_ble_eq_true rfl⟩ ⟨Nat.zero_le _, Nat.zero_le _⟩ (Nat.le_of_ble_eq_true rfl) rfl (rest := []) (cells := 0) (slots := 0) (lv := [(0, yR g 0), (1, yI (b * w + a)), (2, yI x), (3, yI y)])
    refine y_cp (zz19) ?_
    refine y_if_ne (pc := 22) hF dX10_isSeam_22 27 rfl bi_r (fun zc22 => ?_) (fun zc22 => ?_)
    · replace zc22 := bi_n0.mp zc22
      have zka : sKn w h T a b = true := by simp [sKn, hi, zc10]
      have zj := sIn_iff.mp (sKn_in zc22)
      have zjx := y_ix (w := w) (h := h) (x := x) (y := y) ⟨hw1, hw2⟩ ⟨hw3, hw4⟩ (by omega) (by omega)
      have zn := hA.2.2.2 x y zj.1 zj.2.1 zj.2.2.1 zj.2.2.2
      have zb := hA.1.2 x y zj.1 zj.2.1 zj.2.2.1 zj.2.2.2
      have zJ44 : ∀ (zq1 : Bool), (zq1 = decide (0 < F a b)) → yV X0 g 4 (yQ X0 g (SC g) (yPp (bi (sKn w h T a b && (sKn w h T x y && (decide (0 < F a b) != decide (0 < F x y))))) n σ) (rmL 3)) (SC g) n σ 0 0 44 [(0, yR g 0), (1, yI (b * w + a)), (2, yI x), (3, yI y)] [yI (bi zq1)] := by
        intro zq1  zd1
        have zJ69 : ∀ (zq2 : Bool), (zq2 = decide (0 < F x y)) → yV X0 g 4 (yQ X0 g (SC g) (yPp (bi (sKn w h T a b && (sKn w h T x y && (decide (0 < F a b) != decide (0 < F x y))))) n σ) (rmL 3)) (SC g) n σ 0 0 69 [(0, yR g 0), (1, yI (b * w + a)), (2, yI x), (3, yI y)] [yI (bi zq2), yI (bi zq1)] := by
          intro zq2  zd2
          refine y_icmp_eq (pc := 69) hF dX10_isSeam_69 76 rfl bi_r bi_r (fun zc69 => ?_) (fun zc69 => ?_)
          · skip
            refine y_iconst (pc := 76) hF dX10_isSeam_76 ?_
            exact y_zret (pc := 77) hF dX10_isSeam_77 (by decide) (Nat.zero_le _) (Nat.zero_le _) ⟨_, rfl, by rw [show (sKn w h T a b && (sKn w h T x y && (decide (0 < F a b) != decide (0 < F x y)))) = false by rw [zka, zc22, ← zd1, ← zd2, bi_inj zc69]; simp]; rfl, rfl, rfl⟩
          · skip
            refine y_iconst (pc := 72) hF dX10_isSeam_72 ?_
            refine y_goto (pc := 73) hF dX10_isSeam_73 77 rfl ?_
            exact y_zret (pc := 77) hF dX10_isSeam_77 (by decide) (Nat.zero_le _) (Nat.zero_le _) ⟨_, rfl, by rw [show (sKn w h T a b && (sKn w h T x y && (decide (0 < F a b) != decide (0 < F x y)))) = true by rw [zka, zc22, ← zd1, ← zd2]; simp; intro ze; exact zc69 (by rw [ze])]; rfl, rfl, rfl⟩
        refine y_aload_n (pc := 44) hF dX10_isSeam_44 0 rfl ?_
        refine y_get (pc := 45) (ci := 10) hF dX10_isSeam_45 (by omega) rfl rfl rfl iX10 2 (by decide) w_489 rfl ?_
        refine y_getN (pc := 48) (ci := 4) hF dX10_isSeam_48 (by have := pic_5.1; omega) (pic_5.2 g).1 rfl rfl iX4 4 (by decide) w_230 rfl ?_
        refine y_aload_n (pc := 51) hF dX10_isSeam_51 0 rfl ?_
        refine y_get (pc := 52) (ci := 10) hF dX10_isSeam_52 (by omega) rfl rfl rfl iX10 2 (by decide) w_489 rfl ?_
        refine y_iload_n (pc := 55) hF dX10_isSeam_55 2 rfl ?_
        refine y_iload_n (pc := 56) hF dX10_isSeam_56 3 rfl ?_
        have zz57 := y_rV (pc := 57) hF (tX4_at (n := n) (σ := σ) 5 w h T S F P O hn pic_5 hA x y) dX10_isSeam_57 (by have := pic_5.1; omega) (pic_5.2 g).1 rfl rfl w_794 qX4_at rfl ⟨Nat.le_of_ble_eq_true rfl, Nat.le_of_ble_eq_true rfl⟩ ⟨Nat.zero_le _, Nat.zero_le _⟩ (Nat.le_of_ble_eq_true rfl) rfl (rest := [yR g (5 + 3), yI (bi zq1)]) (cells := 0) (slots := 0) (lv := [(0, yR g 0), (1, yI (b * w + a)), (2, yI x), (3, yI y)])
        refine y_cp (zz57) ?_
        refine y_iaload (pc := 60) hF dX10_isSeam_60 (by have := pic_5.1; omega) (pic_5.2 g).2.2.2.1 ⟨by omega, by show _ < (400 : Int); omega⟩ (by decide) ?_
        rw [show σ (5 + 3) (y * w + x) = F x y from zn.2.2.1]
        refine y_if_le (pc := 61) hF dX10_isSeam_61 68 rfl (by omega) (fun zc61 => ?_) (fun zc61 => ?_)
        · skip
          refine y_iconst (pc := 68) hF dX10_isSeam_68 ?_
          exact zJ69 false (by simp; omega)
        · skip
          refine y_iconst (pc := 64) hF dX10_isSeam_64 ?_
          refine y_goto (pc := 65) hF dX10_isSeam_65 69 rfl ?_
          exact zJ69 true (by simp; omega)
      refine y_aload_n (pc := 27) hF dX10_isSeam_27 0 rfl ?_
      refine y_get (pc := 28) (ci := 10) hF dX10_isSeam_28 (by omega) rfl rfl rfl iX10 2 (by decide) w_489 rfl ?_
      refine y_getN (pc := 31) (ci := 4) hF dX10_isSeam_31 (by have := pic_5.1; omega) (pic_5.2 g).1 rfl rfl iX4 4 (by decide) w_230 rfl ?_
      refine y_iload_n (pc := 34) hF dX10_isSeam_34 1 rfl ?_
      refine y_iaload (pc := 35) hF dX10_isSeam_35 (by have := pic_5.1; omega) (pic_5.2 g).2.2.2.1 z4 (by decide) ?_
      rw [show σ (5 + 3) (b * w + a) = F a b from zm.2.2.1]
      refine y_if_le (pc := 36) hF dX10_isSeam_36 43 rfl (by omega) (fun zc36 => ?_) (fun zc36 => ?_)
      · skip
        refine y_iconst (pc := 43) hF dX10_isSeam_43 ?_
        exact zJ44 false (by simp; omega)
      · skip
        refine y_iconst (pc := 39) hF dX10_isSeam_39 ?_
        refine y_goto (pc := 40) hF dX10_isSeam_40 44 rfl ?_
        exact zJ44 true (by simp; omega)
    · replace zc22 := bi_0.mp zc22
      refine y_iconst (pc := 25) hF dX10_isSeam_25 ?_
      exact y_zret (pc := 26) hF dX10_isSeam_26 (by decide) (Nat.zero_le _) (Nat.zero_le _) ⟨_, rfl, by rw [show (sKn w h T a b && (sKn w h T x y && (decide (0 < F a b) != decide (0 < F x y)))) = false by simp [zc22]]; rfl, rfl, rfl⟩

theorem dX10_seams_0 : decode cX10_seams 0 = .ok (.aload_n 0, 1) := by decide +kernel
theorem dX10_seams_1 : decode cX10_seams 1 = .ok (.iload_n 1, 1) := by decide +kernel
theorem dX10_seams_2 : decode cX10_seams 2 = .ok (.ifCond .lt 12, 3) := by decide +kernel
theorem dX10_seams_5 : decode cX10_seams 5 = .ok (.iload_n 1, 1) := by decide +kernel
theorem dX10_seams_6 : decode cX10_seams 6 = .ok (.iconst 2, 1) := by decide +kernel
theorem dX10_seams_7 : decode cX10_seams 7 = .ok (.if_icmp .gt 7, 3) := by decide +kernel
theorem dX10_seams_10 : decode cX10_seams 10 = .ok (.iconst 1, 1) := by decide +kernel
theorem dX10_seams_11 : decode cX10_seams 11 = .ok (.goto 4, 3) := by decide +kernel
theorem dX10_seams_14 : decode cX10_seams 14 = .ok (.iconst 0, 1) := by decide +kernel
theorem dX10_seams_15 : decode cX10_seams 15 = .ok (.invokevirtual 110, 3) := by decide +kernel
theorem dX10_seams_18 : decode cX10_seams 18 = .ok (.iconst 0, 1) := by decide +kernel
theorem dX10_seams_19 : decode cX10_seams 19 = .ok (.istore_n 2, 1) := by decide +kernel
theorem dX10_seams_20 : decode cX10_seams 20 = .ok (.iconst 0, 1) := by decide +kernel
theorem dX10_seams_21 : decode cX10_seams 21 = .ok (.istore_n 3, 1) := by decide +kernel
theorem dX10_seams_22 : decode cX10_seams 22 = .ok (.iconst 0, 1) := by decide +kernel
theorem dX10_seams_23 : decode cX10_seams 23 = .ok (.istore 4, 2) := by decide +kernel
theorem dX10_seams_25 : decode cX10_seams 25 = .ok (.iconst 0, 1) := by decide +kernel
theorem dX10_seams_26 : decode cX10_seams 26 = .ok (.istore 5, 2) := by decide +kernel
theorem dX10_seams_28 : decode cX10_seams 28 = .ok (.iload 5, 2) := by decide +kernel
theorem dX10_seams_30 : decode cX10_seams 30 = .ok (.aload_n 0, 1) := by decide +kernel
theorem dX10_seams_31 : decode cX10_seams 31 = .ok (.getfield 26, 3) := by decide +kernel
theorem dX10_seams_34 : decode cX10_seams 34 = .ok (.invokevirtual 181, 3) := by decide +kernel
theorem dX10_seams_37 : decode cX10_seams 37 = .ok (.if_icmp .ge 128, 3) := by decide +kernel
theorem dX10_seams_40 : decode cX10_seams 40 = .ok (.iconst 1, 1) := by decide +kernel
theorem dX10_seams_41 : decode cX10_seams 41 = .ok (.istore 6, 2) := by decide +kernel
theorem dX10_seams_43 : decode cX10_seams 43 = .ok (.iload 6, 2) := by decide +kernel
theorem dX10_seams_45 : decode cX10_seams 45 = .ok (.getstatic 403, 3) := by decide +kernel
theorem dX10_seams_48 : decode cX10_seams 48 = .ok (.arraylength, 1) := by decide +kernel
theorem dX10_seams_49 : decode cX10_seams 49 = .ok (.if_icmp .ge 110, 3) := by decide +kernel
theorem dX10_seams_52 : decode cX10_seams 52 = .ok (.aload_n 0, 1) := by decide +kernel
theorem dX10_seams_53 : decode cX10_seams 53 = .ok (.getfield 26, 3) := by decide +kernel
theorem dX10_seams_56 : decode cX10_seams 56 = .ok (.iload 5, 2) := by decide +kernel
theorem dX10_seams_58 : decode cX10_seams 58 = .ok (.invokevirtual 242, 3) := by decide +kernel
theorem dX10_seams_61 : decode cX10_seams 61 = .ok (.getstatic 403, 3) := by decide +kernel
theorem dX10_seams_64 : decode cX10_seams 64 = .ok (.iload 6, 2) := by decide +kernel
theorem dX10_seams_66 : decode cX10_seams 66 = .ok (.iaload, 1) := by decide +kernel
theorem dX10_seams_67 : decode cX10_seams 67 = .ok (.iadd, 1) := by decide +kernel
theorem dX10_seams_68 : decode cX10_seams 68 = .ok (.istore 7, 2) := by decide +kernel
theorem dX10_seams_70 : decode cX10_seams 70 = .ok (.aload_n 0, 1) := by decide +kernel
theorem dX10_seams_71 : decode cX10_seams 71 = .ok (.getfield 26, 3) := by decide +kernel
theorem dX10_seams_74 : decode cX10_seams 74 = .ok (.iload 5, 2) := by decide +kernel
theorem dX10_seams_76 : decode cX10_seams 76 = .ok (.invokevirtual 245, 3) := by decide +kernel
theorem dX10_seams_79 : decode cX10_seams 79 = .ok (.getstatic 406, 3) := by decide +kernel
theorem dX10_seams_82 : decode cX10_seams 82 = .ok (.iload 6, 2) := by decide +kernel
theorem dX10_seams_84 : decode cX10_seams 84 = .ok (.iaload, 1) := by decide +kernel
theorem dX10_seams_85 : decode cX10_seams 85 = .ok (.iadd, 1) := by decide +kernel
theorem dX10_seams_86 : decode cX10_seams 86 = .ok (.istore 8, 2) := by decide +kernel
theorem dX10_seams_88 : decode cX10_seams 88 = .ok (.aload_n 0, 1) := by decide +kernel
theorem dX10_seams_89 : decode cX10_seams 89 = .ok (.iload 5, 2) := by decide +kernel
theorem dX10_seams_91 : decode cX10_seams 91 = .ok (.iload 7, 2) := by decide +kernel
theorem dX10_seams_93 : decode cX10_seams 93 = .ok (.iload 8, 2) := by decide +kernel
theorem dX10_seams_95 : decode cX10_seams 95 = .ok (.invokevirtual 409, 3) := by decide +kernel
theorem dX10_seams_98 : decode cX10_seams 98 = .ok (.ifCond .eq 55, 3) := by decide +kernel
theorem dX10_seams_101 : decode cX10_seams 101 = .ok (.aload_n 0, 1) := by decide +kernel
theorem dX10_seams_102 : decode cX10_seams 102 = .ok (.getfield 26, 3) := by decide +kernel
theorem dX10_seams_105 : decode cX10_seams 105 = .ok (.getfield 176, 3) := by decide +kernel
theorem dX10_seams_108 : decode cX10_seams 108 = .ok (.iload 5, 2) := by decide +kernel
theorem dX10_seams_110 : decode cX10_seams 110 = .ok (.iaload, 1) := by decide +kernel
theorem dX10_seams_111 : decode cX10_seams 111 = .ok (.aload_n 0, 1) := by decide +kernel
theorem dX10_seams_112 : decode cX10_seams 112 = .ok (.getfield 26, 3) := by decide +kernel
theorem dX10_seams_115 : decode cX10_seams 115 = .ok (.getfield 176, 3) := by decide +kernel
theorem dX10_seams_118 : decode cX10_seams 118 = .ok (.aload_n 0, 1) := by decide +kernel
theorem dX10_seams_119 : decode cX10_seams 119 = .ok (.getfield 26, 3) := by decide +kernel
theorem dX10_seams_122 : decode cX10_seams 122 = .ok (.iload 7, 2) := by decide +kernel
theorem dX10_seams_124 : decode cX10_seams 124 = .ok (.iload 8, 2) := by decide +kernel
theorem dX10_seams_126 : decode cX10_seams 126 = .ok (.invokevirtual 169, 3) := by decide +kernel
theorem dX10_seams_129 : decode cX10_seams 129 = .ok (.iaload, 1) := by decide +kernel
theorem dX10_seams_130 : decode cX10_seams 130 = .ok (.isub, 1) := by decide +kernel
theorem dX10_seams_131 : decode cX10_seams 131 = .ok (.invokestatic 413, 3) := by decide +kernel
theorem dX10_seams_134 : decode cX10_seams 134 = .ok (.istore 9, 2) := by decide +kernel
theorem dX10_seams_136 : decode cX10_seams 136 = .ok (.iload_n 2, 1) := by decide +kernel
theorem dX10_seams_137 : decode cX10_seams 137 = .ok (.iload 9, 2) := by decide +kernel
theorem dX10_seams_139 : decode cX10_seams 139 = .ok (.iadd, 1) := by decide +kernel
theorem dX10_seams_140 : decode cX10_seams 140 = .ok (.istore_n 2, 1) := by decide +kernel
theorem dX10_seams_141 : decode cX10_seams 141 = .ok (.iinc 3 1, 3) := by decide +kernel
theorem dX10_seams_144 : decode cX10_seams 144 = .ok (.iload 4, 2) := by decide +kernel
theorem dX10_seams_146 : decode cX10_seams 146 = .ok (.iload 9, 2) := by decide +kernel
theorem dX10_seams_148 : decode cX10_seams 148 = .ok (.invokestatic 355, 3) := by decide +kernel
theorem dX10_seams_151 : decode cX10_seams 151 = .ok (.istore 4, 2) := by decide +kernel
theorem dX10_seams_153 : decode cX10_seams 153 = .ok (.iinc 6 2, 3) := by decide +kernel
theorem dX10_seams_156 : decode cX10_seams 156 = .ok (.goto (-113), 3) := by decide +kernel
theorem dX10_seams_159 : decode cX10_seams 159 = .ok (.iinc 5 1, 3) := by decide +kernel
theorem dX10_seams_162 : decode cX10_seams 162 = .ok (.goto (-134), 3) := by decide +kernel
theorem dX10_seams_165 : decode cX10_seams 165 = .ok (.iload_n 1, 1) := by decide +kernel
theorem dX10_seams_166 : decode cX10_seams 166 = .ok (.lookupswitch 30 #[(0, 26), (1, 28)], 26) := by decide +kernel
theorem dX10_seams_192 : decode cX10_seams 192 = .ok (.iload_n 2, 1) := by decide +kernel
theorem dX10_seams_193 : decode cX10_seams 193 = .ok (.ireturn, 1) := by decide +kernel
theorem dX10_seams_194 : decode cX10_seams 194 = .ok (.iload_n 3, 1) := by decide +kernel
theorem dX10_seams_195 : decode cX10_seams 195 = .ok (.ireturn, 1) := by decide +kernel
theorem dX10_seams_196 : decode cX10_seams 196 = .ok (.iload 4, 2) := by decide +kernel
theorem dX10_seams_198 : decode cX10_seams 198 = .ok (.ireturn, 1) := by decide +kernel
set_option maxHeartbeats 4000000 in
set_option maxRecDepth 100000 in
theorem tX10_seams {l : Launch} {g : yG} {n : Nat} {σ : yM} (hlt : l.stackTraces = false) (hn : 172 ≤ n) (w h : Int) (T S F P O : Int → Int → Int) (nf df nl : Int) (lg : Int → Int → Int) (s re fo ra tu we sh : Int) (H : List aX) (ht : Bool) (K : Int → Int → Int) (tl : Int) (tb : Int → Int) (fa r1 r2 N : Int) (hV : cV σ (w, h, (T, S, F, P, O, nf, df, nl, lg), (s, re, fo, ra, tu, we, sh), H, ht, K, tl, tb, fa, r1, r2)) (hW : aW N (w, h, (T, S, F, P, O, nf, df, nl, lg), (s, re, fo, ra, tu, we, sh), H, ht, K, tl, tb, fa, r1, r2)) (a : Int) (ha : -2147483648 ≤ a ∧ a < 2147483648) : yMX l g yX10_seams cX10_seams 10 (some .int) (rmA 8 4 24) [yR g 0, yI a] (SC g) n σ (SC g) (yPi (fun v n' σ' => n ≤ n' ∧ (0 ≤ a ∧ a ≤ 2) ∧ v = smV w h T F a ∧ cV σ' (w, h, (T, S, F, P, O, nf, df, nl, lg), (s, re, fo, ra, tu, we, sh), H, ht, K, tl, tb, fa, r1, r2) ∧ cF σ σ')) (fun E n' σ' => E = eA ∧ n ≤ n' ∧ ¬ (0 ≤ a ∧ a ≤ 2) ∧ cV σ' (bA (w, h, (T, S, F, P, O, nf, df, nl, lg), (s, re, fo, ra, tu, we, sh), H, ht, K, tl, tb, fa, r1, r2)) ∧ cF σ σ') := by
  obtain ⟨⟨hA, hJ⟩, hS, hH, ⟨hb1, hb2⟩, ⟨ht1, ht2⟩, hfa, hr1, hr2, hT⟩ := id hV
  obtain ⟨hw1, hw2, hw3, hw4⟩ := id hA.1.1
  obtain ⟨hs1, hs2, hs3, hs4, hs5, hs6, hs7⟩ := id hS.2
  have z128 : 128 < n := by omega
  have z129 : 129 < n := by omega
  have z130 : 130 < n := by omega
  have zwh := y_wh ⟨hw1, hw2⟩ ⟨hw3, hw4⟩
  refine y_startX (by decide) (Nat.le_of_ble_eq_true rfl) (fun X0 hX => ?_)
  have hF := hX.1
  show yV X0 g 10 (yQX X0 g (SC g) (yPi (fun v n' σ' => n ≤ n' ∧ (0 ≤ a ∧ a ≤ 2) ∧ v = smV w h T F a ∧ cV σ' (w, h, (T, S, F, P, O, nf, df, nl, lg), (s, re, fo, ra, tu, we, sh), H, ht, K, tl, tb, fa, r1, r2) ∧ cF σ σ')) (fun E n' σ' => E = eA ∧ n ≤ n' ∧ ¬ (0 ≤ a ∧ a ≤ 2) ∧ cV σ' (bA (w, h, (T, S, F, P, O, nf, df, nl, lg), (s, re, fo, ra, tu, we, sh), H, ht, K, tl, tb, fa, r1, r2)) ∧ cF σ σ') (rmA 8 4 24)) (SC g) n σ 0 0 0 [(0, yR g 0), (1, yI a)] []
  have zJ15 : ∀ (zb : Bool), (zb = decide (0 ≤ a ∧ a ≤ 2)) → yV X0 g 10 (yQX X0 g (SC g) (yPi (fun v n' σ' => n ≤ n' ∧ (0 ≤ a ∧ a ≤ 2) ∧ v = smV w h T F a ∧ cV σ' (w, h, (T, S, F, P, O, nf, df, nl, lg), (s, re, fo, ra, tu, we, sh), H, ht, K, tl, tb, fa, r1, r2) ∧ cF σ σ')) (fun E n' σ' => E = eA ∧ n ≤ n' ∧ ¬ (0 ≤ a ∧ a ≤ 2) ∧ cV σ' (bA (w, h, (T, S, F, P, O, nf, df, nl, lg), (s, re, fo, ra, tu, we, sh), H, ht, K, tl, tb, fa, r1, r2)) ∧ cF σ σ') (rmA 8 4 24)) (SC g) n σ 0 0 15 [(0, yR g 0), (1, yI a)] [yI (bi zb), yR g 0] := by
    intro zb  zhb
    refine y_contX (cells' := 0 + 1) (slots' := 0 + 6) hX (y_rVX (pc := 15) hX (tX10_demand hlt hn zb) dX10_seams_15 (by omega) rfl rfl rfl w_611 qX10_demand rfl ⟨Nat.le_of_ble_eq_true rfl, Nat.le_of_ble_eq_true rfl⟩ ⟨Nat.le_of_ble_eq_true rfl, Nat.le_of_ble_eq_true rfl⟩ (Nat.le_of_ble_eq_true rfl) rfl) rfl rfl ⟨Nat.le_of_ble_eq_true rfl, Nat.le_of_ble_eq_true rfl⟩ (fun E n' σ' zx => ⟨zx.1, zx.2.1, by have zq := zx.2.2.1; rw [zhb] at zq; simpa using zq, by rw [zx.2.2.2]; exact hV.bA, by rw [zx.2.2.2]; exact cF_N⟩) (fun r15 n' σ15 zp15 => ?_)
    obtain ⟨zr15, zp15⟩ := zp15
    subst zr15
    obtain ⟨zn15, zs15, zb15⟩ := zp15
    have zs15 := zs15.symm
    subst zs15
    have zn15 := zn15.symm
    subst zn15
    skip
    show yV X0 g 10 (yQX X0 g (SC g) (yPi (fun v n' σ' => n ≤ n' ∧ (0 ≤ a ∧ a ≤ 2) ∧ v = smV w h T F a ∧ cV σ' (w, h, (T, S, F, P, O, nf, df, nl, lg), (s, re, fo, ra, tu, we, sh), H, ht, K, tl, tb, fa, r1, r2) ∧ cF σ σ')) (fun E n' σ' => E = eA ∧ n ≤ n' ∧ ¬ (0 ≤ a ∧ a ≤ 2) ∧ cV σ' (bA (w, h, (T, S, F, P, O, nf, df, nl, lg), (s, re, fo, ra, tu, we, sh), H, ht, K, tl, tb, fa, r1, r2)) ∧ cF σ σ') (rmA 8 4 24)) (SC g) n σ (0 + 1) (0 + 6) 18 [(0, yR g 0), (1, yI a)] []
    have zok : 0 ≤ a ∧ a ≤ 2 := by have zq := zb15; rw [zhb] at zq; simpa using zq
    refine y_iconst (pc := 18) hF dX10_seams_18 ?_
    refine y_istore_n (pc := 19) (lv' := [(0, yR g 0), (1, yI a), (2, yI 0)]) hF dX10_seams_19 (by decide) rfl rfl ?_
    refine y_iconst (pc := 20) hF dX10_seams_20 ?_
    refine y_istore_n (pc := 21) (lv' := [(0, yR g 0), (1, yI a), (2, yI 0), (3, yI 0)]) hF dX10_seams_21 (by decide) rfl rfl ?_
    refine y_iconst (pc := 22) hF dX10_seams_22 ?_
    refine y_istore (pc := 23) (lv' := [(0, yR g 0), (1, yI a), (2, yI 0), (3, yI 0), (4, yI 0)]) hF dX10_seams_23 (by decide) rfl rfl ?_
    refine y_iconst (pc := 25) hF dX10_seams_25 ?_
    refine y_istore (pc := 26) (lv' := [(0, yR g 0), (1, yI a), (2, yI 0), (3, yI 0), (4, yI 0), (5, yI 0)]) hF dX10_seams_26 (by decide) rfl rfl ?_
    have zL28 : ∀ (N : Nat) (i c1 c2 c3 : Int), N = (w * h - i).toNat → ((0 ≤ i ∧ i ≤ w * h) ∧ (0 ≤ c3 ∧ c3 ≤ 1000) ∧ (c1, c2, c3) = fr (fun q i => smF w h T F q (i % w) (i / w)) 0 i.toNat (0, 0, 0)) → yV X0 g 10 (yQX X0 g (SC g) (yPi (fun v n' σ' => n ≤ n' ∧ (0 ≤ a ∧ a ≤ 2) ∧ v = smV w h T F a ∧ cV σ' (w, h, (T, S, F, P, O, nf, df, nl, lg), (s, re, fo, ra, tu, we, sh), H, ht, K, tl, tb, fa, r1, r2) ∧ cF σ σ')) (fun E n' σ' => E = eA ∧ n ≤ n' ∧ ¬ (0 ≤ a ∧ a ≤ 2) ∧ cV σ' (bA (w, h, (T, S, F, P, O, nf, df, nl, lg), (s, re, fo, ra, tu, we, sh), H, ht, K, tl, tb, fa, r1, r2)) ∧ cF σ σ') (rmA 8 4 24)) (SC g) n σ (0 + 1) (0 + 6) 28 [(0, yR g 0), (1, yI a), (2, yI c1), (3, yI c2), (4, yI c3), (5, yI i)] [] := by
      intro N
      induction N using Nat.strongRecOn with
      | ind N zh28 =>
        intro i c1 c2 c3  zN28 zI28
        refine y_iload (pc := 28) hF dX10_seams_28 5 rfl ?_
        refine y_aload_n (pc := 30) hF dX10_seams_30 0 rfl ?_
        refine y_get (pc := 31) (ci := 10) hF dX10_seams_31 (by omega) rfl rfl rfl iX10 2 (by decide) w_489 rfl ?_
        have zz34 := y_rV (pc := 34) hF (tX4_dots (n := n) (σ := σ) 5 w h T S F P O hn pic_5 hA) dX10_seams_34 (by have := pic_5.1; omega) (pic_5.2 g).1 rfl rfl w_567 qX4_dots rfl ⟨Nat.le_of_ble_eq_true rfl, Nat.le_of_ble_eq_true rfl⟩ ⟨Nat.le_of_ble_eq_true rfl, Nat.le_of_ble_eq_true rfl⟩ (Nat.le_of_ble_eq_true rfl) rfl (rest := [yI i]) (cells := 0 + 1) (slots := 0 + 6) (lv := [(0, yR g 0), (1, yI a), (2, yI c1), (3, yI c2), (4, yI c3), (5, yI i)])
        refine y_cp (zz34) ?_
        refine y_icmp_ge (pc := 37) hF dX10_seams_37 165 rfl (by omega) (by omega) (fun zc37 => ?_) (fun zc37 => ?_)
        · skip
          have zq : (c1, c2, c3) = sSm w h T F := by rw [zI28.2.2, show i = w * h by omega]; exact fr_linI _ (by omega) (by omega) _
          refine y_iload_n (pc := 165) hF dX10_seams_165 1 rfl ?_
          rcases Decidable.em (a = 0) with zw166_0 | zw166_0
          · refine y_lsw (pc := 166) hF dX10_seams_166 (by decide) (by omega) (off := 26) (by rw [zw166_0]; rfl) 192 rfl ?_
            refine y_iload_n (pc := 192) hF dX10_seams_192 2 rfl ?_
            exact y_retX (y_iret (pc := 193) hF dX10_seams_193 (Nat.le_of_ble_eq_true rfl) (Nat.le_of_ble_eq_true rfl) ⟨_, rfl, Nat.le_refl _, zok, by unfold smV; rw [← zq]; simp [zw166_0], hV, cF.rf σ⟩)
          rcases Decidable.em (a = 1) with zw166_1 | zw166_1
          · refine y_lsw (pc := 166) hF dX10_seams_166 (by decide) (by omega) (off := 28) (by rw [zw166_1]; rfl) 194 rfl ?_
            refine y_iload_n (pc := 194) hF dX10_seams_194 3 rfl ?_
            exact y_retX (y_iret (pc := 195) hF dX10_seams_195 (Nat.le_of_ble_eq_true rfl) (Nat.le_of_ble_eq_true rfl) ⟨_, rfl, Nat.le_refl _, zok, by unfold smV; rw [← zq]; simp [zw166_1], hV, cF.rf σ⟩)
          refine y_lsw (pc := 166) hF dX10_seams_166 (by decide) (by omega) (off := 30) (by simp [Op.lookupswitch.offset, zw166_0, Ne.symm zw166_0, zw166_1, Ne.symm zw166_1]) 196 rfl ?_
          refine y_iload (pc := 196) hF dX10_seams_196 4 rfl ?_
          exact y_retX (y_iret (pc := 198) hF dX10_seams_198 (Nat.le_of_ble_eq_true rfl) (Nat.le_of_ble_eq_true rfl) ⟨_, rfl, Nat.le_refl _, zok, by unfold smV; rw [← zq]; simp [show a = 2 by omega], hV, cF.rf σ⟩)
        · skip
          have zd := y_de (h := h) hw1 zI28.1.1 (by omega)
          have zri : -2147483648 ≤ i ∧ i < 2147483648 := by omega
          have zin : sIn w h (i % w) (i / w) = true := sIn_iff.mpr ⟨zd.2.1, zd.2.2.1, zd.2.2.2⟩
          have zat := hA.at zI28.1.1 (by omega)
          refine y_iconst (pc := 40) hF dX10_seams_40 ?_
          refine y_istore (pc := 41) (lv' := [(0, yR g 0), (1, yI a), (2, yI c1), (3, yI c2), (4, yI c3), (5, yI i), (6, yI 1)]) hF dX10_seams_41 (by decide) rfl rfl ?_
          have zL43 : ∀ (N : Nat) (t d1 d2 d3 : Int), N = (5 - t).toNat → ((1 ≤ t ∧ t ≤ 5) ∧ (0 ≤ d3 ∧ d3 ≤ 1000) ∧ ((t = 1 ∧ (d1, d2, d3) = (c1, c2, c3)) ∨ (t = 3 ∧ (d1, d2, d3) = jtF w h T F (c1, c2, c3) (i % w) (i / w) ((i % w) + 1) (i / w)) ∨ (t = 5 ∧ (d1, d2, d3) = smF w h T F (c1, c2, c3) (i % w) (i / w)))) → yV X0 g 10 (yQX X0 g (SC g) (yPi (fun v n' σ' => n ≤ n' ∧ (0 ≤ a ∧ a ≤ 2) ∧ v = smV w h T F a ∧ cV σ' (w, h, (T, S, F, P, O, nf, df, nl, lg), (s, re, fo, ra, tu, we, sh), H, ht, K, tl, tb, fa, r1, r2) ∧ cF σ σ')) (fun E n' σ' => E = eA ∧ n ≤ n' ∧ ¬ (0 ≤ a ∧ a ≤ 2) ∧ cV σ' (bA (w, h, (T, S, F, P, O, nf, df, nl, lg), (s, re, fo, ra, tu, we, sh), H, ht, K, tl, tb, fa, r1, r2)) ∧ cF σ σ') (rmA 8 4 24)) (SC g) n σ (0 + 1) (0 + 6) 43 [(0, yR g 0), (1, yI a), (2, yI d1), (3, yI d2), (4, yI d3), (5, yI i), (6, yI t)] [] := by
            intro N
            induction N using Nat.strongRecOn with
            | ind N zh43 =>
              intro t d1 d2 d3  zN43 zI43
              refine y_iload (pc := 43) hF dX10_seams_43 6 rfl ?_
              refine y_gets (pc := 45) (host := "") hF dX10_seams_45 0 rfl w_1191 ?_
              refine y_slen (pc := 48) hF dX10_seams_48 0 rfl ?_
              show yV X0 g 10 (yQX X0 g (SC g) (yPi (fun v n' σ' => n ≤ n' ∧ (0 ≤ a ∧ a ≤ 2) ∧ v = smV w h T F a ∧ cV σ' (w, h, (T, S, F, P, O, nf, df, nl, lg), (s, re, fo, ra, tu, we, sh), H, ht, K, tl, tb, fa, r1, r2) ∧ cF σ σ')) (fun E n' σ' => E = eA ∧ n ≤ n' ∧ ¬ (0 ≤ a ∧ a ≤ 2) ∧ cV σ' (bA (w, h, (T, S, F, P, O, nf, df, nl, lg), (s, re, fo, ra, tu, we, sh), H, ht, K, tl, tb, fa, r1, r2)) ∧ cF σ σ') (rmA 8 4 24)) (SC g) n σ (0 + 1) (0 + 6) 49 [(0, yR g 0), (1, yI a), (2, yI d1), (3, yI d2), (4, yI d3), (5, yI i), (6, yI t)] [yI 4, yI t]
              refine y_icmp_ge (pc := 49) hF dX10_seams_49 159 rfl (by omega) (by omega) (fun zc49 => ?_) (fun zc49 => ?_)
              · skip
                refine y_iinc (pc := 159) (lv' := [(0, yR g 0), (1, yI a), (2, yI d1), (3, yI d2), (4, yI d3), (5, yI (i + 1)), (6, yI t)]) hF dX10_seams_159 5 rfl (by decide) rfl rfl ?_
                refine y_goto (pc := 162) hF dX10_seams_162 28 rfl ?_
                refine y_sub [0, 1, 2, 3, 4, 5] rfl ?_
                exact zh28 _ (by omega) (i + 1) (d1) (d2) (d3) rfl ⟨by omega, zI43.2.1, by rw [fr_up _ _ _ _ zI28.1.1, ← zI28.2.2, Int.zero_add]; rcases zI43.2.2 with ze | ze | ze; (omega); (omega); exact ze.2⟩
              · skip
                have zt4 : 0 ≤ t ∧ t < (4 : Int) := by omega
                have zy := ys01 (s := t) zt4
                have zsx : -1 ≤ ys 0 t ∧ ys 0 t ≤ 1 := by rw [zy.1]; split; (omega); split <;> omega
                have zsy : -1 ≤ ys 1 t ∧ ys 1 t ≤ 1 := by rw [zy.2]; split; (omega); split <;> omega
                refine y_aload_n (pc := 52) hF dX10_seams_52 0 rfl ?_
                refine y_get (pc := 53) (ci := 10) hF dX10_seams_53 (by omega) rfl rfl rfl iX10 2 (by decide) w_489 rfl ?_
                refine y_iload (pc := 56) hF dX10_seams_56 5 rfl ?_
                have zz58 := y_rV (pc := 58) hF (tX4_xOf (n := n) (σ := σ) 5 w h T S F P O hn pic_5 hA i zri) dX10_seams_58 (by have := pic_5.1; omega) (pic_5.2 g).1 rfl rfl w_994 qX4_xOf rfl ⟨Nat.le_of_ble_eq_true rfl, Nat.le_of_ble_eq_true rfl⟩ ⟨Nat.le_of_ble_eq_true rfl, Nat.le_of_ble_eq_true rfl⟩ (Nat.le_of_ble_eq_true rfl) rfl (rest := []) (cells := 0 + 1) (slots := 0 + 6) (lv := [(0, yR g 0), (1, yI a), (2, yI d1), (3, yI d2), (4, yI d3), (5, yI i), (6, yI t)])
                refine y_cp (zz58) ?_
                rw [show cx w i = i % w from (by unfold cx; rw [if_neg (by omega)])]
                refine y_gets (pc := 61) (host := "") hF dX10_seams_61 0 rfl w_1191 ?_
                refine y_iload (pc := 64) hF dX10_seams_64 6 rfl ?_
                refine y_sald (pc := 66) hF dX10_seams_66 0 rfl zt4 (by decide) ?_
                refine y_iadd (pc := 67) hF dX10_seams_67 ?_
                refine y_istore (pc := 68) (lv' := [(0, yR g 0), (1, yI a), (2, yI d1), (3, yI d2), (4, yI d3), (5, yI i), (6, yI t), (7, yI ((i % w) + (ys 0 t)))]) hF dX10_seams_68 (by decide) rfl rfl ?_
                refine y_aload_n (pc := 70) hF dX10_seams_70 0 rfl ?_
                refine y_get (pc := 71) (ci := 10) hF dX10_seams_71 (by omega) rfl rfl rfl iX10 2 (by decide) w_489 rfl ?_
                refine y_iload (pc := 74) hF dX10_seams_74 5 rfl ?_
                have zz76 := y_rV (pc := 76) hF (tX4_yOf (n := n) (σ := σ) 5 w h T S F P O hn pic_5 hA i zri) dX10_seams_76 (by have := pic_5.1; omega) (pic_5.2 g).1 rfl rfl w_995 qX4_yOf rfl ⟨Nat.le_of_ble_eq_true rfl, Nat.le_of_ble_eq_true rfl⟩ ⟨Nat.le_of_ble_eq_true rfl, Nat.le_of_ble_eq_true rfl⟩ (Nat.le_of_ble_eq_true rfl) rfl (rest := []) (cells := 0 + 1) (slots := 0 + 6) (lv := [(0, yR g 0), (1, yI a), (2, yI d1), (3, yI d2), (4, yI d3), (5, yI i), (6, yI t), (7, yI ((i % w) + (ys 0 t)))])
                refine y_cp (zz76) ?_
                rw [show cy w i = i / w from (by unfold cy; rw [if_neg (by omega)])]
                refine y_gets (pc := 79) (host := "") hF dX10_seams_79 1 rfl w_1192 ?_
                refine y_iload (pc := 82) hF dX10_seams_82 6 rfl ?_
                refine y_sald (pc := 84) hF dX10_seams_84 1 rfl zt4 (by decide) ?_
                refine y_iadd (pc := 85) hF dX10_seams_85 ?_
                refine y_istore (pc := 86) (lv' := [(0, yR g 0), (1, yI a), (2, yI d1), (3, yI d2), (4, yI d3), (5, yI i), (6, yI t), (7, yI ((i % w) + (ys 0 t))), (8, yI ((i / w) + (ys 1 t)))]) hF dX10_seams_86 (by decide) rfl rfl ?_
                refine y_aload_n (pc := 88) hF dX10_seams_88 0 rfl ?_
                refine y_iload (pc := 89) hF dX10_seams_89 5 rfl ?_
                refine y_iload (pc := 91) hF dX10_seams_91 7 rfl ?_
                refine y_iload (pc := 93) hF dX10_seams_93 8 rfl ?_
                have zz95 := y_rV (pc := 95) hF (tX10_isSeam (n := n) (σ := σ) hn w h T S F P O hA (i % w) (i / w) zin ((i % w) + ys 0 t) ((i / w) + ys 1 t) (by omega) (by omega) i zd.1.symm) dX10_seams_95 (by omega) rfl rfl rfl w_1193 qX10_isSeam rfl ⟨Nat.le_of_ble_eq_true rfl, Nat.le_of_ble_eq_true rfl⟩ ⟨Nat.le_of_ble_eq_true rfl, Nat.le_of_ble_eq_true rfl⟩ (Nat.le_of_ble_eq_true rfl) rfl (rest := []) (cells := 0 + 1) (slots := 0 + 6) (lv := [(0, yR g 0), (1, yI a), (2, yI d1), (3, yI d2), (4, yI d3), (5, yI i), (6, yI t), (7, yI ((i % w) + (ys 0 t))), (8, yI ((i / w) + (ys 1 t)))])
                refine y_cp (zz95) ?_
                refine y_if_eq (pc := 98) hF dX10_seams_98 153 rfl bi_r (fun zc98 => ?_) (fun zc98 => ?_)
                · replace zc98 := bi_0.mp zc98
                  have zjn : ¬ (sKn w h T (i % w) (i / w) = true ∧ sKn w h T ((i % w) + ys 0 t) ((i / w) + ys 1 t) = true ∧ decide (0 < F (i % w) (i / w)) ≠ decide (0 < F ((i % w) + ys 0 t) ((i / w) + ys 1 t))) := fun ze => by rw [ze.1, ze.2.1] at zc98; simp at zc98; exact ze.2.2 (by rw [decide_eq_decide]; exact zc98)
                  refine y_iinc (pc := 153) (lv' := [(0, yR g 0), (1, yI a), (2, yI d1), (3, yI d2), (4, yI d3), (5, yI i), (6, yI (t + 2)), (7, yI ((i % w) + (ys 0 t))), (8, yI ((i / w) + (ys 1 t)))]) hF dX10_seams_153 6 rfl (by decide) rfl rfl ?_
                  refine y_goto (pc := 156) hF dX10_seams_156 43 rfl ?_
                  have zst : (d1, d2, d3) = jtF w h T F (d1, d2, d3) (i % w) (i / w) ((i % w) + ys 0 t) ((i / w) + ys 1 t) := by unfold jtF; rw [if_neg zjn]
                  have zys := ys01v
                  have z01 : t = 1 ∨ t = 3 := by omega
                  refine y_sub [0, 1, 2, 3, 4, 5, 6] rfl ?_
                  exact zh43 _ (by omega) (t + 2) (d1) (d2) (d3) rfl ⟨by omega, by omega, by { rcases zI43.2.2 with ze | ze | ze; (right; left; refine ⟨by omega, ?_⟩; rw [zst, ze.1, zys.2.1.1, zys.2.1.2, Int.add_zero, ← ze.2]); (right; right; refine ⟨by omega, ?_⟩; unfold smF; rw [zst, ze.1, zys.2.2.2.1, zys.2.2.2.2, Int.add_zero, ← ze.2]); (omega) }⟩
                · replace zc98 := bi_n0.mp zc98
                  simp only [Bool.and_eq_true] at zc98
                  have zjc : sKn w h T (i % w) (i / w) = true ∧ sKn w h T ((i % w) + ys 0 t) ((i / w) + ys 1 t) = true ∧ decide (0 < F (i % w) (i / w)) ≠ decide (0 < F ((i % w) + ys 0 t) ((i / w) + ys 1 t)) := ⟨zc98.1, zc98.2.1, by simpa using zc98.2.2⟩
                  have zk1 := sKn_T hA.1 zjc.1
                  have zk2 := sKn_T hA.1 zjc.2.1
                  have zj := sIn_iff.mp (sKn_in zjc.2.1)
                  have zjx := y_ix (w := w) (h := h) (x := (i % w) + ys 0 t) (y := (i / w) + ys 1 t) ⟨hw1, hw2⟩ ⟨hw3, hw4⟩ (by omega) (by omega)
                  have zn := hA.2.2.2 ((i % w) + ys 0 t) ((i / w) + ys 1 t) zj.1 zj.2.1 zj.2.2.1 zj.2.2.2
                  refine y_aload_n (pc := 101) hF dX10_seams_101 0 rfl ?_
                  refine y_get (pc := 102) (ci := 10) hF dX10_seams_102 (by omega) rfl rfl rfl iX10 2 (by decide) w_489 rfl ?_
                  refine y_getN (pc := 105) (ci := 4) hF dX10_seams_105 (by have := pic_5.1; omega) (pic_5.2 g).1 rfl rfl iX4 2 (by decide) w_223 rfl ?_
                  refine y_iload (pc := 108) hF dX10_seams_108 5 rfl ?_
                  refine y_iaload (pc := 110) hF dX10_seams_110 (by have := pic_5.1; omega) (pic_5.2 g).2.1 ⟨zI28.1.1, by show _ < (400 : Int); omega⟩ (by decide) ?_
                  rw [show σ (5 + 1) i = T (i % w) (i / w) from zat.1]
                  refine y_aload_n (pc := 111) hF dX10_seams_111 0 rfl ?_
                  refine y_get (pc := 112) (ci := 10) hF dX10_seams_112 (by omega) rfl rfl rfl iX10 2 (by decide) w_489 rfl ?_
                  refine y_getN (pc := 115) (ci := 4) hF dX10_seams_115 (by have := pic_5.1; omega) (pic_5.2 g).1 rfl rfl iX4 2 (by decide) w_223 rfl ?_
                  refine y_aload_n (pc := 118) hF dX10_seams_118 0 rfl ?_
                  refine y_get (pc := 119) (ci := 10) hF dX10_seams_119 (by omega) rfl rfl rfl iX10 2 (by decide) w_489 rfl ?_
                  refine y_iload (pc := 122) hF dX10_seams_122 7 rfl ?_
                  refine y_iload (pc := 124) hF dX10_seams_124 8 rfl ?_
                  have zz126 := y_rV (pc := 126) hF (tX4_at (n := n) (σ := σ) 5 w h T S F P O hn pic_5 hA ((i % w) + (ys 0 t)) ((i / w) + (ys 1 t))) dX10_seams_126 (by have := pic_5.1; omega) (pic_5.2 g).1 rfl rfl w_794 qX4_at rfl ⟨Nat.le_of_ble_eq_true rfl, Nat.le_of_ble_eq_true rfl⟩ ⟨Nat.le_of_ble_eq_true rfl, Nat.le_of_ble_eq_true rfl⟩ (Nat.le_of_ble_eq_true rfl) rfl (rest := [yR g (5 + 1), yI (T (i % w) (i / w))]) (cells := 0 + 1) (slots := 0 + 6) (lv := [(0, yR g 0), (1, yI a), (2, yI d1), (3, yI d2), (4, yI d3), (5, yI i), (6, yI t), (7, yI ((i % w) + (ys 0 t))), (8, yI ((i / w) + (ys 1 t)))])
                  refine y_cp (zz126) ?_
                  refine y_iaload (pc := 129) hF dX10_seams_129 (by have := pic_5.1; omega) (pic_5.2 g).2.1 ⟨by omega, by show _ < (400 : Int); omega⟩ (by decide) ?_
                  rw [show σ (5 + 1) (((i / w) + (ys 1 t)) * w + ((i % w) + (ys 0 t))) = T ((i % w) + ys 0 t) ((i / w) + ys 1 t) from zn.1]
                  refine y_isub (pc := 130) hF dX10_seams_130 ?_
                  refine y_mabs (pc := 131) hF dX10_seams_131 w_1197 w_883 w_103 w_884 (Nat.le_of_ble_eq_true rfl) (Nat.le_of_ble_eq_true rfl) ⟨Nat.le_of_ble_eq_true rfl, Nat.le_of_ble_eq_true rfl⟩ (by omega) ?_
                  refine y_istore (pc := 134) (lv' := [(0, yR g 0), (1, yI a), (2, yI d1), (3, yI d2), (4, yI d3), (5, yI i), (6, yI t), (7, yI ((i % w) + (ys 0 t))), (8, yI ((i / w) + (ys 1 t))), (9, yI (Int.natAbs ((T (i % w) (i / w)) - (T ((i % w) + ys 0 t) ((i / w) + ys 1 t))) : Int))]) hF dX10_seams_134 (by decide) rfl rfl ?_
                  refine y_iload_n (pc := 136) hF dX10_seams_136 2 rfl ?_
                  refine y_iload (pc := 137) hF dX10_seams_137 9 rfl ?_
                  refine y_iadd (pc := 139) hF dX10_seams_139 ?_
                  refine y_istore_n (pc := 140) (lv' := [(0, yR g 0), (1, yI a), (2, yI (d1 + (Int.natAbs ((T (i % w) (i / w)) - (T ((i % w) + ys 0 t) ((i / w) + ys 1 t))) : Int))), (3, yI d2), (4, yI d3), (5, yI i), (6, yI t), (7, yI ((i % w) + (ys 0 t))), (8, yI ((i / w) + (ys 1 t))), (9, yI (Int.natAbs ((T (i % w) (i / w)) - (T ((i % w) + ys 0 t) ((i / w) + ys 1 t))) : Int))]) hF dX10_seams_140 (by decide) rfl rfl ?_
                  refine y_iinc (pc := 141) (lv' := [(0, yR g 0), (1, yI a), (2, yI (d1 + (Int.natAbs ((T (i % w) (i / w)) - (T ((i % w) + ys 0 t) ((i / w) + ys 1 t))) : Int))), (3, yI (d2 + 1)), (4, yI d3), (5, yI i), (6, yI t), (7, yI ((i % w) + (ys 0 t))), (8, yI ((i / w) + (ys 1 t))), (9, yI (Int.natAbs ((T (i % w) (i / w)) - (T ((i % w) + ys 0 t) ((i / w) + ys 1 t))) : Int))]) hF dX10_seams_141 3 rfl (by decide) rfl rfl ?_
                  refine y_iload (pc := 144) hF dX10_seams_144 4 rfl ?_
                  refine y_iload (pc := 146) hF dX10_seams_146 9 rfl ?_
                  refine y_mmax (pc := 148) hF dX10_seams_148 w_1096 w_876 w_103 w_877 (Nat.le_of_ble_eq_true rfl) (Nat.le_of_ble_eq_true rfl) ⟨Nat.le_of_ble_eq_true rfl, Nat.le_of_ble_eq_true rfl⟩ (by omega) (by omega) ?_
                  refine y_istore (pc := 151) (lv' := [(0, yR g 0), (1, yI a), (2, yI (d1 + (Int.natAbs ((T (i % w) (i / w)) - (T ((i % w) + ys 0 t) ((i / w) + ys 1 t))) : Int))), (3, yI (d2 + 1)), (4, yI (max d3 (Int.natAbs ((T (i % w) (i / w)) - (T ((i % w) + ys 0 t) ((i / w) + ys 1 t))) : Int))), (5, yI i), (6, yI t), (7, yI ((i % w) + (ys 0 t))), (8, yI ((i / w) + (ys 1 t))), (9, yI (Int.natAbs ((T (i % w) (i / w)) - (T ((i % w) + ys 0 t) ((i / w) + ys 1 t))) : Int))]) hF dX10_seams_151 (by decide) rfl rfl ?_
                  skip
                  refine y_iinc (pc := 153) (lv' := [(0, yR g 0), (1, yI a), (2, yI (d1 + (Int.natAbs ((T (i % w) (i / w)) - (T ((i % w) + ys 0 t) ((i / w) + ys 1 t))) : Int))), (3, yI (d2 + 1)), (4, yI (max d3 (Int.natAbs ((T (i % w) (i / w)) - (T ((i % w) + ys 0 t) ((i / w) + ys 1 t))) : Int))), (5, yI i), (6, yI (t + 2)), (7, yI ((i % w) + (ys 0 t))), (8, yI ((i / w) + (ys 1 t))), (9, yI (Int.natAbs ((T (i % w) (i / w)) - (T ((i % w) + ys 0 t) ((i / w) + ys 1 t))) : Int))]) hF dX10_seams_153 6 rfl (by decide) rfl rfl ?_
                  refine y_goto (pc := 156) hF dX10_seams_156 43 rfl ?_
                  have zst : (d1 + (Int.natAbs ((T (i % w) (i / w)) - (T ((i % w) + ys 0 t) ((i / w) + ys 1 t))) : Int), d2 + 1, max d3 (Int.natAbs ((T (i % w) (i / w)) - (T ((i % w) + ys 0 t) ((i / w) + ys 1 t))) : Int)) = jtF w h T F (d1, d2, d3) (i % w) (i / w) ((i % w) + ys 0 t) ((i / w) + ys 1 t) := by unfold jtF; rw [if_pos zjc]
                  have zys := ys01v
                  have z01 : t = 1 ∨ t = 3 := by omega
                  refine y_sub [0, 1, 2, 3, 4, 5, 6] rfl ?_
                  exact zh43 _ (by omega) (t + 2) (d1 + (Int.natAbs ((T (i % w) (i / w)) - (T ((i % w) + ys 0 t) ((i / w) + ys 1 t))) : Int)) (d2 + 1) (max d3 (Int.natAbs ((T (i % w) (i / w)) - (T ((i % w) + ys 0 t) ((i / w) + ys 1 t))) : Int)) rfl ⟨by omega, by omega, by { rcases zI43.2.2 with ze | ze | ze; (right; left; refine ⟨by omega, ?_⟩; rw [zst, ze.1, zys.2.1.1, zys.2.1.2, Int.add_zero, ← ze.2]); (right; right; refine ⟨by omega, ?_⟩; unfold smF; rw [zst, ze.1, zys.2.2.2.1, zys.2.2.2.2, Int.add_zero, ← ze.2]); (omega) }⟩
          exact zL43 _ (1) (c1) (c2) (c3) rfl ⟨by omega, zI28.2.1, Or.inl ⟨rfl, rfl⟩⟩
    exact zL28 _ (0) (0) (0) (0) rfl ⟨by omega, by omega, rfl⟩
  refine y_aload_n (pc := 0) hF dX10_seams_0 0 rfl ?_
  refine y_iload_n (pc := 1) hF dX10_seams_1 1 rfl ?_
  refine y_if_lt (pc := 2) hF dX10_seams_2 14 rfl (by omega) (fun zc2 => ?_) (fun zc2 => ?_)
  · skip
    refine y_iconst (pc := 14) hF dX10_seams_14 ?_
    exact zJ15 false (by simp; omega)
  · skip
    refine y_iload_n (pc := 5) hF dX10_seams_5 1 rfl ?_
    refine y_iconst (pc := 6) hF dX10_seams_6 ?_
    refine y_icmp_gt (pc := 7) hF dX10_seams_7 14 rfl (by omega) (by omega) (fun zc7 => ?_) (fun zc7 => ?_)
    · skip
      refine y_iconst (pc := 14) hF dX10_seams_14 ?_
      exact zJ15 false (by simp; omega)
    · skip
      refine y_iconst (pc := 10) hF dX10_seams_10 ?_
      refine y_goto (pc := 11) hF dX10_seams_11 15 rfl ?_
      exact zJ15 true (by simp; omega)

theorem dX10_part_0 : decode cX10_part 0 = .ok (.aload_n 0, 1) := by decide +kernel
theorem dX10_part_1 : decode cX10_part 1 = .ok (.iload_n 1, 1) := by decide +kernel
theorem dX10_part_2 : decode cX10_part 2 = .ok (.invokevirtual 347, 3) := by decide +kernel
theorem dX10_part_5 : decode cX10_part 5 = .ok (.aload_n 0, 1) := by decide +kernel
theorem dX10_part_6 : decode cX10_part 6 = .ok (.iload_n 2, 1) := by decide +kernel
theorem dX10_part_7 : decode cX10_part 7 = .ok (.ifCond .lt 12, 3) := by decide +kernel
theorem dX10_part_10 : decode cX10_part 10 = .ok (.iload_n 2, 1) := by decide +kernel
theorem dX10_part_11 : decode cX10_part 11 = .ok (.iconst 5, 1) := by decide +kernel
theorem dX10_part_12 : decode cX10_part 12 = .ok (.if_icmp .gt 7, 3) := by decide +kernel
theorem dX10_part_15 : decode cX10_part 15 = .ok (.iconst 1, 1) := by decide +kernel
theorem dX10_part_16 : decode cX10_part 16 = .ok (.goto 4, 3) := by decide +kernel
theorem dX10_part_19 : decode cX10_part 19 = .ok (.iconst 0, 1) := by decide +kernel
theorem dX10_part_20 : decode cX10_part 20 = .ok (.invokevirtual 110, 3) := by decide +kernel
theorem dX10_part_23 : decode cX10_part 23 = .ok (.iconst 0, 1) := by decide +kernel
theorem dX10_part_24 : decode cX10_part 24 = .ok (.istore_n 3, 1) := by decide +kernel
theorem dX10_part_25 : decode cX10_part 25 = .ok (.iconst 0, 1) := by decide +kernel
theorem dX10_part_26 : decode cX10_part 26 = .ok (.istore 4, 2) := by decide +kernel
theorem dX10_part_28 : decode cX10_part 28 = .ok (.bipush 20, 2) := by decide +kernel
theorem dX10_part_30 : decode cX10_part 30 = .ok (.istore 5, 2) := by decide +kernel
theorem dX10_part_32 : decode cX10_part 32 = .ok (.bipush 20, 2) := by decide +kernel
theorem dX10_part_34 : decode cX10_part 34 = .ok (.istore 6, 2) := by decide +kernel
theorem dX10_part_36 : decode cX10_part 36 = .ok (.iconst (-1), 1) := by decide +kernel
theorem dX10_part_37 : decode cX10_part 37 = .ok (.istore 7, 2) := by decide +kernel
theorem dX10_part_39 : decode cX10_part 39 = .ok (.iconst (-1), 1) := by decide +kernel
theorem dX10_part_40 : decode cX10_part 40 = .ok (.istore 8, 2) := by decide +kernel
theorem dX10_part_42 : decode cX10_part 42 = .ok (.iconst 0, 1) := by decide +kernel
theorem dX10_part_43 : decode cX10_part 43 = .ok (.istore 9, 2) := by decide +kernel
theorem dX10_part_45 : decode cX10_part 45 = .ok (.iload 9, 2) := by decide +kernel
theorem dX10_part_47 : decode cX10_part 47 = .ok (.aload_n 0, 1) := by decide +kernel
theorem dX10_part_48 : decode cX10_part 48 = .ok (.getfield 26, 3) := by decide +kernel
theorem dX10_part_51 : decode cX10_part 51 = .ok (.invokevirtual 181, 3) := by decide +kernel
theorem dX10_part_54 : decode cX10_part 54 = .ok (.if_icmp .ge 108, 3) := by decide +kernel
theorem dX10_part_57 : decode cX10_part 57 = .ok (.aload_n 0, 1) := by decide +kernel
theorem dX10_part_58 : decode cX10_part 58 = .ok (.getfield 70, 3) := by decide +kernel
theorem dX10_part_61 : decode cX10_part 61 = .ok (.getfield 251, 3) := by decide +kernel
theorem dX10_part_64 : decode cX10_part 64 = .ok (.iload 9, 2) := by decide +kernel
theorem dX10_part_66 : decode cX10_part 66 = .ok (.iaload, 1) := by decide +kernel
theorem dX10_part_67 : decode cX10_part 67 = .ok (.iload_n 1, 1) := by decide +kernel
theorem dX10_part_68 : decode cX10_part 68 = .ok (.if_icmp .ne 88, 3) := by decide +kernel
theorem dX10_part_71 : decode cX10_part 71 = .ok (.aload_n 0, 1) := by decide +kernel
theorem dX10_part_72 : decode cX10_part 72 = .ok (.getfield 26, 3) := by decide +kernel
theorem dX10_part_75 : decode cX10_part 75 = .ok (.iload 9, 2) := by decide +kernel
theorem dX10_part_77 : decode cX10_part 77 = .ok (.invokevirtual 242, 3) := by decide +kernel
theorem dX10_part_80 : decode cX10_part 80 = .ok (.istore 10, 2) := by decide +kernel
theorem dX10_part_82 : decode cX10_part 82 = .ok (.aload_n 0, 1) := by decide +kernel
theorem dX10_part_83 : decode cX10_part 83 = .ok (.getfield 26, 3) := by decide +kernel
theorem dX10_part_86 : decode cX10_part 86 = .ok (.iload 9, 2) := by decide +kernel
theorem dX10_part_88 : decode cX10_part 88 = .ok (.invokevirtual 245, 3) := by decide +kernel
theorem dX10_part_91 : decode cX10_part 91 = .ok (.istore 11, 2) := by decide +kernel
theorem dX10_part_93 : decode cX10_part 93 = .ok (.iinc 3 1, 3) := by decide +kernel
theorem dX10_part_96 : decode cX10_part 96 = .ok (.iload 4, 2) := by decide +kernel
theorem dX10_part_98 : decode cX10_part 98 = .ok (.aload_n 0, 1) := by decide +kernel
theorem dX10_part_99 : decode cX10_part 99 = .ok (.getfield 26, 3) := by decide +kernel
theorem dX10_part_102 : decode cX10_part 102 = .ok (.iload 10, 2) := by decide +kernel
theorem dX10_part_104 : decode cX10_part 104 = .ok (.iload 11, 2) := by decide +kernel
theorem dX10_part_106 : decode cX10_part 106 = .ok (.invokevirtual 254, 3) := by decide +kernel
theorem dX10_part_109 : decode cX10_part 109 = .ok (.ifCond .eq 7, 3) := by decide +kernel
theorem dX10_part_112 : decode cX10_part 112 = .ok (.iconst 1, 1) := by decide +kernel
theorem dX10_part_113 : decode cX10_part 113 = .ok (.goto 4, 3) := by decide +kernel
theorem dX10_part_116 : decode cX10_part 116 = .ok (.iconst 0, 1) := by decide +kernel
theorem dX10_part_117 : decode cX10_part 117 = .ok (.iadd, 1) := by decide +kernel
theorem dX10_part_118 : decode cX10_part 118 = .ok (.istore 4, 2) := by decide +kernel
theorem dX10_part_120 : decode cX10_part 120 = .ok (.iload 5, 2) := by decide +kernel
theorem dX10_part_122 : decode cX10_part 122 = .ok (.iload 10, 2) := by decide +kernel
theorem dX10_part_124 : decode cX10_part 124 = .ok (.invokestatic 350, 3) := by decide +kernel
theorem dX10_part_127 : decode cX10_part 127 = .ok (.istore 5, 2) := by decide +kernel
theorem dX10_part_129 : decode cX10_part 129 = .ok (.iload 6, 2) := by decide +kernel
theorem dX10_part_131 : decode cX10_part 131 = .ok (.iload 11, 2) := by decide +kernel
theorem dX10_part_133 : decode cX10_part 133 = .ok (.invokestatic 350, 3) := by decide +kernel
theorem dX10_part_136 : decode cX10_part 136 = .ok (.istore 6, 2) := by decide +kernel
theorem dX10_part_138 : decode cX10_part 138 = .ok (.iload 7, 2) := by decide +kernel
theorem dX10_part_140 : decode cX10_part 140 = .ok (.iload 10, 2) := by decide +kernel
theorem dX10_part_142 : decode cX10_part 142 = .ok (.invokestatic 355, 3) := by decide +kernel
theorem dX10_part_145 : decode cX10_part 145 = .ok (.istore 7, 2) := by decide +kernel
theorem dX10_part_147 : decode cX10_part 147 = .ok (.iload 8, 2) := by decide +kernel
theorem dX10_part_149 : decode cX10_part 149 = .ok (.iload 11, 2) := by decide +kernel
theorem dX10_part_151 : decode cX10_part 151 = .ok (.invokestatic 355, 3) := by decide +kernel
theorem dX10_part_154 : decode cX10_part 154 = .ok (.istore 8, 2) := by decide +kernel
theorem dX10_part_156 : decode cX10_part 156 = .ok (.iinc 9 1, 3) := by decide +kernel
theorem dX10_part_159 : decode cX10_part 159 = .ok (.goto (-114), 3) := by decide +kernel
theorem dX10_part_162 : decode cX10_part 162 = .ok (.iload_n 2, 1) := by decide +kernel
theorem dX10_part_163 : decode cX10_part 163 = .ok (.tableswitch 47 0 4 #[33, 35, 38, 41, 44], 33) := by decide +kernel
theorem dX10_part_196 : decode cX10_part 196 = .ok (.iload_n 3, 1) := by decide +kernel
theorem dX10_part_197 : decode cX10_part 197 = .ok (.ireturn, 1) := by decide +kernel
theorem dX10_part_198 : decode cX10_part 198 = .ok (.iload 5, 2) := by decide +kernel
theorem dX10_part_200 : decode cX10_part 200 = .ok (.ireturn, 1) := by decide +kernel
theorem dX10_part_201 : decode cX10_part 201 = .ok (.iload 6, 2) := by decide +kernel
theorem dX10_part_203 : decode cX10_part 203 = .ok (.ireturn, 1) := by decide +kernel
theorem dX10_part_204 : decode cX10_part 204 = .ok (.iload 7, 2) := by decide +kernel
theorem dX10_part_206 : decode cX10_part 206 = .ok (.ireturn, 1) := by decide +kernel
theorem dX10_part_207 : decode cX10_part 207 = .ok (.iload 8, 2) := by decide +kernel
theorem dX10_part_209 : decode cX10_part 209 = .ok (.ireturn, 1) := by decide +kernel
theorem dX10_part_210 : decode cX10_part 210 = .ok (.iload 4, 2) := by decide +kernel
theorem dX10_part_212 : decode cX10_part 212 = .ok (.ireturn, 1) := by decide +kernel
set_option maxHeartbeats 4000000 in
set_option maxRecDepth 100000 in
theorem tX10_part {l : Launch} {g : yG} {n : Nat} {σ : yM} (hlt : l.stackTraces = false) (hn : 172 ≤ n) (w h : Int) (T S F P O : Int → Int → Int) (nf df nl : Int) (lg : Int → Int → Int) (s re fo ra tu we sh : Int) (H : List aX) (ht : Bool) (K : Int → Int → Int) (tl : Int) (tb : Int → Int) (fa r1 r2 N : Int) (hV : cV σ (w, h, (T, S, F, P, O, nf, df, nl, lg), (s, re, fo, ra, tu, we, sh), H, ht, K, tl, tb, fa, r1, r2)) (hW : aW N (w, h, (T, S, F, P, O, nf, df, nl, lg), (s, re, fo, ra, tu, we, sh), H, ht, K, tl, tb, fa, r1, r2)) (p a : Int) (hp : -2147483648 ≤ p ∧ p < 2147483648) (ha : -2147483648 ≤ a ∧ a < 2147483648) : yMX l g yX10_part cX10_part 12 (some .int) (rmA 8 4 24) [yR g 0, yI p, yI a] (SC g) n σ (SC g) (yPi (fun v n' σ' => n ≤ n' ∧ ((0 ≤ p ∧ p < (sPt w h T).2) ∧ 0 ≤ a ∧ a ≤ 5) ∧ v = paV (paQ w h T p) a ∧ cV σ' (w, h, (T, S, F, P, O, nf, df, nl, lg), (s, re, fo, ra, tu, we, sh), H, ht, K, tl, tb, fa, r1, r2) ∧ cF σ σ')) (fun E n' σ' => n ≤ n' ∧ ((E = eN ∧ ¬ (0 ≤ p ∧ p < (sPt w h T).2) ∧ cV σ' (bN (w, h, (T, S, F, P, O, nf, df, nl, lg), (s, re, fo, ra, tu, we, sh), H, ht, K, tl, tb, fa, r1, r2))) ∨ (E = eA ∧ (0 ≤ p ∧ p < (sPt w h T).2) ∧ ¬ (0 ≤ a ∧ a ≤ 5) ∧ cV σ' (bA (w, h, (T, S, F, P, O, nf, df, nl, lg), (s, re, fo, ra, tu, we, sh), H, ht, K, tl, tb, fa, r1, r2)))) ∧ cF σ σ') := by
  obtain ⟨⟨hA, hJ⟩, hS, hH, ⟨hb1, hb2⟩, ⟨ht1, ht2⟩, hfa, hr1, hr2, hT⟩ := id hV
  obtain ⟨hw1, hw2, hw3, hw4⟩ := id hA.1.1
  obtain ⟨hs1, hs2, hs3, hs4, hs5, hs6, hs7⟩ := id hS.2
  have z128 : 128 < n := by omega
  have z129 : 129 < n := by omega
  have z130 : 130 < n := by omega
  have zwh := y_wh ⟨hw1, hw2⟩ ⟨hw3, hw4⟩
  have zsp := sPt_bd (w := w) (h := h) (T := T) ⟨hw1, hw2⟩ ⟨hw3, hw4⟩
  refine y_startX (by decide) (Nat.le_of_ble_eq_true rfl) (fun X0 hX => ?_)
  have hF := hX.1
  show yV X0 g 12 (yQX X0 g (SC g) (yPi (fun v n' σ' => n ≤ n' ∧ ((0 ≤ p ∧ p < (sPt w h T).2) ∧ 0 ≤ a ∧ a ≤ 5) ∧ v = paV (paQ w h T p) a ∧ cV σ' (w, h, (T, S, F, P, O, nf, df, nl, lg), (s, re, fo, ra, tu, we, sh), H, ht, K, tl, tb, fa, r1, r2) ∧ cF σ σ')) (fun E n' σ' => n ≤ n' ∧ ((E = eN ∧ ¬ (0 ≤ p ∧ p < (sPt w h T).2) ∧ cV σ' (bN (w, h, (T, S, F, P, O, nf, df, nl, lg), (s, re, fo, ra, tu, we, sh), H, ht, K, tl, tb, fa, r1, r2))) ∨ (E = eA ∧ (0 ≤ p ∧ p < (sPt w h T).2) ∧ ¬ (0 ≤ a ∧ a ≤ 5) ∧ cV σ' (bA (w, h, (T, S, F, P, O, nf, df, nl, lg), (s, re, fo, ra, tu, we, sh), H, ht, K, tl, tb, fa, r1, r2)))) ∧ cF σ σ') (rmA 8 4 24)) (SC g) n σ 0 0 0 [(0, yR g 0), (1, yI p), (2, yI a)] []
  refine y_aload_n (pc := 0) hF dX10_part_0 0 rfl ?_
  refine y_iload_n (pc := 1) hF dX10_part_1 1 rfl ?_
  refine y_contX (cells' := 0 + 1) (slots' := 0 + 6) hX (y_rVX (pc := 2) hX (tX10_demandPart hlt hn w h T S F P O hA p hp) dX10_part_2 (by omega) rfl rfl rfl w_1091 qX10_demandPart rfl ⟨Nat.le_of_ble_eq_true rfl, Nat.le_of_ble_eq_true rfl⟩ ⟨Nat.le_of_ble_eq_true rfl, Nat.le_of_ble_eq_true rfl⟩ (Nat.le_of_ble_eq_true rfl) rfl) rfl rfl ⟨Nat.le_of_ble_eq_true rfl, Nat.le_of_ble_eq_true rfl⟩ (fun E n' σ' zx => ⟨zx.2.1, Or.inl ⟨zx.1, zx.2.2.1, by obtain ⟨τ, zf, ze⟩ := zx.2.2.2; rw [ze, ← zf 0 (by omega)]; exact (hV.scr zf (by omega) (hT.fr (zf 127 (by omega)))).bN⟩, by obtain ⟨τ, zf, ze⟩ := zx.2.2.2; rw [ze]; exact (zf.cF (by omega)).tr cF_N⟩) (fun r2 n' σ2 zp2 => ?_)
  obtain ⟨zr2, zp2⟩ := zp2
  subst zr2
  obtain ⟨zn2, zf2, zl2, zb2⟩ := zp2
  have zn2 := zn2.symm
  subst zn2
  have zV2 := hV.scr zf2 (by omega) (hT.fr (zf2 127 (by omega)))
  have zA_σ2 := hA.fc (by omega) zf2
  have zS_σ2 := hS.fc (by omega) zf2
  show yV X0 g 12 (yQX X0 g (SC g) (yPi (fun v n' σ' => n ≤ n' ∧ ((0 ≤ p ∧ p < (sPt w h T).2) ∧ 0 ≤ a ∧ a ≤ 5) ∧ v = paV (paQ w h T p) a ∧ cV σ' (w, h, (T, S, F, P, O, nf, df, nl, lg), (s, re, fo, ra, tu, we, sh), H, ht, K, tl, tb, fa, r1, r2) ∧ cF σ σ')) (fun E n' σ' => n ≤ n' ∧ ((E = eN ∧ ¬ (0 ≤ p ∧ p < (sPt w h T).2) ∧ cV σ' (bN (w, h, (T, S, F, P, O, nf, df, nl, lg), (s, re, fo, ra, tu, we, sh), H, ht, K, tl, tb, fa, r1, r2))) ∨ (E = eA ∧ (0 ≤ p ∧ p < (sPt w h T).2) ∧ ¬ (0 ≤ a ∧ a ≤ 5) ∧ cV σ' (bA (w, h, (T, S, F, P, O, nf, df, nl, lg), (s, re, fo, ra, tu, we, sh), H, ht, K, tl, tb, fa, r1, r2)))) ∧ cF σ σ') (rmA 8 4 24)) (SC g) n σ2 (0 + 1) (0 + 6) 5 [(0, yR g 0), (1, yI p), (2, yI a)] []
  have zJ20 : ∀ (zb : Bool), (zb = decide (0 ≤ a ∧ a ≤ 5)) → yV X0 g 12 (yQX X0 g (SC g) (yPi (fun v n' σ' => n ≤ n' ∧ ((0 ≤ p ∧ p < (sPt w h T).2) ∧ 0 ≤ a ∧ a ≤ 5) ∧ v = paV (paQ w h T p) a ∧ cV σ' (w, h, (T, S, F, P, O, nf, df, nl, lg), (s, re, fo, ra, tu, we, sh), H, ht, K, tl, tb, fa, r1, r2) ∧ cF σ σ')) (fun E n' σ' => n ≤ n' ∧ ((E = eN ∧ ¬ (0 ≤ p ∧ p < (sPt w h T).2) ∧ cV σ' (bN (w, h, (T, S, F, P, O, nf, df, nl, lg), (s, re, fo, ra, tu, we, sh), H, ht, K, tl, tb, fa, r1, r2))) ∨ (E = eA ∧ (0 ≤ p ∧ p < (sPt w h T).2) ∧ ¬ (0 ≤ a ∧ a ≤ 5) ∧ cV σ' (bA (w, h, (T, S, F, P, O, nf, df, nl, lg), (s, re, fo, ra, tu, we, sh), H, ht, K, tl, tb, fa, r1, r2)))) ∧ cF σ σ') (rmA 8 4 24)) (SC g) n σ2 (0 + 1) (0 + 6) 20 [(0, yR g 0), (1, yI p), (2, yI a)] [yI (bi zb), yR g 0] := by
    intro zb  zhb
    refine y_contX (cells' := 0 + 1 + 1) (slots' := 0 + 6 + 6) hX (y_rVX (pc := 20) hX (tX10_demand hlt hn zb) dX10_part_20 (by omega) rfl rfl rfl w_611 qX10_demand rfl ⟨Nat.le_of_ble_eq_true rfl, Nat.le_of_ble_eq_true rfl⟩ ⟨Nat.le_of_ble_eq_true rfl, Nat.le_of_ble_eq_true rfl⟩ (Nat.le_of_ble_eq_true rfl) rfl) rfl rfl ⟨Nat.le_of_ble_eq_true rfl, Nat.le_of_ble_eq_true rfl⟩ (fun E n' σ' zx => ⟨zx.2.1, Or.inr ⟨zx.1, zb2, by have zq := zx.2.2.1; rw [zhb] at zq; simpa using zq, by rw [zx.2.2.2]; exact zV2.bA⟩, by rw [zx.2.2.2]; exact (zf2.cF (by omega)).tr cF_N⟩) (fun r20 n' σ20 zp20 => ?_)
    obtain ⟨zr20, zp20⟩ := zp20
    subst zr20
    obtain ⟨zn20, zs20, zb20⟩ := zp20
    have zs20 := zs20.symm
    subst zs20
    have zn20 := zn20.symm
    subst zn20
    skip
    show yV X0 g 12 (yQX X0 g (SC g) (yPi (fun v n' σ' => n ≤ n' ∧ ((0 ≤ p ∧ p < (sPt w h T).2) ∧ 0 ≤ a ∧ a ≤ 5) ∧ v = paV (paQ w h T p) a ∧ cV σ' (w, h, (T, S, F, P, O, nf, df, nl, lg), (s, re, fo, ra, tu, we, sh), H, ht, K, tl, tb, fa, r1, r2) ∧ cF σ σ')) (fun E n' σ' => n ≤ n' ∧ ((E = eN ∧ ¬ (0 ≤ p ∧ p < (sPt w h T).2) ∧ cV σ' (bN (w, h, (T, S, F, P, O, nf, df, nl, lg), (s, re, fo, ra, tu, we, sh), H, ht, K, tl, tb, fa, r1, r2))) ∨ (E = eA ∧ (0 ≤ p ∧ p < (sPt w h T).2) ∧ ¬ (0 ≤ a ∧ a ≤ 5) ∧ cV σ' (bA (w, h, (T, S, F, P, O, nf, df, nl, lg), (s, re, fo, ra, tu, we, sh), H, ht, K, tl, tb, fa, r1, r2)))) ∧ cF σ σ') (rmA 8 4 24)) (SC g) n σ2 (0 + 1 + 1) (0 + 6 + 6) 23 [(0, yR g 0), (1, yI p), (2, yI a)] []
    have zok : (0 ≤ p ∧ p < (sPt w h T).2) ∧ 0 ≤ a ∧ a ≤ 5 := ⟨zb2, by have zq := zb20; rw [zhb] at zq; simpa using zq⟩
    refine y_iconst (pc := 23) hF dX10_part_23 ?_
    refine y_istore_n (pc := 24) (lv' := [(0, yR g 0), (1, yI p), (2, yI a), (3, yI 0)]) hF dX10_part_24 (by decide) rfl rfl ?_
    refine y_iconst (pc := 25) hF dX10_part_25 ?_
    refine y_istore (pc := 26) (lv' := [(0, yR g 0), (1, yI p), (2, yI a), (3, yI 0), (4, yI 0)]) hF dX10_part_26 (by decide) rfl rfl ?_
    refine y_bipush (pc := 28) hF dX10_part_28 (by decide) ?_
    refine y_istore (pc := 30) (lv' := [(0, yR g 0), (1, yI p), (2, yI a), (3, yI 0), (4, yI 0), (5, yI 20)]) hF dX10_part_30 (by decide) rfl rfl ?_
    refine y_bipush (pc := 32) hF dX10_part_32 (by decide) ?_
    refine y_istore (pc := 34) (lv' := [(0, yR g 0), (1, yI p), (2, yI a), (3, yI 0), (4, yI 0), (5, yI 20), (6, yI 20)]) hF dX10_part_34 (by decide) rfl rfl ?_
    refine y_iconst (pc := 36) hF dX10_part_36 ?_
    refine y_istore (pc := 37) (lv' := [(0, yR g 0), (1, yI p), (2, yI a), (3, yI 0), (4, yI 0), (5, yI 20), (6, yI 20), (7, yI (-1))]) hF dX10_part_37 (by decide) rfl rfl ?_
    refine y_iconst (pc := 39) hF dX10_part_39 ?_
    refine y_istore (pc := 40) (lv' := [(0, yR g 0), (1, yI p), (2, yI a), (3, yI 0), (4, yI 0), (5, yI 20), (6, yI 20), (7, yI (-1)), (8, yI (-1))]) hF dX10_part_40 (by decide) rfl rfl ?_
    refine y_iconst (pc := 42) hF dX10_part_42 ?_
    refine y_istore (pc := 43) (lv' := [(0, yR g 0), (1, yI p), (2, yI a), (3, yI 0), (4, yI 0), (5, yI 20), (6, yI 20), (7, yI (-1)), (8, yI (-1)), (9, yI 0)]) hF dX10_part_43 (by decide) rfl rfl ?_
    have zL45 : ∀ (N : Nat) (i c1 c2 c3 c4 c5 c6 : Int), N = (w * h - i).toNat → ((0 ≤ i ∧ i ≤ w * h) ∧ ((-1 ≤ c3 ∧ c3 ≤ 20) ∧ (-1 ≤ c4 ∧ c4 ≤ 20) ∧ (-1 ≤ c5 ∧ c5 ≤ 20) ∧ (-1 ≤ c6 ∧ c6 ≤ 20)) ∧ (c1, c2, c3, c4, c5, c6) = fr (fun q i => paF w h T (sPt w h T).1 p q (i % w) (i / w)) 0 i.toNat (0, 0, 20, 20, -1, -1)) → yV X0 g 12 (yQX X0 g (SC g) (yPi (fun v n' σ' => n ≤ n' ∧ ((0 ≤ p ∧ p < (sPt w h T).2) ∧ 0 ≤ a ∧ a ≤ 5) ∧ v = paV (paQ w h T p) a ∧ cV σ' (w, h, (T, S, F, P, O, nf, df, nl, lg), (s, re, fo, ra, tu, we, sh), H, ht, K, tl, tb, fa, r1, r2) ∧ cF σ σ')) (fun E n' σ' => n ≤ n' ∧ ((E = eN ∧ ¬ (0 ≤ p ∧ p < (sPt w h T).2) ∧ cV σ' (bN (w, h, (T, S, F, P, O, nf, df, nl, lg), (s, re, fo, ra, tu, we, sh), H, ht, K, tl, tb, fa, r1, r2))) ∨ (E = eA ∧ (0 ≤ p ∧ p < (sPt w h T).2) ∧ ¬ (0 ≤ a ∧ a ≤ 5) ∧ cV σ' (bA (w, h, (T, S, F, P, O, nf, df, nl, lg), (s, re, fo, ra, tu, we, sh), H, ht, K, tl, tb, fa, r1, r2)))) ∧ cF σ σ') (rmA 8 4 24)) (SC g) n σ2 (0 + 1 + 1) (0 + 6 + 6) 45 [(0, yR g 0), (1, yI p), (2, yI a), (3, yI c1), (4, yI c2), (5, yI c3), (6, yI c4), (7, yI c5), (8, yI c6), (9, yI i)] [] := by
      intro N
      induction N using Nat.strongRecOn with
      | ind N zh45 =>
        intro i c1 c2 c3 c4 c5 c6  zN45 zI45
        refine y_iload (pc := 45) hF dX10_part_45 9 rfl ?_
        refine y_aload_n (pc := 47) hF dX10_part_47 0 rfl ?_
        refine y_get (pc := 48) (ci := 10) hF dX10_part_48 (by omega) rfl rfl rfl iX10 2 (by decide) w_489 rfl ?_
        have zz51 := y_rV (pc := 51) hF (tX4_dots (n := n) (σ := σ2) 5 w h T S F P O hn pic_5 zA_σ2) dX10_part_51 (by have := pic_5.1; omega) (pic_5.2 g).1 rfl rfl w_567 qX4_dots rfl ⟨Nat.le_of_ble_eq_true rfl, Nat.le_of_ble_eq_true rfl⟩ ⟨Nat.le_of_ble_eq_true rfl, Nat.le_of_ble_eq_true rfl⟩ (Nat.le_of_ble_eq_true rfl) rfl (rest := [yI i]) (cells := 0 + 1 + 1) (slots := 0 + 6 + 6) (lv := [(0, yR g 0), (1, yI p), (2, yI a), (3, yI c1), (4, yI c2), (5, yI c3), (6, yI c4), (7, yI c5), (8, yI c6), (9, yI i)])
        refine y_cp (zz51) ?_
        refine y_icmp_ge (pc := 54) hF dX10_part_54 162 rfl (by omega) (by omega) (fun zc54 => ?_) (fun zc54 => ?_)
        · skip
          have zq : (c1, c2, c3, c4, c5, c6) = paQ w h T p := by rw [zI45.2.2, show i = w * h by omega]; exact fr_linI _ (by omega) (by omega) _
          refine y_iload_n (pc := 162) hF dX10_part_162 2 rfl ?_
          rcases Decidable.em (a = 0) with zw163_0 | zw163_0
          · refine y_tswI (pc := 163) hF dX10_part_163 (off := 33) 0 zw163_0 (by decide) rfl 196 rfl ?_
            refine y_iload_n (pc := 196) hF dX10_part_196 3 rfl ?_
            exact y_retX (y_iret (pc := 197) hF dX10_part_197 (Nat.le_of_ble_eq_true rfl) (Nat.le_of_ble_eq_true rfl) ⟨_, rfl, Nat.le_refl _, zok, by rw [← zq]; unfold paV; simp [zw163_0], zV2, zf2.cF (by omega)⟩)
          rcases Decidable.em (a = 1) with zw163_1 | zw163_1
          · refine y_tswI (pc := 163) hF dX10_part_163 (off := 35) 1 zw163_1 (by decide) rfl 198 rfl ?_
            refine y_iload (pc := 198) hF dX10_part_198 5 rfl ?_
            exact y_retX (y_iret (pc := 200) hF dX10_part_200 (Nat.le_of_ble_eq_true rfl) (Nat.le_of_ble_eq_true rfl) ⟨_, rfl, Nat.le_refl _, zok, by rw [← zq]; unfold paV; simp [zw163_1], zV2, zf2.cF (by omega)⟩)
          rcases Decidable.em (a = 2) with zw163_2 | zw163_2
          · refine y_tswI (pc := 163) hF dX10_part_163 (off := 38) 2 zw163_2 (by decide) rfl 201 rfl ?_
            refine y_iload (pc := 201) hF dX10_part_201 6 rfl ?_
            exact y_retX (y_iret (pc := 203) hF dX10_part_203 (Nat.le_of_ble_eq_true rfl) (Nat.le_of_ble_eq_true rfl) ⟨_, rfl, Nat.le_refl _, zok, by rw [← zq]; unfold paV; simp [zw163_2], zV2, zf2.cF (by omega)⟩)
          rcases Decidable.em (a = 3) with zw163_3 | zw163_3
          · refine y_tswI (pc := 163) hF dX10_part_163 (off := 41) 3 zw163_3 (by decide) rfl 204 rfl ?_
            refine y_iload (pc := 204) hF dX10_part_204 7 rfl ?_
            exact y_retX (y_iret (pc := 206) hF dX10_part_206 (Nat.le_of_ble_eq_true rfl) (Nat.le_of_ble_eq_true rfl) ⟨_, rfl, Nat.le_refl _, zok, by rw [← zq]; unfold paV; simp [zw163_3], zV2, zf2.cF (by omega)⟩)
          rcases Decidable.em (a = 4) with zw163_4 | zw163_4
          · refine y_tswI (pc := 163) hF dX10_part_163 (off := 44) 4 zw163_4 (by decide) rfl 207 rfl ?_
            refine y_iload (pc := 207) hF dX10_part_207 8 rfl ?_
            exact y_retX (y_iret (pc := 209) hF dX10_part_209 (Nat.le_of_ble_eq_true rfl) (Nat.le_of_ble_eq_true rfl) ⟨_, rfl, Nat.le_refl _, zok, by rw [← zq]; unfold paV; simp [zw163_4], zV2, zf2.cF (by omega)⟩)
          refine y_tswO (pc := 163) hF dX10_part_163 (by omega) (by omega) 210 rfl ?_
          refine y_iload (pc := 210) hF dX10_part_210 4 rfl ?_
          exact y_retX (y_iret (pc := 212) hF dX10_part_212 (Nat.le_of_ble_eq_true rfl) (Nat.le_of_ble_eq_true rfl) ⟨_, rfl, Nat.le_refl _, zok, by rw [← zq]; unfold paV; simp [show a = 5 by omega], zV2, zf2.cF (by omega)⟩)
        · skip
          have zd := y_de (h := h) hw1 zI45.1.1 (by omega)
          have zri : -2147483648 ≤ i ∧ i < 2147483648 := by omega
          have zlb := zsp.1 (i % w) (i / w)
          have zll : σ2 129 i = (sPt w h T).1 (i % w) (i / w) := by have := zl2 (i % w) (i / w) zd.2.1 zd.2.2.1 zd.2.2.2.1 zd.2.2.2.2; rw [zd.1] at this; exact this
          refine y_aload_n (pc := 57) hF dX10_part_57 0 rfl ?_
          refine y_get (pc := 58) (ci := 10) hF dX10_part_58 (by omega) rfl rfl rfl iX10 9 (by decide) w_496 rfl ?_
          refine y_getN (pc := 61) (ci := 3) hF dX10_part_61 z128 rfl rfl rfl iX3 0 (by decide) w_449 rfl ?_
          refine y_iload (pc := 64) hF dX10_part_64 9 rfl ?_
          refine y_iaload (pc := 66) hF dX10_part_66 z129 rfl ⟨zI45.1.1, by show _ < (400 : Int); omega⟩ (by decide) ?_
          rw [show σ2 129 i = (sPt w h T).1 (i % w) (i / w) from zll]
          refine y_iload_n (pc := 67) hF dX10_part_67 1 rfl ?_
          refine y_icmp_ne (pc := 68) hF dX10_part_68 156 rfl (by omega) (by omega) (fun zc68 => ?_) (fun zc68 => ?_)
          · skip
            refine y_iinc (pc := 156) (lv' := [(0, yR g 0), (1, yI p), (2, yI a), (3, yI c1), (4, yI c2), (5, yI c3), (6, yI c4), (7, yI c5), (8, yI c6), (9, yI (i + 1))]) hF dX10_part_156 9 rfl (by decide) rfl rfl ?_
            refine y_goto (pc := 159) hF dX10_part_159 45 rfl ?_
            exact zh45 _ (by omega) (i + 1) (c1) (c2) (c3) (c4) (c5) (c6) rfl ⟨by omega, by omega, by rw [fr_up _ _ _ _ zI45.1.1, ← zI45.2.2, Int.zero_add]; unfold paF; simp only; rw [if_neg zc68]⟩
          · skip
            refine y_aload_n (pc := 71) hF dX10_part_71 0 rfl ?_
            refine y_get (pc := 72) (ci := 10) hF dX10_part_72 (by omega) rfl rfl rfl iX10 2 (by decide) w_489 rfl ?_
            refine y_iload (pc := 75) hF dX10_part_75 9 rfl ?_
            have zz77 := y_rV (pc := 77) hF (tX4_xOf (n := n) (σ := σ2) 5 w h T S F P O hn pic_5 zA_σ2 i zri) dX10_part_77 (by have := pic_5.1; omega) (pic_5.2 g).1 rfl rfl w_994 qX4_xOf rfl ⟨Nat.le_of_ble_eq_true rfl, Nat.le_of_ble_eq_true rfl⟩ ⟨Nat.le_of_ble_eq_true rfl, Nat.le_of_ble_eq_true rfl⟩ (Nat.le_of_ble_eq_true rfl) rfl (rest := []) (cells := 0 + 1 + 1) (slots := 0 + 6 + 6) (lv := [(0, yR g 0), (1, yI p), (2, yI a), (3, yI c1), (4, yI c2), (5, yI c3), (6, yI c4), (7, yI c5), (8, yI c6), (9, yI i)])
            refine y_cp (zz77) ?_
            rw [show cx w i = i % w from (by unfold cx; rw [if_neg (by omega)])]
            refine y_istore (pc := 80) (lv' := [(0, yR g 0), (1, yI p), (2, yI a), (3, yI c1), (4, yI c2), (5, yI c3), (6, yI c4), (7, yI c5), (8, yI c6), (9, yI i), (10, yI (i % w))]) hF dX10_part_80 (by decide) rfl rfl ?_
            refine y_aload_n (pc := 82) hF dX10_part_82 0 rfl ?_
            refine y_get (pc := 83) (ci := 10) hF dX10_part_83 (by omega) rfl rfl rfl iX10 2 (by decide) w_489 rfl ?_
            refine y_iload (pc := 86) hF dX10_part_86 9 rfl ?_
            have zz88 := y_rV (pc := 88) hF (tX4_yOf (n := n) (σ := σ2) 5 w h T S F P O hn pic_5 zA_σ2 i zri) dX10_part_88 (by have := pic_5.1; omega) (pic_5.2 g).1 rfl rfl w_995 qX4_yOf rfl ⟨Nat.le_of_ble_eq_true rfl, Nat.le_of_ble_eq_true rfl⟩ ⟨Nat.le_of_ble_eq_true rfl, Nat.le_of_ble_eq_true rfl⟩ (Nat.le_of_ble_eq_true rfl) rfl (rest := []) (cells := 0 + 1 + 1) (slots := 0 + 6 + 6) (lv := [(0, yR g 0), (1, yI p), (2, yI a), (3, yI c1), (4, yI c2), (5, yI c3), (6, yI c4), (7, yI c5), (8, yI c6), (9, yI i), (10, yI (i % w))])
            refine y_cp (zz88) ?_
            rw [show cy w i = i / w from (by unfold cy; rw [if_neg (by omega)])]
            refine y_istore (pc := 91) (lv' := [(0, yR g 0), (1, yI p), (2, yI a), (3, yI c1), (4, yI c2), (5, yI c3), (6, yI c4), (7, yI c5), (8, yI c6), (9, yI i), (10, yI (i % w)), (11, yI (i / w))]) hF dX10_part_91 (by decide) rfl rfl ?_
            refine y_iinc (pc := 93) (lv' := [(0, yR g 0), (1, yI p), (2, yI a), (3, yI (c1 + 1)), (4, yI c2), (5, yI c3), (6, yI c4), (7, yI c5), (8, yI c6), (9, yI i), (10, yI (i % w)), (11, yI (i / w))]) hF dX10_part_93 3 rfl (by decide) rfl rfl ?_
            refine y_iload (pc := 96) hF dX10_part_96 4 rfl ?_
            refine y_aload_n (pc := 98) hF dX10_part_98 0 rfl ?_
            refine y_get (pc := 99) (ci := 10) hF dX10_part_99 (by omega) rfl rfl rfl iX10 2 (by decide) w_489 rfl ?_
            refine y_iload (pc := 102) hF dX10_part_102 10 rfl ?_
            refine y_iload (pc := 104) hF dX10_part_104 11 rfl ?_
            have zz106 := y_rV (pc := 106) hF (tX4_isOnFront (n := n) (σ := σ2) 5 w h T S F P O hn pic_5 zA_σ2 (i % w) (i / w) (by omega) (by omega)) dX10_part_106 (by have := pic_5.1; omega) (pic_5.2 g).1 rfl rfl w_996 qX4_isOnFront rfl ⟨Nat.le_of_ble_eq_true rfl, Nat.le_of_ble_eq_true rfl⟩ ⟨Nat.le_of_ble_eq_true rfl, Nat.le_of_ble_eq_true rfl⟩ (Nat.le_of_ble_eq_true rfl) rfl (rest := [yI c2]) (cells := 0 + 1 + 1) (slots := 0 + 6 + 6) (lv := [(0, yR g 0), (1, yI p), (2, yI a), (3, yI (c1 + 1)), (4, yI c2), (5, yI c3), (6, yI c4), (7, yI c5), (8, yI c6), (9, yI i), (10, yI (i % w)), (11, yI (i / w))])
            refine y_cp (zz106) ?_
            refine y_t_if_eq (pc := 109) hF dX10_part_109 dX10_part_112 dX10_part_113 dX10_part_116 bi_r ?_
            rw [show (if (bi (sFr w h T (i % w) (i / w))) = 0 then 0 else 1) = bi (sFr w h T (i % w) (i / w)) from bi_t]
            refine y_iadd (pc := 117) hF dX10_part_117 ?_
            refine y_istore (pc := 118) (lv' := [(0, yR g 0), (1, yI p), (2, yI a), (3, yI (c1 + 1)), (4, yI (c2 + (bi (sFr w h T (i % w) (i / w))))), (5, yI c3), (6, yI c4), (7, yI c5), (8, yI c6), (9, yI i), (10, yI (i % w)), (11, yI (i / w))]) hF dX10_part_118 (by decide) rfl rfl ?_
            refine y_iload (pc := 120) hF dX10_part_120 5 rfl ?_
            refine y_iload (pc := 122) hF dX10_part_122 10 rfl ?_
            refine y_mmin (pc := 124) hF dX10_part_124 w_1095 w_699 w_103 w_700 (Nat.le_of_ble_eq_true rfl) (Nat.le_of_ble_eq_true rfl) ⟨Nat.le_of_ble_eq_true rfl, Nat.le_of_ble_eq_true rfl⟩ (by omega) (by omega) ?_
            refine y_istore (pc := 127) (lv' := [(0, yR g 0), (1, yI p), (2, yI a), (3, yI (c1 + 1)), (4, yI (c2 + (bi (sFr w h T (i % w) (i / w))))), (5, yI (min c3 (i % w))), (6, yI c4), (7, yI c5), (8, yI c6), (9, yI i), (10, yI (i % w)), (11, yI (i / w))]) hF dX10_part_127 (by decide) rfl rfl ?_
            refine y_iload (pc := 129) hF dX10_part_129 6 rfl ?_
            refine y_iload (pc := 131) hF dX10_part_131 11 rfl ?_
            refine y_mmin (pc := 133) hF dX10_part_133 w_1095 w_699 w_103 w_700 (Nat.le_of_ble_eq_true rfl) (Nat.le_of_ble_eq_true rfl) ⟨Nat.le_of_ble_eq_true rfl, Nat.le_of_ble_eq_true rfl⟩ (by omega) (by omega) ?_
            refine y_istore (pc := 136) (lv' := [(0, yR g 0), (1, yI p), (2, yI a), (3, yI (c1 + 1)), (4, yI (c2 + (bi (sFr w h T (i % w) (i / w))))), (5, yI (min c3 (i % w))), (6, yI (min c4 (i / w))), (7, yI c5), (8, yI c6), (9, yI i), (10, yI (i % w)), (11, yI (i / w))]) hF dX10_part_136 (by decide) rfl rfl ?_
            refine y_iload (pc := 138) hF dX10_part_138 7 rfl ?_
            refine y_iload (pc := 140) hF dX10_part_140 10 rfl ?_
            refine y_mmax (pc := 142) hF dX10_part_142 w_1096 w_876 w_103 w_877 (Nat.le_of_ble_eq_true rfl) (Nat.le_of_ble_eq_true rfl) ⟨Nat.le_of_ble_eq_true rfl, Nat.le_of_ble_eq_true rfl⟩ (by omega) (by omega) ?_
            refine y_istore (pc := 145) (lv' := [(0, yR g 0), (1, yI p), (2, yI a), (3, yI (c1 + 1)), (4, yI (c2 + (bi (sFr w h T (i % w) (i / w))))), (5, yI (min c3 (i % w))), (6, yI (min c4 (i / w))), (7, yI (max c5 (i % w))), (8, yI c6), (9, yI i), (10, yI (i % w)), (11, yI (i / w))]) hF dX10_part_145 (by decide) rfl rfl ?_
            refine y_iload (pc := 147) hF dX10_part_147 8 rfl ?_
            refine y_iload (pc := 149) hF dX10_part_149 11 rfl ?_
            refine y_mmax (pc := 151) hF dX10_part_151 w_1096 w_876 w_103 w_877 (Nat.le_of_ble_eq_true rfl) (Nat.le_of_ble_eq_true rfl) ⟨Nat.le_of_ble_eq_true rfl, Nat.le_of_ble_eq_true rfl⟩ (by omega) (by omega) ?_
            refine y_istore (pc := 154) (lv' := [(0, yR g 0), (1, yI p), (2, yI a), (3, yI (c1 + 1)), (4, yI (c2 + (bi (sFr w h T (i % w) (i / w))))), (5, yI (min c3 (i % w))), (6, yI (min c4 (i / w))), (7, yI (max c5 (i % w))), (8, yI (max c6 (i / w))), (9, yI i), (10, yI (i % w)), (11, yI (i / w))]) hF dX10_part_154 (by decide) rfl rfl ?_
            refine y_iinc (pc := 156) (lv' := [(0, yR g 0), (1, yI p), (2, yI a), (3, yI (c1 + 1)), (4, yI (c2 + (bi (sFr w h T (i % w) (i / w))))), (5, yI (min c3 (i % w))), (6, yI (min c4 (i / w))), (7, yI (max c5 (i % w))), (8, yI (max c6 (i / w))), (9, yI (i + 1)), (10, yI (i % w)), (11, yI (i / w))]) hF dX10_part_156 9 rfl (by decide) rfl rfl ?_
            refine y_goto (pc := 159) hF dX10_part_159 45 rfl ?_
            refine y_sub [0, 1, 2, 3, 4, 5, 6, 7, 8, 9] rfl ?_
            exact zh45 _ (by omega) (i + 1) (c1 + 1) (c2 + (bi (sFr w h T (i % w) (i / w)))) (min c3 (i % w)) (min c4 (i / w)) (max c5 (i % w)) (max c6 (i / w)) rfl ⟨by omega, by omega, by rw [fr_up _ _ _ _ zI45.1.1, ← zI45.2.2, Int.zero_add]; unfold paF; simp only; rw [if_pos zc68]⟩
    exact zL45 _ (0) (0) (0) (20) (20) (-1) (-1) rfl ⟨by omega, by omega, rfl⟩
  refine y_aload_n (pc := 5) hF dX10_part_5 0 rfl ?_
  refine y_iload_n (pc := 6) hF dX10_part_6 2 rfl ?_
  refine y_if_lt (pc := 7) hF dX10_part_7 19 rfl (by omega) (fun zc7 => ?_) (fun zc7 => ?_)
  · skip
    refine y_iconst (pc := 19) hF dX10_part_19 ?_
    exact zJ20 false (by simp; omega)
  · skip
    refine y_iload_n (pc := 10) hF dX10_part_10 2 rfl ?_
    refine y_iconst (pc := 11) hF dX10_part_11 ?_
    refine y_icmp_gt (pc := 12) hF dX10_part_12 19 rfl (by omega) (by omega) (fun zc12 => ?_) (fun zc12 => ?_)
    · skip
      refine y_iconst (pc := 19) hF dX10_part_19 ?_
      exact zJ20 false (by simp; omega)
    · skip
      refine y_iconst (pc := 15) hF dX10_part_15 ?_
      refine y_goto (pc := 16) hF dX10_part_16 20 rfl ?_
      exact zJ20 true (by simp; omega)

theorem dX10_ring_0 : decode cX10_ring 0 = .ok (.aload_n 0, 1) := by decide +kernel
theorem dX10_ring_1 : decode cX10_ring 1 = .ok (.iload_n 1, 1) := by decide +kernel
theorem dX10_ring_2 : decode cX10_ring 2 = .ok (.invokevirtual 347, 3) := by decide +kernel
theorem dX10_ring_5 : decode cX10_ring 5 = .ok (.aload_n 0, 1) := by decide +kernel
theorem dX10_ring_6 : decode cX10_ring 6 = .ok (.iload_n 2, 1) := by decide +kernel
theorem dX10_ring_7 : decode cX10_ring 7 = .ok (.ifCond .lt 12, 3) := by decide +kernel
theorem dX10_ring_10 : decode cX10_ring 10 = .ok (.iload_n 2, 1) := by decide +kernel
theorem dX10_ring_11 : decode cX10_ring 11 = .ok (.iconst 3, 1) := by decide +kernel
theorem dX10_ring_12 : decode cX10_ring 12 = .ok (.if_icmp .gt 7, 3) := by decide +kernel
theorem dX10_ring_15 : decode cX10_ring 15 = .ok (.iconst 1, 1) := by decide +kernel
theorem dX10_ring_16 : decode cX10_ring 16 = .ok (.goto 4, 3) := by decide +kernel
theorem dX10_ring_19 : decode cX10_ring 19 = .ok (.iconst 0, 1) := by decide +kernel
theorem dX10_ring_20 : decode cX10_ring 20 = .ok (.invokevirtual 110, 3) := by decide +kernel
theorem dX10_ring_23 : decode cX10_ring 23 = .ok (.iconst 0, 1) := by decide +kernel
theorem dX10_ring_24 : decode cX10_ring 24 = .ok (.istore_n 3, 1) := by decide +kernel
theorem dX10_ring_25 : decode cX10_ring 25 = .ok (.sipush 255, 3) := by decide +kernel
theorem dX10_ring_28 : decode cX10_ring 28 = .ok (.istore 4, 2) := by decide +kernel
theorem dX10_ring_30 : decode cX10_ring 30 = .ok (.iconst 0, 1) := by decide +kernel
theorem dX10_ring_31 : decode cX10_ring 31 = .ok (.istore 5, 2) := by decide +kernel
theorem dX10_ring_33 : decode cX10_ring 33 = .ok (.iconst 0, 1) := by decide +kernel
theorem dX10_ring_34 : decode cX10_ring 34 = .ok (.istore 6, 2) := by decide +kernel
theorem dX10_ring_36 : decode cX10_ring 36 = .ok (.iconst 0, 1) := by decide +kernel
theorem dX10_ring_37 : decode cX10_ring 37 = .ok (.istore 7, 2) := by decide +kernel
theorem dX10_ring_39 : decode cX10_ring 39 = .ok (.iload 7, 2) := by decide +kernel
theorem dX10_ring_41 : decode cX10_ring 41 = .ok (.aload_n 0, 1) := by decide +kernel
theorem dX10_ring_42 : decode cX10_ring 42 = .ok (.getfield 26, 3) := by decide +kernel
theorem dX10_ring_45 : decode cX10_ring 45 = .ok (.invokevirtual 181, 3) := by decide +kernel
theorem dX10_ring_48 : decode cX10_ring 48 = .ok (.if_icmp .ge 88, 3) := by decide +kernel
theorem dX10_ring_51 : decode cX10_ring 51 = .ok (.aload_n 0, 1) := by decide +kernel
theorem dX10_ring_52 : decode cX10_ring 52 = .ok (.getfield 26, 3) := by decide +kernel
theorem dX10_ring_55 : decode cX10_ring 55 = .ok (.getfield 176, 3) := by decide +kernel
theorem dX10_ring_58 : decode cX10_ring 58 = .ok (.iload 7, 2) := by decide +kernel
theorem dX10_ring_60 : decode cX10_ring 60 = .ok (.iaload, 1) := by decide +kernel
theorem dX10_ring_61 : decode cX10_ring 61 = .ok (.istore 8, 2) := by decide +kernel
theorem dX10_ring_63 : decode cX10_ring 63 = .ok (.iload 8, 2) := by decide +kernel
theorem dX10_ring_65 : decode cX10_ring 65 = .ok (.iconst (-1), 1) := by decide +kernel
theorem dX10_ring_66 : decode cX10_ring 66 = .ok (.if_icmp .eq 64, 3) := by decide +kernel
theorem dX10_ring_69 : decode cX10_ring 69 = .ok (.aload_n 0, 1) := by decide +kernel
theorem dX10_ring_70 : decode cX10_ring 70 = .ok (.getfield 70, 3) := by decide +kernel
theorem dX10_ring_73 : decode cX10_ring 73 = .ok (.aload_n 0, 1) := by decide +kernel
theorem dX10_ring_74 : decode cX10_ring 74 = .ok (.getfield 26, 3) := by decide +kernel
theorem dX10_ring_77 : decode cX10_ring 77 = .ok (.aload_n 0, 1) := by decide +kernel
theorem dX10_ring_78 : decode cX10_ring 78 = .ok (.getfield 26, 3) := by decide +kernel
theorem dX10_ring_81 : decode cX10_ring 81 = .ok (.iload 7, 2) := by decide +kernel
theorem dX10_ring_83 : decode cX10_ring 83 = .ok (.invokevirtual 242, 3) := by decide +kernel
theorem dX10_ring_86 : decode cX10_ring 86 = .ok (.aload_n 0, 1) := by decide +kernel
theorem dX10_ring_87 : decode cX10_ring 87 = .ok (.getfield 26, 3) := by decide +kernel
theorem dX10_ring_90 : decode cX10_ring 90 = .ok (.iload 7, 2) := by decide +kernel
theorem dX10_ring_92 : decode cX10_ring 92 = .ok (.invokevirtual 245, 3) := by decide +kernel
theorem dX10_ring_95 : decode cX10_ring 95 = .ok (.iload_n 1, 1) := by decide +kernel
theorem dX10_ring_96 : decode cX10_ring 96 = .ok (.invokevirtual 358, 3) := by decide +kernel
theorem dX10_ring_99 : decode cX10_ring 99 = .ok (.ifCond .eq 31, 3) := by decide +kernel
theorem dX10_ring_102 : decode cX10_ring 102 = .ok (.iinc 3 1, 3) := by decide +kernel
theorem dX10_ring_105 : decode cX10_ring 105 = .ok (.iload 4, 2) := by decide +kernel
theorem dX10_ring_107 : decode cX10_ring 107 = .ok (.iload 8, 2) := by decide +kernel
theorem dX10_ring_109 : decode cX10_ring 109 = .ok (.invokestatic 350, 3) := by decide +kernel
theorem dX10_ring_112 : decode cX10_ring 112 = .ok (.istore 4, 2) := by decide +kernel
theorem dX10_ring_114 : decode cX10_ring 114 = .ok (.iload 5, 2) := by decide +kernel
theorem dX10_ring_116 : decode cX10_ring 116 = .ok (.iload 8, 2) := by decide +kernel
theorem dX10_ring_118 : decode cX10_ring 118 = .ok (.invokestatic 355, 3) := by decide +kernel
theorem dX10_ring_121 : decode cX10_ring 121 = .ok (.istore 5, 2) := by decide +kernel
theorem dX10_ring_123 : decode cX10_ring 123 = .ok (.iload 6, 2) := by decide +kernel
theorem dX10_ring_125 : decode cX10_ring 125 = .ok (.iload 8, 2) := by decide +kernel
theorem dX10_ring_127 : decode cX10_ring 127 = .ok (.iadd, 1) := by decide +kernel
theorem dX10_ring_128 : decode cX10_ring 128 = .ok (.istore 6, 2) := by decide +kernel
theorem dX10_ring_130 : decode cX10_ring 130 = .ok (.iinc 7 1, 3) := by decide +kernel
theorem dX10_ring_133 : decode cX10_ring 133 = .ok (.goto (-94), 3) := by decide +kernel
theorem dX10_ring_136 : decode cX10_ring 136 = .ok (.iload_n 2, 1) := by decide +kernel
theorem dX10_ring_137 : decode cX10_ring 137 = .ok (.ifCond .ne 5, 3) := by decide +kernel
theorem dX10_ring_140 : decode cX10_ring 140 = .ok (.iload_n 3, 1) := by decide +kernel
theorem dX10_ring_141 : decode cX10_ring 141 = .ok (.ireturn, 1) := by decide +kernel
theorem dX10_ring_142 : decode cX10_ring 142 = .ok (.iload_n 3, 1) := by decide +kernel
theorem dX10_ring_143 : decode cX10_ring 143 = .ok (.ifCond .ne 5, 3) := by decide +kernel
theorem dX10_ring_146 : decode cX10_ring 146 = .ok (.iconst (-1), 1) := by decide +kernel
theorem dX10_ring_147 : decode cX10_ring 147 = .ok (.ireturn, 1) := by decide +kernel
theorem dX10_ring_148 : decode cX10_ring 148 = .ok (.iload_n 2, 1) := by decide +kernel
theorem dX10_ring_149 : decode cX10_ring 149 = .ok (.lookupswitch 33 #[(1, 27), (2, 30)], 27) := by decide +kernel
theorem dX10_ring_176 : decode cX10_ring 176 = .ok (.iload 4, 2) := by decide +kernel
theorem dX10_ring_178 : decode cX10_ring 178 = .ok (.ireturn, 1) := by decide +kernel
theorem dX10_ring_179 : decode cX10_ring 179 = .ok (.iload 5, 2) := by decide +kernel
theorem dX10_ring_181 : decode cX10_ring 181 = .ok (.ireturn, 1) := by decide +kernel
theorem dX10_ring_182 : decode cX10_ring 182 = .ok (.iload 6, 2) := by decide +kernel
theorem dX10_ring_184 : decode cX10_ring 184 = .ok (.iload_n 3, 1) := by decide +kernel
theorem dX10_ring_185 : decode cX10_ring 185 = .ok (.idiv, 1) := by decide +kernel
theorem dX10_ring_186 : decode cX10_ring 186 = .ok (.ireturn, 1) := by decide +kernel
set_option maxHeartbeats 4000000 in
set_option maxRecDepth 100000 in
theorem tX10_ring {l : Launch} {g : yG} {n : Nat} {σ : yM} (hlt : l.stackTraces = false) (hn : 172 ≤ n) (w h : Int) (T S F P O : Int → Int → Int) (nf df nl : Int) (lg : Int → Int → Int) (s re fo ra tu we sh : Int) (H : List aX) (ht : Bool) (K : Int → Int → Int) (tl : Int) (tb : Int → Int) (fa r1 r2 N : Int) (hV : cV σ (w, h, (T, S, F, P, O, nf, df, nl, lg), (s, re, fo, ra, tu, we, sh), H, ht, K, tl, tb, fa, r1, r2)) (hW : aW N (w, h, (T, S, F, P, O, nf, df, nl, lg), (s, re, fo, ra, tu, we, sh), H, ht, K, tl, tb, fa, r1, r2)) (p a : Int) (hp : -2147483648 ≤ p ∧ p < 2147483648) (ha : -2147483648 ≤ a ∧ a < 2147483648) : yMX l g yX10_ring cX10_ring 9 (some .int) (rmA 8 4 24) [yR g 0, yI p, yI a] (SC g) n σ (SC g) (yPi (fun v n' σ' => n ≤ n' ∧ ((0 ≤ p ∧ p < (sPt w h T).2) ∧ 0 ≤ a ∧ a ≤ 3) ∧ v = rgV (rgQ w h T p) a ∧ cV σ' (w, h, (T, S, F, P, O, nf, df, nl, lg), (s, re, fo, ra, tu, we, sh), H, ht, K, tl, tb, fa, r1, r2) ∧ cF σ σ')) (fun E n' σ' => n ≤ n' ∧ ((E = eN ∧ ¬ (0 ≤ p ∧ p < (sPt w h T).2) ∧ cV σ' (bN (w, h, (T, S, F, P, O, nf, df, nl, lg), (s, re, fo, ra, tu, we, sh), H, ht, K, tl, tb, fa, r1, r2))) ∨ (E = eA ∧ (0 ≤ p ∧ p < (sPt w h T).2) ∧ ¬ (0 ≤ a ∧ a ≤ 3) ∧ cV σ' (bA (w, h, (T, S, F, P, O, nf, df, nl, lg), (s, re, fo, ra, tu, we, sh), H, ht, K, tl, tb, fa, r1, r2)))) ∧ cF σ σ') := by
  obtain ⟨⟨hA, hJ⟩, hS, hH, ⟨hb1, hb2⟩, ⟨ht1, ht2⟩, hfa, hr1, hr2, hT⟩ := id hV
  obtain ⟨hw1, hw2, hw3, hw4⟩ := id hA.1.1
  obtain ⟨hs1, hs2, hs3, hs4, hs5, hs6, hs7⟩ := id hS.2
  have z128 : 128 < n := by omega
  have z129 : 129 < n := by omega
  have z130 : 130 < n := by omega
  have zwh := y_wh ⟨hw1, hw2⟩ ⟨hw3, hw4⟩
  have zsp := sPt_bd (w := w) (h := h) (T := T) ⟨hw1, hw2⟩ ⟨hw3, hw4⟩
  refine y_startX (by decide) (Nat.le_of_ble_eq_true rfl) (fun X0 hX => ?_)
  have hF := hX.1
  show yV X0 g 9 (yQX X0 g (SC g) (yPi (fun v n' σ' => n ≤ n' ∧ ((0 ≤ p ∧ p < (sPt w h T).2) ∧ 0 ≤ a ∧ a ≤ 3) ∧ v = rgV (rgQ w h T p) a ∧ cV σ' (w, h, (T, S, F, P, O, nf, df, nl, lg), (s, re, fo, ra, tu, we, sh), H, ht, K, tl, tb, fa, r1, r2) ∧ cF σ σ')) (fun E n' σ' => n ≤ n' ∧ ((E = eN ∧ ¬ (0 ≤ p ∧ p < (sPt w h T).2) ∧ cV σ' (bN (w, h, (T, S, F, P, O, nf, df, nl, lg), (s, re, fo, ra, tu, we, sh), H, ht, K, tl, tb, fa, r1, r2))) ∨ (E = eA ∧ (0 ≤ p ∧ p < (sPt w h T).2) ∧ ¬ (0 ≤ a ∧ a ≤ 3) ∧ cV σ' (bA (w, h, (T, S, F, P, O, nf, df, nl, lg), (s, re, fo, ra, tu, we, sh), H, ht, K, tl, tb, fa, r1, r2)))) ∧ cF σ σ') (rmA 8 4 24)) (SC g) n σ 0 0 0 [(0, yR g 0), (1, yI p), (2, yI a)] []
  refine y_aload_n (pc := 0) hF dX10_ring_0 0 rfl ?_
  refine y_iload_n (pc := 1) hF dX10_ring_1 1 rfl ?_
  refine y_contX (cells' := 0 + 1) (slots' := 0 + 6) hX (y_rVX (pc := 2) hX (tX10_demandPart hlt hn w h T S F P O hA p hp) dX10_ring_2 (by omega) rfl rfl rfl w_1091 qX10_demandPart rfl ⟨Nat.le_of_ble_eq_true rfl, Nat.le_of_ble_eq_true rfl⟩ ⟨Nat.le_of_ble_eq_true rfl, Nat.le_of_ble_eq_true rfl⟩ (Nat.le_of_ble_eq_true rfl) rfl) rfl rfl ⟨Nat.le_of_ble_eq_true rfl, Nat.le_of_ble_eq_true rfl⟩ (fun E n' σ' zx => ⟨zx.2.1, Or.inl ⟨zx.1, zx.2.2.1, by obtain ⟨τ, zf, ze⟩ := zx.2.2.2; rw [ze, ← zf 0 (by omega)]; exact (hV.scr zf (by omega) (hT.fr (zf 127 (by omega)))).bN⟩, by obtain ⟨τ, zf, ze⟩ := zx.2.2.2; rw [ze]; exact (zf.cF (by omega)).tr cF_N⟩) (fun r2 n' σ2 zp2 => ?_)
  obtain ⟨zr2, zp2⟩ := zp2
  subst zr2
  obtain ⟨zn2, zf2, zl2, zb2⟩ := zp2
  have zn2 := zn2.symm
  subst zn2
  have zV2 := hV.scr zf2 (by omega) (hT.fr (zf2 127 (by omega)))
  have zA_σ2 := hA.fc (by omega) zf2
  have zS_σ2 := hS.fc (by omega) zf2
  show yV X0 g 9 (yQX X0 g (SC g) (yPi (fun v n' σ' => n ≤ n' ∧ ((0 ≤ p ∧ p < (sPt w h T).2) ∧ 0 ≤ a ∧ a ≤ 3) ∧ v = rgV (rgQ w h T p) a ∧ cV σ' (w, h, (T, S, F, P, O, nf, df, nl, lg), (s, re, fo, ra, tu, we, sh), H, ht, K, tl, tb, fa, r1, r2) ∧ cF σ σ')) (fun E n' σ' => n ≤ n' ∧ ((E = eN ∧ ¬ (0 ≤ p ∧ p < (sPt w h T).2) ∧ cV σ' (bN (w, h, (T, S, F, P, O, nf, df, nl, lg), (s, re, fo, ra, tu, we, sh), H, ht, K, tl, tb, fa, r1, r2))) ∨ (E = eA ∧ (0 ≤ p ∧ p < (sPt w h T).2) ∧ ¬ (0 ≤ a ∧ a ≤ 3) ∧ cV σ' (bA (w, h, (T, S, F, P, O, nf, df, nl, lg), (s, re, fo, ra, tu, we, sh), H, ht, K, tl, tb, fa, r1, r2)))) ∧ cF σ σ') (rmA 8 4 24)) (SC g) n σ2 (0 + 1) (0 + 6) 5 [(0, yR g 0), (1, yI p), (2, yI a)] []
  have zJ20 : ∀ (zb : Bool), (zb = decide (0 ≤ a ∧ a ≤ 3)) → yV X0 g 9 (yQX X0 g (SC g) (yPi (fun v n' σ' => n ≤ n' ∧ ((0 ≤ p ∧ p < (sPt w h T).2) ∧ 0 ≤ a ∧ a ≤ 3) ∧ v = rgV (rgQ w h T p) a ∧ cV σ' (w, h, (T, S, F, P, O, nf, df, nl, lg), (s, re, fo, ra, tu, we, sh), H, ht, K, tl, tb, fa, r1, r2) ∧ cF σ σ')) (fun E n' σ' => n ≤ n' ∧ ((E = eN ∧ ¬ (0 ≤ p ∧ p < (sPt w h T).2) ∧ cV σ' (bN (w, h, (T, S, F, P, O, nf, df, nl, lg), (s, re, fo, ra, tu, we, sh), H, ht, K, tl, tb, fa, r1, r2))) ∨ (E = eA ∧ (0 ≤ p ∧ p < (sPt w h T).2) ∧ ¬ (0 ≤ a ∧ a ≤ 3) ∧ cV σ' (bA (w, h, (T, S, F, P, O, nf, df, nl, lg), (s, re, fo, ra, tu, we, sh), H, ht, K, tl, tb, fa, r1, r2)))) ∧ cF σ σ') (rmA 8 4 24)) (SC g) n σ2 (0 + 1) (0 + 6) 20 [(0, yR g 0), (1, yI p), (2, yI a)] [yI (bi zb), yR g 0] := by
    intro zb  zhb
    refine y_contX (cells' := 0 + 1 + 1) (slots' := 0 + 6 + 6) hX (y_rVX (pc := 20) hX (tX10_demand hlt hn zb) dX10_ring_20 (by omega) rfl rfl rfl w_611 qX10_demand rfl ⟨Nat.le_of_ble_eq_true rfl, Nat.le_of_ble_eq_true rfl⟩ ⟨Nat.le_of_ble_eq_true rfl, Nat.le_of_ble_eq_true rfl⟩ (Nat.le_of_ble_eq_true rfl) rfl) rfl rfl ⟨Nat.le_of_ble_eq_true rfl, Nat.le_of_ble_eq_true rfl⟩ (fun E n' σ' zx => ⟨zx.2.1, Or.inr ⟨zx.1, zb2, by have zq := zx.2.2.1; rw [zhb] at zq; simpa using zq, by rw [zx.2.2.2]; exact zV2.bA⟩, by rw [zx.2.2.2]; exact (zf2.cF (by omega)).tr cF_N⟩) (fun r20 n' σ20 zp20 => ?_)
    obtain ⟨zr20, zp20⟩ := zp20
    subst zr20
    obtain ⟨zn20, zs20, zb20⟩ := zp20
    have zs20 := zs20.symm
    subst zs20
    have zn20 := zn20.symm
    subst zn20
    skip
    show yV X0 g 9 (yQX X0 g (SC g) (yPi (fun v n' σ' => n ≤ n' ∧ ((0 ≤ p ∧ p < (sPt w h T).2) ∧ 0 ≤ a ∧ a ≤ 3) ∧ v = rgV (rgQ w h T p) a ∧ cV σ' (w, h, (T, S, F, P, O, nf, df, nl, lg), (s, re, fo, ra, tu, we, sh), H, ht, K, tl, tb, fa, r1, r2) ∧ cF σ σ')) (fun E n' σ' => n ≤ n' ∧ ((E = eN ∧ ¬ (0 ≤ p ∧ p < (sPt w h T).2) ∧ cV σ' (bN (w, h, (T, S, F, P, O, nf, df, nl, lg), (s, re, fo, ra, tu, we, sh), H, ht, K, tl, tb, fa, r1, r2))) ∨ (E = eA ∧ (0 ≤ p ∧ p < (sPt w h T).2) ∧ ¬ (0 ≤ a ∧ a ≤ 3) ∧ cV σ' (bA (w, h, (T, S, F, P, O, nf, df, nl, lg), (s, re, fo, ra, tu, we, sh), H, ht, K, tl, tb, fa, r1, r2)))) ∧ cF σ σ') (rmA 8 4 24)) (SC g) n σ2 (0 + 1 + 1) (0 + 6 + 6) 23 [(0, yR g 0), (1, yI p), (2, yI a)] []
    have zok : (0 ≤ p ∧ p < (sPt w h T).2) ∧ 0 ≤ a ∧ a ≤ 3 := ⟨zb2, by have zq := zb20; rw [zhb] at zq; simpa using zq⟩
    refine y_iconst (pc := 23) hF dX10_ring_23 ?_
    refine y_istore_n (pc := 24) (lv' := [(0, yR g 0), (1, yI p), (2, yI a), (3, yI 0)]) hF dX10_ring_24 (by decide) rfl rfl ?_
    refine y_sipush (pc := 25) hF dX10_ring_25 (by decide) ?_
    refine y_istore (pc := 28) (lv' := [(0, yR g 0), (1, yI p), (2, yI a), (3, yI 0), (4, yI 255)]) hF dX10_ring_28 (by decide) rfl rfl ?_
    refine y_iconst (pc := 30) hF dX10_ring_30 ?_
    refine y_istore (pc := 31) (lv' := [(0, yR g 0), (1, yI p), (2, yI a), (3, yI 0), (4, yI 255), (5, yI 0)]) hF dX10_ring_31 (by decide) rfl rfl ?_
    refine y_iconst (pc := 33) hF dX10_ring_33 ?_
    refine y_istore (pc := 34) (lv' := [(0, yR g 0), (1, yI p), (2, yI a), (3, yI 0), (4, yI 255), (5, yI 0), (6, yI 0)]) hF dX10_ring_34 (by decide) rfl rfl ?_
    refine y_iconst (pc := 36) hF dX10_ring_36 ?_
    refine y_istore (pc := 37) (lv' := [(0, yR g 0), (1, yI p), (2, yI a), (3, yI 0), (4, yI 255), (5, yI 0), (6, yI 0), (7, yI 0)]) hF dX10_ring_37 (by decide) rfl rfl ?_
    have zL39 : ∀ (N : Nat) (i c1 c2 c3 c4 : Int), N = (w * h - i).toNat → ((0 ≤ i ∧ i ≤ w * h) ∧ ((0 ≤ c2 ∧ c2 ≤ 255) ∧ (0 ≤ c3 ∧ c3 ≤ 255) ∧ (0 ≤ c1 ∧ c1 ≤ i) ∧ (0 ≤ c4 ∧ c4 ≤ 255 * i)) ∧ (c1, c2, c3, c4) = fr (fun q i => rgF w h T (sPt w h T).1 p q (i % w) (i / w)) 0 i.toNat (0, 255, 0, 0)) → yV X0 g 9 (yQX X0 g (SC g) (yPi (fun v n' σ' => n ≤ n' ∧ ((0 ≤ p ∧ p < (sPt w h T).2) ∧ 0 ≤ a ∧ a ≤ 3) ∧ v = rgV (rgQ w h T p) a ∧ cV σ' (w, h, (T, S, F, P, O, nf, df, nl, lg), (s, re, fo, ra, tu, we, sh), H, ht, K, tl, tb, fa, r1, r2) ∧ cF σ σ')) (fun E n' σ' => n ≤ n' ∧ ((E = eN ∧ ¬ (0 ≤ p ∧ p < (sPt w h T).2) ∧ cV σ' (bN (w, h, (T, S, F, P, O, nf, df, nl, lg), (s, re, fo, ra, tu, we, sh), H, ht, K, tl, tb, fa, r1, r2))) ∨ (E = eA ∧ (0 ≤ p ∧ p < (sPt w h T).2) ∧ ¬ (0 ≤ a ∧ a ≤ 3) ∧ cV σ' (bA (w, h, (T, S, F, P, O, nf, df, nl, lg), (s, re, fo, ra, tu, we, sh), H, ht, K, tl, tb, fa, r1, r2)))) ∧ cF σ σ') (rmA 8 4 24)) (SC g) n σ2 (0 + 1 + 1) (0 + 6 + 6) 39 [(0, yR g 0), (1, yI p), (2, yI a), (3, yI c1), (4, yI c2), (5, yI c3), (6, yI c4), (7, yI i)] [] := by
      intro N
      induction N using Nat.strongRecOn with
      | ind N zh39 =>
        intro i c1 c2 c3 c4  zN39 zI39
        refine y_iload (pc := 39) hF dX10_ring_39 7 rfl ?_
        refine y_aload_n (pc := 41) hF dX10_ring_41 0 rfl ?_
        refine y_get (pc := 42) (ci := 10) hF dX10_ring_42 (by omega) rfl rfl rfl iX10 2 (by decide) w_489 rfl ?_
        have zz45 := y_rV (pc := 45) hF (tX4_dots (n := n) (σ := σ2) 5 w h T S F P O hn pic_5 zA_σ2) dX10_ring_45 (by have := pic_5.1; omega) (pic_5.2 g).1 rfl rfl w_567 qX4_dots rfl ⟨Nat.le_of_ble_eq_true rfl, Nat.le_of_ble_eq_true rfl⟩ ⟨Nat.le_of_ble_eq_true rfl, Nat.le_of_ble_eq_true rfl⟩ (Nat.le_of_ble_eq_true rfl) rfl (rest := [yI i]) (cells := 0 + 1 + 1) (slots := 0 + 6 + 6) (lv := [(0, yR g 0), (1, yI p), (2, yI a), (3, yI c1), (4, yI c2), (5, yI c3), (6, yI c4), (7, yI i)])
        refine y_cp (zz45) ?_
        refine y_icmp_ge (pc := 48) hF dX10_ring_48 136 rfl (by omega) (by omega) (fun zc48 => ?_) (fun zc48 => ?_)
        · skip
          have zq : (c1, c2, c3, c4) = rgQ w h T p := by rw [zI39.2.2, show i = w * h by omega]; exact fr_linI _ (by omega) (by omega) _
          refine y_iload_n (pc := 136) hF dX10_ring_136 2 rfl ?_
          refine y_if_ne (pc := 137) hF dX10_ring_137 142 rfl (by omega) (fun zc137 => ?_) (fun zc137 => ?_)
          · skip
            refine y_iload_n (pc := 142) hF dX10_ring_142 3 rfl ?_
            refine y_if_ne (pc := 143) hF dX10_ring_143 148 rfl (by omega) (fun zc143 => ?_) (fun zc143 => ?_)
            · skip
              refine y_iload_n (pc := 148) hF dX10_ring_148 2 rfl ?_
              rcases Decidable.em (a = 1) with zw149_0 | zw149_0
              · refine y_lsw (pc := 149) hF dX10_ring_149 (by decide) (by omega) (off := 27) (by rw [zw149_0]; rfl) 176 rfl ?_
                refine y_iload (pc := 176) hF dX10_ring_176 4 rfl ?_
                exact y_retX (y_iret (pc := 178) hF dX10_ring_178 (Nat.le_of_ble_eq_true rfl) (Nat.le_of_ble_eq_true rfl) ⟨_, rfl, Nat.le_refl _, zok, by rw [← zq]; unfold rgV; simp [zc143, zw149_0], zV2, zf2.cF (by omega)⟩)
              rcases Decidable.em (a = 2) with zw149_1 | zw149_1
              · refine y_lsw (pc := 149) hF dX10_ring_149 (by decide) (by omega) (off := 30) (by rw [zw149_1]; rfl) 179 rfl ?_
                refine y_iload (pc := 179) hF dX10_ring_179 5 rfl ?_
                exact y_retX (y_iret (pc := 181) hF dX10_ring_181 (Nat.le_of_ble_eq_true rfl) (Nat.le_of_ble_eq_true rfl) ⟨_, rfl, Nat.le_refl _, zok, by rw [← zq]; unfold rgV; simp [zc143, zw149_1], zV2, zf2.cF (by omega)⟩)
              refine y_lsw (pc := 149) hF dX10_ring_149 (by decide) (by omega) (off := 33) (by simp [Op.lookupswitch.offset, zw149_0, Ne.symm zw149_0, zw149_1, Ne.symm zw149_1]) 182 rfl ?_
              refine y_iload (pc := 182) hF dX10_ring_182 6 rfl ?_
              refine y_iload_n (pc := 184) hF dX10_ring_184 3 rfl ?_
              refine y_idiv (pc := 185) hF dX10_ring_185 (by omega) (by omega) (by omega) ?_
              exact y_retX (y_iret (pc := 186) hF dX10_ring_186 (Nat.le_of_ble_eq_true rfl) (Nat.le_of_ble_eq_true rfl) ⟨_, rfl, Nat.le_refl _, zok, by rw [← zq]; unfold rgV; simp [zc143, show a = 3 by omega], zV2, zf2.cF (by omega)⟩)
            · skip
              refine y_iconst (pc := 146) hF dX10_ring_146 ?_
              exact y_retX (y_iret (pc := 147) hF dX10_ring_147 (Nat.le_of_ble_eq_true rfl) (Nat.le_of_ble_eq_true rfl) ⟨_, rfl, Nat.le_refl _, zok, by rw [← zq]; unfold rgV; simp [zc137, zc143], zV2, zf2.cF (by omega)⟩)
          · skip
            refine y_iload_n (pc := 140) hF dX10_ring_140 3 rfl ?_
            exact y_retX (y_iret (pc := 141) hF dX10_ring_141 (Nat.le_of_ble_eq_true rfl) (Nat.le_of_ble_eq_true rfl) ⟨_, rfl, Nat.le_refl _, zok, by rw [← zq]; unfold rgV; simp [zc137], zV2, zf2.cF (by omega)⟩)
        · skip
          have zd := y_de (h := h) hw1 zI39.1.1 (by omega)
          have zri : -2147483648 ≤ i ∧ i < 2147483648 := by omega
          have zat := zA_σ2.at zI39.1.1 (by omega)
          have zin : sIn w h (i % w) (i / w) = true := sIn_iff.mpr ⟨zd.2.1, zd.2.2.1, zd.2.2.2⟩
          have ztb := hA.1.T _ _ zin
          refine y_aload_n (pc := 51) hF dX10_ring_51 0 rfl ?_
          refine y_get (pc := 52) (ci := 10) hF dX10_ring_52 (by omega) rfl rfl rfl iX10 2 (by decide) w_489 rfl ?_
          refine y_getN (pc := 55) (ci := 4) hF dX10_ring_55 (by have := pic_5.1; omega) (pic_5.2 g).1 rfl rfl iX4 2 (by decide) w_223 rfl ?_
          refine y_iload (pc := 58) hF dX10_ring_58 7 rfl ?_
          refine y_iaload (pc := 60) hF dX10_ring_60 (by have := pic_5.1; omega) (pic_5.2 g).2.1 ⟨zI39.1.1, by show _ < (400 : Int); omega⟩ (by decide) ?_
          rw [show σ2 (5 + 1) i = T (i % w) (i / w) from zat.1]
          refine y_istore (pc := 61) (lv' := [(0, yR g 0), (1, yI p), (2, yI a), (3, yI c1), (4, yI c2), (5, yI c3), (6, yI c4), (7, yI i), (8, yI (T (i % w) (i / w)))]) hF dX10_ring_61 (by decide) rfl rfl ?_
          refine y_iload (pc := 63) hF dX10_ring_63 8 rfl ?_
          refine y_iconst (pc := 65) hF dX10_ring_65 ?_
          refine y_icmp_eq (pc := 66) hF dX10_ring_66 130 rfl (by omega) (by omega) (fun zc66 => ?_) (fun zc66 => ?_)
          · skip
            refine y_iinc (pc := 130) (lv' := [(0, yR g 0), (1, yI p), (2, yI a), (3, yI c1), (4, yI c2), (5, yI c3), (6, yI c4), (7, yI (i + 1)), (8, yI (T (i % w) (i / w)))]) hF dX10_ring_130 7 rfl (by decide) rfl rfl ?_
            refine y_goto (pc := 133) hF dX10_ring_133 39 rfl ?_
            refine y_sub [0, 1, 2, 3, 4, 5, 6, 7] rfl ?_
            exact zh39 _ (by omega) (i + 1) (c1) (c2) (c3) (c4) rfl ⟨by omega, by omega, by rw [fr_up _ _ _ _ zI39.1.1, ← zI39.2.2, Int.zero_add]; unfold rgF; simp only; rw [if_neg (fun ze => ze.1 zc66)]⟩
          · skip
            refine y_aload_n (pc := 69) hF dX10_ring_69 0 rfl ?_
            refine y_get (pc := 70) (ci := 10) hF dX10_ring_70 (by omega) rfl rfl rfl iX10 9 (by decide) w_496 rfl ?_
            refine y_aload_n (pc := 73) hF dX10_ring_73 0 rfl ?_
            refine y_get (pc := 74) (ci := 10) hF dX10_ring_74 (by omega) rfl rfl rfl iX10 2 (by decide) w_489 rfl ?_
            refine y_aload_n (pc := 77) hF dX10_ring_77 0 rfl ?_
            refine y_get (pc := 78) (ci := 10) hF dX10_ring_78 (by omega) rfl rfl rfl iX10 2 (by decide) w_489 rfl ?_
            refine y_iload (pc := 81) hF dX10_ring_81 7 rfl ?_
            have zz83 := y_rV (pc := 83) hF (tX4_xOf (n := n) (σ := σ2) 5 w h T S F P O hn pic_5 zA_σ2 i zri) dX10_ring_83 (by have := pic_5.1; omega) (pic_5.2 g).1 rfl rfl w_994 qX4_xOf rfl ⟨Nat.le_of_ble_eq_true rfl, Nat.le_of_ble_eq_true rfl⟩ ⟨Nat.le_of_ble_eq_true rfl, Nat.le_of_ble_eq_true rfl⟩ (Nat.le_of_ble_eq_true rfl) rfl (rest := [yR g 5, yR g 128]) (cells := 0 + 1 + 1) (slots := 0 + 6 + 6) (lv := [(0, yR g 0), (1, yI p), (2, yI a), (3, yI c1), (4, yI c2), (5, yI c3), (6, yI c4), (7, yI i), (8, yI (T (i % w) (i / w)))])
            refine y_cp (zz83) ?_
            rw [show cx w i = i % w from (by unfold cx; rw [if_neg (by omega)])]
            refine y_aload_n (pc := 86) hF dX10_ring_86 0 rfl ?_
            refine y_get (pc := 87) (ci := 10) hF dX10_ring_87 (by omega) rfl rfl rfl iX10 2 (by decide) w_489 rfl ?_
            refine y_iload (pc := 90) hF dX10_ring_90 7 rfl ?_
            have zz92 := y_rV (pc := 92) hF (tX4_yOf (n := n) (σ := σ2) 5 w h T S F P O hn pic_5 zA_σ2 i zri) dX10_ring_92 (by have := pic_5.1; omega) (pic_5.2 g).1 rfl rfl w_995 qX4_yOf rfl ⟨Nat.le_of_ble_eq_true rfl, Nat.le_of_ble_eq_true rfl⟩ ⟨Nat.le_of_ble_eq_true rfl, Nat.le_of_ble_eq_true rfl⟩ (Nat.le_of_ble_eq_true rfl) rfl (rest := [yI (i % w), yR g 5, yR g 128]) (cells := 0 + 1 + 1) (slots := 0 + 6 + 6) (lv := [(0, yR g 0), (1, yI p), (2, yI a), (3, yI c1), (4, yI c2), (5, yI c3), (6, yI c4), (7, yI i), (8, yI (T (i % w) (i / w)))])
            refine y_cp (zz92) ?_
            rw [show cy w i = i / w from (by unfold cy; rw [if_neg (by omega)])]
            refine y_iload_n (pc := 95) hF dX10_ring_95 1 rfl ?_
            have zz96 := y_rV (pc := 96) hF (tX3_isBeside (n := n) (σ := σ2) 5 w h T S F P O hn pic_5 zA_σ2 (by omega) (sPt w h T).1 zl2 zsp.1 (i % w) (i / w) p (by omega) (by omega) hp) dX10_ring_96 z128 rfl rfl rfl w_1104 qX3_isBeside rfl ⟨Nat.le_of_ble_eq_true rfl, Nat.le_of_ble_eq_true rfl⟩ ⟨Nat.le_of_ble_eq_true rfl, Nat.le_of_ble_eq_true rfl⟩ (Nat.le_of_ble_eq_true rfl) rfl (rest := []) (cells := 0 + 1 + 1) (slots := 0 + 6 + 6) (lv := [(0, yR g 0), (1, yI p), (2, yI a), (3, yI c1), (4, yI c2), (5, yI c3), (6, yI c4), (7, yI i), (8, yI (T (i % w) (i / w)))])
            refine y_cp (zz96) ?_
            refine y_if_eq (pc := 99) hF dX10_ring_99 130 rfl bi_r (fun zc99 => ?_) (fun zc99 => ?_)
            · replace zc99 := bi_0.mp zc99
              refine y_iinc (pc := 130) (lv' := [(0, yR g 0), (1, yI p), (2, yI a), (3, yI c1), (4, yI c2), (5, yI c3), (6, yI c4), (7, yI (i + 1)), (8, yI (T (i % w) (i / w)))]) hF dX10_ring_130 7 rfl (by decide) rfl rfl ?_
              refine y_goto (pc := 133) hF dX10_ring_133 39 rfl ?_
              refine y_sub [0, 1, 2, 3, 4, 5, 6, 7] rfl ?_
              exact zh39 _ (by omega) (i + 1) (c1) (c2) (c3) (c4) rfl ⟨by omega, by omega, by rw [fr_up _ _ _ _ zI39.1.1, ← zI39.2.2, Int.zero_add]; unfold rgF; simp only; rw [if_neg (fun ze => by rw [zc99] at ze; cases ze.2)]⟩
            · replace zc99 := bi_n0.mp zc99
              refine y_iinc (pc := 102) (lv' := [(0, yR g 0), (1, yI p), (2, yI a), (3, yI (c1 + 1)), (4, yI c2), (5, yI c3), (6, yI c4), (7, yI i), (8, yI (T (i % w) (i / w)))]) hF dX10_ring_102 3 rfl (by decide) rfl rfl ?_
              refine y_iload (pc := 105) hF dX10_ring_105 4 rfl ?_
              refine y_iload (pc := 107) hF dX10_ring_107 8 rfl ?_
              refine y_mmin (pc := 109) hF dX10_ring_109 w_1095 w_699 w_103 w_700 (Nat.le_of_ble_eq_true rfl) (Nat.le_of_ble_eq_true rfl) ⟨Nat.le_of_ble_eq_true rfl, Nat.le_of_ble_eq_true rfl⟩ (by omega) (by omega) ?_
              refine y_istore (pc := 112) (lv' := [(0, yR g 0), (1, yI p), (2, yI a), (3, yI (c1 + 1)), (4, yI (min c2 (T (i % w) (i / w)))), (5, yI c3), (6, yI c4), (7, yI i), (8, yI (T (i % w) (i / w)))]) hF dX10_ring_112 (by decide) rfl rfl ?_
              refine y_iload (pc := 114) hF dX10_ring_114 5 rfl ?_
              refine y_iload (pc := 116) hF dX10_ring_116 8 rfl ?_
              refine y_mmax (pc := 118) hF dX10_ring_118 w_1096 w_876 w_103 w_877 (Nat.le_of_ble_eq_true rfl) (Nat.le_of_ble_eq_true rfl) ⟨Nat.le_of_ble_eq_true rfl, Nat.le_of_ble_eq_true rfl⟩ (by omega) (by omega) ?_
              refine y_istore (pc := 121) (lv' := [(0, yR g 0), (1, yI p), (2, yI a), (3, yI (c1 + 1)), (4, yI (min c2 (T (i % w) (i / w)))), (5, yI (max c3 (T (i % w) (i / w)))), (6, yI c4), (7, yI i), (8, yI (T (i % w) (i / w)))]) hF dX10_ring_121 (by decide) rfl rfl ?_
              refine y_iload (pc := 123) hF dX10_ring_123 6 rfl ?_
              refine y_iload (pc := 125) hF dX10_ring_125 8 rfl ?_
              refine y_iadd (pc := 127) hF dX10_ring_127 ?_
              refine y_istore (pc := 128) (lv' := [(0, yR g 0), (1, yI p), (2, yI a), (3, yI (c1 + 1)), (4, yI (min c2 (T (i % w) (i / w)))), (5, yI (max c3 (T (i % w) (i / w)))), (6, yI (c4 + (T (i % w) (i / w)))), (7, yI i), (8, yI (T (i % w) (i / w)))]) hF dX10_ring_128 (by decide) rfl rfl ?_
              refine y_iinc (pc := 130) (lv' := [(0, yR g 0), (1, yI p), (2, yI a), (3, yI (c1 + 1)), (4, yI (min c2 (T (i % w) (i / w)))), (5, yI (max c3 (T (i % w) (i / w)))), (6, yI (c4 + (T (i % w) (i / w)))), (7, yI (i + 1)), (8, yI (T (i % w) (i / w)))]) hF dX10_ring_130 7 rfl (by decide) rfl rfl ?_
              refine y_goto (pc := 133) hF dX10_ring_133 39 rfl ?_
              refine y_sub [0, 1, 2, 3, 4, 5, 6, 7] rfl ?_
              exact zh39 _ (by omega) (i + 1) (c1 + 1) (min c2 (T (i % w) (i / w))) (max c3 (T (i % w) (i / w))) (c4 + (T (i % w) (i / w))) rfl ⟨by omega, by omega, by rw [fr_up _ _ _ _ zI39.1.1, ← zI39.2.2, Int.zero_add]; unfold rgF; simp only; rw [if_pos ⟨zc66, zc99⟩]⟩
    exact zL39 _ (0) (0) (255) (0) (0) rfl ⟨by omega, by omega, rfl⟩
  refine y_aload_n (pc := 5) hF dX10_ring_5 0 rfl ?_
  refine y_iload_n (pc := 6) hF dX10_ring_6 2 rfl ?_
  refine y_if_lt (pc := 7) hF dX10_ring_7 19 rfl (by omega) (fun zc7 => ?_) (fun zc7 => ?_)
  · skip
    refine y_iconst (pc := 19) hF dX10_ring_19 ?_
    exact zJ20 false (by simp; omega)
  · skip
    refine y_iload_n (pc := 10) hF dX10_ring_10 2 rfl ?_
    refine y_iconst (pc := 11) hF dX10_ring_11 ?_
    refine y_icmp_gt (pc := 12) hF dX10_ring_12 19 rfl (by omega) (by omega) (fun zc12 => ?_) (fun zc12 => ?_)
    · skip
      refine y_iconst (pc := 19) hF dX10_ring_19 ?_
      exact zJ20 false (by simp; omega)
    · skip
      refine y_iconst (pc := 15) hF dX10_ring_15 ?_
      refine y_goto (pc := 16) hF dX10_ring_16 20 rfl ?_
      exact zJ20 true (by simp; omega)
