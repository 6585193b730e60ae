theorem dX11_fillsOne_0 : decode cX11_fillsOne 0 = .ok (.iload_n 3, 1) := by decide +kernel
theorem dX11_fillsOne_1 : decode cX11_fillsOne 1 = .ok (.iload 4, 2) := by decide +kernel
theorem dX11_fillsOne_3 : decode cX11_fillsOne 3 = .ok (.invokestatic 56, 3) := by decide +kernel
theorem dX11_fillsOne_6 : decode cX11_fillsOne 6 = .ok (.istore 6, 2) := by decide +kernel
theorem dX11_fillsOne_8 : decode cX11_fillsOne 8 = .ok (.aload_n 0, 1) := by decide +kernel
theorem dX11_fillsOne_9 : decode cX11_fillsOne 9 = .ok (.getfield 19, 3) := by decide +kernel
theorem dX11_fillsOne_12 : decode cX11_fillsOne 12 = .ok (.iload_n 1, 1) := by decide +kernel
theorem dX11_fillsOne_13 : decode cX11_fillsOne 13 = .ok (.aaload, 1) := by decide +kernel
theorem dX11_fillsOne_14 : decode cX11_fillsOne 14 = .ok (.iconst 0, 1) := by decide +kernel
theorem dX11_fillsOne_15 : decode cX11_fillsOne 15 = .ok (.iload_n 2, 1) := by decide +kernel
theorem dX11_fillsOne_16 : decode cX11_fillsOne 16 = .ok (.iadd, 1) := by decide +kernel
theorem dX11_fillsOne_17 : decode cX11_fillsOne 17 = .ok (.iconst 0, 1) := by decide +kernel
theorem dX11_fillsOne_18 : decode cX11_fillsOne 18 = .ok (.sipush 255, 3) := by decide +kernel
theorem dX11_fillsOne_21 : decode cX11_fillsOne 21 = .ok (.aload_n 0, 1) := by decide +kernel
theorem dX11_fillsOne_22 : decode cX11_fillsOne 22 = .ok (.getfield 19, 3) := by decide +kernel
theorem dX11_fillsOne_25 : decode cX11_fillsOne 25 = .ok (.iload_n 1, 1) := by decide +kernel
theorem dX11_fillsOne_26 : decode cX11_fillsOne 26 = .ok (.aaload, 1) := by decide +kernel
theorem dX11_fillsOne_27 : decode cX11_fillsOne 27 = .ok (.iconst 0, 1) := by decide +kernel
theorem dX11_fillsOne_28 : decode cX11_fillsOne 28 = .ok (.iload 6, 2) := by decide +kernel
theorem dX11_fillsOne_30 : decode cX11_fillsOne 30 = .ok (.iadd, 1) := by decide +kernel
theorem dX11_fillsOne_31 : decode cX11_fillsOne 31 = .ok (.iaload, 1) := by decide +kernel
theorem dX11_fillsOne_32 : decode cX11_fillsOne 32 = .ok (.aload_n 0, 1) := by decide +kernel
theorem dX11_fillsOne_33 : decode cX11_fillsOne 33 = .ok (.getfield 161, 3) := by decide +kernel
theorem dX11_fillsOne_36 : decode cX11_fillsOne 36 = .ok (.iadd, 1) := by decide +kernel
theorem dX11_fillsOne_37 : decode cX11_fillsOne 37 = .ok (.invokestatic 216, 3) := by decide +kernel
theorem dX11_fillsOne_40 : decode cX11_fillsOne 40 = .ok (.invokestatic 219, 3) := by decide +kernel
theorem dX11_fillsOne_43 : decode cX11_fillsOne 43 = .ok (.iastore, 1) := by decide +kernel
theorem dX11_fillsOne_44 : decode cX11_fillsOne 44 = .ok (.aload_n 0, 1) := by decide +kernel
theorem dX11_fillsOne_45 : decode cX11_fillsOne 45 = .ok (.getfield 19, 3) := by decide +kernel
theorem dX11_fillsOne_48 : decode cX11_fillsOne 48 = .ok (.iload_n 1, 1) := by decide +kernel
theorem dX11_fillsOne_49 : decode cX11_fillsOne 49 = .ok (.aaload, 1) := by decide +kernel
theorem dX11_fillsOne_50 : decode cX11_fillsOne 50 = .ok (.sipush 400, 3) := by decide +kernel
theorem dX11_fillsOne_53 : decode cX11_fillsOne 53 = .ok (.iload_n 2, 1) := by decide +kernel
theorem dX11_fillsOne_54 : decode cX11_fillsOne 54 = .ok (.iadd, 1) := by decide +kernel
theorem dX11_fillsOne_55 : decode cX11_fillsOne 55 = .ok (.iload 5, 2) := by decide +kernel
theorem dX11_fillsOne_57 : decode cX11_fillsOne 57 = .ok (.iastore, 1) := by decide +kernel
theorem dX11_fillsOne_58 : decode cX11_fillsOne 58 = .ok (.aload_n 0, 1) := by decide +kernel
theorem dX11_fillsOne_59 : decode cX11_fillsOne 59 = .ok (.getfield 19, 3) := by decide +kernel
theorem dX11_fillsOne_62 : decode cX11_fillsOne 62 = .ok (.iload_n 1, 1) := by decide +kernel
theorem dX11_fillsOne_63 : decode cX11_fillsOne 63 = .ok (.aaload, 1) := by decide +kernel
theorem dX11_fillsOne_64 : decode cX11_fillsOne 64 = .ok (.sipush 800, 3) := by decide +kernel
theorem dX11_fillsOne_67 : decode cX11_fillsOne 67 = .ok (.iload_n 2, 1) := by decide +kernel
theorem dX11_fillsOne_68 : decode cX11_fillsOne 68 = .ok (.iadd, 1) := by decide +kernel
theorem dX11_fillsOne_69 : decode cX11_fillsOne 69 = .ok (.aload_n 0, 1) := by decide +kernel
theorem dX11_fillsOne_70 : decode cX11_fillsOne 70 = .ok (.getfield 19, 3) := by decide +kernel
theorem dX11_fillsOne_73 : decode cX11_fillsOne 73 = .ok (.iload_n 1, 1) := by decide +kernel
theorem dX11_fillsOne_74 : decode cX11_fillsOne 74 = .ok (.aaload, 1) := by decide +kernel
theorem dX11_fillsOne_75 : decode cX11_fillsOne 75 = .ok (.sipush 2000, 3) := by decide +kernel
theorem dX11_fillsOne_78 : decode cX11_fillsOne 78 = .ok (.iaload, 1) := by decide +kernel
theorem dX11_fillsOne_79 : decode cX11_fillsOne 79 = .ok (.iastore, 1) := by decide +kernel
theorem dX11_fillsOne_80 : decode cX11_fillsOne 80 = .ok (.aload_n 0, 1) := by decide +kernel
theorem dX11_fillsOne_81 : decode cX11_fillsOne 81 = .ok (.getfield 19, 3) := by decide +kernel
theorem dX11_fillsOne_84 : decode cX11_fillsOne 84 = .ok (.iload_n 1, 1) := by decide +kernel
theorem dX11_fillsOne_85 : decode cX11_fillsOne 85 = .ok (.aaload, 1) := by decide +kernel
theorem dX11_fillsOne_86 : decode cX11_fillsOne 86 = .ok (.sipush 1200, 3) := by decide +kernel
theorem dX11_fillsOne_89 : decode cX11_fillsOne 89 = .ok (.iload_n 2, 1) := by decide +kernel
theorem dX11_fillsOne_90 : decode cX11_fillsOne 90 = .ok (.iadd, 1) := by decide +kernel
theorem dX11_fillsOne_91 : decode cX11_fillsOne 91 = .ok (.iload 6, 2) := by decide +kernel
theorem dX11_fillsOne_93 : decode cX11_fillsOne 93 = .ok (.iastore, 1) := by decide +kernel
theorem dX11_fillsOne_94 : decode cX11_fillsOne 94 = .ok (.aload_n 0, 1) := by decide +kernel
theorem dX11_fillsOne_95 : decode cX11_fillsOne 95 = .ok (.getfield 19, 3) := by decide +kernel
theorem dX11_fillsOne_98 : decode cX11_fillsOne 98 = .ok (.iload_n 1, 1) := by decide +kernel
theorem dX11_fillsOne_99 : decode cX11_fillsOne 99 = .ok (.aaload, 1) := by decide +kernel
theorem dX11_fillsOne_100 : decode cX11_fillsOne 100 = .ok (.sipush 1600, 3) := by decide +kernel
theorem dX11_fillsOne_103 : decode cX11_fillsOne 103 = .ok (.iload_n 2, 1) := by decide +kernel
theorem dX11_fillsOne_104 : decode cX11_fillsOne 104 = .ok (.iadd, 1) := by decide +kernel
theorem dX11_fillsOne_105 : decode cX11_fillsOne 105 = .ok (.aload_n 0, 1) := by decide +kernel
theorem dX11_fillsOne_106 : decode cX11_fillsOne 106 = .ok (.getfield 19, 3) := by decide +kernel
theorem dX11_fillsOne_109 : decode cX11_fillsOne 109 = .ok (.iload_n 1, 1) := by decide +kernel
theorem dX11_fillsOne_110 : decode cX11_fillsOne 110 = .ok (.aaload, 1) := by decide +kernel
theorem dX11_fillsOne_111 : decode cX11_fillsOne 111 = .ok (.sipush 800, 3) := by decide +kernel
theorem dX11_fillsOne_114 : decode cX11_fillsOne 114 = .ok (.iload 6, 2) := by decide +kernel
theorem dX11_fillsOne_116 : decode cX11_fillsOne 116 = .ok (.iadd, 1) := by decide +kernel
theorem dX11_fillsOne_117 : decode cX11_fillsOne 117 = .ok (.iaload, 1) := by decide +kernel
theorem dX11_fillsOne_118 : decode cX11_fillsOne 118 = .ok (.ifCond .le 19, 3) := by decide +kernel
theorem dX11_fillsOne_121 : decode cX11_fillsOne 121 = .ok (.aload_n 0, 1) := by decide +kernel
theorem dX11_fillsOne_122 : decode cX11_fillsOne 122 = .ok (.getfield 19, 3) := by decide +kernel
theorem dX11_fillsOne_125 : decode cX11_fillsOne 125 = .ok (.iload_n 1, 1) := by decide +kernel
theorem dX11_fillsOne_126 : decode cX11_fillsOne 126 = .ok (.aaload, 1) := by decide +kernel
theorem dX11_fillsOne_127 : decode cX11_fillsOne 127 = .ok (.sipush 1600, 3) := by decide +kernel
theorem dX11_fillsOne_130 : decode cX11_fillsOne 130 = .ok (.iload 6, 2) := by decide +kernel
theorem dX11_fillsOne_132 : decode cX11_fillsOne 132 = .ok (.iadd, 1) := by decide +kernel
theorem dX11_fillsOne_133 : decode cX11_fillsOne 133 = .ok (.iaload, 1) := by decide +kernel
theorem dX11_fillsOne_134 : decode cX11_fillsOne 134 = .ok (.goto 5, 3) := by decide +kernel
theorem dX11_fillsOne_137 : decode cX11_fillsOne 137 = .ok (.iload 6, 2) := by decide +kernel
theorem dX11_fillsOne_139 : decode cX11_fillsOne 139 = .ok (.iastore, 1) := by decide +kernel
theorem dX11_fillsOne_140 : decode cX11_fillsOne 140 = .ok (.return_, 1) := by decide +kernel
set_option maxHeartbeats 4000000 in
set_option maxRecDepth 100000 in
theorem tX11_fillsOne {l : Launch} {g : yG} {n : Nat} {σ : yM} (z : Nat) (hn : 172 ≤ n) (hz : z < 3) (i u v st : Int) (hi : 0 ≤ i ∧ i < 400) (hp : 0 ≤ 20 * v + u ∧ 20 * v + u < 400) (hip : 20 * v + u ≠ i) (ht : -1000 ≤ σ (158 + z) (20 * v + u) ∧ σ (158 + z) (20 * v + u) ≤ 1000) (hb : -1000 ≤ σ 155 22 ∧ σ 155 22 ≤ 1000) (hf : -2147483648 ≤ σ (158 + z) (800 + (20 * v + u)) ∧ σ (158 + z) (800 + (20 * v + u)) < 2147483648) : yMet l g yX11_fillsOne cX11_fillsOne 7 none (rmL 2) [yR g 155, yI (z : Int), yI i, yI u, yI v, yI st] (SC g) n σ (SC g) (yPv (fun n' σ' => n' = n ∧ σ' = mf1 σ z i (20 * v + u) st)) := by
  refine y_start (by decide) (Nat.le_of_ble_eq_true rfl) (fun X0 hF => ?_)
  show yV X0 g 7 (yQ X0 g (SC g) (yPv (fun n' σ' => n' = n ∧ σ' = mf1 σ z i (20 * v + u) st)) (rmL 2)) (SC g) n σ 0 0 0 [(0, yR g 155), (1, yI (z : Int)), (2, yI i), (3, yI u), (4, yI v), (5, yI st)] []
  refine y_iload_n (pc := 0) hF dX11_fillsOne_0 3 rfl ?_
  refine y_iload (pc := 1) hF dX11_fillsOne_1 4 rfl ?_
  refine y_cp (y_rS (pc := 3) (As := [yI u, yI v]) (kk := 0) hF (tX11_at u v) dX11_fillsOne_3 w_1236 qX11_at rfl ⟨Nat.le_of_ble_eq_true rfl, Nat.le_of_ble_eq_true rfl⟩ ⟨Nat.zero_le _, Nat.zero_le _⟩ (Nat.le_of_ble_eq_true rfl) rfl) ?_
  refine y_istore (pc := 6) (lv' := [(0, yR g 155), (1, yI (z : Int)), (2, yI i), (3, yI u), (4, yI v), (5, yI st), (6, yI (20 * v + u))]) hF dX11_fillsOne_6 (by decide) rfl rfl ?_
  refine y_aload_n (pc := 8) hF dX11_fillsOne_8 0 rfl ?_
  refine y_get (pc := 9) (ci := 11) hF dX11_fillsOne_9 (by omega) rfl rfl rfl iX11 2 (by decide) w_1249 rfl ?_
  refine y_iload_n (pc := 12) hF dX11_fillsOne_12 1 rfl ?_
  refine y_aaM (pc := 13) (z := z) hF dX11_fillsOne_13 hn rfl hz ?_
  refine y_iconst (pc := 14) hF dX11_fillsOne_14 ?_
  refine y_iload_n (pc := 15) hF dX11_fillsOne_15 2 rfl ?_
  refine y_iadd (pc := 16) hF dX11_fillsOne_16 ?_
  rw [show 0 + i = i from (Int.zero_add _)]
  refine y_iconst (pc := 17) hF dX11_fillsOne_17 ?_
  refine y_sipush (pc := 18) hF dX11_fillsOne_18 (by decide) ?_
  refine y_aload_n (pc := 21) hF dX11_fillsOne_21 0 rfl ?_
  refine y_get (pc := 22) (ci := 11) hF dX11_fillsOne_22 (by omega) rfl rfl rfl iX11 2 (by decide) w_1249 rfl ?_
  refine y_iload_n (pc := 25) hF dX11_fillsOne_25 1 rfl ?_
  refine y_aaM (pc := 26) (z := z) hF dX11_fillsOne_26 hn rfl hz ?_
  refine y_iconst (pc := 27) hF dX11_fillsOne_27 ?_
  refine y_iload (pc := 28) hF dX11_fillsOne_28 6 rfl ?_
  refine y_iadd (pc := 30) hF dX11_fillsOne_30 ?_
  rw [show 0 + (20 * v + u) = 20 * v + u from (Int.zero_add _)]
  refine y_iaload (pc := 31) hF dX11_fillsOne_31 (by omega) (sc_lay hz g) (by omega) (by decide) ?_
  refine y_aload_n (pc := 32) hF dX11_fillsOne_32 0 rfl ?_
  refine y_get (pc := 33) (ci := 11) hF dX11_fillsOne_33 (by omega) rfl rfl rfl iX11 22 (by decide) w_1269 rfl ?_
  refine y_iadd (pc := 36) hF dX11_fillsOne_36 ?_
  refine y_mmin (pc := 37) hF dX11_fillsOne_37 w_1415 w_699 w_103 w_700 (Nat.le_of_ble_eq_true rfl) (Nat.le_of_ble_eq_true rfl) ⟨Nat.zero_le _, Nat.zero_le _⟩ (by omega) (by omega) ?_
  refine y_mmax (pc := 40) hF dX11_fillsOne_40 w_1588 w_876 w_103 w_877 (Nat.le_of_ble_eq_true rfl) (Nat.le_of_ble_eq_true rfl) ⟨Nat.zero_le _, Nat.zero_le _⟩ (by omega) (by omega) ?_
  refine y_iastore (pc := 43) hF dX11_fillsOne_43 (by omega) (sc_lay hz g) (by omega) (by decide) ?_
  refine y_aload_n (pc := 44) hF dX11_fillsOne_44 0 rfl ?_
  refine y_get (pc := 45) (ci := 11) hF dX11_fillsOne_45 (by omega) rfl rfl rfl iX11 2 (by decide) w_1249 rfl ?_
  refine y_iload_n (pc := 48) hF dX11_fillsOne_48 1 rfl ?_
  refine y_aaM (pc := 49) (z := z) hF dX11_fillsOne_49 hn rfl hz ?_
  refine y_sipush (pc := 50) hF dX11_fillsOne_50 (by decide) ?_
  refine y_iload_n (pc := 53) hF dX11_fillsOne_53 2 rfl ?_
  refine y_iadd (pc := 54) hF dX11_fillsOne_54 ?_
  refine y_iload (pc := 55) hF dX11_fillsOne_55 5 rfl ?_
  refine y_iastore (pc := 57) hF dX11_fillsOne_57 (by omega) (sc_lay hz g) (by omega) (by decide) ?_
  refine y_aload_n (pc := 58) hF dX11_fillsOne_58 0 rfl ?_
  refine y_get (pc := 59) (ci := 11) hF dX11_fillsOne_59 (by omega) rfl rfl rfl iX11 2 (by decide) w_1249 rfl ?_
  refine y_iload_n (pc := 62) hF dX11_fillsOne_62 1 rfl ?_
  refine y_aaM (pc := 63) (z := z) hF dX11_fillsOne_63 hn rfl hz ?_
  refine y_sipush (pc := 64) hF dX11_fillsOne_64 (by decide) ?_
  refine y_iload_n (pc := 67) hF dX11_fillsOne_67 2 rfl ?_
  refine y_iadd (pc := 68) hF dX11_fillsOne_68 ?_
  refine y_aload_n (pc := 69) hF dX11_fillsOne_69 0 rfl ?_
  refine y_get (pc := 70) (ci := 11) hF dX11_fillsOne_70 (by omega) rfl rfl rfl iX11 2 (by decide) w_1249 rfl ?_
  refine y_iload_n (pc := 73) hF dX11_fillsOne_73 1 rfl ?_
  refine y_aaM (pc := 74) (z := z) hF dX11_fillsOne_74 hn rfl hz ?_
  refine y_sipush (pc := 75) hF dX11_fillsOne_75 (by decide) ?_
  refine y_iaload (pc := 78) hF dX11_fillsOne_78 (by omega) (sc_lay hz g) (by omega) (by decide) ?_
  rw [show (yset (yset σ (158 + z) i (max 0 (min 255 ((σ (158 + z) (20 * v + u)) + (σ 155 22))))) (158 + z) (400 + i) st) (158 + z) 2000 = σ (158 + z) 2000 from (by rw [yset_o (by omega), yset_o (by omega)])]
  refine y_iastore (pc := 79) hF dX11_fillsOne_79 (by omega) (sc_lay hz g) (by omega) (by decide) ?_
  refine y_aload_n (pc := 80) hF dX11_fillsOne_80 0 rfl ?_
  refine y_get (pc := 81) (ci := 11) hF dX11_fillsOne_81 (by omega) rfl rfl rfl iX11 2 (by decide) w_1249 rfl ?_
  refine y_iload_n (pc := 84) hF dX11_fillsOne_84 1 rfl ?_
  refine y_aaM (pc := 85) (z := z) hF dX11_fillsOne_85 hn rfl hz ?_
  refine y_sipush (pc := 86) hF dX11_fillsOne_86 (by decide) ?_
  refine y_iload_n (pc := 89) hF dX11_fillsOne_89 2 rfl ?_
  refine y_iadd (pc := 90) hF dX11_fillsOne_90 ?_
  refine y_iload (pc := 91) hF dX11_fillsOne_91 6 rfl ?_
  refine y_iastore (pc := 93) hF dX11_fillsOne_93 (by omega) (sc_lay hz g) (by omega) (by decide) ?_
  refine y_aload_n (pc := 94) hF dX11_fillsOne_94 0 rfl ?_
  refine y_get (pc := 95) (ci := 11) hF dX11_fillsOne_95 (by omega) rfl rfl rfl iX11 2 (by decide) w_1249 rfl ?_
  refine y_iload_n (pc := 98) hF dX11_fillsOne_98 1 rfl ?_
  refine y_aaM (pc := 99) (z := z) hF dX11_fillsOne_99 hn rfl hz ?_
  refine y_sipush (pc := 100) hF dX11_fillsOne_100 (by decide) ?_
  refine y_iload_n (pc := 103) hF dX11_fillsOne_103 2 rfl ?_
  refine y_iadd (pc := 104) hF dX11_fillsOne_104 ?_
  refine y_aload_n (pc := 105) hF dX11_fillsOne_105 0 rfl ?_
  refine y_get (pc := 106) (ci := 11) hF dX11_fillsOne_106 (by omega) rfl rfl rfl iX11 2 (by decide) w_1249 rfl ?_
  refine y_iload_n (pc := 109) hF dX11_fillsOne_109 1 rfl ?_
  refine y_aaM (pc := 110) (z := z) hF dX11_fillsOne_110 hn rfl hz ?_
  refine y_sipush (pc := 111) hF dX11_fillsOne_111 (by decide) ?_
  refine y_iload (pc := 114) hF dX11_fillsOne_114 6 rfl ?_
  refine y_iadd (pc := 116) hF dX11_fillsOne_116 ?_
  refine y_iaload (pc := 117) hF dX11_fillsOne_117 (by omega) (sc_lay hz g) (by omega) (by decide) ?_
  rw [show (yset (yset (yset (yset σ (158 + z) i (max 0 (min 255 ((σ (158 + z) (20 * v + u)) + (σ 155 22))))) (158 + z) (400 + i) st) (158 + z) (800 + i) (σ (158 + z) 2000)) (158 + z) (1200 + i) (20 * v + u)) (158 + z) (800 + (20 * v + u)) = σ (158 + z) (800 + (20 * v + u)) from (by rw [yset_o (by omega), yset_o (by omega), yset_o (by omega), yset_o (by omega)])]
  refine y_if_le (pc := 118) hF dX11_fillsOne_118 137 rfl (by omega) (fun zc118 => ?_) (fun zc118 => ?_)
  · skip
    refine y_iload (pc := 137) hF dX11_fillsOne_137 6 rfl ?_
    refine y_iastore (pc := 139) hF dX11_fillsOne_139 (by omega) (sc_lay hz g) (by omega) (by decide) ?_
    exact y_vret (pc := 140) hF dX11_fillsOne_140 (Nat.zero_le _) (Nat.zero_le _) ⟨rfl, rfl, by unfold mf1; first | rw [if_pos (by omega)] | rw [if_neg (by omega)]⟩
  · skip
    refine y_aload_n (pc := 121) hF dX11_fillsOne_121 0 rfl ?_
    refine y_get (pc := 122) (ci := 11) hF dX11_fillsOne_122 (by omega) rfl rfl rfl iX11 2 (by decide) w_1249 rfl ?_
    refine y_iload_n (pc := 125) hF dX11_fillsOne_125 1 rfl ?_
    refine y_aaM (pc := 126) (z := z) hF dX11_fillsOne_126 hn rfl hz ?_
    refine y_sipush (pc := 127) hF dX11_fillsOne_127 (by decide) ?_
    refine y_iload (pc := 130) hF dX11_fillsOne_130 6 rfl ?_
    refine y_iadd (pc := 132) hF dX11_fillsOne_132 ?_
    refine y_iaload (pc := 133) hF dX11_fillsOne_133 (by omega) (sc_lay hz g) (by omega) (by decide) ?_
    rw [show (yset (yset (yset (yset σ (158 + z) i (max 0 (min 255 ((σ (158 + z) (20 * v + u)) + (σ 155 22))))) (158 + z) (400 + i) st) (158 + z) (800 + i) (σ (158 + z) 2000)) (158 + z) (1200 + i) (20 * v + u)) (158 + z) (1600 + (20 * v + u)) = σ (158 + z) (1600 + (20 * v + u)) from (by rw [yset_o (by omega), yset_o (by omega), yset_o (by omega), yset_o (by omega)])]
    refine y_goto (pc := 134) hF dX11_fillsOne_134 139 rfl ?_
    refine y_iastore (pc := 139) hF dX11_fillsOne_139 (by omega) (sc_lay hz g) (by omega) (by decide) ?_
    exact y_vret (pc := 140) hF dX11_fillsOne_140 (Nat.zero_le _) (Nat.zero_le _) ⟨rfl, rfl, by unfold mf1; first | rw [if_pos (by omega)] | rw [if_neg (by omega)]⟩

theorem dX11_logs_0 : decode cX11_logs 0 = .ok (.aload_n 0, 1) := by decide +kernel
theorem dX11_logs_1 : decode cX11_logs 1 = .ok (.getfield 19, 3) := by decide +kernel
theorem dX11_logs_4 : decode cX11_logs 4 = .ok (.iload_n 1, 1) := by decide +kernel
theorem dX11_logs_5 : decode cX11_logs 5 = .ok (.aaload, 1) := by decide +kernel
theorem dX11_logs_6 : decode cX11_logs 6 = .ok (.sipush 2002, 3) := by decide +kernel
theorem dX11_logs_9 : decode cX11_logs 9 = .ok (.iaload, 1) := by decide +kernel
theorem dX11_logs_10 : decode cX11_logs 10 = .ok (.bipush 30, 2) := by decide +kernel
theorem dX11_logs_12 : decode cX11_logs 12 = .ok (.if_icmp .ge 17, 3) := by decide +kernel
theorem dX11_logs_15 : decode cX11_logs 15 = .ok (.aload_n 0, 1) := by decide +kernel
theorem dX11_logs_16 : decode cX11_logs 16 = .ok (.getfield 19, 3) := by decide +kernel
theorem dX11_logs_19 : decode cX11_logs 19 = .ok (.iload_n 1, 1) := by decide +kernel
theorem dX11_logs_20 : decode cX11_logs 20 = .ok (.aaload, 1) := by decide +kernel
theorem dX11_logs_21 : decode cX11_logs 21 = .ok (.sipush 2002, 3) := by decide +kernel
theorem dX11_logs_24 : decode cX11_logs 24 = .ok (.dup2, 1) := by decide +kernel
theorem dX11_logs_25 : decode cX11_logs 25 = .ok (.iaload, 1) := by decide +kernel
theorem dX11_logs_26 : decode cX11_logs 26 = .ok (.iconst 1, 1) := by decide +kernel
theorem dX11_logs_27 : decode cX11_logs 27 = .ok (.iadd, 1) := by decide +kernel
theorem dX11_logs_28 : decode cX11_logs 28 = .ok (.iastore, 1) := by decide +kernel
theorem dX11_logs_29 : decode cX11_logs 29 = .ok (.bipush 9, 2) := by decide +kernel
theorem dX11_logs_31 : decode cX11_logs 31 = .ok (.aload_n 0, 1) := by decide +kernel
theorem dX11_logs_32 : decode cX11_logs 32 = .ok (.getfield 19, 3) := by decide +kernel
theorem dX11_logs_35 : decode cX11_logs 35 = .ok (.iload_n 1, 1) := by decide +kernel
theorem dX11_logs_36 : decode cX11_logs 36 = .ok (.aaload, 1) := by decide +kernel
theorem dX11_logs_37 : decode cX11_logs 37 = .ok (.sipush 2002, 3) := by decide +kernel
theorem dX11_logs_40 : decode cX11_logs 40 = .ok (.iaload, 1) := by decide +kernel
theorem dX11_logs_41 : decode cX11_logs 41 = .ok (.imul, 1) := by decide +kernel
theorem dX11_logs_42 : decode cX11_logs 42 = .ok (.iconst 1, 1) := by decide +kernel
theorem dX11_logs_43 : decode cX11_logs 43 = .ok (.isub, 1) := by decide +kernel
theorem dX11_logs_44 : decode cX11_logs 44 = .ok (.istore 6, 2) := by decide +kernel
theorem dX11_logs_46 : decode cX11_logs 46 = .ok (.iload 6, 2) := by decide +kernel
theorem dX11_logs_48 : decode cX11_logs 48 = .ok (.bipush 9, 2) := by decide +kernel
theorem dX11_logs_50 : decode cX11_logs 50 = .ok (.if_icmp .lt 38, 3) := by decide +kernel
theorem dX11_logs_53 : decode cX11_logs 53 = .ok (.aload_n 0, 1) := by decide +kernel
theorem dX11_logs_54 : decode cX11_logs 54 = .ok (.getfield 19, 3) := by decide +kernel
theorem dX11_logs_57 : decode cX11_logs 57 = .ok (.iload_n 1, 1) := by decide +kernel
theorem dX11_logs_58 : decode cX11_logs 58 = .ok (.aaload, 1) := by decide +kernel
theorem dX11_logs_59 : decode cX11_logs 59 = .ok (.sipush 2003, 3) := by decide +kernel
theorem dX11_logs_62 : decode cX11_logs 62 = .ok (.iload 6, 2) := by decide +kernel
theorem dX11_logs_64 : decode cX11_logs 64 = .ok (.iadd, 1) := by decide +kernel
theorem dX11_logs_65 : decode cX11_logs 65 = .ok (.aload_n 0, 1) := by decide +kernel
theorem dX11_logs_66 : decode cX11_logs 66 = .ok (.getfield 19, 3) := by decide +kernel
theorem dX11_logs_69 : decode cX11_logs 69 = .ok (.iload_n 1, 1) := by decide +kernel
theorem dX11_logs_70 : decode cX11_logs 70 = .ok (.aaload, 1) := by decide +kernel
theorem dX11_logs_71 : decode cX11_logs 71 = .ok (.sipush 2003, 3) := by decide +kernel
theorem dX11_logs_74 : decode cX11_logs 74 = .ok (.iload 6, 2) := by decide +kernel
theorem dX11_logs_76 : decode cX11_logs 76 = .ok (.iadd, 1) := by decide +kernel
theorem dX11_logs_77 : decode cX11_logs 77 = .ok (.bipush 9, 2) := by decide +kernel
theorem dX11_logs_79 : decode cX11_logs 79 = .ok (.isub, 1) := by decide +kernel
theorem dX11_logs_80 : decode cX11_logs 80 = .ok (.iaload, 1) := by decide +kernel
theorem dX11_logs_81 : decode cX11_logs 81 = .ok (.iastore, 1) := by decide +kernel
theorem dX11_logs_82 : decode cX11_logs 82 = .ok (.iinc 6 (-1), 3) := by decide +kernel
theorem dX11_logs_85 : decode cX11_logs 85 = .ok (.goto (-39), 3) := by decide +kernel
theorem dX11_logs_88 : decode cX11_logs 88 = .ok (.bipush 9, 2) := by decide +kernel
theorem dX11_logs_90 : decode cX11_logs 90 = .ok (.newarray .int, 2) := by decide +kernel
theorem dX11_logs_92 : decode cX11_logs 92 = .ok (.dup, 1) := by decide +kernel
theorem dX11_logs_93 : decode cX11_logs 93 = .ok (.iconst 0, 1) := by decide +kernel
theorem dX11_logs_94 : decode cX11_logs 94 = .ok (.iload_n 2, 1) := by decide +kernel
theorem dX11_logs_95 : decode cX11_logs 95 = .ok (.iastore, 1) := by decide +kernel
theorem dX11_logs_96 : decode cX11_logs 96 = .ok (.dup, 1) := by decide +kernel
theorem dX11_logs_97 : decode cX11_logs 97 = .ok (.iconst 1, 1) := by decide +kernel
theorem dX11_logs_98 : decode cX11_logs 98 = .ok (.iload_n 3, 1) := by decide +kernel
theorem dX11_logs_99 : decode cX11_logs 99 = .ok (.iastore, 1) := by decide +kernel
theorem dX11_logs_100 : decode cX11_logs 100 = .ok (.dup, 1) := by decide +kernel
theorem dX11_logs_101 : decode cX11_logs 101 = .ok (.iconst 2, 1) := by decide +kernel
theorem dX11_logs_102 : decode cX11_logs 102 = .ok (.aload_n 0, 1) := by decide +kernel
theorem dX11_logs_103 : decode cX11_logs 103 = .ok (.getfield 152, 3) := by decide +kernel
theorem dX11_logs_106 : decode cX11_logs 106 = .ok (.iastore, 1) := by decide +kernel
theorem dX11_logs_107 : decode cX11_logs 107 = .ok (.dup, 1) := by decide +kernel
theorem dX11_logs_108 : decode cX11_logs 108 = .ok (.iconst 3, 1) := by decide +kernel
theorem dX11_logs_109 : decode cX11_logs 109 = .ok (.aload_n 0, 1) := by decide +kernel
theorem dX11_logs_110 : decode cX11_logs 110 = .ok (.getfield 155, 3) := by decide +kernel
theorem dX11_logs_113 : decode cX11_logs 113 = .ok (.iastore, 1) := by decide +kernel
theorem dX11_logs_114 : decode cX11_logs 114 = .ok (.dup, 1) := by decide +kernel
theorem dX11_logs_115 : decode cX11_logs 115 = .ok (.iconst 4, 1) := by decide +kernel
theorem dX11_logs_116 : decode cX11_logs 116 = .ok (.aload_n 0, 1) := by decide +kernel
theorem dX11_logs_117 : decode cX11_logs 117 = .ok (.getfield 164, 3) := by decide +kernel
theorem dX11_logs_120 : decode cX11_logs 120 = .ok (.iastore, 1) := by decide +kernel
theorem dX11_logs_121 : decode cX11_logs 121 = .ok (.dup, 1) := by decide +kernel
theorem dX11_logs_122 : decode cX11_logs 122 = .ok (.iconst 5, 1) := by decide +kernel
theorem dX11_logs_123 : decode cX11_logs 123 = .ok (.iload 4, 2) := by decide +kernel
theorem dX11_logs_125 : decode cX11_logs 125 = .ok (.iastore, 1) := by decide +kernel
theorem dX11_logs_126 : decode cX11_logs 126 = .ok (.dup, 1) := by decide +kernel
theorem dX11_logs_127 : decode cX11_logs 127 = .ok (.bipush 6, 2) := by decide +kernel
theorem dX11_logs_129 : decode cX11_logs 129 = .ok (.iload 5, 2) := by decide +kernel
theorem dX11_logs_131 : decode cX11_logs 131 = .ok (.iastore, 1) := by decide +kernel
theorem dX11_logs_132 : decode cX11_logs 132 = .ok (.dup, 1) := by decide +kernel
theorem dX11_logs_133 : decode cX11_logs 133 = .ok (.bipush 7, 2) := by decide +kernel
theorem dX11_logs_135 : decode cX11_logs 135 = .ok (.aload_n 0, 1) := by decide +kernel
theorem dX11_logs_136 : decode cX11_logs 136 = .ok (.getfield 158, 3) := by decide +kernel
theorem dX11_logs_139 : decode cX11_logs 139 = .ok (.iastore, 1) := by decide +kernel
theorem dX11_logs_140 : decode cX11_logs 140 = .ok (.dup, 1) := by decide +kernel
theorem dX11_logs_141 : decode cX11_logs 141 = .ok (.bipush 8, 2) := by decide +kernel
theorem dX11_logs_143 : decode cX11_logs 143 = .ok (.aload_n 0, 1) := by decide +kernel
theorem dX11_logs_144 : decode cX11_logs 144 = .ok (.getfield 161, 3) := by decide +kernel
theorem dX11_logs_147 : decode cX11_logs 147 = .ok (.iastore, 1) := by decide +kernel
theorem dX11_logs_148 : decode cX11_logs 148 = .ok (.astore 6, 2) := by decide +kernel
theorem dX11_logs_150 : decode cX11_logs 150 = .ok (.iconst 0, 1) := by decide +kernel
theorem dX11_logs_151 : decode cX11_logs 151 = .ok (.istore 7, 2) := by decide +kernel
theorem dX11_logs_153 : decode cX11_logs 153 = .ok (.iload 7, 2) := by decide +kernel
theorem dX11_logs_155 : decode cX11_logs 155 = .ok (.bipush 9, 2) := by decide +kernel
theorem dX11_logs_157 : decode cX11_logs 157 = .ok (.if_icmp .ge 27, 3) := by decide +kernel
theorem dX11_logs_160 : decode cX11_logs 160 = .ok (.aload_n 0, 1) := by decide +kernel
theorem dX11_logs_161 : decode cX11_logs 161 = .ok (.getfield 19, 3) := by decide +kernel
theorem dX11_logs_164 : decode cX11_logs 164 = .ok (.iload_n 1, 1) := by decide +kernel
theorem dX11_logs_165 : decode cX11_logs 165 = .ok (.aaload, 1) := by decide +kernel
theorem dX11_logs_166 : decode cX11_logs 166 = .ok (.sipush 2003, 3) := by decide +kernel
theorem dX11_logs_169 : decode cX11_logs 169 = .ok (.iload 7, 2) := by decide +kernel
theorem dX11_logs_171 : decode cX11_logs 171 = .ok (.iadd, 1) := by decide +kernel
theorem dX11_logs_172 : decode cX11_logs 172 = .ok (.aload 6, 2) := by decide +kernel
theorem dX11_logs_174 : decode cX11_logs 174 = .ok (.iload 7, 2) := by decide +kernel
theorem dX11_logs_176 : decode cX11_logs 176 = .ok (.iaload, 1) := by decide +kernel
theorem dX11_logs_177 : decode cX11_logs 177 = .ok (.iastore, 1) := by decide +kernel
theorem dX11_logs_178 : decode cX11_logs 178 = .ok (.iinc 7 1, 3) := by decide +kernel
theorem dX11_logs_181 : decode cX11_logs 181 = .ok (.goto (-28), 3) := by decide +kernel
theorem dX11_logs_184 : decode cX11_logs 184 = .ok (.return_, 1) := by decide +kernel
set_option maxHeartbeats 4000000 in
set_option maxRecDepth 100000 in
theorem tX11_logs {l : Launch} {g : yG} {n : Nat} {σ : yM} (z : Nat) (hn : 172 ≤ n) (hz : z < 3) (x y m st : Int) (nf df nl : Int) (lg : Int → Int → Int) (hL : rL σ z nf df nl lg) : yMet l g yX11_logs cX11_logs 8 none (rmA 1 1 9) [yR g 155, yI (z : Int), yI x, yI y, yI m, yI st] (SC g) n σ (SC g) (yPv (fun n' σ' => n' = n + 1 ∧ fL z 2002 σ σ' ∧ rL σ' z nf df (min (nl + 1) 30) (lgP (lgE x y (σ 155 19) (σ 155 20) (σ 155 23) m st (σ 155 21) (σ 155 22)) lg))) := by
  obtain ⟨hl1, hl2, hl3, hl4, hl5, hl6⟩ := id hL
  refine y_start (by decide) (Nat.le_of_ble_eq_true rfl) (fun X0 hF => ?_)
  show yV X0 g 8 (yQ X0 g (SC g) (yPv (fun n' σ' => n' = n + 1 ∧ fL z 2002 σ σ' ∧ rL σ' z nf df (min (nl + 1) 30) (lgP (lgE x y (σ 155 19) (σ 155 20) (σ 155 23) m st (σ 155 21) (σ 155 22)) lg))) (rmA 1 1 9)) (SC g) n σ 0 0 0 [(0, yR g 155), (1, yI (z : Int)), (2, yI x), (3, yI y), (4, yI m), (5, yI st)] []
  have zJ29 : ∀ (τ : yM), (fL z 2002 σ τ ∧ τ (158 + z) 2002 = (min (nl + 1) 30) ∧ ∀ t : Int, 2002 < t → τ (158 + z) t = σ (158 + z) t) → yV X0 g 8 (yQ X0 g (SC g) (yPv (fun n' σ' => n' = n + 1 ∧ fL z 2002 σ σ' ∧ rL σ' z nf df (min (nl + 1) 30) (lgP (lgE x y (σ 155 19) (σ 155 20) (σ 155 23) m st (σ 155 21) (σ 155 22)) lg))) (rmA 1 1 9)) (SC g) n τ 0 0 29 [(0, yR g 155), (1, yI (z : Int)), (2, yI x), (3, yI y), (4, yI m), (5, yI st)] [] := by
    intro τ  zj
    refine y_bipush (pc := 29) hF dX11_logs_29 (by decide) ?_
    refine y_aload_n (pc := 31) hF dX11_logs_31 0 rfl ?_
    refine y_get (pc := 32) (ci := 11) hF dX11_logs_32 (by omega) rfl rfl rfl iX11 2 (by decide) w_1249 rfl ?_
    refine y_iload_n (pc := 35) hF dX11_logs_35 1 rfl ?_
    refine y_aaM (pc := 36) (z := z) hF dX11_logs_36 hn rfl hz ?_
    refine y_sipush (pc := 37) hF dX11_logs_37 (by decide) ?_
    refine y_iaload (pc := 40) hF dX11_logs_40 (by omega) (sc_lay hz g) (by omega) (by decide) ?_
    rw [show τ (158 + z) 2002 = (min (nl + 1) 30) from zj.2.1]
    refine y_imul (pc := 41) hF dX11_logs_41 ?_
    refine y_iconst (pc := 42) hF dX11_logs_42 ?_
    refine y_isub (pc := 43) hF dX11_logs_43 ?_
    refine y_istore (pc := 44) (lv' := [(0, yR g 155), (1, yI (z : Int)), (2, yI x), (3, yI y), (4, yI m), (5, yI st), (6, yI ((9 * (min (nl + 1) 30)) - 1))]) hF dX11_logs_44 (by decide) rfl rfl ?_
    have zL46 : ∀ (N : Nat) (υ : yM) (k : Int), N = (k).toNat → (fL z 2002 σ υ ∧ (8 ≤ k ∧ k ≤ 9 * (min (nl + 1) 30) - 1) ∧ υ (158 + z) 2002 = (min (nl + 1) 30) ∧ (∀ t : Int, 0 ≤ t → t ≤ k → υ (158 + z) (2003 + t) = σ (158 + z) (2003 + t)) ∧ ∀ t : Int, k < t → t < 9 * (min (nl + 1) 30) → υ (158 + z) (2003 + t) = σ (158 + z) (2003 + (t - 9))) → yV X0 g 8 (yQ X0 g (SC g) (yPv (fun n' σ' => n' = n + 1 ∧ fL z 2002 σ σ' ∧ rL σ' z nf df (min (nl + 1) 30) (lgP (lgE x y (σ 155 19) (σ 155 20) (σ 155 23) m st (σ 155 21) (σ 155 22)) lg))) (rmA 1 1 9)) (SC g) n υ 0 0 46 [(0, yR g 155), (1, yI (z : Int)), (2, yI x), (3, yI y), (4, yI m), (5, yI st), (6, yI k)] [] := by
      intro N
      induction N using Nat.strongRecOn with
      | ind N zh46 =>
        intro υ  k  zN46 zI46
        refine y_iload (pc := 46) hF dX11_logs_46 6 rfl ?_
        refine y_bipush (pc := 48) hF dX11_logs_48 (by decide) ?_
        refine y_icmp_lt (pc := 50) hF dX11_logs_50 88 rfl (by omega) (by omega) (fun zc50 => ?_) (fun zc50 => ?_)
        · skip
          refine y_bipush (pc := 88) hF dX11_logs_88 (by decide) ?_
          refine y_newI (pc := 90) (len := 9) (sch' := (sadd (SC g) n (kI g 9))) hF dX11_logs_90 wac_int (by decide) ⟨Nat.le_of_ble_eq_true rfl, Nat.le_of_ble_eq_true rfl⟩ (sadd_s _ _ _) (fun k f hk hs => by unfold sadd at hs; rw [if_neg (by omega)] at hs; exact hs) ?_
          refine y_dup (pc := 92) hF dX11_logs_92 rfl ?_
          refine y_iconst (pc := 93) hF dX11_logs_93 ?_
          refine y_iload_n (pc := 94) hF dX11_logs_94 2 rfl ?_
          refine y_iastore (pc := 95) hF dX11_logs_95 (Nat.lt_succ_self n) (sadd_s _ _ _) (by omega) (by decide) ?_
          refine y_dup (pc := 96) hF dX11_logs_96 rfl ?_
          refine y_iconst (pc := 97) hF dX11_logs_97 ?_
          refine y_iload_n (pc := 98) hF dX11_logs_98 3 rfl ?_
          refine y_iastore (pc := 99) hF dX11_logs_99 (Nat.lt_succ_self n) (sadd_s _ _ _) (by omega) (by decide) ?_
          refine y_dup (pc := 100) hF dX11_logs_100 rfl ?_
          refine y_iconst (pc := 101) hF dX11_logs_101 ?_
          refine y_aload_n (pc := 102) hF dX11_logs_102 0 rfl ?_
          refine y_get (pc := 103) (ci := 11) hF dX11_logs_103 (by omega) (sadd_n rfl (by omega)) rfl rfl iX11 19 (by decide) w_1266 rfl ?_
          rw [show (yset (yset (ynew υ n (fun _ => 0)) n 0 x) n 1 y) 155 19 = σ 155 19 from (by (repeat rw [yset_n (by omega)]); rw [ynew_n (by omega)]; exact zI46.1 155 19 (by omega) (by omega))]
          refine y_iastore (pc := 106) hF dX11_logs_106 (Nat.lt_succ_self n) (sadd_s _ _ _) (by omega) (by decide) ?_
          refine y_dup (pc := 107) hF dX11_logs_107 rfl ?_
          refine y_iconst (pc := 108) hF dX11_logs_108 ?_
          refine y_aload_n (pc := 109) hF dX11_logs_109 0 rfl ?_
          refine y_get (pc := 110) (ci := 11) hF dX11_logs_110 (by omega) (sadd_n rfl (by omega)) rfl rfl iX11 20 (by decide) w_1267 rfl ?_
          rw [show (yset (yset (yset (ynew υ n (fun _ => 0)) n 0 x) n 1 y) n 2 (σ 155 19)) 155 20 = σ 155 20 from (by (repeat rw [yset_n (by omega)]); rw [ynew_n (by omega)]; exact zI46.1 155 20 (by omega) (by omega))]
          refine y_iastore (pc := 113) hF dX11_logs_113 (Nat.lt_succ_self n) (sadd_s _ _ _) (by omega) (by decide) ?_
          refine y_dup (pc := 114) hF dX11_logs_114 rfl ?_
          refine y_iconst (pc := 115) hF dX11_logs_115 ?_
          refine y_aload_n (pc := 116) hF dX11_logs_116 0 rfl ?_
          refine y_get (pc := 117) (ci := 11) hF dX11_logs_117 (by omega) (sadd_n rfl (by omega)) rfl rfl iX11 23 (by decide) w_1270 rfl ?_
          rw [show (yset (yset (yset (yset (ynew υ n (fun _ => 0)) n 0 x) n 1 y) n 2 (σ 155 19)) n 3 (σ 155 20)) 155 23 = σ 155 23 from (by (repeat rw [yset_n (by omega)]); rw [ynew_n (by omega)]; exact zI46.1 155 23 (by omega) (by omega))]
          refine y_iastore (pc := 120) hF dX11_logs_120 (Nat.lt_succ_self n) (sadd_s _ _ _) (by omega) (by decide) ?_
          refine y_dup (pc := 121) hF dX11_logs_121 rfl ?_
          refine y_iconst (pc := 122) hF dX11_logs_122 ?_
          refine y_iload (pc := 123) hF dX11_logs_123 4 rfl ?_
          refine y_iastore (pc := 125) hF dX11_logs_125 (Nat.lt_succ_self n) (sadd_s _ _ _) (by omega) (by decide) ?_
          refine y_dup (pc := 126) hF dX11_logs_126 rfl ?_
          refine y_bipush (pc := 127) hF dX11_logs_127 (by decide) ?_
          refine y_iload (pc := 129) hF dX11_logs_129 5 rfl ?_
          refine y_iastore (pc := 131) hF dX11_logs_131 (Nat.lt_succ_self n) (sadd_s _ _ _) (by omega) (by decide) ?_
          refine y_dup (pc := 132) hF dX11_logs_132 rfl ?_
          refine y_bipush (pc := 133) hF dX11_logs_133 (by decide) ?_
          refine y_aload_n (pc := 135) hF dX11_logs_135 0 rfl ?_
          refine y_get (pc := 136) (ci := 11) hF dX11_logs_136 (by omega) (sadd_n rfl (by omega)) rfl rfl iX11 21 (by decide) w_1268 rfl ?_
          rw [show (yset (yset (yset (yset (yset (yset (yset (ynew υ n (fun _ => 0)) n 0 x) n 1 y) n 2 (σ 155 19)) n 3 (σ 155 20)) n 4 (σ 155 23)) n 5 m) n 6 st) 155 21 = σ 155 21 from (by (repeat rw [yset_n (by omega)]); rw [ynew_n (by omega)]; exact zI46.1 155 21 (by omega) (by omega))]
          refine y_iastore (pc := 139) hF dX11_logs_139 (Nat.lt_succ_self n) (sadd_s _ _ _) (by omega) (by decide) ?_
          refine y_dup (pc := 140) hF dX11_logs_140 rfl ?_
          refine y_bipush (pc := 141) hF dX11_logs_141 (by decide) ?_
          refine y_aload_n (pc := 143) hF dX11_logs_143 0 rfl ?_
          refine y_get (pc := 144) (ci := 11) hF dX11_logs_144 (by omega) (sadd_n rfl (by omega)) rfl rfl iX11 22 (by decide) w_1269 rfl ?_
          rw [show (yset (yset (yset (yset (yset (yset (yset (yset (ynew υ n (fun _ => 0)) n 0 x) n 1 y) n 2 (σ 155 19)) n 3 (σ 155 20)) n 4 (σ 155 23)) n 5 m) n 6 st) n 7 (σ 155 21)) 155 22 = σ 155 22 from (by (repeat rw [yset_n (by omega)]); rw [ynew_n (by omega)]; exact zI46.1 155 22 (by omega) (by omega))]
          refine y_iastore (pc := 147) hF dX11_logs_147 (Nat.lt_succ_self n) (sadd_s _ _ _) (by omega) (by decide) ?_
          refine y_astore (pc := 148) (lv' := [(0, yR g 155), (1, yI (z : Int)), (2, yI x), (3, yI y), (4, yI m), (5, yI st), (6, yR g n)]) hF dX11_logs_148 (by decide) rfl rfl ?_
          refine y_iconst (pc := 150) hF dX11_logs_150 ?_
          refine y_istore (pc := 151) (lv' := [(0, yR g 155), (1, yI (z : Int)), (2, yI x), (3, yI y), (4, yI m), (5, yI st), (6, yR g n), (7, yI 0)]) hF dX11_logs_151 (by decide) rfl rfl ?_
          have zL153 : ∀ (N : Nat) (ω : yM) (k2 : Int), N = (9 - k2).toNat → (fL z 2002 σ ω ∧ (0 ≤ k2 ∧ k2 ≤ 9) ∧ ω (158 + z) 2002 = (min (nl + 1) 30) ∧ (∀ t : Int, 0 ≤ t → t < k2 → ω (158 + z) (2003 + t) = lgE x y (σ 155 19) (σ 155 20) (σ 155 23) m st (σ 155 21) (σ 155 22) t) ∧ (∀ t : Int, 9 ≤ t → t < 9 * (min (nl + 1) 30) → ω (158 + z) (2003 + t) = σ (158 + z) (2003 + (t - 9))) ∧ ∀ t : Int, 0 ≤ t → t < 9 → ω n t = lgE x y (σ 155 19) (σ 155 20) (σ 155 23) m st (σ 155 21) (σ 155 22) t) → yV X0 g 8 (yQ X0 g (SC g) (yPv (fun n' σ' => n' = n + 1 ∧ fL z 2002 σ σ' ∧ rL σ' z nf df (min (nl + 1) 30) (lgP (lgE x y (σ 155 19) (σ 155 20) (σ 155 23) m st (σ 155 21) (σ 155 22)) lg))) (rmA 1 1 9)) (sadd (SC g) n (kI g 9)) (n + 1) ω (0 + 1) (0 + 9) 153 [(0, yR g 155), (1, yI (z : Int)), (2, yI x), (3, yI y), (4, yI m), (5, yI st), (6, yR g n), (7, yI k2)] [] := by
            intro N
            induction N using Nat.strongRecOn with
            | ind N zh153 =>
              intro ω  k2  zN153 zI153
              refine y_iload (pc := 153) hF dX11_logs_153 7 rfl ?_
              refine y_bipush (pc := 155) hF dX11_logs_155 (by decide) ?_
              refine y_icmp_ge (pc := 157) hF dX11_logs_157 184 rfl (by omega) (by omega) (fun zc157 => ?_) (fun zc157 => ?_)
              · skip
                refine y_wk (sch' := SC g) (fun k f hk hs => sadd_n hs (by have := sc_lt hs; omega)) ?_
                exact y_vret (pc := 184) hF dX11_logs_184 (Nat.le_of_ble_eq_true rfl) (Nat.le_of_ble_eq_true rfl) ⟨rfl, rfl, zI153.1, by rw [zI153.1 _ _ (by omega) (Or.inr (by omega))]; exact hl1, by rw [zI153.1 _ _ (by omega) (Or.inr (by omega))]; exact hl2, zI153.2.2.1, hl4, by omega, fun a b h1 h2 h3 h4 => by unfold lgP; rcases Decidable.em (a = 0) with zq | zq; (subst zq; rw [if_pos rfl, show 9 * 0 + b = b by omega]; exact zI153.2.2.2.1 b h3 (by omega)); (rw [if_neg zq, zI153.2.2.2.2.1 _ (by omega) (by omega), show 9 * a + b - 9 = 9 * (a - 1) + b by omega]; exact hl6 (a - 1) b (by omega) (by omega) h3 h4)⟩
              · skip
                refine y_aload_n (pc := 160) hF dX11_logs_160 0 rfl ?_
                refine y_get (pc := 161) (ci := 11) hF dX11_logs_161 (by omega) (sadd_n rfl (by omega)) rfl rfl iX11 2 (by decide) w_1249 rfl ?_
                refine y_iload_n (pc := 164) hF dX11_logs_164 1 rfl ?_
                refine y_aaM (pc := 165) (z := z) hF dX11_logs_165 (by omega) (sadd_n rfl (by omega)) hz ?_
                refine y_sipush (pc := 166) hF dX11_logs_166 (by decide) ?_
                refine y_iload (pc := 169) hF dX11_logs_169 7 rfl ?_
                refine y_iadd (pc := 171) hF dX11_logs_171 ?_
                refine y_aload (pc := 172) hF dX11_logs_172 6 rfl ?_
                refine y_iload (pc := 174) hF dX11_logs_174 7 rfl ?_
                refine y_iaload (pc := 176) hF dX11_logs_176 (Nat.lt_succ_self n) (sadd_s _ _ _) (by omega) (by decide) ?_
                refine y_iastore (pc := 177) hF dX11_logs_177 (by omega) (sadd_n (sc_lay hz g) (by omega)) (by omega) (by decide) ?_
                refine y_iinc (pc := 178) (lv' := [(0, yR g 155), (1, yI (z : Int)), (2, yI x), (3, yI y), (4, yI m), (5, yI st), (6, yR g n), (7, yI (k2 + 1))]) hF dX11_logs_178 7 rfl (by decide) rfl rfl ?_
                refine y_goto (pc := 181) hF dX11_logs_181 153 rfl ?_
                exact zh153 _ (by omega) (yset ω (158 + z) (2003 + k2) (ω n k2)) (k2 + 1) rfl ⟨zI153.1.st (by omega), by omega, by rw [yset_o (by omega)]; exact zI153.2.2.1, fun t h1 h2 => by rcases Decidable.em (t = k2) with zq | zq; (subst zq; rw [yset_e]; exact zI153.2.2.2.2.2 t h1 (by omega)); (rw [yset_o (by omega)]; exact zI153.2.2.2.1 t h1 (by omega)), fun t h1 h2 => by rw [yset_o (by omega)]; exact zI153.2.2.2.2.1 t h1 h2, fun t h1 h2 => by rw [yset_o (by omega)]; exact zI153.2.2.2.2.2 t h1 h2⟩
          exact zL153 _ (yset (yset (yset (yset (yset (yset (yset (yset (yset (ynew υ n (fun _ => 0)) n 0 x) n 1 y) n 2 (σ 155 19)) n 3 (σ 155 20)) n 4 (σ 155 23)) n 5 m) n 6 st) n 7 (σ 155 21)) n 8 (σ 155 22)) (0) rfl ⟨fun c j hc hq => by (repeat rw [yset_n (by omega)]); rw [ynew_n (by omega)]; exact zI46.1 c j hc hq, by omega, by (repeat rw [yset_n (by omega)]); rw [ynew_n (by omega)]; exact zI46.2.2.1, fun t h1 h2 => by omega, fun t h1 h2 => by (repeat rw [yset_n (by omega)]); rw [ynew_n (by omega)]; exact zI46.2.2.2.2 t (by omega) h2, fun t h1 h2 => by rcases (show t = 0 ∨ t = 1 ∨ t = 2 ∨ t = 3 ∨ t = 4 ∨ t = 5 ∨ t = 6 ∨ t = 7 ∨ t = 8 by omega) with rfl | rfl | rfl | rfl | rfl | rfl | rfl | rfl | rfl <;> simp [yset_ap, lgE]⟩
        · skip
          refine y_aload_n (pc := 53) hF dX11_logs_53 0 rfl ?_
          refine y_get (pc := 54) (ci := 11) hF dX11_logs_54 (by omega) rfl rfl rfl iX11 2 (by decide) w_1249 rfl ?_
          refine y_iload_n (pc := 57) hF dX11_logs_57 1 rfl ?_
          refine y_aaM (pc := 58) (z := z) hF dX11_logs_58 hn rfl hz ?_
          refine y_sipush (pc := 59) hF dX11_logs_59 (by decide) ?_
          refine y_iload (pc := 62) hF dX11_logs_62 6 rfl ?_
          refine y_iadd (pc := 64) hF dX11_logs_64 ?_
          refine y_aload_n (pc := 65) hF dX11_logs_65 0 rfl ?_
          refine y_get (pc := 66) (ci := 11) hF dX11_logs_66 (by omega) rfl rfl rfl iX11 2 (by decide) w_1249 rfl ?_
          refine y_iload_n (pc := 69) hF dX11_logs_69 1 rfl ?_
          refine y_aaM (pc := 70) (z := z) hF dX11_logs_70 hn rfl hz ?_
          refine y_sipush (pc := 71) hF dX11_logs_71 (by decide) ?_
          refine y_iload (pc := 74) hF dX11_logs_74 6 rfl ?_
          refine y_iadd (pc := 76) hF dX11_logs_76 ?_
          refine y_bipush (pc := 77) hF dX11_logs_77 (by decide) ?_
          refine y_isub (pc := 79) hF dX11_logs_79 ?_
          refine y_iaload (pc := 80) hF dX11_logs_80 (by omega) (sc_lay hz g) (by omega) (by decide) ?_
          refine y_iastore (pc := 81) hF dX11_logs_81 (by omega) (sc_lay hz g) (by omega) (by decide) ?_
          refine y_iinc (pc := 82) (lv' := [(0, yR g 155), (1, yI (z : Int)), (2, yI x), (3, yI y), (4, yI m), (5, yI st), (6, yI (k + (-1)))]) hF dX11_logs_82 6 rfl (by decide) rfl rfl ?_
          refine y_goto (pc := 85) hF dX11_logs_85 46 rfl ?_
          exact zh46 _ (by omega) (yset υ (158 + z) (2003 + k) (υ (158 + z) ((2003 + k) - 9))) (k + (-1)) rfl ⟨zI46.1.st (by omega), by omega, by rw [yset_o (by omega)]; exact zI46.2.2.1, fun t h1 h2 => by rw [yset_o (by omega)]; exact zI46.2.2.2.1 t h1 (by omega), fun t h1 h2 => by rcases Decidable.em (t = k) with zq | zq; (subst zq; rw [yset_e, show 2003 + t - 9 = 2003 + (t - 9) by omega]; exact zI46.2.2.2.1 (t - 9) (by omega) (by omega)); (rw [yset_o (by omega)]; exact zI46.2.2.2.2 t (by omega) h2)⟩
    exact zL46 _ τ ((9 * (min (nl + 1) 30)) - 1) rfl ⟨zj.1, by omega, zj.2.1, fun t h1 h2 => zj.2.2 _ (by omega), fun t h1 h2 => by omega⟩
  refine y_aload_n (pc := 0) hF dX11_logs_0 0 rfl ?_
  refine y_get (pc := 1) (ci := 11) hF dX11_logs_1 (by omega) rfl rfl rfl iX11 2 (by decide) w_1249 rfl ?_
  refine y_iload_n (pc := 4) hF dX11_logs_4 1 rfl ?_
  refine y_aaM (pc := 5) (z := z) hF dX11_logs_5 hn rfl hz ?_
  refine y_sipush (pc := 6) hF dX11_logs_6 (by decide) ?_
  refine y_iaload (pc := 9) hF dX11_logs_9 (by omega) (sc_lay hz g) (by omega) (by decide) ?_
  rw [show σ (158 + z) 2002 = nl from hl3]
  refine y_bipush (pc := 10) hF dX11_logs_10 (by decide) ?_
  refine y_icmp_ge (pc := 12) hF dX11_logs_12 29 rfl (by omega) (by omega) (fun zc12 => ?_) (fun zc12 => ?_)
  · skip
    exact zJ29 σ ⟨fL.rf σ, by omega, fun t ht => rfl⟩
  · skip
    refine y_aload_n (pc := 15) hF dX11_logs_15 0 rfl ?_
    refine y_get (pc := 16) (ci := 11) hF dX11_logs_16 (by omega) rfl rfl rfl iX11 2 (by decide) w_1249 rfl ?_
    refine y_iload_n (pc := 19) hF dX11_logs_19 1 rfl ?_
    refine y_aaM (pc := 20) (z := z) hF dX11_logs_20 hn rfl hz ?_
    refine y_sipush (pc := 21) hF dX11_logs_21 (by decide) ?_
    refine y_dup2 (pc := 24) hF dX11_logs_24 rfl rfl ?_
    refine y_iaload (pc := 25) hF dX11_logs_25 (by omega) (sc_lay hz g) (by omega) (by decide) ?_
    rw [show σ (158 + z) 2002 = nl from hl3]
    refine y_iconst (pc := 26) hF dX11_logs_26 ?_
    refine y_iadd (pc := 27) hF dX11_logs_27 ?_
    refine y_iastore (pc := 28) hF dX11_logs_28 (by omega) (sc_lay hz g) (by omega) (by decide) ?_
    exact zJ29 (yset σ (158 + z) 2002 (nl + 1)) ⟨(fL.rf σ).st (by omega), by rw [yset_e]; omega, fun t ht => yset_o (by omega)⟩
