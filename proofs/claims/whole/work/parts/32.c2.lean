theorem dX5_measureSlope_0 : decode cX5_measureSlope 0 = .ok (.aload_n 0, 1) := by decide +kernel
theorem dX5_measureSlope_1 : decode cX5_measureSlope 1 = .ok (.iconst 0, 1) := by decide +kernel
theorem dX5_measureSlope_2 : decode cX5_measureSlope 2 = .ok (.putfield 15, 3) := by decide +kernel
theorem dX5_measureSlope_5 : decode cX5_measureSlope 5 = .ok (.aload_n 0, 1) := by decide +kernel
theorem dX5_measureSlope_6 : decode cX5_measureSlope 6 = .ok (.iconst 0, 1) := by decide +kernel
theorem dX5_measureSlope_7 : decode cX5_measureSlope 7 = .ok (.putfield 18, 3) := by decide +kernel
theorem dX5_measureSlope_10 : decode cX5_measureSlope 10 = .ok (.iconst 0, 1) := by decide +kernel
theorem dX5_measureSlope_11 : decode cX5_measureSlope 11 = .ok (.istore 5, 2) := by decide +kernel
theorem dX5_measureSlope_13 : decode cX5_measureSlope 13 = .ok (.aload_n 1, 1) := by decide +kernel
theorem dX5_measureSlope_14 : decode cX5_measureSlope 14 = .ok (.getfield 86, 3) := by decide +kernel
theorem dX5_measureSlope_17 : decode cX5_measureSlope 17 = .ok (.astore 6, 2) := by decide +kernel
theorem dX5_measureSlope_19 : decode cX5_measureSlope 19 = .ok (.aload_n 1, 1) := by decide +kernel
theorem dX5_measureSlope_20 : decode cX5_measureSlope 20 = .ok (.getfield 70, 3) := by decide +kernel
theorem dX5_measureSlope_23 : decode cX5_measureSlope 23 = .ok (.istore 7, 2) := by decide +kernel
theorem dX5_measureSlope_25 : decode cX5_measureSlope 25 = .ok (.iload_n 3, 1) := by decide +kernel
theorem dX5_measureSlope_26 : decode cX5_measureSlope 26 = .ok (.iload_n 2, 1) := by decide +kernel
theorem dX5_measureSlope_27 : decode cX5_measureSlope 27 = .ok (.iadd, 1) := by decide +kernel
theorem dX5_measureSlope_28 : decode cX5_measureSlope 28 = .ok (.iload 7, 2) := by decide +kernel
theorem dX5_measureSlope_30 : decode cX5_measureSlope 30 = .ok (.iconst 2, 1) := by decide +kernel
theorem dX5_measureSlope_31 : decode cX5_measureSlope 31 = .ok (.isub, 1) := by decide +kernel
theorem dX5_measureSlope_32 : decode cX5_measureSlope 32 = .ok (.invokestatic 73, 3) := by decide +kernel
theorem dX5_measureSlope_35 : decode cX5_measureSlope 35 = .ok (.istore 8, 2) := by decide +kernel
theorem dX5_measureSlope_37 : decode cX5_measureSlope 37 = .ok (.iload 4, 2) := by decide +kernel
theorem dX5_measureSlope_39 : decode cX5_measureSlope 39 = .ok (.iload_n 2, 1) := by decide +kernel
theorem dX5_measureSlope_40 : decode cX5_measureSlope 40 = .ok (.iadd, 1) := by decide +kernel
theorem dX5_measureSlope_41 : decode cX5_measureSlope 41 = .ok (.aload_n 1, 1) := by decide +kernel
theorem dX5_measureSlope_42 : decode cX5_measureSlope 42 = .ok (.getfield 77, 3) := by decide +kernel
theorem dX5_measureSlope_45 : decode cX5_measureSlope 45 = .ok (.iconst 2, 1) := by decide +kernel
theorem dX5_measureSlope_46 : decode cX5_measureSlope 46 = .ok (.isub, 1) := by decide +kernel
theorem dX5_measureSlope_47 : decode cX5_measureSlope 47 = .ok (.invokestatic 73, 3) := by decide +kernel
theorem dX5_measureSlope_50 : decode cX5_measureSlope 50 = .ok (.istore 9, 2) := by decide +kernel
theorem dX5_measureSlope_52 : decode cX5_measureSlope 52 = .ok (.iload 4, 2) := by decide +kernel
theorem dX5_measureSlope_54 : decode cX5_measureSlope 54 = .ok (.iload_n 2, 1) := by decide +kernel
theorem dX5_measureSlope_55 : decode cX5_measureSlope 55 = .ok (.isub, 1) := by decide +kernel
theorem dX5_measureSlope_56 : decode cX5_measureSlope 56 = .ok (.iconst 1, 1) := by decide +kernel
theorem dX5_measureSlope_57 : decode cX5_measureSlope 57 = .ok (.invokestatic 80, 3) := by decide +kernel
theorem dX5_measureSlope_60 : decode cX5_measureSlope 60 = .ok (.istore 10, 2) := by decide +kernel
theorem dX5_measureSlope_62 : decode cX5_measureSlope 62 = .ok (.iload 10, 2) := by decide +kernel
theorem dX5_measureSlope_64 : decode cX5_measureSlope 64 = .ok (.iload 9, 2) := by decide +kernel
theorem dX5_measureSlope_66 : decode cX5_measureSlope 66 = .ok (.if_icmp .gt 168, 3) := by decide +kernel
theorem dX5_measureSlope_69 : decode cX5_measureSlope 69 = .ok (.iload_n 3, 1) := by decide +kernel
theorem dX5_measureSlope_70 : decode cX5_measureSlope 70 = .ok (.iload_n 2, 1) := by decide +kernel
theorem dX5_measureSlope_71 : decode cX5_measureSlope 71 = .ok (.isub, 1) := by decide +kernel
theorem dX5_measureSlope_72 : decode cX5_measureSlope 72 = .ok (.iconst 1, 1) := by decide +kernel
theorem dX5_measureSlope_73 : decode cX5_measureSlope 73 = .ok (.invokestatic 80, 3) := by decide +kernel
theorem dX5_measureSlope_76 : decode cX5_measureSlope 76 = .ok (.istore 11, 2) := by decide +kernel
theorem dX5_measureSlope_78 : decode cX5_measureSlope 78 = .ok (.iload 11, 2) := by decide +kernel
theorem dX5_measureSlope_80 : decode cX5_measureSlope 80 = .ok (.iload 8, 2) := by decide +kernel
theorem dX5_measureSlope_82 : decode cX5_measureSlope 82 = .ok (.if_icmp .gt 146, 3) := by decide +kernel
theorem dX5_measureSlope_85 : decode cX5_measureSlope 85 = .ok (.iload 10, 2) := by decide +kernel
theorem dX5_measureSlope_87 : decode cX5_measureSlope 87 = .ok (.iload 7, 2) := by decide +kernel
theorem dX5_measureSlope_89 : decode cX5_measureSlope 89 = .ok (.imul, 1) := by decide +kernel
theorem dX5_measureSlope_90 : decode cX5_measureSlope 90 = .ok (.iload 11, 2) := by decide +kernel
theorem dX5_measureSlope_92 : decode cX5_measureSlope 92 = .ok (.iadd, 1) := by decide +kernel
theorem dX5_measureSlope_93 : decode cX5_measureSlope 93 = .ok (.istore 12, 2) := by decide +kernel
theorem dX5_measureSlope_95 : decode cX5_measureSlope 95 = .ok (.aload 6, 2) := by decide +kernel
theorem dX5_measureSlope_97 : decode cX5_measureSlope 97 = .ok (.iload 12, 2) := by decide +kernel
theorem dX5_measureSlope_99 : decode cX5_measureSlope 99 = .ok (.iaload, 1) := by decide +kernel
theorem dX5_measureSlope_100 : decode cX5_measureSlope 100 = .ok (.iconst (-1), 1) := by decide +kernel
theorem dX5_measureSlope_101 : decode cX5_measureSlope 101 = .ok (.if_icmp .eq 121, 3) := by decide +kernel
theorem dX5_measureSlope_104 : decode cX5_measureSlope 104 = .ok (.aload 6, 2) := by decide +kernel
theorem dX5_measureSlope_106 : decode cX5_measureSlope 106 = .ok (.iload 12, 2) := by decide +kernel
theorem dX5_measureSlope_108 : decode cX5_measureSlope 108 = .ok (.iconst 1, 1) := by decide +kernel
theorem dX5_measureSlope_109 : decode cX5_measureSlope 109 = .ok (.isub, 1) := by decide +kernel
theorem dX5_measureSlope_110 : decode cX5_measureSlope 110 = .ok (.iaload, 1) := by decide +kernel
theorem dX5_measureSlope_111 : decode cX5_measureSlope 111 = .ok (.iconst (-1), 1) := by decide +kernel
theorem dX5_measureSlope_112 : decode cX5_measureSlope 112 = .ok (.if_icmp .eq 110, 3) := by decide +kernel
theorem dX5_measureSlope_115 : decode cX5_measureSlope 115 = .ok (.aload 6, 2) := by decide +kernel
theorem dX5_measureSlope_117 : decode cX5_measureSlope 117 = .ok (.iload 12, 2) := by decide +kernel
theorem dX5_measureSlope_119 : decode cX5_measureSlope 119 = .ok (.iconst 1, 1) := by decide +kernel
theorem dX5_measureSlope_120 : decode cX5_measureSlope 120 = .ok (.iadd, 1) := by decide +kernel
theorem dX5_measureSlope_121 : decode cX5_measureSlope 121 = .ok (.iaload, 1) := by decide +kernel
theorem dX5_measureSlope_122 : decode cX5_measureSlope 122 = .ok (.iconst (-1), 1) := by decide +kernel
theorem dX5_measureSlope_123 : decode cX5_measureSlope 123 = .ok (.if_icmp .eq 99, 3) := by decide +kernel
theorem dX5_measureSlope_126 : decode cX5_measureSlope 126 = .ok (.aload 6, 2) := by decide +kernel
theorem dX5_measureSlope_128 : decode cX5_measureSlope 128 = .ok (.iload 12, 2) := by decide +kernel
theorem dX5_measureSlope_130 : decode cX5_measureSlope 130 = .ok (.iload 7, 2) := by decide +kernel
theorem dX5_measureSlope_132 : decode cX5_measureSlope 132 = .ok (.isub, 1) := by decide +kernel
theorem dX5_measureSlope_133 : decode cX5_measureSlope 133 = .ok (.iaload, 1) := by decide +kernel
theorem dX5_measureSlope_134 : decode cX5_measureSlope 134 = .ok (.iconst (-1), 1) := by decide +kernel
theorem dX5_measureSlope_135 : decode cX5_measureSlope 135 = .ok (.if_icmp .eq 87, 3) := by decide +kernel
theorem dX5_measureSlope_138 : decode cX5_measureSlope 138 = .ok (.aload 6, 2) := by decide +kernel
theorem dX5_measureSlope_140 : decode cX5_measureSlope 140 = .ok (.iload 12, 2) := by decide +kernel
theorem dX5_measureSlope_142 : decode cX5_measureSlope 142 = .ok (.iload 7, 2) := by decide +kernel
theorem dX5_measureSlope_144 : decode cX5_measureSlope 144 = .ok (.iadd, 1) := by decide +kernel
theorem dX5_measureSlope_145 : decode cX5_measureSlope 145 = .ok (.iaload, 1) := by decide +kernel
theorem dX5_measureSlope_146 : decode cX5_measureSlope 146 = .ok (.iconst (-1), 1) := by decide +kernel
theorem dX5_measureSlope_147 : decode cX5_measureSlope 147 = .ok (.if_icmp .eq 75, 3) := by decide +kernel
theorem dX5_measureSlope_150 : decode cX5_measureSlope 150 = .ok (.aload 6, 2) := by decide +kernel
theorem dX5_measureSlope_152 : decode cX5_measureSlope 152 = .ok (.iload 12, 2) := by decide +kernel
theorem dX5_measureSlope_154 : decode cX5_measureSlope 154 = .ok (.iconst 1, 1) := by decide +kernel
theorem dX5_measureSlope_155 : decode cX5_measureSlope 155 = .ok (.iadd, 1) := by decide +kernel
theorem dX5_measureSlope_156 : decode cX5_measureSlope 156 = .ok (.iaload, 1) := by decide +kernel
theorem dX5_measureSlope_157 : decode cX5_measureSlope 157 = .ok (.aload 6, 2) := by decide +kernel
theorem dX5_measureSlope_159 : decode cX5_measureSlope 159 = .ok (.iload 12, 2) := by decide +kernel
theorem dX5_measureSlope_161 : decode cX5_measureSlope 161 = .ok (.iconst 1, 1) := by decide +kernel
theorem dX5_measureSlope_162 : decode cX5_measureSlope 162 = .ok (.isub, 1) := by decide +kernel
theorem dX5_measureSlope_163 : decode cX5_measureSlope 163 = .ok (.iaload, 1) := by decide +kernel
theorem dX5_measureSlope_164 : decode cX5_measureSlope 164 = .ok (.isub, 1) := by decide +kernel
theorem dX5_measureSlope_165 : decode cX5_measureSlope 165 = .ok (.istore 13, 2) := by decide +kernel
theorem dX5_measureSlope_167 : decode cX5_measureSlope 167 = .ok (.aload 6, 2) := by decide +kernel
theorem dX5_measureSlope_169 : decode cX5_measureSlope 169 = .ok (.iload 12, 2) := by decide +kernel
theorem dX5_measureSlope_171 : decode cX5_measureSlope 171 = .ok (.iload 7, 2) := by decide +kernel
theorem dX5_measureSlope_173 : decode cX5_measureSlope 173 = .ok (.iadd, 1) := by decide +kernel
theorem dX5_measureSlope_174 : decode cX5_measureSlope 174 = .ok (.iaload, 1) := by decide +kernel
theorem dX5_measureSlope_175 : decode cX5_measureSlope 175 = .ok (.aload 6, 2) := by decide +kernel
theorem dX5_measureSlope_177 : decode cX5_measureSlope 177 = .ok (.iload 12, 2) := by decide +kernel
theorem dX5_measureSlope_179 : decode cX5_measureSlope 179 = .ok (.iload 7, 2) := by decide +kernel
theorem dX5_measureSlope_181 : decode cX5_measureSlope 181 = .ok (.isub, 1) := by decide +kernel
theorem dX5_measureSlope_182 : decode cX5_measureSlope 182 = .ok (.iaload, 1) := by decide +kernel
theorem dX5_measureSlope_183 : decode cX5_measureSlope 183 = .ok (.isub, 1) := by decide +kernel
theorem dX5_measureSlope_184 : decode cX5_measureSlope 184 = .ok (.istore 14, 2) := by decide +kernel
theorem dX5_measureSlope_186 : decode cX5_measureSlope 186 = .ok (.iload 13, 2) := by decide +kernel
theorem dX5_measureSlope_188 : decode cX5_measureSlope 188 = .ok (.invokestatic 61, 3) := by decide +kernel
theorem dX5_measureSlope_191 : decode cX5_measureSlope 191 = .ok (.iload 14, 2) := by decide +kernel
theorem dX5_measureSlope_193 : decode cX5_measureSlope 193 = .ok (.invokestatic 61, 3) := by decide +kernel
theorem dX5_measureSlope_196 : decode cX5_measureSlope 196 = .ok (.iadd, 1) := by decide +kernel
theorem dX5_measureSlope_197 : decode cX5_measureSlope 197 = .ok (.istore 15, 2) := by decide +kernel
theorem dX5_measureSlope_199 : decode cX5_measureSlope 199 = .ok (.iload 15, 2) := by decide +kernel
theorem dX5_measureSlope_201 : decode cX5_measureSlope 201 = .ok (.iload 5, 2) := by decide +kernel
theorem dX5_measureSlope_203 : decode cX5_measureSlope 203 = .ok (.if_icmp .le 19, 3) := by decide +kernel
theorem dX5_measureSlope_206 : decode cX5_measureSlope 206 = .ok (.iload 15, 2) := by decide +kernel
theorem dX5_measureSlope_208 : decode cX5_measureSlope 208 = .ok (.istore 5, 2) := by decide +kernel
theorem dX5_measureSlope_210 : decode cX5_measureSlope 210 = .ok (.aload_n 0, 1) := by decide +kernel
theorem dX5_measureSlope_211 : decode cX5_measureSlope 211 = .ok (.iload 13, 2) := by decide +kernel
theorem dX5_measureSlope_213 : decode cX5_measureSlope 213 = .ok (.putfield 15, 3) := by decide +kernel
theorem dX5_measureSlope_216 : decode cX5_measureSlope 216 = .ok (.aload_n 0, 1) := by decide +kernel
theorem dX5_measureSlope_217 : decode cX5_measureSlope 217 = .ok (.iload 14, 2) := by decide +kernel
theorem dX5_measureSlope_219 : decode cX5_measureSlope 219 = .ok (.putfield 18, 3) := by decide +kernel
theorem dX5_measureSlope_222 : decode cX5_measureSlope 222 = .ok (.iinc 11 1, 3) := by decide +kernel
theorem dX5_measureSlope_225 : decode cX5_measureSlope 225 = .ok (.goto (-147), 3) := by decide +kernel
theorem dX5_measureSlope_228 : decode cX5_measureSlope 228 = .ok (.iinc 10 1, 3) := by decide +kernel
theorem dX5_measureSlope_231 : decode cX5_measureSlope 231 = .ok (.goto (-169), 3) := by decide +kernel
theorem dX5_measureSlope_234 : decode cX5_measureSlope 234 = .ok (.return_, 1) := by decide +kernel
set_option maxHeartbeats 4000000 in
set_option maxRecDepth 100000 in
theorem tX5_measureSlope {l : Launch} {g : yG} {n : Nat} {σ : yM} (k : Nat) (w h : Int) (T S F P O : Int → Int → Int) (hn : 172 ≤ n) (hP : isPic k) (hA : rC σ k w h T S F P O) (hk : k + 5 < 120 ∨ 130 < k) (s : Int) (hs : 1 ≤ s ∧ s ≤ 3) (x y : Int) (hi : sIn w h x y = true) : yMet l g yX5_measureSlope cX5_measureSlope 16 none (rmL 1) [yR g 120, yR g k, yI s, yI x, yI y] (SC g) n σ (SC g) (yPv (fun n' σ' => n' = n ∧ fk 120 1 2 σ σ' ∧ σ' 120 1 = (sSl w h T s x y).1 ∧ σ' 120 2 = (sSl w h T s x y).2)) := by
  obtain ⟨hw1, hw2, hw3, hw4⟩ := id hA.1.1
  have zi := sIn_iff.mp hi
  refine y_start (by decide) (Nat.le_of_ble_eq_true rfl) (fun X0 hF => ?_)
  show yV X0 g 16 (yQ X0 g (SC g) (yPv (fun n' σ' => n' = n ∧ fk 120 1 2 σ σ' ∧ σ' 120 1 = (sSl w h T s x y).1 ∧ σ' 120 2 = (sSl w h T s x y).2)) (rmL 1)) (SC g) n σ 0 0 0 [(0, yR g 120), (1, yR g k), (2, yI s), (3, yI x), (4, yI y)] []
  refine y_aload_n (pc := 0) hF dX5_measureSlope_0 0 rfl ?_
  refine y_iconst (pc := 1) hF dX5_measureSlope_1 ?_
  refine y_putf (pc := 2) (ci := 5) (σ' := yset σ 120 1 0) (sch' := (SC g)) hF dX5_measureSlope_2 (by omega) rfl rfl rfl iX5 1 (by decide) w_316 tyX5 tyX5_ok nmX5 rfl rfl rfl rfl (Nat.le_of_ble_eq_true rfl) rfl (y_ps rfl) (fun k' h => ⟨yset_n h, rfl⟩) ?_
  refine y_aload_n (pc := 5) hF dX5_measureSlope_5 0 rfl ?_
  refine y_iconst (pc := 6) hF dX5_measureSlope_6 ?_
  refine y_putf (pc := 7) (ci := 5) (σ' := yset (yset σ 120 1 0) 120 2 0) (sch' := (SC g)) hF dX5_measureSlope_7 (by omega) rfl rfl rfl iX5 2 (by decide) w_318 tyX5 tyX5_ok nmX5 rfl rfl rfl rfl (Nat.le_of_ble_eq_true rfl) rfl (y_ps rfl) (fun k' h => ⟨yset_n h, rfl⟩) ?_
  obtain ⟨τ0, hτ0⟩ : ∃ t, t = yset (yset σ 120 1 0) 120 2 0 := ⟨_, rfl⟩
  rw [← hτ0]
  have zf0 : fk 120 1 2 σ τ0 := by rw [hτ0]; exact ((fk.rf σ).st (by omega)).st (by omega)
  have zA_τ0 := hA.fc (by omega) zf0.fc
  skip
  refine y_iconst (pc := 10) hF dX5_measureSlope_10 ?_
  refine y_istore (pc := 11) (lv' := [(0, yR g 120), (1, yR g k), (2, yI s), (3, yI x), (4, yI y), (5, yI 0)]) hF dX5_measureSlope_11 (by decide) rfl rfl ?_
  refine y_aload_n (pc := 13) hF dX5_measureSlope_13 1 rfl ?_
  refine y_getN (pc := 14) (ci := 4) hF dX5_measureSlope_14 (by have := hP.1; omega) (hP.2 g).1 rfl rfl iX4 2 (by decide) w_221 rfl ?_
  refine y_astore (pc := 17) (lv' := [(0, yR g 120), (1, yR g k), (2, yI s), (3, yI x), (4, yI y), (5, yI 0), (6, yR g (k + 1))]) hF dX5_measureSlope_17 (by decide) rfl rfl ?_
  refine y_aload_n (pc := 19) hF dX5_measureSlope_19 1 rfl ?_
  refine y_getN (pc := 20) (ci := 4) hF dX5_measureSlope_20 (by have := hP.1; omega) (hP.2 g).1 rfl rfl iX4 0 (by decide) w_211 rfl ?_
  rw [show τ0 k 0 = w from zA_τ0.2.1]
  refine y_istore (pc := 23) (lv' := [(0, yR g 120), (1, yR g k), (2, yI s), (3, yI x), (4, yI y), (5, yI 0), (6, yR g (k + 1)), (7, yI w)]) hF dX5_measureSlope_23 (by decide) rfl rfl ?_
  refine y_iload_n (pc := 25) hF dX5_measureSlope_25 3 rfl ?_
  refine y_iload_n (pc := 26) hF dX5_measureSlope_26 2 rfl ?_
  refine y_iadd (pc := 27) hF dX5_measureSlope_27 ?_
  refine y_iload (pc := 28) hF dX5_measureSlope_28 7 rfl ?_
  refine y_iconst (pc := 30) hF dX5_measureSlope_30 ?_
  refine y_isub (pc := 31) hF dX5_measureSlope_31 ?_
  refine y_mmin (pc := 32) hF dX5_measureSlope_32 w_874 w_699 w_103 w_700 (Nat.le_of_ble_eq_true rfl) (Nat.le_of_ble_eq_true rfl) ⟨Nat.zero_le _, Nat.zero_le _⟩ (by omega) (by omega) ?_
  refine y_istore (pc := 35) (lv' := [(0, yR g 120), (1, yR g k), (2, yI s), (3, yI x), (4, yI y), (5, yI 0), (6, yR g (k + 1)), (7, yI w), (8, yI (min (x + s) (w - 2)))]) hF dX5_measureSlope_35 (by decide) rfl rfl ?_
  refine y_iload (pc := 37) hF dX5_measureSlope_37 4 rfl ?_
  refine y_iload_n (pc := 39) hF dX5_measureSlope_39 2 rfl ?_
  refine y_iadd (pc := 40) hF dX5_measureSlope_40 ?_
  refine y_aload_n (pc := 41) hF dX5_measureSlope_41 1 rfl ?_
  refine y_getN (pc := 42) (ci := 4) hF dX5_measureSlope_42 (by have := hP.1; omega) (hP.2 g).1 rfl rfl iX4 1 (by decide) w_216 rfl ?_
  rw [show τ0 k 1 = h from zA_τ0.2.2.1]
  refine y_iconst (pc := 45) hF dX5_measureSlope_45 ?_
  refine y_isub (pc := 46) hF dX5_measureSlope_46 ?_
  refine y_mmin (pc := 47) hF dX5_measureSlope_47 w_874 w_699 w_103 w_700 (Nat.le_of_ble_eq_true rfl) (Nat.le_of_ble_eq_true rfl) ⟨Nat.zero_le _, Nat.zero_le _⟩ (by omega) (by omega) ?_
  refine y_istore (pc := 50) (lv' := [(0, yR g 120), (1, yR g k), (2, yI s), (3, yI x), (4, yI y), (5, yI 0), (6, yR g (k + 1)), (7, yI w), (8, yI (min (x + s) (w - 2))), (9, yI (min (y + s) (h - 2)))]) hF dX5_measureSlope_50 (by decide) rfl rfl ?_
  refine y_iload (pc := 52) hF dX5_measureSlope_52 4 rfl ?_
  refine y_iload_n (pc := 54) hF dX5_measureSlope_54 2 rfl ?_
  refine y_isub (pc := 55) hF dX5_measureSlope_55 ?_
  refine y_iconst (pc := 56) hF dX5_measureSlope_56 ?_
  refine y_mmax (pc := 57) hF dX5_measureSlope_57 w_875 w_876 w_103 w_877 (Nat.le_of_ble_eq_true rfl) (Nat.le_of_ble_eq_true rfl) ⟨Nat.zero_le _, Nat.zero_le _⟩ (by omega) (by omega) ?_
  refine y_istore (pc := 60) (lv' := [(0, yR g 120), (1, yR g k), (2, yI s), (3, yI x), (4, yI y), (5, yI 0), (6, yR g (k + 1)), (7, yI w), (8, yI (min (x + s) (w - 2))), (9, yI (min (y + s) (h - 2))), (10, yI (max (y - s) 1))]) hF dX5_measureSlope_60 (by decide) rfl rfl ?_
  have zL62 : ∀ (N : Nat) (τ : yM) (j p : Int), N = (min (y + s) (h - 2) + 1 - j).toNat → (fk 120 1 2 σ τ ∧ (max (y - s) 1 ≤ j ∧ (j ≤ min (y + s) (h - 2) + 1 ∨ j = max (y - s) 1)) ∧ ((-256 ≤ τ 120 1 ∧ τ 120 1 ≤ 256) ∧ (-256 ≤ τ 120 2 ∧ τ 120 2 ≤ 256)) ∧ (p = ((τ 120 1).natAbs : Int) + ((τ 120 2).natAbs : Int)) ∧ (τ 120 1, τ 120 2) = fr (fun q j => fr (fun q i => slF w h T q i j) (max (x - s) 1) (min (x + s) (w - 2) + 1 - max (x - s) 1).toNat q) (max (y - s) 1) (j - max (y - s) 1).toNat (0, 0)) → yV X0 g 16 (yQ X0 g (SC g) (yPv (fun n' σ' => n' = n ∧ fk 120 1 2 σ σ' ∧ σ' 120 1 = (sSl w h T s x y).1 ∧ σ' 120 2 = (sSl w h T s x y).2)) (rmL 1)) (SC g) n τ 0 0 62 [(0, yR g 120), (1, yR g k), (2, yI s), (3, yI x), (4, yI y), (5, yI p), (6, yR g (k + 1)), (7, yI w), (8, yI (min (x + s) (w - 2))), (9, yI (min (y + s) (h - 2))), (10, yI j)] [] := by
    intro N
    induction N using Nat.strongRecOn with
    | ind N zh62 =>
      intro τ  j p  zN62 zI62
      have zA_τ := hA.fc (by omega) zI62.1.fc
      refine y_iload (pc := 62) hF dX5_measureSlope_62 10 rfl ?_
      refine y_iload (pc := 64) hF dX5_measureSlope_64 9 rfl ?_
      refine y_icmp_gt (pc := 66) hF dX5_measureSlope_66 234 rfl (by omega) (by omega) (fun zc66 => ?_) (fun zc66 => ?_)
      · skip
        have zez : τ 120 1 = (sSl w h T s x y).1 ∧ τ 120 2 = (sSl w h T s x y).2 := by have ze : (τ 120 1, τ 120 2) = sSl w h T s x y := by { rw [zI62.2.2.2.2, show (j - max (y - s) 1).toNat = (min (y + s) (h - 2) + 1 - max (y - s) 1).toNat by omega]; exact (fr_clip2 (f := slF w h T) (xl := 1) (xh := w - 2) (yl := 1) (yh := h - 2) (by omega) (fun q i j hq => slF_out q i j hq)).symm }; exact ⟨congrArg Prod.fst ze, congrArg Prod.snd ze⟩
        exact y_vret (pc := 234) hF dX5_measureSlope_234 (Nat.zero_le _) (Nat.zero_le _) ⟨rfl, rfl, zI62.1, zez.1, zez.2⟩
      · skip
        refine y_iload_n (pc := 69) hF dX5_measureSlope_69 3 rfl ?_
        refine y_iload_n (pc := 70) hF dX5_measureSlope_70 2 rfl ?_
        refine y_isub (pc := 71) hF dX5_measureSlope_71 ?_
        refine y_iconst (pc := 72) hF dX5_measureSlope_72 ?_
        refine y_mmax (pc := 73) hF dX5_measureSlope_73 w_875 w_876 w_103 w_877 (Nat.le_of_ble_eq_true rfl) (Nat.le_of_ble_eq_true rfl) ⟨Nat.zero_le _, Nat.zero_le _⟩ (by omega) (by omega) ?_
        refine y_istore (pc := 76) (lv' := [(0, yR g 120), (1, yR g k), (2, yI s), (3, yI x), (4, yI y), (5, yI p), (6, yR g (k + 1)), (7, yI w), (8, yI (min (x + s) (w - 2))), (9, yI (min (y + s) (h - 2))), (10, yI j), (11, yI (max (x - s) 1))]) hF dX5_measureSlope_76 (by decide) rfl rfl ?_
        have zL78 : ∀ (N : Nat) (υ : yM) (i p2 : Int), N = (min (x + s) (w - 2) + 1 - i).toNat → (fk 120 1 2 σ υ ∧ (max (x - s) 1 ≤ i ∧ (i ≤ min (x + s) (w - 2) + 1 ∨ i = max (x - s) 1)) ∧ ((-256 ≤ υ 120 1 ∧ υ 120 1 ≤ 256) ∧ (-256 ≤ υ 120 2 ∧ υ 120 2 ≤ 256)) ∧ (p2 = ((υ 120 1).natAbs : Int) + ((υ 120 2).natAbs : Int)) ∧ (υ 120 1, υ 120 2) = fr (fun q i => slF w h T q i j) (max (x - s) 1) (i - max (x - s) 1).toNat (τ 120 1, τ 120 2)) → yV X0 g 16 (yQ X0 g (SC g) (yPv (fun n' σ' => n' = n ∧ fk 120 1 2 σ σ' ∧ σ' 120 1 = (sSl w h T s x y).1 ∧ σ' 120 2 = (sSl w h T s x y).2)) (rmL 1)) (SC g) n υ 0 0 78 [(0, yR g 120), (1, yR g k), (2, yI s), (3, yI x), (4, yI y), (5, yI p2), (6, yR g (k + 1)), (7, yI w), (8, yI (min (x + s) (w - 2))), (9, yI (min (y + s) (h - 2))), (10, yI j), (11, yI i)] [] := by
          intro N
          induction N using Nat.strongRecOn with
          | ind N zh78 =>
            intro υ  i p2  zN78 zI78
            have zA_υ := hA.fc (by omega) zI78.1.fc
            refine y_iload (pc := 78) hF dX5_measureSlope_78 11 rfl ?_
            refine y_iload (pc := 80) hF dX5_measureSlope_80 8 rfl ?_
            refine y_icmp_gt (pc := 82) hF dX5_measureSlope_82 228 rfl (by omega) (by omega) (fun zc82 => ?_) (fun zc82 => ?_)
            · skip
              refine y_iinc (pc := 228) (lv' := [(0, yR g 120), (1, yR g k), (2, yI s), (3, yI x), (4, yI y), (5, yI p2), (6, yR g (k + 1)), (7, yI w), (8, yI (min (x + s) (w - 2))), (9, yI (min (y + s) (h - 2))), (10, yI (j + 1)), (11, yI i)]) hF dX5_measureSlope_228 10 rfl (by decide) rfl rfl ?_
              refine y_goto (pc := 231) hF dX5_measureSlope_231 62 rfl ?_
              refine y_sub [0, 1, 2, 3, 4, 5, 6, 7, 8, 9, 10] rfl ?_
              exact zh62 _ (by omega) υ (j + 1) (p2) rfl ⟨zI78.1, by omega, zI78.2.2.1, zI78.2.2.2.1, by rw [fr_up' _ _ zI62.2.1.1, ← zI62.2.2.2.2, zI78.2.2.2.2, show (i - max (x - s) 1).toNat = (min (x + s) (w - 2) + 1 - max (x - s) 1).toNat by omega]⟩
            · skip
              have zin : ∀ a b : Int, i - 1 ≤ a → a ≤ i + 1 → j - 1 ≤ b → b ≤ j + 1 → sIn w h a b = true := fun a b _ _ _ _ => sIn_iff.mpr (by omega)
              have zx0 := y_ix (w := w) (h := h) (x := i) (y := j) ⟨hw1, hw2⟩ ⟨hw3, hw4⟩ (by omega) (by omega)
              have zx1 := y_ix (w := w) (h := h) (x := i - 1) (y := j) ⟨hw1, hw2⟩ ⟨hw3, hw4⟩ (by omega) (by omega)
              have zx2 := y_ix (w := w) (h := h) (x := i + 1) (y := j) ⟨hw1, hw2⟩ ⟨hw3, hw4⟩ (by omega) (by omega)
              have zx3 := y_ix (w := w) (h := h) (x := i) (y := j - 1) ⟨hw1, hw2⟩ ⟨hw3, hw4⟩ (by omega) (by omega)
              have zx4 := y_ix (w := w) (h := h) (x := i) (y := j + 1) ⟨hw1, hw2⟩ ⟨hw3, hw4⟩ (by omega) (by omega)
              have zm0 := zA_υ.2.2.2 (i) (j) (by omega) (by omega) (by omega) (by omega)
              have zm1 := zA_υ.2.2.2 (i - 1) (j) (by omega) (by omega) (by omega) (by omega)
              have zm2 := zA_υ.2.2.2 (i + 1) (j) (by omega) (by omega) (by omega) (by omega)
              have zm3 := zA_υ.2.2.2 (i) (j - 1) (by omega) (by omega) (by omega) (by omega)
              have zm4 := zA_υ.2.2.2 (i) (j + 1) (by omega) (by omega) (by omega) (by omega)
              have zt0 := hA.1.T _ _ (zin (i) (j) (by omega) (by omega) (by omega) (by omega))
              have zt1 := hA.1.T _ _ (zin (i - 1) (j) (by omega) (by omega) (by omega) (by omega))
              have zt2 := hA.1.T _ _ (zin (i + 1) (j) (by omega) (by omega) (by omega) (by omega))
              have zt3 := hA.1.T _ _ (zin (i) (j - 1) (by omega) (by omega) (by omega) (by omega))
              have zt4 := hA.1.T _ _ (zin (i) (j + 1) (by omega) (by omega) (by omega) (by omega))
              have zy1 : j * w + i - w = (j - 1) * w + i := by rw [Int.sub_mul]; omega
              have zy2 : j * w + i + w = (j + 1) * w + i := by rw [Int.add_mul]; omega
              refine y_iload (pc := 85) hF dX5_measureSlope_85 10 rfl ?_
              refine y_iload (pc := 87) hF dX5_measureSlope_87 7 rfl ?_
              refine y_imul (pc := 89) hF dX5_measureSlope_89 ?_
              refine y_iload (pc := 90) hF dX5_measureSlope_90 11 rfl ?_
              refine y_iadd (pc := 92) hF dX5_measureSlope_92 ?_
              refine y_istore (pc := 93) (lv' := [(0, yR g 120), (1, yR g k), (2, yI s), (3, yI x), (4, yI y), (5, yI p2), (6, yR g (k + 1)), (7, yI w), (8, yI (min (x + s) (w - 2))), (9, yI (min (y + s) (h - 2))), (10, yI j), (11, yI i), (12, yI ((j * w) + i))]) hF dX5_measureSlope_93 (by decide) rfl rfl ?_
              refine y_aload (pc := 95) hF dX5_measureSlope_95 6 rfl ?_
              refine y_iload (pc := 97) hF dX5_measureSlope_97 12 rfl ?_
              refine y_iaload (pc := 99) hF dX5_measureSlope_99 (by have := hP.1; omega) (hP.2 g).2.1 (by omega) (by decide) ?_
              rw [show υ (k + 1) ((j * w) + i) = T i j from zm0.1]
              refine y_iconst (pc := 100) hF dX5_measureSlope_100 ?_
              refine y_icmp_eq (pc := 101) hF dX5_measureSlope_101 222 rfl (by omega) (by omega) (fun zc101 => ?_) (fun zc101 => ?_)
              · skip
                refine y_iinc (pc := 222) (lv' := [(0, yR g 120), (1, yR g k), (2, yI s), (3, yI x), (4, yI y), (5, yI p2), (6, yR g (k + 1)), (7, yI w), (8, yI (min (x + s) (w - 2))), (9, yI (min (y + s) (h - 2))), (10, yI j), (11, yI (i + 1)), (12, yI ((j * w) + i))]) hF dX5_measureSlope_222 11 rfl (by decide) rfl rfl ?_
                refine y_goto (pc := 225) hF dX5_measureSlope_225 78 rfl ?_
                refine y_sub [0, 1, 2, 3, 4, 5, 6, 7, 8, 9, 10, 11] rfl ?_
                exact zh78 _ (by omega) υ (i + 1) (p2) rfl ⟨zI78.1, by omega, zI78.2.2.1, zI78.2.2.2.1, by rw [fr_up' _ _ zI78.2.1.1, ← zI78.2.2.2.2]; unfold slF; rw [if_neg (by simp [slK, sKn, zc101])]⟩
              · skip
                refine y_aload (pc := 104) hF dX5_measureSlope_104 6 rfl ?_
                refine y_iload (pc := 106) hF dX5_measureSlope_106 12 rfl ?_
                refine y_iconst (pc := 108) hF dX5_measureSlope_108 ?_
                refine y_isub (pc := 109) hF dX5_measureSlope_109 ?_
                refine y_iaload (pc := 110) hF dX5_measureSlope_110 (by have := hP.1; omega) (hP.2 g).2.1 (by omega) (by decide) ?_
                rw [show υ (k + 1) (((j * w) + i) - 1) = T (i - 1) j from (by rw [show j * w + i - 1 = j * w + (i - 1) by omega]; exact zm1.1)]
                refine y_iconst (pc := 111) hF dX5_measureSlope_111 ?_
                refine y_icmp_eq (pc := 112) hF dX5_measureSlope_112 222 rfl (by omega) (by omega) (fun zc112 => ?_) (fun zc112 => ?_)
                · skip
                  refine y_iinc (pc := 222) (lv' := [(0, yR g 120), (1, yR g k), (2, yI s), (3, yI x), (4, yI y), (5, yI p2), (6, yR g (k + 1)), (7, yI w), (8, yI (min (x + s) (w - 2))), (9, yI (min (y + s) (h - 2))), (10, yI j), (11, yI (i + 1)), (12, yI ((j * w) + i))]) hF dX5_measureSlope_222 11 rfl (by decide) rfl rfl ?_
                  refine y_goto (pc := 225) hF dX5_measureSlope_225 78 rfl ?_
                  refine y_sub [0, 1, 2, 3, 4, 5, 6, 7, 8, 9, 10, 11] rfl ?_
                  exact zh78 _ (by omega) υ (i + 1) (p2) rfl ⟨zI78.1, by omega, zI78.2.2.1, zI78.2.2.2.1, by rw [fr_up' _ _ zI78.2.1.1, ← zI78.2.2.2.2]; unfold slF; rw [if_neg (by simp [slK, sKn, zc112])]⟩
                · skip
                  refine y_aload (pc := 115) hF dX5_measureSlope_115 6 rfl ?_
                  refine y_iload (pc := 117) hF dX5_measureSlope_117 12 rfl ?_
                  refine y_iconst (pc := 119) hF dX5_measureSlope_119 ?_
                  refine y_iadd (pc := 120) hF dX5_measureSlope_120 ?_
                  refine y_iaload (pc := 121) hF dX5_measureSlope_121 (by have := hP.1; omega) (hP.2 g).2.1 (by omega) (by decide) ?_
                  rw [show υ (k + 1) (((j * w) + i) + 1) = T (i + 1) j from (by rw [show j * w + i + 1 = j * w + (i + 1) by omega]; exact zm2.1)]
                  refine y_iconst (pc := 122) hF dX5_measureSlope_122 ?_
                  refine y_icmp_eq (pc := 123) hF dX5_measureSlope_123 222 rfl (by omega) (by omega) (fun zc123 => ?_) (fun zc123 => ?_)
                  · skip
                    refine y_iinc (pc := 222) (lv' := [(0, yR g 120), (1, yR g k), (2, yI s), (3, yI x), (4, yI y), (5, yI p2), (6, yR g (k + 1)), (7, yI w), (8, yI (min (x + s) (w - 2))), (9, yI (min (y + s) (h - 2))), (10, yI j), (11, yI (i + 1)), (12, yI ((j * w) + i))]) hF dX5_measureSlope_222 11 rfl (by decide) rfl rfl ?_
                    refine y_goto (pc := 225) hF dX5_measureSlope_225 78 rfl ?_
                    refine y_sub [0, 1, 2, 3, 4, 5, 6, 7, 8, 9, 10, 11] rfl ?_
                    exact zh78 _ (by omega) υ (i + 1) (p2) rfl ⟨zI78.1, by omega, zI78.2.2.1, zI78.2.2.2.1, by rw [fr_up' _ _ zI78.2.1.1, ← zI78.2.2.2.2]; unfold slF; rw [if_neg (by simp [slK, sKn, zc123])]⟩
                  · skip
                    refine y_aload (pc := 126) hF dX5_measureSlope_126 6 rfl ?_
                    refine y_iload (pc := 128) hF dX5_measureSlope_128 12 rfl ?_
                    refine y_iload (pc := 130) hF dX5_measureSlope_130 7 rfl ?_
                    refine y_isub (pc := 132) hF dX5_measureSlope_132 ?_
                    refine y_iaload (pc := 133) hF dX5_measureSlope_133 (by have := hP.1; omega) (hP.2 g).2.1 (by omega) (by decide) ?_
                    rw [show υ (k + 1) (((j * w) + i) - w) = T i (j - 1) from (by rw [zy1]; exact zm3.1)]
                    refine y_iconst (pc := 134) hF dX5_measureSlope_134 ?_
                    refine y_icmp_eq (pc := 135) hF dX5_measureSlope_135 222 rfl (by omega) (by omega) (fun zc135 => ?_) (fun zc135 => ?_)
                    · skip
                      refine y_iinc (pc := 222) (lv' := [(0, yR g 120), (1, yR g k), (2, yI s), (3, yI x), (4, yI y), (5, yI p2), (6, yR g (k + 1)), (7, yI w), (8, yI (min (x + s) (w - 2))), (9, yI (min (y + s) (h - 2))), (10, yI j), (11, yI (i + 1)), (12, yI ((j * w) + i))]) hF dX5_measureSlope_222 11 rfl (by decide) rfl rfl ?_
                      refine y_goto (pc := 225) hF dX5_measureSlope_225 78 rfl ?_
                      refine y_sub [0, 1, 2, 3, 4, 5, 6, 7, 8, 9, 10, 11] rfl ?_
                      exact zh78 _ (by omega) υ (i + 1) (p2) rfl ⟨zI78.1, by omega, zI78.2.2.1, zI78.2.2.2.1, by rw [fr_up' _ _ zI78.2.1.1, ← zI78.2.2.2.2]; unfold slF; rw [if_neg (by simp [slK, sKn, zc135])]⟩
                    · skip
                      refine y_aload (pc := 138) hF dX5_measureSlope_138 6 rfl ?_
                      refine y_iload (pc := 140) hF dX5_measureSlope_140 12 rfl ?_
                      refine y_iload (pc := 142) hF dX5_measureSlope_142 7 rfl ?_
                      refine y_iadd (pc := 144) hF dX5_measureSlope_144 ?_
                      refine y_iaload (pc := 145) hF dX5_measureSlope_145 (by have := hP.1; omega) (hP.2 g).2.1 (by omega) (by decide) ?_
                      rw [show υ (k + 1) (((j * w) + i) + w) = T i (j + 1) from (by rw [zy2]; exact zm4.1)]
                      refine y_iconst (pc := 146) hF dX5_measureSlope_146 ?_
                      refine y_icmp_eq (pc := 147) hF dX5_measureSlope_147 222 rfl (by omega) (by omega) (fun zc147 => ?_) (fun zc147 => ?_)
                      · skip
                        refine y_iinc (pc := 222) (lv' := [(0, yR g 120), (1, yR g k), (2, yI s), (3, yI x), (4, yI y), (5, yI p2), (6, yR g (k + 1)), (7, yI w), (8, yI (min (x + s) (w - 2))), (9, yI (min (y + s) (h - 2))), (10, yI j), (11, yI (i + 1)), (12, yI ((j * w) + i))]) hF dX5_measureSlope_222 11 rfl (by decide) rfl rfl ?_
                        refine y_goto (pc := 225) hF dX5_measureSlope_225 78 rfl ?_
                        refine y_sub [0, 1, 2, 3, 4, 5, 6, 7, 8, 9, 10, 11] rfl ?_
                        exact zh78 _ (by omega) υ (i + 1) (p2) rfl ⟨zI78.1, by omega, zI78.2.2.1, zI78.2.2.2.1, by rw [fr_up' _ _ zI78.2.1.1, ← zI78.2.2.2.2]; unfold slF; rw [if_neg (by simp [slK, sKn, zc147])]⟩
                      · skip
                        have zk0 := zin i j (by omega) (by omega) (by omega) (by omega)
                        have zk1 := zin (i - 1) j (by omega) (by omega) (by omega) (by omega)
                        have zk2 := zin (i + 1) j (by omega) (by omega) (by omega) (by omega)
                        have zk3 := zin i (j - 1) (by omega) (by omega) (by omega) (by omega)
                        have zk4 := zin i (j + 1) (by omega) (by omega) (by omega) (by omega)
                        have zsk : slK w h T i j = true := by simp [slK, sKn, zk0, zk1, zk2, zk3, zk4, zc101, zc112, zc123, zc135, zc147]
                        refine y_aload (pc := 150) hF dX5_measureSlope_150 6 rfl ?_
                        refine y_iload (pc := 152) hF dX5_measureSlope_152 12 rfl ?_
                        refine y_iconst (pc := 154) hF dX5_measureSlope_154 ?_
                        refine y_iadd (pc := 155) hF dX5_measureSlope_155 ?_
                        refine y_iaload (pc := 156) hF dX5_measureSlope_156 (by have := hP.1; omega) (hP.2 g).2.1 (by omega) (by decide) ?_
                        rw [show υ (k + 1) (((j * w) + i) + 1) = T (i + 1) j from (by rw [show j * w + i + 1 = j * w + (i + 1) by omega]; exact zm2.1)]
                        refine y_aload (pc := 157) hF dX5_measureSlope_157 6 rfl ?_
                        refine y_iload (pc := 159) hF dX5_measureSlope_159 12 rfl ?_
                        refine y_iconst (pc := 161) hF dX5_measureSlope_161 ?_
                        refine y_isub (pc := 162) hF dX5_measureSlope_162 ?_
                        refine y_iaload (pc := 163) hF dX5_measureSlope_163 (by have := hP.1; omega) (hP.2 g).2.1 (by omega) (by decide) ?_
                        rw [show υ (k + 1) (((j * w) + i) - 1) = T (i - 1) j from (by rw [show j * w + i - 1 = j * w + (i - 1) by omega]; exact zm1.1)]
                        refine y_isub (pc := 164) hF dX5_measureSlope_164 ?_
                        refine y_istore (pc := 165) (lv' := [(0, yR g 120), (1, yR g k), (2, yI s), (3, yI x), (4, yI y), (5, yI p2), (6, yR g (k + 1)), (7, yI w), (8, yI (min (x + s) (w - 2))), (9, yI (min (y + s) (h - 2))), (10, yI j), (11, yI i), (12, yI ((j * w) + i)), (13, yI ((T (i + 1) j) - (T (i - 1) j)))]) hF dX5_measureSlope_165 (by decide) rfl rfl ?_
                        refine y_aload (pc := 167) hF dX5_measureSlope_167 6 rfl ?_
                        refine y_iload (pc := 169) hF dX5_measureSlope_169 12 rfl ?_
                        refine y_iload (pc := 171) hF dX5_measureSlope_171 7 rfl ?_
                        refine y_iadd (pc := 173) hF dX5_measureSlope_173 ?_
                        refine y_iaload (pc := 174) hF dX5_measureSlope_174 (by have := hP.1; omega) (hP.2 g).2.1 (by omega) (by decide) ?_
                        rw [show υ (k + 1) (((j * w) + i) + w) = T i (j + 1) from (by rw [zy2]; exact zm4.1)]
                        refine y_aload (pc := 175) hF dX5_measureSlope_175 6 rfl ?_
                        refine y_iload (pc := 177) hF dX5_measureSlope_177 12 rfl ?_
                        refine y_iload (pc := 179) hF dX5_measureSlope_179 7 rfl ?_
                        refine y_isub (pc := 181) hF dX5_measureSlope_181 ?_
                        refine y_iaload (pc := 182) hF dX5_measureSlope_182 (by have := hP.1; omega) (hP.2 g).2.1 (by omega) (by decide) ?_
                        rw [show υ (k + 1) (((j * w) + i) - w) = T i (j - 1) from (by rw [zy1]; exact zm3.1)]
                        refine y_isub (pc := 183) hF dX5_measureSlope_183 ?_
                        refine y_istore (pc := 184) (lv' := [(0, yR g 120), (1, yR g k), (2, yI s), (3, yI x), (4, yI y), (5, yI p2), (6, yR g (k + 1)), (7, yI w), (8, yI (min (x + s) (w - 2))), (9, yI (min (y + s) (h - 2))), (10, yI j), (11, yI i), (12, yI ((j * w) + i)), (13, yI ((T (i + 1) j) - (T (i - 1) j))), (14, yI ((T i (j + 1)) - (T i (j - 1))))]) hF dX5_measureSlope_184 (by decide) rfl rfl ?_
                        refine y_iload (pc := 186) hF dX5_measureSlope_186 13 rfl ?_
                        refine y_mabs (pc := 188) hF dX5_measureSlope_188 w_882 w_883 w_103 w_884 (Nat.le_of_ble_eq_true rfl) (Nat.le_of_ble_eq_true rfl) ⟨Nat.zero_le _, Nat.zero_le _⟩ (by omega) ?_
                        refine y_iload (pc := 191) hF dX5_measureSlope_191 14 rfl ?_
                        refine y_mabs (pc := 193) hF dX5_measureSlope_193 w_882 w_883 w_103 w_884 (Nat.le_of_ble_eq_true rfl) (Nat.le_of_ble_eq_true rfl) ⟨Nat.zero_le _, Nat.zero_le _⟩ (by omega) ?_
                        refine y_iadd (pc := 196) hF dX5_measureSlope_196 ?_
                        refine y_istore (pc := 197) (lv' := [(0, yR g 120), (1, yR g k), (2, yI s), (3, yI x), (4, yI y), (5, yI p2), (6, yR g (k + 1)), (7, yI w), (8, yI (min (x + s) (w - 2))), (9, yI (min (y + s) (h - 2))), (10, yI j), (11, yI i), (12, yI ((j * w) + i)), (13, yI ((T (i + 1) j) - (T (i - 1) j))), (14, yI ((T i (j + 1)) - (T i (j - 1)))), (15, yI ((Int.natAbs ((T (i + 1) j) - (T (i - 1) j)) : Int) + (Int.natAbs ((T i (j + 1)) - (T i (j - 1))) : Int)))]) hF dX5_measureSlope_197 (by decide) rfl rfl ?_
                        refine y_iload (pc := 199) hF dX5_measureSlope_199 15 rfl ?_
                        refine y_iload (pc := 201) hF dX5_measureSlope_201 5 rfl ?_
                        refine y_icmp_le (pc := 203) hF dX5_measureSlope_203 222 rfl (by omega) (by omega) (fun zc203 => ?_) (fun zc203 => ?_)
                        · skip
                          refine y_iinc (pc := 222) (lv' := [(0, yR g 120), (1, yR g k), (2, yI s), (3, yI x), (4, yI y), (5, yI p2), (6, yR g (k + 1)), (7, yI w), (8, yI (min (x + s) (w - 2))), (9, yI (min (y + s) (h - 2))), (10, yI j), (11, yI (i + 1)), (12, yI ((j * w) + i)), (13, yI ((T (i + 1) j) - (T (i - 1) j))), (14, yI ((T i (j + 1)) - (T i (j - 1)))), (15, yI ((Int.natAbs ((T (i + 1) j) - (T (i - 1) j)) : Int) + (Int.natAbs ((T i (j + 1)) - (T i (j - 1))) : Int)))]) hF dX5_measureSlope_222 11 rfl (by decide) rfl rfl ?_
                          refine y_goto (pc := 225) hF dX5_measureSlope_225 78 rfl ?_
                          refine y_sub [0, 1, 2, 3, 4, 5, 6, 7, 8, 9, 10, 11] rfl ?_
                          exact zh78 _ (by omega) υ (i + 1) (p2) rfl ⟨zI78.1, by omega, zI78.2.2.1, zI78.2.2.2.1, by rw [fr_up' _ _ zI78.2.1.1, ← zI78.2.2.2.2]; unfold slF; rw [if_pos zsk, if_pos (by simp only; omega)]⟩
                        · skip
                          refine y_iload (pc := 206) hF dX5_measureSlope_206 15 rfl ?_
                          refine y_istore (pc := 208) (lv' := [(0, yR g 120), (1, yR g k), (2, yI s), (3, yI x), (4, yI y), (5, yI ((Int.natAbs ((T (i + 1) j) - (T (i - 1) j)) : Int) + (Int.natAbs ((T i (j + 1)) - (T i (j - 1))) : Int))), (6, yR g (k + 1)), (7, yI w), (8, yI (min (x + s) (w - 2))), (9, yI (min (y + s) (h - 2))), (10, yI j), (11, yI i), (12, yI ((j * w) + i)), (13, yI ((T (i + 1) j) - (T (i - 1) j))), (14, yI ((T i (j + 1)) - (T i (j - 1)))), (15, yI ((Int.natAbs ((T (i + 1) j) - (T (i - 1) j)) : Int) + (Int.natAbs ((T i (j + 1)) - (T i (j - 1))) : Int)))]) hF dX5_measureSlope_208 (by decide) rfl rfl ?_
                          refine y_aload_n (pc := 210) hF dX5_measureSlope_210 0 rfl ?_
                          refine y_iload (pc := 211) hF dX5_measureSlope_211 13 rfl ?_
                          refine y_putf (pc := 213) (ci := 5) (σ' := yset υ 120 1 ((T (i + 1) j) - (T (i - 1) j))) (sch' := (SC g)) hF dX5_measureSlope_213 (by omega) rfl rfl rfl iX5 1 (by decide) w_316 tyX5 tyX5_ok nmX5 rfl rfl rfl rfl (Nat.le_of_ble_eq_true rfl) rfl (y_ps rfl) (fun k' h => ⟨yset_n h, rfl⟩) ?_
                          refine y_aload_n (pc := 216) hF dX5_measureSlope_216 0 rfl ?_
                          refine y_iload (pc := 217) hF dX5_measureSlope_217 14 rfl ?_
                          refine y_putf (pc := 219) (ci := 5) (σ' := yset (yset υ 120 1 ((T (i + 1) j) - (T (i - 1) j))) 120 2 ((T i (j + 1)) - (T i (j - 1)))) (sch' := (SC g)) hF dX5_measureSlope_219 (by omega) rfl rfl rfl iX5 2 (by decide) w_318 tyX5 tyX5_ok nmX5 rfl rfl rfl rfl (Nat.le_of_ble_eq_true rfl) rfl (y_ps rfl) (fun k' h => ⟨yset_n h, rfl⟩) ?_
                          refine y_iinc (pc := 222) (lv' := [(0, yR g 120), (1, yR g k), (2, yI s), (3, yI x), (4, yI y), (5, yI ((Int.natAbs ((T (i + 1) j) - (T (i - 1) j)) : Int) + (Int.natAbs ((T i (j + 1)) - (T i (j - 1))) : Int))), (6, yR g (k + 1)), (7, yI w), (8, yI (min (x + s) (w - 2))), (9, yI (min (y + s) (h - 2))), (10, yI j), (11, yI (i + 1)), (12, yI ((j * w) + i)), (13, yI ((T (i + 1) j) - (T (i - 1) j))), (14, yI ((T i (j + 1)) - (T i (j - 1)))), (15, yI ((Int.natAbs ((T (i + 1) j) - (T (i - 1) j)) : Int) + (Int.natAbs ((T i (j + 1)) - (T i (j - 1))) : Int)))]) hF dX5_measureSlope_222 11 rfl (by decide) rfl rfl ?_
                          refine y_goto (pc := 225) hF dX5_measureSlope_225 78 rfl ?_
                          refine y_sub [0, 1, 2, 3, 4, 5, 6, 7, 8, 9, 10, 11] rfl ?_
                          exact zh78 _ (by omega) (yset (yset υ 120 1 ((T (i + 1) j) - (T (i - 1) j))) 120 2 ((T i (j + 1)) - (T i (j - 1)))) (i + 1) ((Int.natAbs ((T (i + 1) j) - (T (i - 1) j)) : Int) + (Int.natAbs ((T i (j + 1)) - (T i (j - 1))) : Int)) rfl ⟨(zI78.1.st (by omega)).st (by omega), by omega, by simp only [yset_ap]; simp; omega, by simp only [yset_ap]; simp, by rw [fr_up' _ _ zI78.2.1.1, ← zI78.2.2.2.2]; simp only [yset_ap]; unfold slF; rw [if_pos zsk, if_neg (by omega)]; simp; try (intro zh; exfalso; omega)⟩
        exact zL78 _ τ (max (x - s) 1) (p) rfl ⟨zI62.1, by omega, zI62.2.2.1, zI62.2.2.2.1, (fr_no _ _ _).symm⟩
  exact zL62 _ τ0 (max (y - s) 1) (0) rfl ⟨zf0, by omega, by rw [hτ0]; simp [yset_ap], by rw [hτ0]; simp [yset_ap], by rw [hτ0, fr_no]; simp [yset_ap]⟩
