theorem sMi_in {w h : Int} {T : Int → Int → Int} {x y : Int} (H : sMi w h T x y = true) : sIn w h x y = true := by
  simp only [sMi, Bool.and_eq_true] at H
  exact H.1
theorem pl_ne {w h : Int} {T : Int → Int → Int} {u v i j : Int} (hw : w ≤ 20) (hk : sKn w h T u v = true) (hm : sMi w h T i j = true) : 20 * v + u ≠ 20 * j + i := fun e => by
  have h1 := sIn_iff.mp (sKn_in hk)
  have h2 := sIn_iff.mp (sMi_in hm)
  have z1 : u = i := by omega
  have z2 : v = j := by omega
  subst z1
  subst z2
  simp only [sKn, sMi, Bool.and_eq_true, decide_eq_true_eq] at hk hm
  exact hk.2 hm.2
theorem hkn_at {w h : Int} {T : Int → Int → Int} {s u v x y i j : Int} (H : sPl w h T s u v) (hi : inP s x y i j = true) (way : Int) : sKn w h T (u + wX way (i - x) (j - y)) (v + wY way (i - x) (j - y)) = true := H.at (inP_iff.mp hi).1 (inP_iff.mp hi).2
theorem dX11_fills_0 : decode cX11_fills 0 = .ok (.aload_n 0, 1) := by decide +kernel
theorem dX11_fills_1 : decode cX11_fills 1 = .ok (.iload_n 1, 1) := by decide +kernel
theorem dX11_fills_2 : decode cX11_fills 2 = .ok (.invokevirtual 203, 3) := by decide +kernel
theorem dX11_fills_5 : decode cX11_fills 5 = .ok (.ifCond .ne 5, 3) := by decide +kernel
theorem dX11_fills_8 : decode cX11_fills 8 = .ok (.iconst 0, 1) := by decide +kernel
theorem dX11_fills_9 : decode cX11_fills 9 = .ok (.ireturn, 1) := by decide +kernel
theorem dX11_fills_10 : decode cX11_fills 10 = .ok (.aload_n 0, 1) := by decide +kernel
theorem dX11_fills_11 : decode cX11_fills 11 = .ok (.getfield 112, 3) := by decide +kernel
theorem dX11_fills_14 : decode cX11_fills 14 = .ok (.istore_n 3, 1) := by decide +kernel
theorem dX11_fills_15 : decode cX11_fills 15 = .ok (.aload_n 0, 1) := by decide +kernel
theorem dX11_fills_16 : decode cX11_fills 16 = .ok (.getfield 115, 3) := by decide +kernel
theorem dX11_fills_19 : decode cX11_fills 19 = .ok (.istore 4, 2) := by decide +kernel
theorem dX11_fills_21 : decode cX11_fills 21 = .ok (.iload_n 2, 1) := by decide +kernel
theorem dX11_fills_22 : decode cX11_fills 22 = .ok (.ifCond .eq 14, 3) := by decide +kernel
theorem dX11_fills_25 : decode cX11_fills 25 = .ok (.aload_n 0, 1) := by decide +kernel
theorem dX11_fills_26 : decode cX11_fills 26 = .ok (.iload_n 1, 1) := by decide +kernel
theorem dX11_fills_27 : decode cX11_fills 27 = .ok (.iload_n 3, 1) := by decide +kernel
theorem dX11_fills_28 : decode cX11_fills 28 = .ok (.iload 4, 2) := by decide +kernel
theorem dX11_fills_30 : decode cX11_fills 30 = .ok (.invokevirtual 207, 3) := by decide +kernel
theorem dX11_fills_33 : decode cX11_fills 33 = .ok (.goto 17, 3) := by decide +kernel
theorem dX11_fills_36 : decode cX11_fills 36 = .ok (.aload_n 0, 1) := by decide +kernel
theorem dX11_fills_37 : decode cX11_fills 37 = .ok (.iload_n 1, 1) := by decide +kernel
theorem dX11_fills_38 : decode cX11_fills 38 = .ok (.iload_n 3, 1) := by decide +kernel
theorem dX11_fills_39 : decode cX11_fills 39 = .ok (.iload 4, 2) := by decide +kernel
theorem dX11_fills_41 : decode cX11_fills 41 = .ok (.aload_n 0, 1) := by decide +kernel
theorem dX11_fills_42 : decode cX11_fills 42 = .ok (.getfield 37, 3) := by decide +kernel
theorem dX11_fills_45 : decode cX11_fills 45 = .ok (.iconst 1, 1) := by decide +kernel
theorem dX11_fills_46 : decode cX11_fills 46 = .ok (.iaload, 1) := by decide +kernel
theorem dX11_fills_47 : decode cX11_fills 47 = .ok (.invokevirtual 199, 3) := by decide +kernel
theorem dX11_fills_50 : decode cX11_fills 50 = .ok (.aload_n 0, 1) := by decide +kernel
theorem dX11_fills_51 : decode cX11_fills 51 = .ok (.getfield 152, 3) := by decide +kernel
theorem dX11_fills_54 : decode cX11_fills 54 = .ok (.iconst (-1), 1) := by decide +kernel
theorem dX11_fills_55 : decode cX11_fills 55 = .ok (.if_icmp .ne 5, 3) := by decide +kernel
theorem dX11_fills_58 : decode cX11_fills 58 = .ok (.iconst 0, 1) := by decide +kernel
theorem dX11_fills_59 : decode cX11_fills 59 = .ok (.ireturn, 1) := by decide +kernel
theorem dX11_fills_60 : decode cX11_fills 60 = .ok (.aload_n 0, 1) := by decide +kernel
theorem dX11_fills_61 : decode cX11_fills 61 = .ok (.iload_n 1, 1) := by decide +kernel
theorem dX11_fills_62 : decode cX11_fills 62 = .ok (.iload_n 3, 1) := by decide +kernel
theorem dX11_fills_63 : decode cX11_fills 63 = .ok (.iload 4, 2) := by decide +kernel
theorem dX11_fills_65 : decode cX11_fills 65 = .ok (.invokevirtual 106, 3) := by decide +kernel
theorem dX11_fills_68 : decode cX11_fills 68 = .ok (.istore 5, 2) := by decide +kernel
theorem dX11_fills_70 : decode cX11_fills 70 = .ok (.iconst 0, 1) := by decide +kernel
theorem dX11_fills_71 : decode cX11_fills 71 = .ok (.istore 6, 2) := by decide +kernel
theorem dX11_fills_73 : decode cX11_fills 73 = .ok (.aload_n 0, 1) := by decide +kernel
theorem dX11_fills_74 : decode cX11_fills 74 = .ok (.getfield 19, 3) := by decide +kernel
theorem dX11_fills_77 : decode cX11_fills 77 = .ok (.iload_n 1, 1) := by decide +kernel
theorem dX11_fills_78 : decode cX11_fills 78 = .ok (.aaload, 1) := by decide +kernel
theorem dX11_fills_79 : decode cX11_fills 79 = .ok (.sipush 2000, 3) := by decide +kernel
theorem dX11_fills_82 : decode cX11_fills 82 = .ok (.dup2, 1) := by decide +kernel
theorem dX11_fills_83 : decode cX11_fills 83 = .ok (.iaload, 1) := by decide +kernel
theorem dX11_fills_84 : decode cX11_fills 84 = .ok (.iconst 1, 1) := by decide +kernel
theorem dX11_fills_85 : decode cX11_fills 85 = .ok (.iadd, 1) := by decide +kernel
theorem dX11_fills_86 : decode cX11_fills 86 = .ok (.iastore, 1) := by decide +kernel
theorem dX11_fills_87 : decode cX11_fills 87 = .ok (.iload 4, 2) := by decide +kernel
theorem dX11_fills_89 : decode cX11_fills 89 = .ok (.aload_n 0, 1) := by decide +kernel
theorem dX11_fills_90 : decode cX11_fills 90 = .ok (.getfield 37, 3) := by decide +kernel
theorem dX11_fills_93 : decode cX11_fills 93 = .ok (.iconst 0, 1) := by decide +kernel
theorem dX11_fills_94 : decode cX11_fills 94 = .ok (.iaload, 1) := by decide +kernel
theorem dX11_fills_95 : decode cX11_fills 95 = .ok (.isub, 1) := by decide +kernel
theorem dX11_fills_96 : decode cX11_fills 96 = .ok (.istore 7, 2) := by decide +kernel
theorem dX11_fills_98 : decode cX11_fills 98 = .ok (.iload 7, 2) := by decide +kernel
theorem dX11_fills_100 : decode cX11_fills 100 = .ok (.iload 4, 2) := by decide +kernel
theorem dX11_fills_102 : decode cX11_fills 102 = .ok (.aload_n 0, 1) := by decide +kernel
theorem dX11_fills_103 : decode cX11_fills 103 = .ok (.getfield 37, 3) := by decide +kernel
theorem dX11_fills_106 : decode cX11_fills 106 = .ok (.iconst 0, 1) := by decide +kernel
theorem dX11_fills_107 : decode cX11_fills 107 = .ok (.iaload, 1) := by decide +kernel
theorem dX11_fills_108 : decode cX11_fills 108 = .ok (.iadd, 1) := by decide +kernel
theorem dX11_fills_109 : decode cX11_fills 109 = .ok (.if_icmp .gt 112, 3) := by decide +kernel
theorem dX11_fills_112 : decode cX11_fills 112 = .ok (.iload_n 3, 1) := by decide +kernel
theorem dX11_fills_113 : decode cX11_fills 113 = .ok (.aload_n 0, 1) := by decide +kernel
theorem dX11_fills_114 : decode cX11_fills 114 = .ok (.getfield 37, 3) := by decide +kernel
theorem dX11_fills_117 : decode cX11_fills 117 = .ok (.iconst 0, 1) := by decide +kernel
theorem dX11_fills_118 : decode cX11_fills 118 = .ok (.iaload, 1) := by decide +kernel
theorem dX11_fills_119 : decode cX11_fills 119 = .ok (.isub, 1) := by decide +kernel
theorem dX11_fills_120 : decode cX11_fills 120 = .ok (.istore 8, 2) := by decide +kernel
theorem dX11_fills_122 : decode cX11_fills 122 = .ok (.iload 8, 2) := by decide +kernel
theorem dX11_fills_124 : decode cX11_fills 124 = .ok (.iload_n 3, 1) := by decide +kernel
theorem dX11_fills_125 : decode cX11_fills 125 = .ok (.aload_n 0, 1) := by decide +kernel
theorem dX11_fills_126 : decode cX11_fills 126 = .ok (.getfield 37, 3) := by decide +kernel
theorem dX11_fills_129 : decode cX11_fills 129 = .ok (.iconst 0, 1) := by decide +kernel
theorem dX11_fills_130 : decode cX11_fills 130 = .ok (.iaload, 1) := by decide +kernel
theorem dX11_fills_131 : decode cX11_fills 131 = .ok (.iadd, 1) := by decide +kernel
theorem dX11_fills_132 : decode cX11_fills 132 = .ok (.if_icmp .gt 83, 3) := by decide +kernel
theorem dX11_fills_135 : decode cX11_fills 135 = .ok (.aload_n 0, 1) := by decide +kernel
theorem dX11_fills_136 : decode cX11_fills 136 = .ok (.iload_n 1, 1) := by decide +kernel
theorem dX11_fills_137 : decode cX11_fills 137 = .ok (.iload 8, 2) := by decide +kernel
theorem dX11_fills_139 : decode cX11_fills 139 = .ok (.iload 7, 2) := by decide +kernel
theorem dX11_fills_141 : decode cX11_fills 141 = .ok (.invokevirtual 75, 3) := by decide +kernel
theorem dX11_fills_144 : decode cX11_fills 144 = .ok (.ifCond .ne 6, 3) := by decide +kernel
theorem dX11_fills_147 : decode cX11_fills 147 = .ok (.goto 62, 3) := by decide +kernel
theorem dX11_fills_150 : decode cX11_fills 150 = .ok (.aload_n 0, 1) := by decide +kernel
theorem dX11_fills_151 : decode cX11_fills 151 = .ok (.iload_n 1, 1) := by decide +kernel
theorem dX11_fills_152 : decode cX11_fills 152 = .ok (.iload 8, 2) := by decide +kernel
theorem dX11_fills_154 : decode cX11_fills 154 = .ok (.iload 7, 2) := by decide +kernel
theorem dX11_fills_156 : decode cX11_fills 156 = .ok (.invokestatic 56, 3) := by decide +kernel
theorem dX11_fills_159 : decode cX11_fills 159 = .ok (.aload_n 0, 1) := by decide +kernel
theorem dX11_fills_160 : decode cX11_fills 160 = .ok (.getfield 152, 3) := by decide +kernel
theorem dX11_fills_163 : decode cX11_fills 163 = .ok (.aload_n 0, 1) := by decide +kernel
theorem dX11_fills_164 : decode cX11_fills 164 = .ok (.getfield 158, 3) := by decide +kernel
theorem dX11_fills_167 : decode cX11_fills 167 = .ok (.iload 8, 2) := by decide +kernel
theorem dX11_fills_169 : decode cX11_fills 169 = .ok (.iload_n 3, 1) := by decide +kernel
theorem dX11_fills_170 : decode cX11_fills 170 = .ok (.isub, 1) := by decide +kernel
theorem dX11_fills_171 : decode cX11_fills 171 = .ok (.iload 7, 2) := by decide +kernel
theorem dX11_fills_173 : decode cX11_fills 173 = .ok (.iload 4, 2) := by decide +kernel
theorem dX11_fills_175 : decode cX11_fills 175 = .ok (.isub, 1) := by decide +kernel
theorem dX11_fills_176 : decode cX11_fills 176 = .ok (.invokestatic 130, 3) := by decide +kernel
theorem dX11_fills_179 : decode cX11_fills 179 = .ok (.iadd, 1) := by decide +kernel
theorem dX11_fills_180 : decode cX11_fills 180 = .ok (.aload_n 0, 1) := by decide +kernel
theorem dX11_fills_181 : decode cX11_fills 181 = .ok (.getfield 155, 3) := by decide +kernel
theorem dX11_fills_184 : decode cX11_fills 184 = .ok (.aload_n 0, 1) := by decide +kernel
theorem dX11_fills_185 : decode cX11_fills 185 = .ok (.getfield 158, 3) := by decide +kernel
theorem dX11_fills_188 : decode cX11_fills 188 = .ok (.iload 8, 2) := by decide +kernel
theorem dX11_fills_190 : decode cX11_fills 190 = .ok (.iload_n 3, 1) := by decide +kernel
theorem dX11_fills_191 : decode cX11_fills 191 = .ok (.isub, 1) := by decide +kernel
theorem dX11_fills_192 : decode cX11_fills 192 = .ok (.iload 7, 2) := by decide +kernel
theorem dX11_fills_194 : decode cX11_fills 194 = .ok (.iload 4, 2) := by decide +kernel
theorem dX11_fills_196 : decode cX11_fills 196 = .ok (.isub, 1) := by decide +kernel
theorem dX11_fills_197 : decode cX11_fills 197 = .ok (.invokestatic 133, 3) := by decide +kernel
theorem dX11_fills_200 : decode cX11_fills 200 = .ok (.iadd, 1) := by decide +kernel
theorem dX11_fills_201 : decode cX11_fills 201 = .ok (.iload 5, 2) := by decide +kernel
theorem dX11_fills_203 : decode cX11_fills 203 = .ok (.invokevirtual 210, 3) := by decide +kernel
theorem dX11_fills_206 : decode cX11_fills 206 = .ok (.iinc 6 1, 3) := by decide +kernel
theorem dX11_fills_209 : decode cX11_fills 209 = .ok (.iinc 8 1, 3) := by decide +kernel
theorem dX11_fills_212 : decode cX11_fills 212 = .ok (.goto (-90), 3) := by decide +kernel
theorem dX11_fills_215 : decode cX11_fills 215 = .ok (.iinc 7 1, 3) := by decide +kernel
theorem dX11_fills_218 : decode cX11_fills 218 = .ok (.goto (-120), 3) := by decide +kernel
theorem dX11_fills_221 : decode cX11_fills 221 = .ok (.aload_n 0, 1) := by decide +kernel
theorem dX11_fills_222 : decode cX11_fills 222 = .ok (.getfield 19, 3) := by decide +kernel
theorem dX11_fills_225 : decode cX11_fills 225 = .ok (.iload_n 1, 1) := by decide +kernel
theorem dX11_fills_226 : decode cX11_fills 226 = .ok (.aaload, 1) := by decide +kernel
theorem dX11_fills_227 : decode cX11_fills 227 = .ok (.sipush 2001, 3) := by decide +kernel
theorem dX11_fills_230 : decode cX11_fills 230 = .ok (.dup2, 1) := by decide +kernel
theorem dX11_fills_231 : decode cX11_fills 231 = .ok (.iaload, 1) := by decide +kernel
theorem dX11_fills_232 : decode cX11_fills 232 = .ok (.aload_n 0, 1) := by decide +kernel
theorem dX11_fills_233 : decode cX11_fills 233 = .ok (.getfield 164, 3) := by decide +kernel
theorem dX11_fills_236 : decode cX11_fills 236 = .ok (.iadd, 1) := by decide +kernel
theorem dX11_fills_237 : decode cX11_fills 237 = .ok (.iastore, 1) := by decide +kernel
theorem dX11_fills_238 : decode cX11_fills 238 = .ok (.aload_n 0, 1) := by decide +kernel
theorem dX11_fills_239 : decode cX11_fills 239 = .ok (.iload_n 1, 1) := by decide +kernel
theorem dX11_fills_240 : decode cX11_fills 240 = .ok (.iload_n 3, 1) := by decide +kernel
theorem dX11_fills_241 : decode cX11_fills 241 = .ok (.iload 4, 2) := by decide +kernel
theorem dX11_fills_243 : decode cX11_fills 243 = .ok (.iload 6, 2) := by decide +kernel
theorem dX11_fills_245 : decode cX11_fills 245 = .ok (.iload 5, 2) := by decide +kernel
theorem dX11_fills_247 : decode cX11_fills 247 = .ok (.invokevirtual 213, 3) := by decide +kernel
theorem dX11_fills_250 : decode cX11_fills 250 = .ok (.iconst 1, 1) := by decide +kernel
theorem dX11_fills_251 : decode cX11_fills 251 = .ok (.ireturn, 1) := by decide +kernel
set_option maxHeartbeats 4000000 in
set_option maxRecDepth 100000 in
theorem tX11_fills {l : Launch} {g : yG} {n : Nat} {σ : yM} (z : Nat) (w h : Int) (T S F P O : Int → Int → Int) (w2 h2 : Int) (T2 S2 F2 P2 O2 : Int → Int → Int) (s re fo ra tu we sh : Int) (nf df nl : Int) (lg : Int → Int → Int) (gd : Bool) (hn : 172 ≤ n) (hz : z < 3) (hA : rM σ z w h T S F P O) (hL : rL σ z nf df nl lg) (hnf : nf < 900000000) (hG : gd = true → z < 2 ∧ rM σ (z + 1) w2 h2 T2 S2 F2 P2 O2 ∧ w2 = (w + 1) / 2 ∧ h2 = (h + 1) / 2) (hS : rS σ 166 s re fo ra tu we sh) : yMet l g yX11_fills cX11_fills 9 (some .boolean) (rmA 8 1 9) [yR g 155, yI (z : Int), yI (bi gd)] (SC g) n σ (SC g) (yPi (fun v n' σ' => (fS w h s re fo ra tu we sh gd F2 P2 (T, S, F, P, O, nf, df, nl, lg) = none ∧ v = 0 ∧ n' = n ∧ fR 11 26 σ σ') ∨ (∃ X' : aX, fS w h s re fo ra tu we sh gd F2 P2 (T, S, F, P, O, nf, df, nl, lg) = some X' ∧ v = 1 ∧ n' = n + 1 ∧ rX σ' z w h X' ∧ fZ z σ σ'))) := by
  obtain ⟨hw1, hw2, hw3, hw4⟩ := id hA.1.1
  obtain ⟨hs1, hs2, hs3, hs4, hs5, hs6, hs7⟩ := id hS.2
  obtain ⟨hl1, hl2, hl3, hl4, hl5, hl6⟩ := id hL
  obtain ⟨x, hxe⟩ : ∃ v, v = (sNx w h T S s ra).1 := ⟨_, rfl⟩
  obtain ⟨y, hye⟩ : ∃ v, v = (sNx w h T S s ra).2.1 := ⟨_, rfl⟩
  refine y_start (by decide) (Nat.le_of_ble_eq_true rfl) (fun X0 hF => ?_)
  show yV X0 g 9 (yQ X0 g (SC g) (yPi (fun v n' σ' => (fS w h s re fo ra tu we sh gd F2 P2 (T, S, F, P, O, nf, df, nl, lg) = none ∧ v = 0 ∧ n' = n ∧ fR 11 26 σ σ') ∨ (∃ X' : aX, fS w h s re fo ra tu we sh gd F2 P2 (T, S, F, P, O, nf, df, nl, lg) = some X' ∧ v = 1 ∧ n' = n + 1 ∧ rX σ' z w h X' ∧ fZ z σ σ'))) (rmA 8 1 9)) (SC g) n σ 0 0 0 [(0, yR g 155), (1, yI (z : Int)), (2, yI (bi gd))] []
  refine y_aload_n (pc := 0) hF dX11_fills_0 0 rfl ?_
  refine y_iload_n (pc := 1) hF dX11_fills_1 1 rfl ?_
  refine y_ci (y_rV (pc := 2) hF (tX11_findsNext z w h T S F P O s re fo ra tu we sh hn hz hA hS) dX11_fills_2 (by omega) rfl rfl rfl w_1496 qX11_findsNext rfl ⟨Nat.le_of_ble_eq_true rfl, Nat.le_of_ble_eq_true rfl⟩ ⟨Nat.le_of_ble_eq_true rfl, Nat.le_of_ble_eq_true rfl⟩ (Nat.le_of_ble_eq_true rfl) rfl) rfl rfl (fun r2 n' σ2 zp2 => ?_)
  obtain ⟨zn2, zv2, zp2⟩ := zp2
  have zn2 := zn2.symm
  subst zn2
  subst zv2
  have zA_σ2 := hA.fR hz zp2.1
  have zS_σ2 := hS.fR (by omega) zp2.1
  refine y_if_ne (pc := 5) hF dX11_fills_5 10 rfl bi_r (fun zc5 => ?_) (fun zc5 => ?_)
  · replace zc5 := bi_n0.mp zc5
    have zx : x ≠ -1 := by rw [hxe]; simpa using zc5
    have zfr : sFr w h T x y = true := by rw [hxe, hye]; exact sNx_fr (by rw [← hxe]; exact zx)
    have zin := sFr_in zfr
    have zi := sIn_iff.mp zin
    refine y_aload_n (pc := 10) hF dX11_fills_10 0 rfl ?_
    refine y_get (pc := 11) (ci := 11) hF dX11_fills_11 (by omega) rfl rfl rfl iX11 13 (by decide) w_1260 rfl ?_
    rw [show σ2 155 13 = x from (by rw [hxe]; exact congrArg Prod.fst zp2.2)]
    refine y_istore_n (pc := 14) (lv' := [(0, yR g 155), (1, yI (z : Int)), (2, yI (bi gd)), (3, yI x)]) hF dX11_fills_14 (by decide) rfl rfl ?_
    refine y_aload_n (pc := 15) hF dX11_fills_15 0 rfl ?_
    refine y_get (pc := 16) (ci := 11) hF dX11_fills_16 (by omega) rfl rfl rfl iX11 14 (by decide) w_1261 rfl ?_
    rw [show σ2 155 14 = y from (by rw [hye]; exact congrArg (fun q => q.2.1) zp2.2)]
    refine y_istore (pc := 19) (lv' := [(0, yR g 155), (1, yI (z : Int)), (2, yI (bi gd)), (3, yI x), (4, yI y)]) hF dX11_fills_19 (by decide) rfl rfl ?_
    have zJ50 : ∀ (τ5 : yM), (fR 11 26 σ τ5 ∧ (τ5 155 19, τ5 155 20, τ5 155 21, τ5 155 22, τ5 155 23, τ5 155 24, τ5 155 25, τ5 155 26, τ5 155 18) = sQ w h T S F s re fo tu we sh gd F2 P2 x y ∧ qOk w h T s (τ5 155 19, τ5 155 20, τ5 155 21, τ5 155 22, τ5 155 23, τ5 155 24, τ5 155 25, τ5 155 26, τ5 155 18)) → yV X0 g 9 (yQ X0 g (SC g) (yPi (fun v n' σ' => (fS w h s re fo ra tu we sh gd F2 P2 (T, S, F, P, O, nf, df, nl, lg) = none ∧ v = 0 ∧ n' = n ∧ fR 11 26 σ σ') ∨ (∃ X' : aX, fS w h s re fo ra tu we sh gd F2 P2 (T, S, F, P, O, nf, df, nl, lg) = some X' ∧ v = 1 ∧ n' = n + 1 ∧ rX σ' z w h X' ∧ fZ z σ σ'))) (rmA 8 1 9)) (SC g) n τ5 0 0 50 [(0, yR g 155), (1, yI (z : Int)), (2, yI (bi gd)), (3, yI x), (4, yI y)] [] := by
      intro τ5  zj
      have zA_τ5 := hA.fR hz zj.1
      have zS_τ5 := hS.fR (by omega) zj.1
      have zj19 : τ5 155 19 = (sQ w h T S F s re fo tu we sh gd F2 P2 x y).1 := congrArg Prod.fst zj.2.1
      have zr19 : -1 ≤ τ5 155 19 ∧ τ5 155 19 ≤ 20 := by obtain ⟨zk1, zk2⟩ := zj.2.2; rcases zk1 with zk | zk; (omega); (have := sIn_iff.mp zk.1; omega)
      refine y_aload_n (pc := 50) hF dX11_fills_50 0 rfl ?_
      refine y_get (pc := 51) (ci := 11) hF dX11_fills_51 (by omega) rfl rfl rfl iX11 19 (by decide) w_1266 rfl ?_
      refine y_iconst (pc := 54) hF dX11_fills_54 ?_
      refine y_icmp_ne (pc := 55) hF dX11_fills_55 60 rfl (by omega) (by omega) (fun zc55 => ?_) (fun zc55 => ?_)
      · skip
        have zk := zj.2.2.1.resolve_left (fun zq => zc55 zq.1)
        obtain ⟨zk1, zpl, zk3, zk4, zk5, zk6⟩ := zk
        obtain ⟨st, hst⟩ : ∃ v, v = sSd w h S s x y := ⟨_, rfl⟩
        have zst : 0 ≤ st ∧ st ≤ 1000 := by rw [hst]; exact sSd_bd ⟨by omega, hs1.2⟩ zin hA.1.S
        have zm20 : τ5 (158 + z) 2000 = nf := (zj.1 _ _ (Or.inl (by omega))).trans hl1
        have zm21 : τ5 (158 + z) 2001 = df := (zj.1 _ _ (Or.inl (by omega))).trans hl2
        have zbk := sIn_iff.mp zk1
        refine y_aload_n (pc := 60) hF dX11_fills_60 0 rfl ?_
        refine y_iload_n (pc := 61) hF dX11_fills_61 1 rfl ?_
        refine y_iload_n (pc := 62) hF dX11_fills_62 3 rfl ?_
        refine y_iload (pc := 63) hF dX11_fills_63 4 rfl ?_
        refine y_cp (y_rV (pc := 65) hF (tX11_steady z w h T S F P O s re fo ra tu we sh hn hz zA_τ5 zS_τ5 x y zin) dX11_fills_65 (by omega) rfl rfl rfl w_1512 qX11_steady rfl ⟨Nat.le_of_ble_eq_true rfl, Nat.le_of_ble_eq_true rfl⟩ ⟨Nat.le_of_ble_eq_true rfl, Nat.le_of_ble_eq_true rfl⟩ (Nat.le_of_ble_eq_true rfl) rfl) ?_
        rw [← hst]
        skip
        refine y_istore (pc := 68) (lv' := [(0, yR g 155), (1, yI (z : Int)), (2, yI (bi gd)), (3, yI x), (4, yI y), (5, yI st)]) hF dX11_fills_68 (by decide) rfl rfl ?_
        refine y_iconst (pc := 70) hF dX11_fills_70 ?_
        refine y_istore (pc := 71) (lv' := [(0, yR g 155), (1, yI (z : Int)), (2, yI (bi gd)), (3, yI x), (4, yI y), (5, yI st), (6, yI 0)]) hF dX11_fills_71 (by decide) rfl rfl ?_
        refine y_aload_n (pc := 73) hF dX11_fills_73 0 rfl ?_
        refine y_get (pc := 74) (ci := 11) hF dX11_fills_74 (by omega) rfl rfl rfl iX11 2 (by decide) w_1249 rfl ?_
        refine y_iload_n (pc := 77) hF dX11_fills_77 1 rfl ?_
        refine y_aaM (pc := 78) (z := z) hF dX11_fills_78 hn rfl hz ?_
        refine y_sipush (pc := 79) hF dX11_fills_79 (by decide) ?_
        refine y_dup2 (pc := 82) hF dX11_fills_82 rfl rfl ?_
        refine y_iaload (pc := 83) hF dX11_fills_83 (by omega) (sc_lay hz g) (by omega) (by decide) ?_
        rw [show τ5 (158 + z) 2000 = nf from zm20]
        refine y_iconst (pc := 84) hF dX11_fills_84 ?_
        refine y_iadd (pc := 85) hF dX11_fills_85 ?_
        refine y_iastore (pc := 86) hF dX11_fills_86 (by omega) (sc_lay hz g) (by omega) (by decide) ?_
        obtain ⟨τ6, hτ6⟩ : ∃ s, s = yset τ5 (158 + z) 2000 (nf + 1) := ⟨_, rfl⟩
        rw [← hτ6]
        have zS_τ6 : rS τ6 166 s re fo ra tu we sh := zS_τ5.fr (by rw [hτ6, yset_n (by omega)])
        have zt6 : ∀ q : Int, τ6 155 q = τ5 155 q := fun q => by rw [hτ6, yset_n (by omega)]
        refine y_iload (pc := 87) hF dX11_fills_87 4 rfl ?_
        refine y_aload_n (pc := 89) hF dX11_fills_89 0 rfl ?_
        refine y_get (pc := 90) (ci := 11) hF dX11_fills_90 (by omega) rfl rfl rfl iX11 10 (by decide) w_1257 rfl ?_
        refine y_iconst (pc := 93) hF dX11_fills_93 ?_
        refine y_iaload (pc := 94) hF dX11_fills_94 (by omega) rfl (by omega) (by decide) ?_
        rw [show τ6 166 0 = s from zS_τ6.1.1]
        refine y_isub (pc := 95) hF dX11_fills_95 ?_
        refine y_istore (pc := 96) (lv' := [(0, yR g 155), (1, yI (z : Int)), (2, yI (bi gd)), (3, yI x), (4, yI y), (5, yI st), (6, yI 0), (7, yI (y - s))]) hF dX11_fills_96 (by decide) rfl rfl ?_
        have zL98 : ∀ (N : Nat) (τ : yM) (j c : Int), N = (y + s + 1 - j).toNat → ((∀ (c : Nat) (j : Int), c < 172 → (c ≠ 158 + z ∨ 2000 ≤ j) → τ c j = τ6 c j) ∧ (y - s ≤ j ∧ j ≤ y + s + 1) ∧ rM τ z w h (fT w h T (dD s x y (x - s) j) (τ5 155 19) (τ5 155 20) (τ5 155 21) (τ5 155 22) x y) (fC w h T (dD s x y (x - s) j) S st) (fC w h T (dD s x y (x - s) j) F (nf + 1)) (fP w h T (dD s x y (x - s) j) P (τ5 155 19) (τ5 155 20) (τ5 155 21) x y) (fO w h T F O (dD s x y (x - s) j) (τ5 155 19) (τ5 155 20) (τ5 155 21) x y) ∧ c = fr (fun c j => fr (fun c i => c + bi (sMi w h T i j)) (x - s) (2 * s + 1).toNat c) (y - s) (j - (y - s)).toNat 0) → yV X0 g 9 (yQ X0 g (SC g) (yPi (fun v n' σ' => (fS w h s re fo ra tu we sh gd F2 P2 (T, S, F, P, O, nf, df, nl, lg) = none ∧ v = 0 ∧ n' = n ∧ fR 11 26 σ σ') ∨ (∃ X' : aX, fS w h s re fo ra tu we sh gd F2 P2 (T, S, F, P, O, nf, df, nl, lg) = some X' ∧ v = 1 ∧ n' = n + 1 ∧ rX σ' z w h X' ∧ fZ z σ σ'))) (rmA 8 1 9)) (SC g) n τ 0 0 98 [(0, yR g 155), (1, yI (z : Int)), (2, yI (bi gd)), (3, yI x), (4, yI y), (5, yI st), (6, yI c), (7, yI j)] [] := by
          intro N
          induction N using Nat.strongRecOn with
          | ind N zh98 =>
            intro τ  j c  zN98 zI98
            have zS_τ : rS τ 166 s re fo ra tu we sh := zS_τ6.fr (funext fun q => zI98.1 166 q (by omega) (by omega))
            refine y_iload (pc := 98) hF dX11_fills_98 7 rfl ?_
            refine y_iload (pc := 100) hF dX11_fills_100 4 rfl ?_
            refine y_aload_n (pc := 102) hF dX11_fills_102 0 rfl ?_
            refine y_get (pc := 103) (ci := 11) hF dX11_fills_103 (by omega) rfl rfl rfl iX11 10 (by decide) w_1257 rfl ?_
            refine y_iconst (pc := 106) hF dX11_fills_106 ?_
            refine y_iaload (pc := 107) hF dX11_fills_107 (by omega) rfl (by omega) (by decide) ?_
            rw [show τ 166 0 = s from zS_τ.1.1]
            refine y_iadd (pc := 108) hF dX11_fills_108 ?_
            refine y_icmp_gt (pc := 109) hF dX11_fills_109 221 rfl (by omega) (by omega) (fun zc109 => ?_) (fun zc109 => ?_)
            · skip
              have zcn : c = fN w h T s x y := by rw [zI98.2.2.2, show j - (y - s) = 2 * s + 1 by omega]; rfl
              have zv : rM τ z w h (fT w h T (inP s x y) (τ5 155 19) (τ5 155 20) (τ5 155 21) (τ5 155 22) x y) (fC w h T (inP s x y) S st) (fC w h T (inP s x y) F (nf + 1)) (fP w h T (inP s x y) P (τ5 155 19) (τ5 155 20) (τ5 155 21) x y) (fO w h T F O (inP s x y) (τ5 155 19) (τ5 155 20) (τ5 155 21) x y) := by have := zI98.2.2.1; rw [dD_all (by omega)] at this; exact this
              refine y_aload_n (pc := 221) hF dX11_fills_221 0 rfl ?_
              refine y_get (pc := 222) (ci := 11) hF dX11_fills_222 (by omega) rfl rfl rfl iX11 2 (by decide) w_1249 rfl ?_
              refine y_iload_n (pc := 225) hF dX11_fills_225 1 rfl ?_
              refine y_aaM (pc := 226) (z := z) hF dX11_fills_226 hn rfl hz ?_
              refine y_sipush (pc := 227) hF dX11_fills_227 (by decide) ?_
              refine y_dup2 (pc := 230) hF dX11_fills_230 rfl rfl ?_
              refine y_iaload (pc := 231) hF dX11_fills_231 (by omega) (sc_lay hz g) (by omega) (by decide) ?_
              rw [show τ (158 + z) 2001 = df from (by rw [zI98.1 (158 + z) 2001 (by omega) (by omega), hτ6, yset_o (by omega)]; exact zm21)]
              refine y_aload_n (pc := 232) hF dX11_fills_232 0 rfl ?_
              refine y_get (pc := 233) (ci := 11) hF dX11_fills_233 (by omega) rfl rfl rfl iX11 23 (by decide) w_1270 rfl ?_
              rw [show τ 155 23 = τ5 155 23 from (by rw [zI98.1 155 23 (by omega) (by omega)]; exact zt6 23)]
              refine y_iadd (pc := 236) hF dX11_fills_236 ?_
              refine y_iastore (pc := 237) hF dX11_fills_237 (by omega) (sc_lay hz g) (by omega) (by decide) ?_
              obtain ⟨τ7, hτ7⟩ : ∃ s, s = yset τ (158 + z) 2001 (df + (τ5 155 23)) := ⟨_, rfl⟩
              rw [← hτ7]
              have zo7 : ∀ q : Int, τ7 155 q = τ5 155 q := fun q => by rw [hτ7, yset_n (by omega), zI98.1 155 q (by omega) (by omega)]; exact zt6 q
              have zL7 : rL τ7 z (nf + 1) (df + τ5 155 23) nl lg := by rw [hτ7]; exact ⟨by rw [yset_o (by omega), zI98.1 (158 + z) 2000 (by omega) (by omega), hτ6, yset_e], by rw [yset_e], by rw [yset_o (by omega), zI98.1 (158 + z) 2002 (by omega) (by omega), hτ6, yset_o (by omega)]; exact (zj.1 _ _ (Or.inl (by omega))).trans hl3, by omega, hl5, fun a b h1 h2 h3 h4 => by rw [yset_o (by omega), zI98.1 (158 + z) _ (by omega) (by omega), hτ6, yset_o (by omega)]; exact (zj.1 _ _ (Or.inl (by omega))).trans (hl6 a b h1 h2 h3 h4)⟩
              refine y_aload_n (pc := 238) hF dX11_fills_238 0 rfl ?_
              refine y_iload_n (pc := 239) hF dX11_fills_239 1 rfl ?_
              refine y_iload_n (pc := 240) hF dX11_fills_240 3 rfl ?_
              refine y_iload (pc := 241) hF dX11_fills_241 4 rfl ?_
              refine y_iload (pc := 243) hF dX11_fills_243 6 rfl ?_
              refine y_iload (pc := 245) hF dX11_fills_245 5 rfl ?_
              refine y_cv (y_rV (pc := 247) hF (tX11_logs z hn hz x y c st (nf + 1) (df + τ5 155 23) nl lg zL7) dX11_fills_247 (by omega) rfl rfl rfl w_1589 qX11_logs rfl ⟨Nat.le_of_ble_eq_true rfl, Nat.le_of_ble_eq_true rfl⟩ ⟨Nat.le_of_ble_eq_true rfl, Nat.le_of_ble_eq_true rfl⟩ (Nat.le_of_ble_eq_true rfl) rfl) rfl rfl (fun n' σ247 zp247 => ?_)
              obtain ⟨zn247, zp247⟩ := zp247
              have zn247 := zn247.symm
              subst zn247
              have h7c : ∀ c : Nat, c < 172 → c ≠ 158 + z → σ247 c = τ c := fun c h1 h2 => funext fun q => by rw [zp247.1 c q h1 (Or.inl h2), hτ7, yset_n h2]
              refine y_iconst (pc := 250) hF dX11_fills_250 ?_
              exact y_zret (pc := 251) hF dX11_fills_251 (by decide) (Nat.le_of_ble_eq_true rfl) (Nat.le_of_ble_eq_true rfl) ⟨_, rfl, Or.inr ⟨fX w h s x y (sSd w h S s x y) (sQ w h T S F s re fo tu we sh gd F2 P2 x y) (T, S, F, P, O, nf, df, nl, lg), by unfold fS; simp only; rw [← hxe, ← hye, if_neg zx, if_neg (by rw [← zj19]; exact zc55)], rfl, rfl, by rw [← zj.2.1, ← hst]; exact ⟨zv.fr (h7c 161 (by omega) (by omega)) (h7c 162 (by omega) (by omega)) (fun q h1 h2 => by rw [zp247.1 _ _ (by omega) (Or.inr (by omega)), hτ7, yset_o (by omega)]), by have := zp247.2; rw [zo7, zo7, zo7, zo7, zo7, zcn] at this; exact this⟩, fun a b h1 h2 h3 => by rw [zp247.1 a b h1 (Or.inl h2), hτ7, yset_n h2, zI98.1 a b h1 (Or.inl h2), hτ6, yset_n h2]; exact zj.1 a b (by omega)⟩⟩
            · skip
              refine y_iload_n (pc := 112) hF dX11_fills_112 3 rfl ?_
              refine y_aload_n (pc := 113) hF dX11_fills_113 0 rfl ?_
              refine y_get (pc := 114) (ci := 11) hF dX11_fills_114 (by omega) rfl rfl rfl iX11 10 (by decide) w_1257 rfl ?_
              refine y_iconst (pc := 117) hF dX11_fills_117 ?_
              refine y_iaload (pc := 118) hF dX11_fills_118 (by omega) rfl (by omega) (by decide) ?_
              rw [show τ 166 0 = s from zS_τ.1.1]
              refine y_isub (pc := 119) hF dX11_fills_119 ?_
              refine y_istore (pc := 120) (lv' := [(0, yR g 155), (1, yI (z : Int)), (2, yI (bi gd)), (3, yI x), (4, yI y), (5, yI st), (6, yI c), (7, yI j), (8, yI (x - s))]) hF dX11_fills_120 (by decide) rfl rfl ?_
              have zL122 : ∀ (N : Nat) (υ : yM) (i c2 : Int), N = (x + s + 1 - i).toNat → ((∀ (c : Nat) (j : Int), c < 172 → (c ≠ 158 + z ∨ 2000 ≤ j) → υ c j = τ6 c j) ∧ (x - s ≤ i ∧ i ≤ x + s + 1) ∧ rM υ z w h (fT w h T (dD s x y i j) (τ5 155 19) (τ5 155 20) (τ5 155 21) (τ5 155 22) x y) (fC w h T (dD s x y i j) S st) (fC w h T (dD s x y i j) F (nf + 1)) (fP w h T (dD s x y i j) P (τ5 155 19) (τ5 155 20) (τ5 155 21) x y) (fO w h T F O (dD s x y i j) (τ5 155 19) (τ5 155 20) (τ5 155 21) x y) ∧ c2 = fr (fun c i => c + bi (sMi w h T i j)) (x - s) (i - (x - s)).toNat c) → yV X0 g 9 (yQ X0 g (SC g) (yPi (fun v n' σ' => (fS w h s re fo ra tu we sh gd F2 P2 (T, S, F, P, O, nf, df, nl, lg) = none ∧ v = 0 ∧ n' = n ∧ fR 11 26 σ σ') ∨ (∃ X' : aX, fS w h s re fo ra tu we sh gd F2 P2 (T, S, F, P, O, nf, df, nl, lg) = some X' ∧ v = 1 ∧ n' = n + 1 ∧ rX σ' z w h X' ∧ fZ z σ σ'))) (rmA 8 1 9)) (SC g) n υ 0 0 122 [(0, yR g 155), (1, yI (z : Int)), (2, yI (bi gd)), (3, yI x), (4, yI y), (5, yI st), (6, yI c2), (7, yI j), (8, yI i)] [] := by
                intro N
                induction N using Nat.strongRecOn with
                | ind N zh122 =>
                  intro υ  i c2  zN122 zI122
                  have zS_υ : rS υ 166 s re fo ra tu we sh := zS_τ6.fr (funext fun q => zI122.1 166 q (by omega) (by omega))
                  refine y_iload (pc := 122) hF dX11_fills_122 8 rfl ?_
                  refine y_iload_n (pc := 124) hF dX11_fills_124 3 rfl ?_
                  refine y_aload_n (pc := 125) hF dX11_fills_125 0 rfl ?_
                  refine y_get (pc := 126) (ci := 11) hF dX11_fills_126 (by omega) rfl rfl rfl iX11 10 (by decide) w_1257 rfl ?_
                  refine y_iconst (pc := 129) hF dX11_fills_129 ?_
                  refine y_iaload (pc := 130) hF dX11_fills_130 (by omega) rfl (by omega) (by decide) ?_
                  rw [show υ 166 0 = s from zS_υ.1.1]
                  refine y_iadd (pc := 131) hF dX11_fills_131 ?_
                  refine y_icmp_gt (pc := 132) hF dX11_fills_132 215 rfl (by omega) (by omega) (fun zc132 => ?_) (fun zc132 => ?_)
                  · skip
                    refine y_iinc (pc := 215) (lv' := [(0, yR g 155), (1, yI (z : Int)), (2, yI (bi gd)), (3, yI x), (4, yI y), (5, yI st), (6, yI c2), (7, yI (j + 1)), (8, yI i)]) hF dX11_fills_215 7 rfl (by decide) rfl rfl ?_
                    refine y_goto (pc := 218) hF dX11_fills_218 98 rfl ?_
                    refine y_sub [0, 1, 2, 3, 4, 5, 6, 7] rfl ?_
                    exact zh98 _ (by omega) υ (j + 1) (c2) rfl ⟨zI122.1, by omega, by rw [← dD_row (i := i) (by omega)]; exact zI122.2.2.1, by rw [fr_up' _ _ zI98.2.1.1, ← zI98.2.2.2, zI122.2.2.2, show i - (x - s) = 2 * s + 1 by omega]⟩
                  · skip
                    refine y_aload_n (pc := 135) hF dX11_fills_135 0 rfl ?_
                    refine y_iload_n (pc := 136) hF dX11_fills_136 1 rfl ?_
                    refine y_iload (pc := 137) hF dX11_fills_137 8 rfl ?_
                    refine y_iload (pc := 139) hF dX11_fills_139 7 rfl ?_
                    refine y_cp (y_rV (pc := 141) hF (tX11_isMissing z w h (fT w h T (dD s x y i j) (τ5 155 19) (τ5 155 20) (τ5 155 21) (τ5 155 22) x y) (fC w h T (dD s x y i j) S st) (fC w h T (dD s x y i j) F (nf + 1)) (fP w h T (dD s x y i j) P (τ5 155 19) (τ5 155 20) (τ5 155 21) x y) (fO w h T F O (dD s x y i j) (τ5 155 19) (τ5 155 20) (τ5 155 21) x y) hn hz zI122.2.2.1 i j (by omega) (by omega)) dX11_fills_141 (by omega) rfl rfl rfl w_1504 qX11_isMissing rfl ⟨Nat.le_of_ble_eq_true rfl, Nat.le_of_ble_eq_true rfl⟩ ⟨Nat.le_of_ble_eq_true rfl, Nat.le_of_ble_eq_true rfl⟩ (Nat.le_of_ble_eq_true rfl) rfl) ?_
                    refine y_if_ne (pc := 144) hF dX11_fills_144 150 rfl bi_r (fun zc144 => ?_) (fun zc144 => ?_)
                    · replace zc144 := bi_n0.mp zc144
                      have zo : ∀ q : Int, υ 155 q = τ5 155 q := fun q => (zI122.1 155 q (by omega) (by omega)).trans (zt6 q)
                      have zinp : inP s x y i j = true := inP_iff.mpr (by omega)
                      have zkn := hkn_at zpl zinp (τ5 155 21)
                      have zmT : sMi w h T i j = true := by rw [← fT_mi (D := dD s x y i j) dD_self]; exact zc144
                      have zij := sIn_iff.mp (sMi_in zmT)
                      have zpi := sIn_iff.mp (sKn_in zkn)
                      have zpc := cOk_pl hw2 (sKn_in zkn)
                      have zne := pl_ne hw2 zkn zmT
                      have zhm := zI122.2.2.1.2.2.2 _ _ zpi.1 zpi.2.1 zpi.2.2.1 zpi.2.2.2
                      have zha := zI122.2.2.1.1.2 _ _ zpi.1 zpi.2.1 zpi.2.2.1 zpi.2.2.2
                      have zu22 : υ 155 22 = τ5 155 22 := zo 22
                      have zu20 : υ (158 + z) 2000 = nf + 1 := by rw [zI122.1 (158 + z) 2000 (by omega) (by omega), hτ6, yset_e]
                      refine y_aload_n (pc := 150) hF dX11_fills_150 0 rfl ?_
                      refine y_iload_n (pc := 151) hF dX11_fills_151 1 rfl ?_
                      refine y_iload (pc := 152) hF dX11_fills_152 8 rfl ?_
                      refine y_iload (pc := 154) hF dX11_fills_154 7 rfl ?_
                      refine y_cp (y_rS (pc := 156) (As := [yI i, yI j]) (kk := 0) hF (tX11_at i j) dX11_fills_156 w_1236 qX11_at rfl ⟨Nat.le_of_ble_eq_true rfl, Nat.le_of_ble_eq_true rfl⟩ ⟨Nat.le_of_ble_eq_true rfl, Nat.le_of_ble_eq_true rfl⟩ (Nat.le_of_ble_eq_true rfl) rfl) ?_
                      refine y_aload_n (pc := 159) hF dX11_fills_159 0 rfl ?_
                      refine y_get (pc := 160) (ci := 11) hF dX11_fills_160 (by omega) rfl rfl rfl iX11 19 (by decide) w_1266 rfl ?_
                      rw [show υ 155 19 = τ5 155 19 from (zo 19)]
                      refine y_aload_n (pc := 163) hF dX11_fills_163 0 rfl ?_
                      refine y_get (pc := 164) (ci := 11) hF dX11_fills_164 (by omega) rfl rfl rfl iX11 21 (by decide) w_1268 rfl ?_
                      rw [show υ 155 21 = τ5 155 21 from (zo 21)]
                      refine y_iload (pc := 167) hF dX11_fills_167 8 rfl ?_
                      refine y_iload_n (pc := 169) hF dX11_fills_169 3 rfl ?_
                      refine y_isub (pc := 170) hF dX11_fills_170 ?_
                      refine y_iload (pc := 171) hF dX11_fills_171 7 rfl ?_
                      refine y_iload (pc := 173) hF dX11_fills_173 4 rfl ?_
                      refine y_isub (pc := 175) hF dX11_fills_175 ?_
                      refine y_cp (y_rS (pc := 176) (As := [yI (τ5 155 21), yI (i - x), yI (j - y)]) (kk := 0) hF (tX11_wayX (τ5 155 21) (i - x) (j - y) (by omega)) dX11_fills_176 w_1561 qX11_wayX rfl ⟨Nat.le_of_ble_eq_true rfl, Nat.le_of_ble_eq_true rfl⟩ ⟨Nat.le_of_ble_eq_true rfl, Nat.le_of_ble_eq_true rfl⟩ (Nat.le_of_ble_eq_true rfl) rfl) ?_
                      refine y_iadd (pc := 179) hF dX11_fills_179 ?_
                      refine y_aload_n (pc := 180) hF dX11_fills_180 0 rfl ?_
                      refine y_get (pc := 181) (ci := 11) hF dX11_fills_181 (by omega) rfl rfl rfl iX11 20 (by decide) w_1267 rfl ?_
                      rw [show υ 155 20 = τ5 155 20 from (zo 20)]
                      refine y_aload_n (pc := 184) hF dX11_fills_184 0 rfl ?_
                      refine y_get (pc := 185) (ci := 11) hF dX11_fills_185 (by omega) rfl rfl rfl iX11 21 (by decide) w_1268 rfl ?_
                      rw [show υ 155 21 = τ5 155 21 from (zo 21)]
                      refine y_iload (pc := 188) hF dX11_fills_188 8 rfl ?_
                      refine y_iload_n (pc := 190) hF dX11_fills_190 3 rfl ?_
                      refine y_isub (pc := 191) hF dX11_fills_191 ?_
                      refine y_iload (pc := 192) hF dX11_fills_192 7 rfl ?_
                      refine y_iload (pc := 194) hF dX11_fills_194 4 rfl ?_
                      refine y_isub (pc := 196) hF dX11_fills_196 ?_
                      refine y_cp (y_rS (pc := 197) (As := [yI (τ5 155 21), yI (i - x), yI (j - y)]) (kk := 0) hF (tX11_wayY (τ5 155 21) (i - x) (j - y) (by omega)) dX11_fills_197 w_1564 qX11_wayY rfl ⟨Nat.le_of_ble_eq_true rfl, Nat.le_of_ble_eq_true rfl⟩ ⟨Nat.le_of_ble_eq_true rfl, Nat.le_of_ble_eq_true rfl⟩ (Nat.le_of_ble_eq_true rfl) rfl) ?_
                      refine y_iadd (pc := 200) hF dX11_fills_200 ?_
                      refine y_iload (pc := 201) hF dX11_fills_201 5 rfl ?_
                      refine y_cv (y_rV (pc := 203) hF (tX11_fillsOne z hn hz (20 * j + i) ((τ5 155 19) + (wX (τ5 155 21) (i - x) (j - y))) ((τ5 155 20) + (wY (τ5 155 21) (i - x) (j - y))) st (by omega) (by omega) zne (by rw [zhm.1]; omega) (by omega) (by rw [zhm.2.2.1]; omega)) dX11_fills_203 (by omega) rfl rfl rfl w_1584 qX11_fillsOne rfl ⟨Nat.le_of_ble_eq_true rfl, Nat.le_of_ble_eq_true rfl⟩ ⟨Nat.le_of_ble_eq_true rfl, Nat.le_of_ble_eq_true rfl⟩ (Nat.le_of_ble_eq_true rfl) rfl) rfl rfl (fun n' σ' zp203 => ?_)
                      obtain ⟨zn203, rfl⟩ := zp203
                      have zn203 := zn203.symm
                      subst zn203
                      refine y_iinc (pc := 206) (lv' := [(0, yR g 155), (1, yI (z : Int)), (2, yI (bi gd)), (3, yI x), (4, yI y), (5, yI st), (6, yI (c2 + 1)), (7, yI j), (8, yI i)]) hF dX11_fills_206 6 rfl (by decide) rfl rfl ?_
                      refine y_iinc (pc := 209) (lv' := [(0, yR g 155), (1, yI (z : Int)), (2, yI (bi gd)), (3, yI x), (4, yI y), (5, yI st), (6, yI (c2 + 1)), (7, yI j), (8, yI (i + 1))]) hF dX11_fills_209 8 rfl (by decide) rfl rfl ?_
                      refine y_goto (pc := 212) hF dX11_fills_212 122 rfl ?_
                      exact zh122 _ (by omega) (mf1 υ z (20 * j + i) (20 * ((τ5 155 20) + (wY (τ5 155 21) (i - x) (j - y))) + ((τ5 155 19) + (wX (τ5 155 21) (i - x) (j - y)))) st) (i + 1) (c2 + 1) rfl ⟨fun c j hc hq => by unfold mf1; (repeat rw [yset_o (by omega)]); exact zI122.1 c j hc hq, by omega, by rw [dD_next zinp]; exact rM_fill1 zI122.2.2.1 hA.1 hz zpl zinp zmT dD_self (fun a b hq => by unfold dD at hq; rw [Bool.and_eq_true] at hq; exact hq.1) zu22 zu20 zst (by omega), by rw [fr_up' _ _ zI122.2.1.1, ← zI122.2.2.2, zmT]; rfl⟩
                    · replace zc144 := bi_0.mp zc144
                      refine y_goto (pc := 147) hF dX11_fills_147 209 rfl ?_
                      refine y_iinc (pc := 209) (lv' := [(0, yR g 155), (1, yI (z : Int)), (2, yI (bi gd)), (3, yI x), (4, yI y), (5, yI st), (6, yI c2), (7, yI j), (8, yI (i + 1))]) hF dX11_fills_209 8 rfl (by decide) rfl rfl ?_
                      refine y_goto (pc := 212) hF dX11_fills_212 122 rfl ?_
                      exact zh122 _ (by omega) υ (i + 1) (c2) rfl ⟨zI122.1, by omega, by rw [dD_next (inP_iff.mpr (by omega))]; exact rM_skip (by rw [← fT_mi (D := dD s x y i j) dD_self]; exact zc144) zI122.2.2.1, by rw [fr_up' _ _ zI122.2.1.1, ← zI122.2.2.2, ← fT_mi (D := dD s x y i j) dD_self, zc144]; simp [bi]⟩
              exact zL122 _ τ (x - s) (c) rfl ⟨zI98.1, by omega, zI98.2.2.1, (fr_no _ _ _).symm⟩
        exact zL98 _ τ6 (y - s) (0) rfl ⟨fun c j hc hq => rfl, by omega, by rw [dD_0 rfl, hτ6]; exact zA_τ5.fr (by rw [yset_n (by omega)]) (by rw [yset_n (by omega)]) (fun q h1 h2 => yset_o (by omega)), (fr_no _ _ _).symm⟩
      · skip
        refine y_iconst (pc := 58) hF dX11_fills_58 ?_
        exact y_zret (pc := 59) hF dX11_fills_59 (by decide) (Nat.le_of_ble_eq_true rfl) (Nat.le_of_ble_eq_true rfl) ⟨_, rfl, Or.inl ⟨by unfold fS; simp only; rw [← hxe, ← hye, if_neg zx, if_pos (by rw [← zj19]; exact zc55)], rfl, rfl, zj.1⟩⟩
    refine y_iload_n (pc := 21) hF dX11_fills_21 2 rfl ?_
    refine y_if_eq (pc := 22) hF dX11_fills_22 36 rfl bi_r (fun zc22 => ?_) (fun zc22 => ?_)
    · replace zc22 := bi_0.mp zc22
      refine y_aload_n (pc := 36) hF dX11_fills_36 0 rfl ?_
      refine y_iload_n (pc := 37) hF dX11_fills_37 1 rfl ?_
      refine y_iload_n (pc := 38) hF dX11_fills_38 3 rfl ?_
      refine y_iload (pc := 39) hF dX11_fills_39 4 rfl ?_
      refine y_aload_n (pc := 41) hF dX11_fills_41 0 rfl ?_
      refine y_get (pc := 42) (ci := 11) hF dX11_fills_42 (by omega) rfl rfl rfl iX11 10 (by decide) w_1257 rfl ?_
      refine y_iconst (pc := 45) hF dX11_fills_45 ?_
      refine y_iaload (pc := 46) hF dX11_fills_46 (by omega) rfl (by omega) (by decide) ?_
      rw [show σ2 166 1 = re from zS_σ2.1.2.1]
      refine y_cv (y_rV (pc := 47) hF (tX11_searches z w h T S F P O s re fo ra tu we sh hn hz zA_σ2 zS_σ2 x y zin re hs2) dX11_fills_47 (by omega) rfl rfl rfl w_1576 qX11_searches rfl ⟨Nat.le_of_ble_eq_true rfl, Nat.le_of_ble_eq_true rfl⟩ ⟨Nat.le_of_ble_eq_true rfl, Nat.le_of_ble_eq_true rfl⟩ (Nat.le_of_ble_eq_true rfl) rfl) rfl rfl (fun n' σ47 zp47 => ?_)
      obtain ⟨zn47, zp47⟩ := zp47
      have zn47 := zn47.symm
      subst zn47
      have zA_σ47 := zA_σ2.fR hz zp47.1
      have zS_σ47 := zS_σ2.fR (by omega) zp47.1
      exact zJ50 σ47 ⟨(zp2.1.wk (by omega) (by omega)).tr (zp47.1.wk (by omega) (by omega)), by unfold sQ; rw [zc22, if_neg (by decide)]; exact zp47.2.1, zp47.2.2⟩
    · replace zc22 := bi_n0.mp zc22
      have zg := hG zc22
      have zin2 : sIn w2 h2 (x / 2) (y / 2) = true := sIn_iff.mpr (by omega)
      refine y_aload_n (pc := 25) hF dX11_fills_25 0 rfl ?_
      refine y_iload_n (pc := 26) hF dX11_fills_26 1 rfl ?_
      refine y_iload_n (pc := 27) hF dX11_fills_27 3 rfl ?_
      refine y_iload (pc := 28) hF dX11_fills_28 4 rfl ?_
      refine y_cv (y_rV (pc := 30) hF (tX11_guided z w h T S F P O w2 h2 T2 S2 F2 P2 O2 s re fo ra tu we sh hn hz zg.1 zA_σ2 (zg.2.1.fR (by omega) zp2.1) zS_σ2 x y zin zin2) dX11_fills_30 (by omega) rfl rfl rfl w_1533 qX11_guided rfl ⟨Nat.le_of_ble_eq_true rfl, Nat.le_of_ble_eq_true rfl⟩ ⟨Nat.le_of_ble_eq_true rfl, Nat.le_of_ble_eq_true rfl⟩ (Nat.le_of_ble_eq_true rfl) rfl) rfl rfl (fun n' σ30 zp30 => ?_)
      obtain ⟨zn30, zp30⟩ := zp30
      have zn30 := zn30.symm
      subst zn30
      have zA_σ30 := zA_σ2.fR hz zp30.1
      have zS_σ30 := zS_σ2.fR (by omega) zp30.1
      refine y_goto (pc := 33) hF dX11_fills_33 50 rfl ?_
      exact zJ50 σ30 ⟨(zp2.1.wk (by omega) (by omega)).tr (zp30.1.wk (by omega) (by omega)), by unfold sQ; rw [zc22, if_pos rfl]; exact zp30.2.1, zp30.2.2⟩
  · replace zc5 := bi_0.mp zc5
    refine y_iconst (pc := 8) hF dX11_fills_8 ?_
    exact y_zret (pc := 9) hF dX11_fills_9 (by decide) (Nat.le_of_ble_eq_true rfl) (Nat.le_of_ble_eq_true rfl) ⟨_, rfl, Or.inl ⟨by unfold fS; simp only; rw [if_pos (by simpa using zc5)], rfl, rfl, zp2.1.wk (by omega) (by omega)⟩⟩
