theorem dX6_gatherKnown_0 : decode cX6_gatherKnown 0 = .ok (.aload_n 0, 1) := by decide +kernel
theorem dX6_gatherKnown_1 : decode cX6_gatherKnown 1 = .ok (.iconst 0, 1) := by decide +kernel
theorem dX6_gatherKnown_2 : decode cX6_gatherKnown 2 = .ok (.putfield 28, 3) := by decide +kernel
theorem dX6_gatherKnown_5 : decode cX6_gatherKnown 5 = .ok (.aload_n 0, 1) := by decide +kernel
theorem dX6_gatherKnown_6 : decode cX6_gatherKnown 6 = .ok (.iconst 0, 1) := by decide +kernel
theorem dX6_gatherKnown_7 : decode cX6_gatherKnown 7 = .ok (.putfield 31, 3) := by decide +kernel
theorem dX6_gatherKnown_10 : decode cX6_gatherKnown 10 = .ok (.aload_n 0, 1) := by decide +kernel
theorem dX6_gatherKnown_11 : decode cX6_gatherKnown 11 = .ok (.getfield 72, 3) := by decide +kernel
theorem dX6_gatherKnown_14 : decode cX6_gatherKnown 14 = .ok (.getfield 105, 3) := by decide +kernel
theorem dX6_gatherKnown_17 : decode cX6_gatherKnown 17 = .ok (.istore_n 1, 1) := by decide +kernel
theorem dX6_gatherKnown_18 : decode cX6_gatherKnown 18 = .ok (.aload_n 0, 1) := by decide +kernel
theorem dX6_gatherKnown_19 : decode cX6_gatherKnown 19 = .ok (.getfield 72, 3) := by decide +kernel
theorem dX6_gatherKnown_22 : decode cX6_gatherKnown 22 = .ok (.getfield 108, 3) := by decide +kernel
theorem dX6_gatherKnown_25 : decode cX6_gatherKnown 25 = .ok (.iconst 1, 1) := by decide +kernel
theorem dX6_gatherKnown_26 : decode cX6_gatherKnown 26 = .ok (.if_icmp .ne 7, 3) := by decide +kernel
theorem dX6_gatherKnown_29 : decode cX6_gatherKnown 29 = .ok (.iconst 1, 1) := by decide +kernel
theorem dX6_gatherKnown_30 : decode cX6_gatherKnown 30 = .ok (.goto 4, 3) := by decide +kernel
theorem dX6_gatherKnown_33 : decode cX6_gatherKnown 33 = .ok (.iconst 0, 1) := by decide +kernel
theorem dX6_gatherKnown_34 : decode cX6_gatherKnown 34 = .ok (.istore_n 2, 1) := by decide +kernel
theorem dX6_gatherKnown_35 : decode cX6_gatherKnown 35 = .ok (.iload_n 1, 1) := by decide +kernel
theorem dX6_gatherKnown_36 : decode cX6_gatherKnown 36 = .ok (.ineg, 1) := by decide +kernel
theorem dX6_gatherKnown_37 : decode cX6_gatherKnown 37 = .ok (.istore_n 3, 1) := by decide +kernel
theorem dX6_gatherKnown_38 : decode cX6_gatherKnown 38 = .ok (.iload_n 3, 1) := by decide +kernel
theorem dX6_gatherKnown_39 : decode cX6_gatherKnown 39 = .ok (.iload_n 1, 1) := by decide +kernel
theorem dX6_gatherKnown_40 : decode cX6_gatherKnown 40 = .ok (.if_icmp .gt 199, 3) := by decide +kernel
theorem dX6_gatherKnown_43 : decode cX6_gatherKnown 43 = .ok (.iload_n 1, 1) := by decide +kernel
theorem dX6_gatherKnown_44 : decode cX6_gatherKnown 44 = .ok (.ineg, 1) := by decide +kernel
theorem dX6_gatherKnown_45 : decode cX6_gatherKnown 45 = .ok (.istore 4, 2) := by decide +kernel
theorem dX6_gatherKnown_47 : decode cX6_gatherKnown 47 = .ok (.iload 4, 2) := by decide +kernel
theorem dX6_gatherKnown_49 : decode cX6_gatherKnown 49 = .ok (.iload_n 1, 1) := by decide +kernel
theorem dX6_gatherKnown_50 : decode cX6_gatherKnown 50 = .ok (.if_icmp .gt 183, 3) := by decide +kernel
theorem dX6_gatherKnown_53 : decode cX6_gatherKnown 53 = .ok (.aload_n 0, 1) := by decide +kernel
theorem dX6_gatherKnown_54 : decode cX6_gatherKnown 54 = .ok (.getfield 68, 3) := by decide +kernel
theorem dX6_gatherKnown_57 : decode cX6_gatherKnown 57 = .ok (.aload_n 0, 1) := by decide +kernel
theorem dX6_gatherKnown_58 : decode cX6_gatherKnown 58 = .ok (.getfield 9, 3) := by decide +kernel
theorem dX6_gatherKnown_61 : decode cX6_gatherKnown 61 = .ok (.iload 4, 2) := by decide +kernel
theorem dX6_gatherKnown_63 : decode cX6_gatherKnown 63 = .ok (.iadd, 1) := by decide +kernel
theorem dX6_gatherKnown_64 : decode cX6_gatherKnown 64 = .ok (.aload_n 0, 1) := by decide +kernel
theorem dX6_gatherKnown_65 : decode cX6_gatherKnown 65 = .ok (.getfield 15, 3) := by decide +kernel
theorem dX6_gatherKnown_68 : decode cX6_gatherKnown 68 = .ok (.iload_n 3, 1) := by decide +kernel
theorem dX6_gatherKnown_69 : decode cX6_gatherKnown 69 = .ok (.iadd, 1) := by decide +kernel
theorem dX6_gatherKnown_70 : decode cX6_gatherKnown 70 = .ok (.invokevirtual 111, 3) := by decide +kernel
theorem dX6_gatherKnown_73 : decode cX6_gatherKnown 73 = .ok (.ifCond .eq 154, 3) := by decide +kernel
theorem dX6_gatherKnown_76 : decode cX6_gatherKnown 76 = .ok (.aload_n 0, 1) := by decide +kernel
theorem dX6_gatherKnown_77 : decode cX6_gatherKnown 77 = .ok (.getfield 28, 3) := by decide +kernel
theorem dX6_gatherKnown_80 : decode cX6_gatherKnown 80 = .ok (.bipush 49, 2) := by decide +kernel
theorem dX6_gatherKnown_82 : decode cX6_gatherKnown 82 = .ok (.if_icmp .ge 145, 3) := by decide +kernel
theorem dX6_gatherKnown_85 : decode cX6_gatherKnown 85 = .ok (.aload_n 0, 1) := by decide +kernel
theorem dX6_gatherKnown_86 : decode cX6_gatherKnown 86 = .ok (.getfield 68, 3) := by decide +kernel
theorem dX6_gatherKnown_89 : decode cX6_gatherKnown 89 = .ok (.aload_n 0, 1) := by decide +kernel
theorem dX6_gatherKnown_90 : decode cX6_gatherKnown 90 = .ok (.getfield 9, 3) := by decide +kernel
theorem dX6_gatherKnown_93 : decode cX6_gatherKnown 93 = .ok (.iload 4, 2) := by decide +kernel
theorem dX6_gatherKnown_95 : decode cX6_gatherKnown 95 = .ok (.iadd, 1) := by decide +kernel
theorem dX6_gatherKnown_96 : decode cX6_gatherKnown 96 = .ok (.aload_n 0, 1) := by decide +kernel
theorem dX6_gatherKnown_97 : decode cX6_gatherKnown 97 = .ok (.getfield 15, 3) := by decide +kernel
theorem dX6_gatherKnown_100 : decode cX6_gatherKnown 100 = .ok (.iload_n 3, 1) := by decide +kernel
theorem dX6_gatherKnown_101 : decode cX6_gatherKnown 101 = .ok (.iadd, 1) := by decide +kernel
theorem dX6_gatherKnown_102 : decode cX6_gatherKnown 102 = .ok (.invokevirtual 95, 3) := by decide +kernel
theorem dX6_gatherKnown_105 : decode cX6_gatherKnown 105 = .ok (.istore 5, 2) := by decide +kernel
theorem dX6_gatherKnown_107 : decode cX6_gatherKnown 107 = .ok (.aload_n 0, 1) := by decide +kernel
theorem dX6_gatherKnown_108 : decode cX6_gatherKnown 108 = .ok (.getfield 18, 3) := by decide +kernel
theorem dX6_gatherKnown_111 : decode cX6_gatherKnown 111 = .ok (.aload_n 0, 1) := by decide +kernel
theorem dX6_gatherKnown_112 : decode cX6_gatherKnown 112 = .ok (.getfield 28, 3) := by decide +kernel
theorem dX6_gatherKnown_115 : decode cX6_gatherKnown 115 = .ok (.aload_n 0, 1) := by decide +kernel
theorem dX6_gatherKnown_116 : decode cX6_gatherKnown 116 = .ok (.getfield 68, 3) := by decide +kernel
theorem dX6_gatherKnown_119 : decode cX6_gatherKnown 119 = .ok (.getfield 99, 3) := by decide +kernel
theorem dX6_gatherKnown_122 : decode cX6_gatherKnown 122 = .ok (.iload 5, 2) := by decide +kernel
theorem dX6_gatherKnown_124 : decode cX6_gatherKnown 124 = .ok (.iaload, 1) := by decide +kernel
theorem dX6_gatherKnown_125 : decode cX6_gatherKnown 125 = .ok (.iastore, 1) := by decide +kernel
theorem dX6_gatherKnown_126 : decode cX6_gatherKnown 126 = .ok (.aload_n 0, 1) := by decide +kernel
theorem dX6_gatherKnown_127 : decode cX6_gatherKnown 127 = .ok (.getfield 22, 3) := by decide +kernel
theorem dX6_gatherKnown_130 : decode cX6_gatherKnown 130 = .ok (.aload_n 0, 1) := by decide +kernel
theorem dX6_gatherKnown_131 : decode cX6_gatherKnown 131 = .ok (.getfield 28, 3) := by decide +kernel
theorem dX6_gatherKnown_134 : decode cX6_gatherKnown 134 = .ok (.iload_n 2, 1) := by decide +kernel
theorem dX6_gatherKnown_135 : decode cX6_gatherKnown 135 = .ok (.ifCond .eq 22, 3) := by decide +kernel
theorem dX6_gatherKnown_138 : decode cX6_gatherKnown 138 = .ok (.aload_n 0, 1) := by decide +kernel
theorem dX6_gatherKnown_139 : decode cX6_gatherKnown 139 = .ok (.getfield 68, 3) := by decide +kernel
theorem dX6_gatherKnown_142 : decode cX6_gatherKnown 142 = .ok (.getfield 115, 3) := by decide +kernel
theorem dX6_gatherKnown_145 : decode cX6_gatherKnown 145 = .ok (.iload 5, 2) := by decide +kernel
theorem dX6_gatherKnown_147 : decode cX6_gatherKnown 147 = .ok (.iaload, 1) := by decide +kernel
theorem dX6_gatherKnown_148 : decode cX6_gatherKnown 148 = .ok (.sipush 250, 3) := by decide +kernel
theorem dX6_gatherKnown_151 : decode cX6_gatherKnown 151 = .ok (.idiv, 1) := by decide +kernel
theorem dX6_gatherKnown_152 : decode cX6_gatherKnown 152 = .ok (.iconst 1, 1) := by decide +kernel
theorem dX6_gatherKnown_153 : decode cX6_gatherKnown 153 = .ok (.iadd, 1) := by decide +kernel
theorem dX6_gatherKnown_154 : decode cX6_gatherKnown 154 = .ok (.goto 4, 3) := by decide +kernel
theorem dX6_gatherKnown_157 : decode cX6_gatherKnown 157 = .ok (.iconst 1, 1) := by decide +kernel
theorem dX6_gatherKnown_158 : decode cX6_gatherKnown 158 = .ok (.iastore, 1) := by decide +kernel
theorem dX6_gatherKnown_159 : decode cX6_gatherKnown 159 = .ok (.aload_n 0, 1) := by decide +kernel
theorem dX6_gatherKnown_160 : decode cX6_gatherKnown 160 = .ok (.dup, 1) := by decide +kernel
theorem dX6_gatherKnown_161 : decode cX6_gatherKnown 161 = .ok (.getfield 31, 3) := by decide +kernel
theorem dX6_gatherKnown_164 : decode cX6_gatherKnown 164 = .ok (.aload_n 0, 1) := by decide +kernel
theorem dX6_gatherKnown_165 : decode cX6_gatherKnown 165 = .ok (.getfield 22, 3) := by decide +kernel
theorem dX6_gatherKnown_168 : decode cX6_gatherKnown 168 = .ok (.aload_n 0, 1) := by decide +kernel
theorem dX6_gatherKnown_169 : decode cX6_gatherKnown 169 = .ok (.getfield 28, 3) := by decide +kernel
theorem dX6_gatherKnown_172 : decode cX6_gatherKnown 172 = .ok (.iaload, 1) := by decide +kernel
theorem dX6_gatherKnown_173 : decode cX6_gatherKnown 173 = .ok (.iadd, 1) := by decide +kernel
theorem dX6_gatherKnown_174 : decode cX6_gatherKnown 174 = .ok (.putfield 31, 3) := by decide +kernel
theorem dX6_gatherKnown_177 : decode cX6_gatherKnown 177 = .ok (.iconst 0, 1) := by decide +kernel
theorem dX6_gatherKnown_178 : decode cX6_gatherKnown 178 = .ok (.istore 6, 2) := by decide +kernel
theorem dX6_gatherKnown_180 : decode cX6_gatherKnown 180 = .ok (.iload 6, 2) := by decide +kernel
theorem dX6_gatherKnown_182 : decode cX6_gatherKnown 182 = .ok (.bipush 8, 2) := by decide +kernel
theorem dX6_gatherKnown_184 : decode cX6_gatherKnown 184 = .ok (.if_icmp .ge 33, 3) := by decide +kernel
theorem dX6_gatherKnown_187 : decode cX6_gatherKnown 187 = .ok (.aload_n 0, 1) := by decide +kernel
theorem dX6_gatherKnown_188 : decode cX6_gatherKnown 188 = .ok (.getfield 25, 3) := by decide +kernel
theorem dX6_gatherKnown_191 : decode cX6_gatherKnown 191 = .ok (.iload 6, 2) := by decide +kernel
theorem dX6_gatherKnown_193 : decode cX6_gatherKnown 193 = .ok (.bipush 49, 2) := by decide +kernel
theorem dX6_gatherKnown_195 : decode cX6_gatherKnown 195 = .ok (.imul, 1) := by decide +kernel
theorem dX6_gatherKnown_196 : decode cX6_gatherKnown 196 = .ok (.aload_n 0, 1) := by decide +kernel
theorem dX6_gatherKnown_197 : decode cX6_gatherKnown 197 = .ok (.getfield 28, 3) := by decide +kernel
theorem dX6_gatherKnown_200 : decode cX6_gatherKnown 200 = .ok (.iadd, 1) := by decide +kernel
theorem dX6_gatherKnown_201 : decode cX6_gatherKnown 201 = .ok (.aload_n 0, 1) := by decide +kernel
theorem dX6_gatherKnown_202 : decode cX6_gatherKnown 202 = .ok (.iload 4, 2) := by decide +kernel
theorem dX6_gatherKnown_204 : decode cX6_gatherKnown 204 = .ok (.iload_n 3, 1) := by decide +kernel
theorem dX6_gatherKnown_205 : decode cX6_gatherKnown 205 = .ok (.iload 6, 2) := by decide +kernel
theorem dX6_gatherKnown_207 : decode cX6_gatherKnown 207 = .ok (.invokevirtual 118, 3) := by decide +kernel
theorem dX6_gatherKnown_210 : decode cX6_gatherKnown 210 = .ok (.iastore, 1) := by decide +kernel
theorem dX6_gatherKnown_211 : decode cX6_gatherKnown 211 = .ok (.iinc 6 1, 3) := by decide +kernel
theorem dX6_gatherKnown_214 : decode cX6_gatherKnown 214 = .ok (.goto (-34), 3) := by decide +kernel
theorem dX6_gatherKnown_217 : decode cX6_gatherKnown 217 = .ok (.aload_n 0, 1) := by decide +kernel
theorem dX6_gatherKnown_218 : decode cX6_gatherKnown 218 = .ok (.dup, 1) := by decide +kernel
theorem dX6_gatherKnown_219 : decode cX6_gatherKnown 219 = .ok (.getfield 28, 3) := by decide +kernel
theorem dX6_gatherKnown_222 : decode cX6_gatherKnown 222 = .ok (.iconst 1, 1) := by decide +kernel
theorem dX6_gatherKnown_223 : decode cX6_gatherKnown 223 = .ok (.iadd, 1) := by decide +kernel
theorem dX6_gatherKnown_224 : decode cX6_gatherKnown 224 = .ok (.putfield 28, 3) := by decide +kernel
theorem dX6_gatherKnown_227 : decode cX6_gatherKnown 227 = .ok (.iinc 4 1, 3) := by decide +kernel
theorem dX6_gatherKnown_230 : decode cX6_gatherKnown 230 = .ok (.goto (-183), 3) := by decide +kernel
theorem dX6_gatherKnown_233 : decode cX6_gatherKnown 233 = .ok (.iinc 3 1, 3) := by decide +kernel
theorem dX6_gatherKnown_236 : decode cX6_gatherKnown 236 = .ok (.goto (-198), 3) := by decide +kernel
theorem dX6_gatherKnown_239 : decode cX6_gatherKnown 239 = .ok (.return_, 1) := by decide +kernel
set_option maxHeartbeats 4000000 in
set_option maxRecDepth 100000 in
theorem tX6_gatherKnown {l : Launch} {g : yG} {n : Nat} {σ : yM} (k cs : Nat) (w h : Int) (T S F P O : Int → Int → Int) (s re fo ra tu we sh : Int) (hn : 172 ≤ n) (hP : isPic k) (hcs : isSet cs) (hA : rC σ k w h T S F P O) (hS : rS σ cs s re fo ra tu we sh) (hk : k + 5 < 120 ∨ 130 < k) (hc2 : cs < 120 ∨ 130 < cs) (ax ay : Int) (hB : rA σ k cs ax ay) (hi : sIn w h ax ay = true) : yMet l g yX6_gatherKnown cX6_gatherKnown 7 none (rmL 3) [yR g 123] (SC g) n σ (SC g) (yPv (fun n' σ' => n' = n ∧ fg σ σ' ∧ rG σ' w T S we ax ay (kL w h T s ax ay))) := by
  obtain ⟨hw1, hw2, hw3, hw4⟩ := id hA.1.1
  obtain ⟨hs1, hs2, hs3, hs4, hs5, hs6, hs7⟩ := id hS.2
  have zkn : k < n := by have := hP.1; omega
  have zcsn : cs < n := by have := hcs.1; omega
  have z123 : 123 < n := by omega
  have z124 : 124 < n := by omega
  have z125 : 125 < n := by omega
  have z126 : 126 < n := by omega
  have z127 : 127 < n := by omega
  have zkn1 : k + 1 < n := by have := hP.1; omega
  have zkn2 : k + 2 < n := by have := hP.1; omega
  have zkn3 : k + 3 < n := by have := hP.1; omega
  have zkn4 : k + 4 < n := by have := hP.1; omega
  have zkn5 : k + 5 < n := by have := hP.1; omega
  have zi := sIn_iff.mp hi
  refine y_start (by decide) (Nat.le_of_ble_eq_true rfl) (fun X0 hF => ?_)
  show yV X0 g 7 (yQ X0 g (SC g) (yPv (fun n' σ' => n' = n ∧ fg σ σ' ∧ rG σ' w T S we ax ay (kL w h T s ax ay))) (rmL 3)) (SC g) n σ 0 0 0 [(0, yR g 123)] []
  refine y_aload_n (pc := 0) hF dX6_gatherKnown_0 0 rfl ?_
  refine y_iconst (pc := 1) hF dX6_gatherKnown_1 ?_
  refine y_putf (pc := 2) (ci := 6) (σ' := yset σ 123 7 0) (sch' := (SC g)) hF dX6_gatherKnown_2 z123 rfl rfl rfl iX6 7 (by decide) w_372 tyX6 tyX6_ok nmX6 rfl rfl rfl rfl (Nat.le_of_ble_eq_true rfl) rfl (y_ps rfl) (fun k' h => ⟨yset_n h, rfl⟩) ?_
  refine y_aload_n (pc := 5) hF dX6_gatherKnown_5 0 rfl ?_
  refine y_iconst (pc := 6) hF dX6_gatherKnown_6 ?_
  refine y_putf (pc := 7) (ci := 6) (σ' := yset (yset σ 123 7 0) 123 8 0) (sch' := (SC g)) hF dX6_gatherKnown_7 z123 rfl rfl rfl iX6 8 (by decide) w_373 tyX6 tyX6_ok nmX6 rfl rfl rfl rfl (Nat.le_of_ble_eq_true rfl) rfl (y_ps rfl) (fun k' h => ⟨yset_n h, rfl⟩) ?_
  obtain ⟨τ0, hτ0⟩ : ∃ s, s = yset (yset σ 123 7 0) 123 8 0 := ⟨_, rfl⟩
  rw [← hτ0]
  have zf0 : fg σ τ0 := by rw [hτ0]; exact ((fg.rf σ).s7 (by omega)).s7 (by omega)
  have zA_τ0 := hA.fc (by omega) (zf0).fc
  have zS_τ0 := hS.fc (by omega) (zf0).fc
  have zB_τ0 := hB.fg (zf0)
  have zg0 : rG τ0 w T S we ax ay [] := rG.nil (by rw [hτ0]; simp [yset_ap]) (by rw [hτ0]; simp [yset_ap])
  refine y_aload_n (pc := 10) hF dX6_gatherKnown_10 0 rfl ?_
  refine y_get (pc := 11) (ci := 6) hF dX6_gatherKnown_11 z123 rfl rfl rfl iX6 1 (by decide) w_362 rfl ?_
  rw [show (τ0 123 1).toNat = cs from zB_τ0.c]
  refine y_getN (pc := 14) (ci := 7) hF dX6_gatherKnown_14 zcsn (hcs.2 g) rfl rfl iX7 0 (by decide) w_165 rfl ?_
  rw [show τ0 cs 0 = s from zS_τ0.1.1]
  refine y_istore_n (pc := 17) (lv' := [(0, yR g 123), (1, yI s)]) hF dX6_gatherKnown_17 (by decide) rfl rfl ?_
  refine y_aload_n (pc := 18) hF dX6_gatherKnown_18 0 rfl ?_
  refine y_get (pc := 19) (ci := 6) hF dX6_gatherKnown_19 z123 rfl rfl rfl iX6 1 (by decide) w_362 rfl ?_
  rw [show (τ0 123 1).toNat = cs from zB_τ0.c]
  refine y_getN (pc := 22) (ci := 7) hF dX6_gatherKnown_22 zcsn (hcs.2 g) rfl rfl iX7 5 (by decide) w_181 rfl ?_
  rw [show τ0 cs 5 = we from zS_τ0.1.2.2.2.2.2.1]
  refine y_iconst (pc := 25) hF dX6_gatherKnown_25 ?_
  refine y_t_icmp_ne (pc := 26) hF dX6_gatherKnown_26 dX6_gatherKnown_29 dX6_gatherKnown_30 dX6_gatherKnown_33 (by omega) (by omega) ?_
  rw [show (if we ≠ 1 then 0 else 1) = we from (by rcases (show we = 0 ∨ we = 1 by omega) with e | e <;> simp [e])]
  refine y_istore_n (pc := 34) (lv' := [(0, yR g 123), (1, yI s), (2, yI we)]) hF dX6_gatherKnown_34 (by decide) rfl rfl ?_
  refine y_iload_n (pc := 35) hF dX6_gatherKnown_35 1 rfl ?_
  refine y_ineg (pc := 36) hF dX6_gatherKnown_36 ?_
  refine y_istore_n (pc := 37) (lv' := [(0, yR g 123), (1, yI s), (2, yI we), (3, yI (-s))]) hF dX6_gatherKnown_37 (by decide) rfl rfl ?_
  have zL38 : ∀ (N : Nat) (τ : yM) (b : Int) (M : List (Int × Int)), N = (s + 1 - b).toNat → (fg σ τ ∧ (-s ≤ b ∧ b ≤ s + 1) ∧ M = fr (fun L j => fr (fun L i => pL (sKn w h T) L i j) (ax - s) (2 * s + 1).toNat L) (ay - s) (ay + b - (ay - s)).toNat [] ∧ rG τ w T S we ax ay M ∧ (M.length : Int) ≤ (b + s) * (2 * s + 1)) → yV X0 g 7 (yQ X0 g (SC g) (yPv (fun n' σ' => n' = n ∧ fg σ σ' ∧ rG σ' w T S we ax ay (kL w h T s ax ay))) (rmL 3)) (SC g) n τ 0 0 38 [(0, yR g 123), (1, yI s), (2, yI we), (3, yI b)] [] := by
    intro N
    induction N using Nat.strongRecOn with
    | ind N zh38 =>
      intro τ  b  M  zN38 zI38
      have zA_τ := hA.fc (by omega) (zI38.1).fc
      have zS_τ := hS.fc (by omega) (zI38.1).fc
      have zB_τ := hB.fg (zI38.1)
      refine y_iload_n (pc := 38) hF dX6_gatherKnown_38 3 rfl ?_
      refine y_iload_n (pc := 39) hF dX6_gatherKnown_39 1 rfl ?_
      refine y_icmp_gt (pc := 40) hF dX6_gatherKnown_40 239 rfl (by omega) (by omega) (fun zc40 => ?_) (fun zc40 => ?_)
      · skip
        exact y_vret (pc := 239) hF dX6_gatherKnown_239 (Nat.zero_le _) (Nat.zero_le _) ⟨rfl, rfl, zI38.1, by have ze : M = kL w h T s ax ay := by { rw [zI38.2.2.1, show (ay + b - (ay - s)).toNat = (2 * s + 1).toNat by omega]; rfl }; rw [← ze]; exact zI38.2.2.2.1⟩
      · skip
        refine y_iload_n (pc := 43) hF dX6_gatherKnown_43 1 rfl ?_
        refine y_ineg (pc := 44) hF dX6_gatherKnown_44 ?_
        refine y_istore (pc := 45) (lv' := [(0, yR g 123), (1, yI s), (2, yI we), (3, yI b), (4, yI (-s))]) hF dX6_gatherKnown_45 (by decide) rfl rfl ?_
        have zL47 : ∀ (N : Nat) (υ : yM) (a : Int) (L : List (Int × Int)), N = (s + 1 - a).toNat → (fg σ υ ∧ (-s ≤ a ∧ a ≤ s + 1) ∧ L = fr (fun L i => pL (sKn w h T) L i (ay + b)) (ax - s) (ax + a - (ax - s)).toNat M ∧ rG υ w T S we ax ay L ∧ (L.length : Int) ≤ (b + s) * (2 * s + 1) + (a + s)) → yV X0 g 7 (yQ X0 g (SC g) (yPv (fun n' σ' => n' = n ∧ fg σ σ' ∧ rG σ' w T S we ax ay (kL w h T s ax ay))) (rmL 3)) (SC g) n υ 0 0 47 [(0, yR g 123), (1, yI s), (2, yI we), (3, yI b), (4, yI a)] [] := by
          intro N
          induction N using Nat.strongRecOn with
          | ind N zh47 =>
            intro υ  a  L  zN47 zI47
            have zA_υ := hA.fc (by omega) (zI47.1).fc
            have zS_υ := hS.fc (by omega) (zI47.1).fc
            have zB_υ := hB.fg (zI47.1)
            refine y_iload (pc := 47) hF dX6_gatherKnown_47 4 rfl ?_
            refine y_iload_n (pc := 49) hF dX6_gatherKnown_49 1 rfl ?_
            refine y_icmp_gt (pc := 50) hF dX6_gatherKnown_50 233 rfl (by omega) (by omega) (fun zc50 => ?_) (fun zc50 => ?_)
            · skip
              refine y_iinc (pc := 233) (lv' := [(0, yR g 123), (1, yI s), (2, yI we), (3, yI (b + 1)), (4, yI a)]) hF dX6_gatherKnown_233 3 rfl (by decide) rfl rfl ?_
              refine y_goto (pc := 236) hF dX6_gatherKnown_236 38 rfl ?_
              refine y_sub [0, 1, 2, 3] rfl ?_
              exact zh38 _ (by omega) υ (b + 1) L rfl ⟨zI47.1, by omega, by rw [show ay + (b + 1) = ay + b + 1 by omega, fr_up' _ _ (by omega), ← zI38.2.2.1, zI47.2.2.1, show (ax + a - (ax - s)).toNat = (2 * s + 1).toNat by omega], zI47.2.2.2.1, by rw [show b + 1 + s = (b + s) + 1 by omega, Int.add_mul]; omega⟩
            · skip
              have zr1 : -2147483648 ≤ ax + a ∧ ax + a < 2147483648 := by omega
              have zr2 : -2147483648 ≤ ay + b ∧ ay + b < 2147483648 := by omega
              have zG := zI47.2.2.2.1
              have zl49 := len49 hs1 (show 0 ≤ b + s ∧ b + s ≤ 2 * s by omega) (show 0 ≤ a + s ∧ a + s ≤ 2 * s by omega) zI47.2.2.2.2
              refine y_aload_n (pc := 53) hF dX6_gatherKnown_53 0 rfl ?_
              refine y_get (pc := 54) (ci := 6) hF dX6_gatherKnown_54 z123 rfl rfl rfl iX6 0 (by decide) w_361 rfl ?_
              rw [show (υ 123 0).toNat = k from zB_υ.k]
              refine y_aload_n (pc := 57) hF dX6_gatherKnown_57 0 rfl ?_
              refine y_get (pc := 58) (ci := 6) hF dX6_gatherKnown_58 z123 rfl rfl rfl iX6 2 (by decide) w_363 rfl ?_
              rw [show υ 123 2 = ax from zB_υ.2.2.1]
              refine y_iload (pc := 61) hF dX6_gatherKnown_61 4 rfl ?_
              refine y_iadd (pc := 63) hF dX6_gatherKnown_63 ?_
              refine y_aload_n (pc := 64) hF dX6_gatherKnown_64 0 rfl ?_
              refine y_get (pc := 65) (ci := 6) hF dX6_gatherKnown_65 z123 rfl rfl rfl iX6 3 (by decide) w_366 rfl ?_
              rw [show υ 123 3 = ay from zB_υ.2.2.2]
              refine y_iload_n (pc := 68) hF dX6_gatherKnown_68 3 rfl ?_
              refine y_iadd (pc := 69) hF dX6_gatherKnown_69 ?_
              have zz70 := y_rV (pc := 70) hF (tX4_isKnown k w h T S F P O hn hP zA_υ (ax + a) (ay + b) zr1 zr2) dX6_gatherKnown_70 zkn (hP.2 g).1 rfl rfl w_906 qX4_isKnown rfl ⟨Nat.le_of_ble_eq_true rfl, Nat.le_of_ble_eq_true rfl⟩ ⟨Nat.zero_le _, Nat.zero_le _⟩ (Nat.le_of_ble_eq_true rfl) rfl (rest := []) (cells := 0) (slots := 0) (lv := [(0, yR g 123), (1, yI s), (2, yI we), (3, yI b), (4, yI a)])
              refine y_cp (zz70) ?_
              refine y_if_eq (pc := 73) hF dX6_gatherKnown_73 227 rfl bi_r (fun zc73 => ?_) (fun zc73 => ?_)
              · replace zc73 := bi_0.mp zc73
                skip
                refine y_iinc (pc := 227) (lv' := [(0, yR g 123), (1, yI s), (2, yI we), (3, yI b), (4, yI (a + 1))]) hF dX6_gatherKnown_227 4 rfl (by decide) rfl rfl ?_
                refine y_goto (pc := 230) hF dX6_gatherKnown_230 47 rfl ?_
                exact zh47 _ (by omega) υ (a + 1) L rfl ⟨zI47.1, by omega, by rw [show ax + (a + 1) = ax + a + 1 by omega, fr_up' _ _ (by omega), ← zI47.2.2.1]; unfold pL; rw [if_neg (by simp [zc73])], zI47.2.2.2.1, by omega⟩
              · replace zc73 := bi_n0.mp zc73
                refine y_aload_n (pc := 76) hF dX6_gatherKnown_76 0 rfl ?_
                refine y_get (pc := 77) (ci := 6) hF dX6_gatherKnown_77 z123 rfl rfl rfl iX6 7 (by decide) w_372 rfl ?_
                rw [show υ 123 7 = (L.length : Int) from zG.1]
                refine y_bipush (pc := 80) hF dX6_gatherKnown_80 (by decide) ?_
                refine y_icmp_ge (pc := 82) hF dX6_gatherKnown_82 227 rfl (by omega) (by omega) (fun zc82 => ?_) (fun zc82 => ?_)
                · skip
                  skip
                  refine y_iinc (pc := 227) (lv' := [(0, yR g 123), (1, yI s), (2, yI we), (3, yI b), (4, yI (a + 1))]) hF dX6_gatherKnown_227 4 rfl (by decide) rfl rfl ?_
                  refine y_goto (pc := 230) hF dX6_gatherKnown_230 47 rfl ?_
                  exact zh47 _ (by omega) υ (a + 1) L rfl (by exfalso; omega)
                · skip
                  have zkk := zc73
                  simp only [sKn, Bool.and_eq_true] at zkk
                  have zin := sIn_iff.mp zkk.1
                  have zix := y_ix (w := w) (h := h) (x := ax + a) (y := ay + b) ⟨hw1, hw2⟩ ⟨hw3, hw4⟩ (by omega) (by omega)
                  have zm := zA_υ.2.2.2 (ax + a) (ay + b) (by omega) (by omega) (by omega) (by omega)
                  have zt := hA.1.2 (ax + a) (ay + b) (by omega) (by omega) (by omega) (by omega)
                  have zl0 : 0 ≤ (L.length : Int) := Int.natCast_nonneg _
                  have zl1 : (L.length : Int) < 49 := zc82
                  have zl2 : 0 ≤ (L.length : Int) ∧ (L.length : Int) < 49 := ⟨zl0, zl1⟩
                  have zi4 : 0 ≤ (ay + b) * w + (ax + a) ∧ (ay + b) * w + (ax + a) < 400 := by omega
                  have zs250 : -2147483648 ≤ S (ax + a) (ay + b) ∧ S (ax + a) (ay + b) < 2147483648 := by omega
                  refine y_aload_n (pc := 85) hF dX6_gatherKnown_85 0 rfl ?_
                  refine y_get (pc := 86) (ci := 6) hF dX6_gatherKnown_86 z123 rfl rfl rfl iX6 0 (by decide) w_361 rfl ?_
                  rw [show (υ 123 0).toNat = k from zB_υ.k]
                  refine y_aload_n (pc := 89) hF dX6_gatherKnown_89 0 rfl ?_
                  refine y_get (pc := 90) (ci := 6) hF dX6_gatherKnown_90 z123 rfl rfl rfl iX6 2 (by decide) w_363 rfl ?_
                  rw [show υ 123 2 = ax from zB_υ.2.2.1]
                  refine y_iload (pc := 93) hF dX6_gatherKnown_93 4 rfl ?_
                  refine y_iadd (pc := 95) hF dX6_gatherKnown_95 ?_
                  refine y_aload_n (pc := 96) hF dX6_gatherKnown_96 0 rfl ?_
                  refine y_get (pc := 97) (ci := 6) hF dX6_gatherKnown_97 z123 rfl rfl rfl iX6 3 (by decide) w_366 rfl ?_
                  rw [show υ 123 3 = ay from zB_υ.2.2.2]
                  refine y_iload_n (pc := 100) hF dX6_gatherKnown_100 3 rfl ?_
                  refine y_iadd (pc := 101) hF dX6_gatherKnown_101 ?_
                  have zz102 := y_rV (pc := 102) hF (tX4_at k w h T S F P O hn hP zA_υ (ax + a) (ay + b)) dX6_gatherKnown_102 zkn (hP.2 g).1 rfl rfl w_901 qX4_at rfl ⟨Nat.le_of_ble_eq_true rfl, Nat.le_of_ble_eq_true rfl⟩ ⟨Nat.zero_le _, Nat.zero_le _⟩ (Nat.le_of_ble_eq_true rfl) rfl (rest := []) (cells := 0) (slots := 0) (lv := [(0, yR g 123), (1, yI s), (2, yI we), (3, yI b), (4, yI a)])
                  refine y_cp (zz102) ?_
                  refine y_istore (pc := 105) (lv' := [(0, yR g 123), (1, yI s), (2, yI we), (3, yI b), (4, yI a), (5, yI ((ay + b) * w + (ax + a)))]) hF dX6_gatherKnown_105 (by decide) rfl rfl ?_
                  refine y_aload_n (pc := 107) hF dX6_gatherKnown_107 0 rfl ?_
                  refine y_get (pc := 108) (ci := 6) hF dX6_gatherKnown_108 z123 rfl rfl rfl iX6 4 (by decide) w_369 rfl ?_
                  refine y_aload_n (pc := 111) hF dX6_gatherKnown_111 0 rfl ?_
                  refine y_get (pc := 112) (ci := 6) hF dX6_gatherKnown_112 z123 rfl rfl rfl iX6 7 (by decide) w_372 rfl ?_
                  rw [show υ 123 7 = (L.length : Int) from zG.1]
                  refine y_aload_n (pc := 115) hF dX6_gatherKnown_115 0 rfl ?_
                  refine y_get (pc := 116) (ci := 6) hF dX6_gatherKnown_116 z123 rfl rfl rfl iX6 0 (by decide) w_361 rfl ?_
                  rw [show (υ 123 0).toNat = k from zB_υ.k]
                  refine y_getN (pc := 119) (ci := 4) hF dX6_gatherKnown_119 zkn (hP.2 g).1 rfl rfl iX4 2 (by decide) w_220 rfl ?_
                  refine y_iload (pc := 122) hF dX6_gatherKnown_122 5 rfl ?_
                  refine y_iaload (pc := 124) hF dX6_gatherKnown_124 zkn1 (hP.2 g).2.1 zi4 (by decide) ?_
                  rw [show υ (k + 1) ((ay + b) * w + (ax + a)) = T (ax + a) (ay + b) from zm.1]
                  refine y_iastore (pc := 125) hF dX6_gatherKnown_125 z124 rfl zl2 (by decide) ?_
                  obtain ⟨μ1, hμ1⟩ : ∃ s, s = yset υ 124 (L.length : Int) (T (ax + a) (ay + b)) := ⟨_, rfl⟩
                  rw [← hμ1]
                  have zf1 : fg σ μ1 := by rw [hμ1]; exact zI47.1.st (by omega)
                  have zA_μ1 := hA.fc (by omega) (zf1).fc
                  have zS_μ1 := hS.fc (by omega) (zf1).fc
                  have zB_μ1 := hB.fg (zf1)
                  refine y_aload_n (pc := 126) hF dX6_gatherKnown_126 0 rfl ?_
                  refine y_get (pc := 127) (ci := 6) hF dX6_gatherKnown_127 z123 rfl rfl rfl iX6 5 (by decide) w_370 rfl ?_
                  refine y_aload_n (pc := 130) hF dX6_gatherKnown_130 0 rfl ?_
                  refine y_get (pc := 131) (ci := 6) hF dX6_gatherKnown_131 z123 rfl rfl rfl iX6 7 (by decide) w_372 rfl ?_
                  rw [show μ1 123 7 = (L.length : Int) from (by rw [hμ1]; simp [yset_ap]; exact zG.1)]
                  have zJ158 : ∀ (v : Int), (v = sWt S we (ax + a) (ay + b)) → yV X0 g 7 (yQ X0 g (SC g) (yPv (fun n' σ' => n' = n ∧ fg σ σ' ∧ rG σ' w T S we ax ay (kL w h T s ax ay))) (rmL 3)) (SC g) n μ1 0 0 158 [(0, yR g 123), (1, yI s), (2, yI we), (3, yI b), (4, yI a), (5, yI ((ay + b) * w + (ax + a)))] [yI v, yI (L.length : Int), yR g 125] := by
                    intro v  zv
                    refine y_iastore (pc := 158) hF dX6_gatherKnown_158 z125 rfl zl2 (by decide) ?_
                    obtain ⟨μ2, hμ2⟩ : ∃ s, s = yset μ1 125 (L.length : Int) v := ⟨_, rfl⟩
                    rw [← hμ2]
                    have zf2 : fg σ μ2 := by rw [hμ2]; exact zf1.st (by omega)
                    have zA_μ2 := hA.fc (by omega) (zf2).fc
                    have zS_μ2 := hS.fc (by omega) (zf2).fc
                    have zB_μ2 := hB.fg (zf2)
                    refine y_aload_n (pc := 159) hF dX6_gatherKnown_159 0 rfl ?_
                    refine y_dup (pc := 160) hF dX6_gatherKnown_160 rfl ?_
                    refine y_get (pc := 161) (ci := 6) hF dX6_gatherKnown_161 z123 rfl rfl rfl iX6 8 (by decide) w_373 rfl ?_
                    rw [show μ2 123 8 = L.foldl (fun q e => q + sWt S we e.1 e.2) 0 from (by rw [hμ2, hμ1]; simp [yset_ap]; exact zG.2.1)]
                    refine y_aload_n (pc := 164) hF dX6_gatherKnown_164 0 rfl ?_
                    refine y_get (pc := 165) (ci := 6) hF dX6_gatherKnown_165 z123 rfl rfl rfl iX6 5 (by decide) w_370 rfl ?_
                    refine y_aload_n (pc := 168) hF dX6_gatherKnown_168 0 rfl ?_
                    refine y_get (pc := 169) (ci := 6) hF dX6_gatherKnown_169 z123 rfl rfl rfl iX6 7 (by decide) w_372 rfl ?_
                    rw [show μ2 123 7 = (L.length : Int) from (by rw [hμ2, hμ1]; simp [yset_ap]; exact zG.1)]
                    refine y_iaload (pc := 172) hF dX6_gatherKnown_172 z125 rfl zl2 (by decide) ?_
                    rw [show μ2 125 (L.length : Int) = sWt S we (ax + a) (ay + b) from (by rw [hμ2]; simp [yset_ap]; exact zv)]
                    refine y_iadd (pc := 173) hF dX6_gatherKnown_173 ?_
                    refine y_putf (pc := 174) (ci := 6) (σ' := yset μ2 123 8 ((L.foldl (fun q e => q + sWt S we e.1 e.2) 0) + (sWt S we (ax + a) (ay + b)))) (sch' := (SC g)) hF dX6_gatherKnown_174 z123 rfl rfl rfl iX6 8 (by decide) w_373 tyX6 tyX6_ok nmX6 rfl rfl rfl rfl (Nat.le_of_ble_eq_true rfl) rfl (y_ps rfl) (fun k' h => ⟨yset_n h, rfl⟩) ?_
                    obtain ⟨μ, hμ⟩ : ∃ s, s = yset μ2 123 8 ((L.foldl (fun q e => q + sWt S we e.1 e.2) 0) + (sWt S we (ax + a) (ay + b))) := ⟨_, rfl⟩
                    rw [← hμ]
                    have zfμ : fg σ μ := by rw [hμ]; exact zf2.s7 (by omega)
                    have zA_μ := hA.fc (by omega) (zfμ).fc
                    have zS_μ := hS.fc (by omega) (zfμ).fc
                    have zB_μ := hB.fg (zfμ)
                    have zμ7 : μ 123 7 = (L.length : Int) := by rw [hμ, hμ2, hμ1]; simp [yset_ap]; exact zG.1
                    refine y_iconst (pc := 177) hF dX6_gatherKnown_177 ?_
                    refine y_istore (pc := 178) (lv' := [(0, yR g 123), (1, yI s), (2, yI we), (3, yI b), (4, yI a), (5, yI ((ay + b) * w + (ax + a))), (6, yI 0)]) hF dX6_gatherKnown_178 (by decide) rfl rfl ?_
                    have zL180 : ∀ (N : Nat) (ψ : yM) (wy : Int), N = (8 - wy).toNat → (fc 126 126 μ ψ ∧ (0 ≤ wy ∧ wy ≤ 8) ∧ (∀ m way : Int, 0 ≤ m → m < 49 → m ≠ (L.length : Int) → 0 ≤ way → way < 8 → ψ 126 (way * 49 + m) = μ 126 (way * 49 + m)) ∧ (∀ way : Int, 0 ≤ way → way < wy → ψ 126 (way * 49 + (L.length : Int)) = wY way a b * w + wX way a b)) → yV X0 g 7 (yQ X0 g (SC g) (yPv (fun n' σ' => n' = n ∧ fg σ σ' ∧ rG σ' w T S we ax ay (kL w h T s ax ay))) (rmL 3)) (SC g) n ψ 0 0 180 [(0, yR g 123), (1, yI s), (2, yI we), (3, yI b), (4, yI a), (5, yI ((ay + b) * w + (ax + a))), (6, yI wy)] [] := by
                      intro N
                      induction N using Nat.strongRecOn with
                      | ind N zh180 =>
                        intro ψ  wy  zN180 zI180
                        have zA_ψ := hA.fc (by omega) (zfμ.f6 zI180.1).fc
                        have zS_ψ := hS.fc (by omega) (zfμ.f6 zI180.1).fc
                        have zB_ψ := hB.fg (zfμ.f6 zI180.1)
                        refine y_iload (pc := 180) hF dX6_gatherKnown_180 6 rfl ?_
                        refine y_bipush (pc := 182) hF dX6_gatherKnown_182 (by decide) ?_
                        refine y_icmp_ge (pc := 184) hF dX6_gatherKnown_184 217 rfl (by omega) (by omega) (fun zc184 => ?_) (fun zc184 => ?_)
                        · skip
                          have zψ7 : ψ 123 7 = (L.length : Int) := by rw [zI180.1 123 (by omega)]; exact zμ7
                          refine y_aload_n (pc := 217) hF dX6_gatherKnown_217 0 rfl ?_
                          refine y_dup (pc := 218) hF dX6_gatherKnown_218 rfl ?_
                          refine y_get (pc := 219) (ci := 6) hF dX6_gatherKnown_219 z123 rfl rfl rfl iX6 7 (by decide) w_372 rfl ?_
                          rw [show ψ 123 7 = (L.length : Int) from zψ7]
                          refine y_iconst (pc := 222) hF dX6_gatherKnown_222 ?_
                          refine y_iadd (pc := 223) hF dX6_gatherKnown_223 ?_
                          refine y_putf (pc := 224) (ci := 6) (σ' := yset ψ 123 7 ((L.length : Int) + 1)) (sch' := (SC g)) hF dX6_gatherKnown_224 z123 rfl rfl rfl iX6 7 (by decide) w_372 tyX6 tyX6_ok nmX6 rfl rfl rfl rfl (Nat.le_of_ble_eq_true rfl) rfl (y_ps rfl) (fun k' h => ⟨yset_n h, rfl⟩) ?_
                          have zga : rG (yset ψ 123 7 ((L.length : Int) + 1)) w T S we ax ay (L ++ [(ax + a, ay + b)]) := zG.app (by simp [yset_ap]) (by simp [yset_ap]; rw [zI180.1 123 (by omega), hμ]; simp [yset_ap]) (fun m => by rw [yset_n (by decide), zI180.1 124 (by omega), hμ, yset_n (by decide), hμ2, yset_n (by decide), hμ1]; simp [yset_ap]) (fun m => by rw [yset_n (by decide), zI180.1 125 (by omega), hμ, yset_n (by decide), hμ2, yset_ap, zv, hμ1, yset_n (show (125 : Nat) ≠ 124 by decide)]; simp) (fun m way m1 m2 w1 w2 => by rw [yset_n (by decide), zI180.2.2.1 m way m1 (by omega) (by omega) w1 w2, hμ, yset_n (by decide), hμ2, yset_n (by decide), hμ1, yset_n (by decide)]) (fun way w1 w2 => by rw [yset_n (by decide), zI180.2.2.2 way w1 (by omega), show ax + a - ax = a by omega, show ay + b - ay = b by omega])
                          refine y_iinc (pc := 227) (lv' := [(0, yR g 123), (1, yI s), (2, yI we), (3, yI b), (4, yI (a + 1)), (5, yI ((ay + b) * w + (ax + a))), (6, yI wy)]) hF dX6_gatherKnown_227 4 rfl (by decide) rfl rfl ?_
                          refine y_goto (pc := 230) hF dX6_gatherKnown_230 47 rfl ?_
                          refine y_sub [0, 1, 2, 3, 4] rfl ?_
                          exact zh47 _ (by omega) (yset ψ 123 7 ((L.length : Int) + 1)) (a + 1) (L ++ [(ax + a, ay + b)]) rfl ⟨(zfμ.f6 zI180.1).s7 (by omega), by omega, by rw [show ax + (a + 1) = ax + a + 1 by omega, fr_up' _ _ (by omega), ← zI47.2.2.1]; unfold pL; rw [if_pos zc73], zga, by simp; omega⟩
                        · skip
                          refine y_aload_n (pc := 187) hF dX6_gatherKnown_187 0 rfl ?_
                          refine y_get (pc := 188) (ci := 6) hF dX6_gatherKnown_188 z123 rfl rfl rfl iX6 6 (by decide) w_371 rfl ?_
                          refine y_iload (pc := 191) hF dX6_gatherKnown_191 6 rfl ?_
                          refine y_bipush (pc := 193) hF dX6_gatherKnown_193 (by decide) ?_
                          refine y_imul (pc := 195) hF dX6_gatherKnown_195 ?_
                          refine y_aload_n (pc := 196) hF dX6_gatherKnown_196 0 rfl ?_
                          refine y_get (pc := 197) (ci := 6) hF dX6_gatherKnown_197 z123 rfl rfl rfl iX6 7 (by decide) w_372 rfl ?_
                          rw [show ψ 123 7 = (L.length : Int) from (by rw [zI180.1 123 (by omega)]; exact zμ7)]
                          refine y_iadd (pc := 200) hF dX6_gatherKnown_200 ?_
                          refine y_aload_n (pc := 201) hF dX6_gatherKnown_201 0 rfl ?_
                          refine y_iload (pc := 202) hF dX6_gatherKnown_202 4 rfl ?_
                          refine y_iload_n (pc := 204) hF dX6_gatherKnown_204 3 rfl ?_
                          refine y_iload (pc := 205) hF dX6_gatherKnown_205 6 rfl ?_
                          have zz207 := y_rV (pc := 207) hF (tX6_placeStep k cs w h T S F P O s re fo ra tu we sh hn hP hcs zA_ψ zS_ψ hk hc2 ax ay zB_ψ a b wy (by omega)) dX6_gatherKnown_207 z123 rfl rfl rfl w_907 qX6_placeStep rfl ⟨Nat.le_of_ble_eq_true rfl, Nat.le_of_ble_eq_true rfl⟩ ⟨Nat.zero_le _, Nat.zero_le _⟩ (Nat.le_of_ble_eq_true rfl) rfl (rest := [yI ((wy * 49) + (L.length : Int)), yR g 126]) (cells := 0) (slots := 0) (lv := [(0, yR g 123), (1, yI s), (2, yI we), (3, yI b), (4, yI a), (5, yI ((ay + b) * w + (ax + a))), (6, yI wy)])
                          refine y_cp (zz207) ?_
                          refine y_iastore (pc := 210) hF dX6_gatherKnown_210 z126 rfl (by omega) (by decide) ?_
                          refine y_iinc (pc := 211) (lv' := [(0, yR g 123), (1, yI s), (2, yI we), (3, yI b), (4, yI a), (5, yI ((ay + b) * w + (ax + a))), (6, yI (wy + 1))]) hF dX6_gatherKnown_211 6 rfl (by decide) rfl rfl ?_
                          refine y_goto (pc := 214) hF dX6_gatherKnown_214 180 rfl ?_
                          exact zh180 _ (by omega) (yset ψ 126 ((wy * 49) + (L.length : Int)) (wY wy a b * w + wX wy a b)) (wy + 1) rfl ⟨zI180.1.st (by omega), by omega, fun m way m1 m2 m3 w1 w2 => by rw [yset_ap, if_neg (by omega)]; exact zI180.2.2.1 m way m1 m2 m3 w1 w2, fun way w1 w2 => (Decidable.em (way = wy)).elim (fun e => by rw [e, yset_ap, if_pos ⟨rfl, rfl⟩]) (fun e => by rw [yset_ap, if_neg (by omega)]; exact zI180.2.2.2 way w1 (by omega))⟩
                    exact zL180 _ μ (0) rfl ⟨fc.rf μ, by omega, fun _ _ _ _ _ _ _ => rfl, fun way w1 w2 => absurd w1 (by omega)⟩
                  refine y_iload_n (pc := 134) hF dX6_gatherKnown_134 2 rfl ?_
                  refine y_if_eq (pc := 135) hF dX6_gatherKnown_135 157 rfl (by omega) (fun zc135 => ?_) (fun zc135 => ?_)
                  · skip
                    refine y_iconst (pc := 157) hF dX6_gatherKnown_157 ?_
                    exact zJ158 (1) (by unfold sWt; rw [if_pos zc135])
                  · skip
                    refine y_aload_n (pc := 138) hF dX6_gatherKnown_138 0 rfl ?_
                    refine y_get (pc := 139) (ci := 6) hF dX6_gatherKnown_139 z123 rfl rfl rfl iX6 0 (by decide) w_361 rfl ?_
                    rw [show (μ1 123 0).toNat = k from zB_μ1.k]
                    refine y_getN (pc := 142) (ci := 4) hF dX6_gatherKnown_142 zkn (hP.2 g).1 rfl rfl iX4 3 (by decide) w_226 rfl ?_
                    refine y_iload (pc := 145) hF dX6_gatherKnown_145 5 rfl ?_
                    refine y_iaload (pc := 147) hF dX6_gatherKnown_147 zkn2 (hP.2 g).2.2.1 zi4 (by decide) ?_
                    rw [show μ1 (k + 2) ((ay + b) * w + (ax + a)) = S (ax + a) (ay + b) from (by rw [hμ1, yset_n (by omega)]; exact zm.2.1)]
                    refine y_sipush (pc := 148) hF dX6_gatherKnown_148 (by decide) ?_
                    refine y_idiv (pc := 151) hF dX6_gatherKnown_151 zs250 (by decide) (by decide) ?_
                    rw [show Int.tdiv (S (ax + a) (ay + b)) 250 = S (ax + a) (ay + b) / 250 from (y_quo (by omega))]
                    refine y_iconst (pc := 152) hF dX6_gatherKnown_152 ?_
                    refine y_iadd (pc := 153) hF dX6_gatherKnown_153 ?_
                    refine y_goto (pc := 154) hF dX6_gatherKnown_154 158 rfl ?_
                    exact zJ158 ((S (ax + a) (ay + b) / 250) + 1) (by unfold sWt; rw [if_neg zc135])
        exact zL47 _ τ (-s) M rfl ⟨zI38.1, by omega, by rw [show ax + -s - (ax - s) = 0 by omega]; rfl, zI38.2.2.2.1, by omega⟩
  exact zL38 _ τ0 (-s) [] rfl ⟨zf0, by omega, by rw [show ay + -s - (ay - s) = 0 by omega]; rfl, zg0, by rw [show -s + s = 0 by omega, Int.zero_mul]; simp⟩
