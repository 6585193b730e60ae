theorem dX0_copyPatch_0 : decode cX0_copyPatch 0 = .ok (.aload_n 2, 1) := by decide +kernel
theorem dX0_copyPatch_1 : decode cX0_copyPatch 1 = .ok (.getfield 113, 3) := by decide +kernel
theorem dX0_copyPatch_4 : decode cX0_copyPatch 4 = .ok (.istore 4, 2) := by decide +kernel
theorem dX0_copyPatch_6 : decode cX0_copyPatch 6 = .ok (.iconst 0, 1) := by decide +kernel
theorem dX0_copyPatch_7 : decode cX0_copyPatch 7 = .ok (.istore 5, 2) := by decide +kernel
theorem dX0_copyPatch_9 : decode cX0_copyPatch 9 = .ok (.iload 4, 2) := by decide +kernel
theorem dX0_copyPatch_11 : decode cX0_copyPatch 11 = .ok (.ineg, 1) := by decide +kernel
theorem dX0_copyPatch_12 : decode cX0_copyPatch 12 = .ok (.istore 6, 2) := by decide +kernel
theorem dX0_copyPatch_14 : decode cX0_copyPatch 14 = .ok (.iload 6, 2) := by decide +kernel
theorem dX0_copyPatch_16 : decode cX0_copyPatch 16 = .ok (.iload 4, 2) := by decide +kernel
theorem dX0_copyPatch_18 : decode cX0_copyPatch 18 = .ok (.if_icmp .gt 148, 3) := by decide +kernel
theorem dX0_copyPatch_21 : decode cX0_copyPatch 21 = .ok (.iload 4, 2) := by decide +kernel
theorem dX0_copyPatch_23 : decode cX0_copyPatch 23 = .ok (.ineg, 1) := by decide +kernel
theorem dX0_copyPatch_24 : decode cX0_copyPatch 24 = .ok (.istore 7, 2) := by decide +kernel
theorem dX0_copyPatch_26 : decode cX0_copyPatch 26 = .ok (.iload 7, 2) := by decide +kernel
theorem dX0_copyPatch_28 : decode cX0_copyPatch 28 = .ok (.iload 4, 2) := by decide +kernel
theorem dX0_copyPatch_30 : decode cX0_copyPatch 30 = .ok (.if_icmp .gt 130, 3) := by decide +kernel
theorem dX0_copyPatch_33 : decode cX0_copyPatch 33 = .ok (.aload_n 0, 1) := by decide +kernel
theorem dX0_copyPatch_34 : decode cX0_copyPatch 34 = .ok (.getfield 32, 3) := by decide +kernel
theorem dX0_copyPatch_37 : decode cX0_copyPatch 37 = .ok (.getfield 118, 3) := by decide +kernel
theorem dX0_copyPatch_40 : decode cX0_copyPatch 40 = .ok (.iload 7, 2) := by decide +kernel
theorem dX0_copyPatch_42 : decode cX0_copyPatch 42 = .ok (.iadd, 1) := by decide +kernel
theorem dX0_copyPatch_43 : decode cX0_copyPatch 43 = .ok (.istore 8, 2) := by decide +kernel
theorem dX0_copyPatch_45 : decode cX0_copyPatch 45 = .ok (.aload_n 0, 1) := by decide +kernel
theorem dX0_copyPatch_46 : decode cX0_copyPatch 46 = .ok (.getfield 32, 3) := by decide +kernel
theorem dX0_copyPatch_49 : decode cX0_copyPatch 49 = .ok (.getfield 121, 3) := by decide +kernel
theorem dX0_copyPatch_52 : decode cX0_copyPatch 52 = .ok (.iload 6, 2) := by decide +kernel
theorem dX0_copyPatch_54 : decode cX0_copyPatch 54 = .ok (.iadd, 1) := by decide +kernel
theorem dX0_copyPatch_55 : decode cX0_copyPatch 55 = .ok (.istore 9, 2) := by decide +kernel
theorem dX0_copyPatch_57 : decode cX0_copyPatch 57 = .ok (.aload_n 1, 1) := by decide +kernel
theorem dX0_copyPatch_58 : decode cX0_copyPatch 58 = .ok (.iload 8, 2) := by decide +kernel
theorem dX0_copyPatch_60 : decode cX0_copyPatch 60 = .ok (.iload 9, 2) := by decide +kernel
theorem dX0_copyPatch_62 : decode cX0_copyPatch 62 = .ok (.invokevirtual 124, 3) := by decide +kernel
theorem dX0_copyPatch_65 : decode cX0_copyPatch 65 = .ok (.ifCond .eq 89, 3) := by decide +kernel
theorem dX0_copyPatch_68 : decode cX0_copyPatch 68 = .ok (.aload_n 0, 1) := by decide +kernel
theorem dX0_copyPatch_69 : decode cX0_copyPatch 69 = .ok (.getfield 32, 3) := by decide +kernel
theorem dX0_copyPatch_72 : decode cX0_copyPatch 72 = .ok (.getfield 92, 3) := by decide +kernel
theorem dX0_copyPatch_75 : decode cX0_copyPatch 75 = .ok (.aload_n 0, 1) := by decide +kernel
theorem dX0_copyPatch_76 : decode cX0_copyPatch 76 = .ok (.getfield 32, 3) := by decide +kernel
theorem dX0_copyPatch_79 : decode cX0_copyPatch 79 = .ok (.iload 7, 2) := by decide +kernel
theorem dX0_copyPatch_81 : decode cX0_copyPatch 81 = .ok (.iload 6, 2) := by decide +kernel
theorem dX0_copyPatch_83 : decode cX0_copyPatch 83 = .ok (.aload_n 0, 1) := by decide +kernel
theorem dX0_copyPatch_84 : decode cX0_copyPatch 84 = .ok (.getfield 32, 3) := by decide +kernel
theorem dX0_copyPatch_87 : decode cX0_copyPatch 87 = .ok (.getfield 128, 3) := by decide +kernel
theorem dX0_copyPatch_90 : decode cX0_copyPatch 90 = .ok (.invokevirtual 131, 3) := by decide +kernel
theorem dX0_copyPatch_93 : decode cX0_copyPatch 93 = .ok (.iadd, 1) := by decide +kernel
theorem dX0_copyPatch_94 : decode cX0_copyPatch 94 = .ok (.istore 10, 2) := by decide +kernel
theorem dX0_copyPatch_96 : decode cX0_copyPatch 96 = .ok (.aload_n 1, 1) := by decide +kernel
theorem dX0_copyPatch_97 : decode cX0_copyPatch 97 = .ok (.getfield 135, 3) := by decide +kernel
theorem dX0_copyPatch_100 : decode cX0_copyPatch 100 = .ok (.iload 10, 2) := by decide +kernel
theorem dX0_copyPatch_102 : decode cX0_copyPatch 102 = .ok (.iaload, 1) := by decide +kernel
theorem dX0_copyPatch_103 : decode cX0_copyPatch 103 = .ok (.aload_n 0, 1) := by decide +kernel
theorem dX0_copyPatch_104 : decode cX0_copyPatch 104 = .ok (.getfield 32, 3) := by decide +kernel
theorem dX0_copyPatch_107 : decode cX0_copyPatch 107 = .ok (.getfield 138, 3) := by decide +kernel
theorem dX0_copyPatch_110 : decode cX0_copyPatch 110 = .ok (.iadd, 1) := by decide +kernel
theorem dX0_copyPatch_111 : decode cX0_copyPatch 111 = .ok (.istore 11, 2) := by decide +kernel
theorem dX0_copyPatch_113 : decode cX0_copyPatch 113 = .ok (.iconst 0, 1) := by decide +kernel
theorem dX0_copyPatch_114 : decode cX0_copyPatch 114 = .ok (.sipush 255, 3) := by decide +kernel
theorem dX0_copyPatch_117 : decode cX0_copyPatch 117 = .ok (.iload 11, 2) := by decide +kernel
theorem dX0_copyPatch_119 : decode cX0_copyPatch 119 = .ok (.invokestatic 141, 3) := by decide +kernel
theorem dX0_copyPatch_122 : decode cX0_copyPatch 122 = .ok (.invokestatic 147, 3) := by decide +kernel
theorem dX0_copyPatch_125 : decode cX0_copyPatch 125 = .ok (.istore 12, 2) := by decide +kernel
theorem dX0_copyPatch_127 : decode cX0_copyPatch 127 = .ok (.aload_n 1, 1) := by decide +kernel
theorem dX0_copyPatch_128 : decode cX0_copyPatch 128 = .ok (.aload_n 1, 1) := by decide +kernel
theorem dX0_copyPatch_129 : decode cX0_copyPatch 129 = .ok (.iload 8, 2) := by decide +kernel
theorem dX0_copyPatch_131 : decode cX0_copyPatch 131 = .ok (.iload 9, 2) := by decide +kernel
theorem dX0_copyPatch_133 : decode cX0_copyPatch 133 = .ok (.invokevirtual 150, 3) := by decide +kernel
theorem dX0_copyPatch_136 : decode cX0_copyPatch 136 = .ok (.iload 12, 2) := by decide +kernel
theorem dX0_copyPatch_138 : decode cX0_copyPatch 138 = .ok (.aload_n 0, 1) := by decide +kernel
theorem dX0_copyPatch_139 : decode cX0_copyPatch 139 = .ok (.getfield 28, 3) := by decide +kernel
theorem dX0_copyPatch_142 : decode cX0_copyPatch 142 = .ok (.getfield 106, 3) := by decide +kernel
theorem dX0_copyPatch_145 : decode cX0_copyPatch 145 = .ok (.iload 10, 2) := by decide +kernel
theorem dX0_copyPatch_147 : decode cX0_copyPatch 147 = .ok (.iload_n 3, 1) := by decide +kernel
theorem dX0_copyPatch_148 : decode cX0_copyPatch 148 = .ok (.invokevirtual 153, 3) := by decide +kernel
theorem dX0_copyPatch_151 : decode cX0_copyPatch 151 = .ok (.iinc 5 1, 3) := by decide +kernel
theorem dX0_copyPatch_154 : decode cX0_copyPatch 154 = .ok (.iinc 7 1, 3) := by decide +kernel
theorem dX0_copyPatch_157 : decode cX0_copyPatch 157 = .ok (.goto (-131), 3) := by decide +kernel
theorem dX0_copyPatch_160 : decode cX0_copyPatch 160 = .ok (.iinc 6 1, 3) := by decide +kernel
theorem dX0_copyPatch_163 : decode cX0_copyPatch 163 = .ok (.goto (-149), 3) := by decide +kernel
theorem dX0_copyPatch_166 : decode cX0_copyPatch 166 = .ok (.iload 5, 2) := by decide +kernel
theorem dX0_copyPatch_168 : decode cX0_copyPatch 168 = .ok (.ireturn, 1) := by decide +kernel
set_option maxHeartbeats 4000000 in
set_option maxRecDepth 100000 in
theorem tX0_copyPatch {l : Launch} {g : yG} {n : Nat} {σ : yM} (k cs : Nat) (w h : Int) (T S F P O : Int → Int → Int) (s re fo ra tu we sh : Int) (hn : 172 ≤ n) (hP : isPic k) (hcs : isSet cs) (hA : rC σ k w h T S F P O) (hS : rS σ cs s re fo ra tu we sh) (hk : k + 5 < 120 ∨ 130 < k) (hc2 : cs < 120 ∨ 130 < cs) (ax ay : Int) (hB : rA σ k cs ax ay) (hck : cs < k ∨ k + 5 < cs) (bx by_ bw bs st nm : Int) (h12 : σ 123 12 = by_ * w + bx) (h13 : σ 123 13 = bw) (h15 : σ 123 15 = bs) (h0 : σ 120 0 = st) (hpl : sPl w h T s bx by_) (hbi : sIn w h bx by_ = true) (hbw : 0 ≤ bw ∧ bw < 8) (hbs : -255 ≤ bs ∧ bs ≤ 255) (hst : 0 ≤ st ∧ st ≤ 1000) (hnm : 0 < nm ∧ nm < 2147483648) (hi : sIn w h ax ay = true) : yMet l g yX0_copyPatch cX0_copyPatch 13 (some .int) (rmL 3) [yR g 131, yR g k, yR g cs, yI nm] (SC g) n σ (SC g) (yPi (fun v n' σ' => n' = n ∧ v = fN w h T s ax ay ∧ fc (k + 1) (k + 5) σ σ' ∧ rC σ' k w h (fT w h T (inP s ax ay) bx by_ bw bs ax ay) (fC w h T (inP s ax ay) S st) (fC w h T (inP s ax ay) F nm) (fP w h T (inP s ax ay) P bx by_ bw ax ay) (fO w h T F O (inP s ax ay) bx by_ bw ax ay))) := by
  obtain ⟨hw1, hw2, hw3, hw4⟩ := id hA.1.1
  obtain ⟨hs1, hs2, hs3, hs4, hs5, hs6, hs7⟩ := id hS.2
  have zkn : k < n := by have := hP.1; omega
  have zcsn : cs < n := by have := hcs.1; omega
  have z123 : 123 < n := by omega
  have z124 : 124 < n := by omega
  have z125 : 125 < n := by omega
  have z126 : 126 < n := by omega
  have z127 : 127 < n := by omega
  have zkn1 : k + 1 < n := by have := hP.1; omega
  have zkn2 : k + 2 < n := by have := hP.1; omega
  have zkn3 : k + 3 < n := by have := hP.1; omega
  have zkn4 : k + 4 < n := by have := hP.1; omega
  have zkn5 : k + 5 < n := by have := hP.1; omega
  have z131 : 131 < n := by omega
  have z120 : 120 < n := by omega
  have z121 : 121 < n := by omega
  have z122 : 122 < n := by omega
  have zi := sIn_iff.mp hi
  have zbi := sIn_iff.mp hbi
  refine y_start (by decide) (Nat.le_of_ble_eq_true rfl) (fun X0 hF => ?_)
  show yV X0 g 13 (yQ X0 g (SC g) (yPi (fun v n' σ' => n' = n ∧ v = fN w h T s ax ay ∧ fc (k + 1) (k + 5) σ σ' ∧ rC σ' k w h (fT w h T (inP s ax ay) bx by_ bw bs ax ay) (fC w h T (inP s ax ay) S st) (fC w h T (inP s ax ay) F nm) (fP w h T (inP s ax ay) P bx by_ bw ax ay) (fO w h T F O (inP s ax ay) bx by_ bw ax ay))) (rmL 3)) (SC g) n σ 0 0 0 [(0, yR g 131), (1, yR g k), (2, yR g cs), (3, yI nm)] []
  refine y_aload_n (pc := 0) hF dX0_copyPatch_0 2 rfl ?_
  refine y_getN (pc := 1) (ci := 7) hF dX0_copyPatch_1 zcsn (hcs.2 g) rfl rfl iX7 0 (by decide) w_166 rfl ?_
  rw [show σ cs 0 = s from hS.1.1]
  refine y_istore (pc := 4) (lv' := [(0, yR g 131), (1, yR g k), (2, yR g cs), (3, yI nm), (4, yI s)]) hF dX0_copyPatch_4 (by decide) rfl rfl ?_
  refine y_iconst (pc := 6) hF dX0_copyPatch_6 ?_
  refine y_istore (pc := 7) (lv' := [(0, yR g 131), (1, yR g k), (2, yR g cs), (3, yI nm), (4, yI s), (5, yI 0)]) hF dX0_copyPatch_7 (by decide) rfl rfl ?_
  refine y_iload (pc := 9) hF dX0_copyPatch_9 4 rfl ?_
  refine y_ineg (pc := 11) hF dX0_copyPatch_11 ?_
  refine y_istore (pc := 12) (lv' := [(0, yR g 131), (1, yR g k), (2, yR g cs), (3, yI nm), (4, yI s), (5, yI 0), (6, yI (-s))]) hF dX0_copyPatch_12 (by decide) rfl rfl ?_
  have zL14 : ∀ (N : Nat) (τ : yM) (b c : Int), N = (s + 1 - b).toNat → (fc (k + 1) (k + 5) σ τ ∧ (-s ≤ b ∧ b ≤ s + 1) ∧ rC τ k w h (fT w h T (dD s ax ay (ax - s) (ay + b)) bx by_ bw bs ax ay) (fC w h T (dD s ax ay (ax - s) (ay + b)) S st) (fC w h T (dD s ax ay (ax - s) (ay + b)) F nm) (fP w h T (dD s ax ay (ax - s) (ay + b)) P bx by_ bw ax ay) (fO w h T F O (dD s ax ay (ax - s) (ay + b)) bx by_ bw ax ay) ∧ c = fr (fun c j => fr (fun c i => c + bi (sMi w h T i j)) (ax - s) (2 * s + 1).toNat c) (ay - s) (ay + b - (ay - s)).toNat 0) → yV X0 g 13 (yQ X0 g (SC g) (yPi (fun v n' σ' => n' = n ∧ v = fN w h T s ax ay ∧ fc (k + 1) (k + 5) σ σ' ∧ rC σ' k w h (fT w h T (inP s ax ay) bx by_ bw bs ax ay) (fC w h T (inP s ax ay) S st) (fC w h T (inP s ax ay) F nm) (fP w h T (inP s ax ay) P bx by_ bw ax ay) (fO w h T F O (inP s ax ay) bx by_ bw ax ay))) (rmL 3)) (SC g) n τ 0 0 14 [(0, yR g 131), (1, yR g k), (2, yR g cs), (3, yI nm), (4, yI s), (5, yI c), (6, yI b)] [] := by
    intro N
    induction N using Nat.strongRecOn with
    | ind N zh14 =>
      intro τ  b c  zN14 zI14
      have zB_τ := hB.fc (by omega) zI14.1
      have zS_τ := hS.fc (by omega) zI14.1
      have z0_τ : τ 120 0 = st := by rw [zI14.1 120 (by omega)]; exact h0
      have z12_τ : τ 123 12 = by_ * w + bx := by rw [zI14.1 123 (by omega)]; exact h12
      have z13_τ : τ 123 13 = bw := by rw [zI14.1 123 (by omega)]; exact h13
      have z15_τ : τ 123 15 = bs := by rw [zI14.1 123 (by omega)]; exact h15
      refine y_iload (pc := 14) hF dX0_copyPatch_14 6 rfl ?_
      refine y_iload (pc := 16) hF dX0_copyPatch_16 4 rfl ?_
      refine y_icmp_gt (pc := 18) hF dX0_copyPatch_18 166 rfl (by omega) (by omega) (fun zc18 => ?_) (fun zc18 => ?_)
      · skip
        refine y_iload (pc := 166) hF dX0_copyPatch_166 5 rfl ?_
        exact y_iret (pc := 168) hF dX0_copyPatch_168 (Nat.zero_le _) (Nat.zero_le _) ⟨_, rfl, rfl, by rw [zI14.2.2.2, show ay + b - (ay - s) = 2 * s + 1 by omega]; rfl, zI14.1, by have zq := zI14.2.2.1; rw [dD_all (by omega)] at zq; exact zq⟩
      · skip
        refine y_iload (pc := 21) hF dX0_copyPatch_21 4 rfl ?_
        refine y_ineg (pc := 23) hF dX0_copyPatch_23 ?_
        refine y_istore (pc := 24) (lv' := [(0, yR g 131), (1, yR g k), (2, yR g cs), (3, yI nm), (4, yI s), (5, yI c), (6, yI b), (7, yI (-s))]) hF dX0_copyPatch_24 (by decide) rfl rfl ?_
        have zL26 : ∀ (N : Nat) (υ : yM) (a c2 : Int), N = (s + 1 - a).toNat → (fc (k + 1) (k + 5) σ υ ∧ (-s ≤ a ∧ a ≤ s + 1) ∧ rC υ k w h (fT w h T (dD s ax ay (ax + a) (ay + b)) bx by_ bw bs ax ay) (fC w h T (dD s ax ay (ax + a) (ay + b)) S st) (fC w h T (dD s ax ay (ax + a) (ay + b)) F nm) (fP w h T (dD s ax ay (ax + a) (ay + b)) P bx by_ bw ax ay) (fO w h T F O (dD s ax ay (ax + a) (ay + b)) bx by_ bw ax ay) ∧ c2 = fr (fun c i => c + bi (sMi w h T i (ay + b))) (ax - s) (ax + a - (ax - s)).toNat c) → yV X0 g 13 (yQ X0 g (SC g) (yPi (fun v n' σ' => n' = n ∧ v = fN w h T s ax ay ∧ fc (k + 1) (k + 5) σ σ' ∧ rC σ' k w h (fT w h T (inP s ax ay) bx by_ bw bs ax ay) (fC w h T (inP s ax ay) S st) (fC w h T (inP s ax ay) F nm) (fP w h T (inP s ax ay) P bx by_ bw ax ay) (fO w h T F O (inP s ax ay) bx by_ bw ax ay))) (rmL 3)) (SC g) n υ 0 0 26 [(0, yR g 131), (1, yR g k), (2, yR g cs), (3, yI nm), (4, yI s), (5, yI c2), (6, yI b), (7, yI a)] [] := by
          intro N
          induction N using Nat.strongRecOn with
          | ind N zh26 =>
            intro υ  a c2  zN26 zI26
            have zB_υ := hB.fc (by omega) zI26.1
            have zS_υ := hS.fc (by omega) zI26.1
            have z0_υ : υ 120 0 = st := by rw [zI26.1 120 (by omega)]; exact h0
            have z12_υ : υ 123 12 = by_ * w + bx := by rw [zI26.1 123 (by omega)]; exact h12
            have z13_υ : υ 123 13 = bw := by rw [zI26.1 123 (by omega)]; exact h13
            have z15_υ : υ 123 15 = bs := by rw [zI26.1 123 (by omega)]; exact h15
            refine y_iload (pc := 26) hF dX0_copyPatch_26 7 rfl ?_
            refine y_iload (pc := 28) hF dX0_copyPatch_28 4 rfl ?_
            refine y_icmp_gt (pc := 30) hF dX0_copyPatch_30 160 rfl (by omega) (by omega) (fun zc30 => ?_) (fun zc30 => ?_)
            · skip
              refine y_iinc (pc := 160) (lv' := [(0, yR g 131), (1, yR g k), (2, yR g cs), (3, yI nm), (4, yI s), (5, yI c2), (6, yI (b + 1)), (7, yI a)]) hF dX0_copyPatch_160 6 rfl (by decide) rfl rfl ?_
              refine y_goto (pc := 163) hF dX0_copyPatch_163 14 rfl ?_
              refine y_sub [0, 1, 2, 3, 4, 5, 6] rfl ?_
              exact zh14 _ (by omega) υ (b + 1) (c2) rfl ⟨zI26.1, by omega, by rw [show ay + (b + 1) = ay + b + 1 by omega, ← dD_row (i := ax + a) (by omega)]; exact zI26.2.2.1, by rw [show ay + (b + 1) = ay + b + 1 by omega, fr_up' _ _ (by omega), ← zI14.2.2.2, zI26.2.2.2, show ax + a - (ax - s) = 2 * s + 1 by omega]⟩
            · skip
              refine y_aload_n (pc := 33) hF dX0_copyPatch_33 0 rfl ?_
              refine y_get (pc := 34) (ci := 0) hF dX0_copyPatch_34 z131 rfl rfl rfl iX0 1 (by decide) w_470 rfl ?_
              refine y_getN (pc := 37) (ci := 6) hF dX0_copyPatch_37 z123 rfl rfl rfl iX6 2 (by decide) w_365 rfl ?_
              rw [show υ 123 2 = ax from zB_υ.2.2.1]
              refine y_iload (pc := 40) hF dX0_copyPatch_40 7 rfl ?_
              refine y_iadd (pc := 42) hF dX0_copyPatch_42 ?_
              refine y_istore (pc := 43) (lv' := [(0, yR g 131), (1, yR g k), (2, yR g cs), (3, yI nm), (4, yI s), (5, yI c2), (6, yI b), (7, yI a), (8, yI (ax + a))]) hF dX0_copyPatch_43 (by decide) rfl rfl ?_
              refine y_aload_n (pc := 45) hF dX0_copyPatch_45 0 rfl ?_
              refine y_get (pc := 46) (ci := 0) hF dX0_copyPatch_46 z131 rfl rfl rfl iX0 1 (by decide) w_470 rfl ?_
              refine y_getN (pc := 49) (ci := 6) hF dX0_copyPatch_49 z123 rfl rfl rfl iX6 3 (by decide) w_368 rfl ?_
              rw [show υ 123 3 = ay from zB_υ.2.2.2]
              refine y_iload (pc := 52) hF dX0_copyPatch_52 6 rfl ?_
              refine y_iadd (pc := 54) hF dX0_copyPatch_54 ?_
              refine y_istore (pc := 55) (lv' := [(0, yR g 131), (1, yR g k), (2, yR g cs), (3, yI nm), (4, yI s), (5, yI c2), (6, yI b), (7, yI a), (8, yI (ax + a)), (9, yI (ay + b))]) hF dX0_copyPatch_55 (by decide) rfl rfl ?_
              refine y_aload_n (pc := 57) hF dX0_copyPatch_57 1 rfl ?_
              refine y_iload (pc := 58) hF dX0_copyPatch_58 8 rfl ?_
              refine y_iload (pc := 60) hF dX0_copyPatch_60 9 rfl ?_
              have zz62 := y_rV (pc := 62) hF (tX4_isMissing k w h (fT w h T (dD s ax ay (ax + a) (ay + b)) bx by_ bw bs ax ay) (fC w h T (dD s ax ay (ax + a) (ay + b)) S st) (fC w h T (dD s ax ay (ax + a) (ay + b)) F nm) (fP w h T (dD s ax ay (ax + a) (ay + b)) P bx by_ bw ax ay) (fO w h T F O (dD s ax ay (ax + a) (ay + b)) bx by_ bw ax ay) hn hP zI26.2.2.1 (ax + a) (ay + b) (by omega) (by omega)) dX0_copyPatch_62 zkn (hP.2 g).1 rfl rfl w_957 qX4_isMissing rfl ⟨Nat.le_of_ble_eq_true rfl, Nat.le_of_ble_eq_true rfl⟩ ⟨Nat.zero_le _, Nat.zero_le _⟩ (Nat.le_of_ble_eq_true rfl) rfl (rest := []) (cells := 0) (slots := 0) (lv := [(0, yR g 131), (1, yR g k), (2, yR g cs), (3, yI nm), (4, yI s), (5, yI c2), (6, yI b), (7, yI a), (8, yI (ax + a)), (9, yI (ay + b))])
              refine y_cp (zz62) ?_
              rw [show bi (sMi w h (fT w h T (dD s ax ay (ax + a) (ay + b)) bx by_ bw bs ax ay) (ax + a) (ay + b)) = bi (sMi w h T (ax + a) (ay + b)) from (by rw [fT_mi dD_self])]
              refine y_if_eq (pc := 65) hF dX0_copyPatch_65 154 rfl bi_r (fun zc65 => ?_) (fun zc65 => ?_)
              · replace zc65 := bi_0.mp zc65
                refine y_iinc (pc := 154) (lv' := [(0, yR g 131), (1, yR g k), (2, yR g cs), (3, yI nm), (4, yI s), (5, yI c2), (6, yI b), (7, yI (a + 1)), (8, yI (ax + a)), (9, yI (ay + b))]) hF dX0_copyPatch_154 7 rfl (by decide) rfl rfl ?_
                refine y_goto (pc := 157) hF dX0_copyPatch_157 26 rfl ?_
                refine y_sub [0, 1, 2, 3, 4, 5, 6, 7] rfl ?_
                exact zh26 _ (by omega) υ (a + 1) (c2) rfl ⟨zI26.1, by omega, by rw [show ax + (a + 1) = ax + a + 1 by omega, dD_next (inP_iff.mpr (by omega))]; exact rC_skip zc65 zI26.2.2.1, by rw [show ax + (a + 1) = ax + a + 1 by omega, fr_up' _ _ (by omega), ← zI26.2.2.2, zc65]; simp [bi]⟩
              · replace zc65 := bi_n0.mp zc65
                have zinp : inP s ax ay (ax + a) (ay + b) = true := inP_iff.mpr (by omega)
                have zmT := zc65
                have zij := sIn_iff.mp (sMi_in zmT)
                have zkq := hkn_at hpl zinp bw
                have zpi := sIn_iff.mp (sKn_in zkq)
                obtain ⟨p, hp⟩ : ∃ p, p = (by_ + wY bw (ax + a - ax) (ay + b - ay)) * w + (bx + wX bw (ax + a - ax) (ay + b - ay)) := ⟨_, rfl⟩
                have zpx := y_ix (w := w) (h := h) (x := bx + wX bw (ax + a - ax) (ay + b - ay)) (y := by_ + wY bw (ax + a - ax) (ay + b - ay)) ⟨hw1, hw2⟩ ⟨hw3, hw4⟩ (by omega) (by omega)
                rw [← hp] at zpx
                have zqx := y_ix (w := w) (h := h) (x := ax + a) (y := ay + b) ⟨hw1, hw2⟩ ⟨hw3, hw4⟩ (by omega) (by omega)
                have zhm := zI26.2.2.1.2.2.2 _ _ zpi.1 zpi.2.1 zpi.2.2.1 zpi.2.2.2
                rw [← hp] at zhm
                have zha := zI26.2.2.1.1.2 _ _ zpi.1 zpi.2.1 zpi.2.2.1 zpi.2.2.2
                have zne : p ≠ (ay + b) * w + (ax + a) := fun e => by { rw [hp] at e; have e2 := y_inj (w := w) (by omega) (by omega) e; have zk2 := zkq; rw [e2.1, e2.2] at zk2; simp only [sKn, sMi, Bool.and_eq_true, decide_eq_true_eq] at zk2 zmT; exact zk2.2 zmT.2 }
                have zrp : -2147483648 ≤ υ (k + 1) p + bs ∧ υ (k + 1) p + bs < 2147483648 := by rw [zhm.1]; omega
                have zrf : -2147483648 ≤ υ (k + 3) p ∧ υ (k + 3) p < 2147483648 := by rw [zhm.2.2.1]; omega
                have zrm : -2147483648 ≤ min 255 (υ (k + 1) p + bs) ∧ min 255 (υ (k + 1) p + bs) < 2147483648 := by omega
                refine y_aload_n (pc := 68) hF dX0_copyPatch_68 0 rfl ?_
                refine y_get (pc := 69) (ci := 0) hF dX0_copyPatch_69 z131 rfl rfl rfl iX0 1 (by decide) w_470 rfl ?_
                refine y_getN (pc := 72) (ci := 6) hF dX0_copyPatch_72 z123 rfl rfl rfl iX6 12 (by decide) w_380 rfl ?_
                rw [show υ 123 12 = by_ * w + bx from z12_υ]
                refine y_aload_n (pc := 75) hF dX0_copyPatch_75 0 rfl ?_
                refine y_get (pc := 76) (ci := 0) hF dX0_copyPatch_76 z131 rfl rfl rfl iX0 1 (by decide) w_470 rfl ?_
                refine y_iload (pc := 79) hF dX0_copyPatch_79 7 rfl ?_
                refine y_iload (pc := 81) hF dX0_copyPatch_81 6 rfl ?_
                refine y_aload_n (pc := 83) hF dX0_copyPatch_83 0 rfl ?_
                refine y_get (pc := 84) (ci := 0) hF dX0_copyPatch_84 z131 rfl rfl rfl iX0 1 (by decide) w_470 rfl ?_
                refine y_getN (pc := 87) (ci := 6) hF dX0_copyPatch_87 z123 rfl rfl rfl iX6 13 (by decide) w_384 rfl ?_
                rw [show υ 123 13 = bw from z13_υ]
                have zz90 := y_rV (pc := 90) hF (tX6_placeStep k cs w h (fT w h T (dD s ax ay (ax + a) (ay + b)) bx by_ bw bs ax ay) (fC w h T (dD s ax ay (ax + a) (ay + b)) S st) (fC w h T (dD s ax ay (ax + a) (ay + b)) F nm) (fP w h T (dD s ax ay (ax + a) (ay + b)) P bx by_ bw ax ay) (fO w h T F O (dD s ax ay (ax + a) (ay + b)) bx by_ bw ax ay) s re fo ra tu we sh hn hP hcs zI26.2.2.1 zS_υ hk hc2 ax ay zB_υ a b bw hbw) dX0_copyPatch_90 z123 rfl rfl rfl w_958 qX6_placeStep rfl ⟨Nat.le_of_ble_eq_true rfl, Nat.le_of_ble_eq_true rfl⟩ ⟨Nat.zero_le _, Nat.zero_le _⟩ (Nat.le_of_ble_eq_true rfl) rfl (rest := [yI (by_ * w + bx)]) (cells := 0) (slots := 0) (lv := [(0, yR g 131), (1, yR g k), (2, yR g cs), (3, yI nm), (4, yI s), (5, yI c2), (6, yI b), (7, yI a), (8, yI (ax + a)), (9, yI (ay + b))])
                refine y_cp (zz90) ?_
                refine y_iadd (pc := 93) hF dX0_copyPatch_93 ?_
                rw [show (by_ * w + bx) + (wY bw a b * w + wX bw a b) = p from (by rw [hp, show ax + a - ax = a by omega, show ay + b - ay = b by omega, Int.add_mul]; omega)]
                refine y_istore (pc := 94) (lv' := [(0, yR g 131), (1, yR g k), (2, yR g cs), (3, yI nm), (4, yI s), (5, yI c2), (6, yI b), (7, yI a), (8, yI (ax + a)), (9, yI (ay + b)), (10, yI p)]) hF dX0_copyPatch_94 (by decide) rfl rfl ?_
                refine y_aload_n (pc := 96) hF dX0_copyPatch_96 1 rfl ?_
                refine y_getN (pc := 97) (ci := 4) hF dX0_copyPatch_97 zkn (hP.2 g).1 rfl rfl iX4 2 (by decide) w_222 rfl ?_
                refine y_iload (pc := 100) hF dX0_copyPatch_100 10 rfl ?_
                refine y_iaload (pc := 102) hF dX0_copyPatch_102 zkn1 (hP.2 g).2.1 ⟨zpx.1, by show _ < (400 : Int); omega⟩ (by decide) ?_
                refine y_aload_n (pc := 103) hF dX0_copyPatch_103 0 rfl ?_
                refine y_get (pc := 104) (ci := 0) hF dX0_copyPatch_104 z131 rfl rfl rfl iX0 1 (by decide) w_470 rfl ?_
                refine y_getN (pc := 107) (ci := 6) hF dX0_copyPatch_107 z123 rfl rfl rfl iX6 15 (by decide) w_391 rfl ?_
                rw [show υ 123 15 = bs from z15_υ]
                refine y_iadd (pc := 110) hF dX0_copyPatch_110 ?_
                refine y_istore (pc := 111) (lv' := [(0, yR g 131), (1, yR g k), (2, yR g cs), (3, yI nm), (4, yI s), (5, yI c2), (6, yI b), (7, yI a), (8, yI (ax + a)), (9, yI (ay + b)), (10, yI p), (11, yI ((υ (k + 1) p) + bs))]) hF dX0_copyPatch_111 (by decide) rfl rfl ?_
                refine y_iconst (pc := 113) hF dX0_copyPatch_113 ?_
                refine y_sipush (pc := 114) hF dX0_copyPatch_114 (by decide) ?_
                refine y_iload (pc := 117) hF dX0_copyPatch_117 11 rfl ?_
                refine y_mmin (pc := 119) hF dX0_copyPatch_119 w_959 w_699 w_103 w_700 (Nat.le_of_ble_eq_true rfl) (Nat.le_of_ble_eq_true rfl) ⟨Nat.zero_le _, Nat.zero_le _⟩ (by decide) zrp ?_
                refine y_mmax (pc := 122) hF dX0_copyPatch_122 w_960 w_876 w_103 w_877 (Nat.le_of_ble_eq_true rfl) (Nat.le_of_ble_eq_true rfl) ⟨Nat.zero_le _, Nat.zero_le _⟩ (by decide) zrm ?_
                refine y_istore (pc := 125) (lv' := [(0, yR g 131), (1, yR g k), (2, yR g cs), (3, yI nm), (4, yI s), (5, yI c2), (6, yI b), (7, yI a), (8, yI (ax + a)), (9, yI (ay + b)), (10, yI p), (11, yI ((υ (k + 1) p) + bs)), (12, yI (max 0 (min 255 ((υ (k + 1) p) + bs))))]) hF dX0_copyPatch_125 (by decide) rfl rfl ?_
                refine y_aload_n (pc := 127) hF dX0_copyPatch_127 1 rfl ?_
                refine y_aload_n (pc := 128) hF dX0_copyPatch_128 1 rfl ?_
                refine y_iload (pc := 129) hF dX0_copyPatch_129 8 rfl ?_
                refine y_iload (pc := 131) hF dX0_copyPatch_131 9 rfl ?_
                have zz133 := y_rV (pc := 133) hF (tX4_at k w h (fT w h T (dD s ax ay (ax + a) (ay + b)) bx by_ bw bs ax ay) (fC w h T (dD s ax ay (ax + a) (ay + b)) S st) (fC w h T (dD s ax ay (ax + a) (ay + b)) F nm) (fP w h T (dD s ax ay (ax + a) (ay + b)) P bx by_ bw ax ay) (fO w h T F O (dD s ax ay (ax + a) (ay + b)) bx by_ bw ax ay) hn hP zI26.2.2.1 (ax + a) (ay + b)) dX0_copyPatch_133 zkn (hP.2 g).1 rfl rfl w_961 qX4_at rfl ⟨Nat.le_of_ble_eq_true rfl, Nat.le_of_ble_eq_true rfl⟩ ⟨Nat.zero_le _, Nat.zero_le _⟩ (Nat.le_of_ble_eq_true rfl) rfl (rest := [yR g k]) (cells := 0) (slots := 0) (lv := [(0, yR g 131), (1, yR g k), (2, yR g cs), (3, yI nm), (4, yI s), (5, yI c2), (6, yI b), (7, yI a), (8, yI (ax + a)), (9, yI (ay + b)), (10, yI p), (11, yI ((υ (k + 1) p) + bs)), (12, yI (max 0 (min 255 ((υ (k + 1) p) + bs))))])
                refine y_cp (zz133) ?_
                refine y_iload (pc := 136) hF dX0_copyPatch_136 12 rfl ?_
                refine y_aload_n (pc := 138) hF dX0_copyPatch_138 0 rfl ?_
                refine y_get (pc := 139) (ci := 0) hF dX0_copyPatch_139 z131 rfl rfl rfl iX0 0 (by decide) w_469 rfl ?_
                refine y_getN (pc := 142) (ci := 5) hF dX0_copyPatch_142 z120 rfl rfl rfl iX5 0 (by decide) w_314 rfl ?_
                rw [show υ 120 0 = st from z0_υ]
                refine y_iload (pc := 145) hF dX0_copyPatch_145 10 rfl ?_
                refine y_iload_n (pc := 147) hF dX0_copyPatch_147 3 rfl ?_
                refine y_cv (y_rV (pc := 148) hF (tX4_fillIn k hn hP ((ay + b) * w + (ax + a)) (max 0 (min 255 ((υ (k + 1) p) + bs))) st p nm (by omega) (by omega) zne zrf) dX0_copyPatch_148 zkn (hP.2 g).1 rfl rfl w_962 qX4_fillIn rfl ⟨Nat.le_of_ble_eq_true rfl, Nat.le_of_ble_eq_true rfl⟩ ⟨Nat.zero_le _, Nat.zero_le _⟩ (Nat.le_of_ble_eq_true rfl) rfl) rfl rfl (fun n' σ' zp148 => ?_)
                obtain ⟨zn148, rfl⟩ := zp148
                have zn148 := zn148.symm
                subst zn148
                refine y_iinc (pc := 151) (lv' := [(0, yR g 131), (1, yR g k), (2, yR g cs), (3, yI nm), (4, yI s), (5, yI (c2 + 1)), (6, yI b), (7, yI a), (8, yI (ax + a)), (9, yI (ay + b)), (10, yI p), (11, yI ((υ (k + 1) p) + bs)), (12, yI (max 0 (min 255 ((υ (k + 1) p) + bs))))]) hF dX0_copyPatch_151 5 rfl (by decide) rfl rfl ?_
                refine y_iinc (pc := 154) (lv' := [(0, yR g 131), (1, yR g k), (2, yR g cs), (3, yI nm), (4, yI s), (5, yI (c2 + 1)), (6, yI b), (7, yI (a + 1)), (8, yI (ax + a)), (9, yI (ay + b)), (10, yI p), (11, yI ((υ (k + 1) p) + bs)), (12, yI (max 0 (min 255 ((υ (k + 1) p) + bs))))]) hF dX0_copyPatch_154 7 rfl (by decide) rfl rfl ?_
                refine y_goto (pc := 157) hF dX0_copyPatch_157 26 rfl ?_
                refine y_sub [0, 1, 2, 3, 4, 5, 6, 7] rfl ?_
                exact zh26 _ (by omega) (fI υ k ((ay + b) * w + (ax + a)) (max 0 (min 255 ((υ (k + 1) p) + bs))) st p nm) (a + 1) (c2 + 1) rfl ⟨fI_fc zI26.1, by omega, by rw [show ax + (a + 1) = ax + a + 1 by omega, dD_next zinp]; exact rC_fill1 zI26.2.2.1 hA.1 hpl zinp zmT (fun a b hq => by unfold dD at hq; rw [Bool.and_eq_true] at hq; exact hq.1) hst hnm hp, by rw [show ax + (a + 1) = ax + a + 1 by omega, fr_up' _ _ (by omega), ← zI26.2.2.2, zmT]; rfl⟩
        exact zL26 _ τ (-s) (c) rfl ⟨zI14.1, by omega, by rw [show ax + -s = ax - s by omega]; exact zI14.2.2.1, by rw [show ax + -s = ax - s by omega]; exact (fr_no _ _ _).symm⟩
  exact zL14 _ σ (-s) (0) rfl ⟨fc.rf σ, by omega, by rw [dD_0 (by omega)]; exact hA, by rw [show ay + -s = ay - s by omega]; exact (fr_no _ _ _).symm⟩

theorem dX0_fillOnce_0 : decode cX0_fillOnce 0 = .ok (.aload_n 0, 1) := by decide +kernel
theorem dX0_fillOnce_1 : decode cX0_fillOnce 1 = .ok (.getfield 28, 3) := by decide +kernel
theorem dX0_fillOnce_4 : decode cX0_fillOnce 4 = .ok (.aload_n 1, 1) := by decide +kernel
theorem dX0_fillOnce_5 : decode cX0_fillOnce 5 = .ok (.aload_n 2, 1) := by decide +kernel
theorem dX0_fillOnce_6 : decode cX0_fillOnce 6 = .ok (.invokevirtual 59, 3) := by decide +kernel
theorem dX0_fillOnce_9 : decode cX0_fillOnce 9 = .ok (.aload_n 0, 1) := by decide +kernel
theorem dX0_fillOnce_10 : decode cX0_fillOnce 10 = .ok (.getfield 28, 3) := by decide +kernel
theorem dX0_fillOnce_13 : decode cX0_fillOnce 13 = .ok (.invokevirtual 65, 3) := by decide +kernel
theorem dX0_fillOnce_16 : decode cX0_fillOnce 16 = .ok (.istore 5, 2) := by decide +kernel
theorem dX0_fillOnce_18 : decode cX0_fillOnce 18 = .ok (.iload 5, 2) := by decide +kernel
theorem dX0_fillOnce_20 : decode cX0_fillOnce 20 = .ok (.iconst (-1), 1) := by decide +kernel
theorem dX0_fillOnce_21 : decode cX0_fillOnce 21 = .ok (.if_icmp .ne 5, 3) := by decide +kernel
theorem dX0_fillOnce_24 : decode cX0_fillOnce 24 = .ok (.iconst 0, 1) := by decide +kernel
theorem dX0_fillOnce_25 : decode cX0_fillOnce 25 = .ok (.ireturn, 1) := by decide +kernel
theorem dX0_fillOnce_26 : decode cX0_fillOnce 26 = .ok (.aload_n 1, 1) := by decide +kernel
theorem dX0_fillOnce_27 : decode cX0_fillOnce 27 = .ok (.aload_n 0, 1) := by decide +kernel
theorem dX0_fillOnce_28 : decode cX0_fillOnce 28 = .ok (.getfield 28, 3) := by decide +kernel
theorem dX0_fillOnce_31 : decode cX0_fillOnce 31 = .ok (.getfield 69, 3) := by decide +kernel
theorem dX0_fillOnce_34 : decode cX0_fillOnce 34 = .ok (.iload 5, 2) := by decide +kernel
theorem dX0_fillOnce_36 : decode cX0_fillOnce 36 = .ok (.iaload, 1) := by decide +kernel
theorem dX0_fillOnce_37 : decode cX0_fillOnce 37 = .ok (.invokevirtual 73, 3) := by decide +kernel
theorem dX0_fillOnce_40 : decode cX0_fillOnce 40 = .ok (.istore 6, 2) := by decide +kernel
theorem dX0_fillOnce_42 : decode cX0_fillOnce 42 = .ok (.aload_n 1, 1) := by decide +kernel
theorem dX0_fillOnce_43 : decode cX0_fillOnce 43 = .ok (.aload_n 0, 1) := by decide +kernel
theorem dX0_fillOnce_44 : decode cX0_fillOnce 44 = .ok (.getfield 28, 3) := by decide +kernel
theorem dX0_fillOnce_47 : decode cX0_fillOnce 47 = .ok (.getfield 69, 3) := by decide +kernel
theorem dX0_fillOnce_50 : decode cX0_fillOnce 50 = .ok (.iload 5, 2) := by decide +kernel
theorem dX0_fillOnce_52 : decode cX0_fillOnce 52 = .ok (.iaload, 1) := by decide +kernel
theorem dX0_fillOnce_53 : decode cX0_fillOnce 53 = .ok (.invokevirtual 77, 3) := by decide +kernel
theorem dX0_fillOnce_56 : decode cX0_fillOnce 56 = .ok (.istore 7, 2) := by decide +kernel
theorem dX0_fillOnce_58 : decode cX0_fillOnce 58 = .ok (.aload_n 0, 1) := by decide +kernel
theorem dX0_fillOnce_59 : decode cX0_fillOnce 59 = .ok (.getfield 28, 3) := by decide +kernel
theorem dX0_fillOnce_62 : decode cX0_fillOnce 62 = .ok (.aload_n 1, 1) := by decide +kernel
theorem dX0_fillOnce_63 : decode cX0_fillOnce 63 = .ok (.aload_n 2, 1) := by decide +kernel
theorem dX0_fillOnce_64 : decode cX0_fillOnce 64 = .ok (.iload 6, 2) := by decide +kernel
theorem dX0_fillOnce_66 : decode cX0_fillOnce 66 = .ok (.iload 7, 2) := by decide +kernel
theorem dX0_fillOnce_68 : decode cX0_fillOnce 68 = .ok (.invokevirtual 80, 3) := by decide +kernel
theorem dX0_fillOnce_71 : decode cX0_fillOnce 71 = .ok (.aload_n 0, 1) := by decide +kernel
theorem dX0_fillOnce_72 : decode cX0_fillOnce 72 = .ok (.getfield 32, 3) := by decide +kernel
theorem dX0_fillOnce_75 : decode cX0_fillOnce 75 = .ok (.aload_n 1, 1) := by decide +kernel
theorem dX0_fillOnce_76 : decode cX0_fillOnce 76 = .ok (.aload_n 2, 1) := by decide +kernel
theorem dX0_fillOnce_77 : decode cX0_fillOnce 77 = .ok (.iload 6, 2) := by decide +kernel
theorem dX0_fillOnce_79 : decode cX0_fillOnce 79 = .ok (.iload 7, 2) := by decide +kernel
theorem dX0_fillOnce_81 : decode cX0_fillOnce 81 = .ok (.invokevirtual 84, 3) := by decide +kernel
theorem dX0_fillOnce_84 : decode cX0_fillOnce 84 = .ok (.aload_n 3, 1) := by decide +kernel
theorem dX0_fillOnce_85 : decode cX0_fillOnce 85 = .ok (.ifnull 11, 3) := by decide +kernel
theorem dX0_fillOnce_88 : decode cX0_fillOnce 88 = .ok (.aload_n 0, 1) := by decide +kernel
theorem dX0_fillOnce_89 : decode cX0_fillOnce 89 = .ok (.getfield 32, 3) := by decide +kernel
theorem dX0_fillOnce_92 : decode cX0_fillOnce 92 = .ok (.aload_n 3, 1) := by decide +kernel
theorem dX0_fillOnce_93 : decode cX0_fillOnce 93 = .ok (.invokevirtual 89, 3) := by decide +kernel
theorem dX0_fillOnce_96 : decode cX0_fillOnce 96 = .ok (.aload_n 0, 1) := by decide +kernel
theorem dX0_fillOnce_97 : decode cX0_fillOnce 97 = .ok (.getfield 32, 3) := by decide +kernel
theorem dX0_fillOnce_100 : decode cX0_fillOnce 100 = .ok (.getfield 92, 3) := by decide +kernel
theorem dX0_fillOnce_103 : decode cX0_fillOnce 103 = .ok (.iconst (-1), 1) := by decide +kernel
theorem dX0_fillOnce_104 : decode cX0_fillOnce 104 = .ok (.if_icmp .ne 10, 3) := by decide +kernel
theorem dX0_fillOnce_107 : decode cX0_fillOnce 107 = .ok (.aload_n 0, 1) := by decide +kernel
theorem dX0_fillOnce_108 : decode cX0_fillOnce 108 = .ok (.getfield 32, 3) := by decide +kernel
theorem dX0_fillOnce_111 : decode cX0_fillOnce 111 = .ok (.invokevirtual 96, 3) := by decide +kernel
theorem dX0_fillOnce_114 : decode cX0_fillOnce 114 = .ok (.aload_n 0, 1) := by decide +kernel
theorem dX0_fillOnce_115 : decode cX0_fillOnce 115 = .ok (.getfield 32, 3) := by decide +kernel
theorem dX0_fillOnce_118 : decode cX0_fillOnce 118 = .ok (.getfield 92, 3) := by decide +kernel
theorem dX0_fillOnce_121 : decode cX0_fillOnce 121 = .ok (.iconst (-1), 1) := by decide +kernel
theorem dX0_fillOnce_122 : decode cX0_fillOnce 122 = .ok (.if_icmp .ne 5, 3) := by decide +kernel
theorem dX0_fillOnce_125 : decode cX0_fillOnce 125 = .ok (.iconst 0, 1) := by decide +kernel
theorem dX0_fillOnce_126 : decode cX0_fillOnce 126 = .ok (.ireturn, 1) := by decide +kernel
theorem dX0_fillOnce_127 : decode cX0_fillOnce 127 = .ok (.aload_n 0, 1) := by decide +kernel
theorem dX0_fillOnce_128 : decode cX0_fillOnce 128 = .ok (.aload_n 1, 1) := by decide +kernel
theorem dX0_fillOnce_129 : decode cX0_fillOnce 129 = .ok (.aload_n 2, 1) := by decide +kernel
theorem dX0_fillOnce_130 : decode cX0_fillOnce 130 = .ok (.aload 4, 2) := by decide +kernel
theorem dX0_fillOnce_132 : decode cX0_fillOnce 132 = .ok (.getfield 99, 3) := by decide +kernel
theorem dX0_fillOnce_135 : decode cX0_fillOnce 135 = .ok (.iconst 1, 1) := by decide +kernel
theorem dX0_fillOnce_136 : decode cX0_fillOnce 136 = .ok (.iadd, 1) := by decide +kernel
theorem dX0_fillOnce_137 : decode cX0_fillOnce 137 = .ok (.invokevirtual 102, 3) := by decide +kernel
theorem dX0_fillOnce_140 : decode cX0_fillOnce 140 = .ok (.istore 8, 2) := by decide +kernel
theorem dX0_fillOnce_142 : decode cX0_fillOnce 142 = .ok (.aload 4, 2) := by decide +kernel
theorem dX0_fillOnce_144 : decode cX0_fillOnce 144 = .ok (.aload_n 1, 1) := by decide +kernel
theorem dX0_fillOnce_145 : decode cX0_fillOnce 145 = .ok (.aload_n 0, 1) := by decide +kernel
theorem dX0_fillOnce_146 : decode cX0_fillOnce 146 = .ok (.getfield 32, 3) := by decide +kernel
theorem dX0_fillOnce_149 : decode cX0_fillOnce 149 = .ok (.iload 8, 2) := by decide +kernel
theorem dX0_fillOnce_151 : decode cX0_fillOnce 151 = .ok (.aload_n 0, 1) := by decide +kernel
theorem dX0_fillOnce_152 : decode cX0_fillOnce 152 = .ok (.getfield 28, 3) := by decide +kernel
theorem dX0_fillOnce_155 : decode cX0_fillOnce 155 = .ok (.getfield 106, 3) := by decide +kernel
theorem dX0_fillOnce_158 : decode cX0_fillOnce 158 = .ok (.invokevirtual 109, 3) := by decide +kernel
theorem dX0_fillOnce_161 : decode cX0_fillOnce 161 = .ok (.iconst 1, 1) := by decide +kernel
theorem dX0_fillOnce_162 : decode cX0_fillOnce 162 = .ok (.ireturn, 1) := by decide +kernel
set_option maxHeartbeats 4000000 in
set_option maxRecDepth 100000 in
theorem tX0_fillOnce {l : Launch} {g : yG} {n : Nat} {σ : yM} (k cs : Nat) (w h : Int) (T S F P O : Int → Int → Int) (s re fo ra tu we sh : Int) (hn : 172 ≤ n) (hP : isPic k) (hcs : isSet cs) (hA : rC σ k w h T S F P O) (hS : rS σ cs s re fo ra tu we sh) (hk : k + 5 < 120 ∨ 130 < k) (hc2 : cs < 120 ∨ 130 < cs) (hck : cs < k ∨ k + 5 < cs) (j : Nat) (nf df nl : Int) (lg : Int → Int → Int) (hj : isJou j) (hJ : rJ σ j nf df nl lg) (hjk : j + 1 < k ∨ k + 5 < j) (hj2 : j + 1 < 120 ∨ 131 < j) (hjc : cs < j ∨ j + 1 < cs) (hT : rT σ) (hnf : nf < 900000000) (hk3 : k + 5 < 120 ∨ 131 < k) (hc3 : cs < 120 ∨ 131 < cs) (k2 : Nat) (w2 h2 : Int) (T2 S2 F2 P2 O2 : Int → Int → Int) (hP2 : isPic k2) (hA2 : rC σ k2 w2 h2 T2 S2 F2 P2 O2) (hw2 : w2 = (w + 1) / 2) (hh2 : h2 = (h + 1) / 2) (hk2 : k2 + 5 < 120 ∨ 131 < k2) (hk2k : k2 + 5 < k ∨ k + 5 < k2) (hk2j : k2 + 5 < j ∨ j + 1 < k2) : yMet l g yX0_fillOnce cX0_fillOnce 9 (some .boolean) (rmL 5) [yR g 131, yR g k, yR g cs, yR g k2, yR g j] (SC g) n σ (SC g) (yPi (fun v n' σ' => n' = n ∧ rT σ' ∧ fF k j σ σ' ∧ ((fS w h s re fo ra tu we sh true F2 P2 (T, S, F, P, O, nf, df, nl, lg) = none ∧ v = 0 ∧ fc 120 127 σ σ') ∨ (∃ X' : aX, fS w h s re fo ra tu we sh true F2 P2 (T, S, F, P, O, nf, df, nl, lg) = some X' ∧ v = 1 ∧ rXc σ' k j w h X')))) := by
  obtain ⟨hw1, hw2, hw3, hw4⟩ := id hA.1.1
  obtain ⟨hs1, hs2, hs3, hs4, hs5, hs6, hs7⟩ := id hS.2
  have zkn : k < n := by have := hP.1; omega
  have zcsn : cs < n := by have := hcs.1; omega
  have z123 : 123 < n := by omega
  have z124 : 124 < n := by omega
  have z125 : 125 < n := by omega
  have z126 : 126 < n := by omega
  have z127 : 127 < n := by omega
  have zkn1 : k + 1 < n := by have := hP.1; omega
  have zkn2 : k + 2 < n := by have := hP.1; omega
  have zkn3 : k + 3 < n := by have := hP.1; omega
  have zkn4 : k + 4 < n := by have := hP.1; omega
  have zkn5 : k + 5 < n := by have := hP.1; omega
  have z131 : 131 < n := by omega
  have z120 : 120 < n := by omega
  have z121 : 121 < n := by omega
  have z122 : 122 < n := by omega
  have zjn : j < n := by have := hj.1; omega
  have zjn1 : j + 1 < n := by have := hj.1; omega
  have zj3 := hJ.2.2.1
  have zj4 := hJ.2.2.2.1
  refine y_start (by decide) (Nat.le_of_ble_eq_true rfl) (fun X0 hF => ?_)
  show yV X0 g 9 (yQ X0 g (SC g) (yPi (fun v n' σ' => n' = n ∧ rT σ' ∧ fF k j σ σ' ∧ ((fS w h s re fo ra tu we sh true F2 P2 (T, S, F, P, O, nf, df, nl, lg) = none ∧ v = 0 ∧ fc 120 127 σ σ') ∨ (∃ X' : aX, fS w h s re fo ra tu we sh true F2 P2 (T, S, F, P, O, nf, df, nl, lg) = some X' ∧ v = 1 ∧ rXc σ' k j w h X')))) (rmL 5)) (SC g) n σ 0 0 0 [(0, yR g 131), (1, yR g k), (2, yR g cs), (3, yR g k2), (4, yR g j)] []
  have zrk : ∀ x y : Int, 0 ≤ x → x < w → 0 ≤ y → y < h → -1 < sRk w h T S s ra x y := fun x y a b c d => (sRk_pos hA.1 ⟨by omega, hs1.2⟩ a b c d).1
  have zfm := fm_nx zrk
  have zgr : ∀ i : Int, 0 ≤ i → i < ((sFt w h T S s ra)).length → -2147483648 ≤ (gk (sFt w h T S s ra) i).2 ∧ (gk (sFt w h T S s ra) i).2 < 2147483648 := fun i a b => by have := sFt_rk hA.1 (s := s) (ra := ra) ⟨by omega, hs1.2⟩ a b; omega
  have zfl := sFt_len (w := w) (h := h) (T := T) (S := S) (s := s) (ra := ra) ⟨hw1, hw2⟩ ⟨hw3, hw4⟩
  have zfr : -2147483648 ≤ fm (sFt w h T S s ra) ∧ fm (sFt w h T S s ra) < 2147483648 := by omega
  refine y_aload_n (pc := 0) hF dX0_fillOnce_0 0 rfl ?_
  refine y_get (pc := 1) (ci := 0) hF dX0_fillOnce_1 z131 rfl rfl rfl iX0 0 (by decide) w_469 rfl ?_
  refine y_aload_n (pc := 4) hF dX0_fillOnce_4 1 rfl ?_
  refine y_aload_n (pc := 5) hF dX0_fillOnce_5 2 rfl ?_
  refine y_cv (y_rV (pc := 6) hF (tX5_lineUp k cs w h T S F P O s re fo ra tu we sh hn hP hcs hA hS hk hc2) dX0_fillOnce_6 z120 rfl rfl rfl w_851 qX5_lineUp rfl ⟨Nat.le_of_ble_eq_true rfl, Nat.le_of_ble_eq_true rfl⟩ ⟨Nat.zero_le _, Nat.zero_le _⟩ (Nat.le_of_ble_eq_true rfl) rfl) rfl rfl (fun n' σ6 zp6 => ?_)
  obtain ⟨zn6, zp6⟩ := zp6
  have zn6 := zn6.symm
  subst zn6
  have zA_σ6 := hA.fc (by omega) zp6.1
  have zS_σ6 := hS.fc (by omega) zp6.1
  refine y_aload_n (pc := 9) hF dX0_fillOnce_9 0 rfl ?_
  refine y_get (pc := 10) (ci := 0) hF dX0_fillOnce_10 z131 rfl rfl rfl iX0 0 (by decide) w_469 rfl ?_
  have zz13 := y_rV (pc := 13) hF (tX5_foremost (sFt w h T S s ra) hn zp6.2 zgr) dX0_fillOnce_13 z120 rfl rfl rfl w_886 qX5_foremost rfl ⟨Nat.le_of_ble_eq_true rfl, Nat.le_of_ble_eq_true rfl⟩ ⟨Nat.zero_le _, Nat.zero_le _⟩ (Nat.le_of_ble_eq_true rfl) rfl (rest := []) (cells := 0) (slots := 0) (lv := [(0, yR g 131), (1, yR g k), (2, yR g cs), (3, yR g k2), (4, yR g j)])
  refine y_cp (zz13) ?_
  refine y_istore (pc := 16) (lv' := [(0, yR g 131), (1, yR g k), (2, yR g cs), (3, yR g k2), (4, yR g j), (5, yI (fm (sFt w h T S s ra)))]) hF dX0_fillOnce_16 (by decide) rfl rfl ?_
  refine y_iload (pc := 18) hF dX0_fillOnce_18 5 rfl ?_
  refine y_iconst (pc := 20) hF dX0_fillOnce_20 ?_
  refine y_icmp_ne (pc := 21) hF dX0_fillOnce_21 26 rfl zfr (by decide) (fun zc21 => ?_) (fun zc21 => ?_)
  · skip
    have zfx := zfm.resolve_left (fun ze => zc21 ze.1)
    obtain ⟨x, hxe⟩ : ∃ v, v = (sNx w h T S s ra).1 := ⟨_, rfl⟩
    obtain ⟨y, hye⟩ : ∃ v, v = (sNx w h T S s ra).2.1 := ⟨_, rfl⟩
    rw [← hxe, ← hye] at zfx
    have zx : x ≠ -1 := by omega
    have zin : sIn w h x y = true := sIn_iff.mpr (by omega)
    have zi := sIn_iff.mp zin
    have zix := y_ix (w := w) (h := h) (x := x) (y := y) ⟨hw1, hw2⟩ ⟨hw3, hw4⟩ (by omega) (by omega)
    have zdm := y_dm (w := w) (y := y) (x := x) (by omega)
    have zri : -2147483648 ≤ y * w + x ∧ y * w + x < 2147483648 := by omega
    have zfd : σ6 121 (fm (sFt w h T S s ra)) = y * w + x := ((zp6.2.2.2 _ zfx.1 zfx.2.1).1).trans zfx.2.2.2.2
    have zstb := sSd_bd (s := s) (S := S) ⟨by omega, hs1.2⟩ zin hA.1.S
    refine y_aload_n (pc := 26) hF dX0_fillOnce_26 1 rfl ?_
    refine y_aload_n (pc := 27) hF dX0_fillOnce_27 0 rfl ?_
    refine y_get (pc := 28) (ci := 0) hF dX0_fillOnce_28 z131 rfl rfl rfl iX0 0 (by decide) w_469 rfl ?_
    refine y_getN (pc := 31) (ci := 5) hF dX0_fillOnce_31 z120 rfl rfl rfl iX5 7 (by decide) w_329 rfl ?_
    refine y_iload (pc := 34) hF dX0_fillOnce_34 5 rfl ?_
    refine y_iaload (pc := 36) hF dX0_fillOnce_36 z121 rfl ⟨zfx.1, by show _ < (400 : Int); omega⟩ (by decide) ?_
    rw [show σ6 121 (fm (sFt w h T S s ra)) = y * w + x from zfd]
    have zz37 := y_rV (pc := 37) hF (tX4_xOf k w h T S F P O hn hP zA_σ6 (y * w + x) zri) dX0_fillOnce_37 zkn (hP.2 g).1 rfl rfl w_890 qX4_xOf rfl ⟨Nat.le_of_ble_eq_true rfl, Nat.le_of_ble_eq_true rfl⟩ ⟨Nat.zero_le _, Nat.zero_le _⟩ (Nat.le_of_ble_eq_true rfl) rfl (rest := []) (cells := 0) (slots := 0) (lv := [(0, yR g 131), (1, yR g k), (2, yR g cs), (3, yR g k2), (4, yR g j), (5, yI (fm (sFt w h T S s ra)))])
    refine y_cp (zz37) ?_
    rw [show cx w (y * w + x) = x from (by unfold cx; rw [if_neg (by omega), zdm.1])]
    refine y_istore (pc := 40) (lv' := [(0, yR g 131), (1, yR g k), (2, yR g cs), (3, yR g k2), (4, yR g j), (5, yI (fm (sFt w h T S s ra))), (6, yI x)]) hF dX0_fillOnce_40 (by decide) rfl rfl ?_
    refine y_aload_n (pc := 42) hF dX0_fillOnce_42 1 rfl ?_
    refine y_aload_n (pc := 43) hF dX0_fillOnce_43 0 rfl ?_
    refine y_get (pc := 44) (ci := 0) hF dX0_fillOnce_44 z131 rfl rfl rfl iX0 0 (by decide) w_469 rfl ?_
    refine y_getN (pc := 47) (ci := 5) hF dX0_fillOnce_47 z120 rfl rfl rfl iX5 7 (by decide) w_329 rfl ?_
    refine y_iload (pc := 50) hF dX0_fillOnce_50 5 rfl ?_
    refine y_iaload (pc := 52) hF dX0_fillOnce_52 z121 rfl ⟨zfx.1, by show _ < (400 : Int); omega⟩ (by decide) ?_
    rw [show σ6 121 (fm (sFt w h T S s ra)) = y * w + x from zfd]
    have zz53 := y_rV (pc := 53) hF (tX4_yOf k w h T S F P O hn hP zA_σ6 (y * w + x) zri) dX0_fillOnce_53 zkn (hP.2 g).1 rfl rfl w_891 qX4_yOf rfl ⟨Nat.le_of_ble_eq_true rfl, Nat.le_of_ble_eq_true rfl⟩ ⟨Nat.zero_le _, Nat.zero_le _⟩ (Nat.le_of_ble_eq_true rfl) rfl (rest := []) (cells := 0) (slots := 0) (lv := [(0, yR g 131), (1, yR g k), (2, yR g cs), (3, yR g k2), (4, yR g j), (5, yI (fm (sFt w h T S s ra))), (6, yI x)])
    refine y_cp (zz53) ?_
    rw [show cy w (y * w + x) = y from (by unfold cy; rw [if_neg (by omega), zdm.2])]
    refine y_istore (pc := 56) (lv' := [(0, yR g 131), (1, yR g k), (2, yR g cs), (3, yR g k2), (4, yR g j), (5, yI (fm (sFt w h T S s ra))), (6, yI x), (7, yI y)]) hF dX0_fillOnce_56 (by decide) rfl rfl ?_
    refine y_aload_n (pc := 58) hF dX0_fillOnce_58 0 rfl ?_
    refine y_get (pc := 59) (ci := 0) hF dX0_fillOnce_59 z131 rfl rfl rfl iX0 0 (by decide) w_469 rfl ?_
    refine y_aload_n (pc := 62) hF dX0_fillOnce_62 1 rfl ?_
    refine y_aload_n (pc := 63) hF dX0_fillOnce_63 2 rfl ?_
    refine y_iload (pc := 64) hF dX0_fillOnce_64 6 rfl ?_
    refine y_iload (pc := 66) hF dX0_fillOnce_66 7 rfl ?_
    refine y_cv (y_rV (pc := 68) hF (tX5_measure k cs w h T S F P O s re fo ra tu we sh hn hP hcs zA_σ6 zS_σ6 hk hc2 x y zin) dX0_fillOnce_68 z120 rfl rfl rfl w_892 qX5_measure rfl ⟨Nat.le_of_ble_eq_true rfl, Nat.le_of_ble_eq_true rfl⟩ ⟨Nat.zero_le _, Nat.zero_le _⟩ (Nat.le_of_ble_eq_true rfl) rfl) rfl rfl (fun n' σ68 zp68 => ?_)
    obtain ⟨zn68, zp68⟩ := zp68
    have zn68 := zn68.symm
    subst zn68
    have zA_σ68 := zA_σ6.fc (by omega) zp68.1.fc
    have zS_σ68 := zS_σ6.fc (by omega) zp68.1.fc
    have zT68 : rT σ68 := (hT.fr (zp6.1 127 (by omega))).fr (zp68.1.fc 127 (by omega))
    have zst68 : σ68 120 0 = sSd w h S s x y := zp68.2.1
    refine y_aload_n (pc := 71) hF dX0_fillOnce_71 0 rfl ?_
    refine y_get (pc := 72) (ci := 0) hF dX0_fillOnce_72 z131 rfl rfl rfl iX0 1 (by decide) w_470 rfl ?_
    refine y_aload_n (pc := 75) hF dX0_fillOnce_75 1 rfl ?_
    refine y_aload_n (pc := 76) hF dX0_fillOnce_76 2 rfl ?_
    refine y_iload (pc := 77) hF dX0_fillOnce_77 6 rfl ?_
    refine y_iload (pc := 79) hF dX0_fillOnce_79 7 rfl ?_
    refine y_cv (y_rV (pc := 81) hF (tX6_aim k cs w h T S F P O s re fo ra tu we sh hn hP hcs zA_σ68 zS_σ68 hk hc2 zT68 x y zin) dX0_fillOnce_81 z123 rfl rfl rfl w_893 qX6_aim rfl ⟨Nat.le_of_ble_eq_true rfl, Nat.le_of_ble_eq_true rfl⟩ ⟨Nat.zero_le _, Nat.zero_le _⟩ (Nat.le_of_ble_eq_true rfl) rfl) rfl rfl (fun n' σ81 zp81 => ?_)
    obtain ⟨zn81, zp81⟩ := zp81
    have zn81 := zn81.symm
    subst zn81
    have zA_σ81 := zA_σ68.fc (by omega) zp81.1
    have zS_σ81 := zS_σ68.fc (by omega) zp81.1
    have zin2 : sIn w2 h2 (x / 2) (y / 2) = true := sIn_iff.mpr (by omega)
    have zA2 : rC σ81 k2 w2 h2 T2 S2 F2 P2 O2 := ((hA2.fc (by omega) zp6.1).fc (by omega) zp68.1.fc).fc (by omega) zp81.1
    have zq81 : σ81 123 12 = -1 := zp81.2.2.1
    have zJ114 : ∀ (τ5 : yM), (fc 123 127 σ68 τ5 ∧ rT τ5 ∧ rA τ5 k cs x y ∧ rQ τ5 w (sQ w h T S F s re fo tu we sh true F2 P2 x y) ∧ qOk w h T s (sQ w h T S F s re fo tu we sh true F2 P2 x y)) → yV X0 g 9 (yQ X0 g (SC g) (yPi (fun v n' σ' => n' = n ∧ rT σ' ∧ fF k j σ σ' ∧ ((fS w h s re fo ra tu we sh true F2 P2 (T, S, F, P, O, nf, df, nl, lg) = none ∧ v = 0 ∧ fc 120 127 σ σ') ∨ (∃ X' : aX, fS w h s re fo ra tu we sh true F2 P2 (T, S, F, P, O, nf, df, nl, lg) = some X' ∧ v = 1 ∧ rXc σ' k j w h X')))) (rmL 5)) (SC g) n τ5 0 0 114 [(0, yR g 131), (1, yR g k), (2, yR g cs), (3, yR g k2), (4, yR g j), (5, yI (fm (sFt w h T S s ra))), (6, yI x), (7, yI y)] [] := by
      intro τ5  zj
      obtain ⟨q, hq⟩ : ∃ q, q = (sQ w h T S F s re fo tu we sh true F2 P2 x y) := ⟨_, rfl⟩
      rw [← hq] at zj
      obtain ⟨bx, by_, bw, bs, bd, so, sk, sp, lo⟩ := q
      have zA_τ5 := zA_σ68.fc (by omega) zj.1
      have zS_τ5 := zS_σ68.fc (by omega) zj.1
      have zJ_τ5 := ((hJ.fc (by omega) zp6.1).fc (by omega) zp68.1.fc).fc (by omega) zj.1
      have zst5 : τ5 120 0 = sSd w h S s x y := by rw [zj.1 120 (by omega)]; exact zst68
      have zfF5 : fF k j σ τ5 := fun c a b d => by rw [zj.1 c (by omega), zp68.1.fc c (by omega), zp6.1 c (by omega)]
      have zr5 : -2147483648 ≤ τ5 123 12 ∧ τ5 123 12 < 2147483648 := by { rw [zj.2.2.2.1.1]; rcases zj.2.2.2.2.b with ze | ze; (rw [if_pos ze.1]; decide); (have ze2 := sIn_iff.mp ze.1; simp only at ze2; rw [if_neg (by omega)]; have := y_ix (w := w) (h := h) ⟨hw1, hw2⟩ ⟨hw3, hw4⟩ ⟨ze2.1, ze2.2.1⟩ ze2.2.2; omega) }
      refine y_aload_n (pc := 114) hF dX0_fillOnce_114 0 rfl ?_
      refine y_get (pc := 115) (ci := 0) hF dX0_fillOnce_115 z131 rfl rfl rfl iX0 1 (by decide) w_470 rfl ?_
      refine y_getN (pc := 118) (ci := 6) hF dX0_fillOnce_118 z123 rfl rfl rfl iX6 12 (by decide) w_380 rfl ?_
      refine y_iconst (pc := 121) hF dX0_fillOnce_121 ?_
      refine y_icmp_ne (pc := 122) hF dX0_fillOnce_122 127 rfl zr5 (by decide) (fun zc122 => ?_) (fun zc122 => ?_)
      · skip
        have zk := zj.2.2.2.2.1.resolve_left (fun ze => by have := ze.1; rw [zj.2.2.2.1.1, if_pos this] at zc122; exact zc122 rfl)
        have zbx := sIn_iff.mp zk.1
        have zb12 : τ5 123 12 = by_ * w + bx := by rw [zj.2.2.2.1.1, if_neg (by omega)]
        refine y_aload_n (pc := 127) hF dX0_fillOnce_127 0 rfl ?_
        refine y_aload_n (pc := 128) hF dX0_fillOnce_128 1 rfl ?_
        refine y_aload_n (pc := 129) hF dX0_fillOnce_129 2 rfl ?_
        refine y_aload (pc := 130) hF dX0_fillOnce_130 4 rfl ?_
        refine y_getN (pc := 132) (ci := 2) hF dX0_fillOnce_132 zjn (hj.2 g).1 rfl rfl iX2 0 (by decide) w_258 rfl ?_
        rw [show τ5 j 0 = nf from zJ_τ5.1]
        refine y_iconst (pc := 135) hF dX0_fillOnce_135 ?_
        refine y_iadd (pc := 136) hF dX0_fillOnce_136 ?_
        refine y_ci (y_rV (pc := 137) hF (tX0_copyPatch k cs w h T S F P O s re fo ra tu we sh hn hP hcs zA_τ5 zS_τ5 hk hc2 x y zj.2.2.1 hck bx by_ bw bs (sSd w h S s x y) (nf + 1) zb12 zj.2.2.2.1.2.1 zj.2.2.2.1.2.2.2.1 zst5 zk.2.1 zk.1 (by omega) zk.2.2.2.1 zstb (by omega) zin) dX0_fillOnce_137 z131 rfl rfl rfl w_953 qX0_copyPatch rfl ⟨Nat.le_of_ble_eq_true rfl, Nat.le_of_ble_eq_true rfl⟩ ⟨Nat.zero_le _, Nat.zero_le _⟩ (Nat.le_of_ble_eq_true rfl) rfl) rfl rfl (fun r137 n' σ137 zp137 => ?_)
        obtain ⟨zn137, zv137, zp137⟩ := zp137
        have zn137 := zn137.symm
        subst zn137
        subst zv137
        have zJ_σ137 := zJ_τ5.fc (by omega) zp137.1
        refine y_istore (pc := 140) (lv' := [(0, yR g 131), (1, yR g k), (2, yR g cs), (3, yR g k2), (4, yR g j), (5, yI (fm (sFt w h T S s ra))), (6, yI x), (7, yI y), (8, yI (fN w h T s x y))]) hF dX0_fillOnce_140 (by decide) rfl rfl ?_
        refine y_aload (pc := 142) hF dX0_fillOnce_142 4 rfl ?_
        refine y_aload_n (pc := 144) hF dX0_fillOnce_144 1 rfl ?_
        refine y_aload_n (pc := 145) hF dX0_fillOnce_145 0 rfl ?_
        refine y_get (pc := 146) (ci := 0) hF dX0_fillOnce_146 z131 rfl rfl rfl iX0 1 (by decide) w_470 rfl ?_
        refine y_iload (pc := 149) hF dX0_fillOnce_149 8 rfl ?_
        refine y_aload_n (pc := 151) hF dX0_fillOnce_151 0 rfl ?_
        refine y_get (pc := 152) (ci := 0) hF dX0_fillOnce_152 z131 rfl rfl rfl iX0 0 (by decide) w_469 rfl ?_
        refine y_getN (pc := 155) (ci := 5) hF dX0_fillOnce_155 z120 rfl rfl rfl iX5 0 (by decide) w_314 rfl ?_
        rw [show σ137 120 0 = sSd w h S s x y from (by rw [zp137.1 120 (by omega)]; exact zst5)]
        refine y_cv (y_rV (pc := 158) hF (tX2_record k j w h (fT w h T (inP s x y) bx by_ bw bs x y) (fC w h T (inP s x y) S (sSd w h S s x y)) (fC w h T (inP s x y) F (nf + 1)) (fP w h T (inP s x y) P bx by_ bw x y) (fO w h T F O (inP s x y) bx by_ bw x y) nf df nl lg hn hP hj zp137.2 zJ_σ137 hjk (by omega) x y bx by_ bw bs bd (fN w h T s x y) (sSd w h S s x y) (by rw [zp137.1 123 (by omega)]; exact zj.2.2.1.2.2.1) (by rw [zp137.1 123 (by omega)]; exact zj.2.2.1.2.2.2) (by rw [zp137.1 123 (by omega)]; exact zb12) (by rw [zp137.1 123 (by omega)]; exact zj.2.2.2.1.2.1) (by rw [zp137.1 123 (by omega)]; exact zj.2.2.2.1.2.2.1) (by rw [zp137.1 123 (by omega)]; exact zj.2.2.2.1.2.2.2.1) zk.1 zk.2.2.2.2.1 (by omega)) dX0_fillOnce_158 zjn (hj.2 g).1 rfl rfl w_966 qX2_record rfl ⟨Nat.le_of_ble_eq_true rfl, Nat.le_of_ble_eq_true rfl⟩ ⟨Nat.zero_le _, Nat.zero_le _⟩ (Nat.le_of_ble_eq_true rfl) rfl) rfl rfl (fun n' σ158 zp158 => ?_)
        obtain ⟨zn158, zp158⟩ := zp158
        have zn158 := zn158.symm
        subst zn158
        refine y_iconst (pc := 161) hF dX0_fillOnce_161 ?_
        exact y_zret (pc := 162) hF dX0_fillOnce_162 (by decide) (Nat.zero_le _) (Nat.zero_le _) ⟨_, rfl, rfl, (zj.2.1.fr (zp137.1 127 (by omega))).fr (zp158.1 127 (by omega)), fun c a b d => by rw [zp158.1 c (by omega), zp137.1 c (by omega)]; exact zfF5 c a b d, Or.inr ⟨fX w h s x y (sSd w h S s x y) (sQ w h T S F s re fo tu we sh true F2 P2 x y) (T, S, F, P, O, nf, df, nl, lg), by unfold fS; simp only; rw [← hxe, ← hye, if_neg zx, if_neg (by rw [← hq]; show ¬ bx = -1; omega)], rfl, by rw [← hq]; exact ⟨zp137.2.fc (by omega) zp158.1, zp158.2⟩⟩⟩
      · skip
        refine y_iconst (pc := 125) hF dX0_fillOnce_125 ?_
        exact y_zret (pc := 126) hF dX0_fillOnce_126 (by decide) (Nat.zero_le _) (Nat.zero_le _) ⟨_, rfl, rfl, zj.2.1, zfF5, Or.inl ⟨by unfold fS; simp only; rw [← hxe, ← hye, if_neg zx, if_pos (by rw [← hq]; rcases zj.2.2.2.2.b with ze | ze; exact ze.1; exfalso; have ze2 := sIn_iff.mp ze.1; simp only at ze2; have zb := zj.2.2.2.1.1; rw [if_neg (by omega)] at zb; have := y_ix (w := w) (h := h) ⟨hw1, hw2⟩ ⟨hw3, hw4⟩ ⟨ze2.1, ze2.2.1⟩ ze2.2.2; omega)], rfl, fun c a => by rw [zj.1 c (by omega), zp68.1.fc c (by omega), zp6.1 c (by omega)]⟩⟩
    refine y_aload_n (pc := 84) hF dX0_fillOnce_84 3 rfl ?_
    refine y_ifnull (pc := 85) hF dX0_fillOnce_85 ?_
    refine y_aload_n (pc := 88) hF dX0_fillOnce_88 0 rfl ?_
    refine y_get (pc := 89) (ci := 0) hF dX0_fillOnce_89 z131 rfl rfl rfl iX0 1 (by decide) w_470 rfl ?_
    refine y_aload_n (pc := 92) hF dX0_fillOnce_92 3 rfl ?_
    refine y_cv (y_rV (pc := 93) hF (tX6_scanGuided k cs w h T S F P O s re fo ra tu we sh hn hP hcs zA_σ81 zS_σ81 hk hc2 x y zp81.2.1.1 k2 w2 h2 T2 S2 F2 P2 O2 hP2 zA2 zin2 zin zp81.2.1.2.2.1 zp81.2.1.2.2.2 q0 zp81.2.2 (qOk_q0 _ _ _ _) (by decide)) dX0_fillOnce_93 z123 rfl rfl rfl w_919 qX6_scanGuided rfl ⟨Nat.le_of_ble_eq_true rfl, Nat.le_of_ble_eq_true rfl⟩ ⟨Nat.zero_le _, Nat.zero_le _⟩ (Nat.le_of_ble_eq_true rfl) rfl) rfl rfl (fun n' σ93 zp93 => ?_)
    obtain ⟨zn93, zp93⟩ := zp93
    have zn93 := zn93.symm
    subst zn93
    have zA_σ93 := zA_σ81.fc (by omega) zp93.1.fc
    have zS_σ93 := zS_σ81.fc (by omega) zp93.1.fc
    have zgq : rQ σ93 w (gu1 w h T S F s fo tu we sh x y (F2 (x / 2) (y / 2)) (P2 (x / 2) (y / 2))) := zp93.2.1
    have zgo : qOk w h T s (gu1 w h T S F s fo tu we sh x y (F2 (x / 2) (y / 2)) (P2 (x / 2) (y / 2))) := zp93.2.2
    have zgc := zgo.b
    have zgd := gu1_q0 (w := w) (h := h) (T := T) (S := S) (F := F) (s := s) (fo := fo) (we := we) (sh := sh) (x := x) (y := y) (f := F2 (x / 2) (y / 2)) (p := P2 (x / 2) (y / 2)) hs5
    have zgb := zgq.b
    have zr93 : -2147483648 ≤ σ93 123 12 ∧ σ93 123 12 < 2147483648 := by { rw [zgb]; rcases zgc with ze | ze; (rw [if_pos ze.1]; decide); (have ze2 := sIn_iff.mp ze.1; rw [if_neg (by omega)]; have := y_ix (w := w) (h := h) ⟨hw1, hw2⟩ ⟨hw3, hw4⟩ ⟨ze2.1, ze2.2.1⟩ ze2.2.2; omega) }
    refine y_aload_n (pc := 96) hF dX0_fillOnce_96 0 rfl ?_
    refine y_get (pc := 97) (ci := 0) hF dX0_fillOnce_97 z131 rfl rfl rfl iX0 1 (by decide) w_470 rfl ?_
    refine y_getN (pc := 100) (ci := 6) hF dX0_fillOnce_100 z123 rfl rfl rfl iX6 12 (by decide) w_380 rfl ?_
    refine y_iconst (pc := 103) hF dX0_fillOnce_103 ?_
    refine y_icmp_ne (pc := 104) hF dX0_fillOnce_104 114 rfl zr93 (by decide) (fun zc104 => ?_) (fun zc104 => ?_)
    · skip
      exact zJ114 σ93 ⟨(zp81.1.tr (zp93.1.fc.wk (by omega) (by omega))), zp81.2.1.2.1.fr (zp93.1.fc 127 (by omega)), zp81.2.1.1.fr (fun q _ _ => zp93.1 123 q (by omega)), by rw [show (sQ w h T S F s re fo tu we sh true F2 P2 x y) = gu1 w h T S F s fo tu we sh x y (F2 (x / 2) (y / 2)) (P2 (x / 2) (y / 2)) from gu1_yes (by { rcases zgc with ze | ze; (rw [if_pos ze.1] at zgb; omega); exact ze.2 })]; exact zp93.2⟩
    · skip
      have zg0 : gu1 w h T S F s fo tu we sh x y (F2 (x / 2) (y / 2)) (P2 (x / 2) (y / 2)) = q0 := by { rcases zgd with ze | ze; exact ze; exfalso; rcases zgc with zf | zf; (omega); (have ze2 := sIn_iff.mp zf.1; rw [if_neg (by omega)] at zgb; have := y_ix (w := w) (h := h) ⟨hw1, hw2⟩ ⟨hw3, hw4⟩ ⟨ze2.1, ze2.2.1⟩ ze2.2.2; omega) }
      have zQ93 : rQ σ93 w q0 := by rw [← zg0]; exact zgq
      have zB93 := zp81.2.1.1.fr (σ' := σ93) (fun q _ _ => zp93.1 123 q (by omega))
      have zU93 := zp81.2.1.2.2.1.fr (zp93.1.fc 127 (by omega))
      have zG93 := zp81.2.1.2.2.2.fk10 zp93.1
      refine y_aload_n (pc := 107) hF dX0_fillOnce_107 0 rfl ?_
      refine y_get (pc := 108) (ci := 0) hF dX0_fillOnce_108 z131 rfl rfl rfl iX0 1 (by decide) w_470 rfl ?_
      refine y_cv (y_rV (pc := 111) hF (tX6_scanInReach k cs w h T S F P O s re fo ra tu we sh hn hP hcs zA_σ93 zS_σ93 hk hc2 x y zB93 zin zU93 zG93 q0 zQ93 (qOk_q0 _ _ _ _) (by decide)) dX0_fillOnce_111 z123 rfl rfl rfl w_949 qX6_scanInReach rfl ⟨Nat.le_of_ble_eq_true rfl, Nat.le_of_ble_eq_true rfl⟩ ⟨Nat.zero_le _, Nat.zero_le _⟩ (Nat.le_of_ble_eq_true rfl) rfl) rfl rfl (fun n' σ111 zp111 => ?_)
      obtain ⟨zn111, zp111⟩ := zp111
      have zn111 := zn111.symm
      subst zn111
      have zA_σ111 := zA_σ93.fc (by omega) zp111.1.fc
      have zS_σ111 := zS_σ93.fc (by omega) zp111.1.fc
      exact zJ114 σ111 ⟨((zp81.1.tr (zp93.1.fc.wk (by omega) (by omega))).tr (zp111.1.fc.wk (by omega) (by omega))), (zp81.2.1.2.1.fr (zp93.1.fc 127 (by omega))).fr (zp111.1.fc 127 (by omega)), (zp81.2.1.1.fr (fun q _ _ => zp93.1 123 q (by omega))).fr (fun q _ _ => zp111.1 123 q (by omega)), by rw [show (sQ w h T S F s re fo tu we sh true F2 P2 x y) = sSe w h T S F s fo tu we sh x y re from gu1_no zg0]; exact zp111.2⟩
  · skip
    refine y_iconst (pc := 24) hF dX0_fillOnce_24 ?_
    exact y_zret (pc := 25) hF dX0_fillOnce_25 (by decide) (Nat.zero_le _) (Nat.zero_le _) ⟨_, rfl, rfl, hT.fr (zp6.1 127 (by omega)), fun c a b d => zp6.1 c (by omega), Or.inl ⟨by unfold fS; simp only; rw [if_pos (by rcases zfm with ze | ze; exact ze.2; omega)], rfl, fun c a => zp6.1 c (by omega)⟩⟩

set_option maxHeartbeats 4000000 in
set_option maxRecDepth 100000 in
theorem tX0_fillOnceN {l : Launch} {g : yG} {n : Nat} {σ : yM} (k cs : Nat) (w h : Int) (T S F P O : Int → Int → Int) (s re fo ra tu we sh : Int) (hn : 172 ≤ n) (hP : isPic k) (hcs : isSet cs) (hA : rC σ k w h T S F P O) (hS : rS σ cs s re fo ra tu we sh) (hk : k + 5 < 120 ∨ 130 < k) (hc2 : cs < 120 ∨ 130 < cs) (hck : cs < k ∨ k + 5 < cs) (j : Nat) (nf df nl : Int) (lg : Int → Int → Int) (hj : isJou j) (hJ : rJ σ j nf df nl lg) (hjk : j + 1 < k ∨ k + 5 < j) (hj2 : j + 1 < 120 ∨ 131 < j) (hjc : cs < j ∨ j + 1 < cs) (hT : rT σ) (hnf : nf < 900000000) (hk3 : k + 5 < 120 ∨ 131 < k) (hc3 : cs < 120 ∨ 131 < cs) (F2 P2 : Int → Int → Int) : yMet l g yX0_fillOnce cX0_fillOnce 9 (some .boolean) (rmL 5) [yR g 131, yR g k, yR g cs, .null, yR g j] (SC g) n σ (SC g) (yPi (fun v n' σ' => n' = n ∧ rT σ' ∧ fF k j σ σ' ∧ ((fS w h s re fo ra tu we sh false F2 P2 (T, S, F, P, O, nf, df, nl, lg) = none ∧ v = 0 ∧ fc 120 127 σ σ') ∨ (∃ X' : aX, fS w h s re fo ra tu we sh false F2 P2 (T, S, F, P, O, nf, df, nl, lg) = some X' ∧ v = 1 ∧ rXc σ' k j w h X')))) := by
  obtain ⟨hw1, hw2, hw3, hw4⟩ := id hA.1.1
  obtain ⟨hs1, hs2, hs3, hs4, hs5, hs6, hs7⟩ := id hS.2
  have zkn : k < n := by have := hP.1; omega
  have zcsn : cs < n := by have := hcs.1; omega
  have z123 : 123 < n := by omega
  have z124 : 124 < n := by omega
  have z125 : 125 < n := by omega
  have z126 : 126 < n := by omega
  have z127 : 127 < n := by omega
  have zkn1 : k + 1 < n := by have := hP.1; omega
  have zkn2 : k + 2 < n := by have := hP.1; omega
  have zkn3 : k + 3 < n := by have := hP.1; omega
  have zkn4 : k + 4 < n := by have := hP.1; omega
  have zkn5 : k + 5 < n := by have := hP.1; omega
  have z131 : 131 < n := by omega
  have z120 : 120 < n := by omega
  have z121 : 121 < n := by omega
  have z122 : 122 < n := by omega
  have zjn : j < n := by have := hj.1; omega
  have zjn1 : j + 1 < n := by have := hj.1; omega
  have zj3 := hJ.2.2.1
  have zj4 := hJ.2.2.2.1
  refine y_start (by decide) (Nat.le_of_ble_eq_true rfl) (fun X0 hF => ?_)
  show yV X0 g 9 (yQ X0 g (SC g) (yPi (fun v n' σ' => n' = n ∧ rT σ' ∧ fF k j σ σ' ∧ ((fS w h s re fo ra tu we sh false F2 P2 (T, S, F, P, O, nf, df, nl, lg) = none ∧ v = 0 ∧ fc 120 127 σ σ') ∨ (∃ X' : aX, fS w h s re fo ra tu we sh false F2 P2 (T, S, F, P, O, nf, df, nl, lg) = some X' ∧ v = 1 ∧ rXc σ' k j w h X')))) (rmL 5)) (SC g) n σ 0 0 0 [(0, yR g 131), (1, yR g k), (2, yR g cs), (3, .null), (4, yR g j)] []
  have zrk : ∀ x y : Int, 0 ≤ x → x < w → 0 ≤ y → y < h → -1 < sRk w h T S s ra x y := fun x y a b c d => (sRk_pos hA.1 ⟨by omega, hs1.2⟩ a b c d).1
  have zfm := fm_nx zrk
  have zgr : ∀ i : Int, 0 ≤ i → i < ((sFt w h T S s ra)).length → -2147483648 ≤ (gk (sFt w h T S s ra) i).2 ∧ (gk (sFt w h T S s ra) i).2 < 2147483648 := fun i a b => by have := sFt_rk hA.1 (s := s) (ra := ra) ⟨by omega, hs1.2⟩ a b; omega
  have zfl := sFt_len (w := w) (h := h) (T := T) (S := S) (s := s) (ra := ra) ⟨hw1, hw2⟩ ⟨hw3, hw4⟩
  have zfr : -2147483648 ≤ fm (sFt w h T S s ra) ∧ fm (sFt w h T S s ra) < 2147483648 := by omega
  refine y_aload_n (pc := 0) hF dX0_fillOnce_0 0 rfl ?_
  refine y_get (pc := 1) (ci := 0) hF dX0_fillOnce_1 z131 rfl rfl rfl iX0 0 (by decide) w_469 rfl ?_
  refine y_aload_n (pc := 4) hF dX0_fillOnce_4 1 rfl ?_
  refine y_aload_n (pc := 5) hF dX0_fillOnce_5 2 rfl ?_
  refine y_cv (y_rV (pc := 6) hF (tX5_lineUp k cs w h T S F P O s re fo ra tu we sh hn hP hcs hA hS hk hc2) dX0_fillOnce_6 z120 rfl rfl rfl w_851 qX5_lineUp rfl ⟨Nat.le_of_ble_eq_true rfl, Nat.le_of_ble_eq_true rfl⟩ ⟨Nat.zero_le _, Nat.zero_le _⟩ (Nat.le_of_ble_eq_true rfl) rfl) rfl rfl (fun n' σ6 zp6 => ?_)
  obtain ⟨zn6, zp6⟩ := zp6
  have zn6 := zn6.symm
  subst zn6
  have zA_σ6 := hA.fc (by omega) zp6.1
  have zS_σ6 := hS.fc (by omega) zp6.1
  refine y_aload_n (pc := 9) hF dX0_fillOnce_9 0 rfl ?_
  refine y_get (pc := 10) (ci := 0) hF dX0_fillOnce_10 z131 rfl rfl rfl iX0 0 (by decide) w_469 rfl ?_
  have zz13 := y_rV (pc := 13) hF (tX5_foremost (sFt w h T S s ra) hn zp6.2 zgr) dX0_fillOnce_13 z120 rfl rfl rfl w_886 qX5_foremost rfl ⟨Nat.le_of_ble_eq_true rfl, Nat.le_of_ble_eq_true rfl⟩ ⟨Nat.zero_le _, Nat.zero_le _⟩ (Nat.le_of_ble_eq_true rfl) rfl (rest := []) (cells := 0) (slots := 0) (lv := [(0, yR g 131), (1, yR g k), (2, yR g cs), (3, .null), (4, yR g j)])
  refine y_cp (zz13) ?_
  refine y_istore (pc := 16) (lv' := [(0, yR g 131), (1, yR g k), (2, yR g cs), (3, .null), (4, yR g j), (5, yI (fm (sFt w h T S s ra)))]) hF dX0_fillOnce_16 (by decide) rfl rfl ?_
  refine y_iload (pc := 18) hF dX0_fillOnce_18 5 rfl ?_
  refine y_iconst (pc := 20) hF dX0_fillOnce_20 ?_
  refine y_icmp_ne (pc := 21) hF dX0_fillOnce_21 26 rfl zfr (by decide) (fun zc21 => ?_) (fun zc21 => ?_)
  · skip
    have zfx := zfm.resolve_left (fun ze => zc21 ze.1)
    obtain ⟨x, hxe⟩ : ∃ v, v = (sNx w h T S s ra).1 := ⟨_, rfl⟩
    obtain ⟨y, hye⟩ : ∃ v, v = (sNx w h T S s ra).2.1 := ⟨_, rfl⟩
    rw [← hxe, ← hye] at zfx
    have zx : x ≠ -1 := by omega
    have zin : sIn w h x y = true := sIn_iff.mpr (by omega)
    have zi := sIn_iff.mp zin
    have zix := y_ix (w := w) (h := h) (x := x) (y := y) ⟨hw1, hw2⟩ ⟨hw3, hw4⟩ (by omega) (by omega)
    have zdm := y_dm (w := w) (y := y) (x := x) (by omega)
    have zri : -2147483648 ≤ y * w + x ∧ y * w + x < 2147483648 := by omega
    have zfd : σ6 121 (fm (sFt w h T S s ra)) = y * w + x := ((zp6.2.2.2 _ zfx.1 zfx.2.1).1).trans zfx.2.2.2.2
    have zstb := sSd_bd (s := s) (S := S) ⟨by omega, hs1.2⟩ zin hA.1.S
    refine y_aload_n (pc := 26) hF dX0_fillOnce_26 1 rfl ?_
    refine y_aload_n (pc := 27) hF dX0_fillOnce_27 0 rfl ?_
    refine y_get (pc := 28) (ci := 0) hF dX0_fillOnce_28 z131 rfl rfl rfl iX0 0 (by decide) w_469 rfl ?_
    refine y_getN (pc := 31) (ci := 5) hF dX0_fillOnce_31 z120 rfl rfl rfl iX5 7 (by decide) w_329 rfl ?_
    refine y_iload (pc := 34) hF dX0_fillOnce_34 5 rfl ?_
    refine y_iaload (pc := 36) hF dX0_fillOnce_36 z121 rfl ⟨zfx.1, by show _ < (400 : Int); omega⟩ (by decide) ?_
    rw [show σ6 121 (fm (sFt w h T S s ra)) = y * w + x from zfd]
    have zz37 := y_rV (pc := 37) hF (tX4_xOf k w h T S F P O hn hP zA_σ6 (y * w + x) zri) dX0_fillOnce_37 zkn (hP.2 g).1 rfl rfl w_890 qX4_xOf rfl ⟨Nat.le_of_ble_eq_true rfl, Nat.le_of_ble_eq_true rfl⟩ ⟨Nat.zero_le _, Nat.zero_le _⟩ (Nat.le_of_ble_eq_true rfl) rfl (rest := []) (cells := 0) (slots := 0) (lv := [(0, yR g 131), (1, yR g k), (2, yR g cs), (3, .null), (4, yR g j), (5, yI (fm (sFt w h T S s ra)))])
    refine y_cp (zz37) ?_
    rw [show cx w (y * w + x) = x from (by unfold cx; rw [if_neg (by omega), zdm.1])]
    refine y_istore (pc := 40) (lv' := [(0, yR g 131), (1, yR g k), (2, yR g cs), (3, .null), (4, yR g j), (5, yI (fm (sFt w h T S s ra))), (6, yI x)]) hF dX0_fillOnce_40 (by decide) rfl rfl ?_
    refine y_aload_n (pc := 42) hF dX0_fillOnce_42 1 rfl ?_
    refine y_aload_n (pc := 43) hF dX0_fillOnce_43 0 rfl ?_
    refine y_get (pc := 44) (ci := 0) hF dX0_fillOnce_44 z131 rfl rfl rfl iX0 0 (by decide) w_469 rfl ?_
    refine y_getN (pc := 47) (ci := 5) hF dX0_fillOnce_47 z120 rfl rfl rfl iX5 7 (by decide) w_329 rfl ?_
    refine y_iload (pc := 50) hF dX0_fillOnce_50 5 rfl ?_
    refine y_iaload (pc := 52) hF dX0_fillOnce_52 z121 rfl ⟨zfx.1, by show _ < (400 : Int); omega⟩ (by decide) ?_
    rw [show σ6 121 (fm (sFt w h T S s ra)) = y * w + x from zfd]
    have zz53 := y_rV (pc := 53) hF (tX4_yOf k w h T S F P O hn hP zA_σ6 (y * w + x) zri) dX0_fillOnce_53 zkn (hP.2 g).1 rfl rfl w_891 qX4_yOf rfl ⟨Nat.le_of_ble_eq_true rfl, Nat.le_of_ble_eq_true rfl⟩ ⟨Nat.zero_le _, Nat.zero_le _⟩ (Nat.le_of_ble_eq_true rfl) rfl (rest := []) (cells := 0) (slots := 0) (lv := [(0, yR g 131), (1, yR g k), (2, yR g cs), (3, .null), (4, yR g j), (5, yI (fm (sFt w h T S s ra))), (6, yI x)])
    refine y_cp (zz53) ?_
    rw [show cy w (y * w + x) = y from (by unfold cy; rw [if_neg (by omega), zdm.2])]
    refine y_istore (pc := 56) (lv' := [(0, yR g 131), (1, yR g k), (2, yR g cs), (3, .null), (4, yR g j), (5, yI (fm (sFt w h T S s ra))), (6, yI x), (7, yI y)]) hF dX0_fillOnce_56 (by decide) rfl rfl ?_
    refine y_aload_n (pc := 58) hF dX0_fillOnce_58 0 rfl ?_
    refine y_get (pc := 59) (ci := 0) hF dX0_fillOnce_59 z131 rfl rfl rfl iX0 0 (by decide) w_469 rfl ?_
    refine y_aload_n (pc := 62) hF dX0_fillOnce_62 1 rfl ?_
    refine y_aload_n (pc := 63) hF dX0_fillOnce_63 2 rfl ?_
    refine y_iload (pc := 64) hF dX0_fillOnce_64 6 rfl ?_
    refine y_iload (pc := 66) hF dX0_fillOnce_66 7 rfl ?_
    refine y_cv (y_rV (pc := 68) hF (tX5_measure k cs w h T S F P O s re fo ra tu we sh hn hP hcs zA_σ6 zS_σ6 hk hc2 x y zin) dX0_fillOnce_68 z120 rfl rfl rfl w_892 qX5_measure rfl ⟨Nat.le_of_ble_eq_true rfl, Nat.le_of_ble_eq_true rfl⟩ ⟨Nat.zero_le _, Nat.zero_le _⟩ (Nat.le_of_ble_eq_true rfl) rfl) rfl rfl (fun n' σ68 zp68 => ?_)
    obtain ⟨zn68, zp68⟩ := zp68
    have zn68 := zn68.symm
    subst zn68
    have zA_σ68 := zA_σ6.fc (by omega) zp68.1.fc
    have zS_σ68 := zS_σ6.fc (by omega) zp68.1.fc
    have zT68 : rT σ68 := (hT.fr (zp6.1 127 (by omega))).fr (zp68.1.fc 127 (by omega))
    have zst68 : σ68 120 0 = sSd w h S s x y := zp68.2.1
    refine y_aload_n (pc := 71) hF dX0_fillOnce_71 0 rfl ?_
    refine y_get (pc := 72) (ci := 0) hF dX0_fillOnce_72 z131 rfl rfl rfl iX0 1 (by decide) w_470 rfl ?_
    refine y_aload_n (pc := 75) hF dX0_fillOnce_75 1 rfl ?_
    refine y_aload_n (pc := 76) hF dX0_fillOnce_76 2 rfl ?_
    refine y_iload (pc := 77) hF dX0_fillOnce_77 6 rfl ?_
    refine y_iload (pc := 79) hF dX0_fillOnce_79 7 rfl ?_
    refine y_cv (y_rV (pc := 81) hF (tX6_aim k cs w h T S F P O s re fo ra tu we sh hn hP hcs zA_σ68 zS_σ68 hk hc2 zT68 x y zin) dX0_fillOnce_81 z123 rfl rfl rfl w_893 qX6_aim rfl ⟨Nat.le_of_ble_eq_true rfl, Nat.le_of_ble_eq_true rfl⟩ ⟨Nat.zero_le _, Nat.zero_le _⟩ (Nat.le_of_ble_eq_true rfl) rfl) rfl rfl (fun n' σ81 zp81 => ?_)
    obtain ⟨zn81, zp81⟩ := zp81
    have zn81 := zn81.symm
    subst zn81
    have zA_σ81 := zA_σ68.fc (by omega) zp81.1
    have zS_σ81 := zS_σ68.fc (by omega) zp81.1
    have zq81 : σ81 123 12 = -1 := zp81.2.2.1
    have zJ114 : ∀ (τ5 : yM), (fc 123 127 σ68 τ5 ∧ rT τ5 ∧ rA τ5 k cs x y ∧ rQ τ5 w (sQ w h T S F s re fo tu we sh false F2 P2 x y) ∧ qOk w h T s (sQ w h T S F s re fo tu we sh false F2 P2 x y)) → yV X0 g 9 (yQ X0 g (SC g) (yPi (fun v n' σ' => n' = n ∧ rT σ' ∧ fF k j σ σ' ∧ ((fS w h s re fo ra tu we sh false F2 P2 (T, S, F, P, O, nf, df, nl, lg) = none ∧ v = 0 ∧ fc 120 127 σ σ') ∨ (∃ X' : aX, fS w h s re fo ra tu we sh false F2 P2 (T, S, F, P, O, nf, df, nl, lg) = some X' ∧ v = 1 ∧ rXc σ' k j w h X')))) (rmL 5)) (SC g) n τ5 0 0 114 [(0, yR g 131), (1, yR g k), (2, yR g cs), (3, .null), (4, yR g j), (5, yI (fm (sFt w h T S s ra))), (6, yI x), (7, yI y)] [] := by
      intro τ5  zj
      obtain ⟨q, hq⟩ : ∃ q, q = (sQ w h T S F s re fo tu we sh false F2 P2 x y) := ⟨_, rfl⟩
      rw [← hq] at zj
      obtain ⟨bx, by_, bw, bs, bd, so, sk, sp, lo⟩ := q
      have zA_τ5 := zA_σ68.fc (by omega) zj.1
      have zS_τ5 := zS_σ68.fc (by omega) zj.1
      have zJ_τ5 := ((hJ.fc (by omega) zp6.1).fc (by omega) zp68.1.fc).fc (by omega) zj.1
      have zst5 : τ5 120 0 = sSd w h S s x y := by rw [zj.1 120 (by omega)]; exact zst68
      have zfF5 : fF k j σ τ5 := fun c a b d => by rw [zj.1 c (by omega), zp68.1.fc c (by omega), zp6.1 c (by omega)]
      have zr5 : -2147483648 ≤ τ5 123 12 ∧ τ5 123 12 < 2147483648 := by { rw [zj.2.2.2.1.1]; rcases zj.2.2.2.2.b with ze | ze; (rw [if_pos ze.1]; decide); (have ze2 := sIn_iff.mp ze.1; simp only at ze2; rw [if_neg (by omega)]; have := y_ix (w := w) (h := h) ⟨hw1, hw2⟩ ⟨hw3, hw4⟩ ⟨ze2.1, ze2.2.1⟩ ze2.2.2; omega) }
      refine y_aload_n (pc := 114) hF dX0_fillOnce_114 0 rfl ?_
      refine y_get (pc := 115) (ci := 0) hF dX0_fillOnce_115 z131 rfl rfl rfl iX0 1 (by decide) w_470 rfl ?_
      refine y_getN (pc := 118) (ci := 6) hF dX0_fillOnce_118 z123 rfl rfl rfl iX6 12 (by decide) w_380 rfl ?_
      refine y_iconst (pc := 121) hF dX0_fillOnce_121 ?_
      refine y_icmp_ne (pc := 122) hF dX0_fillOnce_122 127 rfl zr5 (by decide) (fun zc122 => ?_) (fun zc122 => ?_)
      · skip
        have zk := zj.2.2.2.2.1.resolve_left (fun ze => by have := ze.1; rw [zj.2.2.2.1.1, if_pos this] at zc122; exact zc122 rfl)
        have zbx := sIn_iff.mp zk.1
        have zb12 : τ5 123 12 = by_ * w + bx := by rw [zj.2.2.2.1.1, if_neg (by omega)]
        refine y_aload_n (pc := 127) hF dX0_fillOnce_127 0 rfl ?_
        refine y_aload_n (pc := 128) hF dX0_fillOnce_128 1 rfl ?_
        refine y_aload_n (pc := 129) hF dX0_fillOnce_129 2 rfl ?_
        refine y_aload (pc := 130) hF dX0_fillOnce_130 4 rfl ?_
        refine y_getN (pc := 132) (ci := 2) hF dX0_fillOnce_132 zjn (hj.2 g).1 rfl rfl iX2 0 (by decide) w_258 rfl ?_
        rw [show τ5 j 0 = nf from zJ_τ5.1]
        refine y_iconst (pc := 135) hF dX0_fillOnce_135 ?_
        refine y_iadd (pc := 136) hF dX0_fillOnce_136 ?_
        refine y_ci (y_rV (pc := 137) hF (tX0_copyPatch k cs w h T S F P O s re fo ra tu we sh hn hP hcs zA_τ5 zS_τ5 hk hc2 x y zj.2.2.1 hck bx by_ bw bs (sSd w h S s x y) (nf + 1) zb12 zj.2.2.2.1.2.1 zj.2.2.2.1.2.2.2.1 zst5 zk.2.1 zk.1 (by omega) zk.2.2.2.1 zstb (by omega) zin) dX0_fillOnce_137 z131 rfl rfl rfl w_953 qX0_copyPatch rfl ⟨Nat.le_of_ble_eq_true rfl, Nat.le_of_ble_eq_true rfl⟩ ⟨Nat.zero_le _, Nat.zero_le _⟩ (Nat.le_of_ble_eq_true rfl) rfl) rfl rfl (fun r137 n' σ137 zp137 => ?_)
        obtain ⟨zn137, zv137, zp137⟩ := zp137
        have zn137 := zn137.symm
        subst zn137
        subst zv137
        have zJ_σ137 := zJ_τ5.fc (by omega) zp137.1
        refine y_istore (pc := 140) (lv' := [(0, yR g 131), (1, yR g k), (2, yR g cs), (3, .null), (4, yR g j), (5, yI (fm (sFt w h T S s ra))), (6, yI x), (7, yI y), (8, yI (fN w h T s x y))]) hF dX0_fillOnce_140 (by decide) rfl rfl ?_
        refine y_aload (pc := 142) hF dX0_fillOnce_142 4 rfl ?_
        refine y_aload_n (pc := 144) hF dX0_fillOnce_144 1 rfl ?_
        refine y_aload_n (pc := 145) hF dX0_fillOnce_145 0 rfl ?_
        refine y_get (pc := 146) (ci := 0) hF dX0_fillOnce_146 z131 rfl rfl rfl iX0 1 (by decide) w_470 rfl ?_
        refine y_iload (pc := 149) hF dX0_fillOnce_149 8 rfl ?_
        refine y_aload_n (pc := 151) hF dX0_fillOnce_151 0 rfl ?_
        refine y_get (pc := 152) (ci := 0) hF dX0_fillOnce_152 z131 rfl rfl rfl iX0 0 (by decide) w_469 rfl ?_
        refine y_getN (pc := 155) (ci := 5) hF dX0_fillOnce_155 z120 rfl rfl rfl iX5 0 (by decide) w_314 rfl ?_
        rw [show σ137 120 0 = sSd w h S s x y from (by rw [zp137.1 120 (by omega)]; exact zst5)]
        refine y_cv (y_rV (pc := 158) hF (tX2_record k j w h (fT w h T (inP s x y) bx by_ bw bs x y) (fC w h T (inP s x y) S (sSd w h S s x y)) (fC w h T (inP s x y) F (nf + 1)) (fP w h T (inP s x y) P bx by_ bw x y) (fO w h T F O (inP s x y) bx by_ bw x y) nf df nl lg hn hP hj zp137.2 zJ_σ137 hjk (by omega) x y bx by_ bw bs bd (fN w h T s x y) (sSd w h S s x y) (by rw [zp137.1 123 (by omega)]; exact zj.2.2.1.2.2.1) (by rw [zp137.1 123 (by omega)]; exact zj.2.2.1.2.2.2) (by rw [zp137.1 123 (by omega)]; exact zb12) (by rw [zp137.1 123 (by omega)]; exact zj.2.2.2.1.2.1) (by rw [zp137.1 123 (by omega)]; exact zj.2.2.2.1.2.2.1) (by rw [zp137.1 123 (by omega)]; exact zj.2.2.2.1.2.2.2.1) zk.1 zk.2.2.2.2.1 (by omega)) dX0_fillOnce_158 zjn (hj.2 g).1 rfl rfl w_966 qX2_record rfl ⟨Nat.le_of_ble_eq_true rfl, Nat.le_of_ble_eq_true rfl⟩ ⟨Nat.zero_le _, Nat.zero_le _⟩ (Nat.le_of_ble_eq_true rfl) rfl) rfl rfl (fun n' σ158 zp158 => ?_)
        obtain ⟨zn158, zp158⟩ := zp158
        have zn158 := zn158.symm
        subst zn158
        refine y_iconst (pc := 161) hF dX0_fillOnce_161 ?_
        exact y_zret (pc := 162) hF dX0_fillOnce_162 (by decide) (Nat.zero_le _) (Nat.zero_le _) ⟨_, rfl, rfl, (zj.2.1.fr (zp137.1 127 (by omega))).fr (zp158.1 127 (by omega)), fun c a b d => by rw [zp158.1 c (by omega), zp137.1 c (by omega)]; exact zfF5 c a b d, Or.inr ⟨fX w h s x y (sSd w h S s x y) (sQ w h T S F s re fo tu we sh false F2 P2 x y) (T, S, F, P, O, nf, df, nl, lg), by unfold fS; simp only; rw [← hxe, ← hye, if_neg zx, if_neg (by rw [← hq]; show ¬ bx = -1; omega)], rfl, by rw [← hq]; exact ⟨zp137.2.fc (by omega) zp158.1, zp158.2⟩⟩⟩
      · skip
        refine y_iconst (pc := 125) hF dX0_fillOnce_125 ?_
        exact y_zret (pc := 126) hF dX0_fillOnce_126 (by decide) (Nat.zero_le _) (Nat.zero_le _) ⟨_, rfl, rfl, zj.2.1, zfF5, Or.inl ⟨by unfold fS; simp only; rw [← hxe, ← hye, if_neg zx, if_pos (by rw [← hq]; rcases zj.2.2.2.2.b with ze | ze; exact ze.1; exfalso; have ze2 := sIn_iff.mp ze.1; simp only at ze2; have zb := zj.2.2.2.1.1; rw [if_neg (by omega)] at zb; have := y_ix (w := w) (h := h) ⟨hw1, hw2⟩ ⟨hw3, hw4⟩ ⟨ze2.1, ze2.2.1⟩ ze2.2.2; omega)], rfl, fun c a => by rw [zj.1 c (by omega), zp68.1.fc c (by omega), zp6.1 c (by omega)]⟩⟩
    refine y_aloadN_n (pc := 84) hF dX0_fillOnce_84 3 rfl ?_
    refine y_ifnullN (pc := 85) hF dX0_fillOnce_85 96 rfl ?_
    refine y_aload_n (pc := 96) hF dX0_fillOnce_96 0 rfl ?_
    refine y_get (pc := 97) (ci := 0) hF dX0_fillOnce_97 z131 rfl rfl rfl iX0 1 (by decide) w_470 rfl ?_
    refine y_getN (pc := 100) (ci := 6) hF dX0_fillOnce_100 z123 rfl rfl rfl iX6 12 (by decide) w_380 rfl ?_
    refine y_iconst (pc := 103) hF dX0_fillOnce_103 ?_
    refine y_icmp_ne (pc := 104) hF dX0_fillOnce_104 114 rfl (by rw [zq81]; decide) (by decide) (fun zc104 => ?_) (fun zc104 => ?_)
    · skip
      exact zJ114 σ81 (by exfalso; rw [zq81] at zc104; exact zc104 rfl)
    · skip
      refine y_aload_n (pc := 107) hF dX0_fillOnce_107 0 rfl ?_
      refine y_get (pc := 108) (ci := 0) hF dX0_fillOnce_108 z131 rfl rfl rfl iX0 1 (by decide) w_470 rfl ?_
      refine y_cv (y_rV (pc := 111) hF (tX6_scanInReach k cs w h T S F P O s re fo ra tu we sh hn hP hcs zA_σ81 zS_σ81 hk hc2 x y zp81.2.1.1 zin zp81.2.1.2.2.1 zp81.2.1.2.2.2 q0 zp81.2.2 (qOk_q0 _ _ _ _) (by decide)) dX0_fillOnce_111 z123 rfl rfl rfl w_949 qX6_scanInReach rfl ⟨Nat.le_of_ble_eq_true rfl, Nat.le_of_ble_eq_true rfl⟩ ⟨Nat.zero_le _, Nat.zero_le _⟩ (Nat.le_of_ble_eq_true rfl) rfl) rfl rfl (fun n' σ111 zp111 => ?_)
      obtain ⟨zn111, zp111⟩ := zp111
      have zn111 := zn111.symm
      subst zn111
      have zA_σ111 := zA_σ81.fc (by omega) zp111.1.fc
      have zS_σ111 := zS_σ81.fc (by omega) zp111.1.fc
      exact zJ114 σ111 ⟨((zp81.1.tr (zp111.1.fc.wk (by omega) (by omega)))), zp81.2.1.2.1.fr (zp111.1.fc 127 (by omega)), zp81.2.1.1.fr (fun q _ _ => zp111.1 123 q (by omega)), zp111.2⟩
  · skip
    refine y_iconst (pc := 24) hF dX0_fillOnce_24 ?_
    exact y_zret (pc := 25) hF dX0_fillOnce_25 (by decide) (Nat.zero_le _) (Nat.zero_le _) ⟨_, rfl, rfl, hT.fr (zp6.1 127 (by omega)), fun c a b d => zp6.1 c (by omega), Or.inl ⟨by unfold fS; simp only; rw [if_pos (by rcases zfm with ze | ze; exact ze.2; omega)], rfl, fun c a => zp6.1 c (by omega)⟩⟩
