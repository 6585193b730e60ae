theorem dX9_readRow_0 : decode cX9_readRow 0 = .ok (.iload_n 1, 1) := by decide +kernel
theorem dX9_readRow_1 : decode cX9_readRow 1 = .ok (.ifCond .ne 8, 3) := by decide +kernel
theorem dX9_readRow_4 : decode cX9_readRow 4 = .ok (.bipush 20, 2) := by decide +kernel
theorem dX9_readRow_6 : decode cX9_readRow 6 = .ok (.goto 7, 3) := by decide +kernel
theorem dX9_readRow_9 : decode cX9_readRow 9 = .ok (.aload_n 0, 1) := by decide +kernel
theorem dX9_readRow_10 : decode cX9_readRow 10 = .ok (.getfield 22, 3) := by decide +kernel
theorem dX9_readRow_13 : decode cX9_readRow 13 = .ok (.istore_n 2, 1) := by decide +kernel
theorem dX9_readRow_14 : decode cX9_readRow 14 = .ok (.iload_n 1, 1) := by decide +kernel
theorem dX9_readRow_15 : decode cX9_readRow 15 = .ok (.ifCond .ne 7, 3) := by decide +kernel
theorem dX9_readRow_18 : decode cX9_readRow 18 = .ok (.iconst 3, 1) := by decide +kernel
theorem dX9_readRow_19 : decode cX9_readRow 19 = .ok (.goto 7, 3) := by decide +kernel
theorem dX9_readRow_22 : decode cX9_readRow 22 = .ok (.aload_n 0, 1) := by decide +kernel
theorem dX9_readRow_23 : decode cX9_readRow 23 = .ok (.getfield 22, 3) := by decide +kernel
theorem dX9_readRow_26 : decode cX9_readRow 26 = .ok (.istore_n 3, 1) := by decide +kernel
theorem dX9_readRow_27 : decode cX9_readRow 27 = .ok (.aload_n 0, 1) := by decide +kernel
theorem dX9_readRow_28 : decode cX9_readRow 28 = .ok (.iload_n 2, 1) := by decide +kernel
theorem dX9_readRow_29 : decode cX9_readRow 29 = .ok (.invokevirtual 51, 3) := by decide +kernel
theorem dX9_readRow_32 : decode cX9_readRow 32 = .ok (.istore 4, 2) := by decide +kernel
theorem dX9_readRow_34 : decode cX9_readRow 34 = .ok (.iconst 1, 1) := by decide +kernel
theorem dX9_readRow_35 : decode cX9_readRow 35 = .ok (.istore 5, 2) := by decide +kernel
theorem dX9_readRow_37 : decode cX9_readRow 37 = .ok (.iload 5, 2) := by decide +kernel
theorem dX9_readRow_39 : decode cX9_readRow 39 = .ok (.sipush 300, 3) := by decide +kernel
theorem dX9_readRow_42 : decode cX9_readRow 42 = .ok (.if_icmp .gt 54, 3) := by decide +kernel
theorem dX9_readRow_45 : decode cX9_readRow 45 = .ok (.aload_n 0, 1) := by decide +kernel
theorem dX9_readRow_46 : decode cX9_readRow 46 = .ok (.getfield 37, 3) := by decide +kernel
theorem dX9_readRow_49 : decode cX9_readRow 49 = .ok (.ifCond .ne 47, 3) := by decide +kernel
theorem dX9_readRow_52 : decode cX9_readRow 52 = .ok (.aload_n 0, 1) := by decide +kernel
theorem dX9_readRow_53 : decode cX9_readRow 53 = .ok (.getfield 34, 3) := by decide +kernel
theorem dX9_readRow_56 : decode cX9_readRow 56 = .ok (.aload_n 0, 1) := by decide +kernel
theorem dX9_readRow_57 : decode cX9_readRow 57 = .ok (.getfield 31, 3) := by decide +kernel
theorem dX9_readRow_60 : decode cX9_readRow 60 = .ok (.if_icmp .ge 36, 3) := by decide +kernel
theorem dX9_readRow_63 : decode cX9_readRow 63 = .ok (.aload_n 0, 1) := by decide +kernel
theorem dX9_readRow_64 : decode cX9_readRow 64 = .ok (.getfield 11, 3) := by decide +kernel
theorem dX9_readRow_67 : decode cX9_readRow 67 = .ok (.aload_n 0, 1) := by decide +kernel
theorem dX9_readRow_68 : decode cX9_readRow 68 = .ok (.getfield 34, 3) := by decide +kernel
theorem dX9_readRow_71 : decode cX9_readRow 71 = .ok (.iaload, 1) := by decide +kernel
theorem dX9_readRow_72 : decode cX9_readRow 72 = .ok (.bipush 47, 2) := by decide +kernel
theorem dX9_readRow_74 : decode cX9_readRow 74 = .ok (.if_icmp .eq 22, 3) := by decide +kernel
theorem dX9_readRow_77 : decode cX9_readRow 77 = .ok (.iload 4, 2) := by decide +kernel
theorem dX9_readRow_79 : decode cX9_readRow 79 = .ok (.aload_n 0, 1) := by decide +kernel
theorem dX9_readRow_80 : decode cX9_readRow 80 = .ok (.iload_n 2, 1) := by decide +kernel
theorem dX9_readRow_81 : decode cX9_readRow 81 = .ok (.iload 4, 2) := by decide +kernel
theorem dX9_readRow_83 : decode cX9_readRow 83 = .ok (.isub, 1) := by decide +kernel
theorem dX9_readRow_84 : decode cX9_readRow 84 = .ok (.invokevirtual 51, 3) := by decide +kernel
theorem dX9_readRow_87 : decode cX9_readRow 87 = .ok (.iadd, 1) := by decide +kernel
theorem dX9_readRow_88 : decode cX9_readRow 88 = .ok (.istore 4, 2) := by decide +kernel
theorem dX9_readRow_90 : decode cX9_readRow 90 = .ok (.iinc 5 1, 3) := by decide +kernel
theorem dX9_readRow_93 : decode cX9_readRow 93 = .ok (.goto (-56), 3) := by decide +kernel
theorem dX9_readRow_96 : decode cX9_readRow 96 = .ok (.aload_n 0, 1) := by decide +kernel
theorem dX9_readRow_97 : decode cX9_readRow 97 = .ok (.getfield 37, 3) := by decide +kernel
theorem dX9_readRow_100 : decode cX9_readRow 100 = .ok (.ifCond .ne 18, 3) := by decide +kernel
theorem dX9_readRow_103 : decode cX9_readRow 103 = .ok (.iload 4, 2) := by decide +kernel
theorem dX9_readRow_105 : decode cX9_readRow 105 = .ok (.iload_n 3, 1) := by decide +kernel
theorem dX9_readRow_106 : decode cX9_readRow 106 = .ok (.if_icmp .ge 12, 3) := by decide +kernel
theorem dX9_readRow_109 : decode cX9_readRow 109 = .ok (.aload_n 0, 1) := by decide +kernel
theorem dX9_readRow_110 : decode cX9_readRow 110 = .ok (.iconst 4, 1) := by decide +kernel
theorem dX9_readRow_111 : decode cX9_readRow 111 = .ok (.aload_n 0, 1) := by decide +kernel
theorem dX9_readRow_112 : decode cX9_readRow 112 = .ok (.getfield 34, 3) := by decide +kernel
theorem dX9_readRow_115 : decode cX9_readRow 115 = .ok (.invokevirtual 47, 3) := by decide +kernel
theorem dX9_readRow_118 : decode cX9_readRow 118 = .ok (.iload_n 1, 1) := by decide +kernel
theorem dX9_readRow_119 : decode cX9_readRow 119 = .ok (.ifCond .ne 9, 3) := by decide +kernel
theorem dX9_readRow_122 : decode cX9_readRow 122 = .ok (.aload_n 0, 1) := by decide +kernel
theorem dX9_readRow_123 : decode cX9_readRow 123 = .ok (.iload 4, 2) := by decide +kernel
theorem dX9_readRow_125 : decode cX9_readRow 125 = .ok (.putfield 22, 3) := by decide +kernel
theorem dX9_readRow_128 : decode cX9_readRow 128 = .ok (.aload_n 0, 1) := by decide +kernel
theorem dX9_readRow_129 : decode cX9_readRow 129 = .ok (.iload_n 1, 1) := by decide +kernel
theorem dX9_readRow_130 : decode cX9_readRow 130 = .ok (.iconst 1, 1) := by decide +kernel
theorem dX9_readRow_131 : decode cX9_readRow 131 = .ok (.iadd, 1) := by decide +kernel
theorem dX9_readRow_132 : decode cX9_readRow 132 = .ok (.putfield 25, 3) := by decide +kernel
theorem dX9_readRow_135 : decode cX9_readRow 135 = .ok (.return_, 1) := by decide +kernel
set_option maxHeartbeats 4000000 in
set_option maxRecDepth 100000 in
theorem tX9_readRow {l : Launch} {g : yG} {n : Nat} {σ : yM} (hn : 172 ≤ n) (tb : Int → Int) (e p fp W h dr : Int) (hQ : rTq σ tb e p 0 fp W h dr) (hpe : 0 ≤ p ∧ p ≤ e ∧ e ≤ 300) (htb : ∀ j : Int, 0 ≤ tb j ∧ tb j ≤ 255) (y : Int) (hy : 0 ≤ y ∧ y ≤ 20) (hW : y = 0 ∨ (3 ≤ W ∧ W ≤ 20)) (hdr : 0 ≤ dr ∧ dr + rwMo y W ≤ 400) : yMet l g yX9_readRow cX9_readRow 6 none (rmL 4) [yR g 1, yI y] (SC g) n σ (SC g) (yPv (fun n' σ' => n' = n ∧ fT3 σ σ' ∧ rTq σ' tb e (rwE tb e y W p fp).2.2.1 (rwE tb e y W p fp).1 (rwE tb e y W p fp).2.1 (if y = 0 then (rwE tb e y W p fp).2.2.2.1 else W) (y + 1) (dr + (rwE tb e y W p fp).2.2.2.1) ∧ rTn σ σ' dr (rwE tb e y W p fp).2.2.2.1 (rwE tb e y W p fp).2.2.2.2)) := by
  refine y_start (by decide) (Nat.le_of_ble_eq_true rfl) (fun X0 hF => ?_)
  show yV X0 g 6 (yQ X0 g (SC g) (yPv (fun n' σ' => n' = n ∧ fT3 σ σ' ∧ rTq σ' tb e (rwE tb e y W p fp).2.2.1 (rwE tb e y W p fp).1 (rwE tb e y W p fp).2.1 (if y = 0 then (rwE tb e y W p fp).2.2.2.1 else W) (y + 1) (dr + (rwE tb e y W p fp).2.2.2.1) ∧ rTn σ σ' dr (rwE tb e y W p fp).2.2.2.1 (rwE tb e y W p fp).2.2.2.2)) (rmL 4)) (SC g) n σ 0 0 0 [(0, yR g 1), (1, yI y)] []
  have zJ13 : ∀ (mo : Int), (mo = rwMo y W) → yV X0 g 6 (yQ X0 g (SC g) (yPv (fun n' σ' => n' = n ∧ fT3 σ σ' ∧ rTq σ' tb e (rwE tb e y W p fp).2.2.1 (rwE tb e y W p fp).1 (rwE tb e y W p fp).2.1 (if y = 0 then (rwE tb e y W p fp).2.2.2.1 else W) (y + 1) (dr + (rwE tb e y W p fp).2.2.2.1) ∧ rTn σ σ' dr (rwE tb e y W p fp).2.2.2.1 (rwE tb e y W p fp).2.2.2.2)) (rmL 4)) (SC g) n σ 0 0 13 [(0, yR g 1), (1, yI y)] [yI mo] := by
    intro mo  zmo
    refine y_istore_n (pc := 13) (lv' := [(0, yR g 1), (1, yI y), (2, yI mo)]) hF dX9_readRow_13 (by decide) rfl rfl ?_
    have zJ26 : ∀ (le : Int), (le = rwLe y W) → yV X0 g 6 (yQ X0 g (SC g) (yPv (fun n' σ' => n' = n ∧ fT3 σ σ' ∧ rTq σ' tb e (rwE tb e y W p fp).2.2.1 (rwE tb e y W p fp).1 (rwE tb e y W p fp).2.1 (if y = 0 then (rwE tb e y W p fp).2.2.2.1 else W) (y + 1) (dr + (rwE tb e y W p fp).2.2.2.1) ∧ rTn σ σ' dr (rwE tb e y W p fp).2.2.2.1 (rwE tb e y W p fp).2.2.2.2)) (rmL 4)) (SC g) n σ 0 0 26 [(0, yR g 1), (1, yI y), (2, yI mo)] [yI le] := by
      intro le  zle
      refine y_istore_n (pc := 26) (lv' := [(0, yR g 1), (1, yI y), (2, yI mo), (3, yI le)]) hF dX9_readRow_26 (by decide) rfl rfl ?_
      have zmb : 0 ≤ mo ∧ mo ≤ 20 ∧ dr + mo ≤ 400 := by rw [← zmo] at hdr; refine ⟨?_, ?_, hdr.2⟩ <;> (rw [zmo]; unfold rwMo; split <;> omega)
      have zlb : 0 ≤ le ∧ le ≤ 20 := by rw [zle]; unfold rwLe; split <;> omega
      obtain ⟨I1_, hI1⟩ : ∃ r, r = itm tb e p (mo) := ⟨_, rfl⟩
      obtain ⟨f1, fp1, p1, t1, v1⟩ := I1_
      have zb1 := itm_bd (by omega) (by omega) htb hI1
      have zt1 : (itm tb e p (mo)).2.2.2.1 = t1 := by rw [← hI1]
      have zi1 : rwI tb e mo (0, fp, p, 0, fun _ => 0) = (f1, if f1 = 0 then fp else fp1, p1, t1, rwG 0 (fun _ => 0) t1 v1) := by unfold rwI; simp only [Int.sub_zero, ← hI1, Int.zero_add]
      refine y_aload_n (pc := 27) hF dX9_readRow_27 0 rfl ?_
      refine y_iload_n (pc := 28) hF dX9_readRow_28 2 rfl ?_
      refine y_ci (y_rV (pc := 29) hF (tX9_readItem hn tb e p fp W h (dr) hQ (by omega) htb (mo) (by omega) (by omega)) dX9_readRow_29 (by omega) rfl rfl rfl w_690 qX9_readItem rfl ⟨Nat.le_of_ble_eq_true rfl, Nat.le_of_ble_eq_true rfl⟩ ⟨Nat.zero_le _, Nat.zero_le _⟩ (Nat.le_of_ble_eq_true rfl) rfl) rfl rfl (fun r29 n' σ29 zp29 => ?_)
      obtain ⟨zn29, zv29, zp29⟩ := zp29
      have zn29 := zn29.symm
      subst zn29
      rw [zv29]
      rw [zt1]
      rw [← hI1] at zp29
      have zQ1 : rTq σ29 tb e p1 f1 (if f1 = 0 then fp else fp1) W h (dr + t1) := zp29.2.1
      refine y_istore (pc := 32) (lv' := [(0, yR g 1), (1, yI y), (2, yI mo), (3, yI le), (4, yI t1)]) hF dX9_readRow_32 (by decide) rfl rfl ?_
      refine y_iconst (pc := 34) hF dX9_readRow_34 ?_
      refine y_istore (pc := 35) (lv' := [(0, yR g 1), (1, yI y), (2, yI mo), (3, yI le), (4, yI t1), (5, yI 1)]) hF dX9_readRow_35 (by decide) rfl rfl ?_
      have zL37 : ∀ (N : Nat) (τ : yM) (f FP P c i : Int) (m : Int → Int), N = (301 - i).toNat → (rTq τ tb e P f FP W h (dr + c) ∧ fT3 σ τ ∧ rTn σ τ dr c m ∧ ((0 ≤ P ∧ P ≤ e) ∧ (0 ≤ f ∧ f ≤ 3) ∧ (0 ≤ c ∧ c ≤ mo)) ∧ (1 ≤ i ∧ i ≤ 301) ∧ rwR tb e mo p fp = rwL tb e mo (301 - i).toNat (f, FP, P, c, m)) → yV X0 g 6 (yQ X0 g (SC g) (yPv (fun n' σ' => n' = n ∧ fT3 σ σ' ∧ rTq σ' tb e (rwE tb e y W p fp).2.2.1 (rwE tb e y W p fp).1 (rwE tb e y W p fp).2.1 (if y = 0 then (rwE tb e y W p fp).2.2.2.1 else W) (y + 1) (dr + (rwE tb e y W p fp).2.2.2.1) ∧ rTn σ σ' dr (rwE tb e y W p fp).2.2.2.1 (rwE tb e y W p fp).2.2.2.2)) (rmL 4)) (SC g) n τ 0 0 37 [(0, yR g 1), (1, yI y), (2, yI mo), (3, yI le), (4, yI c), (5, yI i)] [] := by
        intro N
        induction N using Nat.strongRecOn with
        | ind N zh37 =>
          intro τ  f FP P c i  m  zN37 zI37
          have zJ96 : (rwR tb e mo p fp = (f, FP, P, c, m)) → yV X0 g 6 (yQ X0 g (SC g) (yPv (fun n' σ' => n' = n ∧ fT3 σ σ' ∧ rTq σ' tb e (rwE tb e y W p fp).2.2.1 (rwE tb e y W p fp).1 (rwE tb e y W p fp).2.1 (if y = 0 then (rwE tb e y W p fp).2.2.2.1 else W) (y + 1) (dr + (rwE tb e y W p fp).2.2.2.1) ∧ rTn σ σ' dr (rwE tb e y W p fp).2.2.2.1 (rwE tb e y W p fp).2.2.2.2)) (rmL 4)) (SC g) n τ 0 0 96 [(0, yR g 1), (1, yI y), (2, yI mo), (3, yI le), (4, yI c), (5, yI i)] [] := by
            intro zR
            refine y_aload_n (pc := 96) hF dX9_readRow_96 0 rfl ?_
            refine y_get (pc := 97) (ci := 9) hF dX9_readRow_97 (by omega) rfl rfl rfl iX9 8 (by decide) w_133 rfl ?_
            rw [show τ 1 8 = f from zI37.1.2.2.1]
            refine y_if_ne (pc := 100) hF dX9_readRow_100 118 rfl (by omega) (fun zc100 => ?_) (fun zc100 => ?_)
            · skip
              have zE : rwE tb e y W p fp = (f, FP, P, c, m) := by { unfold rwE; rw [← zmo, zR]; exact if_neg (show ¬ (f = 0 ∧ c < rwLe y W) by rw [← zle]; omega) }; have zQx := zI37.1; have zFx := zI37.2.1; have zNx := zI37.2.2.1
              refine y_iload_n (pc := 118) hF dX9_readRow_118 1 rfl ?_
              refine y_if_ne (pc := 119) hF dX9_readRow_119 128 rfl (by omega) (fun zc119 => ?_) (fun zc119 => ?_)
              · skip
                have zQp := zQx; have zFp := zFx; have zNp := zNx
                refine y_aload_n (pc := 128) hF dX9_readRow_128 0 rfl ?_
                refine y_iload_n (pc := 129) hF dX9_readRow_129 1 rfl ?_
                refine y_iconst (pc := 130) hF dX9_readRow_130 ?_
                refine y_iadd (pc := 131) hF dX9_readRow_131 ?_
                refine y_putf (pc := 132) (ci := 9) (σ' := yset τ 1 4 (y + 1)) (sch' := (SC g)) hF dX9_readRow_132 (by omega) rfl rfl rfl iX9 4 (by decide) w_127 tyX9 tyX9_ok nmX9 rfl rfl rfl rfl (Nat.le_of_ble_eq_true rfl) rfl (y_ps rfl) (fun k' h => ⟨yset_n h, rfl⟩) ?_
                obtain ⟨τ6, hτ6⟩ : ∃ s, s = yset τ 1 4 (y + 1) := ⟨_, rfl⟩
                rw [← hτ6]
                exact y_vret (pc := 135) hF dX9_readRow_135 (Nat.zero_le _) (Nat.zero_le _) ⟨rfl, rfl, zFp.tr (zQp.h hτ6).2.t3, by rw [zE]; (first | rw [if_pos zc119] | rw [if_neg zc119]); exact (zQp.h hτ6).1, by rw [zE]; exact zNp.fr ((zQp.h hτ6).2.1 3 (by omega))⟩
              · skip
                refine y_aload_n (pc := 122) hF dX9_readRow_122 0 rfl ?_
                refine y_iload (pc := 123) hF dX9_readRow_123 4 rfl ?_
                refine y_putf (pc := 125) (ci := 9) (σ' := yset τ 1 3 c) (sch' := (SC g)) hF dX9_readRow_125 (by omega) rfl rfl rfl iX9 3 (by decide) w_125 tyX9 tyX9_ok nmX9 rfl rfl rfl rfl (Nat.le_of_ble_eq_true rfl) rfl (y_ps rfl) (fun k' h => ⟨yset_n h, rfl⟩) ?_
                obtain ⟨τ5, hτ5⟩ : ∃ s, s = yset τ 1 3 c := ⟨_, rfl⟩
                rw [← hτ5]
                have zw5 := zQx.w hτ5; have zQp := zw5.1; have zFp := zFx.tr zw5.2.t3; have zNp := zNx.fr (zw5.2.1 3 (by omega))
                refine y_aload_n (pc := 128) hF dX9_readRow_128 0 rfl ?_
                refine y_iload_n (pc := 129) hF dX9_readRow_129 1 rfl ?_
                refine y_iconst (pc := 130) hF dX9_readRow_130 ?_
                refine y_iadd (pc := 131) hF dX9_readRow_131 ?_
                refine y_putf (pc := 132) (ci := 9) (σ' := yset τ5 1 4 (y + 1)) (sch' := (SC g)) hF dX9_readRow_132 (by omega) rfl rfl rfl iX9 4 (by decide) w_127 tyX9 tyX9_ok nmX9 rfl rfl rfl rfl (Nat.le_of_ble_eq_true rfl) rfl (y_ps rfl) (fun k' h => ⟨yset_n h, rfl⟩) ?_
                obtain ⟨τ6, hτ6⟩ : ∃ s, s = yset τ5 1 4 (y + 1) := ⟨_, rfl⟩
                rw [← hτ6]
                exact y_vret (pc := 135) hF dX9_readRow_135 (Nat.zero_le _) (Nat.zero_le _) ⟨rfl, rfl, zFp.tr (zQp.h hτ6).2.t3, by rw [zE]; (first | rw [if_pos zc119] | rw [if_neg zc119]); exact (zQp.h hτ6).1, by rw [zE]; exact zNp.fr ((zQp.h hτ6).2.1 3 (by omega))⟩
            · skip
              refine y_iload (pc := 103) hF dX9_readRow_103 4 rfl ?_
              refine y_iload_n (pc := 105) hF dX9_readRow_105 3 rfl ?_
              refine y_icmp_ge (pc := 106) hF dX9_readRow_106 118 rfl (by omega) (by omega) (fun zc106 => ?_) (fun zc106 => ?_)
              · skip
                have zE : rwE tb e y W p fp = (f, FP, P, c, m) := by { unfold rwE; rw [← zmo, zR]; exact if_neg (show ¬ (f = 0 ∧ c < rwLe y W) by rw [← zle]; omega) }; have zQx := zI37.1; have zFx := zI37.2.1; have zNx := zI37.2.2.1
                refine y_iload_n (pc := 118) hF dX9_readRow_118 1 rfl ?_
                refine y_if_ne (pc := 119) hF dX9_readRow_119 128 rfl (by omega) (fun zc119 => ?_) (fun zc119 => ?_)
                · skip
                  have zQp := zQx; have zFp := zFx; have zNp := zNx
                  refine y_aload_n (pc := 128) hF dX9_readRow_128 0 rfl ?_
                  refine y_iload_n (pc := 129) hF dX9_readRow_129 1 rfl ?_
                  refine y_iconst (pc := 130) hF dX9_readRow_130 ?_
                  refine y_iadd (pc := 131) hF dX9_readRow_131 ?_
                  refine y_putf (pc := 132) (ci := 9) (σ' := yset τ 1 4 (y + 1)) (sch' := (SC g)) hF dX9_readRow_132 (by omega) rfl rfl rfl iX9 4 (by decide) w_127 tyX9 tyX9_ok nmX9 rfl rfl rfl rfl (Nat.le_of_ble_eq_true rfl) rfl (y_ps rfl) (fun k' h => ⟨yset_n h, rfl⟩) ?_
                  obtain ⟨τ6, hτ6⟩ : ∃ s, s = yset τ 1 4 (y + 1) := ⟨_, rfl⟩
                  rw [← hτ6]
                  exact y_vret (pc := 135) hF dX9_readRow_135 (Nat.zero_le _) (Nat.zero_le _) ⟨rfl, rfl, zFp.tr (zQp.h hτ6).2.t3, by rw [zE]; (first | rw [if_pos zc119] | rw [if_neg zc119]); exact (zQp.h hτ6).1, by rw [zE]; exact zNp.fr ((zQp.h hτ6).2.1 3 (by omega))⟩
                · skip
                  refine y_aload_n (pc := 122) hF dX9_readRow_122 0 rfl ?_
                  refine y_iload (pc := 123) hF dX9_readRow_123 4 rfl ?_
                  refine y_putf (pc := 125) (ci := 9) (σ' := yset τ 1 3 c) (sch' := (SC g)) hF dX9_readRow_125 (by omega) rfl rfl rfl iX9 3 (by decide) w_125 tyX9 tyX9_ok nmX9 rfl rfl rfl rfl (Nat.le_of_ble_eq_true rfl) rfl (y_ps rfl) (fun k' h => ⟨yset_n h, rfl⟩) ?_
                  obtain ⟨τ5, hτ5⟩ : ∃ s, s = yset τ 1 3 c := ⟨_, rfl⟩
                  rw [← hτ5]
                  have zw5 := zQx.w hτ5; have zQp := zw5.1; have zFp := zFx.tr zw5.2.t3; have zNp := zNx.fr (zw5.2.1 3 (by omega))
                  refine y_aload_n (pc := 128) hF dX9_readRow_128 0 rfl ?_
                  refine y_iload_n (pc := 129) hF dX9_readRow_129 1 rfl ?_
                  refine y_iconst (pc := 130) hF dX9_readRow_130 ?_
                  refine y_iadd (pc := 131) hF dX9_readRow_131 ?_
                  refine y_putf (pc := 132) (ci := 9) (σ' := yset τ5 1 4 (y + 1)) (sch' := (SC g)) hF dX9_readRow_132 (by omega) rfl rfl rfl iX9 4 (by decide) w_127 tyX9 tyX9_ok nmX9 rfl rfl rfl rfl (Nat.le_of_ble_eq_true rfl) rfl (y_ps rfl) (fun k' h => ⟨yset_n h, rfl⟩) ?_
                  obtain ⟨τ6, hτ6⟩ : ∃ s, s = yset τ5 1 4 (y + 1) := ⟨_, rfl⟩
                  rw [← hτ6]
                  exact y_vret (pc := 135) hF dX9_readRow_135 (Nat.zero_le _) (Nat.zero_le _) ⟨rfl, rfl, zFp.tr (zQp.h hτ6).2.t3, by rw [zE]; (first | rw [if_pos zc119] | rw [if_neg zc119]); exact (zQp.h hτ6).1, by rw [zE]; exact zNp.fr ((zQp.h hτ6).2.1 3 (by omega))⟩
              · skip
                refine y_aload_n (pc := 109) hF dX9_readRow_109 0 rfl ?_
                refine y_iconst (pc := 110) hF dX9_readRow_110 ?_
                refine y_aload_n (pc := 111) hF dX9_readRow_111 0 rfl ?_
                refine y_get (pc := 112) (ci := 9) hF dX9_readRow_112 (by omega) rfl rfl rfl iX9 7 (by decide) w_132 rfl ?_
                rw [show τ 1 7 = P from zI37.1.2.1]
                refine y_cv (y_rV (pc := 115) hF (tX9_failAt hn (4) (P)) dX9_readRow_115 (by omega) rfl rfl rfl w_701 qX9_failAt rfl ⟨Nat.le_of_ble_eq_true rfl, Nat.le_of_ble_eq_true rfl⟩ ⟨Nat.zero_le _, Nat.zero_le _⟩ (Nat.le_of_ble_eq_true rfl) rfl) rfl rfl (fun n' σ' zp115 => ?_)
                obtain ⟨zn115, rfl⟩ := zp115
                have zn115 := zn115.symm
                subst zn115
                obtain ⟨τ9, hτ9⟩ : ∃ s, s = yset (yset τ 1 8 4) 1 5 P := ⟨_, rfl⟩
                rw [← hτ9]
                have zE : rwE tb e y W p fp = (4, P, P, c, m) := by { unfold rwE; rw [← zmo, zR]; exact if_pos (show f = 0 ∧ c < rwLe y W by rw [← zle]; omega) }; have z9 := zI37.1.fail hτ9; have zQx := z9.1; have zFx := zI37.2.1.tr z9.2.t3; have zNx := zI37.2.2.1.fr (z9.2.1 3 (by omega))
                refine y_iload_n (pc := 118) hF dX9_readRow_118 1 rfl ?_
                refine y_if_ne (pc := 119) hF dX9_readRow_119 128 rfl (by omega) (fun zc119 => ?_) (fun zc119 => ?_)
                · skip
                  have zQp := zQx; have zFp := zFx; have zNp := zNx
                  refine y_aload_n (pc := 128) hF dX9_readRow_128 0 rfl ?_
                  refine y_iload_n (pc := 129) hF dX9_readRow_129 1 rfl ?_
                  refine y_iconst (pc := 130) hF dX9_readRow_130 ?_
                  refine y_iadd (pc := 131) hF dX9_readRow_131 ?_
                  refine y_putf (pc := 132) (ci := 9) (σ' := yset τ9 1 4 (y + 1)) (sch' := (SC g)) hF dX9_readRow_132 (by omega) rfl rfl rfl iX9 4 (by decide) w_127 tyX9 tyX9_ok nmX9 rfl rfl rfl rfl (Nat.le_of_ble_eq_true rfl) rfl (y_ps rfl) (fun k' h => ⟨yset_n h, rfl⟩) ?_
                  obtain ⟨τ6, hτ6⟩ : ∃ s, s = yset τ9 1 4 (y + 1) := ⟨_, rfl⟩
                  rw [← hτ6]
                  exact y_vret (pc := 135) hF dX9_readRow_135 (Nat.zero_le _) (Nat.zero_le _) ⟨rfl, rfl, zFp.tr (zQp.h hτ6).2.t3, by rw [zE]; (first | rw [if_pos zc119] | rw [if_neg zc119]); exact (zQp.h hτ6).1, by rw [zE]; exact zNp.fr ((zQp.h hτ6).2.1 3 (by omega))⟩
                · skip
                  refine y_aload_n (pc := 122) hF dX9_readRow_122 0 rfl ?_
                  refine y_iload (pc := 123) hF dX9_readRow_123 4 rfl ?_
                  refine y_putf (pc := 125) (ci := 9) (σ' := yset τ9 1 3 c) (sch' := (SC g)) hF dX9_readRow_125 (by omega) rfl rfl rfl iX9 3 (by decide) w_125 tyX9 tyX9_ok nmX9 rfl rfl rfl rfl (Nat.le_of_ble_eq_true rfl) rfl (y_ps rfl) (fun k' h => ⟨yset_n h, rfl⟩) ?_
                  obtain ⟨τ5, hτ5⟩ : ∃ s, s = yset τ9 1 3 c := ⟨_, rfl⟩
                  rw [← hτ5]
                  have zw5 := zQx.w hτ5; have zQp := zw5.1; have zFp := zFx.tr zw5.2.t3; have zNp := zNx.fr (zw5.2.1 3 (by omega))
                  refine y_aload_n (pc := 128) hF dX9_readRow_128 0 rfl ?_
                  refine y_iload_n (pc := 129) hF dX9_readRow_129 1 rfl ?_
                  refine y_iconst (pc := 130) hF dX9_readRow_130 ?_
                  refine y_iadd (pc := 131) hF dX9_readRow_131 ?_
                  refine y_putf (pc := 132) (ci := 9) (σ' := yset τ5 1 4 (y + 1)) (sch' := (SC g)) hF dX9_readRow_132 (by omega) rfl rfl rfl iX9 4 (by decide) w_127 tyX9 tyX9_ok nmX9 rfl rfl rfl rfl (Nat.le_of_ble_eq_true rfl) rfl (y_ps rfl) (fun k' h => ⟨yset_n h, rfl⟩) ?_
                  obtain ⟨τ6, hτ6⟩ : ∃ s, s = yset τ5 1 4 (y + 1) := ⟨_, rfl⟩
                  rw [← hτ6]
                  exact y_vret (pc := 135) hF dX9_readRow_135 (Nat.zero_le _) (Nat.zero_le _) ⟨rfl, rfl, zFp.tr (zQp.h hτ6).2.t3, by rw [zE]; (first | rw [if_pos zc119] | rw [if_neg zc119]); exact (zQp.h hτ6).1, by rw [zE]; exact zNp.fr ((zQp.h hτ6).2.1 3 (by omega))⟩
          refine y_iload (pc := 37) hF dX9_readRow_37 5 rfl ?_
          refine y_sipush (pc := 39) hF dX9_readRow_39 (by decide) ?_
          refine y_icmp_gt (pc := 42) hF dX9_readRow_42 96 rfl (by omega) (by omega) (fun zc42 => ?_) (fun zc42 => ?_)
          · skip
            exact zJ96  (zI37.2.2.2.2.2.trans (by rw [show i = 301 by omega]; rfl))
          · skip
            refine y_aload_n (pc := 45) hF dX9_readRow_45 0 rfl ?_
            refine y_get (pc := 46) (ci := 9) hF dX9_readRow_46 (by omega) rfl rfl rfl iX9 8 (by decide) w_133 rfl ?_
            rw [show τ 1 8 = f from zI37.1.2.2.1]
            refine y_if_ne (pc := 49) hF dX9_readRow_49 96 rfl (by omega) (fun zc49 => ?_) (fun zc49 => ?_)
            · skip
              exact zJ96  (zI37.2.2.2.2.2.trans (by exact rwL_stop (by unfold rwC; simp; omega)))
            · skip
              refine y_aload_n (pc := 52) hF dX9_readRow_52 0 rfl ?_
              refine y_get (pc := 53) (ci := 9) hF dX9_readRow_53 (by omega) rfl rfl rfl iX9 7 (by decide) w_132 rfl ?_
              rw [show τ 1 7 = P from zI37.1.2.1]
              refine y_aload_n (pc := 56) hF dX9_readRow_56 0 rfl ?_
              refine y_get (pc := 57) (ci := 9) hF dX9_readRow_57 (by omega) rfl rfl rfl iX9 6 (by decide) w_131 rfl ?_
              rw [show τ 1 6 = e from zI37.1.1]
              refine y_icmp_ge (pc := 60) hF dX9_readRow_60 96 rfl (by omega) (by omega) (fun zc60 => ?_) (fun zc60 => ?_)
              · skip
                exact zJ96  (zI37.2.2.2.2.2.trans (by exact rwL_stop (by unfold rwC; simp; omega)))
              · skip
                have zb := htb P
                have zbq := zI37.1.2.2.2.2.2.2.2 P (by omega) (by omega)
                have zq3 : 0 ≤ P ∧ P < (300 : Int) := by omega
                refine y_aload_n (pc := 63) hF dX9_readRow_63 0 rfl ?_
                refine y_get (pc := 64) (ci := 9) hF dX9_readRow_64 (by omega) rfl rfl rfl iX9 0 (by decide) w_120 rfl ?_
                refine y_aload_n (pc := 67) hF dX9_readRow_67 0 rfl ?_
                refine y_get (pc := 68) (ci := 9) hF dX9_readRow_68 (by omega) rfl rfl rfl iX9 7 (by decide) w_132 rfl ?_
                rw [show τ 1 7 = P from zI37.1.2.1]
                refine y_iaload (pc := 71) hF dX9_readRow_71 (by omega) rfl zq3 (by decide) ?_
                rw [show τ 2 P = tb P from zbq]
                refine y_bipush (pc := 72) hF dX9_readRow_72 (by decide) ?_
                refine y_icmp_eq (pc := 74) hF dX9_readRow_74 96 rfl (by omega) (by omega) (fun zc74 => ?_) (fun zc74 => ?_)
                · skip
                  exact zJ96  (zI37.2.2.2.2.2.trans (by exact rwL_stop (by unfold rwC; simp; omega)))
                · skip
                  have zf0 : f = 0 := by omega
                  have zQf : rTq τ tb e P 0 FP W h (dr + c) := by rw [← zf0]; exact zI37.1
                  obtain ⟨I2_, hI2⟩ : ∃ r, r = itm tb e P (mo - c) := ⟨_, rfl⟩
                  obtain ⟨f2, fp2, p2, t2, v2⟩ := I2_
                  have zb2 := itm_bd (by omega) (by omega) htb hI2
                  have zt2 : (itm tb e P (mo - c)).2.2.2.1 = t2 := by rw [← hI2]
                  have zi2 : rwI tb e mo (f, FP, P, c, m) = (f2, if f2 = 0 then FP else fp2, p2, c + t2, rwG c m t2 v2) := by unfold rwI; simp only [← hI2]
                  refine y_iload (pc := 77) hF dX9_readRow_77 4 rfl ?_
                  refine y_aload_n (pc := 79) hF dX9_readRow_79 0 rfl ?_
                  refine y_iload_n (pc := 80) hF dX9_readRow_80 2 rfl ?_
                  refine y_iload (pc := 81) hF dX9_readRow_81 4 rfl ?_
                  refine y_isub (pc := 83) hF dX9_readRow_83 ?_
                  refine y_ci (y_rV (pc := 84) hF (tX9_readItem hn tb e P FP W h (dr + c) zQf (by omega) htb (mo - c) (by omega) (by omega)) dX9_readRow_84 (by omega) rfl rfl rfl w_690 qX9_readItem rfl ⟨Nat.le_of_ble_eq_true rfl, Nat.le_of_ble_eq_true rfl⟩ ⟨Nat.zero_le _, Nat.zero_le _⟩ (Nat.le_of_ble_eq_true rfl) rfl) rfl rfl (fun r84 n' σ84 zp84 => ?_)
                  obtain ⟨zn84, zv84, zp84⟩ := zp84
                  have zn84 := zn84.symm
                  subst zn84
                  rw [zv84]
                  rw [zt2]
                  rw [← hI2] at zp84
                  have zQ2 : rTq σ84 tb e p2 f2 (if f2 = 0 then FP else fp2) W h (dr + c + t2) := zp84.2.1
                  refine y_iadd (pc := 87) hF dX9_readRow_87 ?_
                  refine y_istore (pc := 88) (lv' := [(0, yR g 1), (1, yI y), (2, yI mo), (3, yI le), (4, yI (c + t2)), (5, yI i)]) hF dX9_readRow_88 (by decide) rfl rfl ?_
                  refine y_iinc (pc := 90) (lv' := [(0, yR g 1), (1, yI y), (2, yI mo), (3, yI le), (4, yI (c + t2)), (5, yI (i + 1))]) hF dX9_readRow_90 5 rfl (by decide) rfl rfl ?_
                  refine y_goto (pc := 93) hF dX9_readRow_93 37 rfl ?_
                  exact zh37 _ (by omega) σ84 f2 (if f2 = 0 then FP else fp2) p2 (c + t2) (i + 1) (rwG c m t2 v2) rfl ⟨by have zq := zQ2; rw [Int.add_assoc] at zq; exact zq, zI37.2.1.tr zp84.1, rTn.up (by omega) (by omega) zI37.2.2.1 zp84.2.2, by omega, by omega, by rw [zI37.2.2.2.2.2, rwL_go (by omega) (by unfold rwC; simp; omega), zi2]⟩
      exact zL37 _ σ29 f1 (if f1 = 0 then fp else fp1) p1 (t1) 1 (rwG 0 (fun _ => 0) t1 v1) rfl ⟨zQ1, zp29.1, by have zq := rTn.up (σ := σ) (σ1 := σ) (σ2 := σ29) (dr := dr) (c := 0) (t := t1) (v := v1) (m := fun _ => 0) (Int.le_refl 0) zb1.2.2.2.1.1 (fun j => by rw [if_neg (by omega)]) (fun j => by rw [Int.add_zero]; exact zp29.2.2 j); rw [Int.zero_add] at zq; exact zq, by omega, by omega, by unfold rwR; rw [zi1]; rfl⟩
    refine y_iload_n (pc := 14) hF dX9_readRow_14 1 rfl ?_
    refine y_if_ne (pc := 15) hF dX9_readRow_15 22 rfl (by omega) (fun zc15 => ?_) (fun zc15 => ?_)
    · skip
      refine y_aload_n (pc := 22) hF dX9_readRow_22 0 rfl ?_
      refine y_get (pc := 23) (ci := 9) hF dX9_readRow_23 (by omega) rfl rfl rfl iX9 3 (by decide) w_125 rfl ?_
      rw [show σ 1 3 = W from hQ.2.2.2.2.1]
      exact zJ26 W (by unfold rwLe; rw [if_neg (by omega)])
    · skip
      refine y_iconst (pc := 18) hF dX9_readRow_18 ?_
      refine y_goto (pc := 19) hF dX9_readRow_19 26 rfl ?_
      exact zJ26 3 (by unfold rwLe; rw [if_pos (by omega)])
  refine y_iload_n (pc := 0) hF dX9_readRow_0 1 rfl ?_
  refine y_if_ne (pc := 1) hF dX9_readRow_1 9 rfl (by omega) (fun zc1 => ?_) (fun zc1 => ?_)
  · skip
    refine y_aload_n (pc := 9) hF dX9_readRow_9 0 rfl ?_
    refine y_get (pc := 10) (ci := 9) hF dX9_readRow_10 (by omega) rfl rfl rfl iX9 3 (by decide) w_125 rfl ?_
    rw [show σ 1 3 = W from hQ.2.2.2.2.1]
    exact zJ13 W (by unfold rwMo; rw [if_neg (by omega)])
  · skip
    refine y_bipush (pc := 4) hF dX9_readRow_4 (by decide) ?_
    refine y_goto (pc := 6) hF dX9_readRow_6 13 rfl ?_
    exact zJ13 20 (by unfold rwMo; rw [if_pos (by omega)])
