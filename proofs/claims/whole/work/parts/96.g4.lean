theorem dX9_readItem_0 : decode cX9_readItem 0 = .ok (.aload_n 0, 1) := by decide +kernel
theorem dX9_readItem_1 : decode cX9_readItem 1 = .ok (.getfield 34, 3) := by decide +kernel
theorem dX9_readItem_4 : decode cX9_readItem 4 = .ok (.istore_n 2, 1) := by decide +kernel
theorem dX9_readItem_5 : decode cX9_readItem 5 = .ok (.aload_n 0, 1) := by decide +kernel
theorem dX9_readItem_6 : decode cX9_readItem 6 = .ok (.invokevirtual 55, 3) := by decide +kernel
theorem dX9_readItem_9 : decode cX9_readItem 9 = .ok (.istore_n 3, 1) := by decide +kernel
theorem dX9_readItem_10 : decode cX9_readItem 10 = .ok (.aload_n 0, 1) := by decide +kernel
theorem dX9_readItem_11 : decode cX9_readItem 11 = .ok (.getfield 37, 3) := by decide +kernel
theorem dX9_readItem_14 : decode cX9_readItem 14 = .ok (.ifCond .eq 5, 3) := by decide +kernel
theorem dX9_readItem_17 : decode cX9_readItem 17 = .ok (.iconst 0, 1) := by decide +kernel
theorem dX9_readItem_18 : decode cX9_readItem 18 = .ok (.ireturn, 1) := by decide +kernel
theorem dX9_readItem_19 : decode cX9_readItem 19 = .ok (.aload_n 0, 1) := by decide +kernel
theorem dX9_readItem_20 : decode cX9_readItem 20 = .ok (.getfield 34, 3) := by decide +kernel
theorem dX9_readItem_23 : decode cX9_readItem 23 = .ok (.aload_n 0, 1) := by decide +kernel
theorem dX9_readItem_24 : decode cX9_readItem 24 = .ok (.getfield 31, 3) := by decide +kernel
theorem dX9_readItem_27 : decode cX9_readItem 27 = .ok (.if_icmp .ge 15, 3) := by decide +kernel
theorem dX9_readItem_30 : decode cX9_readItem 30 = .ok (.aload_n 0, 1) := by decide +kernel
theorem dX9_readItem_31 : decode cX9_readItem 31 = .ok (.getfield 11, 3) := by decide +kernel
theorem dX9_readItem_34 : decode cX9_readItem 34 = .ok (.aload_n 0, 1) := by decide +kernel
theorem dX9_readItem_35 : decode cX9_readItem 35 = .ok (.getfield 34, 3) := by decide +kernel
theorem dX9_readItem_38 : decode cX9_readItem 38 = .ok (.iaload, 1) := by decide +kernel
theorem dX9_readItem_39 : decode cX9_readItem 39 = .ok (.goto 4, 3) := by decide +kernel
theorem dX9_readItem_42 : decode cX9_readItem 42 = .ok (.iconst (-1), 1) := by decide +kernel
theorem dX9_readItem_43 : decode cX9_readItem 43 = .ok (.istore 4, 2) := by decide +kernel
theorem dX9_readItem_45 : decode cX9_readItem 45 = .ok (.iload 4, 2) := by decide +kernel
theorem dX9_readItem_47 : decode cX9_readItem 47 = .ok (.bipush 63, 2) := by decide +kernel
theorem dX9_readItem_49 : decode cX9_readItem 49 = .ok (.if_icmp .eq 28, 3) := by decide +kernel
theorem dX9_readItem_52 : decode cX9_readItem 52 = .ok (.iload 4, 2) := by decide +kernel
theorem dX9_readItem_54 : decode cX9_readItem 54 = .ok (.bipush 97, 2) := by decide +kernel
theorem dX9_readItem_56 : decode cX9_readItem 56 = .ok (.if_icmp .lt 10, 3) := by decide +kernel
theorem dX9_readItem_59 : decode cX9_readItem 59 = .ok (.iload 4, 2) := by decide +kernel
theorem dX9_readItem_61 : decode cX9_readItem 61 = .ok (.bipush 122, 2) := by decide +kernel
theorem dX9_readItem_63 : decode cX9_readItem 63 = .ok (.if_icmp .le 14, 3) := by decide +kernel
theorem dX9_readItem_66 : decode cX9_readItem 66 = .ok (.aload_n 0, 1) := by decide +kernel
theorem dX9_readItem_67 : decode cX9_readItem 67 = .ok (.iconst 1, 1) := by decide +kernel
theorem dX9_readItem_68 : decode cX9_readItem 68 = .ok (.aload_n 0, 1) := by decide +kernel
theorem dX9_readItem_69 : decode cX9_readItem 69 = .ok (.getfield 34, 3) := by decide +kernel
theorem dX9_readItem_72 : decode cX9_readItem 72 = .ok (.invokevirtual 47, 3) := by decide +kernel
theorem dX9_readItem_75 : decode cX9_readItem 75 = .ok (.iconst 0, 1) := by decide +kernel
theorem dX9_readItem_76 : decode cX9_readItem 76 = .ok (.ireturn, 1) := by decide +kernel
theorem dX9_readItem_77 : decode cX9_readItem 77 = .ok (.iload_n 3, 1) := by decide +kernel
theorem dX9_readItem_78 : decode cX9_readItem 78 = .ok (.iload_n 1, 1) := by decide +kernel
theorem dX9_readItem_79 : decode cX9_readItem 79 = .ok (.if_icmp .le 11, 3) := by decide +kernel
theorem dX9_readItem_82 : decode cX9_readItem 82 = .ok (.aload_n 0, 1) := by decide +kernel
theorem dX9_readItem_83 : decode cX9_readItem 83 = .ok (.iconst 3, 1) := by decide +kernel
theorem dX9_readItem_84 : decode cX9_readItem 84 = .ok (.iload_n 2, 1) := by decide +kernel
theorem dX9_readItem_85 : decode cX9_readItem 85 = .ok (.invokevirtual 47, 3) := by decide +kernel
theorem dX9_readItem_88 : decode cX9_readItem 88 = .ok (.iconst 0, 1) := by decide +kernel
theorem dX9_readItem_89 : decode cX9_readItem 89 = .ok (.ireturn, 1) := by decide +kernel
theorem dX9_readItem_90 : decode cX9_readItem 90 = .ok (.iconst 0, 1) := by decide +kernel
theorem dX9_readItem_91 : decode cX9_readItem 91 = .ok (.istore 5, 2) := by decide +kernel
theorem dX9_readItem_93 : decode cX9_readItem 93 = .ok (.iload 5, 2) := by decide +kernel
theorem dX9_readItem_95 : decode cX9_readItem 95 = .ok (.iload_n 3, 1) := by decide +kernel
theorem dX9_readItem_96 : decode cX9_readItem 96 = .ok (.if_icmp .ge 57, 3) := by decide +kernel
theorem dX9_readItem_99 : decode cX9_readItem 99 = .ok (.aload_n 0, 1) := by decide +kernel
theorem dX9_readItem_100 : decode cX9_readItem 100 = .ok (.getfield 40, 3) := by decide +kernel
theorem dX9_readItem_103 : decode cX9_readItem 103 = .ok (.sipush 400, 3) := by decide +kernel
theorem dX9_readItem_106 : decode cX9_readItem 106 = .ok (.if_icmp .ge 47, 3) := by decide +kernel
theorem dX9_readItem_109 : decode cX9_readItem 109 = .ok (.aload_n 0, 1) := by decide +kernel
theorem dX9_readItem_110 : decode cX9_readItem 110 = .ok (.getfield 19, 3) := by decide +kernel
theorem dX9_readItem_113 : decode cX9_readItem 113 = .ok (.aload_n 0, 1) := by decide +kernel
theorem dX9_readItem_114 : decode cX9_readItem 114 = .ok (.getfield 40, 3) := by decide +kernel
theorem dX9_readItem_117 : decode cX9_readItem 117 = .ok (.iload 4, 2) := by decide +kernel
theorem dX9_readItem_119 : decode cX9_readItem 119 = .ok (.bipush 63, 2) := by decide +kernel
theorem dX9_readItem_121 : decode cX9_readItem 121 = .ok (.if_icmp .ne 7, 3) := by decide +kernel
theorem dX9_readItem_124 : decode cX9_readItem 124 = .ok (.iconst (-1), 1) := by decide +kernel
theorem dX9_readItem_125 : decode cX9_readItem 125 = .ok (.goto 11, 3) := by decide +kernel
theorem dX9_readItem_128 : decode cX9_readItem 128 = .ok (.iload 4, 2) := by decide +kernel
theorem dX9_readItem_130 : decode cX9_readItem 130 = .ok (.bipush 97, 2) := by decide +kernel
theorem dX9_readItem_132 : decode cX9_readItem 132 = .ok (.isub, 1) := by decide +kernel
theorem dX9_readItem_133 : decode cX9_readItem 133 = .ok (.bipush 10, 2) := by decide +kernel
theorem dX9_readItem_135 : decode cX9_readItem 135 = .ok (.imul, 1) := by decide +kernel
theorem dX9_readItem_136 : decode cX9_readItem 136 = .ok (.iastore, 1) := by decide +kernel
theorem dX9_readItem_137 : decode cX9_readItem 137 = .ok (.aload_n 0, 1) := by decide +kernel
theorem dX9_readItem_138 : decode cX9_readItem 138 = .ok (.dup, 1) := by decide +kernel
theorem dX9_readItem_139 : decode cX9_readItem 139 = .ok (.getfield 40, 3) := by decide +kernel
theorem dX9_readItem_142 : decode cX9_readItem 142 = .ok (.iconst 1, 1) := by decide +kernel
theorem dX9_readItem_143 : decode cX9_readItem 143 = .ok (.iadd, 1) := by decide +kernel
theorem dX9_readItem_144 : decode cX9_readItem 144 = .ok (.putfield 40, 3) := by decide +kernel
theorem dX9_readItem_147 : decode cX9_readItem 147 = .ok (.iinc 5 1, 3) := by decide +kernel
theorem dX9_readItem_150 : decode cX9_readItem 150 = .ok (.goto (-57), 3) := by decide +kernel
theorem dX9_readItem_153 : decode cX9_readItem 153 = .ok (.aload_n 0, 1) := by decide +kernel
theorem dX9_readItem_154 : decode cX9_readItem 154 = .ok (.dup, 1) := by decide +kernel
theorem dX9_readItem_155 : decode cX9_readItem 155 = .ok (.getfield 34, 3) := by decide +kernel
theorem dX9_readItem_158 : decode cX9_readItem 158 = .ok (.iconst 1, 1) := by decide +kernel
theorem dX9_readItem_159 : decode cX9_readItem 159 = .ok (.iadd, 1) := by decide +kernel
theorem dX9_readItem_160 : decode cX9_readItem 160 = .ok (.putfield 34, 3) := by decide +kernel
theorem dX9_readItem_163 : decode cX9_readItem 163 = .ok (.iload_n 3, 1) := by decide +kernel
theorem dX9_readItem_164 : decode cX9_readItem 164 = .ok (.ireturn, 1) := by decide +kernel
set_option maxHeartbeats 4000000 in
set_option maxRecDepth 100000 in
theorem tX9_readItem {l : Launch} {g : yG} {n : Nat} {σ : yM} (hn : 172 ≤ n) (tb : Int → Int) (e p fp W h dr : Int) (hQ : rTq σ tb e p 0 fp W h dr) (hpe : 0 ≤ p ∧ p ≤ e ∧ e ≤ 300) (htb : ∀ j : Int, 0 ≤ tb j ∧ tb j ≤ 255) (ro : Int) (hro : 0 ≤ ro ∧ ro ≤ 20) (hdr : 0 ≤ dr ∧ dr + ro ≤ 400) : yMet l g yX9_readItem cX9_readItem 6 (some .int) (rmL 3) [yR g 1, yI ro] (SC g) n σ (SC g) (yPi (fun v n' σ' => n' = n ∧ v = (itm tb e p ro).2.2.2.1 ∧ fT3 σ σ' ∧ rTq σ' tb e (itm tb e p ro).2.2.1 (itm tb e p ro).1 (if (itm tb e p ro).1 = 0 then fp else (itm tb e p ro).2.1) W h (dr + (itm tb e p ro).2.2.2.1) ∧ ∀ j : Int, σ' 3 j = if dr ≤ j ∧ j < dr + (itm tb e p ro).2.2.2.1 then (itm tb e p ro).2.2.2.2 else σ 3 j)) := by
  have zbd := it_bd (tb := tb) hpe.2.1
  obtain ⟨q, hq⟩ : ∃ q, q = (dgP tb e p).1 := ⟨_, rfl⟩
  rw [← hq] at zbd
  refine y_start (by decide) (Nat.le_of_ble_eq_true rfl) (fun X0 hF => ?_)
  show yV X0 g 6 (yQ X0 g (SC g) (yPi (fun v n' σ' => n' = n ∧ v = (itm tb e p ro).2.2.2.1 ∧ fT3 σ σ' ∧ rTq σ' tb e (itm tb e p ro).2.2.1 (itm tb e p ro).1 (if (itm tb e p ro).1 = 0 then fp else (itm tb e p ro).2.1) W h (dr + (itm tb e p ro).2.2.2.1) ∧ ∀ j : Int, σ' 3 j = if dr ≤ j ∧ j < dr + (itm tb e p ro).2.2.2.1 then (itm tb e p ro).2.2.2.2 else σ 3 j)) (rmL 3)) (SC g) n σ 0 0 0 [(0, yR g 1), (1, yI ro)] []
  refine y_aload_n (pc := 0) hF dX9_readItem_0 0 rfl ?_
  refine y_get (pc := 1) (ci := 9) hF dX9_readItem_1 (by omega) rfl rfl rfl iX9 7 (by decide) w_132 rfl ?_
  rw [show σ 1 7 = p from hQ.2.1]
  refine y_istore_n (pc := 4) (lv' := [(0, yR g 1), (1, yI ro), (2, yI p)]) hF dX9_readItem_4 (by decide) rfl rfl ?_
  refine y_aload_n (pc := 5) hF dX9_readItem_5 0 rfl ?_
  refine y_ci (y_rV (pc := 6) hF (tX9_readTimes hn tb e p fp W h dr hQ hpe htb) dX9_readItem_6 (by omega) rfl rfl rfl w_694 qX9_readTimes rfl ⟨Nat.le_of_ble_eq_true rfl, Nat.le_of_ble_eq_true rfl⟩ ⟨Nat.zero_le _, Nat.zero_le _⟩ (Nat.le_of_ble_eq_true rfl) rfl) rfl rfl (fun r6 n' σ6 zp6 => ?_)
  obtain ⟨zn6, zv6, zp6⟩ := zp6
  have zn6 := zn6.symm
  subst zn6
  subst zv6
  rw [← hq] at zp6
  refine y_istore_n (pc := 9) (lv' := [(0, yR g 1), (1, yI ro), (2, yI p), (3, yI (itT tb e p))]) hF dX9_readItem_9 (by decide) rfl rfl ?_
  refine y_aload_n (pc := 10) hF dX9_readItem_10 0 rfl ?_
  refine y_get (pc := 11) (ci := 9) hF dX9_readItem_11 (by omega) rfl rfl rfl iX9 8 (by decide) w_133 rfl ?_
  rw [show σ6 1 8 = (if itF tb e p = true then 2 else 0) from zp6.2.2.2.1]
  refine y_if_eq (pc := 14) hF dX9_readItem_14 19 rfl (by split <;> omega) (fun zc14 => ?_) (fun zc14 => ?_)
  · skip
    have zf0 : ¬ itF tb e p = true := fun zq => by rw [if_pos zq] at zc14; omega
    have zQ6 : rTq σ6 tb e q 0 fp W h dr := by have zq := zp6.2; rw [if_neg zf0, if_neg zf0] at zq; exact zq
    have zJ43 : ∀ (b : Int), (b = itB tb e p) → yV X0 g 6 (yQ X0 g (SC g) (yPi (fun v n' σ' => n' = n ∧ v = (itm tb e p ro).2.2.2.1 ∧ fT3 σ σ' ∧ rTq σ' tb e (itm tb e p ro).2.2.1 (itm tb e p ro).1 (if (itm tb e p ro).1 = 0 then fp else (itm tb e p ro).2.1) W h (dr + (itm tb e p ro).2.2.2.1) ∧ ∀ j : Int, σ' 3 j = if dr ≤ j ∧ j < dr + (itm tb e p ro).2.2.2.1 then (itm tb e p ro).2.2.2.2 else σ 3 j)) (rmL 3)) (SC g) n σ6 0 0 43 [(0, yR g 1), (1, yI ro), (2, yI p), (3, yI (itT tb e p))] [yI b] := by
      intro b  zB
      refine y_istore (pc := 43) (lv' := [(0, yR g 1), (1, yI ro), (2, yI p), (3, yI (itT tb e p)), (4, yI b)]) hF dX9_readItem_43 (by decide) rfl rfl ?_
      have zbb : -1 ≤ b ∧ b ≤ 255 := by rw [zB]; unfold itB; split; (have := htb (dgP tb e p).1; omega); (omega)
      have zJ77 : (b = 63 ∨ (97 ≤ b ∧ b ≤ 122)) → yV X0 g 6 (yQ X0 g (SC g) (yPi (fun v n' σ' => n' = n ∧ v = (itm tb e p ro).2.2.2.1 ∧ fT3 σ σ' ∧ rTq σ' tb e (itm tb e p ro).2.2.1 (itm tb e p ro).1 (if (itm tb e p ro).1 = 0 then fp else (itm tb e p ro).2.1) W h (dr + (itm tb e p ro).2.2.2.1) ∧ ∀ j : Int, σ' 3 j = if dr ≤ j ∧ j < dr + (itm tb e p ro).2.2.2.1 then (itm tb e p ro).2.2.2.2 else σ 3 j)) (rmL 3)) (SC g) n σ6 0 0 77 [(0, yR g 1), (1, yI ro), (2, yI p), (3, yI (itT tb e p)), (4, yI b)] [] := by
        intro zdot
        refine y_iload_n (pc := 77) hF dX9_readItem_77 3 rfl ?_
        refine y_iload_n (pc := 78) hF dX9_readItem_78 1 rfl ?_
        refine y_icmp_le (pc := 79) hF dX9_readItem_79 90 rfl (by omega) (by omega) (fun zc79 => ?_) (fun zc79 => ?_)
        · skip
          refine y_iconst (pc := 90) hF dX9_readItem_90 ?_
          refine y_istore (pc := 91) (lv' := [(0, yR g 1), (1, yI ro), (2, yI p), (3, yI (itT tb e p)), (4, yI b), (5, yI 0)]) hF dX9_readItem_91 (by decide) rfl rfl ?_
          have zL93 : ∀ (N : Nat) (τ : yM) (i : Int), N = (itT tb e p - i).toNat → (rTq τ tb e q 0 fp W h (dr + i) ∧ fT3 σ τ ∧ (0 ≤ i ∧ i ≤ itT tb e p) ∧ ∀ j : Int, τ 3 j = if dr ≤ j ∧ j < dr + i then (if itB tb e p = 63 then -1 else (itB tb e p - 97) * 10) else σ 3 j) → yV X0 g 6 (yQ X0 g (SC g) (yPi (fun v n' σ' => n' = n ∧ v = (itm tb e p ro).2.2.2.1 ∧ fT3 σ σ' ∧ rTq σ' tb e (itm tb e p ro).2.2.1 (itm tb e p ro).1 (if (itm tb e p ro).1 = 0 then fp else (itm tb e p ro).2.1) W h (dr + (itm tb e p ro).2.2.2.1) ∧ ∀ j : Int, σ' 3 j = if dr ≤ j ∧ j < dr + (itm tb e p ro).2.2.2.1 then (itm tb e p ro).2.2.2.2 else σ 3 j)) (rmL 3)) (SC g) n τ 0 0 93 [(0, yR g 1), (1, yI ro), (2, yI p), (3, yI (itT tb e p)), (4, yI b), (5, yI i)] [] := by
            intro N
            induction N using Nat.strongRecOn with
            | ind N zh93 =>
              intro τ  i  zN93 zI93
              refine y_iload (pc := 93) hF dX9_readItem_93 5 rfl ?_
              refine y_iload_n (pc := 95) hF dX9_readItem_95 3 rfl ?_
              refine y_icmp_ge (pc := 96) hF dX9_readItem_96 153 rfl (by omega) (by omega) (fun zc96 => ?_) (fun zc96 => ?_)
              · skip
                have zit : i = itT tb e p := by omega
                refine y_aload_n (pc := 153) hF dX9_readItem_153 0 rfl ?_
                refine y_dup (pc := 154) hF dX9_readItem_154 rfl ?_
                refine y_get (pc := 155) (ci := 9) hF dX9_readItem_155 (by omega) rfl rfl rfl iX9 7 (by decide) w_132 rfl ?_
                rw [show τ 1 7 = q from zI93.1.2.1]
                refine y_iconst (pc := 158) hF dX9_readItem_158 ?_
                refine y_iadd (pc := 159) hF dX9_readItem_159 ?_
                refine y_putf (pc := 160) (ci := 9) (σ' := yset τ 1 7 (q + 1)) (sch' := (SC g)) hF dX9_readItem_160 (by omega) rfl rfl rfl iX9 7 (by decide) w_132 tyX9 tyX9_ok nmX9 rfl rfl rfl rfl (Nat.le_of_ble_eq_true rfl) rfl (y_ps rfl) (fun k' h => ⟨yset_n h, rfl⟩) ?_
                obtain ⟨τ9, hτ9⟩ : ∃ s, s = yset τ 1 7 (q + 1) := ⟨_, rfl⟩
                rw [← hτ9]
                have zq9 := zI93.1.place hτ9
                have zm : itm tb e p ro = (0, -1, q + 1, itT tb e p, (if itB tb e p = 63 then -1 else (itB tb e p - 97) * 10)) := by unfold itm; rw [if_neg zf0, if_neg (by rw [← zB]; omega), if_neg (by omega), ← hq]
                refine y_iload_n (pc := 163) hF dX9_readItem_163 3 rfl ?_
                exact y_iret (pc := 164) hF dX9_readItem_164 (Nat.zero_le _) (Nat.zero_le _) ⟨_, rfl, rfl, by rw [zm], zI93.2.1.tr zq9.2.t3, by rw [zm]; show rTq _ tb e (q + 1) 0 fp W h (dr + itT tb e p); rw [← zit]; exact zq9.1, fun j => by rw [zm]; show _ = if dr ≤ j ∧ j < dr + itT tb e p then (if itB tb e p = 63 then -1 else (itB tb e p - 97) * 10) else σ 3 j; rw [← zit]; exact (congrFun (zq9.2.1 3 (by omega)) j).trans (zI93.2.2.2 j)⟩
              · skip
                refine y_aload_n (pc := 99) hF dX9_readItem_99 0 rfl ?_
                refine y_get (pc := 100) (ci := 9) hF dX9_readItem_100 (by omega) rfl rfl rfl iX9 9 (by decide) w_134 rfl ?_
                rw [show τ 1 9 = dr + i from zI93.1.2.2.2.2.2.2.1]
                refine y_sipush (pc := 103) hF dX9_readItem_103 (by decide) ?_
                refine y_icmp_ge (pc := 106) hF dX9_readItem_106 153 rfl (by omega) (by omega) (fun zc106 => ?_) (fun zc106 => ?_)
                · skip
                  have zit : i = itT tb e p := by omega
                  refine y_aload_n (pc := 153) hF dX9_readItem_153 0 rfl ?_
                  refine y_dup (pc := 154) hF dX9_readItem_154 rfl ?_
                  refine y_get (pc := 155) (ci := 9) hF dX9_readItem_155 (by omega) rfl rfl rfl iX9 7 (by decide) w_132 rfl ?_
                  rw [show τ 1 7 = q from zI93.1.2.1]
                  refine y_iconst (pc := 158) hF dX9_readItem_158 ?_
                  refine y_iadd (pc := 159) hF dX9_readItem_159 ?_
                  refine y_putf (pc := 160) (ci := 9) (σ' := yset τ 1 7 (q + 1)) (sch' := (SC g)) hF dX9_readItem_160 (by omega) rfl rfl rfl iX9 7 (by decide) w_132 tyX9 tyX9_ok nmX9 rfl rfl rfl rfl (Nat.le_of_ble_eq_true rfl) rfl (y_ps rfl) (fun k' h => ⟨yset_n h, rfl⟩) ?_
                  obtain ⟨τ9, hτ9⟩ : ∃ s, s = yset τ 1 7 (q + 1) := ⟨_, rfl⟩
                  rw [← hτ9]
                  have zq9 := zI93.1.place hτ9
                  have zm : itm tb e p ro = (0, -1, q + 1, itT tb e p, (if itB tb e p = 63 then -1 else (itB tb e p - 97) * 10)) := by unfold itm; rw [if_neg zf0, if_neg (by rw [← zB]; omega), if_neg (by omega), ← hq]
                  refine y_iload_n (pc := 163) hF dX9_readItem_163 3 rfl ?_
                  exact y_iret (pc := 164) hF dX9_readItem_164 (Nat.zero_le _) (Nat.zero_le _) ⟨_, rfl, rfl, by rw [zm], zI93.2.1.tr zq9.2.t3, by rw [zm]; show rTq _ tb e (q + 1) 0 fp W h (dr + itT tb e p); rw [← zit]; exact zq9.1, fun j => by rw [zm]; show _ = if dr ≤ j ∧ j < dr + itT tb e p then (if itB tb e p = 63 then -1 else (itB tb e p - 97) * 10) else σ 3 j; rw [← zit]; exact (congrFun (zq9.2.1 3 (by omega)) j).trans (zI93.2.2.2 j)⟩
                · skip
                  refine y_aload_n (pc := 109) hF dX9_readItem_109 0 rfl ?_
                  refine y_get (pc := 110) (ci := 9) hF dX9_readItem_110 (by omega) rfl rfl rfl iX9 2 (by decide) w_123 rfl ?_
                  refine y_aload_n (pc := 113) hF dX9_readItem_113 0 rfl ?_
                  refine y_get (pc := 114) (ci := 9) hF dX9_readItem_114 (by omega) rfl rfl rfl iX9 9 (by decide) w_134 rfl ?_
                  rw [show τ 1 9 = dr + i from zI93.1.2.2.2.2.2.2.1]
                  refine y_iload (pc := 117) hF dX9_readItem_117 4 rfl ?_
                  refine y_bipush (pc := 119) hF dX9_readItem_119 (by decide) ?_
                  refine y_icmp_ne (pc := 121) hF dX9_readItem_121 128 rfl (by omega) (by omega) (fun zc121 => ?_) (fun zc121 => ?_)
                  · skip
                    have zvv : (b - 97) * 10 = if b = 63 then -1 else (b - 97) * 10 := by rw [if_neg zc121]
                    refine y_iload (pc := 128) hF dX9_readItem_128 4 rfl ?_
                    refine y_bipush (pc := 130) hF dX9_readItem_130 (by decide) ?_
                    refine y_isub (pc := 132) hF dX9_readItem_132 ?_
                    refine y_bipush (pc := 133) hF dX9_readItem_133 (by decide) ?_
                    refine y_imul (pc := 135) hF dX9_readItem_135 ?_
                    refine y_iastore (pc := 136) hF dX9_readItem_136 (by omega) rfl ⟨by omega, by show _ < (400 : Int); omega⟩ (by decide) ?_
                    obtain ⟨τ1, hτ1⟩ : ∃ s, s = yset τ 3 (dr + i) ((b - 97) * 10) := ⟨_, rfl⟩
                    rw [← hτ1]
                    have zQ1 := zI93.1.tone hτ1
                    refine y_aload_n (pc := 137) hF dX9_readItem_137 0 rfl ?_
                    refine y_dup (pc := 138) hF dX9_readItem_138 rfl ?_
                    refine y_get (pc := 139) (ci := 9) hF dX9_readItem_139 (by omega) rfl rfl rfl iX9 9 (by decide) w_134 rfl ?_
                    rw [show τ1 1 9 = dr + i from zQ1.1.2.2.2.2.2.2.1]
                    refine y_iconst (pc := 142) hF dX9_readItem_142 ?_
                    refine y_iadd (pc := 143) hF dX9_readItem_143 ?_
                    refine y_putf (pc := 144) (ci := 9) (σ' := yset τ1 1 9 ((dr + i) + 1)) (sch' := (SC g)) hF dX9_readItem_144 (by omega) rfl rfl rfl iX9 9 (by decide) w_134 tyX9 tyX9_ok nmX9 rfl rfl rfl rfl (Nat.le_of_ble_eq_true rfl) rfl (y_ps rfl) (fun k' h => ⟨yset_n h, rfl⟩) ?_
                    obtain ⟨τ2, hτ2⟩ : ∃ s, s = yset τ1 1 9 ((dr + i) + 1) := ⟨_, rfl⟩
                    rw [← hτ2]
                    refine y_iinc (pc := 147) (lv' := [(0, yR g 1), (1, yI ro), (2, yI p), (3, yI (itT tb e p)), (4, yI b), (5, yI (i + 1))]) hF dX9_readItem_147 5 rfl (by decide) rfl rfl ?_
                    refine y_goto (pc := 150) hF dX9_readItem_150 93 rfl ?_
                    exact zh93 _ (by omega) τ2 (i + 1) rfl ⟨by have zr := (zQ1.1.read hτ2).1; rw [Int.add_assoc] at zr; exact zr, zI93.2.1.tr (zQ1.2.tr (zQ1.1.read hτ2).2.t3), by omega, fun j => by rw [(zQ1.1.read hτ2).2.1 3 (by omega), hτ1]; by_cases zj : j = dr + i; (rw [zj, yset_e, if_pos (by omega), ← zB]; exact zvv); (rw [yset_o (fun _ => zj), zI93.2.2.2 j]; simp only [show (dr ≤ j ∧ j < dr + (i + 1)) ↔ (dr ≤ j ∧ j < dr + i) from by omega])⟩
                  · skip
                    have zvv : (-1 : Int) = if b = 63 then -1 else (b - 97) * 10 := by rw [if_pos zc121]
                    refine y_iconst (pc := 124) hF dX9_readItem_124 ?_
                    refine y_goto (pc := 125) hF dX9_readItem_125 136 rfl ?_
                    refine y_iastore (pc := 136) hF dX9_readItem_136 (by omega) rfl ⟨by omega, by show _ < (400 : Int); omega⟩ (by decide) ?_
                    obtain ⟨τ1, hτ1⟩ : ∃ s, s = yset τ 3 (dr + i) (-1) := ⟨_, rfl⟩
                    rw [← hτ1]
                    have zQ1 := zI93.1.tone hτ1
                    refine y_aload_n (pc := 137) hF dX9_readItem_137 0 rfl ?_
                    refine y_dup (pc := 138) hF dX9_readItem_138 rfl ?_
                    refine y_get (pc := 139) (ci := 9) hF dX9_readItem_139 (by omega) rfl rfl rfl iX9 9 (by decide) w_134 rfl ?_
                    rw [show τ1 1 9 = dr + i from zQ1.1.2.2.2.2.2.2.1]
                    refine y_iconst (pc := 142) hF dX9_readItem_142 ?_
                    refine y_iadd (pc := 143) hF dX9_readItem_143 ?_
                    refine y_putf (pc := 144) (ci := 9) (σ' := yset τ1 1 9 ((dr + i) + 1)) (sch' := (SC g)) hF dX9_readItem_144 (by omega) rfl rfl rfl iX9 9 (by decide) w_134 tyX9 tyX9_ok nmX9 rfl rfl rfl rfl (Nat.le_of_ble_eq_true rfl) rfl (y_ps rfl) (fun k' h => ⟨yset_n h, rfl⟩) ?_
                    obtain ⟨τ2, hτ2⟩ : ∃ s, s = yset τ1 1 9 ((dr + i) + 1) := ⟨_, rfl⟩
                    rw [← hτ2]
                    refine y_iinc (pc := 147) (lv' := [(0, yR g 1), (1, yI ro), (2, yI p), (3, yI (itT tb e p)), (4, yI b), (5, yI (i + 1))]) hF dX9_readItem_147 5 rfl (by decide) rfl rfl ?_
                    refine y_goto (pc := 150) hF dX9_readItem_150 93 rfl ?_
                    exact zh93 _ (by omega) τ2 (i + 1) rfl ⟨by have zr := (zQ1.1.read hτ2).1; rw [Int.add_assoc] at zr; exact zr, zI93.2.1.tr (zQ1.2.tr (zQ1.1.read hτ2).2.t3), by omega, fun j => by rw [(zQ1.1.read hτ2).2.1 3 (by omega), hτ1]; by_cases zj : j = dr + i; (rw [zj, yset_e, if_pos (by omega), ← zB]; exact zvv); (rw [yset_o (fun _ => zj), zI93.2.2.2 j]; simp only [show (dr ≤ j ∧ j < dr + (i + 1)) ↔ (dr ≤ j ∧ j < dr + i) from by omega])⟩
          exact zL93 _ σ6 (0) rfl ⟨by rw [Int.add_zero]; exact zQ6, zp6.1.t3, by omega, fun j => by rw [if_neg (by omega)]; exact congrFun (zp6.1.1 3 (by omega)) j⟩
        · skip
          refine y_aload_n (pc := 82) hF dX9_readItem_82 0 rfl ?_
          refine y_iconst (pc := 83) hF dX9_readItem_83 ?_
          refine y_iload_n (pc := 84) hF dX9_readItem_84 2 rfl ?_
          refine y_cv (y_rV (pc := 85) hF (tX9_failAt hn (3) (p)) dX9_readItem_85 (by omega) rfl rfl rfl w_701 qX9_failAt rfl ⟨Nat.le_of_ble_eq_true rfl, Nat.le_of_ble_eq_true rfl⟩ ⟨Nat.zero_le _, Nat.zero_le _⟩ (Nat.le_of_ble_eq_true rfl) rfl) rfl rfl (fun n' σ' zp85 => ?_)
          obtain ⟨zn85, rfl⟩ := zp85
          have zn85 := zn85.symm
          subst zn85
          obtain ⟨τ9, hτ9⟩ : ∃ s, s = yset (yset σ6 1 8 3) 1 5 p := ⟨_, rfl⟩
          rw [← hτ9]
          have zq9 := zQ6.fail hτ9
          have zm : itm tb e p ro = (3, p, q, 0, 0) := by unfold itm; rw [if_neg zf0, if_neg (by rw [← zB]; omega), if_pos (by omega), ← hq]
          refine y_iconst (pc := 88) hF dX9_readItem_88 ?_
          exact y_iret (pc := 89) hF dX9_readItem_89 (Nat.zero_le _) (Nat.zero_le _) ⟨_, rfl, rfl, by rw [zm], (zp6.1.tr zq9.2).t3, by rw [zm]; show rTq _ tb e q 3 p W h (dr + 0); rw [Int.add_zero]; exact zq9.1, fun j => by rw [zm]; show _ = if dr ≤ j ∧ j < dr + 0 then (0 : Int) else σ 3 j; rw [if_neg (by omega)]; exact (congrFun (zq9.2.1 3 (by omega)) j).trans (congrFun (zp6.1.1 3 (by omega)) j)⟩
      refine y_iload (pc := 45) hF dX9_readItem_45 4 rfl ?_
      refine y_bipush (pc := 47) hF dX9_readItem_47 (by decide) ?_
      refine y_icmp_eq (pc := 49) hF dX9_readItem_49 77 rfl (by omega) (by omega) (fun zc49 => ?_) (fun zc49 => ?_)
      · skip
        exact zJ77  (by omega)
      · skip
        refine y_iload (pc := 52) hF dX9_readItem_52 4 rfl ?_
        refine y_bipush (pc := 54) hF dX9_readItem_54 (by decide) ?_
        refine y_icmp_lt (pc := 56) hF dX9_readItem_56 66 rfl (by omega) (by omega) (fun zc56 => ?_) (fun zc56 => ?_)
        · skip
          refine y_aload_n (pc := 66) hF dX9_readItem_66 0 rfl ?_
          refine y_iconst (pc := 67) hF dX9_readItem_67 ?_
          refine y_aload_n (pc := 68) hF dX9_readItem_68 0 rfl ?_
          refine y_get (pc := 69) (ci := 9) hF dX9_readItem_69 (by omega) rfl rfl rfl iX9 7 (by decide) w_132 rfl ?_
          rw [show σ6 1 7 = q from zQ6.2.1]
          refine y_cv (y_rV (pc := 72) hF (tX9_failAt hn (1) (q)) dX9_readItem_72 (by omega) rfl rfl rfl w_701 qX9_failAt rfl ⟨Nat.le_of_ble_eq_true rfl, Nat.le_of_ble_eq_true rfl⟩ ⟨Nat.zero_le _, Nat.zero_le _⟩ (Nat.le_of_ble_eq_true rfl) rfl) rfl rfl (fun n' σ' zp72 => ?_)
          obtain ⟨zn72, rfl⟩ := zp72
          have zn72 := zn72.symm
          subst zn72
          obtain ⟨τ9, hτ9⟩ : ∃ s, s = yset (yset σ6 1 8 1) 1 5 q := ⟨_, rfl⟩
          rw [← hτ9]
          have zq9 := zQ6.fail hτ9
          have zm : itm tb e p ro = (1, q, q, 0, 0) := by unfold itm; rw [if_neg zf0, if_pos (by rw [← zB]; omega), ← hq]
          refine y_iconst (pc := 75) hF dX9_readItem_75 ?_
          exact y_iret (pc := 76) hF dX9_readItem_76 (Nat.zero_le _) (Nat.zero_le _) ⟨_, rfl, rfl, by rw [zm], (zp6.1.tr zq9.2).t3, by rw [zm]; show rTq _ tb e q 1 q W h (dr + 0); rw [Int.add_zero]; exact zq9.1, fun j => by rw [zm]; show _ = if dr ≤ j ∧ j < dr + 0 then (0 : Int) else σ 3 j; rw [if_neg (by omega)]; exact (congrFun (zq9.2.1 3 (by omega)) j).trans (congrFun (zp6.1.1 3 (by omega)) j)⟩
        · skip
          refine y_iload (pc := 59) hF dX9_readItem_59 4 rfl ?_
          refine y_bipush (pc := 61) hF dX9_readItem_61 (by decide) ?_
          refine y_icmp_le (pc := 63) hF dX9_readItem_63 77 rfl (by omega) (by omega) (fun zc63 => ?_) (fun zc63 => ?_)
          · skip
            exact zJ77  (by omega)
          · skip
            refine y_aload_n (pc := 66) hF dX9_readItem_66 0 rfl ?_
            refine y_iconst (pc := 67) hF dX9_readItem_67 ?_
            refine y_aload_n (pc := 68) hF dX9_readItem_68 0 rfl ?_
            refine y_get (pc := 69) (ci := 9) hF dX9_readItem_69 (by omega) rfl rfl rfl iX9 7 (by decide) w_132 rfl ?_
            rw [show σ6 1 7 = q from zQ6.2.1]
            refine y_cv (y_rV (pc := 72) hF (tX9_failAt hn (1) (q)) dX9_readItem_72 (by omega) rfl rfl rfl w_701 qX9_failAt rfl ⟨Nat.le_of_ble_eq_true rfl, Nat.le_of_ble_eq_true rfl⟩ ⟨Nat.zero_le _, Nat.zero_le _⟩ (Nat.le_of_ble_eq_true rfl) rfl) rfl rfl (fun n' σ' zp72 => ?_)
            obtain ⟨zn72, rfl⟩ := zp72
            have zn72 := zn72.symm
            subst zn72
            obtain ⟨τ9, hτ9⟩ : ∃ s, s = yset (yset σ6 1 8 1) 1 5 q := ⟨_, rfl⟩
            rw [← hτ9]
            have zq9 := zQ6.fail hτ9
            have zm : itm tb e p ro = (1, q, q, 0, 0) := by unfold itm; rw [if_neg zf0, if_pos (by rw [← zB]; omega), ← hq]
            refine y_iconst (pc := 75) hF dX9_readItem_75 ?_
            exact y_iret (pc := 76) hF dX9_readItem_76 (Nat.zero_le _) (Nat.zero_le _) ⟨_, rfl, rfl, by rw [zm], (zp6.1.tr zq9.2).t3, by rw [zm]; show rTq _ tb e q 1 q W h (dr + 0); rw [Int.add_zero]; exact zq9.1, fun j => by rw [zm]; show _ = if dr ≤ j ∧ j < dr + 0 then (0 : Int) else σ 3 j; rw [if_neg (by omega)]; exact (congrFun (zq9.2.1 3 (by omega)) j).trans (congrFun (zp6.1.1 3 (by omega)) j)⟩
    refine y_aload_n (pc := 19) hF dX9_readItem_19 0 rfl ?_
    refine y_get (pc := 20) (ci := 9) hF dX9_readItem_20 (by omega) rfl rfl rfl iX9 7 (by decide) w_132 rfl ?_
    rw [show σ6 1 7 = q from zQ6.2.1]
    refine y_aload_n (pc := 23) hF dX9_readItem_23 0 rfl ?_
    refine y_get (pc := 24) (ci := 9) hF dX9_readItem_24 (by omega) rfl rfl rfl iX9 6 (by decide) w_131 rfl ?_
    rw [show σ6 1 6 = e from zQ6.1]
    refine y_icmp_ge (pc := 27) hF dX9_readItem_27 42 rfl (by omega) (by omega) (fun zc27 => ?_) (fun zc27 => ?_)
    · skip
      refine y_iconst (pc := 42) hF dX9_readItem_42 ?_
      exact zJ43 (-1) (by unfold itB; rw [← hq, if_neg (by omega)])
    · skip
      have zb := htb q
      have zbq := zQ6.2.2.2.2.2.2.2 q (by omega) (by omega)
      have zq3 : 0 ≤ q ∧ q < (300 : Int) := by omega
      refine y_aload_n (pc := 30) hF dX9_readItem_30 0 rfl ?_
      refine y_get (pc := 31) (ci := 9) hF dX9_readItem_31 (by omega) rfl rfl rfl iX9 0 (by decide) w_120 rfl ?_
      refine y_aload_n (pc := 34) hF dX9_readItem_34 0 rfl ?_
      refine y_get (pc := 35) (ci := 9) hF dX9_readItem_35 (by omega) rfl rfl rfl iX9 7 (by decide) w_132 rfl ?_
      rw [show σ6 1 7 = q from zQ6.2.1]
      refine y_iaload (pc := 38) hF dX9_readItem_38 (by omega) rfl zq3 (by decide) ?_
      rw [show σ6 2 q = tb q from zbq]
      refine y_goto (pc := 39) hF dX9_readItem_39 43 rfl ?_
      exact zJ43 (tb q) (by unfold itB; rw [← hq, if_pos (by omega)])
  · skip
    have zf1 : itF tb e p = true := by by_cases zq : itF tb e p = true; (exact zq); (rw [if_neg zq] at zc14; omega)
    have zQ6 : rTq σ6 tb e q 2 p W h dr := by have zq := zp6.2; rw [if_pos zf1, if_pos zf1] at zq; exact zq
    have zm : itm tb e p ro = (2, p, q, 0, 0) := by unfold itm; rw [if_pos zf1, ← hq]
    refine y_iconst (pc := 17) hF dX9_readItem_17 ?_
    exact y_iret (pc := 18) hF dX9_readItem_18 (Nat.zero_le _) (Nat.zero_le _) ⟨_, rfl, rfl, by rw [zm], zp6.1.t3, by rw [zm]; show rTq _ tb e q 2 p W h (dr + 0); rw [Int.add_zero]; exact zQ6, fun j => by rw [zm]; show _ = if dr ≤ j ∧ j < dr + 0 then (0 : Int) else σ 3 j; rw [if_neg (by omega)]; exact congrFun (zp6.1.1 3 (by omega)) j⟩
