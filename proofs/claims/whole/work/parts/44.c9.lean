theorem dX6_reckon_0 : decode cX6_reckon 0 = .ok (.iconst 0, 1) := by decide +kernel
theorem dX6_reckon_1 : decode cX6_reckon 1 = .ok (.istore 4, 2) := by decide +kernel
theorem dX6_reckon_3 : decode cX6_reckon 3 = .ok (.iload_n 2, 1) := by decide +kernel
theorem dX6_reckon_4 : decode cX6_reckon 4 = .ok (.bipush 49, 2) := by decide +kernel
theorem dX6_reckon_6 : decode cX6_reckon 6 = .ok (.imul, 1) := by decide +kernel
theorem dX6_reckon_7 : decode cX6_reckon 7 = .ok (.istore 5, 2) := by decide +kernel
theorem dX6_reckon_9 : decode cX6_reckon 9 = .ok (.iconst 0, 1) := by decide +kernel
theorem dX6_reckon_10 : decode cX6_reckon 10 = .ok (.istore 6, 2) := by decide +kernel
theorem dX6_reckon_12 : decode cX6_reckon 12 = .ok (.iload 6, 2) := by decide +kernel
theorem dX6_reckon_14 : decode cX6_reckon 14 = .ok (.aload_n 0, 1) := by decide +kernel
theorem dX6_reckon_15 : decode cX6_reckon 15 = .ok (.getfield 28, 3) := by decide +kernel
theorem dX6_reckon_18 : decode cX6_reckon 18 = .ok (.if_icmp .ge 78, 3) := by decide +kernel
theorem dX6_reckon_21 : decode cX6_reckon 21 = .ok (.iload 4, 2) := by decide +kernel
theorem dX6_reckon_23 : decode cX6_reckon 23 = .ok (.iload_n 3, 1) := by decide +kernel
theorem dX6_reckon_24 : decode cX6_reckon 24 = .ok (.if_icmp .ge 72, 3) := by decide +kernel
theorem dX6_reckon_27 : decode cX6_reckon 27 = .ok (.aload_n 0, 1) := by decide +kernel
theorem dX6_reckon_28 : decode cX6_reckon 28 = .ok (.getfield 18, 3) := by decide +kernel
theorem dX6_reckon_31 : decode cX6_reckon 31 = .ok (.iload 6, 2) := by decide +kernel
theorem dX6_reckon_33 : decode cX6_reckon 33 = .ok (.iaload, 1) := by decide +kernel
theorem dX6_reckon_34 : decode cX6_reckon 34 = .ok (.aload_n 0, 1) := by decide +kernel
theorem dX6_reckon_35 : decode cX6_reckon 35 = .ok (.getfield 68, 3) := by decide +kernel
theorem dX6_reckon_38 : decode cX6_reckon 38 = .ok (.getfield 99, 3) := by decide +kernel
theorem dX6_reckon_41 : decode cX6_reckon 41 = .ok (.iload_n 1, 1) := by decide +kernel
theorem dX6_reckon_42 : decode cX6_reckon 42 = .ok (.aload_n 0, 1) := by decide +kernel
theorem dX6_reckon_43 : decode cX6_reckon 43 = .ok (.getfield 25, 3) := by decide +kernel
theorem dX6_reckon_46 : decode cX6_reckon 46 = .ok (.iload 5, 2) := by decide +kernel
theorem dX6_reckon_48 : decode cX6_reckon 48 = .ok (.iload 6, 2) := by decide +kernel
theorem dX6_reckon_50 : decode cX6_reckon 50 = .ok (.iadd, 1) := by decide +kernel
theorem dX6_reckon_51 : decode cX6_reckon 51 = .ok (.iaload, 1) := by decide +kernel
theorem dX6_reckon_52 : decode cX6_reckon 52 = .ok (.iadd, 1) := by decide +kernel
theorem dX6_reckon_53 : decode cX6_reckon 53 = .ok (.iaload, 1) := by decide +kernel
theorem dX6_reckon_54 : decode cX6_reckon 54 = .ok (.isub, 1) := by decide +kernel
theorem dX6_reckon_55 : decode cX6_reckon 55 = .ok (.aload_n 0, 1) := by decide +kernel
theorem dX6_reckon_56 : decode cX6_reckon 56 = .ok (.getfield 37, 3) := by decide +kernel
theorem dX6_reckon_59 : decode cX6_reckon 59 = .ok (.isub, 1) := by decide +kernel
theorem dX6_reckon_60 : decode cX6_reckon 60 = .ok (.istore 7, 2) := by decide +kernel
theorem dX6_reckon_62 : decode cX6_reckon 62 = .ok (.iload 4, 2) := by decide +kernel
theorem dX6_reckon_64 : decode cX6_reckon 64 = .ok (.iload 7, 2) := by decide +kernel
theorem dX6_reckon_66 : decode cX6_reckon 66 = .ok (.iload 7, 2) := by decide +kernel
theorem dX6_reckon_68 : decode cX6_reckon 68 = .ok (.imul, 1) := by decide +kernel
theorem dX6_reckon_69 : decode cX6_reckon 69 = .ok (.aload_n 0, 1) := by decide +kernel
theorem dX6_reckon_70 : decode cX6_reckon 70 = .ok (.getfield 22, 3) := by decide +kernel
theorem dX6_reckon_73 : decode cX6_reckon 73 = .ok (.iload 6, 2) := by decide +kernel
theorem dX6_reckon_75 : decode cX6_reckon 75 = .ok (.iaload, 1) := by decide +kernel
theorem dX6_reckon_76 : decode cX6_reckon 76 = .ok (.imul, 1) := by decide +kernel
theorem dX6_reckon_77 : decode cX6_reckon 77 = .ok (.iadd, 1) := by decide +kernel
theorem dX6_reckon_78 : decode cX6_reckon 78 = .ok (.istore 4, 2) := by decide +kernel
theorem dX6_reckon_80 : decode cX6_reckon 80 = .ok (.aload_n 0, 1) := by decide +kernel
theorem dX6_reckon_81 : decode cX6_reckon 81 = .ok (.dup, 1) := by decide +kernel
theorem dX6_reckon_82 : decode cX6_reckon 82 = .ok (.getfield 65, 3) := by decide +kernel
theorem dX6_reckon_85 : decode cX6_reckon 85 = .ok (.iconst 1, 1) := by decide +kernel
theorem dX6_reckon_86 : decode cX6_reckon 86 = .ok (.iadd, 1) := by decide +kernel
theorem dX6_reckon_87 : decode cX6_reckon 87 = .ok (.putfield 65, 3) := by decide +kernel
theorem dX6_reckon_90 : decode cX6_reckon 90 = .ok (.iinc 6 1, 3) := by decide +kernel
theorem dX6_reckon_93 : decode cX6_reckon 93 = .ok (.goto (-81), 3) := by decide +kernel
theorem dX6_reckon_96 : decode cX6_reckon 96 = .ok (.iload 4, 2) := by decide +kernel
theorem dX6_reckon_98 : decode cX6_reckon 98 = .ok (.ireturn, 1) := by decide +kernel
set_option maxHeartbeats 4000000 in
set_option maxRecDepth 100000 in
theorem tX6_reckon {l : Launch} {g : yG} {n : Nat} {σ : yM} (k cs : Nat) (w h : Int) (T S F P O : Int → Int → Int) (s re fo ra tu we sh : Int) (hn : 172 ≤ n) (hP : isPic k) (hcs : isSet cs) (hA : rC σ k w h T S F P O) (hS : rS σ cs s re fo ra tu we sh) (hk : k + 5 < 120 ∨ 130 < k) (hc2 : cs < 120 ∨ 130 < cs) (ax ay : Int) (hB : rA σ k cs ax ay) (u v way : Int) (huv : sIn w h u v = true) (hwy : 0 ≤ way ∧ way < 8) (hq : sPl w h T s u v) (hG : rG σ w T S we ax ay (kL w h T s ax ay)) (sf le : Int) (hsf0 : σ 123 10 = sf) (hsf : -255 ≤ sf ∧ sf ≤ 255) (hle : 0 ≤ le ∧ le < 2147483648) : yMet l g yX6_reckon cX6_reckon 8 (some .int) (rmL 1) [yR g 123, yI (v * w + u), yI way, yI le] (SC g) n σ (SC g) (yPi (fun v' n' σ' => n' = n ∧ v' = (sDf w h T S s we ax ay u v way sf le).1 ∧ fk 123 19 19 σ σ' ∧ σ' 123 19 = σ 123 19 + (sDf w h T S s we ax ay u v way sf le).2)) := by
  obtain ⟨hw1, hw2, hw3, hw4⟩ := id hA.1.1
  obtain ⟨hs1, hs2, hs3, hs4, hs5, hs6, hs7⟩ := id hS.2
  have zkn : k < n := by have := hP.1; omega
  have zcsn : cs < n := by have := hcs.1; omega
  have z123 : 123 < n := by omega
  have z124 : 124 < n := by omega
  have z125 : 125 < n := by omega
  have z126 : 126 < n := by omega
  have z127 : 127 < n := by omega
  have zkn1 : k + 1 < n := by have := hP.1; omega
  have zkn2 : k + 2 < n := by have := hP.1; omega
  have zkn3 : k + 3 < n := by have := hP.1; omega
  have zkn4 : k + 4 < n := by have := hP.1; omega
  have zkn5 : k + 5 < n := by have := hP.1; omega
  have zln := kL_len (w := w) (h := h) (T := T) (x := ax) (y := ay) hs1
  have zu := sIn_iff.mp huv
  refine y_start (by decide) (Nat.le_of_ble_eq_true rfl) (fun X0 hF => ?_)
  show yV X0 g 8 (yQ X0 g (SC g) (yPi (fun v' n' σ' => n' = n ∧ v' = (sDf w h T S s we ax ay u v way sf le).1 ∧ fk 123 19 19 σ σ' ∧ σ' 123 19 = σ 123 19 + (sDf w h T S s we ax ay u v way sf le).2)) (rmL 1)) (SC g) n σ 0 0 0 [(0, yR g 123), (1, yI (v * w + u)), (2, yI way), (3, yI le)] []
  refine y_iconst (pc := 0) hF dX6_reckon_0 ?_
  refine y_istore (pc := 1) (lv' := [(0, yR g 123), (1, yI (v * w + u)), (2, yI way), (3, yI le), (4, yI 0)]) hF dX6_reckon_1 (by decide) rfl rfl ?_
  refine y_iload_n (pc := 3) hF dX6_reckon_3 2 rfl ?_
  refine y_bipush (pc := 4) hF dX6_reckon_4 (by decide) ?_
  refine y_imul (pc := 6) hF dX6_reckon_6 ?_
  refine y_istore (pc := 7) (lv' := [(0, yR g 123), (1, yI (v * w + u)), (2, yI way), (3, yI le), (4, yI 0), (5, yI (way * 49))]) hF dX6_reckon_7 (by decide) rfl rfl ?_
  refine y_iconst (pc := 9) hF dX6_reckon_9 ?_
  refine y_istore (pc := 10) (lv' := [(0, yR g 123), (1, yI (v * w + u)), (2, yI way), (3, yI le), (4, yI 0), (5, yI (way * 49)), (6, yI 0)]) hF dX6_reckon_10 (by decide) rfl rfl ?_
  have zL12 : ∀ (N : Nat) (τ : yM) (m c : Int), N = (((kL w h T s ax ay).length : Int) - m).toNat → (fk 123 19 19 σ τ ∧ (0 ≤ m ∧ m ≤ ((kL w h T s ax ay).length : Int)) ∧ (0 ≤ c ∧ c ≤ 1300500 * m) ∧ (c, τ 123 19 - σ 123 19) = fr (fun q i => dfG T S we ax ay u v way sf le q (gk (kL w h T s ax ay) i)) 0  m.toNat (0, 0)) → yV X0 g 8 (yQ X0 g (SC g) (yPi (fun v' n' σ' => n' = n ∧ v' = (sDf w h T S s we ax ay u v way sf le).1 ∧ fk 123 19 19 σ σ' ∧ σ' 123 19 = σ 123 19 + (sDf w h T S s we ax ay u v way sf le).2)) (rmL 1)) (SC g) n τ 0 0 12 [(0, yR g 123), (1, yI (v * w + u)), (2, yI way), (3, yI le), (4, yI c), (5, yI (way * 49)), (6, yI m)] [] := by
    intro N
    induction N using Nat.strongRecOn with
    | ind N zh12 =>
      intro τ  m c  zN12 zI12
      have zA_τ := hA.fc (by omega) zI12.1.fc
      have zS_τ := hS.fc (by omega) zI12.1.fc
      have zB_τ := hB.fr (fun j _ _ => zI12.1 123 j (by omega))
      refine y_iload (pc := 12) hF dX6_reckon_12 6 rfl ?_
      refine y_aload_n (pc := 14) hF dX6_reckon_14 0 rfl ?_
      refine y_get (pc := 15) (ci := 6) hF dX6_reckon_15 z123 rfl rfl rfl iX6 7 (by decide) w_372 rfl ?_
      rw [show τ 123 7 = ((kL w h T s ax ay).length : Int) from (by rw [zI12.1 123 7 (by omega)]; exact hG.1)]
      refine y_icmp_ge (pc := 18) hF dX6_reckon_18 96 rfl (by omega) (by omega) (fun zc18 => ?_) (fun zc18 => ?_)
      · skip
        have zend : (c, τ 123 19 - σ 123 19) = sDf w h T S s we ax ay u v way sf le := by
          rw [zI12.2.2.2, ← df_all]
          first
            | (rw [show m.toNat = (kL w h T s ax ay).length by omega]; done)
            | (exact (fr_stop (show m.toNat ≤ (kL w h T s ax ay).length by omega) rfl (fun i => by rw [← zI12.2.2.2]; unfold dfG; rw [if_pos (by simp only; omega)])).symm)
        refine y_iload (pc := 96) hF dX6_reckon_96 4 rfl ?_
        exact y_iret (pc := 98) hF dX6_reckon_98 (Nat.zero_le _) (Nat.zero_le _) ⟨_, rfl, rfl, congrArg Prod.fst zend, zI12.1, by have := congrArg Prod.snd zend; simp only at this; omega⟩
      · skip
        refine y_iload (pc := 21) hF dX6_reckon_21 4 rfl ?_
        refine y_iload_n (pc := 23) hF dX6_reckon_23 3 rfl ?_
        refine y_icmp_ge (pc := 24) hF dX6_reckon_24 96 rfl (by omega) (by omega) (fun zc24 => ?_) (fun zc24 => ?_)
        · skip
          have zend : (c, τ 123 19 - σ 123 19) = sDf w h T S s we ax ay u v way sf le := by
            rw [zI12.2.2.2, ← df_all]
            first
              | (rw [show m.toNat = (kL w h T s ax ay).length by omega]; done)
              | (exact (fr_stop (show m.toNat ≤ (kL w h T s ax ay).length by omega) rfl (fun i => by rw [← zI12.2.2.2]; unfold dfG; rw [if_pos (by simp only; omega)])).symm)
          refine y_iload (pc := 96) hF dX6_reckon_96 4 rfl ?_
          exact y_iret (pc := 98) hF dX6_reckon_98 (Nat.zero_le _) (Nat.zero_le _) ⟨_, rfl, rfl, congrArg Prod.fst zend, zI12.1, by have := congrArg Prod.snd zend; simp only at this; omega⟩
        · skip
          have zm0 : m < ((kL w h T s ax ay).length : Int) := by omega
          have zgm := hG.2.2 m (by omega) zm0
          have zka := kL_at (w := w) (h := h) (T := T) (x := ax) (y := ay) (s := s) (by omega) (show 0 ≤ m by omega) zm0
          have zks := hq.at (way := way) (x := ax) (y := ay) zka.2.1 zka.2.2
          have zki := sIn_iff.mp (sKn_in zks)
          have zkx := y_ix (w := w) (h := h) (x := u + wX way ((gk (kL w h T s ax ay) m).1 - ax) ((gk (kL w h T s ax ay) m).2 - ay)) (y := v + wY way ((gk (kL w h T s ax ay) m).1 - ax) ((gk (kL w h T s ax ay) m).2 - ay)) ⟨hw1, hw2⟩ ⟨hw3, hw4⟩ (by omega) (by omega)
          have zke : v * w + u + (wY way ((gk (kL w h T s ax ay) m).1 - ax) ((gk (kL w h T s ax ay) m).2 - ay) * w + wX way ((gk (kL w h T s ax ay) m).1 - ax) ((gk (kL w h T s ax ay) m).2 - ay)) = (v + wY way ((gk (kL w h T s ax ay) m).1 - ax) ((gk (kL w h T s ax ay) m).2 - ay)) * w + (u + wX way ((gk (kL w h T s ax ay) m).1 - ax) ((gk (kL w h T s ax ay) m).2 - ay)) := by rw [Int.add_mul]; omega
          have zkm := zA_τ.2.2.2 (u + wX way ((gk (kL w h T s ax ay) m).1 - ax) ((gk (kL w h T s ax ay) m).2 - ay)) (v + wY way ((gk (kL w h T s ax ay) m).1 - ax) ((gk (kL w h T s ax ay) m).2 - ay)) (by omega) (by omega) (by omega) (by omega)
          have zw := sWt_bd (we := we) (hA.1.S _ _ (sKn_in zka.1))
          have zp := sAp_bd hA.1 (way := way) (x := ax) (y := ay) hq zka.1 zka.2.1 zka.2.2
          have zsq := y_sq (a := sAp T ax ay (gk (kL w h T s ax ay) m).1 (gk (kL w h T s ax ay) m).2 u v way - sf) (b := sWt S we (gk (kL w h T s ax ay) m).1 (gk (kL w h T s ax ay) m).2) (by omega) zw
          refine y_aload_n (pc := 27) hF dX6_reckon_27 0 rfl ?_
          refine y_get (pc := 28) (ci := 6) hF dX6_reckon_28 z123 rfl rfl rfl iX6 4 (by decide) w_369 rfl ?_
          refine y_iload (pc := 31) hF dX6_reckon_31 6 rfl ?_
          refine y_iaload (pc := 33) hF dX6_reckon_33 z124 rfl (by omega) (by decide) ?_
          rw [show τ 124 m = T (gk (kL w h T s ax ay) m).1 (gk (kL w h T s ax ay) m).2 from (by rw [zI12.1 124 m (by omega)]; exact zgm.1)]
          refine y_aload_n (pc := 34) hF dX6_reckon_34 0 rfl ?_
          refine y_get (pc := 35) (ci := 6) hF dX6_reckon_35 z123 rfl rfl rfl iX6 0 (by decide) w_361 rfl ?_
          rw [show (τ 123 0).toNat = k from zB_τ.k]
          refine y_getN (pc := 38) (ci := 4) hF dX6_reckon_38 zkn (hP.2 g).1 rfl rfl iX4 2 (by decide) w_220 rfl ?_
          refine y_iload_n (pc := 41) hF dX6_reckon_41 1 rfl ?_
          refine y_aload_n (pc := 42) hF dX6_reckon_42 0 rfl ?_
          refine y_get (pc := 43) (ci := 6) hF dX6_reckon_43 z123 rfl rfl rfl iX6 6 (by decide) w_371 rfl ?_
          refine y_iload (pc := 46) hF dX6_reckon_46 5 rfl ?_
          refine y_iload (pc := 48) hF dX6_reckon_48 6 rfl ?_
          refine y_iadd (pc := 50) hF dX6_reckon_50 ?_
          refine y_iaload (pc := 51) hF dX6_reckon_51 z126 rfl (by omega) (by decide) ?_
          rw [show τ 126 ((way * 49) + m) = wY way ((gk (kL w h T s ax ay) m).1 - ax) ((gk (kL w h T s ax ay) m).2 - ay) * w + wX way ((gk (kL w h T s ax ay) m).1 - ax) ((gk (kL w h T s ax ay) m).2 - ay) from (by rw [zI12.1 126 _ (by omega)]; exact zgm.2.2 way hwy.1 hwy.2)]
          refine y_iadd (pc := 52) hF dX6_reckon_52 ?_
          refine y_iaload (pc := 53) hF dX6_reckon_53 zkn1 (hP.2 g).2.1 (by rw [zke]; omega) (by decide) ?_
          rw [show τ (k + 1) ((v * w + u) + (wY way ((gk (kL w h T s ax ay) m).1 - ax) ((gk (kL w h T s ax ay) m).2 - ay) * w + wX way ((gk (kL w h T s ax ay) m).1 - ax) ((gk (kL w h T s ax ay) m).2 - ay))) = T (u + wX way ((gk (kL w h T s ax ay) m).1 - ax) ((gk (kL w h T s ax ay) m).2 - ay)) (v + wY way ((gk (kL w h T s ax ay) m).1 - ax) ((gk (kL w h T s ax ay) m).2 - ay)) from (by rw [zke]; exact zkm.1)]
          refine y_isub (pc := 54) hF dX6_reckon_54 ?_
          rw [show (T (gk (kL w h T s ax ay) m).1 (gk (kL w h T s ax ay) m).2) - (T (u + wX way ((gk (kL w h T s ax ay) m).1 - ax) ((gk (kL w h T s ax ay) m).2 - ay)) (v + wY way ((gk (kL w h T s ax ay) m).1 - ax) ((gk (kL w h T s ax ay) m).2 - ay))) = sAp T ax ay (gk (kL w h T s ax ay) m).1 (gk (kL w h T s ax ay) m).2 u v way from rfl]
          refine y_aload_n (pc := 55) hF dX6_reckon_55 0 rfl ?_
          refine y_get (pc := 56) (ci := 6) hF dX6_reckon_56 z123 rfl rfl rfl iX6 10 (by decide) w_375 rfl ?_
          rw [show τ 123 10 = sf from (by rw [zI12.1 123 10 (by omega)]; exact hsf0)]
          refine y_isub (pc := 59) hF dX6_reckon_59 ?_
          refine y_istore (pc := 60) (lv' := [(0, yR g 123), (1, yI (v * w + u)), (2, yI way), (3, yI le), (4, yI c), (5, yI (way * 49)), (6, yI m), (7, yI ((sAp T ax ay (gk (kL w h T s ax ay) m).1 (gk (kL w h T s ax ay) m).2 u v way) - sf))]) hF dX6_reckon_60 (by decide) rfl rfl ?_
          refine y_iload (pc := 62) hF dX6_reckon_62 4 rfl ?_
          refine y_iload (pc := 64) hF dX6_reckon_64 7 rfl ?_
          refine y_iload (pc := 66) hF dX6_reckon_66 7 rfl ?_
          refine y_imul (pc := 68) hF dX6_reckon_68 ?_
          refine y_aload_n (pc := 69) hF dX6_reckon_69 0 rfl ?_
          refine y_get (pc := 70) (ci := 6) hF dX6_reckon_70 z123 rfl rfl rfl iX6 5 (by decide) w_370 rfl ?_
          refine y_iload (pc := 73) hF dX6_reckon_73 6 rfl ?_
          refine y_iaload (pc := 75) hF dX6_reckon_75 z125 rfl (by omega) (by decide) ?_
          rw [show τ 125 m = sWt S we (gk (kL w h T s ax ay) m).1 (gk (kL w h T s ax ay) m).2 from (by rw [zI12.1 125 m (by omega)]; exact zgm.2.1)]
          refine y_imul (pc := 76) hF dX6_reckon_76 ?_
          refine y_iadd (pc := 77) hF dX6_reckon_77 ?_
          refine y_istore (pc := 78) (lv' := [(0, yR g 123), (1, yI (v * w + u)), (2, yI way), (3, yI le), (4, yI (c + ((((sAp T ax ay (gk (kL w h T s ax ay) m).1 (gk (kL w h T s ax ay) m).2 u v way) - sf) * ((sAp T ax ay (gk (kL w h T s ax ay) m).1 (gk (kL w h T s ax ay) m).2 u v way) - sf)) * (sWt S we (gk (kL w h T s ax ay) m).1 (gk (kL w h T s ax ay) m).2)))), (5, yI (way * 49)), (6, yI m), (7, yI ((sAp T ax ay (gk (kL w h T s ax ay) m).1 (gk (kL w h T s ax ay) m).2 u v way) - sf))]) hF dX6_reckon_78 (by decide) rfl rfl ?_
          refine y_aload_n (pc := 80) hF dX6_reckon_80 0 rfl ?_
          refine y_dup (pc := 81) hF dX6_reckon_81 rfl ?_
          refine y_get (pc := 82) (ci := 6) hF dX6_reckon_82 z123 rfl rfl rfl iX6 19 (by decide) w_399 rfl ?_
          refine y_iconst (pc := 85) hF dX6_reckon_85 ?_
          refine y_iadd (pc := 86) hF dX6_reckon_86 ?_
          refine y_putf (pc := 87) (ci := 6) (σ' := yset τ 123 19 ((τ 123 19) + 1)) (sch' := (SC g)) hF dX6_reckon_87 z123 rfl rfl rfl iX6 19 (by decide) w_399 tyX6 tyX6_ok nmX6 rfl rfl rfl rfl (Nat.le_of_ble_eq_true rfl) rfl (y_ps rfl) (fun k' h => ⟨yset_n h, rfl⟩) ?_
          refine y_iinc (pc := 90) (lv' := [(0, yR g 123), (1, yI (v * w + u)), (2, yI way), (3, yI le), (4, yI (c + ((((sAp T ax ay (gk (kL w h T s ax ay) m).1 (gk (kL w h T s ax ay) m).2 u v way) - sf) * ((sAp T ax ay (gk (kL w h T s ax ay) m).1 (gk (kL w h T s ax ay) m).2 u v way) - sf)) * (sWt S we (gk (kL w h T s ax ay) m).1 (gk (kL w h T s ax ay) m).2)))), (5, yI (way * 49)), (6, yI (m + 1)), (7, yI ((sAp T ax ay (gk (kL w h T s ax ay) m).1 (gk (kL w h T s ax ay) m).2 u v way) - sf))]) hF dX6_reckon_90 6 rfl (by decide) rfl rfl ?_
          refine y_goto (pc := 93) hF dX6_reckon_93 12 rfl ?_
          refine y_sub [0, 1, 2, 3, 4, 5, 6] rfl ?_
          exact zh12 _ (by omega) (yset τ 123 19 ((τ 123 19) + 1)) (m + 1) (c + ((((sAp T ax ay (gk (kL w h T s ax ay) m).1 (gk (kL w h T s ax ay) m).2 u v way) - sf) * ((sAp T ax ay (gk (kL w h T s ax ay) m).1 (gk (kL w h T s ax ay) m).2 u v way) - sf)) * (sWt S we (gk (kL w h T s ax ay) m).1 (gk (kL w h T s ax ay) m).2))) rfl ⟨zI12.1.st (by omega), by omega, by omega, by rw [fr_up _ _ _ _ zI12.2.1.1, ← zI12.2.2.2, Int.zero_add]; unfold dfG; rw [if_neg (by simp only; omega), yset_ap, if_pos ⟨rfl, rfl⟩, show τ 123 19 + 1 - σ 123 19 = τ 123 19 - σ 123 19 + 1 by omega]⟩
  exact zL12 _ σ (0) (0) rfl ⟨fk.rf σ, by omega, by omega, by rw [Int.sub_self]; rfl⟩
