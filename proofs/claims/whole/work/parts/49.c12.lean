theorem dX6_scan_0 : decode cX6_scan 0 = .ok (.iconst 1, 1) := by decide +kernel
theorem dX6_scan_1 : decode cX6_scan 1 = .ok (.aload_n 0, 1) := by decide +kernel
theorem dX6_scan_2 : decode cX6_scan 2 = .ok (.getfield 72, 3) := by decide +kernel
theorem dX6_scan_5 : decode cX6_scan 5 = .ok (.getfield 159, 3) := by decide +kernel
theorem dX6_scan_8 : decode cX6_scan 8 = .ok (.ishl, 1) := by decide +kernel
theorem dX6_scan_9 : decode cX6_scan 9 = .ok (.istore 5, 2) := by decide +kernel
theorem dX6_scan_11 : decode cX6_scan 11 = .ok (.iload_n 3, 1) := by decide +kernel
theorem dX6_scan_12 : decode cX6_scan 12 = .ok (.aload_n 0, 1) := by decide +kernel
theorem dX6_scan_13 : decode cX6_scan 13 = .ok (.getfield 68, 3) := by decide +kernel
theorem dX6_scan_16 : decode cX6_scan 16 = .ok (.getfield 92, 3) := by decide +kernel
theorem dX6_scan_19 : decode cX6_scan 19 = .ok (.iconst 1, 1) := by decide +kernel
theorem dX6_scan_20 : decode cX6_scan 20 = .ok (.isub, 1) := by decide +kernel
theorem dX6_scan_21 : decode cX6_scan 21 = .ok (.invokestatic 162, 3) := by decide +kernel
theorem dX6_scan_24 : decode cX6_scan 24 = .ok (.istore 6, 2) := by decide +kernel
theorem dX6_scan_26 : decode cX6_scan 26 = .ok (.iload 4, 2) := by decide +kernel
theorem dX6_scan_28 : decode cX6_scan 28 = .ok (.aload_n 0, 1) := by decide +kernel
theorem dX6_scan_29 : decode cX6_scan 29 = .ok (.getfield 68, 3) := by decide +kernel
theorem dX6_scan_32 : decode cX6_scan 32 = .ok (.getfield 87, 3) := by decide +kernel
theorem dX6_scan_35 : decode cX6_scan 35 = .ok (.iconst 1, 1) := by decide +kernel
theorem dX6_scan_36 : decode cX6_scan 36 = .ok (.isub, 1) := by decide +kernel
theorem dX6_scan_37 : decode cX6_scan 37 = .ok (.invokestatic 162, 3) := by decide +kernel
theorem dX6_scan_40 : decode cX6_scan 40 = .ok (.istore 7, 2) := by decide +kernel
theorem dX6_scan_42 : decode cX6_scan 42 = .ok (.iload_n 2, 1) := by decide +kernel
theorem dX6_scan_43 : decode cX6_scan 43 = .ok (.iconst 0, 1) := by decide +kernel
theorem dX6_scan_44 : decode cX6_scan 44 = .ok (.invokestatic 165, 3) := by decide +kernel
theorem dX6_scan_47 : decode cX6_scan 47 = .ok (.istore 8, 2) := by decide +kernel
theorem dX6_scan_49 : decode cX6_scan 49 = .ok (.iload 8, 2) := by decide +kernel
theorem dX6_scan_51 : decode cX6_scan 51 = .ok (.iload 7, 2) := by decide +kernel
theorem dX6_scan_53 : decode cX6_scan 53 = .ok (.if_icmp .gt 73, 3) := by decide +kernel
theorem dX6_scan_56 : decode cX6_scan 56 = .ok (.iload_n 1, 1) := by decide +kernel
theorem dX6_scan_57 : decode cX6_scan 57 = .ok (.iconst 0, 1) := by decide +kernel
theorem dX6_scan_58 : decode cX6_scan 58 = .ok (.invokestatic 165, 3) := by decide +kernel
theorem dX6_scan_61 : decode cX6_scan 61 = .ok (.istore 9, 2) := by decide +kernel
theorem dX6_scan_63 : decode cX6_scan 63 = .ok (.iload 9, 2) := by decide +kernel
theorem dX6_scan_65 : decode cX6_scan 65 = .ok (.iload 6, 2) := by decide +kernel
theorem dX6_scan_67 : decode cX6_scan 67 = .ok (.if_icmp .gt 53, 3) := by decide +kernel
theorem dX6_scan_70 : decode cX6_scan 70 = .ok (.aload_n 0, 1) := by decide +kernel
theorem dX6_scan_71 : decode cX6_scan 71 = .ok (.iload 9, 2) := by decide +kernel
theorem dX6_scan_73 : decode cX6_scan 73 = .ok (.iload 8, 2) := by decide +kernel
theorem dX6_scan_75 : decode cX6_scan 75 = .ok (.invokevirtual 168, 3) := by decide +kernel
theorem dX6_scan_78 : decode cX6_scan 78 = .ok (.ifCond .eq 36, 3) := by decide +kernel
theorem dX6_scan_81 : decode cX6_scan 81 = .ok (.iconst 0, 1) := by decide +kernel
theorem dX6_scan_82 : decode cX6_scan 82 = .ok (.istore 10, 2) := by decide +kernel
theorem dX6_scan_84 : decode cX6_scan 84 = .ok (.iload 10, 2) := by decide +kernel
theorem dX6_scan_86 : decode cX6_scan 86 = .ok (.iload 5, 2) := by decide +kernel
theorem dX6_scan_88 : decode cX6_scan 88 = .ok (.if_icmp .ge 26, 3) := by decide +kernel
theorem dX6_scan_91 : decode cX6_scan 91 = .ok (.aload_n 0, 1) := by decide +kernel
theorem dX6_scan_92 : decode cX6_scan 92 = .ok (.aload_n 0, 1) := by decide +kernel
theorem dX6_scan_93 : decode cX6_scan 93 = .ok (.getfield 68, 3) := by decide +kernel
theorem dX6_scan_96 : decode cX6_scan 96 = .ok (.iload 9, 2) := by decide +kernel
theorem dX6_scan_98 : decode cX6_scan 98 = .ok (.iload 8, 2) := by decide +kernel
theorem dX6_scan_100 : decode cX6_scan 100 = .ok (.invokevirtual 95, 3) := by decide +kernel
theorem dX6_scan_103 : decode cX6_scan 103 = .ok (.iload 10, 2) := by decide +kernel
theorem dX6_scan_105 : decode cX6_scan 105 = .ok (.invokevirtual 171, 3) := by decide +kernel
theorem dX6_scan_108 : decode cX6_scan 108 = .ok (.iinc 10 1, 3) := by decide +kernel
theorem dX6_scan_111 : decode cX6_scan 111 = .ok (.goto (-27), 3) := by decide +kernel
theorem dX6_scan_114 : decode cX6_scan 114 = .ok (.iinc 9 1, 3) := by decide +kernel
theorem dX6_scan_117 : decode cX6_scan 117 = .ok (.goto (-54), 3) := by decide +kernel
theorem dX6_scan_120 : decode cX6_scan 120 = .ok (.iinc 8 1, 3) := by decide +kernel
theorem dX6_scan_123 : decode cX6_scan 123 = .ok (.goto (-74), 3) := by decide +kernel
theorem dX6_scan_126 : decode cX6_scan 126 = .ok (.return_, 1) := by decide +kernel
set_option maxHeartbeats 4000000 in
set_option maxRecDepth 100000 in
theorem tX6_scan {l : Launch} {g : yG} {n : Nat} {σ : yM} (k cs : Nat) (w h : Int) (T S F P O : Int → Int → Int) (s re fo ra tu we sh : Int) (hn : 172 ≤ n) (hP : isPic k) (hcs : isSet cs) (hA : rC σ k w h T S F P O) (hS : rS σ cs s re fo ra tu we sh) (hk : k + 5 < 120 ∨ 130 < k) (hc2 : cs < 120 ∨ 130 < cs) (ax ay : Int) (hB : rA σ k cs ax ay) (hU : rU σ w h T F fo) (hG : rG σ w T S we ax ay (kL w h T s ax ay)) (fx fy tx ty : Int) (hfx : -1000000 ≤ fx ∧ fx ≤ 1000000) (hfy : -1000000 ≤ fy ∧ fy ≤ 1000000) (htx : -1000000 ≤ tx ∧ tx ≤ 1000000) (hty : -1000000 ≤ ty ∧ ty ≤ 1000000) (q0_ : aQ) (hQ : rQ σ w q0_) (hqo : qOk w h T s q0_) (hqs : qSo q0_ ≤ 10000) : yMet l g yX6_scan cX6_scan 11 none (rmL 3) [yR g 123, yI fx, yI fy, yI tx, yI ty] (SC g) n σ (SC g) (yPv (fun n' σ' => n' = n ∧ fk 123 10 19 σ σ' ∧ rQ σ' w (fr (fun q v => fr (fun q u => if sWs w h T F s fo u v then sAs w h T S s tu we sh ax ay u v q else q) (max fx 0) (min tx (w - 1) + 1 - max fx 0).toNat q) (max fy 0)  (min ty (h - 1) + 1 - max fy 0).toNat q0_) ∧ qOk w h T s (fr (fun q v => fr (fun q u => if sWs w h T F s fo u v then sAs w h T S s tu we sh ax ay u v q else q) (max fx 0) (min tx (w - 1) + 1 - max fx 0).toNat q) (max fy 0)  (min ty (h - 1) + 1 - max fy 0).toNat q0_))) := by
  obtain ⟨hw1, hw2, hw3, hw4⟩ := id hA.1.1
  obtain ⟨hs1, hs2, hs3, hs4, hs5, hs6, hs7⟩ := id hS.2
  have zkn : k < n := by have := hP.1; omega
  have zcsn : cs < n := by have := hcs.1; omega
  have z123 : 123 < n := by omega
  have z124 : 124 < n := by omega
  have z125 : 125 < n := by omega
  have z126 : 126 < n := by omega
  have z127 : 127 < n := by omega
  have zkn1 : k + 1 < n := by have := hP.1; omega
  have zkn2 : k + 2 < n := by have := hP.1; omega
  have zkn3 : k + 3 < n := by have := hP.1; omega
  have zkn4 : k + 4 < n := by have := hP.1; omega
  have zkn5 : k + 5 < n := by have := hP.1; omega
  refine y_start (by decide) (Nat.le_of_ble_eq_true rfl) (fun X0 hF => ?_)
  show yV X0 g 11 (yQ X0 g (SC g) (yPv (fun n' σ' => n' = n ∧ fk 123 10 19 σ σ' ∧ rQ σ' w (fr (fun q v => fr (fun q u => if sWs w h T F s fo u v then sAs w h T S s tu we sh ax ay u v q else q) (max fx 0) (min tx (w - 1) + 1 - max fx 0).toNat q) (max fy 0)  (min ty (h - 1) + 1 - max fy 0).toNat q0_) ∧ qOk w h T s (fr (fun q v => fr (fun q u => if sWs w h T F s fo u v then sAs w h T S s tu we sh ax ay u v q else q) (max fx 0) (min tx (w - 1) + 1 - max fx 0).toNat q) (max fy 0)  (min ty (h - 1) + 1 - max fy 0).toNat q0_))) (rmL 3)) (SC g) n σ 0 0 0 [(0, yR g 123), (1, yI fx), (2, yI fy), (3, yI tx), (4, yI ty)] []
  have z2t : (1 : Int) ≤ 2 ^ tu.toNat ∧ (2 : Int) ^ tu.toNat ≤ 8 := by rcases (show tu = 0 ∨ tu = 1 ∨ tu = 2 ∨ tu = 3 by omega) with e | e | e | e <;> rw [e] <;> decide
  have z2n : ((2 : Int) ^ tu.toNat).toNat = 2 ^ tu.toNat := by rcases (show tu = 0 ∨ tu = 1 ∨ tu = 2 ∨ tu = 3 by omega) with e | e | e | e <;> rw [e] <;> decide
  refine y_iconst (pc := 0) hF dX6_scan_0 ?_
  refine y_aload_n (pc := 1) hF dX6_scan_1 0 rfl ?_
  refine y_get (pc := 2) (ci := 6) hF dX6_scan_2 z123 rfl rfl rfl iX6 1 (by decide) w_362 rfl ?_
  rw [show (σ 123 1).toNat = cs from hB.c]
  refine y_getN (pc := 5) (ci := 7) hF dX6_scan_5 zcsn (hcs.2 g) rfl rfl iX7 4 (by decide) w_178 rfl ?_
  rw [show σ cs 4 = tu from hS.1.2.2.2.2.1]
  refine y_shl1 (pc := 8) hF dX6_scan_8 (by omega) ?_
  refine y_istore (pc := 9) (lv' := [(0, yR g 123), (1, yI fx), (2, yI fy), (3, yI tx), (4, yI ty), (5, yI (2 ^ (tu).toNat))]) hF dX6_scan_9 (by decide) rfl rfl ?_
  refine y_iload_n (pc := 11) hF dX6_scan_11 3 rfl ?_
  refine y_aload_n (pc := 12) hF dX6_scan_12 0 rfl ?_
  refine y_get (pc := 13) (ci := 6) hF dX6_scan_13 z123 rfl rfl rfl iX6 0 (by decide) w_361 rfl ?_
  rw [show (σ 123 0).toNat = k from hB.k]
  refine y_getN (pc := 16) (ci := 4) hF dX6_scan_16 zkn (hP.2 g).1 rfl rfl iX4 0 (by decide) w_212 rfl ?_
  rw [show σ k 0 = w from hA.2.1]
  refine y_iconst (pc := 19) hF dX6_scan_19 ?_
  refine y_isub (pc := 20) hF dX6_scan_20 ?_
  refine y_mmin (pc := 21) hF dX6_scan_21 w_930 w_699 w_103 w_700 (Nat.le_of_ble_eq_true rfl) (Nat.le_of_ble_eq_true rfl) ⟨Nat.zero_le _, Nat.zero_le _⟩ (by omega) (by omega) ?_
  refine y_istore (pc := 24) (lv' := [(0, yR g 123), (1, yI fx), (2, yI fy), (3, yI tx), (4, yI ty), (5, yI (2 ^ (tu).toNat)), (6, yI (min tx (w - 1)))]) hF dX6_scan_24 (by decide) rfl rfl ?_
  refine y_iload (pc := 26) hF dX6_scan_26 4 rfl ?_
  refine y_aload_n (pc := 28) hF dX6_scan_28 0 rfl ?_
  refine y_get (pc := 29) (ci := 6) hF dX6_scan_29 z123 rfl rfl rfl iX6 0 (by decide) w_361 rfl ?_
  rw [show (σ 123 0).toNat = k from hB.k]
  refine y_getN (pc := 32) (ci := 4) hF dX6_scan_32 zkn (hP.2 g).1 rfl rfl iX4 1 (by decide) w_215 rfl ?_
  rw [show σ k 1 = h from hA.2.2.1]
  refine y_iconst (pc := 35) hF dX6_scan_35 ?_
  refine y_isub (pc := 36) hF dX6_scan_36 ?_
  refine y_mmin (pc := 37) hF dX6_scan_37 w_930 w_699 w_103 w_700 (Nat.le_of_ble_eq_true rfl) (Nat.le_of_ble_eq_true rfl) ⟨Nat.zero_le _, Nat.zero_le _⟩ (by omega) (by omega) ?_
  refine y_istore (pc := 40) (lv' := [(0, yR g 123), (1, yI fx), (2, yI fy), (3, yI tx), (4, yI ty), (5, yI (2 ^ (tu).toNat)), (6, yI (min tx (w - 1))), (7, yI (min ty (h - 1)))]) hF dX6_scan_40 (by decide) rfl rfl ?_
  refine y_iload_n (pc := 42) hF dX6_scan_42 2 rfl ?_
  refine y_iconst (pc := 43) hF dX6_scan_43 ?_
  refine y_mmax (pc := 44) hF dX6_scan_44 w_931 w_876 w_103 w_877 (Nat.le_of_ble_eq_true rfl) (Nat.le_of_ble_eq_true rfl) ⟨Nat.zero_le _, Nat.zero_le _⟩ (by omega) (by omega) ?_
  refine y_istore (pc := 47) (lv' := [(0, yR g 123), (1, yI fx), (2, yI fy), (3, yI tx), (4, yI ty), (5, yI (2 ^ (tu).toNat)), (6, yI (min tx (w - 1))), (7, yI (min ty (h - 1))), (8, yI (max fy 0))]) hF dX6_scan_47 (by decide) rfl rfl ?_
  have zL49 : ∀ (N : Nat) (τ : yM) (v : Int) (q1 : aQ), N = (min ty (h - 1) + 1 - v).toNat → (fk 123 10 19 σ τ ∧ (max fy 0 ≤ v ∧ (v ≤ min ty (h - 1) + 1 ∨ v = max fy 0)) ∧ q1 = fr (fun q v => fr (fun q u => if sWs w h T F s fo u v then sAs w h T S s tu we sh ax ay u v q else q) (max fx 0) (min tx (w - 1) + 1 - max fx 0).toNat q) (max fy 0)  (v - max fy 0).toNat q0_ ∧ rQ τ w q1 ∧ qOk w h T s q1 ∧ qSo q1 ≤ 10000 + 160 * (v - max fy 0)) → yV X0 g 11 (yQ X0 g (SC g) (yPv (fun n' σ' => n' = n ∧ fk 123 10 19 σ σ' ∧ rQ σ' w (fr (fun q v => fr (fun q u => if sWs w h T F s fo u v then sAs w h T S s tu we sh ax ay u v q else q) (max fx 0) (min tx (w - 1) + 1 - max fx 0).toNat q) (max fy 0)  (min ty (h - 1) + 1 - max fy 0).toNat q0_) ∧ qOk w h T s (fr (fun q v => fr (fun q u => if sWs w h T F s fo u v then sAs w h T S s tu we sh ax ay u v q else q) (max fx 0) (min tx (w - 1) + 1 - max fx 0).toNat q) (max fy 0)  (min ty (h - 1) + 1 - max fy 0).toNat q0_))) (rmL 3)) (SC g) n τ 0 0 49 [(0, yR g 123), (1, yI fx), (2, yI fy), (3, yI tx), (4, yI ty), (5, yI (2 ^ (tu).toNat)), (6, yI (min tx (w - 1))), (7, yI (min ty (h - 1))), (8, yI v)] [] := by
    intro N
    induction N using Nat.strongRecOn with
    | ind N zh49 =>
      intro τ  v  q1  zN49 zI49
      have zA_τ := hA.fc (by omega) (zI49.1).fc
      have zS_τ := hS.fc (by omega) (zI49.1).fc
      have zB_τ := hB.fr (fun j _ _ => (zI49.1) 123 j (by omega))
      have zG_τ := hG.fk10 (zI49.1)
      have zU_τ : rU τ w h T F fo := fun a b a1 a2 b1 b2 => by rw [(zI49.1) 127 _ (by omega)]; exact hU a b a1 a2 b1 b2
      refine y_iload (pc := 49) hF dX6_scan_49 8 rfl ?_
      refine y_iload (pc := 51) hF dX6_scan_51 7 rfl ?_
      refine y_icmp_gt (pc := 53) hF dX6_scan_53 126 rfl (by omega) (by omega) (fun zc53 => ?_) (fun zc53 => ?_)
      · skip
        exact y_vret (pc := 126) hF dX6_scan_126 (Nat.zero_le _) (Nat.zero_le _) ⟨rfl, rfl, zI49.1, by rw [show (min ty (h - 1) + 1 - max fy 0).toNat = (v - max fy 0).toNat by omega, ← zI49.2.2.1]; exact ⟨zI49.2.2.2.1, zI49.2.2.2.2.1⟩⟩
      · skip
        refine y_iload_n (pc := 56) hF dX6_scan_56 1 rfl ?_
        refine y_iconst (pc := 57) hF dX6_scan_57 ?_
        refine y_mmax (pc := 58) hF dX6_scan_58 w_931 w_876 w_103 w_877 (Nat.le_of_ble_eq_true rfl) (Nat.le_of_ble_eq_true rfl) ⟨Nat.zero_le _, Nat.zero_le _⟩ (by omega) (by omega) ?_
        refine y_istore (pc := 61) (lv' := [(0, yR g 123), (1, yI fx), (2, yI fy), (3, yI tx), (4, yI ty), (5, yI (2 ^ (tu).toNat)), (6, yI (min tx (w - 1))), (7, yI (min ty (h - 1))), (8, yI v), (9, yI (max fx 0))]) hF dX6_scan_61 (by decide) rfl rfl ?_
        have zL63 : ∀ (N : Nat) (υ : yM) (u : Int) (q2 : aQ), N = (min tx (w - 1) + 1 - u).toNat → (fk 123 10 19 σ υ ∧ (max fx 0 ≤ u ∧ (u ≤ min tx (w - 1) + 1 ∨ u = max fx 0)) ∧ q2 = fr (fun q u => if sWs w h T F s fo u v then sAs w h T S s tu we sh ax ay u v q else q) (max fx 0) (u - max fx 0).toNat q1 ∧ rQ υ w q2 ∧ qOk w h T s q2 ∧ qSo q2 ≤ qSo q1 + 8 * (u - max fx 0)) → yV X0 g 11 (yQ X0 g (SC g) (yPv (fun n' σ' => n' = n ∧ fk 123 10 19 σ σ' ∧ rQ σ' w (fr (fun q v => fr (fun q u => if sWs w h T F s fo u v then sAs w h T S s tu we sh ax ay u v q else q) (max fx 0) (min tx (w - 1) + 1 - max fx 0).toNat q) (max fy 0)  (min ty (h - 1) + 1 - max fy 0).toNat q0_) ∧ qOk w h T s (fr (fun q v => fr (fun q u => if sWs w h T F s fo u v then sAs w h T S s tu we sh ax ay u v q else q) (max fx 0) (min tx (w - 1) + 1 - max fx 0).toNat q) (max fy 0)  (min ty (h - 1) + 1 - max fy 0).toNat q0_))) (rmL 3)) (SC g) n υ 0 0 63 [(0, yR g 123), (1, yI fx), (2, yI fy), (3, yI tx), (4, yI ty), (5, yI (2 ^ (tu).toNat)), (6, yI (min tx (w - 1))), (7, yI (min ty (h - 1))), (8, yI v), (9, yI u)] [] := by
          intro N
          induction N using Nat.strongRecOn with
          | ind N zh63 =>
            intro υ  u  q2  zN63 zI63
            have zA_υ := hA.fc (by omega) (zI63.1).fc
            have zS_υ := hS.fc (by omega) (zI63.1).fc
            have zB_υ := hB.fr (fun j _ _ => (zI63.1) 123 j (by omega))
            have zG_υ := hG.fk10 (zI63.1)
            have zU_υ : rU υ w h T F fo := fun a b a1 a2 b1 b2 => by rw [(zI63.1) 127 _ (by omega)]; exact hU a b a1 a2 b1 b2
            refine y_iload (pc := 63) hF dX6_scan_63 9 rfl ?_
            refine y_iload (pc := 65) hF dX6_scan_65 6 rfl ?_
            refine y_icmp_gt (pc := 67) hF dX6_scan_67 120 rfl (by omega) (by omega) (fun zc67 => ?_) (fun zc67 => ?_)
            · skip
              refine y_iinc (pc := 120) (lv' := [(0, yR g 123), (1, yI fx), (2, yI fy), (3, yI tx), (4, yI ty), (5, yI (2 ^ (tu).toNat)), (6, yI (min tx (w - 1))), (7, yI (min ty (h - 1))), (8, yI (v + 1)), (9, yI u)]) hF dX6_scan_120 8 rfl (by decide) rfl rfl ?_
              refine y_goto (pc := 123) hF dX6_scan_123 49 rfl ?_
              refine y_sub [0, 1, 2, 3, 4, 5, 6, 7, 8] rfl ?_
              exact zh49 _ (by omega) υ (v + 1) q2 rfl ⟨zI63.1, by omega, by rw [fr_up' _ _ zI49.2.1.1, ← zI49.2.2.1, zI63.2.2.1, show (u - max fx 0).toNat = (min tx (w - 1) + 1 - max fx 0).toNat by omega], zI63.2.2.2.1, zI63.2.2.2.2.1, by omega⟩
            · skip
              have zru : -1000000 ≤ u ∧ u ≤ 1000000 := by omega
              have zrv : -1000000 ≤ v ∧ v ≤ 1000000 := by omega
              have zin : sIn w h u v = true := sIn_iff.mpr (by omega)
              refine y_aload_n (pc := 70) hF dX6_scan_70 0 rfl ?_
              refine y_iload (pc := 71) hF dX6_scan_71 9 rfl ?_
              refine y_iload (pc := 73) hF dX6_scan_73 8 rfl ?_
              have zz75 := y_rV (pc := 75) hF (tX6_isWholeAndUsable k cs w h T S F P O s re fo ra tu we sh hn hP hcs zA_υ zS_υ hk hc2 ax ay zB_υ zU_υ u v zru zrv) dX6_scan_75 z123 rfl rfl rfl w_932 qX6_isWholeAndUsable rfl ⟨Nat.le_of_ble_eq_true rfl, Nat.le_of_ble_eq_true rfl⟩ ⟨Nat.zero_le _, Nat.zero_le _⟩ (Nat.le_of_ble_eq_true rfl) rfl (rest := []) (cells := 0) (slots := 0) (lv := [(0, yR g 123), (1, yI fx), (2, yI fy), (3, yI tx), (4, yI ty), (5, yI (2 ^ (tu).toNat)), (6, yI (min tx (w - 1))), (7, yI (min ty (h - 1))), (8, yI v), (9, yI u)])
              refine y_cp (zz75) ?_
              refine y_if_eq (pc := 78) hF dX6_scan_78 114 rfl bi_r (fun zc78 => ?_) (fun zc78 => ?_)
              · replace zc78 := bi_0.mp zc78
                refine y_iinc (pc := 114) (lv' := [(0, yR g 123), (1, yI fx), (2, yI fy), (3, yI tx), (4, yI ty), (5, yI (2 ^ (tu).toNat)), (6, yI (min tx (w - 1))), (7, yI (min ty (h - 1))), (8, yI v), (9, yI (u + 1))]) hF dX6_scan_114 9 rfl (by decide) rfl rfl ?_
                refine y_goto (pc := 117) hF dX6_scan_117 63 rfl ?_
                exact zh63 _ (by omega) υ (u + 1) q2 rfl ⟨zI63.1, by omega, by rw [fr_up' _ _ zI63.2.1.1, ← zI63.2.2.1]; rw [if_neg (by simp [zc78])], zI63.2.2.2.1, zI63.2.2.2.2.1, by omega⟩
              · replace zc78 := bi_n0.mp zc78
                have zpl := sWs.pl (by omega) zc78
                refine y_iconst (pc := 81) hF dX6_scan_81 ?_
                refine y_istore (pc := 82) (lv' := [(0, yR g 123), (1, yI fx), (2, yI fy), (3, yI tx), (4, yI ty), (5, yI (2 ^ (tu).toNat)), (6, yI (min tx (w - 1))), (7, yI (min ty (h - 1))), (8, yI v), (9, yI u), (10, yI 0)]) hF dX6_scan_82 (by decide) rfl rfl ?_
                have zL84 : ∀ (N : Nat) (ψ : yM) (wy : Int) (q3 : aQ), N = (2 ^ tu.toNat - wy).toNat → (fk 123 10 19 σ ψ ∧ (0 ≤ wy ∧ wy ≤ 2 ^ tu.toNat) ∧ q3 = fr (asF w h T S s we sh ax ay u v) 0 wy.toNat q2 ∧ rQ ψ w q3 ∧ qOk w h T s q3 ∧ qSo q3 ≤ qSo q2 + wy) → yV X0 g 11 (yQ X0 g (SC g) (yPv (fun n' σ' => n' = n ∧ fk 123 10 19 σ σ' ∧ rQ σ' w (fr (fun q v => fr (fun q u => if sWs w h T F s fo u v then sAs w h T S s tu we sh ax ay u v q else q) (max fx 0) (min tx (w - 1) + 1 - max fx 0).toNat q) (max fy 0)  (min ty (h - 1) + 1 - max fy 0).toNat q0_) ∧ qOk w h T s (fr (fun q v => fr (fun q u => if sWs w h T F s fo u v then sAs w h T S s tu we sh ax ay u v q else q) (max fx 0) (min tx (w - 1) + 1 - max fx 0).toNat q) (max fy 0)  (min ty (h - 1) + 1 - max fy 0).toNat q0_))) (rmL 3)) (SC g) n ψ 0 0 84 [(0, yR g 123), (1, yI fx), (2, yI fy), (3, yI tx), (4, yI ty), (5, yI (2 ^ (tu).toNat)), (6, yI (min tx (w - 1))), (7, yI (min ty (h - 1))), (8, yI v), (9, yI u), (10, yI wy)] [] := by
                  intro N
                  induction N using Nat.strongRecOn with
                  | ind N zh84 =>
                    intro ψ  wy  q3  zN84 zI84
                    have zA_ψ := hA.fc (by omega) (zI84.1).fc
                    have zS_ψ := hS.fc (by omega) (zI84.1).fc
                    have zB_ψ := hB.fr (fun j _ _ => (zI84.1) 123 j (by omega))
                    have zG_ψ := hG.fk10 (zI84.1)
                    have zU_ψ : rU ψ w h T F fo := fun a b a1 a2 b1 b2 => by rw [(zI84.1) 127 _ (by omega)]; exact hU a b a1 a2 b1 b2
                    refine y_iload (pc := 84) hF dX6_scan_84 10 rfl ?_
                    refine y_iload (pc := 86) hF dX6_scan_86 5 rfl ?_
                    refine y_icmp_ge (pc := 88) hF dX6_scan_88 114 rfl (by omega) (by omega) (fun zc88 => ?_) (fun zc88 => ?_)
                    · skip
                      refine y_iinc (pc := 114) (lv' := [(0, yR g 123), (1, yI fx), (2, yI fy), (3, yI tx), (4, yI ty), (5, yI (2 ^ (tu).toNat)), (6, yI (min tx (w - 1))), (7, yI (min ty (h - 1))), (8, yI v), (9, yI (u + 1)), (10, yI wy)]) hF dX6_scan_114 9 rfl (by decide) rfl rfl ?_
                      refine y_goto (pc := 117) hF dX6_scan_117 63 rfl ?_
                      refine y_sub [0, 1, 2, 3, 4, 5, 6, 7, 8, 9] rfl ?_
                      exact zh63 _ (by omega) ψ (u + 1) q3 rfl ⟨zI84.1, by omega, by rw [fr_up' _ _ zI63.2.1.1, ← zI63.2.2.1]; rw [if_pos zc78, zI84.2.2.1, show wy.toNat = 2 ^ tu.toNat by (rw [← z2n]; congr 1; omega)]; rfl, zI84.2.2.2.1, zI84.2.2.2.2.1, by omega⟩
                    · skip
                      refine y_aload_n (pc := 91) hF dX6_scan_91 0 rfl ?_
                      refine y_aload_n (pc := 92) hF dX6_scan_92 0 rfl ?_
                      refine y_get (pc := 93) (ci := 6) hF dX6_scan_93 z123 rfl rfl rfl iX6 0 (by decide) w_361 rfl ?_
                      rw [show (ψ 123 0).toNat = k from zB_ψ.k]
                      refine y_iload (pc := 96) hF dX6_scan_96 9 rfl ?_
                      refine y_iload (pc := 98) hF dX6_scan_98 8 rfl ?_
                      have zz100 := y_rV (pc := 100) hF (tX4_at k w h T S F P O hn hP zA_ψ u v) dX6_scan_100 zkn (hP.2 g).1 rfl rfl w_901 qX4_at rfl ⟨Nat.le_of_ble_eq_true rfl, Nat.le_of_ble_eq_true rfl⟩ ⟨Nat.zero_le _, Nat.zero_le _⟩ (Nat.le_of_ble_eq_true rfl) rfl (rest := [yR g 123]) (cells := 0) (slots := 0) (lv := [(0, yR g 123), (1, yI fx), (2, yI fy), (3, yI tx), (4, yI ty), (5, yI (2 ^ (tu).toNat)), (6, yI (min tx (w - 1))), (7, yI (min ty (h - 1))), (8, yI v), (9, yI u), (10, yI wy)])
                      refine y_cp (zz100) ?_
                      refine y_iload (pc := 103) hF dX6_scan_103 10 rfl ?_
                      refine y_cv (y_rV (pc := 105) hF (tX6_ask k cs w h T S F P O s re fo ra tu we sh hn hP hcs zA_ψ zS_ψ hk hc2 ax ay zB_ψ u v wy zin (by omega) zpl zG_ψ q3.1 q3.2.1 q3.2.2.1 q3.2.2.2.1 q3.2.2.2.2.1 q3.2.2.2.2.2.1 q3.2.2.2.2.2.2.1 q3.2.2.2.2.2.2.2.1 q3.2.2.2.2.2.2.2.2 zI84.2.2.2.1 zI84.2.2.2.2.1) dX6_scan_105 z123 rfl rfl rfl w_936 qX6_ask rfl ⟨Nat.le_of_ble_eq_true rfl, Nat.le_of_ble_eq_true rfl⟩ ⟨Nat.zero_le _, Nat.zero_le _⟩ (Nat.le_of_ble_eq_true rfl) rfl) rfl rfl (fun n' σ105 zp105 => ?_)
                      obtain ⟨zn105, zp105⟩ := zp105
                      have zn105 := zn105.symm
                      subst zn105
                      refine y_iinc (pc := 108) (lv' := [(0, yR g 123), (1, yI fx), (2, yI fy), (3, yI tx), (4, yI ty), (5, yI (2 ^ (tu).toNat)), (6, yI (min tx (w - 1))), (7, yI (min ty (h - 1))), (8, yI v), (9, yI u), (10, yI (wy + 1))]) hF dX6_scan_108 10 rfl (by decide) rfl rfl ?_
                      refine y_goto (pc := 111) hF dX6_scan_111 84 rfl ?_
                      exact zh84 _ (by omega) σ105 (wy + 1) (asF w h T S s we sh ax ay u v q3 wy) rfl ⟨zI84.1.tr zp105.1, by omega, by rw [fr_up _ _ _ _ zI84.2.1.1, ← zI84.2.2.1, Int.zero_add], zp105.2, asF_ok hA.1 ⟨by omega, hs1.2⟩ zpl zin (by omega) zI84.2.2.2.2.1 (by omega), by rw [asF_so]; omega⟩
                exact zL84 _ υ (0) q2 rfl ⟨zI63.1, by omega, rfl, zI63.2.2.2.1, zI63.2.2.2.2.1, by omega⟩
        exact zL63 _ τ (max fx 0) q1 rfl ⟨zI49.1, by omega, (fr_no _ _ _).symm, zI49.2.2.2.1, zI49.2.2.2.2.1, by omega⟩
  exact zL49 _ σ (max fy 0) q0_ rfl ⟨fk.rf σ, by omega, (fr_no _ _ _).symm, hQ, hqo, by omega⟩
