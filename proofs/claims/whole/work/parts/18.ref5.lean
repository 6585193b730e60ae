theorem dX11_searches_0 : decode cX11_searches 0 = .ok (.aload_n 0, 1) := by decide +kernel
theorem dX11_searches_1 : decode cX11_searches 1 = .ok (.invokevirtual 185, 3) := by decide +kernel
theorem dX11_searches_4 : decode cX11_searches 4 = .ok (.iconst 0, 1) := by decide +kernel
theorem dX11_searches_5 : decode cX11_searches 5 = .ok (.istore 5, 2) := by decide +kernel
theorem dX11_searches_7 : decode cX11_searches 7 = .ok (.iload 5, 2) := by decide +kernel
theorem dX11_searches_9 : decode cX11_searches 9 = .ok (.aload_n 0, 1) := by decide +kernel
theorem dX11_searches_10 : decode cX11_searches 10 = .ok (.getfield 25, 3) := by decide +kernel
theorem dX11_searches_13 : decode cX11_searches 13 = .ok (.iload_n 1, 1) := by decide +kernel
theorem dX11_searches_14 : decode cX11_searches 14 = .ok (.iaload, 1) := by decide +kernel
theorem dX11_searches_15 : decode cX11_searches 15 = .ok (.if_icmp .ge 67, 3) := by decide +kernel
theorem dX11_searches_18 : decode cX11_searches 18 = .ok (.iconst 0, 1) := by decide +kernel
theorem dX11_searches_19 : decode cX11_searches 19 = .ok (.istore 6, 2) := by decide +kernel
theorem dX11_searches_21 : decode cX11_searches 21 = .ok (.iload 6, 2) := by decide +kernel
theorem dX11_searches_23 : decode cX11_searches 23 = .ok (.aload_n 0, 1) := by decide +kernel
theorem dX11_searches_24 : decode cX11_searches 24 = .ok (.getfield 22, 3) := by decide +kernel
theorem dX11_searches_27 : decode cX11_searches 27 = .ok (.iload_n 1, 1) := by decide +kernel
theorem dX11_searches_28 : decode cX11_searches 28 = .ok (.iaload, 1) := by decide +kernel
theorem dX11_searches_29 : decode cX11_searches 29 = .ok (.if_icmp .ge 47, 3) := by decide +kernel
theorem dX11_searches_32 : decode cX11_searches 32 = .ok (.aload_n 0, 1) := by decide +kernel
theorem dX11_searches_33 : decode cX11_searches 33 = .ok (.iload_n 2, 1) := by decide +kernel
theorem dX11_searches_34 : decode cX11_searches 34 = .ok (.iload_n 3, 1) := by decide +kernel
theorem dX11_searches_35 : decode cX11_searches 35 = .ok (.iload 6, 2) := by decide +kernel
theorem dX11_searches_37 : decode cX11_searches 37 = .ok (.iload 5, 2) := by decide +kernel
theorem dX11_searches_39 : decode cX11_searches 39 = .ok (.iload 4, 2) := by decide +kernel
theorem dX11_searches_41 : decode cX11_searches 41 = .ok (.invokevirtual 188, 3) := by decide +kernel
theorem dX11_searches_44 : decode cX11_searches 44 = .ok (.ifCond .eq 26, 3) := by decide +kernel
theorem dX11_searches_47 : decode cX11_searches 47 = .ok (.aload_n 0, 1) := by decide +kernel
theorem dX11_searches_48 : decode cX11_searches 48 = .ok (.iload_n 1, 1) := by decide +kernel
theorem dX11_searches_49 : decode cX11_searches 49 = .ok (.iload 6, 2) := by decide +kernel
theorem dX11_searches_51 : decode cX11_searches 51 = .ok (.iload 5, 2) := by decide +kernel
theorem dX11_searches_53 : decode cX11_searches 53 = .ok (.invokevirtual 192, 3) := by decide +kernel
theorem dX11_searches_56 : decode cX11_searches 56 = .ok (.ifCond .eq 14, 3) := by decide +kernel
theorem dX11_searches_59 : decode cX11_searches 59 = .ok (.aload_n 0, 1) := by decide +kernel
theorem dX11_searches_60 : decode cX11_searches 60 = .ok (.iload_n 1, 1) := by decide +kernel
theorem dX11_searches_61 : decode cX11_searches 61 = .ok (.iload_n 2, 1) := by decide +kernel
theorem dX11_searches_62 : decode cX11_searches 62 = .ok (.iload_n 3, 1) := by decide +kernel
theorem dX11_searches_63 : decode cX11_searches 63 = .ok (.iload 6, 2) := by decide +kernel
theorem dX11_searches_65 : decode cX11_searches 65 = .ok (.iload 5, 2) := by decide +kernel
theorem dX11_searches_67 : decode cX11_searches 67 = .ok (.invokevirtual 195, 3) := by decide +kernel
theorem dX11_searches_70 : decode cX11_searches 70 = .ok (.iinc 6 1, 3) := by decide +kernel
theorem dX11_searches_73 : decode cX11_searches 73 = .ok (.goto (-52), 3) := by decide +kernel
theorem dX11_searches_76 : decode cX11_searches 76 = .ok (.iinc 5 1, 3) := by decide +kernel
theorem dX11_searches_79 : decode cX11_searches 79 = .ok (.goto (-72), 3) := by decide +kernel
theorem dX11_searches_82 : decode cX11_searches 82 = .ok (.return_, 1) := by decide +kernel
set_option maxHeartbeats 4000000 in
set_option maxRecDepth 100000 in
theorem tX11_searches {l : Launch} {g : yG} {n : Nat} {σ : yM} (z : Nat) (w h : Int) (T S F P O : Int → Int → Int) (s re fo ra tu we sh : Int) (hn : 172 ≤ n) (hz : z < 3) (hA : rM σ z w h T S F P O) (hS : rS σ 166 s re fo ra tu we sh) (x y : Int) (hi : sIn w h x y = true) (rex : Int) (hrx : 1 ≤ rex ∧ rex ≤ 20) : yMet l g yX11_searches cX11_searches 7 none (rmL 6) [yR g 155, yI (z : Int), yI x, yI y, yI rex] (SC g) n σ (SC g) (yPv (fun n' σ' => n' = n ∧ fR 16 26 σ σ' ∧ (σ' 155 19, σ' 155 20, σ' 155 21, σ' 155 22, σ' 155 23, σ' 155 24, σ' 155 25, σ' 155 26, σ' 155 18) = sSe w h T S F s fo tu we sh x y rex ∧ qOk w h T s (σ' 155 19, σ' 155 20, σ' 155 21, σ' 155 22, σ' 155 23, σ' 155 24, σ' 155 25, σ' 155 26, σ' 155 18))) := by
  obtain ⟨hw1, hw2, hw3, hw4⟩ := id hA.1.1
  obtain ⟨hs1, hs2, hs3, hs4, hs5, hs6, hs7⟩ := id hS.2
  have zi := sIn_iff.mp hi
  refine y_start (by decide) (Nat.le_of_ble_eq_true rfl) (fun X0 hF => ?_)
  show yV X0 g 7 (yQ X0 g (SC g) (yPv (fun n' σ' => n' = n ∧ fR 16 26 σ σ' ∧ (σ' 155 19, σ' 155 20, σ' 155 21, σ' 155 22, σ' 155 23, σ' 155 24, σ' 155 25, σ' 155 26, σ' 155 18) = sSe w h T S F s fo tu we sh x y rex ∧ qOk w h T s (σ' 155 19, σ' 155 20, σ' 155 21, σ' 155 22, σ' 155 23, σ' 155 24, σ' 155 25, σ' 155 26, σ' 155 18))) (rmL 6)) (SC g) n σ 0 0 0 [(0, yR g 155), (1, yI (z : Int)), (2, yI x), (3, yI y), (4, yI rex)] []
  refine y_aload_n (pc := 0) hF dX11_searches_0 0 rfl ?_
  refine y_cv (y_rV (pc := 1) hF (tX11_begins hn) dX11_searches_1 (by omega) rfl rfl rfl w_1537 qX11_begins rfl ⟨Nat.le_of_ble_eq_true rfl, Nat.le_of_ble_eq_true rfl⟩ ⟨Nat.zero_le _, Nat.zero_le _⟩ (Nat.le_of_ble_eq_true rfl) rfl) rfl rfl (fun n' σ1 zp1 => ?_)
  obtain ⟨zn1, zp1⟩ := zp1
  have zn1 := zn1.symm
  subst zn1
  have zA_σ1 := hA.fR hz zp1.1
  have zS_σ1 := hS.fR (by omega) zp1.1
  refine y_iconst (pc := 4) hF dX11_searches_4 ?_
  refine y_istore (pc := 5) (lv' := [(0, yR g 155), (1, yI (z : Int)), (2, yI x), (3, yI y), (4, yI rex), (5, yI 0)]) hF dX11_searches_5 (by decide) rfl rfl ?_
  have zL7 : ∀ (N : Nat) (τ : yM) (v : Int), N = (h - v).toNat → (fR 16 26 σ τ ∧ (0 ≤ v ∧ v ≤ h) ∧ (τ 155 19, τ 155 20, τ 155 21, τ 155 22, τ 155 23, τ 155 24, τ 155 25, τ 155 26, τ 155 18) = fr (fun q v => fr (fun q u => scF w h T S F s fo tu we sh x y rex q u v) 0 w.toNat q) 0 v.toNat q0 ∧ qOk w h T s (τ 155 19, τ 155 20, τ 155 21, τ 155 22, τ 155 23, τ 155 24, τ 155 25, τ 155 26, τ 155 18) ∧ τ 155 24 ≤ 160 * v) → yV X0 g 7 (yQ X0 g (SC g) (yPv (fun n' σ' => n' = n ∧ fR 16 26 σ σ' ∧ (σ' 155 19, σ' 155 20, σ' 155 21, σ' 155 22, σ' 155 23, σ' 155 24, σ' 155 25, σ' 155 26, σ' 155 18) = sSe w h T S F s fo tu we sh x y rex ∧ qOk w h T s (σ' 155 19, σ' 155 20, σ' 155 21, σ' 155 22, σ' 155 23, σ' 155 24, σ' 155 25, σ' 155 26, σ' 155 18))) (rmL 6)) (SC g) n τ 0 0 7 [(0, yR g 155), (1, yI (z : Int)), (2, yI x), (3, yI y), (4, yI rex), (5, yI v)] [] := by
    intro N
    induction N using Nat.strongRecOn with
    | ind N zh7 =>
      intro τ  v  zN7 zI7
      have zA_τ := hA.fR hz zI7.1
      have zS_τ := hS.fR (by omega) zI7.1
      refine y_iload (pc := 7) hF dX11_searches_7 5 rfl ?_
      refine y_aload_n (pc := 9) hF dX11_searches_9 0 rfl ?_
      refine y_get (pc := 10) (ci := 11) hF dX11_searches_10 (by omega) rfl rfl rfl iX11 4 (by decide) w_1251 rfl ?_
      refine y_iload_n (pc := 13) hF dX11_searches_13 1 rfl ?_
      refine y_iaload (pc := 14) hF dX11_searches_14 (by omega) rfl (by omega) (by decide) ?_
      rw [show τ 162 (z : Int) = h from zA_τ.2.2.1]
      refine y_icmp_ge (pc := 15) hF dX11_searches_15 82 rfl (by omega) (by omega) (fun zc15 => ?_) (fun zc15 => ?_)
      · skip
        exact y_vret (pc := 82) hF dX11_searches_82 (Nat.zero_le _) (Nat.zero_le _) ⟨rfl, rfl, zI7.1, by rw [zI7.2.2.1, show v = h by omega]; rfl, zI7.2.2.2.1⟩
      · skip
        refine y_iconst (pc := 18) hF dX11_searches_18 ?_
        refine y_istore (pc := 19) (lv' := [(0, yR g 155), (1, yI (z : Int)), (2, yI x), (3, yI y), (4, yI rex), (5, yI v), (6, yI 0)]) hF dX11_searches_19 (by decide) rfl rfl ?_
        have zL21 : ∀ (N : Nat) (υ : yM) (u : Int), N = (w - u).toNat → (fR 16 26 σ υ ∧ (0 ≤ u ∧ u ≤ w) ∧ (υ 155 19, υ 155 20, υ 155 21, υ 155 22, υ 155 23, υ 155 24, υ 155 25, υ 155 26, υ 155 18) = fr (fun q u => scF w h T S F s fo tu we sh x y rex q u v) 0 u.toNat (τ 155 19, τ 155 20, τ 155 21, τ 155 22, τ 155 23, τ 155 24, τ 155 25, τ 155 26, τ 155 18) ∧ qOk w h T s (υ 155 19, υ 155 20, υ 155 21, υ 155 22, υ 155 23, υ 155 24, υ 155 25, υ 155 26, υ 155 18) ∧ υ 155 24 ≤ τ 155 24 + 8 * u) → yV X0 g 7 (yQ X0 g (SC g) (yPv (fun n' σ' => n' = n ∧ fR 16 26 σ σ' ∧ (σ' 155 19, σ' 155 20, σ' 155 21, σ' 155 22, σ' 155 23, σ' 155 24, σ' 155 25, σ' 155 26, σ' 155 18) = sSe w h T S F s fo tu we sh x y rex ∧ qOk w h T s (σ' 155 19, σ' 155 20, σ' 155 21, σ' 155 22, σ' 155 23, σ' 155 24, σ' 155 25, σ' 155 26, σ' 155 18))) (rmL 6)) (SC g) n υ 0 0 21 [(0, yR g 155), (1, yI (z : Int)), (2, yI x), (3, yI y), (4, yI rex), (5, yI v), (6, yI u)] [] := by
          intro N
          induction N using Nat.strongRecOn with
          | ind N zh21 =>
            intro υ  u  zN21 zI21
            have zA_υ := hA.fR hz zI21.1
            have zS_υ := hS.fR (by omega) zI21.1
            refine y_iload (pc := 21) hF dX11_searches_21 6 rfl ?_
            refine y_aload_n (pc := 23) hF dX11_searches_23 0 rfl ?_
            refine y_get (pc := 24) (ci := 11) hF dX11_searches_24 (by omega) rfl rfl rfl iX11 3 (by decide) w_1250 rfl ?_
            refine y_iload_n (pc := 27) hF dX11_searches_27 1 rfl ?_
            refine y_iaload (pc := 28) hF dX11_searches_28 (by omega) rfl (by omega) (by decide) ?_
            rw [show υ 161 (z : Int) = w from zA_υ.2.1]
            refine y_icmp_ge (pc := 29) hF dX11_searches_29 76 rfl (by omega) (by omega) (fun zc29 => ?_) (fun zc29 => ?_)
            · skip
              refine y_iinc (pc := 76) (lv' := [(0, yR g 155), (1, yI (z : Int)), (2, yI x), (3, yI y), (4, yI rex), (5, yI (v + 1)), (6, yI u)]) hF dX11_searches_76 5 rfl (by decide) rfl rfl ?_
              refine y_goto (pc := 79) hF dX11_searches_79 7 rfl ?_
              refine y_sub [0, 1, 2, 3, 4, 5] rfl ?_
              exact zh7 _ (by omega) υ (v + 1) rfl ⟨zI21.1, by omega, by rw [fr_up _ _ _ _ zI7.2.1.1, ← zI7.2.2.1, Int.zero_add, zI21.2.2.1, show u = w by omega], zI21.2.2.2.1, by omega⟩
            · skip
              refine y_aload_n (pc := 32) hF dX11_searches_32 0 rfl ?_
              refine y_iload_n (pc := 33) hF dX11_searches_33 2 rfl ?_
              refine y_iload_n (pc := 34) hF dX11_searches_34 3 rfl ?_
              refine y_iload (pc := 35) hF dX11_searches_35 6 rfl ?_
              refine y_iload (pc := 37) hF dX11_searches_37 5 rfl ?_
              refine y_iload (pc := 39) hF dX11_searches_39 4 rfl ?_
              refine y_cp (y_rV (pc := 41) hF (tX11_isNear x y u v rex (by omega) (by omega) (by omega) (by omega) (by omega)) dX11_searches_41 (by omega) rfl rfl rfl w_1580 qX11_isNear rfl ⟨Nat.le_of_ble_eq_true rfl, Nat.le_of_ble_eq_true rfl⟩ ⟨Nat.zero_le _, Nat.zero_le _⟩ (Nat.le_of_ble_eq_true rfl) rfl) ?_
              refine y_if_eq (pc := 44) hF dX11_searches_44 70 rfl bi_r (fun zc44 => ?_) (fun zc44 => ?_)
              · replace zc44 := bi_0.mp zc44
                skip
                skip
                refine y_iinc (pc := 70) (lv' := [(0, yR g 155), (1, yI (z : Int)), (2, yI x), (3, yI y), (4, yI rex), (5, yI v), (6, yI (u + 1))]) hF dX11_searches_70 6 rfl (by decide) rfl rfl ?_
                refine y_goto (pc := 73) hF dX11_searches_73 21 rfl ?_
                exact zh21 _ (by omega) υ (u + 1) rfl ⟨zI21.1, by omega, by rw [fr_up _ _ _ _ zI21.2.1.1, ← zI21.2.2.1, Int.zero_add]; simp [scF, zc44], zI21.2.2.2.1, by omega⟩
              · replace zc44 := bi_n0.mp zc44
                refine y_aload_n (pc := 47) hF dX11_searches_47 0 rfl ?_
                refine y_iload_n (pc := 48) hF dX11_searches_48 1 rfl ?_
                refine y_iload (pc := 49) hF dX11_searches_49 6 rfl ?_
                refine y_iload (pc := 51) hF dX11_searches_51 5 rfl ?_
                refine y_cp (y_rV (pc := 53) hF (tX11_isWholeSource z w h T S F P O s re fo ra tu we sh hn hz zA_υ zS_υ u v (by omega) (by omega)) dX11_searches_53 (by omega) rfl rfl rfl w_1541 qX11_isWholeSource rfl ⟨Nat.le_of_ble_eq_true rfl, Nat.le_of_ble_eq_true rfl⟩ ⟨Nat.zero_le _, Nat.zero_le _⟩ (Nat.le_of_ble_eq_true rfl) rfl) ?_
                refine y_if_eq (pc := 56) hF dX11_searches_56 70 rfl bi_r (fun zc56 => ?_) (fun zc56 => ?_)
                · replace zc56 := bi_0.mp zc56
                  skip
                  skip
                  refine y_iinc (pc := 70) (lv' := [(0, yR g 155), (1, yI (z : Int)), (2, yI x), (3, yI y), (4, yI rex), (5, yI v), (6, yI (u + 1))]) hF dX11_searches_70 6 rfl (by decide) rfl rfl ?_
                  refine y_goto (pc := 73) hF dX11_searches_73 21 rfl ?_
                  exact zh21 _ (by omega) υ (u + 1) rfl ⟨zI21.1, by omega, by rw [fr_up _ _ _ _ zI21.2.1.1, ← zI21.2.2.1, Int.zero_add]; simp [scF, zc44, zc56], zI21.2.2.2.1, by omega⟩
                · replace zc56 := bi_n0.mp zc56
                  have zpl := sWs.pl (by omega) zc56
                  have zuv : sIn w h u v = true := sIn_iff.mpr (by omega)
                  refine y_aload_n (pc := 59) hF dX11_searches_59 0 rfl ?_
                  refine y_iload_n (pc := 60) hF dX11_searches_60 1 rfl ?_
                  refine y_iload_n (pc := 61) hF dX11_searches_61 2 rfl ?_
                  refine y_iload_n (pc := 62) hF dX11_searches_62 3 rfl ?_
                  refine y_iload (pc := 63) hF dX11_searches_63 6 rfl ?_
                  refine y_iload (pc := 65) hF dX11_searches_65 5 rfl ?_
                  refine y_cv (y_rV (pc := 67) hF (tX11_asks z w h T S F P O s re fo ra tu we sh hn hz zA_υ zS_υ x y u v hi zpl zuv zI21.2.2.2.1 (by omega)) dX11_searches_67 (by omega) rfl rfl rfl w_1549 qX11_asks rfl ⟨Nat.le_of_ble_eq_true rfl, Nat.le_of_ble_eq_true rfl⟩ ⟨Nat.zero_le _, Nat.zero_le _⟩ (Nat.le_of_ble_eq_true rfl) rfl) rfl rfl (fun n' σ67 zp67 => ?_)
                  obtain ⟨zn67, zp67⟩ := zp67
                  have zn67 := zn67.symm
                  subst zn67
                  have zA_σ67 := zA_υ.fR hz zp67.1
                  have zS_σ67 := zS_υ.fR (by omega) zp67.1
                  have zo : qOk w h T s (σ67 155 19, σ67 155 20, σ67 155 21, σ67 155 22, σ67 155 23, σ67 155 24, σ67 155 25, σ67 155 26, σ67 155 18) := by rw [zp67.2]; exact sAs_ok hA.1 ⟨by omega, hs1.2⟩ hs5 zpl zuv zI21.2.2.2.1 (show υ 155 24 < 1000000 by omega)
                  have zn : σ67 155 24 ≤ υ 155 24 + 8 := by have zt := (sAs_so (w := w) (h := h) (T := T) (S := S) (s := s) (we := we) (sh := sh) (x := x) (y := y) (u := u) (v := v) (q := (υ 155 19, υ 155 20, υ 155 21, υ 155 22, υ 155 23, υ 155 24, υ 155 25, υ 155 26, υ 155 18)) hs5).2; rw [← zp67.2] at zt; exact zt
                  refine y_iinc (pc := 70) (lv' := [(0, yR g 155), (1, yI (z : Int)), (2, yI x), (3, yI y), (4, yI rex), (5, yI v), (6, yI (u + 1))]) hF dX11_searches_70 6 rfl (by decide) rfl rfl ?_
                  refine y_goto (pc := 73) hF dX11_searches_73 21 rfl ?_
                  exact zh21 _ (by omega) σ67 (u + 1) rfl ⟨zI21.1.tr zp67.1, by omega, by rw [fr_up _ _ _ _ zI21.2.1.1, ← zI21.2.2.1, Int.zero_add, zp67.2]; simp [scF, zc44, zc56], zo, by omega⟩
        exact zL21 _ τ (0) rfl ⟨zI7.1, by omega, rfl, zI7.2.2.2.1, by omega⟩
  exact zL7 _ σ1 (0) rfl ⟨zp1.1, by omega, zp1.2, by rw [zp1.2]; exact ⟨Or.inl ⟨rfl, rfl, rfl, rfl, rfl, rfl⟩, by decide⟩, by have := congrArg qSo zp1.2; exact Int.le_of_eq this⟩

theorem dX11_guided_0 : decode cX11_guided 0 = .ok (.aload_n 0, 1) := by decide +kernel
theorem dX11_guided_1 : decode cX11_guided 1 = .ok (.invokevirtual 185, 3) := by decide +kernel
theorem dX11_guided_4 : decode cX11_guided 4 = .ok (.iload_n 2, 1) := by decide +kernel
theorem dX11_guided_5 : decode cX11_guided 5 = .ok (.iconst 2, 1) := by decide +kernel
theorem dX11_guided_6 : decode cX11_guided 6 = .ok (.idiv, 1) := by decide +kernel
theorem dX11_guided_7 : decode cX11_guided 7 = .ok (.iload_n 3, 1) := by decide +kernel
theorem dX11_guided_8 : decode cX11_guided 8 = .ok (.iconst 2, 1) := by decide +kernel
theorem dX11_guided_9 : decode cX11_guided 9 = .ok (.idiv, 1) := by decide +kernel
theorem dX11_guided_10 : decode cX11_guided 10 = .ok (.invokestatic 56, 3) := by decide +kernel
theorem dX11_guided_13 : decode cX11_guided 13 = .ok (.istore 4, 2) := by decide +kernel
theorem dX11_guided_15 : decode cX11_guided 15 = .ok (.aload_n 0, 1) := by decide +kernel
theorem dX11_guided_16 : decode cX11_guided 16 = .ok (.getfield 19, 3) := by decide +kernel
theorem dX11_guided_19 : decode cX11_guided 19 = .ok (.iload_n 1, 1) := by decide +kernel
theorem dX11_guided_20 : decode cX11_guided 20 = .ok (.iconst 1, 1) := by decide +kernel
theorem dX11_guided_21 : decode cX11_guided 21 = .ok (.iadd, 1) := by decide +kernel
theorem dX11_guided_22 : decode cX11_guided 22 = .ok (.aaload, 1) := by decide +kernel
theorem dX11_guided_23 : decode cX11_guided 23 = .ok (.sipush 800, 3) := by decide +kernel
theorem dX11_guided_26 : decode cX11_guided 26 = .ok (.iload 4, 2) := by decide +kernel
theorem dX11_guided_28 : decode cX11_guided 28 = .ok (.iadd, 1) := by decide +kernel
theorem dX11_guided_29 : decode cX11_guided 29 = .ok (.iaload, 1) := by decide +kernel
theorem dX11_guided_30 : decode cX11_guided 30 = .ok (.ifCond .le 128, 3) := by decide +kernel
theorem dX11_guided_33 : decode cX11_guided 33 = .ok (.aload_n 0, 1) := by decide +kernel
theorem dX11_guided_34 : decode cX11_guided 34 = .ok (.getfield 19, 3) := by decide +kernel
theorem dX11_guided_37 : decode cX11_guided 37 = .ok (.iload_n 1, 1) := by decide +kernel
theorem dX11_guided_38 : decode cX11_guided 38 = .ok (.iconst 1, 1) := by decide +kernel
theorem dX11_guided_39 : decode cX11_guided 39 = .ok (.iadd, 1) := by decide +kernel
theorem dX11_guided_40 : decode cX11_guided 40 = .ok (.aaload, 1) := by decide +kernel
theorem dX11_guided_41 : decode cX11_guided 41 = .ok (.sipush 1200, 3) := by decide +kernel
theorem dX11_guided_44 : decode cX11_guided 44 = .ok (.iload 4, 2) := by decide +kernel
theorem dX11_guided_46 : decode cX11_guided 46 = .ok (.iadd, 1) := by decide +kernel
theorem dX11_guided_47 : decode cX11_guided 47 = .ok (.iaload, 1) := by decide +kernel
theorem dX11_guided_48 : decode cX11_guided 48 = .ok (.bipush 20, 2) := by decide +kernel
theorem dX11_guided_50 : decode cX11_guided 50 = .ok (.irem, 1) := by decide +kernel
theorem dX11_guided_51 : decode cX11_guided 51 = .ok (.istore 5, 2) := by decide +kernel
theorem dX11_guided_53 : decode cX11_guided 53 = .ok (.aload_n 0, 1) := by decide +kernel
theorem dX11_guided_54 : decode cX11_guided 54 = .ok (.getfield 19, 3) := by decide +kernel
theorem dX11_guided_57 : decode cX11_guided 57 = .ok (.iload_n 1, 1) := by decide +kernel
theorem dX11_guided_58 : decode cX11_guided 58 = .ok (.iconst 1, 1) := by decide +kernel
theorem dX11_guided_59 : decode cX11_guided 59 = .ok (.iadd, 1) := by decide +kernel
theorem dX11_guided_60 : decode cX11_guided 60 = .ok (.aaload, 1) := by decide +kernel
theorem dX11_guided_61 : decode cX11_guided 61 = .ok (.sipush 1200, 3) := by decide +kernel
theorem dX11_guided_64 : decode cX11_guided 64 = .ok (.iload 4, 2) := by decide +kernel
theorem dX11_guided_66 : decode cX11_guided 66 = .ok (.iadd, 1) := by decide +kernel
theorem dX11_guided_67 : decode cX11_guided 67 = .ok (.iaload, 1) := by decide +kernel
theorem dX11_guided_68 : decode cX11_guided 68 = .ok (.bipush 20, 2) := by decide +kernel
theorem dX11_guided_70 : decode cX11_guided 70 = .ok (.idiv, 1) := by decide +kernel
theorem dX11_guided_71 : decode cX11_guided 71 = .ok (.istore 6, 2) := by decide +kernel
theorem dX11_guided_73 : decode cX11_guided 73 = .ok (.iconst 2, 1) := by decide +kernel
theorem dX11_guided_74 : decode cX11_guided 74 = .ok (.iload 6, 2) := by decide +kernel
theorem dX11_guided_76 : decode cX11_guided 76 = .ok (.imul, 1) := by decide +kernel
theorem dX11_guided_77 : decode cX11_guided 77 = .ok (.iconst 1, 1) := by decide +kernel
theorem dX11_guided_78 : decode cX11_guided 78 = .ok (.isub, 1) := by decide +kernel
theorem dX11_guided_79 : decode cX11_guided 79 = .ok (.istore 7, 2) := by decide +kernel
theorem dX11_guided_81 : decode cX11_guided 81 = .ok (.iload 7, 2) := by decide +kernel
theorem dX11_guided_83 : decode cX11_guided 83 = .ok (.iconst 2, 1) := by decide +kernel
theorem dX11_guided_84 : decode cX11_guided 84 = .ok (.iload 6, 2) := by decide +kernel
theorem dX11_guided_86 : decode cX11_guided 86 = .ok (.imul, 1) := by decide +kernel
theorem dX11_guided_87 : decode cX11_guided 87 = .ok (.iconst 2, 1) := by decide +kernel
theorem dX11_guided_88 : decode cX11_guided 88 = .ok (.iadd, 1) := by decide +kernel
theorem dX11_guided_89 : decode cX11_guided 89 = .ok (.if_icmp .gt 69, 3) := by decide +kernel
theorem dX11_guided_92 : decode cX11_guided 92 = .ok (.iconst 2, 1) := by decide +kernel
theorem dX11_guided_93 : decode cX11_guided 93 = .ok (.iload 5, 2) := by decide +kernel
theorem dX11_guided_95 : decode cX11_guided 95 = .ok (.imul, 1) := by decide +kernel
theorem dX11_guided_96 : decode cX11_guided 96 = .ok (.iconst 1, 1) := by decide +kernel
theorem dX11_guided_97 : decode cX11_guided 97 = .ok (.isub, 1) := by decide +kernel
theorem dX11_guided_98 : decode cX11_guided 98 = .ok (.istore 8, 2) := by decide +kernel
theorem dX11_guided_100 : decode cX11_guided 100 = .ok (.iload 8, 2) := by decide +kernel
theorem dX11_guided_102 : decode cX11_guided 102 = .ok (.iconst 2, 1) := by decide +kernel
theorem dX11_guided_103 : decode cX11_guided 103 = .ok (.iload 5, 2) := by decide +kernel
theorem dX11_guided_105 : decode cX11_guided 105 = .ok (.imul, 1) := by decide +kernel
theorem dX11_guided_106 : decode cX11_guided 106 = .ok (.iconst 2, 1) := by decide +kernel
theorem dX11_guided_107 : decode cX11_guided 107 = .ok (.iadd, 1) := by decide +kernel
theorem dX11_guided_108 : decode cX11_guided 108 = .ok (.if_icmp .gt 44, 3) := by decide +kernel
theorem dX11_guided_111 : decode cX11_guided 111 = .ok (.aload_n 0, 1) := by decide +kernel
theorem dX11_guided_112 : decode cX11_guided 112 = .ok (.iload_n 1, 1) := by decide +kernel
theorem dX11_guided_113 : decode cX11_guided 113 = .ok (.iload 8, 2) := by decide +kernel
theorem dX11_guided_115 : decode cX11_guided 115 = .ok (.iload 7, 2) := by decide +kernel
theorem dX11_guided_117 : decode cX11_guided 117 = .ok (.invokevirtual 72, 3) := by decide +kernel
theorem dX11_guided_120 : decode cX11_guided 120 = .ok (.ifCond .eq 26, 3) := by decide +kernel
theorem dX11_guided_123 : decode cX11_guided 123 = .ok (.aload_n 0, 1) := by decide +kernel
theorem dX11_guided_124 : decode cX11_guided 124 = .ok (.iload_n 1, 1) := by decide +kernel
theorem dX11_guided_125 : decode cX11_guided 125 = .ok (.iload 8, 2) := by decide +kernel
theorem dX11_guided_127 : decode cX11_guided 127 = .ok (.iload 7, 2) := by decide +kernel
theorem dX11_guided_129 : decode cX11_guided 129 = .ok (.invokevirtual 192, 3) := by decide +kernel
theorem dX11_guided_132 : decode cX11_guided 132 = .ok (.ifCond .eq 14, 3) := by decide +kernel
theorem dX11_guided_135 : decode cX11_guided 135 = .ok (.aload_n 0, 1) := by decide +kernel
theorem dX11_guided_136 : decode cX11_guided 136 = .ok (.iload_n 1, 1) := by decide +kernel
theorem dX11_guided_137 : decode cX11_guided 137 = .ok (.iload_n 2, 1) := by decide +kernel
theorem dX11_guided_138 : decode cX11_guided 138 = .ok (.iload_n 3, 1) := by decide +kernel
theorem dX11_guided_139 : decode cX11_guided 139 = .ok (.iload 8, 2) := by decide +kernel
theorem dX11_guided_141 : decode cX11_guided 141 = .ok (.iload 7, 2) := by decide +kernel
theorem dX11_guided_143 : decode cX11_guided 143 = .ok (.invokevirtual 195, 3) := by decide +kernel
theorem dX11_guided_146 : decode cX11_guided 146 = .ok (.iinc 8 1, 3) := by decide +kernel
theorem dX11_guided_149 : decode cX11_guided 149 = .ok (.goto (-49), 3) := by decide +kernel
theorem dX11_guided_152 : decode cX11_guided 152 = .ok (.iinc 7 1, 3) := by decide +kernel
theorem dX11_guided_155 : decode cX11_guided 155 = .ok (.goto (-74), 3) := by decide +kernel
theorem dX11_guided_158 : decode cX11_guided 158 = .ok (.aload_n 0, 1) := by decide +kernel
theorem dX11_guided_159 : decode cX11_guided 159 = .ok (.getfield 167, 3) := by decide +kernel
theorem dX11_guided_162 : decode cX11_guided 162 = .ok (.ifCond .ne 16, 3) := by decide +kernel
theorem dX11_guided_165 : decode cX11_guided 165 = .ok (.aload_n 0, 1) := by decide +kernel
theorem dX11_guided_166 : decode cX11_guided 166 = .ok (.iload_n 1, 1) := by decide +kernel
theorem dX11_guided_167 : decode cX11_guided 167 = .ok (.iload_n 2, 1) := by decide +kernel
theorem dX11_guided_168 : decode cX11_guided 168 = .ok (.iload_n 3, 1) := by decide +kernel
theorem dX11_guided_169 : decode cX11_guided 169 = .ok (.aload_n 0, 1) := by decide +kernel
theorem dX11_guided_170 : decode cX11_guided 170 = .ok (.getfield 37, 3) := by decide +kernel
theorem dX11_guided_173 : decode cX11_guided 173 = .ok (.iconst 1, 1) := by decide +kernel
theorem dX11_guided_174 : decode cX11_guided 174 = .ok (.iaload, 1) := by decide +kernel
theorem dX11_guided_175 : decode cX11_guided 175 = .ok (.invokevirtual 199, 3) := by decide +kernel
theorem dX11_guided_178 : decode cX11_guided 178 = .ok (.return_, 1) := by decide +kernel
set_option maxHeartbeats 4000000 in
set_option maxRecDepth 100000 in
theorem tX11_guided {l : Launch} {g : yG} {n : Nat} {σ : yM} (z : Nat) (w h : Int) (T S F P O : Int → Int → Int) (w2 h2 : Int) (T2 S2 F2 P2 O2 : Int → Int → Int) (s re fo ra tu we sh : Int) (hn : 172 ≤ n) (hz : z < 3) (hz2 : z < 2) (hA : rM σ z w h T S F P O) (hA2 : rM σ (z + 1) w2 h2 T2 S2 F2 P2 O2) (hS : rS σ 166 s re fo ra tu we sh) (x y : Int) (hi : sIn w h x y = true) (hi2 : sIn w2 h2 (x / 2) (y / 2) = true) : yMet l g yX11_guided cX11_guided 9 none (rmL 7) [yR g 155, yI (z : Int), yI x, yI y] (SC g) n σ (SC g) (yPv (fun n' σ' => n' = n ∧ fR 16 26 σ σ' ∧ (σ' 155 19, σ' 155 20, σ' 155 21, σ' 155 22, σ' 155 23, σ' 155 24, σ' 155 25, σ' 155 26, σ' 155 18) = sGu w h T S F s re fo tu we sh x y (F2 (x / 2) (y / 2)) (P2 (x / 2) (y / 2)) ∧ qOk w h T s (σ' 155 19, σ' 155 20, σ' 155 21, σ' 155 22, σ' 155 23, σ' 155 24, σ' 155 25, σ' 155 26, σ' 155 18))) := by
  obtain ⟨hw1, hw2, hw3, hw4⟩ := id hA.1.1
  obtain ⟨hs1, hs2, hs3, hs4, hs5, hs6, hs7⟩ := id hS.2
  have zi := sIn_iff.mp hi
  have zi2 := sIn_iff.mp hi2
  have zm2 := hA2.2.2.2 (x / 2) (y / 2) zi2.1 zi2.2.1 zi2.2.2.1 zi2.2.2.2
  have zo2 := hA2.1.2 (x / 2) (y / 2) zi2.1 zi2.2.1 zi2.2.2.1 zi2.2.2.2
  have zw2 := hA2.1.1
  refine y_start (by decide) (Nat.le_of_ble_eq_true rfl) (fun X0 hF => ?_)
  show yV X0 g 9 (yQ X0 g (SC g) (yPv (fun n' σ' => n' = n ∧ fR 16 26 σ σ' ∧ (σ' 155 19, σ' 155 20, σ' 155 21, σ' 155 22, σ' 155 23, σ' 155 24, σ' 155 25, σ' 155 26, σ' 155 18) = sGu w h T S F s re fo tu we sh x y (F2 (x / 2) (y / 2)) (P2 (x / 2) (y / 2)) ∧ qOk w h T s (σ' 155 19, σ' 155 20, σ' 155 21, σ' 155 22, σ' 155 23, σ' 155 24, σ' 155 25, σ' 155 26, σ' 155 18))) (rmL 7)) (SC g) n σ 0 0 0 [(0, yR g 155), (1, yI (z : Int)), (2, yI x), (3, yI y)] []
  refine y_aload_n (pc := 0) hF dX11_guided_0 0 rfl ?_
  refine y_cv (y_rV (pc := 1) hF (tX11_begins hn) dX11_guided_1 (by omega) rfl rfl rfl w_1537 qX11_begins rfl ⟨Nat.le_of_ble_eq_true rfl, Nat.le_of_ble_eq_true rfl⟩ ⟨Nat.zero_le _, Nat.zero_le _⟩ (Nat.le_of_ble_eq_true rfl) rfl) rfl rfl (fun n' σ1 zp1 => ?_)
  obtain ⟨zn1, zp1⟩ := zp1
  have zn1 := zn1.symm
  subst zn1
  have zA_σ1 := hA.fR hz zp1.1
  have zS_σ1 := hS.fR (by omega) zp1.1
  have zz1 : qOk w h T s (σ1 155 19, σ1 155 20, σ1 155 21, σ1 155 22, σ1 155 23, σ1 155 24, σ1 155 25, σ1 155 26, σ1 155 18) := by rw [zp1.2]; exact ⟨Or.inl ⟨rfl, rfl, rfl, rfl, rfl, rfl⟩, by decide⟩
  have zz2 : σ1 155 24 = 0 := congrArg qSo zp1.2
  refine y_iload_n (pc := 4) hF dX11_guided_4 2 rfl ?_
  refine y_iconst (pc := 5) hF dX11_guided_5 ?_
  refine y_idiv (pc := 6) hF dX11_guided_6 (by omega) (by omega) (by omega) ?_
  rw [show Int.tdiv x 2 = x / 2 from (y_quo (by omega))]
  refine y_iload_n (pc := 7) hF dX11_guided_7 3 rfl ?_
  refine y_iconst (pc := 8) hF dX11_guided_8 ?_
  refine y_idiv (pc := 9) hF dX11_guided_9 (by omega) (by omega) (by omega) ?_
  rw [show Int.tdiv y 2 = y / 2 from (y_quo (by omega))]
  refine y_cp (y_rS (pc := 10) (As := [yI (x / 2), yI (y / 2)]) (kk := 0) hF (tX11_at (x / 2) (y / 2)) dX11_guided_10 w_1236 qX11_at rfl ⟨Nat.le_of_ble_eq_true rfl, Nat.le_of_ble_eq_true rfl⟩ ⟨Nat.zero_le _, Nat.zero_le _⟩ (Nat.le_of_ble_eq_true rfl) rfl) ?_
  refine y_istore (pc := 13) (lv' := [(0, yR g 155), (1, yI (z : Int)), (2, yI x), (3, yI y), (4, yI (20 * (y / 2) + (x / 2)))]) hF dX11_guided_13 (by decide) rfl rfl ?_
  have zJ158 : ∀ (τ9 : yM), fR 16 26 σ τ9 ∧ (τ9 155 19, τ9 155 20, τ9 155 21, τ9 155 22, τ9 155 23, τ9 155 24, τ9 155 25, τ9 155 26, τ9 155 18) = (if 0 < F2 (x / 2) (y / 2) then fr2 (sgF w h T S F s fo tu we sh x y) (2 * (P2 (x / 2) (y / 2) % 20) - 1) 4 (2 * (P2 (x / 2) (y / 2) / 20) - 1) 4 q0 else q0) ∧ qOk w h T s (τ9 155 19, τ9 155 20, τ9 155 21, τ9 155 22, τ9 155 23, τ9 155 24, τ9 155 25, τ9 155 26, τ9 155 18) → yV X0 g 9 (yQ X0 g (SC g) (yPv (fun n' σ' => n' = n ∧ fR 16 26 σ σ' ∧ (σ' 155 19, σ' 155 20, σ' 155 21, σ' 155 22, σ' 155 23, σ' 155 24, σ' 155 25, σ' 155 26, σ' 155 18) = sGu w h T S F s re fo tu we sh x y (F2 (x / 2) (y / 2)) (P2 (x / 2) (y / 2)) ∧ qOk w h T s (σ' 155 19, σ' 155 20, σ' 155 21, σ' 155 22, σ' 155 23, σ' 155 24, σ' 155 25, σ' 155 26, σ' 155 18))) (rmL 7)) (SC g) n τ9 0 0 158 [(0, yR g 155), (1, yI (z : Int)), (2, yI x), (3, yI y), (4, yI (20 * (y / 2) + (x / 2)))] [] := by
    intro τ9  zj
    have zA_τ9 := hA.fR hz zj.1
    have zS_τ9 := hS.fR (by omega) zj.1
    have zqs : qSo (τ9 155 19, τ9 155 20, τ9 155 21, τ9 155 22, τ9 155 23, τ9 155 24, τ9 155 25, τ9 155 26, τ9 155 18) = τ9 155 24 := rfl
    have zr24 : 0 ≤ τ9 155 24 ∧ τ9 155 24 ≤ 1000000000 := by obtain ⟨zk1, zk2⟩ := zj.2.2; rcases zk1 with zk | zk; (omega); (omega)
    refine y_aload_n (pc := 158) hF dX11_guided_158 0 rfl ?_
    refine y_get (pc := 159) (ci := 11) hF dX11_guided_159 (by omega) rfl rfl rfl iX11 24 (by decide) w_1271 rfl ?_
    refine y_if_ne (pc := 162) hF dX11_guided_162 178 rfl (by omega) (fun zc162 => ?_) (fun zc162 => ?_)
    · skip
      exact y_vret (pc := 178) hF dX11_guided_178 (Nat.zero_le _) (Nat.zero_le _) ⟨rfl, rfl, zj.1, by unfold sGu; simp only; rw [← zj.2.1, if_neg (by rw [zqs]; exact zc162)], zj.2.2⟩
    · skip
      refine y_aload_n (pc := 165) hF dX11_guided_165 0 rfl ?_
      refine y_iload_n (pc := 166) hF dX11_guided_166 1 rfl ?_
      refine y_iload_n (pc := 167) hF dX11_guided_167 2 rfl ?_
      refine y_iload_n (pc := 168) hF dX11_guided_168 3 rfl ?_
      refine y_aload_n (pc := 169) hF dX11_guided_169 0 rfl ?_
      refine y_get (pc := 170) (ci := 11) hF dX11_guided_170 (by omega) rfl rfl rfl iX11 10 (by decide) w_1257 rfl ?_
      refine y_iconst (pc := 173) hF dX11_guided_173 ?_
      refine y_iaload (pc := 174) hF dX11_guided_174 (by omega) rfl (by omega) (by decide) ?_
      rw [show τ9 166 1 = re from zS_τ9.1.2.1]
      refine y_cv (y_rV (pc := 175) hF (tX11_searches z w h T S F P O s re fo ra tu we sh hn hz zA_τ9 zS_τ9 x y hi re hs2) dX11_guided_175 (by omega) rfl rfl rfl w_1576 qX11_searches rfl ⟨Nat.le_of_ble_eq_true rfl, Nat.le_of_ble_eq_true rfl⟩ ⟨Nat.zero_le _, Nat.zero_le _⟩ (Nat.le_of_ble_eq_true rfl) rfl) rfl rfl (fun n' σ175 zp175 => ?_)
      obtain ⟨zn175, zp175⟩ := zp175
      have zn175 := zn175.symm
      subst zn175
      have zA_σ175 := zA_τ9.fR hz zp175.1
      have zS_σ175 := zS_τ9.fR (by omega) zp175.1
      exact y_vret (pc := 178) hF dX11_guided_178 (Nat.zero_le _) (Nat.zero_le _) ⟨rfl, rfl, zj.1.tr zp175.1, by unfold sGu; simp only; rw [← zj.2.1, if_pos (by rw [zqs]; exact zc162)]; exact zp175.2.1, zp175.2.2⟩
  refine y_aload_n (pc := 15) hF dX11_guided_15 0 rfl ?_
  refine y_get (pc := 16) (ci := 11) hF dX11_guided_16 (by omega) rfl rfl rfl iX11 2 (by decide) w_1249 rfl ?_
  refine y_iload_n (pc := 19) hF dX11_guided_19 1 rfl ?_
  refine y_iconst (pc := 20) hF dX11_guided_20 ?_
  refine y_iadd (pc := 21) hF dX11_guided_21 ?_
  refine y_aaM1 (pc := 22) (z := z) hF dX11_guided_22 hn rfl hz2 ?_
  refine y_sipush (pc := 23) hF dX11_guided_23 (by decide) ?_
  refine y_iload (pc := 26) hF dX11_guided_26 4 rfl ?_
  refine y_iadd (pc := 28) hF dX11_guided_28 ?_
  refine y_iaload (pc := 29) hF dX11_guided_29 (by omega) (sc_lay1 hz2 g) (by omega) (by decide) ?_
  rw [show σ1 (159 + z) (800 + (20 * (y / 2) + (x / 2))) = F2 (x / 2) (y / 2) from (by rw [zp1.1.cell (by omega), show 159 + z = 158 + (z + 1) by omega]; exact zm2.2.2.1)]
  refine y_if_le (pc := 30) hF dX11_guided_30 158 rfl (by omega) (fun zc30 => ?_) (fun zc30 => ?_)
  · skip
    exact zJ158 σ1 ⟨zp1.1, by rw [if_neg (by omega)]; exact zp1.2, zz1⟩
  · skip
    have zpp := zo2.2.2.2.2.2.1.mp (by omega)
    have zpb : P2 (x / 2) (y / 2) % 20 < w2 ∧ P2 (x / 2) (y / 2) / 20 < h2 := by rcases zo2.2.2.2.1 with zq | zq; (omega); (exact ⟨zq.2.1, zq.2.2⟩)
    refine y_aload_n (pc := 33) hF dX11_guided_33 0 rfl ?_
    refine y_get (pc := 34) (ci := 11) hF dX11_guided_34 (by omega) rfl rfl rfl iX11 2 (by decide) w_1249 rfl ?_
    refine y_iload_n (pc := 37) hF dX11_guided_37 1 rfl ?_
    refine y_iconst (pc := 38) hF dX11_guided_38 ?_
    refine y_iadd (pc := 39) hF dX11_guided_39 ?_
    refine y_aaM1 (pc := 40) (z := z) hF dX11_guided_40 hn rfl hz2 ?_
    refine y_sipush (pc := 41) hF dX11_guided_41 (by decide) ?_
    refine y_iload (pc := 44) hF dX11_guided_44 4 rfl ?_
    refine y_iadd (pc := 46) hF dX11_guided_46 ?_
    refine y_iaload (pc := 47) hF dX11_guided_47 (by omega) (sc_lay1 hz2 g) (by omega) (by decide) ?_
    rw [show σ1 (159 + z) (1200 + (20 * (y / 2) + (x / 2))) = P2 (x / 2) (y / 2) from (by rw [zp1.1.cell (by omega), show 159 + z = 158 + (z + 1) by omega]; exact zm2.2.2.2.1)]
    refine y_bipush (pc := 48) hF dX11_guided_48 (by decide) ?_
    refine y_irem (pc := 50) hF dX11_guided_50 (by omega) (by omega) (by omega) ?_
    rw [show (P2 (x / 2) (y / 2)) - Int.tdiv (P2 (x / 2) (y / 2)) 20 * 20 = P2 (x / 2) (y / 2) % 20 from (y_rem (by omega) (by decide))]
    refine y_istore (pc := 51) (lv' := [(0, yR g 155), (1, yI (z : Int)), (2, yI x), (3, yI y), (4, yI (20 * (y / 2) + (x / 2))), (5, yI (P2 (x / 2) (y / 2) % 20))]) hF dX11_guided_51 (by decide) rfl rfl ?_
    refine y_aload_n (pc := 53) hF dX11_guided_53 0 rfl ?_
    refine y_get (pc := 54) (ci := 11) hF dX11_guided_54 (by omega) rfl rfl rfl iX11 2 (by decide) w_1249 rfl ?_
    refine y_iload_n (pc := 57) hF dX11_guided_57 1 rfl ?_
    refine y_iconst (pc := 58) hF dX11_guided_58 ?_
    refine y_iadd (pc := 59) hF dX11_guided_59 ?_
    refine y_aaM1 (pc := 60) (z := z) hF dX11_guided_60 hn rfl hz2 ?_
    refine y_sipush (pc := 61) hF dX11_guided_61 (by decide) ?_
    refine y_iload (pc := 64) hF dX11_guided_64 4 rfl ?_
    refine y_iadd (pc := 66) hF dX11_guided_66 ?_
    refine y_iaload (pc := 67) hF dX11_guided_67 (by omega) (sc_lay1 hz2 g) (by omega) (by decide) ?_
    rw [show σ1 (159 + z) (1200 + (20 * (y / 2) + (x / 2))) = P2 (x / 2) (y / 2) from (by rw [zp1.1.cell (by omega), show 159 + z = 158 + (z + 1) by omega]; exact zm2.2.2.2.1)]
    refine y_bipush (pc := 68) hF dX11_guided_68 (by decide) ?_
    refine y_idiv (pc := 70) hF dX11_guided_70 (by omega) (by omega) (by omega) ?_
    rw [show Int.tdiv (P2 (x / 2) (y / 2)) 20 = P2 (x / 2) (y / 2) / 20 from (y_quo (by omega))]
    refine y_istore (pc := 71) (lv' := [(0, yR g 155), (1, yI (z : Int)), (2, yI x), (3, yI y), (4, yI (20 * (y / 2) + (x / 2))), (5, yI (P2 (x / 2) (y / 2) % 20)), (6, yI (P2 (x / 2) (y / 2) / 20))]) hF dX11_guided_71 (by decide) rfl rfl ?_
    refine y_iconst (pc := 73) hF dX11_guided_73 ?_
    refine y_iload (pc := 74) hF dX11_guided_74 6 rfl ?_
    refine y_imul (pc := 76) hF dX11_guided_76 ?_
    refine y_iconst (pc := 77) hF dX11_guided_77 ?_
    refine y_isub (pc := 78) hF dX11_guided_78 ?_
    refine y_istore (pc := 79) (lv' := [(0, yR g 155), (1, yI (z : Int)), (2, yI x), (3, yI y), (4, yI (20 * (y / 2) + (x / 2))), (5, yI (P2 (x / 2) (y / 2) % 20)), (6, yI (P2 (x / 2) (y / 2) / 20)), (7, yI ((2 * (P2 (x / 2) (y / 2) / 20)) - 1))]) hF dX11_guided_79 (by decide) rfl rfl ?_
    have zL81 : ∀ (N : Nat) (τ : yM) (v : Int), N = (2 * (P2 (x / 2) (y / 2) / 20) + 3 - v).toNat → (fR 16 26 σ τ ∧ (2 * (P2 (x / 2) (y / 2) / 20) - 1 ≤ v ∧ v ≤ 2 * (P2 (x / 2) (y / 2) / 20) + 3) ∧ (τ 155 19, τ 155 20, τ 155 21, τ 155 22, τ 155 23, τ 155 24, τ 155 25, τ 155 26, τ 155 18) = fr (fun q v => fr (fun q u => sgF w h T S F s fo tu we sh x y q u v) (2 * (P2 (x / 2) (y / 2) % 20) - 1) 4 q) (2 * (P2 (x / 2) (y / 2) / 20) - 1) (v - (2 * (P2 (x / 2) (y / 2) / 20) - 1)).toNat q0 ∧ qOk w h T s (τ 155 19, τ 155 20, τ 155 21, τ 155 22, τ 155 23, τ 155 24, τ 155 25, τ 155 26, τ 155 18) ∧ τ 155 24 ≤ 32 * (v - (2 * (P2 (x / 2) (y / 2) / 20) - 1))) → yV X0 g 9 (yQ X0 g (SC g) (yPv (fun n' σ' => n' = n ∧ fR 16 26 σ σ' ∧ (σ' 155 19, σ' 155 20, σ' 155 21, σ' 155 22, σ' 155 23, σ' 155 24, σ' 155 25, σ' 155 26, σ' 155 18) = sGu w h T S F s re fo tu we sh x y (F2 (x / 2) (y / 2)) (P2 (x / 2) (y / 2)) ∧ qOk w h T s (σ' 155 19, σ' 155 20, σ' 155 21, σ' 155 22, σ' 155 23, σ' 155 24, σ' 155 25, σ' 155 26, σ' 155 18))) (rmL 7)) (SC g) n τ 0 0 81 [(0, yR g 155), (1, yI (z : Int)), (2, yI x), (3, yI y), (4, yI (20 * (y / 2) + (x / 2))), (5, yI (P2 (x / 2) (y / 2) % 20)), (6, yI (P2 (x / 2) (y / 2) / 20)), (7, yI v)] [] := by
      intro N
      induction N using Nat.strongRecOn with
      | ind N zh81 =>
        intro τ  v  zN81 zI81
        have zA_τ := hA.fR hz zI81.1
        have zS_τ := hS.fR (by omega) zI81.1
        refine y_iload (pc := 81) hF dX11_guided_81 7 rfl ?_
        refine y_iconst (pc := 83) hF dX11_guided_83 ?_
        refine y_iload (pc := 84) hF dX11_guided_84 6 rfl ?_
        refine y_imul (pc := 86) hF dX11_guided_86 ?_
        refine y_iconst (pc := 87) hF dX11_guided_87 ?_
        refine y_iadd (pc := 88) hF dX11_guided_88 ?_
        refine y_icmp_gt (pc := 89) hF dX11_guided_89 158 rfl (by omega) (by omega) (fun zc89 => ?_) (fun zc89 => ?_)
        · skip
          refine y_sub [0, 1, 2, 3, 4] rfl ?_
          exact zJ158 τ ⟨zI81.1, by rw [if_pos (by omega), zI81.2.2.1, show v - (2 * (P2 (x / 2) (y / 2) / 20) - 1) = 4 by omega]; rfl, zI81.2.2.2.1⟩
        · skip
          refine y_iconst (pc := 92) hF dX11_guided_92 ?_
          refine y_iload (pc := 93) hF dX11_guided_93 5 rfl ?_
          refine y_imul (pc := 95) hF dX11_guided_95 ?_
          refine y_iconst (pc := 96) hF dX11_guided_96 ?_
          refine y_isub (pc := 97) hF dX11_guided_97 ?_
          refine y_istore (pc := 98) (lv' := [(0, yR g 155), (1, yI (z : Int)), (2, yI x), (3, yI y), (4, yI (20 * (y / 2) + (x / 2))), (5, yI (P2 (x / 2) (y / 2) % 20)), (6, yI (P2 (x / 2) (y / 2) / 20)), (7, yI v), (8, yI ((2 * (P2 (x / 2) (y / 2) % 20)) - 1))]) hF dX11_guided_98 (by decide) rfl rfl ?_
          have zL100 : ∀ (N : Nat) (υ : yM) (u : Int), N = (2 * (P2 (x / 2) (y / 2) % 20) + 3 - u).toNat → (fR 16 26 σ υ ∧ (2 * (P2 (x / 2) (y / 2) % 20) - 1 ≤ u ∧ u ≤ 2 * (P2 (x / 2) (y / 2) % 20) + 3) ∧ (υ 155 19, υ 155 20, υ 155 21, υ 155 22, υ 155 23, υ 155 24, υ 155 25, υ 155 26, υ 155 18) = fr (fun q u => sgF w h T S F s fo tu we sh x y q u v) (2 * (P2 (x / 2) (y / 2) % 20) - 1) (u - (2 * (P2 (x / 2) (y / 2) % 20) - 1)).toNat (τ 155 19, τ 155 20, τ 155 21, τ 155 22, τ 155 23, τ 155 24, τ 155 25, τ 155 26, τ 155 18) ∧ qOk w h T s (υ 155 19, υ 155 20, υ 155 21, υ 155 22, υ 155 23, υ 155 24, υ 155 25, υ 155 26, υ 155 18) ∧ υ 155 24 ≤ τ 155 24 + 8 * (u - (2 * (P2 (x / 2) (y / 2) % 20) - 1))) → yV X0 g 9 (yQ X0 g (SC g) (yPv (fun n' σ' => n' = n ∧ fR 16 26 σ σ' ∧ (σ' 155 19, σ' 155 20, σ' 155 21, σ' 155 22, σ' 155 23, σ' 155 24, σ' 155 25, σ' 155 26, σ' 155 18) = sGu w h T S F s re fo tu we sh x y (F2 (x / 2) (y / 2)) (P2 (x / 2) (y / 2)) ∧ qOk w h T s (σ' 155 19, σ' 155 20, σ' 155 21, σ' 155 22, σ' 155 23, σ' 155 24, σ' 155 25, σ' 155 26, σ' 155 18))) (rmL 7)) (SC g) n υ 0 0 100 [(0, yR g 155), (1, yI (z : Int)), (2, yI x), (3, yI y), (4, yI (20 * (y / 2) + (x / 2))), (5, yI (P2 (x / 2) (y / 2) % 20)), (6, yI (P2 (x / 2) (y / 2) / 20)), (7, yI v), (8, yI u)] [] := by
            intro N
            induction N using Nat.strongRecOn with
            | ind N zh100 =>
              intro υ  u  zN100 zI100
              have zA_υ := hA.fR hz zI100.1
              have zS_υ := hS.fR (by omega) zI100.1
              refine y_iload (pc := 100) hF dX11_guided_100 8 rfl ?_
              refine y_iconst (pc := 102) hF dX11_guided_102 ?_
              refine y_iload (pc := 103) hF dX11_guided_103 5 rfl ?_
              refine y_imul (pc := 105) hF dX11_guided_105 ?_
              refine y_iconst (pc := 106) hF dX11_guided_106 ?_
              refine y_iadd (pc := 107) hF dX11_guided_107 ?_
              refine y_icmp_gt (pc := 108) hF dX11_guided_108 152 rfl (by omega) (by omega) (fun zc108 => ?_) (fun zc108 => ?_)
              · skip
                refine y_iinc (pc := 152) (lv' := [(0, yR g 155), (1, yI (z : Int)), (2, yI x), (3, yI y), (4, yI (20 * (y / 2) + (x / 2))), (5, yI (P2 (x / 2) (y / 2) % 20)), (6, yI (P2 (x / 2) (y / 2) / 20)), (7, yI (v + 1)), (8, yI u)]) hF dX11_guided_152 7 rfl (by decide) rfl rfl ?_
                refine y_goto (pc := 155) hF dX11_guided_155 81 rfl ?_
                refine y_sub [0, 1, 2, 3, 4, 5, 6, 7] rfl ?_
                exact zh81 _ (by omega) υ (v + 1) rfl ⟨zI100.1, by omega, by rw [fr_up' _ _ zI81.2.1.1, ← zI81.2.2.1, zI100.2.2.1, show u - (2 * (P2 (x / 2) (y / 2) % 20) - 1) = 4 by omega]; rfl, zI100.2.2.2.1, by omega⟩
              · skip
                refine y_aload_n (pc := 111) hF dX11_guided_111 0 rfl ?_
                refine y_iload_n (pc := 112) hF dX11_guided_112 1 rfl ?_
                refine y_iload (pc := 113) hF dX11_guided_113 8 rfl ?_
                refine y_iload (pc := 115) hF dX11_guided_115 7 rfl ?_
                refine y_cp (y_rV (pc := 117) hF (tX11_has z w h T S F P O hn hz zA_υ u v (by omega) (by omega)) dX11_guided_117 (by omega) rfl rfl rfl w_1444 qX11_has rfl ⟨Nat.le_of_ble_eq_true rfl, Nat.le_of_ble_eq_true rfl⟩ ⟨Nat.zero_le _, Nat.zero_le _⟩ (Nat.le_of_ble_eq_true rfl) rfl) ?_
                refine y_if_eq (pc := 120) hF dX11_guided_120 146 rfl bi_r (fun zc120 => ?_) (fun zc120 => ?_)
                · replace zc120 := bi_0.mp zc120
                  skip
                  skip
                  refine y_iinc (pc := 146) (lv' := [(0, yR g 155), (1, yI (z : Int)), (2, yI x), (3, yI y), (4, yI (20 * (y / 2) + (x / 2))), (5, yI (P2 (x / 2) (y / 2) % 20)), (6, yI (P2 (x / 2) (y / 2) / 20)), (7, yI v), (8, yI (u + 1))]) hF dX11_guided_146 8 rfl (by decide) rfl rfl ?_
                  refine y_goto (pc := 149) hF dX11_guided_149 100 rfl ?_
                  exact zh100 _ (by omega) υ (u + 1) rfl ⟨zI100.1, by omega, by rw [fr_up' _ _ zI100.2.1.1, ← zI100.2.2.1]; simp [sgF, zc120], zI100.2.2.2.1, by omega⟩
                · replace zc120 := bi_n0.mp zc120
                  have zuv := zc120
                  refine y_aload_n (pc := 123) hF dX11_guided_123 0 rfl ?_
                  refine y_iload_n (pc := 124) hF dX11_guided_124 1 rfl ?_
                  refine y_iload (pc := 125) hF dX11_guided_125 8 rfl ?_
                  refine y_iload (pc := 127) hF dX11_guided_127 7 rfl ?_
                  refine y_cp (y_rV (pc := 129) hF (tX11_isWholeSource z w h T S F P O s re fo ra tu we sh hn hz zA_υ zS_υ u v (by omega) (by omega)) dX11_guided_129 (by omega) rfl rfl rfl w_1541 qX11_isWholeSource rfl ⟨Nat.le_of_ble_eq_true rfl, Nat.le_of_ble_eq_true rfl⟩ ⟨Nat.zero_le _, Nat.zero_le _⟩ (Nat.le_of_ble_eq_true rfl) rfl) ?_
                  refine y_if_eq (pc := 132) hF dX11_guided_132 146 rfl bi_r (fun zc132 => ?_) (fun zc132 => ?_)
                  · replace zc132 := bi_0.mp zc132
                    skip
                    skip
                    refine y_iinc (pc := 146) (lv' := [(0, yR g 155), (1, yI (z : Int)), (2, yI x), (3, yI y), (4, yI (20 * (y / 2) + (x / 2))), (5, yI (P2 (x / 2) (y / 2) % 20)), (6, yI (P2 (x / 2) (y / 2) / 20)), (7, yI v), (8, yI (u + 1))]) hF dX11_guided_146 8 rfl (by decide) rfl rfl ?_
                    refine y_goto (pc := 149) hF dX11_guided_149 100 rfl ?_
                    exact zh100 _ (by omega) υ (u + 1) rfl ⟨zI100.1, by omega, by rw [fr_up' _ _ zI100.2.1.1, ← zI100.2.2.1]; simp [sgF, zc120, zc132], zI100.2.2.2.1, by omega⟩
                  · replace zc132 := bi_n0.mp zc132
                    have zpl := sWs.pl (by omega) zc132
                    refine y_aload_n (pc := 135) hF dX11_guided_135 0 rfl ?_
                    refine y_iload_n (pc := 136) hF dX11_guided_136 1 rfl ?_
                    refine y_iload_n (pc := 137) hF dX11_guided_137 2 rfl ?_
                    refine y_iload_n (pc := 138) hF dX11_guided_138 3 rfl ?_
                    refine y_iload (pc := 139) hF dX11_guided_139 8 rfl ?_
                    refine y_iload (pc := 141) hF dX11_guided_141 7 rfl ?_
                    refine y_cv (y_rV (pc := 143) hF (tX11_asks z w h T S F P O s re fo ra tu we sh hn hz zA_υ zS_υ x y u v hi zpl zuv zI100.2.2.2.1 (by omega)) dX11_guided_143 (by omega) rfl rfl rfl w_1549 qX11_asks rfl ⟨Nat.le_of_ble_eq_true rfl, Nat.le_of_ble_eq_true rfl⟩ ⟨Nat.zero_le _, Nat.zero_le _⟩ (Nat.le_of_ble_eq_true rfl) rfl) rfl rfl (fun n' σ143 zp143 => ?_)
                    obtain ⟨zn143, zp143⟩ := zp143
                    have zn143 := zn143.symm
                    subst zn143
                    have zA_σ143 := zA_υ.fR hz zp143.1
                    have zS_σ143 := zS_υ.fR (by omega) zp143.1
                    have zo : qOk w h T s (σ143 155 19, σ143 155 20, σ143 155 21, σ143 155 22, σ143 155 23, σ143 155 24, σ143 155 25, σ143 155 26, σ143 155 18) := by rw [zp143.2]; exact sAs_ok hA.1 ⟨by omega, hs1.2⟩ hs5 zpl zuv zI100.2.2.2.1 (show υ 155 24 < 1000000 by omega)
                    have zn : σ143 155 24 ≤ υ 155 24 + 8 := by have zt := (sAs_so (w := w) (h := h) (T := T) (S := S) (s := s) (we := we) (sh := sh) (x := x) (y := y) (u := u) (v := v) (q := (υ 155 19, υ 155 20, υ 155 21, υ 155 22, υ 155 23, υ 155 24, υ 155 25, υ 155 26, υ 155 18)) hs5).2; rw [← zp143.2] at zt; exact zt
                    refine y_iinc (pc := 146) (lv' := [(0, yR g 155), (1, yI (z : Int)), (2, yI x), (3, yI y), (4, yI (20 * (y / 2) + (x / 2))), (5, yI (P2 (x / 2) (y / 2) % 20)), (6, yI (P2 (x / 2) (y / 2) / 20)), (7, yI v), (8, yI (u + 1))]) hF dX11_guided_146 8 rfl (by decide) rfl rfl ?_
                    refine y_goto (pc := 149) hF dX11_guided_149 100 rfl ?_
                    exact zh100 _ (by omega) σ143 (u + 1) rfl ⟨zI100.1.tr zp143.1, by omega, by rw [fr_up' _ _ zI100.2.1.1, ← zI100.2.2.1, zp143.2]; simp [sgF, zc120, zc132], zo, by omega⟩
          exact zL100 _ τ ((2 * (P2 (x / 2) (y / 2) % 20)) - 1) rfl ⟨zI81.1, by omega, (fr_no _ _ _).symm, zI81.2.2.2.1, by omega⟩
    exact zL81 _ σ1 ((2 * (P2 (x / 2) (y / 2) / 20)) - 1) rfl ⟨zp1.1, by omega, by rw [fr_no]; exact zp1.2, zz1, by omega⟩
