theorem fZ.rf {z : Nat} (σ : yM) : fZ z σ σ := fun _ _ _ _ _ => rfl
theorem fZ.tr {z : Nat} {a b c : yM} (h1 : fZ z a b) (h2 : fZ z b c) : fZ z a c := fun k j hk h q => (h2 k j hk h q).trans (h1 k j hk h q)
theorem fR.fZ {z : Nat} {σ σ' : yM} (h : fR 11 26 σ σ') : fZ z σ σ' := fun c j _ _ q => h c j (by omega)
theorem fZ.cell {z : Nat} {σ σ' : yM} (h : fZ z σ σ') {c : Nat} (h1 : c < 172) (h2 : c ≠ 158 + z) (h3 : c ≠ 155) : σ' c = σ c := funext fun j => h c j h1 h2 (Or.inl h3)
theorem rM.fZ {z z' : Nat} {σ σ' : yM} {w h : Int} {T S F P O : Int → Int → Int} (H : rM σ z' w h T S F P O) (hz : z < 3) (hz' : z' < 3) (hne : z' ≠ z) (e : fZ z σ σ') : rM σ' z' w h T S F P O := H.fr (e.cell (by omega) (by omega) (by omega)) (e.cell (by omega) (by omega) (by omega)) (fun i _ _ => by rw [e.cell (by omega) (by omega) (by omega)])
theorem rS.fZ {z : Nat} {σ σ' : yM} {s re fo ra tu we sh : Int} (H : rS σ 166 s re fo ra tu we sh) (hz : z < 3) (e : fZ z σ σ') : rS σ' 166 s re fo ra tu we sh := H.fr (e.cell (by omega) (by omega) (by omega))
theorem rL.fR {z : Nat} {lo hi : Int} {σ σ' : yM} {nf df nl : Int} {lg : Int → Int → Int} (H : rL σ z nf df nl lg) (hz : z < 3) (e : fR lo hi σ σ') : rL σ' z nf df nl lg := by
  unfold rL at *
  rw [e.cell (by omega)]
  exact H
theorem dX11_fillsAll_0 : decode cX11_fillsAll 0 = .ok (.iconst 0, 1) := by decide +kernel
theorem dX11_fillsAll_1 : decode cX11_fillsAll 1 = .ok (.istore 4, 2) := by decide +kernel
theorem dX11_fillsAll_3 : decode cX11_fillsAll 3 = .ok (.iload 4, 2) := by decide +kernel
theorem dX11_fillsAll_5 : decode cX11_fillsAll 5 = .ok (.iload_n 3, 1) := by decide +kernel
theorem dX11_fillsAll_6 : decode cX11_fillsAll 6 = .ok (.if_icmp .ge 18, 3) := by decide +kernel
theorem dX11_fillsAll_9 : decode cX11_fillsAll 9 = .ok (.aload_n 0, 1) := by decide +kernel
theorem dX11_fillsAll_10 : decode cX11_fillsAll 10 = .ok (.iload_n 1, 1) := by decide +kernel
theorem dX11_fillsAll_11 : decode cX11_fillsAll 11 = .ok (.iload_n 2, 1) := by decide +kernel
theorem dX11_fillsAll_12 : decode cX11_fillsAll 12 = .ok (.invokevirtual 222, 3) := by decide +kernel
theorem dX11_fillsAll_15 : decode cX11_fillsAll 15 = .ok (.ifCond .eq 9, 3) := by decide +kernel
theorem dX11_fillsAll_18 : decode cX11_fillsAll 18 = .ok (.iinc 4 1, 3) := by decide +kernel
theorem dX11_fillsAll_21 : decode cX11_fillsAll 21 = .ok (.goto (-18), 3) := by decide +kernel
theorem dX11_fillsAll_24 : decode cX11_fillsAll 24 = .ok (.iload 4, 2) := by decide +kernel
theorem dX11_fillsAll_26 : decode cX11_fillsAll 26 = .ok (.ireturn, 1) := by decide +kernel
set_option maxHeartbeats 4000000 in
set_option maxRecDepth 100000 in
theorem tX11_fillsAll {l : Launch} {g : yG} {n : Nat} {σ : yM} (z : Nat) (w h : Int) (T S F P O : Int → Int → Int) (w2 h2 : Int) (T2 S2 F2 P2 O2 : Int → Int → Int) (s re fo ra tu we sh : Int) (nf df nl : Int) (lg : Int → Int → Int) (gd : Bool) (hn : 172 ≤ n) (hz : z < 3) (hA : rM σ z w h T S F P O) (hL : rL σ z nf df nl lg) (hnf : nf < 800000000) (hG : gd = true → z < 2 ∧ rM σ (z + 1) w2 h2 T2 S2 F2 P2 O2 ∧ w2 = (w + 1) / 2 ∧ h2 = (h + 1) / 2) (hS : rS σ 166 s re fo ra tu we sh) (most : Int) (hm : 0 ≤ most ∧ most ≤ 1000) : yMet l g yX11_fillsAll cX11_fillsAll 5 (some .int) (rmA 9 101 909) [yR g 155, yI (z : Int), yI (bi gd), yI most] (SC g) n σ (SC g) (yPi (fun v n' σ' => v = (((fIt (fS w h s re fo ra tu we sh gd F2 P2) most.toNat (T, S, F, P, O, nf, df, nl, lg)).1 : Nat) : Int) ∧ n' = n + (fIt (fS w h s re fo ra tu we sh gd F2 P2) most.toNat (T, S, F, P, O, nf, df, nl, lg)).1 ∧ (fIt (fS w h s re fo ra tu we sh gd F2 P2) most.toNat (T, S, F, P, O, nf, df, nl, lg)).1 ≤ 100 ∧ rX σ' z w h (fIt (fS w h s re fo ra tu we sh gd F2 P2) most.toNat (T, S, F, P, O, nf, df, nl, lg)).2 ∧ fZ z σ σ')) := by
  obtain ⟨hw1, hw2, hw3, hw4⟩ := id hA.1.1
  obtain ⟨hs1, hs2, hs3, hs4, hs5, hs6, hs7⟩ := id hS.2
  have zpt := pot_bd w h T s
  refine y_start (by decide) (Nat.le_of_ble_eq_true rfl) (fun X0 hF => ?_)
  show yV X0 g 5 (yQ X0 g (SC g) (yPi (fun v n' σ' => v = (((fIt (fS w h s re fo ra tu we sh gd F2 P2) most.toNat (T, S, F, P, O, nf, df, nl, lg)).1 : Nat) : Int) ∧ n' = n + (fIt (fS w h s re fo ra tu we sh gd F2 P2) most.toNat (T, S, F, P, O, nf, df, nl, lg)).1 ∧ (fIt (fS w h s re fo ra tu we sh gd F2 P2) most.toNat (T, S, F, P, O, nf, df, nl, lg)).1 ≤ 100 ∧ rX σ' z w h (fIt (fS w h s re fo ra tu we sh gd F2 P2) most.toNat (T, S, F, P, O, nf, df, nl, lg)).2 ∧ fZ z σ σ')) (rmA 9 101 909)) (SC g) n σ 0 0 0 [(0, yR g 155), (1, yI (z : Int)), (2, yI (bi gd)), (3, yI most)] []
  refine y_iconst (pc := 0) hF dX11_fillsAll_0 ?_
  refine y_istore (pc := 1) (lv' := [(0, yR g 155), (1, yI (z : Int)), (2, yI (bi gd)), (3, yI most), (4, yI 0)]) hF dX11_fillsAll_1 (by decide) rfl rfl ?_
  have zL3 : ∀ (N : Nat) (τ : yM) (m : Nat) (k : Int) (T1 S1 F1 P1 O1 : Int → Int → Int) (nf1 df1 nl1 : Int) (lg1 : Int → Int → Int), N = (most - k).toNat → ((172 ≤ m ∧ m = n + k.toNat) ∧ (0 ≤ k ∧ k ≤ most) ∧ k + pot w h T1 s ≤ 100 ∧ nf1 = nf + k ∧ rM τ z w h T1 S1 F1 P1 O1 ∧ rL τ z nf1 df1 nl1 lg1 ∧ fZ z σ τ ∧ fIt (fS w h s re fo ra tu we sh gd F2 P2) most.toNat (T, S, F, P, O, nf, df, nl, lg) = (k.toNat + (fIt (fS w h s re fo ra tu we sh gd F2 P2) (most - k).toNat (T1, S1, F1, P1, O1, nf1, df1, nl1, lg1)).1, (fIt (fS w h s re fo ra tu we sh gd F2 P2) (most - k).toNat (T1, S1, F1, P1, O1, nf1, df1, nl1, lg1)).2)) → yV X0 g 5 (yQ X0 g (SC g) (yPi (fun v n' σ' => v = (((fIt (fS w h s re fo ra tu we sh gd F2 P2) most.toNat (T, S, F, P, O, nf, df, nl, lg)).1 : Nat) : Int) ∧ n' = n + (fIt (fS w h s re fo ra tu we sh gd F2 P2) most.toNat (T, S, F, P, O, nf, df, nl, lg)).1 ∧ (fIt (fS w h s re fo ra tu we sh gd F2 P2) most.toNat (T, S, F, P, O, nf, df, nl, lg)).1 ≤ 100 ∧ rX σ' z w h (fIt (fS w h s re fo ra tu we sh gd F2 P2) most.toNat (T, S, F, P, O, nf, df, nl, lg)).2 ∧ fZ z σ σ')) (rmA 9 101 909)) (SC g) m τ k.toNat (9 * k.toNat) 3 [(0, yR g 155), (1, yI (z : Int)), (2, yI (bi gd)), (3, yI most), (4, yI k)] [] := by
    intro N
    induction N using Nat.strongRecOn with
    | ind N zh3 =>
      intro τ  m  k  T1 S1 F1 P1 O1  nf1 df1 nl1  lg1  zN3 zI3
      have hn := zI3.1.1
      have zS := hS.fZ hz zI3.2.2.2.2.2.2.1
      have zpb := pot_bd w h T1 s
      have zG : gd = true → z < 2 ∧ rM τ (z + 1) w2 h2 T2 S2 F2 P2 O2 ∧ w2 = (w + 1) / 2 ∧ h2 = (h + 1) / 2 := fun zq => ⟨(hG zq).1, (hG zq).2.1.fZ hz (by have := (hG zq).1; omega) (by omega) zI3.2.2.2.2.2.2.1, (hG zq).2.2⟩
      refine y_iload (pc := 3) hF dX11_fillsAll_3 4 rfl ?_
      refine y_iload_n (pc := 5) hF dX11_fillsAll_5 3 rfl ?_
      refine y_icmp_ge (pc := 6) hF dX11_fillsAll_6 24 rfl (by omega) (by omega) (fun zc6 => ?_) (fun zc6 => ?_)
      · skip
        have zfin : fIt (fS w h s re fo ra tu we sh gd F2 P2) most.toNat (T, S, F, P, O, nf, df, nl, lg) = (k.toNat, (T1, S1, F1, P1, O1, nf1, df1, nl1, lg1)) := by rw [zI3.2.2.2.2.2.2.2, show (most - k).toNat = 0 by omega]; rfl
        refine y_iload (pc := 24) hF dX11_fillsAll_24 4 rfl ?_
        exact y_iret (pc := 26) hF dX11_fillsAll_26 (by show _ ≤ 101; omega) (by show _ ≤ 909; omega) ⟨_, rfl, by rw [zfin]; show k = ((k.toNat : Nat) : Int); omega, by rw [zfin]; exact zI3.1.2, by rw [zfin]; show k.toNat ≤ 100; omega, by rw [zfin]; exact ⟨⟨zI3.2.2.2.2.1, zI3.2.2.2.2.2.1⟩, zI3.2.2.2.2.2.2.1⟩⟩
      · skip
        refine y_aload_n (pc := 9) hF dX11_fillsAll_9 0 rfl ?_
        refine y_iload_n (pc := 10) hF dX11_fillsAll_10 1 rfl ?_
        refine y_iload_n (pc := 11) hF dX11_fillsAll_11 2 rfl ?_
        refine y_ci (cells' := (k + 1).toNat) (slots' := 9 * (k + 1).toNat) (y_rV (pc := 12) hF (tX11_fills z w h T1 S1 F1 P1 O1 w2 h2 T2 S2 F2 P2 O2 s re fo ra tu we sh nf1 df1 nl1 lg1 gd hn hz zI3.2.2.2.2.1 zI3.2.2.2.2.2.1 (by omega) zG zS) dX11_fillsAll_12 (by omega) rfl rfl rfl w_1492 qX11_fills rfl ⟨Nat.le_of_ble_eq_true rfl, Nat.le_of_ble_eq_true rfl⟩ ⟨by show k.toNat + 1 ≤ 101; omega, by show 9 * k.toNat + 9 ≤ 909; omega⟩ (Nat.le_of_ble_eq_true rfl) rfl) (by show k.toNat + 1 = _; omega) (by show 9 * k.toNat + 9 = _; omega) (fun r12 n' σ12 zp12 => ?_)
        rcases zp12 with ⟨zf, zv, zn, zp⟩ | ⟨X9, zf, zv, zn, zp, zz⟩
        · subst zv; subst zn
          refine y_if_eq (pc := 15) hF dX11_fillsAll_15 24 rfl (by decide) (fun _ => ?_) (fun zc15 => absurd zc15 (by decide))
          have zfin : fIt (fS w h s re fo ra tu we sh gd F2 P2) most.toNat (T, S, F, P, O, nf, df, nl, lg) = (k.toNat, (T1, S1, F1, P1, O1, nf1, df1, nl1, lg1)) := by rw [zI3.2.2.2.2.2.2.2, fIt_none zf]; rfl
          refine y_iload (pc := 24) hF dX11_fillsAll_24 4 rfl ?_
          exact y_iret (pc := 26) hF dX11_fillsAll_26 (by show _ ≤ 101; omega) (by show _ ≤ 909; omega) ⟨_, rfl, by rw [zfin]; show k = ((k.toNat : Nat) : Int); omega, by rw [zfin]; exact zI3.1.2, by rw [zfin]; show k.toNat ≤ 100; omega, by rw [zfin]; exact ⟨⟨zI3.2.2.2.2.1.fR hz zp, zI3.2.2.2.2.2.1.fR hz zp⟩, zI3.2.2.2.2.2.2.1.tr zp.fZ⟩⟩
        · subst zv; subst zn; obtain ⟨T9, S9, F9, P9, O9, nf9, df9, nl9, lg9⟩ := X9
          refine y_if_eq (pc := 15) hF dX11_fillsAll_15 24 rfl (by decide) (fun zc15 => absurd zc15 (by decide)) (fun _ => ?_)
          refine y_iinc (pc := 18) (lv' := [(0, yR g 155), (1, yI (z : Int)), (2, yI (bi gd)), (3, yI most), (4, yI (k + 1))]) hF dX11_fillsAll_18 4 rfl (by decide) rfl rfl ?_
          refine y_goto (pc := 21) hF dX11_fillsAll_21 3 rfl ?_
          have zpo := fS_pot zI3.2.2.2.2.1.1 hs1 zf
          have ztr := fIt_some zf (most - (k + 1)).toNat
          rw [show (most - (k + 1)).toNat + 1 = (most - k).toNat by omega] at ztr
          exact zh3 _ (by omega) σ12 (m + 1) (k + 1) T9 S9 F9 P9 O9 nf9 df9 nl9 lg9 rfl ⟨⟨by omega, by omega⟩, by omega, by have := zpo.1; simp only at this; omega, by have := zpo.2; simp only at this; omega, zp.1, zp.2, zI3.2.2.2.2.2.2.1.tr zz, by rw [zI3.2.2.2.2.2.2.2, ztr]; simp only [Prod.mk.injEq]; exact ⟨by omega, trivial⟩⟩
  exact zL3 _ σ n (0) T S F P O nf df nl lg rfl ⟨⟨hn, rfl⟩, by omega, by omega, by omega, hA, hL, fZ.rf σ, by rw [show most - 0 = most by omega]; simp⟩
