def cG (σ σ' : yM) : Prop := ∀ c : Nat, 155 ≤ c → c ≠ 171 → σ' c = σ c
theorem cV_out {σ : yM} {A : aA} {v : Int} (V : cV σ A) : cV (yset σ 171 0 v) A := by
  refine V.fr (fun c h _ => yset_n (by omega)) ?_
  obtain ⟨w, h, X, ⟨s, re, fo, ra, tu, we, sh⟩, H, hb, K, tl, tb, fa, r1, r2⟩ := A
  have t : rT σ := V.2.2.2.2.2.2.2.2
  intro j h1 h2 h3
  rw [yset_n (by omega)]
  exact t j h1 h2 h3
section YLW
variable {x : yC} {l : Launch} {g : yG} {nL : Nat} {cc : ByteArray} {own : String} {ret : Option FieldType} {rm : Room} {Q : State → Prop} {sch : yS} {n : Nat} {σ : yM} {cells slots pc : Nat} {lv : List (Nat × Value)} {st : List Value}
theorem y_astoreS_n (hF : yF x l g nL cc own ret rm) {i : Fin 4} (hdg : decode cc pc = .ok (.astore_n i, 1)) {a : Nat} {lv' : List (Nat × Value)} (hi : (i : Nat) < nL) (hf : y_fit lv (i : Nat) = true) (he : y_put lv (i : Nat) (.ref a) = lv') (k : yV x g nL Q sch n σ cells slots (pc + 1) lv' st) : yV x g nL Q sch n σ cells slots pc lv (.ref a :: st) := by
  obtain ⟨p, l', e, R, s, m, args, below, meth, c⟩ := x
  obtain ⟨hl0, hRm, hx, hb, hml, hown, hts, hK, hZ, hbs, hlk, hrt, hNw⟩ := hF
  intro H locs ls hH hS hl
  exact lv_astore_n hx hb hdg rfl hl hi rfl (fun ls hl => k H locs ls hH hS (y_put_has hl hf he))
end YLW
theorem wl_text : Cond.codeWith yL_text cL_text 4 (some .int) [(0, 9, 12, 13)] ∈ y_tb := y_in (mt_3 _ (List.mem_of_getElem? (i := 40) rfl)) rfl
theorem dL_text_0 : decode cL_text 0 = .ok (.aload_n 2, 1) := by decide +kernel
theorem dL_text_1 : decode cL_text 1 = .ok (.iconst 0, 1) := by decide +kernel
theorem dL_text_2 : decode cL_text 2 = .ok (.aload_n 0, 1) := by decide +kernel
theorem dL_text_3 : decode cL_text 3 = .ok (.iload_n 1, 1) := by decide +kernel
theorem dL_text_4 : decode cL_text 4 = .ok (.invokevirtual 7, 3) := by decide +kernel
theorem dL_text_7 : decode cL_text 7 = .ok (.i2l, 1) := by decide +kernel
theorem dL_text_8 : decode cL_text 8 = .ok (.lastore, 1) := by decide +kernel
theorem dL_text_9 : decode cL_text 9 = .ok (.goto 6, 3) := by decide +kernel
theorem dL_text_12 : decode cL_text 12 = .ok (.astore_n 3, 1) := by decide +kernel
theorem dL_text_13 : decode cL_text 13 = .ok (.iconst 1, 1) := by decide +kernel
theorem dL_text_14 : decode cL_text 14 = .ok (.ireturn, 1) := by decide +kernel
theorem dL_text_15 : decode cL_text 15 = .ok (.iconst 0, 1) := by decide +kernel
theorem dL_text_16 : decode cL_text 16 = .ok (.ireturn, 1) := by decide +kernel
set_option maxHeartbeats 4000000 in
set_option maxRecDepth 100000 in
theorem tL_text {l : Launch} {g : yG} {n : Nat} {σ : yM} (hlt : l.stackTraces = false) (hn : 172 ≤ n) (w h : Int) (T S F P O : Int → Int → Int) (nf df nl : Int) (lg : Int → Int → Int) (s re fo ra tu we sh : Int) (H : List aX) (ht : Bool) (K : Int → Int → Int) (tl : Int) (tb : Int → Int) (fa r1 r2 N : Int) (hV : cV σ (w, h, (T, S, F, P, O, nf, df, nl, lg), (s, re, fo, ra, tu, we, sh), H, ht, K, tl, tb, fa, r1, r2)) (hW : aW N (w, h, (T, S, F, P, O, nf, df, nl, lg), (s, re, fo, ra, tu, we, sh), H, ht, K, tl, tb, fa, r1, r2)) (a : Int) (ha : -2147483648 ≤ a ∧ a < 2147483648) : yMH l g yL_text cL_text 4 (some .int) [(0, 9, 12, 13)] (rmA 9 4 24) [yR g 0, yI a, yR g 171] (SC g) n σ (SC g) (yPi (fun zk n' σ' => n ≤ n' ∧ cG σ σ' ∧ (((0 ≤ a ∧ a ≤ tl) ∧ zk = 0 ∧ σ' 171 0 = wr (txV (txP tb a)) ∧ cV σ' (if (txP tb a).1 = 0 then ((txP tb a).2.2.1, (txP tb a).2.2.2.1, txX (txP tb a).2.2.2.2, (s, re, fo, ra, tu, we, sh), [], (ht && decide ((txP tb a).2.2.1 = w) && decide ((txP tb a).2.2.2.1 = h)), K, 0, tb, (txP tb a).2.1, r1, r2) else (w, h, (T, S, F, P, O, nf, df, nl, lg), (s, re, fo, ra, tu, we, sh), H, ht, K, 0, tb, (txP tb a).2.1, r1, r2))) ∨ (¬ (0 ≤ a ∧ a ≤ tl) ∧ zk = 1 ∧ cV σ' (bA (w, h, (T, S, F, P, O, nf, df, nl, lg), (s, re, fo, ra, tu, we, sh), H, ht, K, tl, tb, fa, r1, r2)))))) := by
  refine y_startH (by decide) (Nat.le_of_ble_eq_true rfl) (fun X0 hFH => ?_)
  have hF := hFH.1
  show yV X0 g 4 (yQ X0 g (SC g) (yPi (fun zk n' σ' => n ≤ n' ∧ cG σ σ' ∧ (((0 ≤ a ∧ a ≤ tl) ∧ zk = 0 ∧ σ' 171 0 = wr (txV (txP tb a)) ∧ cV σ' (if (txP tb a).1 = 0 then ((txP tb a).2.2.1, (txP tb a).2.2.2.1, txX (txP tb a).2.2.2.2, (s, re, fo, ra, tu, we, sh), [], (ht && decide ((txP tb a).2.2.1 = w) && decide ((txP tb a).2.2.2.1 = h)), K, 0, tb, (txP tb a).2.1, r1, r2) else (w, h, (T, S, F, P, O, nf, df, nl, lg), (s, re, fo, ra, tu, we, sh), H, ht, K, 0, tb, (txP tb a).2.1, r1, r2))) ∨ (¬ (0 ≤ a ∧ a ≤ tl) ∧ zk = 1 ∧ cV σ' (bA (w, h, (T, S, F, P, O, nf, df, nl, lg), (s, re, fo, ra, tu, we, sh), H, ht, K, tl, tb, fa, r1, r2)))))) (rmA 9 4 24)) (SC g) n σ 0 0 0 [(0, yR g 0), (1, yI a), (2, yR g 171)] []
  refine y_aload_n (pc := 0) hF dL_text_0 2 rfl ?_
  refine y_iconst (pc := 1) hF dL_text_1 ?_
  refine y_aload_n (pc := 2) hF dL_text_2 0 rfl ?_
  refine y_iload_n (pc := 3) hF dL_text_3 1 rfl ?_
  refine y_contH (cells' := 4) (slots' := 24) hFH (y_rVH (pc := 4) hFH (tX10_text hlt hn w h T S F P O nf df nl lg s re fo ra tu we sh H ht K tl tb fa r1 r2 N hV hW a ha) dL_text_4 (by omega) rfl rfl rfl w_607 qX10_text rfl ⟨Nat.le_of_ble_eq_true rfl, Nat.le_of_ble_eq_true rfl⟩ ⟨Nat.le_of_ble_eq_true rfl, Nat.le_of_ble_eq_true rfl⟩ (Nat.le_of_ble_eq_true rfl) rfl (rest := [yI 0, yR g 171])) rfl rfl (fun E n' σ' zx => ?_) (fun r n' σ' zp => ?_)
  · obtain ⟨zE, h1, h2, h3, h4⟩ := zx
    subst zE
    refine ⟨[], (0, 9, 12, 13), [], rfl, (fun y hy => nomatch hy), (by decide), (by decide), w_606, w_617, fun q => ?_⟩
    refine y_astoreS_n (pc := 12) (lv' := [(0, yR g 0), (1, yI a), (2, yR g 171), (3, .ref q)]) hF dL_text_12 (by decide) rfl rfl ?_
    refine y_iconst (pc := 13) hF dL_text_13 ?_
    exact y_iret (pc := 14) hF dL_text_14 (Nat.le_of_ble_eq_true rfl) (Nat.le_of_ble_eq_true rfl) ⟨_, rfl, h1, (fun c hc _ => h4 c hc), Or.inr ⟨h2, rfl, h3⟩⟩
  · obtain ⟨zv, rfl, h1, h2, h5, h3, h4⟩ := zp
    show yV X0 g 4 (yQ X0 g (SC g) (yPi (fun zk n' σ' => n ≤ n' ∧ cG σ σ' ∧ (((0 ≤ a ∧ a ≤ tl) ∧ zk = 0 ∧ σ' 171 0 = wr (txV (txP tb a)) ∧ cV σ' (if (txP tb a).1 = 0 then ((txP tb a).2.2.1, (txP tb a).2.2.2.1, txX (txP tb a).2.2.2.2, (s, re, fo, ra, tu, we, sh), [], (ht && decide ((txP tb a).2.2.1 = w) && decide ((txP tb a).2.2.2.1 = h)), K, 0, tb, (txP tb a).2.1, r1, r2) else (w, h, (T, S, F, P, O, nf, df, nl, lg), (s, re, fo, ra, tu, we, sh), H, ht, K, 0, tb, (txP tb a).2.1, r1, r2))) ∨ (¬ (0 ≤ a ∧ a ≤ tl) ∧ zk = 1 ∧ cV σ' (bA (w, h, (T, S, F, P, O, nf, df, nl, lg), (s, re, fo, ra, tu, we, sh), H, ht, K, tl, tb, fa, r1, r2)))))) (rmA 9 4 24)) (SC g) n' σ' 4 24 7 [(0, yR g 0), (1, yI a), (2, yR g 171)] [yI zv, yI 0, yR g 171]
    refine y_i2lw (pc := 7) hF dL_text_7 ?_
    refine y_lastore (pc := 8) (len := 1) hF dL_text_8 (by omega) rfl (by decide) (by decide) ?_
    refine y_goto (pc := 9) hF dL_text_9 15 rfl ?_
    refine y_iconst (pc := 15) hF dL_text_15 ?_
    refine y_iret (pc := 16) hF dL_text_16 (Nat.le_of_ble_eq_true rfl) (Nat.le_of_ble_eq_true rfl) ⟨_, rfl, h1, (fun c hc hc2 => ?_), Or.inl ⟨h2, rfl, ?_, ?_⟩⟩
    · rw [yset_n hc2]
      exact h4 c hc
    · rw [yset_e, h5]
    · exact cV_out h3

theorem wl_set : Cond.codeWith yL_set cL_set 5 (some .int) [(0, 10, 13, 13)] ∈ y_tb := y_in (mt_3 _ (List.mem_of_getElem? (i := 158) rfl)) rfl
theorem dL_set_0 : decode cL_set 0 = .ok (.aload_n 3, 1) := by decide +kernel
theorem dL_set_1 : decode cL_set 1 = .ok (.iconst 0, 1) := by decide +kernel
theorem dL_set_2 : decode cL_set 2 = .ok (.aload_n 0, 1) := by decide +kernel
theorem dL_set_3 : decode cL_set 3 = .ok (.iload_n 1, 1) := by decide +kernel
theorem dL_set_4 : decode cL_set 4 = .ok (.iload_n 2, 1) := by decide +kernel
theorem dL_set_5 : decode cL_set 5 = .ok (.invokevirtual 15, 3) := by decide +kernel
theorem dL_set_8 : decode cL_set 8 = .ok (.i2l, 1) := by decide +kernel
theorem dL_set_9 : decode cL_set 9 = .ok (.lastore, 1) := by decide +kernel
theorem dL_set_10 : decode cL_set 10 = .ok (.goto 7, 3) := by decide +kernel
theorem dL_set_13 : decode cL_set 13 = .ok (.astore 4, 2) := by decide +kernel
theorem dL_set_15 : decode cL_set 15 = .ok (.iconst 1, 1) := by decide +kernel
theorem dL_set_16 : decode cL_set 16 = .ok (.ireturn, 1) := by decide +kernel
theorem dL_set_17 : decode cL_set 17 = .ok (.iconst 0, 1) := by decide +kernel
theorem dL_set_18 : decode cL_set 18 = .ok (.ireturn, 1) := by decide +kernel
set_option maxHeartbeats 4000000 in
set_option maxRecDepth 100000 in
theorem tL_set {l : Launch} {g : yG} {n : Nat} {σ : yM} (hlt : l.stackTraces = false) (hn : 172 ≤ n) (w h : Int) (T S F P O : Int → Int → Int) (nf df nl : Int) (lg : Int → Int → Int) (s re fo ra tu we sh : Int) (H : List aX) (ht : Bool) (K : Int → Int → Int) (tl : Int) (tb : Int → Int) (fa r1 r2 N : Int) (hV : cV σ (w, h, (T, S, F, P, O, nf, df, nl, lg), (s, re, fo, ra, tu, we, sh), H, ht, K, tl, tb, fa, r1, r2)) (hW : aW N (w, h, (T, S, F, P, O, nf, df, nl, lg), (s, re, fo, ra, tu, we, sh), H, ht, K, tl, tb, fa, r1, r2)) (a v : Int) (ha : -2147483648 ≤ a ∧ a < 2147483648) (hv : -2147483648 ≤ v ∧ v < 2147483648) : yMH l g yL_set cL_set 5 (some .int) [(0, 10, 13, 13)] (rmA 9 4 24) [yR g 0, yI a, yI v, yR g 171] (SC g) n σ (SC g) (yPi (fun zk n' σ' => n ≤ n' ∧ cG σ σ' ∧ (((sAl a v = true) ∧ zk = 0 ∧ σ' 171 0 = wr (sV s re fo ra tu we sh a) ∧ cV σ' (w, h, (T, S, F, P, O, nf, df, nl, lg), ((if a = 0 then v else s), (if a = 1 then v else re), (if a = 2 then v else fo), (if a = 3 then v else ra), (if a = 4 then v else tu), (if a = 5 then v else we), (if a = 6 then v else sh)), H, ht, K, tl, tb, fa, r1, r2)) ∨ (¬ (sAl a v = true) ∧ zk = 1 ∧ cV σ' (bA (w, h, (T, S, F, P, O, nf, df, nl, lg), (s, re, fo, ra, tu, we, sh), H, ht, K, tl, tb, fa, r1, r2)))))) := by
  refine y_startH (by decide) (Nat.le_of_ble_eq_true rfl) (fun X0 hFH => ?_)
  have hF := hFH.1
  show yV X0 g 5 (yQ X0 g (SC g) (yPi (fun zk n' σ' => n ≤ n' ∧ cG σ σ' ∧ (((sAl a v = true) ∧ zk = 0 ∧ σ' 171 0 = wr (sV s re fo ra tu we sh a) ∧ cV σ' (w, h, (T, S, F, P, O, nf, df, nl, lg), ((if a = 0 then v else s), (if a = 1 then v else re), (if a = 2 then v else fo), (if a = 3 then v else ra), (if a = 4 then v else tu), (if a = 5 then v else we), (if a = 6 then v else sh)), H, ht, K, tl, tb, fa, r1, r2)) ∨ (¬ (sAl a v = true) ∧ zk = 1 ∧ cV σ' (bA (w, h, (T, S, F, P, O, nf, df, nl, lg), (s, re, fo, ra, tu, we, sh), H, ht, K, tl, tb, fa, r1, r2)))))) (rmA 9 4 24)) (SC g) n σ 0 0 0 [(0, yR g 0), (1, yI a), (2, yI v), (3, yR g 171)] []
  refine y_aload_n (pc := 0) hF dL_set_0 3 rfl ?_
  refine y_iconst (pc := 1) hF dL_set_1 ?_
  refine y_aload_n (pc := 2) hF dL_set_2 0 rfl ?_
  refine y_iload_n (pc := 3) hF dL_set_3 1 rfl ?_
  refine y_iload_n (pc := 4) hF dL_set_4 2 rfl ?_
  refine y_contH (cells' := 4) (slots' := 24) hFH (y_rVH (pc := 5) hFH (tX10_set hlt hn w h T S F P O nf df nl lg s re fo ra tu we sh H ht K tl tb fa r1 r2 N hV hW a v ha hv) dL_set_5 (by omega) rfl rfl rfl w_724 qX10_set rfl ⟨Nat.le_of_ble_eq_true rfl, Nat.le_of_ble_eq_true rfl⟩ ⟨Nat.le_of_ble_eq_true rfl, Nat.le_of_ble_eq_true rfl⟩ (Nat.le_of_ble_eq_true rfl) rfl (rest := [yI 0, yR g 171])) rfl rfl (fun E n' σ' zx => ?_) (fun r n' σ' zp => ?_)
  · obtain ⟨zE, h1, h2, h3, h4⟩ := zx
    subst zE
    refine ⟨[], (0, 10, 13, 13), [], rfl, (fun y hy => nomatch hy), (by decide), (by decide), w_606, w_617, fun q => ?_⟩
    refine y_astoreS (pc := 13) (lv' := [(0, yR g 0), (1, yI a), (2, yI v), (3, yR g 171), (4, .ref q)]) hF dL_set_13 (by decide) rfl rfl ?_
    refine y_iconst (pc := 15) hF dL_set_15 ?_
    exact y_iret (pc := 16) hF dL_set_16 (Nat.le_of_ble_eq_true rfl) (Nat.le_of_ble_eq_true rfl) ⟨_, rfl, h1, (fun c hc _ => h4 c hc), Or.inr ⟨h2, rfl, h3⟩⟩
  · obtain ⟨zv, rfl, h1, h2, h5, h3, h4⟩ := zp
    show yV X0 g 5 (yQ X0 g (SC g) (yPi (fun zk n' σ' => n ≤ n' ∧ cG σ σ' ∧ (((sAl a v = true) ∧ zk = 0 ∧ σ' 171 0 = wr (sV s re fo ra tu we sh a) ∧ cV σ' (w, h, (T, S, F, P, O, nf, df, nl, lg), ((if a = 0 then v else s), (if a = 1 then v else re), (if a = 2 then v else fo), (if a = 3 then v else ra), (if a = 4 then v else tu), (if a = 5 then v else we), (if a = 6 then v else sh)), H, ht, K, tl, tb, fa, r1, r2)) ∨ (¬ (sAl a v = true) ∧ zk = 1 ∧ cV σ' (bA (w, h, (T, S, F, P, O, nf, df, nl, lg), (s, re, fo, ra, tu, we, sh), H, ht, K, tl, tb, fa, r1, r2)))))) (rmA 9 4 24)) (SC g) n' σ' 4 24 8 [(0, yR g 0), (1, yI a), (2, yI v), (3, yR g 171)] [yI zv, yI 0, yR g 171]
    refine y_i2lw (pc := 8) hF dL_set_8 ?_
    refine y_lastore (pc := 9) (len := 1) hF dL_set_9 (by omega) rfl (by decide) (by decide) ?_
    refine y_goto (pc := 10) hF dL_set_10 17 rfl ?_
    refine y_iconst (pc := 17) hF dL_set_17 ?_
    refine y_iret (pc := 18) hF dL_set_18 (Nat.le_of_ble_eq_true rfl) (Nat.le_of_ble_eq_true rfl) ⟨_, rfl, h1, (fun c hc hc2 => ?_), Or.inl ⟨h2, rfl, ?_, ?_⟩⟩
    · rw [yset_n hc2]
      exact h4 c hc
    · rw [yset_e, h5]
    · exact cV_out h3

theorem wl_hole : Cond.codeWith yL_hole cL_hole 7 (some .int) [(0, 14, 17, 23), (0, 14, 21, 13)] ∈ y_tb := y_in (mt_3 _ (List.mem_of_getElem? (i := 181) rfl)) rfl
theorem dL_hole_0 : decode cL_hole 0 = .ok (.aload 5, 2) := by decide +kernel
theorem dL_hole_2 : decode cL_hole 2 = .ok (.iconst 0, 1) := by decide +kernel
theorem dL_hole_3 : decode cL_hole 3 = .ok (.aload_n 0, 1) := by decide +kernel
theorem dL_hole_4 : decode cL_hole 4 = .ok (.iload_n 1, 1) := by decide +kernel
theorem dL_hole_5 : decode cL_hole 5 = .ok (.iload_n 2, 1) := by decide +kernel
theorem dL_hole_6 : decode cL_hole 6 = .ok (.iload_n 3, 1) := by decide +kernel
theorem dL_hole_7 : decode cL_hole 7 = .ok (.iload 4, 2) := by decide +kernel
theorem dL_hole_9 : decode cL_hole 9 = .ok (.invokevirtual 19, 3) := by decide +kernel
theorem dL_hole_12 : decode cL_hole 12 = .ok (.i2l, 1) := by decide +kernel
theorem dL_hole_13 : decode cL_hole 13 = .ok (.lastore, 1) := by decide +kernel
theorem dL_hole_14 : decode cL_hole 14 = .ok (.goto 11, 3) := by decide +kernel
theorem dL_hole_17 : decode cL_hole 17 = .ok (.astore 6, 2) := by decide +kernel
theorem dL_hole_19 : decode cL_hole 19 = .ok (.iconst 1, 1) := by decide +kernel
theorem dL_hole_20 : decode cL_hole 20 = .ok (.ireturn, 1) := by decide +kernel
theorem dL_hole_21 : decode cL_hole 21 = .ok (.astore 6, 2) := by decide +kernel
theorem dL_hole_23 : decode cL_hole 23 = .ok (.iconst 2, 1) := by decide +kernel
theorem dL_hole_24 : decode cL_hole 24 = .ok (.ireturn, 1) := by decide +kernel
theorem dL_hole_25 : decode cL_hole 25 = .ok (.iconst 0, 1) := by decide +kernel
theorem dL_hole_26 : decode cL_hole 26 = .ok (.ireturn, 1) := by decide +kernel
set_option maxHeartbeats 4000000 in
set_option maxRecDepth 100000 in
theorem tL_hole {l : Launch} {g : yG} {n : Nat} {σ : yM} (hlt : l.stackTraces = false) (hn : 172 ≤ n) (w h : Int) (T S F P O : Int → Int → Int) (nf df nl : Int) (lg : Int → Int → Int) (s re fo ra tu we sh : Int) (H : List aX) (ht : Bool) (K : Int → Int → Int) (tl : Int) (tb : Int → Int) (fa r1 r2 N : Int) (hV : cV σ (w, h, (T, S, F, P, O, nf, df, nl, lg), (s, re, fo, ra, tu, we, sh), H, ht, K, tl, tb, fa, r1, r2)) (hW : aW N (w, h, (T, S, F, P, O, nf, df, nl, lg), (s, re, fo, ra, tu, we, sh), H, ht, K, tl, tb, fa, r1, r2)) (x y tx ty : Int) (hx : -2147483648 ≤ x ∧ x < 2147483648) (hy : -2147483648 ≤ y ∧ y < 2147483648) (htx : -2147483648 ≤ tx ∧ tx < 2147483648) (hty : -2147483648 ≤ ty ∧ ty < 2147483648) : yMH l g yL_hole cL_hole 7 (some .int) [(0, 14, 17, 23), (0, 14, 21, 13)] (rmA 9 4 24) [yR g 0, yI x, yI y, yI tx, yI ty, yR g 171] (SC g) n σ (SC g) (yPi (fun zk n' σ' => n ≤ n' ∧ cG σ σ' ∧ ((((sIn w h x y = true ∧ sIn w h tx ty = true) ∧ x ≤ tx ∧ y ≤ ty) ∧ zk = 0 ∧ σ' 171 0 = wr (hC w h T x y tx ty) ∧ cV σ' (if hC w h T x y tx ty = 0 then (w, h, (T, S, F, P, O, nf, df, nl, lg), (s, re, fo, ra, tu, we, sh), H, ht, K, tl, tb, fa, r1, r2) else (w, h, (dHo (dR x y tx x (ty + 1)) (-1) T, dHo (dR x y tx x (ty + 1)) 0 S, dHo (dR x y tx x (ty + 1)) 0 F, dHo (dR x y tx x (ty + 1)) (-1) P, dHo (dR x y tx x (ty + 1)) (-1) O, nf, df, nl, lg), (s, re, fo, ra, tu, we, sh), pH (T, S, F, P, O, nf, df, nl, lg) H, ht, K, tl, tb, fa, r1, r2))) ∨ (¬ (sIn w h x y = true ∧ sIn w h tx ty = true) ∧ zk = 1 ∧ cV σ' (bN (w, h, (T, S, F, P, O, nf, df, nl, lg), (s, re, fo, ra, tu, we, sh), H, ht, K, tl, tb, fa, r1, r2))) ∨ ((sIn w h x y = true ∧ sIn w h tx ty = true) ∧ ¬ (x ≤ tx ∧ y ≤ ty) ∧ zk = 2 ∧ cV σ' (bA (w, h, (T, S, F, P, O, nf, df, nl, lg), (s, re, fo, ra, tu, we, sh), H, ht, K, tl, tb, fa, r1, r2)))))) := by
  refine y_startH (by decide) (Nat.le_of_ble_eq_true rfl) (fun X0 hFH => ?_)
  have hF := hFH.1
  show yV X0 g 7 (yQ X0 g (SC g) (yPi (fun zk n' σ' => n ≤ n' ∧ cG σ σ' ∧ ((((sIn w h x y = true ∧ sIn w h tx ty = true) ∧ x ≤ tx ∧ y ≤ ty) ∧ zk = 0 ∧ σ' 171 0 = wr (hC w h T x y tx ty) ∧ cV σ' (if hC w h T x y tx ty = 0 then (w, h, (T, S, F, P, O, nf, df, nl, lg), (s, re, fo, ra, tu, we, sh), H, ht, K, tl, tb, fa, r1, r2) else (w, h, (dHo (dR x y tx x (ty + 1)) (-1) T, dHo (dR x y tx x (ty + 1)) 0 S, dHo (dR x y tx x (ty + 1)) 0 F, dHo (dR x y tx x (ty + 1)) (-1) P, dHo (dR x y tx x (ty + 1)) (-1) O, nf, df, nl, lg), (s, re, fo, ra, tu, we, sh), pH (T, S, F, P, O, nf, df, nl, lg) H, ht, K, tl, tb, fa, r1, r2))) ∨ (¬ (sIn w h x y = true ∧ sIn w h tx ty = true) ∧ zk = 1 ∧ cV σ' (bN (w, h, (T, S, F, P, O, nf, df, nl, lg), (s, re, fo, ra, tu, we, sh), H, ht, K, tl, tb, fa, r1, r2))) ∨ ((sIn w h x y = true ∧ sIn w h tx ty = true) ∧ ¬ (x ≤ tx ∧ y ≤ ty) ∧ zk = 2 ∧ cV σ' (bA (w, h, (T, S, F, P, O, nf, df, nl, lg), (s, re, fo, ra, tu, we, sh), H, ht, K, tl, tb, fa, r1, r2)))))) (rmA 9 4 24)) (SC g) n σ 0 0 0 [(0, yR g 0), (1, yI x), (2, yI y), (3, yI tx), (4, yI ty), (5, yR g 171)] []
  refine y_aload (pc := 0) hF dL_hole_0 5 rfl ?_
  refine y_iconst (pc := 2) hF dL_hole_2 ?_
  refine y_aload_n (pc := 3) hF dL_hole_3 0 rfl ?_
  refine y_iload_n (pc := 4) hF dL_hole_4 1 rfl ?_
  refine y_iload_n (pc := 5) hF dL_hole_5 2 rfl ?_
  refine y_iload_n (pc := 6) hF dL_hole_6 3 rfl ?_
  refine y_iload (pc := 7) hF dL_hole_7 4 rfl ?_
  refine y_contH (cells' := 4) (slots' := 24) hFH (y_rVH (pc := 9) hFH (tX10_hole hlt hn w h T S F P O nf df nl lg s re fo ra tu we sh H ht K tl tb fa r1 r2 N hV hW x y tx ty hx hy htx hty) dL_hole_9 (by omega) rfl rfl rfl w_748 qX10_hole rfl ⟨Nat.le_of_ble_eq_true rfl, Nat.le_of_ble_eq_true rfl⟩ ⟨Nat.le_of_ble_eq_true rfl, Nat.le_of_ble_eq_true rfl⟩ (Nat.le_of_ble_eq_true rfl) rfl (rest := [yI 0, yR g 171])) rfl rfl (fun E n' σ' zx => ?_) (fun r n' σ' zp => ?_)
  · obtain ⟨h1, h2, h4⟩ := zx
    rcases h2 with ⟨zE, h2, h3⟩ | ⟨zE, h2, h5, h3⟩
    · subst zE
      refine ⟨[], (0, 14, 17, 23), [(0, 14, 21, 13)], rfl, (fun y hy => nomatch hy), (by decide), (by decide), w_747, w_766, fun q => ?_⟩
      refine y_astoreS (pc := 17) (lv' := [(0, yR g 0), (1, yI x), (2, yI y), (3, yI tx), (4, yI ty), (5, yR g 171), (6, .ref q)]) hF dL_hole_17 (by decide) rfl rfl ?_
      refine y_iconst (pc := 19) hF dL_hole_19 ?_
      exact y_iret (pc := 20) hF dL_hole_20 (Nat.le_of_ble_eq_true rfl) (Nat.le_of_ble_eq_true rfl) ⟨_, rfl, h1, (fun c hc _ => h4 c hc), Or.inr (Or.inl ⟨h2, rfl, h3⟩)⟩
    · subst zE
      refine ⟨[(0, 14, 17, 23)], (0, 14, 21, 13), [], rfl, (fun y hy => by rw [List.mem_singleton.mp hy]; exact ⟨by decide, rfl, w_747⟩), (by decide), (by decide), w_606, w_617, fun q => ?_⟩
      refine y_astoreS (pc := 21) (lv' := [(0, yR g 0), (1, yI x), (2, yI y), (3, yI tx), (4, yI ty), (5, yR g 171), (6, .ref q)]) hF dL_hole_21 (by decide) rfl rfl ?_
      refine y_iconst (pc := 23) hF dL_hole_23 ?_
      exact y_iret (pc := 24) hF dL_hole_24 (Nat.le_of_ble_eq_true rfl) (Nat.le_of_ble_eq_true rfl) ⟨_, rfl, h1, (fun c hc _ => h4 c hc), Or.inr (Or.inr ⟨h2, h5, rfl, h3⟩)⟩
  · obtain ⟨zv, rfl, h1, h2, h5, h3, h4⟩ := zp
    show yV X0 g 7 (yQ X0 g (SC g) (yPi (fun zk n' σ' => n ≤ n' ∧ cG σ σ' ∧ ((((sIn w h x y = true ∧ sIn w h tx ty = true) ∧ x ≤ tx ∧ y ≤ ty) ∧ zk = 0 ∧ σ' 171 0 = wr (hC w h T x y tx ty) ∧ cV σ' (if hC w h T x y tx ty = 0 then (w, h, (T, S, F, P, O, nf, df, nl, lg), (s, re, fo, ra, tu, we, sh), H, ht, K, tl, tb, fa, r1, r2) else (w, h, (dHo (dR x y tx x (ty + 1)) (-1) T, dHo (dR x y tx x (ty + 1)) 0 S, dHo (dR x y tx x (ty + 1)) 0 F, dHo (dR x y tx x (ty + 1)) (-1) P, dHo (dR x y tx x (ty + 1)) (-1) O, nf, df, nl, lg), (s, re, fo, ra, tu, we, sh), pH (T, S, F, P, O, nf, df, nl, lg) H, ht, K, tl, tb, fa, r1, r2))) ∨ (¬ (sIn w h x y = true ∧ sIn w h tx ty = true) ∧ zk = 1 ∧ cV σ' (bN (w, h, (T, S, F, P, O, nf, df, nl, lg), (s, re, fo, ra, tu, we, sh), H, ht, K, tl, tb, fa, r1, r2))) ∨ ((sIn w h x y = true ∧ sIn w h tx ty = true) ∧ ¬ (x ≤ tx ∧ y ≤ ty) ∧ zk = 2 ∧ cV σ' (bA (w, h, (T, S, F, P, O, nf, df, nl, lg), (s, re, fo, ra, tu, we, sh), H, ht, K, tl, tb, fa, r1, r2)))))) (rmA 9 4 24)) (SC g) n' σ' 4 24 12 [(0, yR g 0), (1, yI x), (2, yI y), (3, yI tx), (4, yI ty), (5, yR g 171)] [yI zv, yI 0, yR g 171]
    refine y_i2lw (pc := 12) hF dL_hole_12 ?_
    refine y_lastore (pc := 13) (len := 1) hF dL_hole_13 (by omega) rfl (by decide) (by decide) ?_
    refine y_goto (pc := 14) hF dL_hole_14 25 rfl ?_
    refine y_iconst (pc := 25) hF dL_hole_25 ?_
    refine y_iret (pc := 26) hF dL_hole_26 (Nat.le_of_ble_eq_true rfl) (Nat.le_of_ble_eq_true rfl) ⟨_, rfl, h1, (fun c hc hc2 => ?_), Or.inl ⟨h2, rfl, ?_, ?_⟩⟩
    · rw [yset_n hc2]
      exact h4 c hc
    · rw [yset_e, h5]
    · exact cV_out h3

theorem wl_paint : Cond.codeWith yL_paint cL_paint 6 (some .int) [(0, 12, 15, 23), (0, 12, 19, 13)] ∈ y_tb := y_in (mt_3 _ (List.mem_of_getElem? (i := 236) rfl)) rfl
theorem dL_paint_0 : decode cL_paint 0 = .ok (.aload 4, 2) := by decide +kernel
theorem dL_paint_2 : decode cL_paint 2 = .ok (.iconst 0, 1) := by decide +kernel
theorem dL_paint_3 : decode cL_paint 3 = .ok (.aload_n 0, 1) := by decide +kernel
theorem dL_paint_4 : decode cL_paint 4 = .ok (.iload_n 1, 1) := by decide +kernel
theorem dL_paint_5 : decode cL_paint 5 = .ok (.iload_n 2, 1) := by decide +kernel
theorem dL_paint_6 : decode cL_paint 6 = .ok (.iload_n 3, 1) := by decide +kernel
theorem dL_paint_7 : decode cL_paint 7 = .ok (.invokevirtual 25, 3) := by decide +kernel
theorem dL_paint_10 : decode cL_paint 10 = .ok (.i2l, 1) := by decide +kernel
theorem dL_paint_11 : decode cL_paint 11 = .ok (.lastore, 1) := by decide +kernel
theorem dL_paint_12 : decode cL_paint 12 = .ok (.goto 11, 3) := by decide +kernel
theorem dL_paint_15 : decode cL_paint 15 = .ok (.astore 5, 2) := by decide +kernel
theorem dL_paint_17 : decode cL_paint 17 = .ok (.iconst 1, 1) := by decide +kernel
theorem dL_paint_18 : decode cL_paint 18 = .ok (.ireturn, 1) := by decide +kernel
theorem dL_paint_19 : decode cL_paint 19 = .ok (.astore 5, 2) := by decide +kernel
theorem dL_paint_21 : decode cL_paint 21 = .ok (.iconst 2, 1) := by decide +kernel
theorem dL_paint_22 : decode cL_paint 22 = .ok (.ireturn, 1) := by decide +kernel
theorem dL_paint_23 : decode cL_paint 23 = .ok (.iconst 0, 1) := by decide +kernel
theorem dL_paint_24 : decode cL_paint 24 = .ok (.ireturn, 1) := by decide +kernel
set_option maxHeartbeats 4000000 in
set_option maxRecDepth 100000 in
theorem tL_paint {l : Launch} {g : yG} {n : Nat} {σ : yM} (hlt : l.stackTraces = false) (hn : 172 ≤ n) (w h : Int) (T S F P O : Int → Int → Int) (nf df nl : Int) (lg : Int → Int → Int) (s re fo ra tu we sh : Int) (H : List aX) (ht : Bool) (K : Int → Int → Int) (tl : Int) (tb : Int → Int) (fa r1 r2 N : Int) (hV : cV σ (w, h, (T, S, F, P, O, nf, df, nl, lg), (s, re, fo, ra, tu, we, sh), H, ht, K, tl, tb, fa, r1, r2)) (hW : aW N (w, h, (T, S, F, P, O, nf, df, nl, lg), (s, re, fo, ra, tu, we, sh), H, ht, K, tl, tb, fa, r1, r2)) (x y e_ : Int) (hx : -2147483648 ≤ x ∧ x < 2147483648) (hy : -2147483648 ≤ y ∧ y < 2147483648) (he_ : -2147483648 ≤ e_ ∧ e_ < 2147483648) : yMH l g yL_paint cL_paint 6 (some .int) [(0, 12, 15, 23), (0, 12, 19, 13)] (rmA 9 4 24) [yR g 0, yI x, yI y, yI e_, yR g 171] (SC g) n σ (SC g) (yPi (fun zk n' σ' => n ≤ n' ∧ cG σ σ' ∧ ((((sIn w h x y = true) ∧ 0 ≤ e_ ∧ e_ ≤ 255) ∧ zk = 0 ∧ σ' 171 0 = wr (T x y) ∧ cV σ' (w, h, (lup T x y e_, lup S x y (if e_ = -1 then 0 else 1000), lup F x y 0, lup P x y (-1), lup O x y (-1), nf, df, nl, lg), (s, re, fo, ra, tu, we, sh), pH (T, S, F, P, O, nf, df, nl, lg) H, ht, K, tl, tb, fa, r1, r2)) ∨ (¬ (sIn w h x y = true) ∧ zk = 1 ∧ cV σ' (bN (w, h, (T, S, F, P, O, nf, df, nl, lg), (s, re, fo, ra, tu, we, sh), H, ht, K, tl, tb, fa, r1, r2))) ∨ ((sIn w h x y = true) ∧ ¬ (0 ≤ e_ ∧ e_ ≤ 255) ∧ zk = 2 ∧ cV σ' (bA (w, h, (T, S, F, P, O, nf, df, nl, lg), (s, re, fo, ra, tu, we, sh), H, ht, K, tl, tb, fa, r1, r2)))))) := by
  refine y_startH (by decide) (Nat.le_of_ble_eq_true rfl) (fun X0 hFH => ?_)
  have hF := hFH.1
  show yV X0 g 6 (yQ X0 g (SC g) (yPi (fun zk n' σ' => n ≤ n' ∧ cG σ σ' ∧ ((((sIn w h x y = true) ∧ 0 ≤ e_ ∧ e_ ≤ 255) ∧ zk = 0 ∧ σ' 171 0 = wr (T x y) ∧ cV σ' (w, h, (lup T x y e_, lup S x y (if e_ = -1 then 0 else 1000), lup F x y 0, lup P x y (-1), lup O x y (-1), nf, df, nl, lg), (s, re, fo, ra, tu, we, sh), pH (T, S, F, P, O, nf, df, nl, lg) H, ht, K, tl, tb, fa, r1, r2)) ∨ (¬ (sIn w h x y = true) ∧ zk = 1 ∧ cV σ' (bN (w, h, (T, S, F, P, O, nf, df, nl, lg), (s, re, fo, ra, tu, we, sh), H, ht, K, tl, tb, fa, r1, r2))) ∨ ((sIn w h x y = true) ∧ ¬ (0 ≤ e_ ∧ e_ ≤ 255) ∧ zk = 2 ∧ cV σ' (bA (w, h, (T, S, F, P, O, nf, df, nl, lg), (s, re, fo, ra, tu, we, sh), H, ht, K, tl, tb, fa, r1, r2)))))) (rmA 9 4 24)) (SC g) n σ 0 0 0 [(0, yR g 0), (1, yI x), (2, yI y), (3, yI e_), (4, yR g 171)] []
  refine y_aload (pc := 0) hF dL_paint_0 4 rfl ?_
  refine y_iconst (pc := 2) hF dL_paint_2 ?_
  refine y_aload_n (pc := 3) hF dL_paint_3 0 rfl ?_
  refine y_iload_n (pc := 4) hF dL_paint_4 1 rfl ?_
  refine y_iload_n (pc := 5) hF dL_paint_5 2 rfl ?_
  refine y_iload_n (pc := 6) hF dL_paint_6 3 rfl ?_
  refine y_contH (cells' := 4) (slots' := 24) hFH (y_rVH (pc := 7) hFH (tX10_paint hlt hn w h T S F P O nf df nl lg s re fo ra tu we sh H ht K tl tb fa r1 r2 N hV hW x y e_ hx hy he_) dL_paint_7 (by omega) rfl rfl rfl w_802 qX10_paint rfl ⟨Nat.le_of_ble_eq_true rfl, Nat.le_of_ble_eq_true rfl⟩ ⟨Nat.le_of_ble_eq_true rfl, Nat.le_of_ble_eq_true rfl⟩ (Nat.le_of_ble_eq_true rfl) rfl (rest := [yI 0, yR g 171])) rfl rfl (fun E n' σ' zx => ?_) (fun r n' σ' zp => ?_)
  · obtain ⟨h1, h2, h4⟩ := zx
    rcases h2 with ⟨zE, h2, h3⟩ | ⟨zE, h2, h5, h3⟩
    · subst zE
      refine ⟨[], (0, 12, 15, 23), [(0, 12, 19, 13)], rfl, (fun y hy => nomatch hy), (by decide), (by decide), w_747, w_766, fun q => ?_⟩
      refine y_astoreS (pc := 15) (lv' := [(0, yR g 0), (1, yI x), (2, yI y), (3, yI e_), (4, yR g 171), (5, .ref q)]) hF dL_paint_15 (by decide) rfl rfl ?_
      refine y_iconst (pc := 17) hF dL_paint_17 ?_
      exact y_iret (pc := 18) hF dL_paint_18 (Nat.le_of_ble_eq_true rfl) (Nat.le_of_ble_eq_true rfl) ⟨_, rfl, h1, (fun c hc _ => h4 c hc), Or.inr (Or.inl ⟨h2, rfl, h3⟩)⟩
    · subst zE
      refine ⟨[(0, 12, 15, 23)], (0, 12, 19, 13), [], rfl, (fun y hy => by rw [List.mem_singleton.mp hy]; exact ⟨by decide, rfl, w_747⟩), (by decide), (by decide), w_606, w_617, fun q => ?_⟩
      refine y_astoreS (pc := 19) (lv' := [(0, yR g 0), (1, yI x), (2, yI y), (3, yI e_), (4, yR g 171), (5, .ref q)]) hF dL_paint_19 (by decide) rfl rfl ?_
      refine y_iconst (pc := 21) hF dL_paint_21 ?_
      exact y_iret (pc := 22) hF dL_paint_22 (Nat.le_of_ble_eq_true rfl) (Nat.le_of_ble_eq_true rfl) ⟨_, rfl, h1, (fun c hc _ => h4 c hc), Or.inr (Or.inr ⟨h2, h5, rfl, h3⟩)⟩
  · obtain ⟨zv, rfl, h1, h2, h5, h3, h4⟩ := zp
    show yV X0 g 6 (yQ X0 g (SC g) (yPi (fun zk n' σ' => n ≤ n' ∧ cG σ σ' ∧ ((((sIn w h x y = true) ∧ 0 ≤ e_ ∧ e_ ≤ 255) ∧ zk = 0 ∧ σ' 171 0 = wr (T x y) ∧ cV σ' (w, h, (lup T x y e_, lup S x y (if e_ = -1 then 0 else 1000), lup F x y 0, lup P x y (-1), lup O x y (-1), nf, df, nl, lg), (s, re, fo, ra, tu, we, sh), pH (T, S, F, P, O, nf, df, nl, lg) H, ht, K, tl, tb, fa, r1, r2)) ∨ (¬ (sIn w h x y = true) ∧ zk = 1 ∧ cV σ' (bN (w, h, (T, S, F, P, O, nf, df, nl, lg), (s, re, fo, ra, tu, we, sh), H, ht, K, tl, tb, fa, r1, r2))) ∨ ((sIn w h x y = true) ∧ ¬ (0 ≤ e_ ∧ e_ ≤ 255) ∧ zk = 2 ∧ cV σ' (bA (w, h, (T, S, F, P, O, nf, df, nl, lg), (s, re, fo, ra, tu, we, sh), H, ht, K, tl, tb, fa, r1, r2)))))) (rmA 9 4 24)) (SC g) n' σ' 4 24 10 [(0, yR g 0), (1, yI x), (2, yI y), (3, yI e_), (4, yR g 171)] [yI zv, yI 0, yR g 171]
    refine y_i2lw (pc := 10) hF dL_paint_10 ?_
    refine y_lastore (pc := 11) (len := 1) hF dL_paint_11 (by omega) rfl (by decide) (by decide) ?_
    refine y_goto (pc := 12) hF dL_paint_12 23 rfl ?_
    refine y_iconst (pc := 23) hF dL_paint_23 ?_
    refine y_iret (pc := 24) hF dL_paint_24 (Nat.le_of_ble_eq_true rfl) (Nat.le_of_ble_eq_true rfl) ⟨_, rfl, h1, (fun c hc hc2 => ?_), Or.inl ⟨h2, rfl, ?_, ?_⟩⟩
    · rw [yset_n hc2]
      exact h4 c hc
    · rw [yset_e, h5]
    · exact cV_out h3

theorem wl_fill : Cond.codeWith yL_fill cL_fill 4 (some .int) [(0, 9, 12, 13)] ∈ y_tb := y_in (mt_4 _ (List.mem_of_getElem? (i := 3) rfl)) rfl
theorem dL_fill_0 : decode cL_fill 0 = .ok (.aload_n 2, 1) := by decide +kernel
theorem dL_fill_1 : decode cL_fill 1 = .ok (.iconst 0, 1) := by decide +kernel
theorem dL_fill_2 : decode cL_fill 2 = .ok (.aload_n 0, 1) := by decide +kernel
theorem dL_fill_3 : decode cL_fill 3 = .ok (.iload_n 1, 1) := by decide +kernel
theorem dL_fill_4 : decode cL_fill 4 = .ok (.invokevirtual 29, 3) := by decide +kernel
theorem dL_fill_7 : decode cL_fill 7 = .ok (.i2l, 1) := by decide +kernel
theorem dL_fill_8 : decode cL_fill 8 = .ok (.lastore, 1) := by decide +kernel
theorem dL_fill_9 : decode cL_fill 9 = .ok (.goto 6, 3) := by decide +kernel
theorem dL_fill_12 : decode cL_fill 12 = .ok (.astore_n 3, 1) := by decide +kernel
theorem dL_fill_13 : decode cL_fill 13 = .ok (.iconst 1, 1) := by decide +kernel
theorem dL_fill_14 : decode cL_fill 14 = .ok (.ireturn, 1) := by decide +kernel
theorem dL_fill_15 : decode cL_fill 15 = .ok (.iconst 0, 1) := by decide +kernel
theorem dL_fill_16 : decode cL_fill 16 = .ok (.ireturn, 1) := by decide +kernel
set_option maxHeartbeats 4000000 in
set_option maxRecDepth 100000 in
theorem tL_fill {l : Launch} {g : yG} {n : Nat} {σ : yM} (hlt : l.stackTraces = false) (hn : 172 ≤ n) (w h : Int) (T S F P O : Int → Int → Int) (nf df nl : Int) (lg : Int → Int → Int) (s re fo ra tu we sh : Int) (H : List aX) (ht : Bool) (K : Int → Int → Int) (tl : Int) (tb : Int → Int) (fa r1 r2 N : Int) (hV : cV σ (w, h, (T, S, F, P, O, nf, df, nl, lg), (s, re, fo, ra, tu, we, sh), H, ht, K, tl, tb, fa, r1, r2)) (hW : aW N (w, h, (T, S, F, P, O, nf, df, nl, lg), (s, re, fo, ra, tu, we, sh), H, ht, K, tl, tb, fa, r1, r2)) (hNb : N ≤ 400000000) (a : Int) (ha : -2147483648 ≤ a ∧ a < 2147483648) : yMH l g yL_fill cL_fill 4 (some .int) [(0, 9, 12, 13)] (rmA 9 4 24) [yR g 0, yI a, yR g 171] (SC g) n σ (SC g) (yPi (fun zk n' σ' => n ≤ n' ∧ cG σ σ' ∧ (((1 ≤ a ∧ a ≤ 60) ∧ zk = 0 ∧ σ' 171 0 = wr (((gR w h s re fo ra tu we sh 0 a.toNat (T, S, F, P, O, nf, df, nl, lg)).1 : Nat) : Int) ∧ cV σ' (w, h, (gR w h s re fo ra tu we sh 0 a.toNat (T, S, F, P, O, nf, df, nl, lg)).2, (s, re, fo, ra, tu, we, sh), (if 0 < (((gR w h s re fo ra tu we sh 0 a.toNat (T, S, F, P, O, nf, df, nl, lg)).1 : Nat) : Int) then pH (T, S, F, P, O, nf, df, nl, lg) H else H), ht, K, tl, tb, fa, r1, r2)) ∨ (¬ (1 ≤ a ∧ a ≤ 60) ∧ zk = 1 ∧ cV σ' (bA (w, h, (T, S, F, P, O, nf, df, nl, lg), (s, re, fo, ra, tu, we, sh), H, ht, K, tl, tb, fa, r1, r2)))))) := by
  refine y_startH (by decide) (Nat.le_of_ble_eq_true rfl) (fun X0 hFH => ?_)
  have hF := hFH.1
  show yV X0 g 4 (yQ X0 g (SC g) (yPi (fun zk n' σ' => n ≤ n' ∧ cG σ σ' ∧ (((1 ≤ a ∧ a ≤ 60) ∧ zk = 0 ∧ σ' 171 0 = wr (((gR w h s re fo ra tu we sh 0 a.toNat (T, S, F, P, O, nf, df, nl, lg)).1 : Nat) : Int) ∧ cV σ' (w, h, (gR w h s re fo ra tu we sh 0 a.toNat (T, S, F, P, O, nf, df, nl, lg)).2, (s, re, fo, ra, tu, we, sh), (if 0 < (((gR w h s re fo ra tu we sh 0 a.toNat (T, S, F, P, O, nf, df, nl, lg)).1 : Nat) : Int) then pH (T, S, F, P, O, nf, df, nl, lg) H else H), ht, K, tl, tb, fa, r1, r2)) ∨ (¬ (1 ≤ a ∧ a ≤ 60) ∧ zk = 1 ∧ cV σ' (bA (w, h, (T, S, F, P, O, nf, df, nl, lg), (s, re, fo, ra, tu, we, sh), H, ht, K, tl, tb, fa, r1, r2)))))) (rmA 9 4 24)) (SC g) n σ 0 0 0 [(0, yR g 0), (1, yI a), (2, yR g 171)] []
  refine y_aload_n (pc := 0) hF dL_fill_0 2 rfl ?_
  refine y_iconst (pc := 1) hF dL_fill_1 ?_
  refine y_aload_n (pc := 2) hF dL_fill_2 0 rfl ?_
  refine y_iload_n (pc := 3) hF dL_fill_3 1 rfl ?_
  refine y_contH (cells' := 4) (slots' := 24) hFH (y_rVH (pc := 4) hFH (tX10_fill hlt hn w h T S F P O nf df nl lg s re fo ra tu we sh H ht K tl tb fa r1 r2 N hV hW hNb a ha) dL_fill_4 (by omega) rfl rfl rfl w_809 qX10_fill rfl ⟨Nat.le_of_ble_eq_true rfl, Nat.le_of_ble_eq_true rfl⟩ ⟨Nat.le_of_ble_eq_true rfl, Nat.le_of_ble_eq_true rfl⟩ (Nat.le_of_ble_eq_true rfl) rfl (rest := [yI 0, yR g 171])) rfl rfl (fun E n' σ' zx => ?_) (fun r n' σ' zp => ?_)
  · obtain ⟨zE, h1, h2, h3, h4⟩ := zx
    subst zE
    refine ⟨[], (0, 9, 12, 13), [], rfl, (fun y hy => nomatch hy), (by decide), (by decide), w_606, w_617, fun q => ?_⟩
    refine y_astoreS_n (pc := 12) (lv' := [(0, yR g 0), (1, yI a), (2, yR g 171), (3, .ref q)]) hF dL_fill_12 (by decide) rfl rfl ?_
    refine y_iconst (pc := 13) hF dL_fill_13 ?_
    exact y_iret (pc := 14) hF dL_fill_14 (Nat.le_of_ble_eq_true rfl) (Nat.le_of_ble_eq_true rfl) ⟨_, rfl, h1, (fun c hc _ => h4 c hc), Or.inr ⟨h2, rfl, h3⟩⟩
  · obtain ⟨zv, rfl, h1, h2, h5, h3, h4⟩ := zp
    show yV X0 g 4 (yQ X0 g (SC g) (yPi (fun zk n' σ' => n ≤ n' ∧ cG σ σ' ∧ (((1 ≤ a ∧ a ≤ 60) ∧ zk = 0 ∧ σ' 171 0 = wr (((gR w h s re fo ra tu we sh 0 a.toNat (T, S, F, P, O, nf, df, nl, lg)).1 : Nat) : Int) ∧ cV σ' (w, h, (gR w h s re fo ra tu we sh 0 a.toNat (T, S, F, P, O, nf, df, nl, lg)).2, (s, re, fo, ra, tu, we, sh), (if 0 < (((gR w h s re fo ra tu we sh 0 a.toNat (T, S, F, P, O, nf, df, nl, lg)).1 : Nat) : Int) then pH (T, S, F, P, O, nf, df, nl, lg) H else H), ht, K, tl, tb, fa, r1, r2)) ∨ (¬ (1 ≤ a ∧ a ≤ 60) ∧ zk = 1 ∧ cV σ' (bA (w, h, (T, S, F, P, O, nf, df, nl, lg), (s, re, fo, ra, tu, we, sh), H, ht, K, tl, tb, fa, r1, r2)))))) (rmA 9 4 24)) (SC g) n' σ' 4 24 7 [(0, yR g 0), (1, yI a), (2, yR g 171)] [yI zv, yI 0, yR g 171]
    refine y_i2lw (pc := 7) hF dL_fill_7 ?_
    refine y_lastore (pc := 8) (len := 1) hF dL_fill_8 (by omega) rfl (by decide) (by decide) ?_
    refine y_goto (pc := 9) hF dL_fill_9 15 rfl ?_
    refine y_iconst (pc := 15) hF dL_fill_15 ?_
    refine y_iret (pc := 16) hF dL_fill_16 (Nat.le_of_ble_eq_true rfl) (Nat.le_of_ble_eq_true rfl) ⟨_, rfl, h1, (fun c hc hc2 => ?_), Or.inl ⟨h2, rfl, ?_, ?_⟩⟩
    · rw [yset_n hc2]
      exact h4 c hc
    · rw [yset_e, h5]
    · exact cV_out h3

theorem wl_guide : Cond.codeWith yL_guide cL_guide 4 (some .int) [(0, 9, 12, 13)] ∈ y_tb := y_in (mt_4 _ (List.mem_of_getElem? (i := 169) rfl)) rfl
theorem dL_guide_0 : decode cL_guide 0 = .ok (.aload_n 2, 1) := by decide +kernel
theorem dL_guide_1 : decode cL_guide 1 = .ok (.iconst 0, 1) := by decide +kernel
theorem dL_guide_2 : decode cL_guide 2 = .ok (.aload_n 0, 1) := by decide +kernel
theorem dL_guide_3 : decode cL_guide 3 = .ok (.iload_n 1, 1) := by decide +kernel
theorem dL_guide_4 : decode cL_guide 4 = .ok (.invokevirtual 32, 3) := by decide +kernel
theorem dL_guide_7 : decode cL_guide 7 = .ok (.i2l, 1) := by decide +kernel
theorem dL_guide_8 : decode cL_guide 8 = .ok (.lastore, 1) := by decide +kernel
theorem dL_guide_9 : decode cL_guide 9 = .ok (.goto 6, 3) := by decide +kernel
theorem dL_guide_12 : decode cL_guide 12 = .ok (.astore_n 3, 1) := by decide +kernel
theorem dL_guide_13 : decode cL_guide 13 = .ok (.iconst 1, 1) := by decide +kernel
theorem dL_guide_14 : decode cL_guide 14 = .ok (.ireturn, 1) := by decide +kernel
theorem dL_guide_15 : decode cL_guide 15 = .ok (.iconst 0, 1) := by decide +kernel
theorem dL_guide_16 : decode cL_guide 16 = .ok (.ireturn, 1) := by decide +kernel
set_option maxHeartbeats 4000000 in
set_option maxRecDepth 100000 in
theorem tL_guide {l : Launch} {g : yG} {n : Nat} {σ : yM} (hlt : l.stackTraces = false) (hn : 172 ≤ n) (w h : Int) (T S F P O : Int → Int → Int) (nf df nl : Int) (lg : Int → Int → Int) (s re fo ra tu we sh : Int) (H : List aX) (ht : Bool) (K : Int → Int → Int) (tl : Int) (tb : Int → Int) (fa r1 r2 N : Int) (hV : cV σ (w, h, (T, S, F, P, O, nf, df, nl, lg), (s, re, fo, ra, tu, we, sh), H, ht, K, tl, tb, fa, r1, r2)) (hW : aW N (w, h, (T, S, F, P, O, nf, df, nl, lg), (s, re, fo, ra, tu, we, sh), H, ht, K, tl, tb, fa, r1, r2)) (hNb : N ≤ 400000000) (a : Int) (ha : -2147483648 ≤ a ∧ a < 2147483648) : yMH l g yL_guide cL_guide 4 (some .int) [(0, 9, 12, 13)] (rmA 9 4 24) [yR g 0, yI a, yR g 171] (SC g) n σ (SC g) (yPi (fun zk n' σ' => n ≤ n' ∧ cG σ σ' ∧ (((a = 1 ∨ a = 2) ∧ zk = 0 ∧ σ' 171 0 = wr (((gR w h s re fo ra tu we sh a (400 : Int).toNat (T, S, F, P, O, nf, df, nl, lg)).1 : Nat) : Int) ∧ cV σ' (w, h, (gR w h s re fo ra tu we sh a (400 : Int).toNat (T, S, F, P, O, nf, df, nl, lg)).2, (s, re, fo, ra, tu, we, sh), (if 0 < (((gR w h s re fo ra tu we sh a (400 : Int).toNat (T, S, F, P, O, nf, df, nl, lg)).1 : Nat) : Int) then pH (T, S, F, P, O, nf, df, nl, lg) H else H), ht, K, tl, tb, fa, r1, r2)) ∨ (¬ (a = 1 ∨ a = 2) ∧ zk = 1 ∧ cV σ' (bA (w, h, (T, S, F, P, O, nf, df, nl, lg), (s, re, fo, ra, tu, we, sh), H, ht, K, tl, tb, fa, r1, r2)))))) := by
  refine y_startH (by decide) (Nat.le_of_ble_eq_true rfl) (fun X0 hFH => ?_)
  have hF := hFH.1
  show yV X0 g 4 (yQ X0 g (SC g) (yPi (fun zk n' σ' => n ≤ n' ∧ cG σ σ' ∧ (((a = 1 ∨ a = 2) ∧ zk = 0 ∧ σ' 171 0 = wr (((gR w h s re fo ra tu we sh a (400 : Int).toNat (T, S, F, P, O, nf, df, nl, lg)).1 : Nat) : Int) ∧ cV σ' (w, h, (gR w h s re fo ra tu we sh a (400 : Int).toNat (T, S, F, P, O, nf, df, nl, lg)).2, (s, re, fo, ra, tu, we, sh), (if 0 < (((gR w h s re fo ra tu we sh a (400 : Int).toNat (T, S, F, P, O, nf, df, nl, lg)).1 : Nat) : Int) then pH (T, S, F, P, O, nf, df, nl, lg) H else H), ht, K, tl, tb, fa, r1, r2)) ∨ (¬ (a = 1 ∨ a = 2) ∧ zk = 1 ∧ cV σ' (bA (w, h, (T, S, F, P, O, nf, df, nl, lg), (s, re, fo, ra, tu, we, sh), H, ht, K, tl, tb, fa, r1, r2)))))) (rmA 9 4 24)) (SC g) n σ 0 0 0 [(0, yR g 0), (1, yI a), (2, yR g 171)] []
  refine y_aload_n (pc := 0) hF dL_guide_0 2 rfl ?_
  refine y_iconst (pc := 1) hF dL_guide_1 ?_
  refine y_aload_n (pc := 2) hF dL_guide_2 0 rfl ?_
  refine y_iload_n (pc := 3) hF dL_guide_3 1 rfl ?_
  refine y_contH (cells' := 4) (slots' := 24) hFH (y_rVH (pc := 4) hFH (tX10_guide hlt hn w h T S F P O nf df nl lg s re fo ra tu we sh H ht K tl tb fa r1 r2 N hV hW hNb a ha) dL_guide_4 (by omega) rfl rfl rfl w_975 qX10_guide rfl ⟨Nat.le_of_ble_eq_true rfl, Nat.le_of_ble_eq_true rfl⟩ ⟨Nat.le_of_ble_eq_true rfl, Nat.le_of_ble_eq_true rfl⟩ (Nat.le_of_ble_eq_true rfl) rfl (rest := [yI 0, yR g 171])) rfl rfl (fun E n' σ' zx => ?_) (fun r n' σ' zp => ?_)
  · obtain ⟨zE, h1, h2, h3, h4⟩ := zx
    subst zE
    refine ⟨[], (0, 9, 12, 13), [], rfl, (fun y hy => nomatch hy), (by decide), (by decide), w_606, w_617, fun q => ?_⟩
    refine y_astoreS_n (pc := 12) (lv' := [(0, yR g 0), (1, yI a), (2, yR g 171), (3, .ref q)]) hF dL_guide_12 (by decide) rfl rfl ?_
    refine y_iconst (pc := 13) hF dL_guide_13 ?_
    exact y_iret (pc := 14) hF dL_guide_14 (Nat.le_of_ble_eq_true rfl) (Nat.le_of_ble_eq_true rfl) ⟨_, rfl, h1, (fun c hc _ => h4 c hc), Or.inr ⟨h2, rfl, h3⟩⟩
  · obtain ⟨zv, rfl, h1, h2, h5, h3, h4⟩ := zp
    show yV X0 g 4 (yQ X0 g (SC g) (yPi (fun zk n' σ' => n ≤ n' ∧ cG σ σ' ∧ (((a = 1 ∨ a = 2) ∧ zk = 0 ∧ σ' 171 0 = wr (((gR w h s re fo ra tu we sh a (400 : Int).toNat (T, S, F, P, O, nf, df, nl, lg)).1 : Nat) : Int) ∧ cV σ' (w, h, (gR w h s re fo ra tu we sh a (400 : Int).toNat (T, S, F, P, O, nf, df, nl, lg)).2, (s, re, fo, ra, tu, we, sh), (if 0 < (((gR w h s re fo ra tu we sh a (400 : Int).toNat (T, S, F, P, O, nf, df, nl, lg)).1 : Nat) : Int) then pH (T, S, F, P, O, nf, df, nl, lg) H else H), ht, K, tl, tb, fa, r1, r2)) ∨ (¬ (a = 1 ∨ a = 2) ∧ zk = 1 ∧ cV σ' (bA (w, h, (T, S, F, P, O, nf, df, nl, lg), (s, re, fo, ra, tu, we, sh), H, ht, K, tl, tb, fa, r1, r2)))))) (rmA 9 4 24)) (SC g) n' σ' 4 24 7 [(0, yR g 0), (1, yI a), (2, yR g 171)] [yI zv, yI 0, yR g 171]
    refine y_i2lw (pc := 7) hF dL_guide_7 ?_
    refine y_lastore (pc := 8) (len := 1) hF dL_guide_8 (by omega) rfl (by decide) (by decide) ?_
    refine y_goto (pc := 9) hF dL_guide_9 15 rfl ?_
    refine y_iconst (pc := 15) hF dL_guide_15 ?_
    refine y_iret (pc := 16) hF dL_guide_16 (Nat.le_of_ble_eq_true rfl) (Nat.le_of_ble_eq_true rfl) ⟨_, rfl, h1, (fun c hc hc2 => ?_), Or.inl ⟨h2, rfl, ?_, ?_⟩⟩
    · rw [yset_n hc2]
      exact h4 c hc
    · rw [yset_e, h5]
    · exact cV_out h3

theorem wl_told : Cond.codeWith yL_told cL_told 4 (some .int) [(0, 9, 12, 13)] ∈ y_tb := y_in (mt_4 _ (List.mem_of_getElem? (i := 176) rfl)) rfl
theorem dL_told_0 : decode cL_told 0 = .ok (.aload_n 2, 1) := by decide +kernel
theorem dL_told_1 : decode cL_told 1 = .ok (.iconst 0, 1) := by decide +kernel
theorem dL_told_2 : decode cL_told 2 = .ok (.aload_n 0, 1) := by decide +kernel
theorem dL_told_3 : decode cL_told 3 = .ok (.iload_n 1, 1) := by decide +kernel
theorem dL_told_4 : decode cL_told 4 = .ok (.invokevirtual 35, 3) := by decide +kernel
theorem dL_told_7 : decode cL_told 7 = .ok (.i2l, 1) := by decide +kernel
theorem dL_told_8 : decode cL_told 8 = .ok (.lastore, 1) := by decide +kernel
theorem dL_told_9 : decode cL_told 9 = .ok (.goto 6, 3) := by decide +kernel
theorem dL_told_12 : decode cL_told 12 = .ok (.astore_n 3, 1) := by decide +kernel
theorem dL_told_13 : decode cL_told 13 = .ok (.iconst 1, 1) := by decide +kernel
theorem dL_told_14 : decode cL_told 14 = .ok (.ireturn, 1) := by decide +kernel
theorem dL_told_15 : decode cL_told 15 = .ok (.iconst 0, 1) := by decide +kernel
theorem dL_told_16 : decode cL_told 16 = .ok (.ireturn, 1) := by decide +kernel
set_option maxHeartbeats 4000000 in
set_option maxRecDepth 100000 in
theorem tL_told {l : Launch} {g : yG} {n : Nat} {σ : yM} (hlt : l.stackTraces = false) (hn : 172 ≤ n) (w h : Int) (T S F P O : Int → Int → Int) (nf df nl : Int) (lg : Int → Int → Int) (s re fo ra tu we sh : Int) (H : List aX) (ht : Bool) (K : Int → Int → Int) (tl : Int) (tb : Int → Int) (fa r1 r2 N : Int) (hV : cV σ (w, h, (T, S, F, P, O, nf, df, nl, lg), (s, re, fo, ra, tu, we, sh), H, ht, K, tl, tb, fa, r1, r2)) (hW : aW N (w, h, (T, S, F, P, O, nf, df, nl, lg), (s, re, fo, ra, tu, we, sh), H, ht, K, tl, tb, fa, r1, r2)) (a : Int) (ha : -2147483648 ≤ a ∧ a < 2147483648) : yMH l g yL_told cL_told 4 (some .int) [(0, 9, 12, 13)] (rmA 9 3 18) [yR g 0, yI a, yR g 171] (SC g) n σ (SC g) (yPi (fun zk n' σ' => n ≤ n' ∧ cG σ σ' ∧ (((0 ≤ a ∧ a ≤ 18) ∧ zk = 0 ∧ σ' 171 0 = wr (tV w h T F nf df (H.length : Int) tl s re fo ra tu we sh ht a) ∧ cV σ' (w, h, (T, S, F, P, O, nf, df, nl, lg), (s, re, fo, ra, tu, we, sh), H, ht, K, tl, tb, fa, r1, r2)) ∨ (¬ (0 ≤ a ∧ a ≤ 18) ∧ zk = 1 ∧ cV σ' (bA (w, h, (T, S, F, P, O, nf, df, nl, lg), (s, re, fo, ra, tu, we, sh), H, ht, K, tl, tb, fa, r1, r2)))))) := by
  refine y_startH (by decide) (Nat.le_of_ble_eq_true rfl) (fun X0 hFH => ?_)
  have hF := hFH.1
  show yV X0 g 4 (yQ X0 g (SC g) (yPi (fun zk n' σ' => n ≤ n' ∧ cG σ σ' ∧ (((0 ≤ a ∧ a ≤ 18) ∧ zk = 0 ∧ σ' 171 0 = wr (tV w h T F nf df (H.length : Int) tl s re fo ra tu we sh ht a) ∧ cV σ' (w, h, (T, S, F, P, O, nf, df, nl, lg), (s, re, fo, ra, tu, we, sh), H, ht, K, tl, tb, fa, r1, r2)) ∨ (¬ (0 ≤ a ∧ a ≤ 18) ∧ zk = 1 ∧ cV σ' (bA (w, h, (T, S, F, P, O, nf, df, nl, lg), (s, re, fo, ra, tu, we, sh), H, ht, K, tl, tb, fa, r1, r2)))))) (rmA 9 3 18)) (SC g) n σ 0 0 0 [(0, yR g 0), (1, yI a), (2, yR g 171)] []
  refine y_aload_n (pc := 0) hF dL_told_0 2 rfl ?_
  refine y_iconst (pc := 1) hF dL_told_1 ?_
  refine y_aload_n (pc := 2) hF dL_told_2 0 rfl ?_
  refine y_iload_n (pc := 3) hF dL_told_3 1 rfl ?_
  refine y_contH (cells' := 3) (slots' := 18) hFH (y_rVH (pc := 4) hFH (tX10_told hlt hn w h T S F P O nf df nl lg s re fo ra tu we sh H ht K tl tb fa r1 r2 N hV hW a ha) dL_told_4 (by omega) rfl rfl rfl w_982 qX10_told rfl ⟨Nat.le_of_ble_eq_true rfl, Nat.le_of_ble_eq_true rfl⟩ ⟨Nat.le_of_ble_eq_true rfl, Nat.le_of_ble_eq_true rfl⟩ (Nat.le_of_ble_eq_true rfl) rfl (rest := [yI 0, yR g 171])) rfl rfl (fun E n' σ' zx => ?_) (fun r n' σ' zp => ?_)
  · obtain ⟨zE, h1, h2, h3, h4⟩ := zx
    subst zE
    refine ⟨[], (0, 9, 12, 13), [], rfl, (fun y hy => nomatch hy), (by decide), (by decide), w_606, w_617, fun q => ?_⟩
    refine y_astoreS_n (pc := 12) (lv' := [(0, yR g 0), (1, yI a), (2, yR g 171), (3, .ref q)]) hF dL_told_12 (by decide) rfl rfl ?_
    refine y_iconst (pc := 13) hF dL_told_13 ?_
    exact y_iret (pc := 14) hF dL_told_14 (Nat.le_of_ble_eq_true rfl) (Nat.le_of_ble_eq_true rfl) ⟨_, rfl, h1, (fun c hc _ => h4 c hc), Or.inr ⟨h2, rfl, h3⟩⟩
  · obtain ⟨zv, rfl, h1, h2, h5, h3, h4⟩ := zp
    show yV X0 g 4 (yQ X0 g (SC g) (yPi (fun zk n' σ' => n ≤ n' ∧ cG σ σ' ∧ (((0 ≤ a ∧ a ≤ 18) ∧ zk = 0 ∧ σ' 171 0 = wr (tV w h T F nf df (H.length : Int) tl s re fo ra tu we sh ht a) ∧ cV σ' (w, h, (T, S, F, P, O, nf, df, nl, lg), (s, re, fo, ra, tu, we, sh), H, ht, K, tl, tb, fa, r1, r2)) ∨ (¬ (0 ≤ a ∧ a ≤ 18) ∧ zk = 1 ∧ cV σ' (bA (w, h, (T, S, F, P, O, nf, df, nl, lg), (s, re, fo, ra, tu, we, sh), H, ht, K, tl, tb, fa, r1, r2)))))) (rmA 9 3 18)) (SC g) n' σ' 3 18 7 [(0, yR g 0), (1, yI a), (2, yR g 171)] [yI zv, yI 0, yR g 171]
    refine y_i2lw (pc := 7) hF dL_told_7 ?_
    refine y_lastore (pc := 8) (len := 1) hF dL_told_8 (by omega) rfl (by decide) (by decide) ?_
    refine y_goto (pc := 9) hF dL_told_9 15 rfl ?_
    refine y_iconst (pc := 15) hF dL_told_15 ?_
    refine y_iret (pc := 16) hF dL_told_16 (Nat.le_of_ble_eq_true rfl) (Nat.le_of_ble_eq_true rfl) ⟨_, rfl, h1, (fun c hc hc2 => ?_), Or.inl ⟨h2, rfl, ?_, ?_⟩⟩
    · rw [yset_n hc2]
      exact h4 c hc
    · rw [yset_e, h5]
    · exact cV_out h3

theorem wl_dot : Cond.codeWith yL_dot cL_dot 6 (some .int) [(0, 12, 15, 23), (0, 12, 19, 13)] ∈ y_tb := y_in (mt_4 _ (List.mem_of_getElem? (i := 216) rfl)) rfl
theorem dL_dot_0 : decode cL_dot 0 = .ok (.aload 4, 2) := by decide +kernel
theorem dL_dot_2 : decode cL_dot 2 = .ok (.iconst 0, 1) := by decide +kernel
theorem dL_dot_3 : decode cL_dot 3 = .ok (.aload_n 0, 1) := by decide +kernel
theorem dL_dot_4 : decode cL_dot 4 = .ok (.iload_n 1, 1) := by decide +kernel
theorem dL_dot_5 : decode cL_dot 5 = .ok (.iload_n 2, 1) := by decide +kernel
theorem dL_dot_6 : decode cL_dot 6 = .ok (.iload_n 3, 1) := by decide +kernel
theorem dL_dot_7 : decode cL_dot 7 = .ok (.invokevirtual 38, 3) := by decide +kernel
theorem dL_dot_10 : decode cL_dot 10 = .ok (.i2l, 1) := by decide +kernel
theorem dL_dot_11 : decode cL_dot 11 = .ok (.lastore, 1) := by decide +kernel
theorem dL_dot_12 : decode cL_dot 12 = .ok (.goto 11, 3) := by decide +kernel
theorem dL_dot_15 : decode cL_dot 15 = .ok (.astore 5, 2) := by decide +kernel
theorem dL_dot_17 : decode cL_dot 17 = .ok (.iconst 1, 1) := by decide +kernel
theorem dL_dot_18 : decode cL_dot 18 = .ok (.ireturn, 1) := by decide +kernel
theorem dL_dot_19 : decode cL_dot 19 = .ok (.astore 5, 2) := by decide +kernel
theorem dL_dot_21 : decode cL_dot 21 = .ok (.iconst 2, 1) := by decide +kernel
theorem dL_dot_22 : decode cL_dot 22 = .ok (.ireturn, 1) := by decide +kernel
theorem dL_dot_23 : decode cL_dot 23 = .ok (.iconst 0, 1) := by decide +kernel
theorem dL_dot_24 : decode cL_dot 24 = .ok (.ireturn, 1) := by decide +kernel
set_option maxHeartbeats 4000000 in
set_option maxRecDepth 100000 in
theorem tL_dot {l : Launch} {g : yG} {n : Nat} {σ : yM} (hlt : l.stackTraces = false) (hn : 172 ≤ n) (w h : Int) (T S F P O : Int → Int → Int) (nf df nl : Int) (lg : Int → Int → Int) (s re fo ra tu we sh : Int) (H : List aX) (ht : Bool) (K : Int → Int → Int) (tl : Int) (tb : Int → Int) (fa r1 r2 N : Int) (hV : cV σ (w, h, (T, S, F, P, O, nf, df, nl, lg), (s, re, fo, ra, tu, we, sh), H, ht, K, tl, tb, fa, r1, r2)) (hW : aW N (w, h, (T, S, F, P, O, nf, df, nl, lg), (s, re, fo, ra, tu, we, sh), H, ht, K, tl, tb, fa, r1, r2)) (x y a : Int) (hx : -2147483648 ≤ x ∧ x < 2147483648) (hy : -2147483648 ≤ y ∧ y < 2147483648) (ha : -2147483648 ≤ a ∧ a < 2147483648) : yMH l g yL_dot cL_dot 6 (some .int) [(0, 12, 15, 23), (0, 12, 19, 13)] (rmA 9 3 18) [yR g 0, yI x, yI y, yI a, yR g 171] (SC g) n σ (SC g) (yPi (fun zk n' σ' => n ≤ n' ∧ cG σ σ' ∧ (((sIn w h x y = true ∧ 0 ≤ a ∧ a ≤ 9) ∧ zk = 0 ∧ σ' 171 0 = wr (dV w h T S F P O x y a) ∧ cV σ' (w, h, (T, S, F, P, O, nf, df, nl, lg), (s, re, fo, ra, tu, we, sh), H, ht, K, tl, tb, fa, r1, r2)) ∨ (¬ (sIn w h x y = true) ∧ zk = 1 ∧ cV σ' (bN (w, h, (T, S, F, P, O, nf, df, nl, lg), (s, re, fo, ra, tu, we, sh), H, ht, K, tl, tb, fa, r1, r2))) ∨ ((sIn w h x y = true) ∧ ¬ (0 ≤ a ∧ a ≤ 9) ∧ zk = 2 ∧ cV σ' (bA (w, h, (T, S, F, P, O, nf, df, nl, lg), (s, re, fo, ra, tu, we, sh), H, ht, K, tl, tb, fa, r1, r2)))))) := by
  refine y_startH (by decide) (Nat.le_of_ble_eq_true rfl) (fun X0 hFH => ?_)
  have hF := hFH.1
  show yV X0 g 6 (yQ X0 g (SC g) (yPi (fun zk n' σ' => n ≤ n' ∧ cG σ σ' ∧ (((sIn w h x y = true ∧ 0 ≤ a ∧ a ≤ 9) ∧ zk = 0 ∧ σ' 171 0 = wr (dV w h T S F P O x y a) ∧ cV σ' (w, h, (T, S, F, P, O, nf, df, nl, lg), (s, re, fo, ra, tu, we, sh), H, ht, K, tl, tb, fa, r1, r2)) ∨ (¬ (sIn w h x y = true) ∧ zk = 1 ∧ cV σ' (bN (w, h, (T, S, F, P, O, nf, df, nl, lg), (s, re, fo, ra, tu, we, sh), H, ht, K, tl, tb, fa, r1, r2))) ∨ ((sIn w h x y = true) ∧ ¬ (0 ≤ a ∧ a ≤ 9) ∧ zk = 2 ∧ cV σ' (bA (w, h, (T, S, F, P, O, nf, df, nl, lg), (s, re, fo, ra, tu, we, sh), H, ht, K, tl, tb, fa, r1, r2)))))) (rmA 9 3 18)) (SC g) n σ 0 0 0 [(0, yR g 0), (1, yI x), (2, yI y), (3, yI a), (4, yR g 171)] []
  refine y_aload (pc := 0) hF dL_dot_0 4 rfl ?_
  refine y_iconst (pc := 2) hF dL_dot_2 ?_
  refine y_aload_n (pc := 3) hF dL_dot_3 0 rfl ?_
  refine y_iload_n (pc := 4) hF dL_dot_4 1 rfl ?_
  refine y_iload_n (pc := 5) hF dL_dot_5 2 rfl ?_
  refine y_iload_n (pc := 6) hF dL_dot_6 3 rfl ?_
  refine y_contH (cells' := 3) (slots' := 18) hFH (y_rVH (pc := 7) hFH (tX10_dot hlt hn w h T S F P O nf df nl lg s re fo ra tu we sh H ht K tl tb fa r1 r2 N hV hW x y a hx hy ha) dL_dot_7 (by omega) rfl rfl rfl w_1022 qX10_dot rfl ⟨Nat.le_of_ble_eq_true rfl, Nat.le_of_ble_eq_true rfl⟩ ⟨Nat.le_of_ble_eq_true rfl, Nat.le_of_ble_eq_true rfl⟩ (Nat.le_of_ble_eq_true rfl) rfl (rest := [yI 0, yR g 171])) rfl rfl (fun E n' σ' zx => ?_) (fun r n' σ' zp => ?_)
  · obtain ⟨h1, h2, h4⟩ := zx
    rcases h2 with ⟨zE, h2, h3⟩ | ⟨zE, h2, h5, h3⟩
    · subst zE
      refine ⟨[], (0, 12, 15, 23), [(0, 12, 19, 13)], rfl, (fun y hy => nomatch hy), (by decide), (by decide), w_747, w_766, fun q => ?_⟩
      refine y_astoreS (pc := 15) (lv' := [(0, yR g 0), (1, yI x), (2, yI y), (3, yI a), (4, yR g 171), (5, .ref q)]) hF dL_dot_15 (by decide) rfl rfl ?_
      refine y_iconst (pc := 17) hF dL_dot_17 ?_
      exact y_iret (pc := 18) hF dL_dot_18 (Nat.le_of_ble_eq_true rfl) (Nat.le_of_ble_eq_true rfl) ⟨_, rfl, h1, (fun c hc _ => h4 c hc), Or.inr (Or.inl ⟨h2, rfl, h3⟩)⟩
    · subst zE
      refine ⟨[(0, 12, 15, 23)], (0, 12, 19, 13), [], rfl, (fun y hy => by rw [List.mem_singleton.mp hy]; exact ⟨by decide, rfl, w_747⟩), (by decide), (by decide), w_606, w_617, fun q => ?_⟩
      refine y_astoreS (pc := 19) (lv' := [(0, yR g 0), (1, yI x), (2, yI y), (3, yI a), (4, yR g 171), (5, .ref q)]) hF dL_dot_19 (by decide) rfl rfl ?_
      refine y_iconst (pc := 21) hF dL_dot_21 ?_
      exact y_iret (pc := 22) hF dL_dot_22 (Nat.le_of_ble_eq_true rfl) (Nat.le_of_ble_eq_true rfl) ⟨_, rfl, h1, (fun c hc _ => h4 c hc), Or.inr (Or.inr ⟨h2, h5, rfl, h3⟩)⟩
  · obtain ⟨zv, rfl, h1, h2, h5, h3, h4⟩ := zp
    show yV X0 g 6 (yQ X0 g (SC g) (yPi (fun zk n' σ' => n ≤ n' ∧ cG σ σ' ∧ (((sIn w h x y = true ∧ 0 ≤ a ∧ a ≤ 9) ∧ zk = 0 ∧ σ' 171 0 = wr (dV w h T S F P O x y a) ∧ cV σ' (w, h, (T, S, F, P, O, nf, df, nl, lg), (s, re, fo, ra, tu, we, sh), H, ht, K, tl, tb, fa, r1, r2)) ∨ (¬ (sIn w h x y = true) ∧ zk = 1 ∧ cV σ' (bN (w, h, (T, S, F, P, O, nf, df, nl, lg), (s, re, fo, ra, tu, we, sh), H, ht, K, tl, tb, fa, r1, r2))) ∨ ((sIn w h x y = true) ∧ ¬ (0 ≤ a ∧ a ≤ 9) ∧ zk = 2 ∧ cV σ' (bA (w, h, (T, S, F, P, O, nf, df, nl, lg), (s, re, fo, ra, tu, we, sh), H, ht, K, tl, tb, fa, r1, r2)))))) (rmA 9 3 18)) (SC g) n' σ' 3 18 10 [(0, yR g 0), (1, yI x), (2, yI y), (3, yI a), (4, yR g 171)] [yI zv, yI 0, yR g 171]
    refine y_i2lw (pc := 10) hF dL_dot_10 ?_
    refine y_lastore (pc := 11) (len := 1) hF dL_dot_11 (by omega) rfl (by decide) (by decide) ?_
    refine y_goto (pc := 12) hF dL_dot_12 23 rfl ?_
    refine y_iconst (pc := 23) hF dL_dot_23 ?_
    refine y_iret (pc := 24) hF dL_dot_24 (Nat.le_of_ble_eq_true rfl) (Nat.le_of_ble_eq_true rfl) ⟨_, rfl, h1, (fun c hc hc2 => ?_), Or.inl ⟨h2, rfl, ?_, ?_⟩⟩
    · rw [yset_n hc2]
      exact h4 c hc
    · rw [yset_e, h5]
    · exact cV_out h3

theorem wl_rank : Cond.codeWith yL_rank cL_rank 6 (some .int) [(0, 12, 15, 23), (0, 12, 19, 13)] ∈ y_tb := y_in (mt_4 _ (List.mem_of_getElem? (i := 223) rfl)) rfl
theorem dL_rank_0 : decode cL_rank 0 = .ok (.aload 4, 2) := by decide +kernel
theorem dL_rank_2 : decode cL_rank 2 = .ok (.iconst 0, 1) := by decide +kernel
theorem dL_rank_3 : decode cL_rank 3 = .ok (.aload_n 0, 1) := by decide +kernel
theorem dL_rank_4 : decode cL_rank 4 = .ok (.iload_n 1, 1) := by decide +kernel
theorem dL_rank_5 : decode cL_rank 5 = .ok (.iload_n 2, 1) := by decide +kernel
theorem dL_rank_6 : decode cL_rank 6 = .ok (.iload_n 3, 1) := by decide +kernel
theorem dL_rank_7 : decode cL_rank 7 = .ok (.invokevirtual 41, 3) := by decide +kernel
theorem dL_rank_10 : decode cL_rank 10 = .ok (.i2l, 1) := by decide +kernel
theorem dL_rank_11 : decode cL_rank 11 = .ok (.lastore, 1) := by decide +kernel
theorem dL_rank_12 : decode cL_rank 12 = .ok (.goto 11, 3) := by decide +kernel
theorem dL_rank_15 : decode cL_rank 15 = .ok (.astore 5, 2) := by decide +kernel
theorem dL_rank_17 : decode cL_rank 17 = .ok (.iconst 1, 1) := by decide +kernel
theorem dL_rank_18 : decode cL_rank 18 = .ok (.ireturn, 1) := by decide +kernel
theorem dL_rank_19 : decode cL_rank 19 = .ok (.astore 5, 2) := by decide +kernel
theorem dL_rank_21 : decode cL_rank 21 = .ok (.iconst 2, 1) := by decide +kernel
theorem dL_rank_22 : decode cL_rank 22 = .ok (.ireturn, 1) := by decide +kernel
theorem dL_rank_23 : decode cL_rank 23 = .ok (.iconst 0, 1) := by decide +kernel
theorem dL_rank_24 : decode cL_rank 24 = .ok (.ireturn, 1) := by decide +kernel
set_option maxHeartbeats 4000000 in
set_option maxRecDepth 100000 in
theorem tL_rank {l : Launch} {g : yG} {n : Nat} {σ : yM} (hlt : l.stackTraces = false) (hn : 172 ≤ n) (w h : Int) (T S F P O : Int → Int → Int) (nf df nl : Int) (lg : Int → Int → Int) (s re fo ra tu we sh : Int) (H : List aX) (ht : Bool) (K : Int → Int → Int) (tl : Int) (tb : Int → Int) (fa r1 r2 N : Int) (hV : cV σ (w, h, (T, S, F, P, O, nf, df, nl, lg), (s, re, fo, ra, tu, we, sh), H, ht, K, tl, tb, fa, r1, r2)) (hW : aW N (w, h, (T, S, F, P, O, nf, df, nl, lg), (s, re, fo, ra, tu, we, sh), H, ht, K, tl, tb, fa, r1, r2)) (x y a : Int) (hx : -2147483648 ≤ x ∧ x < 2147483648) (hy : -2147483648 ≤ y ∧ y < 2147483648) (ha : -2147483648 ≤ a ∧ a < 2147483648) : yMH l g yL_rank cL_rank 6 (some .int) [(0, 12, 15, 23), (0, 12, 19, 13)] (rmA 9 4 24) [yR g 0, yI x, yI y, yI a, yR g 171] (SC g) n σ (SC g) (yPi (fun zk n' σ' => n ≤ n' ∧ cG σ σ' ∧ (((sIn w h x y = true ∧ 0 ≤ a ∧ a ≤ 6) ∧ zk = 0 ∧ σ' 171 0 = wr (rV w h T S s ra x y a) ∧ cV σ' (w, h, (T, S, F, P, O, nf, df, nl, lg), (s, re, fo, ra, tu, we, sh), H, ht, K, tl, tb, fa, r1, r2)) ∨ (¬ (sIn w h x y = true) ∧ zk = 1 ∧ cV σ' (bN (w, h, (T, S, F, P, O, nf, df, nl, lg), (s, re, fo, ra, tu, we, sh), H, ht, K, tl, tb, fa, r1, r2))) ∨ ((sIn w h x y = true) ∧ ¬ (0 ≤ a ∧ a ≤ 6) ∧ zk = 2 ∧ cV σ' (bA (w, h, (T, S, F, P, O, nf, df, nl, lg), (s, re, fo, ra, tu, we, sh), H, ht, K, tl, tb, fa, r1, r2)))))) := by
  refine y_startH (by decide) (Nat.le_of_ble_eq_true rfl) (fun X0 hFH => ?_)
  have hF := hFH.1
  show yV X0 g 6 (yQ X0 g (SC g) (yPi (fun zk n' σ' => n ≤ n' ∧ cG σ σ' ∧ (((sIn w h x y = true ∧ 0 ≤ a ∧ a ≤ 6) ∧ zk = 0 ∧ σ' 171 0 = wr (rV w h T S s ra x y a) ∧ cV σ' (w, h, (T, S, F, P, O, nf, df, nl, lg), (s, re, fo, ra, tu, we, sh), H, ht, K, tl, tb, fa, r1, r2)) ∨ (¬ (sIn w h x y = true) ∧ zk = 1 ∧ cV σ' (bN (w, h, (T, S, F, P, O, nf, df, nl, lg), (s, re, fo, ra, tu, we, sh), H, ht, K, tl, tb, fa, r1, r2))) ∨ ((sIn w h x y = true) ∧ ¬ (0 ≤ a ∧ a ≤ 6) ∧ zk = 2 ∧ cV σ' (bA (w, h, (T, S, F, P, O, nf, df, nl, lg), (s, re, fo, ra, tu, we, sh), H, ht, K, tl, tb, fa, r1, r2)))))) (rmA 9 4 24)) (SC g) n σ 0 0 0 [(0, yR g 0), (1, yI x), (2, yI y), (3, yI a), (4, yR g 171)] []
  refine y_aload (pc := 0) hF dL_rank_0 4 rfl ?_
  refine y_iconst (pc := 2) hF dL_rank_2 ?_
  refine y_aload_n (pc := 3) hF dL_rank_3 0 rfl ?_
  refine y_iload_n (pc := 4) hF dL_rank_4 1 rfl ?_
  refine y_iload_n (pc := 5) hF dL_rank_5 2 rfl ?_
  refine y_iload_n (pc := 6) hF dL_rank_6 3 rfl ?_
  refine y_contH (cells' := 4) (slots' := 24) hFH (y_rVH (pc := 7) hFH (tX10_rank hlt hn w h T S F P O nf df nl lg s re fo ra tu we sh H ht K tl tb fa r1 r2 N hV hW x y a hx hy ha) dL_rank_7 (by omega) rfl rfl rfl w_1029 qX10_rank rfl ⟨Nat.le_of_ble_eq_true rfl, Nat.le_of_ble_eq_true rfl⟩ ⟨Nat.le_of_ble_eq_true rfl, Nat.le_of_ble_eq_true rfl⟩ (Nat.le_of_ble_eq_true rfl) rfl (rest := [yI 0, yR g 171])) rfl rfl (fun E n' σ' zx => ?_) (fun r n' σ' zp => ?_)
  · obtain ⟨h1, h2, h4⟩ := zx
    rcases h2 with ⟨zE, h2, h3⟩ | ⟨zE, h2, h5, h3⟩
    · subst zE
      refine ⟨[], (0, 12, 15, 23), [(0, 12, 19, 13)], rfl, (fun y hy => nomatch hy), (by decide), (by decide), w_747, w_766, fun q => ?_⟩
      refine y_astoreS (pc := 15) (lv' := [(0, yR g 0), (1, yI x), (2, yI y), (3, yI a), (4, yR g 171), (5, .ref q)]) hF dL_rank_15 (by decide) rfl rfl ?_
      refine y_iconst (pc := 17) hF dL_rank_17 ?_
      exact y_iret (pc := 18) hF dL_rank_18 (Nat.le_of_ble_eq_true rfl) (Nat.le_of_ble_eq_true rfl) ⟨_, rfl, h1, (fun c hc _ => h4 c hc), Or.inr (Or.inl ⟨h2, rfl, h3⟩)⟩
    · subst zE
      refine ⟨[(0, 12, 15, 23)], (0, 12, 19, 13), [], rfl, (fun y hy => by rw [List.mem_singleton.mp hy]; exact ⟨by decide, rfl, w_747⟩), (by decide), (by decide), w_606, w_617, fun q => ?_⟩
      refine y_astoreS (pc := 19) (lv' := [(0, yR g 0), (1, yI x), (2, yI y), (3, yI a), (4, yR g 171), (5, .ref q)]) hF dL_rank_19 (by decide) rfl rfl ?_
      refine y_iconst (pc := 21) hF dL_rank_21 ?_
      exact y_iret (pc := 22) hF dL_rank_22 (Nat.le_of_ble_eq_true rfl) (Nat.le_of_ble_eq_true rfl) ⟨_, rfl, h1, (fun c hc _ => h4 c hc), Or.inr (Or.inr ⟨h2, h5, rfl, h3⟩)⟩
  · obtain ⟨zv, rfl, h1, h2, h5, h3, h4⟩ := zp
    show yV X0 g 6 (yQ X0 g (SC g) (yPi (fun zk n' σ' => n ≤ n' ∧ cG σ σ' ∧ (((sIn w h x y = true ∧ 0 ≤ a ∧ a ≤ 6) ∧ zk = 0 ∧ σ' 171 0 = wr (rV w h T S s ra x y a) ∧ cV σ' (w, h, (T, S, F, P, O, nf, df, nl, lg), (s, re, fo, ra, tu, we, sh), H, ht, K, tl, tb, fa, r1, r2)) ∨ (¬ (sIn w h x y = true) ∧ zk = 1 ∧ cV σ' (bN (w, h, (T, S, F, P, O, nf, df, nl, lg), (s, re, fo, ra, tu, we, sh), H, ht, K, tl, tb, fa, r1, r2))) ∨ ((sIn w h x y = true) ∧ ¬ (0 ≤ a ∧ a ≤ 6) ∧ zk = 2 ∧ cV σ' (bA (w, h, (T, S, F, P, O, nf, df, nl, lg), (s, re, fo, ra, tu, we, sh), H, ht, K, tl, tb, fa, r1, r2)))))) (rmA 9 4 24)) (SC g) n' σ' 4 24 10 [(0, yR g 0), (1, yI x), (2, yI y), (3, yI a), (4, yR g 171)] [yI zv, yI 0, yR g 171]
    refine y_i2lw (pc := 10) hF dL_rank_10 ?_
    refine y_lastore (pc := 11) (len := 1) hF dL_rank_11 (by omega) rfl (by decide) (by decide) ?_
    refine y_goto (pc := 12) hF dL_rank_12 23 rfl ?_
    refine y_iconst (pc := 23) hF dL_rank_23 ?_
    refine y_iret (pc := 24) hF dL_rank_24 (Nat.le_of_ble_eq_true rfl) (Nat.le_of_ble_eq_true rfl) ⟨_, rfl, h1, (fun c hc hc2 => ?_), Or.inl ⟨h2, rfl, ?_, ?_⟩⟩
    · rw [yset_n hc2]
      exact h4 c hc
    · rw [yset_e, h5]
    · exact cV_out h3

theorem wl_next : Cond.codeWith yL_next cL_next 4 (some .int) [(0, 9, 12, 13)] ∈ y_tb := y_in (mt_4 _ (List.mem_of_getElem? (i := 232) rfl)) rfl
theorem dL_next_0 : decode cL_next 0 = .ok (.aload_n 2, 1) := by decide +kernel
theorem dL_next_1 : decode cL_next 1 = .ok (.iconst 0, 1) := by decide +kernel
theorem dL_next_2 : decode cL_next 2 = .ok (.aload_n 0, 1) := by decide +kernel
theorem dL_next_3 : decode cL_next 3 = .ok (.iload_n 1, 1) := by decide +kernel
theorem dL_next_4 : decode cL_next 4 = .ok (.invokevirtual 44, 3) := by decide +kernel
theorem dL_next_7 : decode cL_next 7 = .ok (.i2l, 1) := by decide +kernel
theorem dL_next_8 : decode cL_next 8 = .ok (.lastore, 1) := by decide +kernel
theorem dL_next_9 : decode cL_next 9 = .ok (.goto 6, 3) := by decide +kernel
theorem dL_next_12 : decode cL_next 12 = .ok (.astore_n 3, 1) := by decide +kernel
theorem dL_next_13 : decode cL_next 13 = .ok (.iconst 1, 1) := by decide +kernel
theorem dL_next_14 : decode cL_next 14 = .ok (.ireturn, 1) := by decide +kernel
theorem dL_next_15 : decode cL_next 15 = .ok (.iconst 0, 1) := by decide +kernel
theorem dL_next_16 : decode cL_next 16 = .ok (.ireturn, 1) := by decide +kernel
set_option maxHeartbeats 4000000 in
set_option maxRecDepth 100000 in
theorem tL_next {l : Launch} {g : yG} {n : Nat} {σ : yM} (hlt : l.stackTraces = false) (hn : 172 ≤ n) (w h : Int) (T S F P O : Int → Int → Int) (nf df nl : Int) (lg : Int → Int → Int) (s re fo ra tu we sh : Int) (H : List aX) (ht : Bool) (K : Int → Int → Int) (tl : Int) (tb : Int → Int) (fa r1 r2 N : Int) (hV : cV σ (w, h, (T, S, F, P, O, nf, df, nl, lg), (s, re, fo, ra, tu, we, sh), H, ht, K, tl, tb, fa, r1, r2)) (hW : aW N (w, h, (T, S, F, P, O, nf, df, nl, lg), (s, re, fo, ra, tu, we, sh), H, ht, K, tl, tb, fa, r1, r2)) (a : Int) (ha : -2147483648 ≤ a ∧ a < 2147483648) : yMH l g yL_next cL_next 4 (some .int) [(0, 9, 12, 13)] (rmA 9 4 24) [yR g 0, yI a, yR g 171] (SC g) n σ (SC g) (yPi (fun zk n' σ' => n ≤ n' ∧ cG σ σ' ∧ (((0 ≤ a ∧ a ≤ 6) ∧ zk = 0 ∧ σ' 171 0 = wr (nV w h T S F s re fo ra tu we sh a) ∧ cV σ' (w, h, (T, S, F, P, O, nf, df, nl, lg), (s, re, fo, ra, tu, we, sh), H, ht, K, tl, tb, fa, r1, r2)) ∨ (¬ (0 ≤ a ∧ a ≤ 6) ∧ zk = 1 ∧ cV σ' (bA (w, h, (T, S, F, P, O, nf, df, nl, lg), (s, re, fo, ra, tu, we, sh), H, ht, K, tl, tb, fa, r1, r2)))))) := by
  refine y_startH (by decide) (Nat.le_of_ble_eq_true rfl) (fun X0 hFH => ?_)
  have hF := hFH.1
  show yV X0 g 4 (yQ X0 g (SC g) (yPi (fun zk n' σ' => n ≤ n' ∧ cG σ σ' ∧ (((0 ≤ a ∧ a ≤ 6) ∧ zk = 0 ∧ σ' 171 0 = wr (nV w h T S F s re fo ra tu we sh a) ∧ cV σ' (w, h, (T, S, F, P, O, nf, df, nl, lg), (s, re, fo, ra, tu, we, sh), H, ht, K, tl, tb, fa, r1, r2)) ∨ (¬ (0 ≤ a ∧ a ≤ 6) ∧ zk = 1 ∧ cV σ' (bA (w, h, (T, S, F, P, O, nf, df, nl, lg), (s, re, fo, ra, tu, we, sh), H, ht, K, tl, tb, fa, r1, r2)))))) (rmA 9 4 24)) (SC g) n σ 0 0 0 [(0, yR g 0), (1, yI a), (2, yR g 171)] []
  refine y_aload_n (pc := 0) hF dL_next_0 2 rfl ?_
  refine y_iconst (pc := 1) hF dL_next_1 ?_
  refine y_aload_n (pc := 2) hF dL_next_2 0 rfl ?_
  refine y_iload_n (pc := 3) hF dL_next_3 1 rfl ?_
  refine y_contH (cells' := 4) (slots' := 24) hFH (y_rVH (pc := 4) hFH (tX10_next hlt hn w h T S F P O nf df nl lg s re fo ra tu we sh H ht K tl tb fa r1 r2 N hV hW a ha) dL_next_4 (by omega) rfl rfl rfl w_1038 qX10_next rfl ⟨Nat.le_of_ble_eq_true rfl, Nat.le_of_ble_eq_true rfl⟩ ⟨Nat.le_of_ble_eq_true rfl, Nat.le_of_ble_eq_true rfl⟩ (Nat.le_of_ble_eq_true rfl) rfl (rest := [yI 0, yR g 171])) rfl rfl (fun E n' σ' zx => ?_) (fun r n' σ' zp => ?_)
  · obtain ⟨zE, h1, h2, h3, h4⟩ := zx
    subst zE
    refine ⟨[], (0, 9, 12, 13), [], rfl, (fun y hy => nomatch hy), (by decide), (by decide), w_606, w_617, fun q => ?_⟩
    refine y_astoreS_n (pc := 12) (lv' := [(0, yR g 0), (1, yI a), (2, yR g 171), (3, .ref q)]) hF dL_next_12 (by decide) rfl rfl ?_
    refine y_iconst (pc := 13) hF dL_next_13 ?_
    exact y_iret (pc := 14) hF dL_next_14 (Nat.le_of_ble_eq_true rfl) (Nat.le_of_ble_eq_true rfl) ⟨_, rfl, h1, (fun c hc _ => h4 c hc), Or.inr ⟨h2, rfl, h3⟩⟩
  · obtain ⟨zv, rfl, h1, h2, h5, h3, h4⟩ := zp
    show yV X0 g 4 (yQ X0 g (SC g) (yPi (fun zk n' σ' => n ≤ n' ∧ cG σ σ' ∧ (((0 ≤ a ∧ a ≤ 6) ∧ zk = 0 ∧ σ' 171 0 = wr (nV w h T S F s re fo ra tu we sh a) ∧ cV σ' (w, h, (T, S, F, P, O, nf, df, nl, lg), (s, re, fo, ra, tu, we, sh), H, ht, K, tl, tb, fa, r1, r2)) ∨ (¬ (0 ≤ a ∧ a ≤ 6) ∧ zk = 1 ∧ cV σ' (bA (w, h, (T, S, F, P, O, nf, df, nl, lg), (s, re, fo, ra, tu, we, sh), H, ht, K, tl, tb, fa, r1, r2)))))) (rmA 9 4 24)) (SC g) n' σ' 4 24 7 [(0, yR g 0), (1, yI a), (2, yR g 171)] [yI zv, yI 0, yR g 171]
    refine y_i2lw (pc := 7) hF dL_next_7 ?_
    refine y_lastore (pc := 8) (len := 1) hF dL_next_8 (by omega) rfl (by decide) (by decide) ?_
    refine y_goto (pc := 9) hF dL_next_9 15 rfl ?_
    refine y_iconst (pc := 15) hF dL_next_15 ?_
    refine y_iret (pc := 16) hF dL_next_16 (Nat.le_of_ble_eq_true rfl) (Nat.le_of_ble_eq_true rfl) ⟨_, rfl, h1, (fun c hc hc2 => ?_), Or.inl ⟨h2, rfl, ?_, ?_⟩⟩
    · rw [yset_n hc2]
      exact h4 c hc
    · rw [yset_e, h5]
    · exact cV_out h3

theorem wl_search : Cond.codeWith yL_search cL_search 6 (some .int) [(0, 12, 15, 23), (0, 12, 19, 13)] ∈ y_tb := y_in (mt_5 _ (List.mem_of_getElem? (i := 7) rfl)) rfl
theorem dL_search_0 : decode cL_search 0 = .ok (.aload 4, 2) := by decide +kernel
theorem dL_search_2 : decode cL_search 2 = .ok (.iconst 0, 1) := by decide +kernel
theorem dL_search_3 : decode cL_search 3 = .ok (.aload_n 0, 1) := by decide +kernel
theorem dL_search_4 : decode cL_search 4 = .ok (.iload_n 1, 1) := by decide +kernel
theorem dL_search_5 : decode cL_search 5 = .ok (.iload_n 2, 1) := by decide +kernel
theorem dL_search_6 : decode cL_search 6 = .ok (.iload_n 3, 1) := by decide +kernel
theorem dL_search_7 : decode cL_search 7 = .ok (.invokevirtual 47, 3) := by decide +kernel
theorem dL_search_10 : decode cL_search 10 = .ok (.i2l, 1) := by decide +kernel
theorem dL_search_11 : decode cL_search 11 = .ok (.lastore, 1) := by decide +kernel
theorem dL_search_12 : decode cL_search 12 = .ok (.goto 11, 3) := by decide +kernel
theorem dL_search_15 : decode cL_search 15 = .ok (.astore 5, 2) := by decide +kernel
theorem dL_search_17 : decode cL_search 17 = .ok (.iconst 1, 1) := by decide +kernel
theorem dL_search_18 : decode cL_search 18 = .ok (.ireturn, 1) := by decide +kernel
theorem dL_search_19 : decode cL_search 19 = .ok (.astore 5, 2) := by decide +kernel
theorem dL_search_21 : decode cL_search 21 = .ok (.iconst 2, 1) := by decide +kernel
theorem dL_search_22 : decode cL_search 22 = .ok (.ireturn, 1) := by decide +kernel
theorem dL_search_23 : decode cL_search 23 = .ok (.iconst 0, 1) := by decide +kernel
theorem dL_search_24 : decode cL_search 24 = .ok (.ireturn, 1) := by decide +kernel
set_option maxHeartbeats 4000000 in
set_option maxRecDepth 100000 in
theorem tL_search {l : Launch} {g : yG} {n : Nat} {σ : yM} (hlt : l.stackTraces = false) (hn : 172 ≤ n) (w h : Int) (T S F P O : Int → Int → Int) (nf df nl : Int) (lg : Int → Int → Int) (s re fo ra tu we sh : Int) (H : List aX) (ht : Bool) (K : Int → Int → Int) (tl : Int) (tb : Int → Int) (fa r1 r2 N : Int) (hV : cV σ (w, h, (T, S, F, P, O, nf, df, nl, lg), (s, re, fo, ra, tu, we, sh), H, ht, K, tl, tb, fa, r1, r2)) (hW : aW N (w, h, (T, S, F, P, O, nf, df, nl, lg), (s, re, fo, ra, tu, we, sh), H, ht, K, tl, tb, fa, r1, r2)) (x y a : Int) (hx : -2147483648 ≤ x ∧ x < 2147483648) (hy : -2147483648 ≤ y ∧ y < 2147483648) (ha : -2147483648 ≤ a ∧ a < 2147483648) : yMH l g yL_search cL_search 6 (some .int) [(0, 12, 15, 23), (0, 12, 19, 13)] (rmA 9 4 24) [yR g 0, yI x, yI y, yI a, yR g 171] (SC g) n σ (SC g) (yPi (fun zk n' σ' => n ≤ n' ∧ cG σ σ' ∧ (((sIn w h x y = true ∧ 0 ≤ a ∧ a ≤ 8) ∧ zk = 0 ∧ σ' 171 0 = wr (qV (sSe w h T S F s fo tu we sh x y re) a) ∧ cV σ' (w, h, (T, S, F, P, O, nf, df, nl, lg), (s, re, fo, ra, tu, we, sh), H, ht, K, tl, tb, fa, r1, r2)) ∨ (¬ (sIn w h x y = true) ∧ zk = 1 ∧ cV σ' (bN (w, h, (T, S, F, P, O, nf, df, nl, lg), (s, re, fo, ra, tu, we, sh), H, ht, K, tl, tb, fa, r1, r2))) ∨ ((sIn w h x y = true) ∧ ¬ (0 ≤ a ∧ a ≤ 8) ∧ zk = 2 ∧ cV σ' (bA (w, h, (T, S, F, P, O, nf, df, nl, lg), (s, re, fo, ra, tu, we, sh), H, ht, K, tl, tb, fa, r1, r2)))))) := by
  refine y_startH (by decide) (Nat.le_of_ble_eq_true rfl) (fun X0 hFH => ?_)
  have hF := hFH.1
  show yV X0 g 6 (yQ X0 g (SC g) (yPi (fun zk n' σ' => n ≤ n' ∧ cG σ σ' ∧ (((sIn w h x y = true ∧ 0 ≤ a ∧ a ≤ 8) ∧ zk = 0 ∧ σ' 171 0 = wr (qV (sSe w h T S F s fo tu we sh x y re) a) ∧ cV σ' (w, h, (T, S, F, P, O, nf, df, nl, lg), (s, re, fo, ra, tu, we, sh), H, ht, K, tl, tb, fa, r1, r2)) ∨ (¬ (sIn w h x y = true) ∧ zk = 1 ∧ cV σ' (bN (w, h, (T, S, F, P, O, nf, df, nl, lg), (s, re, fo, ra, tu, we, sh), H, ht, K, tl, tb, fa, r1, r2))) ∨ ((sIn w h x y = true) ∧ ¬ (0 ≤ a ∧ a ≤ 8) ∧ zk = 2 ∧ cV σ' (bA (w, h, (T, S, F, P, O, nf, df, nl, lg), (s, re, fo, ra, tu, we, sh), H, ht, K, tl, tb, fa, r1, r2)))))) (rmA 9 4 24)) (SC g) n σ 0 0 0 [(0, yR g 0), (1, yI x), (2, yI y), (3, yI a), (4, yR g 171)] []
  refine y_aload (pc := 0) hF dL_search_0 4 rfl ?_
  refine y_iconst (pc := 2) hF dL_search_2 ?_
  refine y_aload_n (pc := 3) hF dL_search_3 0 rfl ?_
  refine y_iload_n (pc := 4) hF dL_search_4 1 rfl ?_
  refine y_iload_n (pc := 5) hF dL_search_5 2 rfl ?_
  refine y_iload_n (pc := 6) hF dL_search_6 3 rfl ?_
  refine y_contH (cells' := 4) (slots' := 24) hFH (y_rVH (pc := 7) hFH (tX10_search hlt hn w h T S F P O nf df nl lg s re fo ra tu we sh H ht K tl tb fa r1 r2 N hV hW x y a hx hy ha) dL_search_7 (by omega) rfl rfl rfl w_1053 qX10_search rfl ⟨Nat.le_of_ble_eq_true rfl, Nat.le_of_ble_eq_true rfl⟩ ⟨Nat.le_of_ble_eq_true rfl, Nat.le_of_ble_eq_true rfl⟩ (Nat.le_of_ble_eq_true rfl) rfl (rest := [yI 0, yR g 171])) rfl rfl (fun E n' σ' zx => ?_) (fun r n' σ' zp => ?_)
  · obtain ⟨h1, h2, h4⟩ := zx
    rcases h2 with ⟨zE, h2, h3⟩ | ⟨zE, h2, h5, h3⟩
    · subst zE
      refine ⟨[], (0, 12, 15, 23), [(0, 12, 19, 13)], rfl, (fun y hy => nomatch hy), (by decide), (by decide), w_747, w_766, fun q => ?_⟩
      refine y_astoreS (pc := 15) (lv' := [(0, yR g 0), (1, yI x), (2, yI y), (3, yI a), (4, yR g 171), (5, .ref q)]) hF dL_search_15 (by decide) rfl rfl ?_
      refine y_iconst (pc := 17) hF dL_search_17 ?_
      exact y_iret (pc := 18) hF dL_search_18 (Nat.le_of_ble_eq_true rfl) (Nat.le_of_ble_eq_true rfl) ⟨_, rfl, h1, (fun c hc _ => h4 c hc), Or.inr (Or.inl ⟨h2, rfl, h3⟩)⟩
    · subst zE
      refine ⟨[(0, 12, 15, 23)], (0, 12, 19, 13), [], rfl, (fun y hy => by rw [List.mem_singleton.mp hy]; exact ⟨by decide, rfl, w_747⟩), (by decide), (by decide), w_606, w_617, fun q => ?_⟩
      refine y_astoreS (pc := 19) (lv' := [(0, yR g 0), (1, yI x), (2, yI y), (3, yI a), (4, yR g 171), (5, .ref q)]) hF dL_search_19 (by decide) rfl rfl ?_
      refine y_iconst (pc := 21) hF dL_search_21 ?_
      exact y_iret (pc := 22) hF dL_search_22 (Nat.le_of_ble_eq_true rfl) (Nat.le_of_ble_eq_true rfl) ⟨_, rfl, h1, (fun c hc _ => h4 c hc), Or.inr (Or.inr ⟨h2, h5, rfl, h3⟩)⟩
  · obtain ⟨zv, rfl, h1, h2, h5, h3, h4⟩ := zp
    show yV X0 g 6 (yQ X0 g (SC g) (yPi (fun zk n' σ' => n ≤ n' ∧ cG σ σ' ∧ (((sIn w h x y = true ∧ 0 ≤ a ∧ a ≤ 8) ∧ zk = 0 ∧ σ' 171 0 = wr (qV (sSe w h T S F s fo tu we sh x y re) a) ∧ cV σ' (w, h, (T, S, F, P, O, nf, df, nl, lg), (s, re, fo, ra, tu, we, sh), H, ht, K, tl, tb, fa, r1, r2)) ∨ (¬ (sIn w h x y = true) ∧ zk = 1 ∧ cV σ' (bN (w, h, (T, S, F, P, O, nf, df, nl, lg), (s, re, fo, ra, tu, we, sh), H, ht, K, tl, tb, fa, r1, r2))) ∨ ((sIn w h x y = true) ∧ ¬ (0 ≤ a ∧ a ≤ 8) ∧ zk = 2 ∧ cV σ' (bA (w, h, (T, S, F, P, O, nf, df, nl, lg), (s, re, fo, ra, tu, we, sh), H, ht, K, tl, tb, fa, r1, r2)))))) (rmA 9 4 24)) (SC g) n' σ' 4 24 10 [(0, yR g 0), (1, yI x), (2, yI y), (3, yI a), (4, yR g 171)] [yI zv, yI 0, yR g 171]
    refine y_i2lw (pc := 10) hF dL_search_10 ?_
    refine y_lastore (pc := 11) (len := 1) hF dL_search_11 (by omega) rfl (by decide) (by decide) ?_
    refine y_goto (pc := 12) hF dL_search_12 23 rfl ?_
    refine y_iconst (pc := 23) hF dL_search_23 ?_
    refine y_iret (pc := 24) hF dL_search_24 (Nat.le_of_ble_eq_true rfl) (Nat.le_of_ble_eq_true rfl) ⟨_, rfl, h1, (fun c hc hc2 => ?_), Or.inl ⟨h2, rfl, ?_, ?_⟩⟩
    · rw [yset_n hc2]
      exact h4 c hc
    · rw [yset_e, h5]
    · exact cV_out h3

theorem wl_difference : Cond.codeWith yL_difference cL_difference 8 (some .int) [(0, 16, 19, 23), (0, 16, 23, 13)] ∈ y_tb := y_in (mt_5 _ (List.mem_of_getElem? (i := 14) rfl)) rfl
theorem dL_difference_0 : decode cL_difference 0 = .ok (.aload 6, 2) := by decide +kernel
theorem dL_difference_2 : decode cL_difference 2 = .ok (.iconst 0, 1) := by decide +kernel
theorem dL_difference_3 : decode cL_difference 3 = .ok (.aload_n 0, 1) := by decide +kernel
theorem dL_difference_4 : decode cL_difference 4 = .ok (.iload_n 1, 1) := by decide +kernel
theorem dL_difference_5 : decode cL_difference 5 = .ok (.iload_n 2, 1) := by decide +kernel
theorem dL_difference_6 : decode cL_difference 6 = .ok (.iload_n 3, 1) := by decide +kernel
theorem dL_difference_7 : decode cL_difference 7 = .ok (.iload 4, 2) := by decide +kernel
theorem dL_difference_9 : decode cL_difference 9 = .ok (.iload 5, 2) := by decide +kernel
theorem dL_difference_11 : decode cL_difference 11 = .ok (.invokevirtual 50, 3) := by decide +kernel
theorem dL_difference_14 : decode cL_difference 14 = .ok (.i2l, 1) := by decide +kernel
theorem dL_difference_15 : decode cL_difference 15 = .ok (.lastore, 1) := by decide +kernel
theorem dL_difference_16 : decode cL_difference 16 = .ok (.goto 11, 3) := by decide +kernel
theorem dL_difference_19 : decode cL_difference 19 = .ok (.astore 7, 2) := by decide +kernel
theorem dL_difference_21 : decode cL_difference 21 = .ok (.iconst 1, 1) := by decide +kernel
theorem dL_difference_22 : decode cL_difference 22 = .ok (.ireturn, 1) := by decide +kernel
theorem dL_difference_23 : decode cL_difference 23 = .ok (.astore 7, 2) := by decide +kernel
theorem dL_difference_25 : decode cL_difference 25 = .ok (.iconst 2, 1) := by decide +kernel
theorem dL_difference_26 : decode cL_difference 26 = .ok (.ireturn, 1) := by decide +kernel
theorem dL_difference_27 : decode cL_difference 27 = .ok (.iconst 0, 1) := by decide +kernel
theorem dL_difference_28 : decode cL_difference 28 = .ok (.ireturn, 1) := by decide +kernel
set_option maxHeartbeats 4000000 in
set_option maxRecDepth 100000 in
theorem tL_difference {l : Launch} {g : yG} {n : Nat} {σ : yM} (hlt : l.stackTraces = false) (hn : 172 ≤ n) (w h : Int) (T S F P O : Int → Int → Int) (nf df nl : Int) (lg : Int → Int → Int) (s re fo ra tu we sh : Int) (H : List aX) (ht : Bool) (K : Int → Int → Int) (tl : Int) (tb : Int → Int) (fa r1 r2 N : Int) (hV : cV σ (w, h, (T, S, F, P, O, nf, df, nl, lg), (s, re, fo, ra, tu, we, sh), H, ht, K, tl, tb, fa, r1, r2)) (hW : aW N (w, h, (T, S, F, P, O, nf, df, nl, lg), (s, re, fo, ra, tu, we, sh), H, ht, K, tl, tb, fa, r1, r2)) (x y u vv a : Int) (hx : -2147483648 ≤ x ∧ x < 2147483648) (hy : -2147483648 ≤ y ∧ y < 2147483648) (hu : -2147483648 ≤ u ∧ u < 2147483648) (hvv : -2147483648 ≤ vv ∧ vv < 2147483648) (ha : -2147483648 ≤ a ∧ a < 2147483648) : yMH l g yL_difference cL_difference 8 (some .int) [(0, 16, 19, 23), (0, 16, 23, 13)] (rmA 9 4 24) [yR g 0, yI x, yI y, yI u, yI vv, yI a, yR g 171] (SC g) n σ (SC g) (yPi (fun zk n' σ' => n ≤ n' ∧ cG σ σ' ∧ ((((sIn w h x y = true ∧ sIn w h u vv = true) ∧ 0 ≤ a ∧ a ≤ 15) ∧ zk = 0 ∧ σ' 171 0 = wr (dfV w h T S F s re fo we sh x y u vv a) ∧ cV σ' (w, h, (T, S, F, P, O, nf, df, nl, lg), (s, re, fo, ra, tu, we, sh), H, ht, K, tl, tb, fa, r1, r2)) ∨ (¬ (sIn w h x y = true ∧ sIn w h u vv = true) ∧ zk = 1 ∧ cV σ' (bN (w, h, (T, S, F, P, O, nf, df, nl, lg), (s, re, fo, ra, tu, we, sh), H, ht, K, tl, tb, fa, r1, r2))) ∨ ((sIn w h x y = true ∧ sIn w h u vv = true) ∧ ¬ (0 ≤ a ∧ a ≤ 15) ∧ zk = 2 ∧ cV σ' (bA (w, h, (T, S, F, P, O, nf, df, nl, lg), (s, re, fo, ra, tu, we, sh), H, ht, K, tl, tb, fa, r1, r2)))))) := by
  refine y_startH (by decide) (Nat.le_of_ble_eq_true rfl) (fun X0 hFH => ?_)
  have hF := hFH.1
  show yV X0 g 8 (yQ X0 g (SC g) (yPi (fun zk n' σ' => n ≤ n' ∧ cG σ σ' ∧ ((((sIn w h x y = true ∧ sIn w h u vv = true) ∧ 0 ≤ a ∧ a ≤ 15) ∧ zk = 0 ∧ σ' 171 0 = wr (dfV w h T S F s re fo we sh x y u vv a) ∧ cV σ' (w, h, (T, S, F, P, O, nf, df, nl, lg), (s, re, fo, ra, tu, we, sh), H, ht, K, tl, tb, fa, r1, r2)) ∨ (¬ (sIn w h x y = true ∧ sIn w h u vv = true) ∧ zk = 1 ∧ cV σ' (bN (w, h, (T, S, F, P, O, nf, df, nl, lg), (s, re, fo, ra, tu, we, sh), H, ht, K, tl, tb, fa, r1, r2))) ∨ ((sIn w h x y = true ∧ sIn w h u vv = true) ∧ ¬ (0 ≤ a ∧ a ≤ 15) ∧ zk = 2 ∧ cV σ' (bA (w, h, (T, S, F, P, O, nf, df, nl, lg), (s, re, fo, ra, tu, we, sh), H, ht, K, tl, tb, fa, r1, r2)))))) (rmA 9 4 24)) (SC g) n σ 0 0 0 [(0, yR g 0), (1, yI x), (2, yI y), (3, yI u), (4, yI vv), (5, yI a), (6, yR g 171)] []
  refine y_aload (pc := 0) hF dL_difference_0 6 rfl ?_
  refine y_iconst (pc := 2) hF dL_difference_2 ?_
  refine y_aload_n (pc := 3) hF dL_difference_3 0 rfl ?_
  refine y_iload_n (pc := 4) hF dL_difference_4 1 rfl ?_
  refine y_iload_n (pc := 5) hF dL_difference_5 2 rfl ?_
  refine y_iload_n (pc := 6) hF dL_difference_6 3 rfl ?_
  refine y_iload (pc := 7) hF dL_difference_7 4 rfl ?_
  refine y_iload (pc := 9) hF dL_difference_9 5 rfl ?_
  refine y_contH (cells' := 4) (slots' := 24) hFH (y_rVH (pc := 11) hFH (tX10_difference hlt hn w h T S F P O nf df nl lg s re fo ra tu we sh H ht K tl tb fa r1 r2 N hV hW x y u vv a hx hy hu hvv ha) dL_difference_11 (by omega) rfl rfl rfl w_1060 qX10_difference rfl ⟨Nat.le_of_ble_eq_true rfl, Nat.le_of_ble_eq_true rfl⟩ ⟨Nat.le_of_ble_eq_true rfl, Nat.le_of_ble_eq_true rfl⟩ (Nat.le_of_ble_eq_true rfl) rfl (rest := [yI 0, yR g 171])) rfl rfl (fun E n' σ' zx => ?_) (fun r n' σ' zp => ?_)
  · obtain ⟨h1, h2, h4⟩ := zx
    rcases h2 with ⟨zE, h2, h3⟩ | ⟨zE, h2, h5, h3⟩
    · subst zE
      refine ⟨[], (0, 16, 19, 23), [(0, 16, 23, 13)], rfl, (fun y hy => nomatch hy), (by decide), (by decide), w_747, w_766, fun q => ?_⟩
      refine y_astoreS (pc := 19) (lv' := [(0, yR g 0), (1, yI x), (2, yI y), (3, yI u), (4, yI vv), (5, yI a), (6, yR g 171), (7, .ref q)]) hF dL_difference_19 (by decide) rfl rfl ?_
      refine y_iconst (pc := 21) hF dL_difference_21 ?_
      exact y_iret (pc := 22) hF dL_difference_22 (Nat.le_of_ble_eq_true rfl) (Nat.le_of_ble_eq_true rfl) ⟨_, rfl, h1, (fun c hc _ => h4 c hc), Or.inr (Or.inl ⟨h2, rfl, h3⟩)⟩
    · subst zE
      refine ⟨[(0, 16, 19, 23)], (0, 16, 23, 13), [], rfl, (fun y hy => by rw [List.mem_singleton.mp hy]; exact ⟨by decide, rfl, w_747⟩), (by decide), (by decide), w_606, w_617, fun q => ?_⟩
      refine y_astoreS (pc := 23) (lv' := [(0, yR g 0), (1, yI x), (2, yI y), (3, yI u), (4, yI vv), (5, yI a), (6, yR g 171), (7, .ref q)]) hF dL_difference_23 (by decide) rfl rfl ?_
      refine y_iconst (pc := 25) hF dL_difference_25 ?_
      exact y_iret (pc := 26) hF dL_difference_26 (Nat.le_of_ble_eq_true rfl) (Nat.le_of_ble_eq_true rfl) ⟨_, rfl, h1, (fun c hc _ => h4 c hc), Or.inr (Or.inr ⟨h2, h5, rfl, h3⟩)⟩
  · obtain ⟨zv, rfl, h1, h2, h5, h3, h4⟩ := zp
    show yV X0 g 8 (yQ X0 g (SC g) (yPi (fun zk n' σ' => n ≤ n' ∧ cG σ σ' ∧ ((((sIn w h x y = true ∧ sIn w h u vv = true) ∧ 0 ≤ a ∧ a ≤ 15) ∧ zk = 0 ∧ σ' 171 0 = wr (dfV w h T S F s re fo we sh x y u vv a) ∧ cV σ' (w, h, (T, S, F, P, O, nf, df, nl, lg), (s, re, fo, ra, tu, we, sh), H, ht, K, tl, tb, fa, r1, r2)) ∨ (¬ (sIn w h x y = true ∧ sIn w h u vv = true) ∧ zk = 1 ∧ cV σ' (bN (w, h, (T, S, F, P, O, nf, df, nl, lg), (s, re, fo, ra, tu, we, sh), H, ht, K, tl, tb, fa, r1, r2))) ∨ ((sIn w h x y = true ∧ sIn w h u vv = true) ∧ ¬ (0 ≤ a ∧ a ≤ 15) ∧ zk = 2 ∧ cV σ' (bA (w, h, (T, S, F, P, O, nf, df, nl, lg), (s, re, fo, ra, tu, we, sh), H, ht, K, tl, tb, fa, r1, r2)))))) (rmA 9 4 24)) (SC g) n' σ' 4 24 14 [(0, yR g 0), (1, yI x), (2, yI y), (3, yI u), (4, yI vv), (5, yI a), (6, yR g 171)] [yI zv, yI 0, yR g 171]
    refine y_i2lw (pc := 14) hF dL_difference_14 ?_
    refine y_lastore (pc := 15) (len := 1) hF dL_difference_15 (by omega) rfl (by decide) (by decide) ?_
    refine y_goto (pc := 16) hF dL_difference_16 27 rfl ?_
    refine y_iconst (pc := 27) hF dL_difference_27 ?_
    refine y_iret (pc := 28) hF dL_difference_28 (Nat.le_of_ble_eq_true rfl) (Nat.le_of_ble_eq_true rfl) ⟨_, rfl, h1, (fun c hc hc2 => ?_), Or.inl ⟨h2, rfl, ?_, ?_⟩⟩
    · rw [yset_n hc2]
      exact h4 c hc
    · rw [yset_e, h5]
    · exact cV_out h3

theorem wl_front : Cond.codeWith yL_front cL_front 5 (some .int) [(0, 10, 13, 13)] ∈ y_tb := y_in (mt_5 _ (List.mem_of_getElem? (i := 30) rfl)) rfl
theorem dL_front_0 : decode cL_front 0 = .ok (.aload_n 3, 1) := by decide +kernel
theorem dL_front_1 : decode cL_front 1 = .ok (.iconst 0, 1) := by decide +kernel
theorem dL_front_2 : decode cL_front 2 = .ok (.aload_n 0, 1) := by decide +kernel
theorem dL_front_3 : decode cL_front 3 = .ok (.iload_n 1, 1) := by decide +kernel
theorem dL_front_4 : decode cL_front 4 = .ok (.iload_n 2, 1) := by decide +kernel
theorem dL_front_5 : decode cL_front 5 = .ok (.invokevirtual 54, 3) := by decide +kernel
theorem dL_front_8 : decode cL_front 8 = .ok (.i2l, 1) := by decide +kernel
theorem dL_front_9 : decode cL_front 9 = .ok (.lastore, 1) := by decide +kernel
theorem dL_front_10 : decode cL_front 10 = .ok (.goto 7, 3) := by decide +kernel
theorem dL_front_13 : decode cL_front 13 = .ok (.astore 4, 2) := by decide +kernel
theorem dL_front_15 : decode cL_front 15 = .ok (.iconst 1, 1) := by decide +kernel
theorem dL_front_16 : decode cL_front 16 = .ok (.ireturn, 1) := by decide +kernel
theorem dL_front_17 : decode cL_front 17 = .ok (.iconst 0, 1) := by decide +kernel
theorem dL_front_18 : decode cL_front 18 = .ok (.ireturn, 1) := by decide +kernel
set_option maxHeartbeats 4000000 in
set_option maxRecDepth 100000 in
theorem tL_front {l : Launch} {g : yG} {n : Nat} {σ : yM} (hlt : l.stackTraces = false) (hn : 172 ≤ n) (w h : Int) (T S F P O : Int → Int → Int) (nf df nl : Int) (lg : Int → Int → Int) (s re fo ra tu we sh : Int) (H : List aX) (ht : Bool) (K : Int → Int → Int) (tl : Int) (tb : Int → Int) (fa r1 r2 N : Int) (hV : cV σ (w, h, (T, S, F, P, O, nf, df, nl, lg), (s, re, fo, ra, tu, we, sh), H, ht, K, tl, tb, fa, r1, r2)) (hW : aW N (w, h, (T, S, F, P, O, nf, df, nl, lg), (s, re, fo, ra, tu, we, sh), H, ht, K, tl, tb, fa, r1, r2)) (k a : Int) (hk : -2147483648 ≤ k ∧ k < 2147483648) (ha : -2147483648 ≤ a ∧ a < 2147483648) : yMH l g yL_front cL_front 5 (some .int) [(0, 10, 13, 13)] (rmA 9 4 24) [yR g 0, yI k, yI a, yR g 171] (SC g) n σ (SC g) (yPi (fun zk n' σ' => n ≤ n' ∧ cG σ σ' ∧ (((0 ≤ a ∧ a ≤ 2) ∧ zk = 0 ∧ σ' 171 0 = wr (ftV w h T S s ra k a) ∧ cV σ' (w, h, (T, S, F, P, O, nf, df, nl, lg), (s, re, fo, ra, tu, we, sh), H, ht, K, tl, tb, fa, r1, r2)) ∨ (¬ (0 ≤ a ∧ a ≤ 2) ∧ zk = 1 ∧ cV σ' (bA (w, h, (T, S, F, P, O, nf, df, nl, lg), (s, re, fo, ra, tu, we, sh), H, ht, K, tl, tb, fa, r1, r2)))))) := by
  refine y_startH (by decide) (Nat.le_of_ble_eq_true rfl) (fun X0 hFH => ?_)
  have hF := hFH.1
  show yV X0 g 5 (yQ X0 g (SC g) (yPi (fun zk n' σ' => n ≤ n' ∧ cG σ σ' ∧ (((0 ≤ a ∧ a ≤ 2) ∧ zk = 0 ∧ σ' 171 0 = wr (ftV w h T S s ra k a) ∧ cV σ' (w, h, (T, S, F, P, O, nf, df, nl, lg), (s, re, fo, ra, tu, we, sh), H, ht, K, tl, tb, fa, r1, r2)) ∨ (¬ (0 ≤ a ∧ a ≤ 2) ∧ zk = 1 ∧ cV σ' (bA (w, h, (T, S, F, P, O, nf, df, nl, lg), (s, re, fo, ra, tu, we, sh), H, ht, K, tl, tb, fa, r1, r2)))))) (rmA 9 4 24)) (SC g) n σ 0 0 0 [(0, yR g 0), (1, yI k), (2, yI a), (3, yR g 171)] []
  refine y_aload_n (pc := 0) hF dL_front_0 3 rfl ?_
  refine y_iconst (pc := 1) hF dL_front_1 ?_
  refine y_aload_n (pc := 2) hF dL_front_2 0 rfl ?_
  refine y_iload_n (pc := 3) hF dL_front_3 1 rfl ?_
  refine y_iload_n (pc := 4) hF dL_front_4 2 rfl ?_
  refine y_contH (cells' := 4) (slots' := 24) hFH (y_rVH (pc := 5) hFH (tX10_front hlt hn w h T S F P O nf df nl lg s re fo ra tu we sh H ht K tl tb fa r1 r2 N hV hW k a hk ha) dL_front_5 (by omega) rfl rfl rfl w_1076 qX10_front rfl ⟨Nat.le_of_ble_eq_true rfl, Nat.le_of_ble_eq_true rfl⟩ ⟨Nat.le_of_ble_eq_true rfl, Nat.le_of_ble_eq_true rfl⟩ (Nat.le_of_ble_eq_true rfl) rfl (rest := [yI 0, yR g 171])) rfl rfl (fun E n' σ' zx => ?_) (fun r n' σ' zp => ?_)
  · obtain ⟨zE, h1, h2, h3, h4⟩ := zx
    subst zE
    refine ⟨[], (0, 10, 13, 13), [], rfl, (fun y hy => nomatch hy), (by decide), (by decide), w_606, w_617, fun q => ?_⟩
    refine y_astoreS (pc := 13) (lv' := [(0, yR g 0), (1, yI k), (2, yI a), (3, yR g 171), (4, .ref q)]) hF dL_front_13 (by decide) rfl rfl ?_
    refine y_iconst (pc := 15) hF dL_front_15 ?_
    exact y_iret (pc := 16) hF dL_front_16 (Nat.le_of_ble_eq_true rfl) (Nat.le_of_ble_eq_true rfl) ⟨_, rfl, h1, (fun c hc _ => h4 c hc), Or.inr ⟨h2, rfl, h3⟩⟩
  · obtain ⟨zv, rfl, h1, h2, h5, h3, h4⟩ := zp
    show yV X0 g 5 (yQ X0 g (SC g) (yPi (fun zk n' σ' => n ≤ n' ∧ cG σ σ' ∧ (((0 ≤ a ∧ a ≤ 2) ∧ zk = 0 ∧ σ' 171 0 = wr (ftV w h T S s ra k a) ∧ cV σ' (w, h, (T, S, F, P, O, nf, df, nl, lg), (s, re, fo, ra, tu, we, sh), H, ht, K, tl, tb, fa, r1, r2)) ∨ (¬ (0 ≤ a ∧ a ≤ 2) ∧ zk = 1 ∧ cV σ' (bA (w, h, (T, S, F, P, O, nf, df, nl, lg), (s, re, fo, ra, tu, we, sh), H, ht, K, tl, tb, fa, r1, r2)))))) (rmA 9 4 24)) (SC g) n' σ' 4 24 8 [(0, yR g 0), (1, yI k), (2, yI a), (3, yR g 171)] [yI zv, yI 0, yR g 171]
    refine y_i2lw (pc := 8) hF dL_front_8 ?_
    refine y_lastore (pc := 9) (len := 1) hF dL_front_9 (by omega) rfl (by decide) (by decide) ?_
    refine y_goto (pc := 10) hF dL_front_10 17 rfl ?_
    refine y_iconst (pc := 17) hF dL_front_17 ?_
    refine y_iret (pc := 18) hF dL_front_18 (Nat.le_of_ble_eq_true rfl) (Nat.le_of_ble_eq_true rfl) ⟨_, rfl, h1, (fun c hc hc2 => ?_), Or.inl ⟨h2, rfl, ?_, ?_⟩⟩
    · rw [yset_n hc2]
      exact h4 c hc
    · rw [yset_e, h5]
    · exact cV_out h3

theorem wl_part : Cond.codeWith yL_part cL_part 5 (some .int) [(0, 10, 13, 23), (0, 10, 17, 13)] ∈ y_tb := y_in (mt_5 _ (List.mem_of_getElem? (i := 41) rfl)) rfl
theorem dL_part_0 : decode cL_part 0 = .ok (.aload_n 3, 1) := by decide +kernel
theorem dL_part_1 : decode cL_part 1 = .ok (.iconst 0, 1) := by decide +kernel
theorem dL_part_2 : decode cL_part 2 = .ok (.aload_n 0, 1) := by decide +kernel
theorem dL_part_3 : decode cL_part 3 = .ok (.iload_n 1, 1) := by decide +kernel
theorem dL_part_4 : decode cL_part 4 = .ok (.iload_n 2, 1) := by decide +kernel
theorem dL_part_5 : decode cL_part 5 = .ok (.invokevirtual 57, 3) := by decide +kernel
theorem dL_part_8 : decode cL_part 8 = .ok (.i2l, 1) := by decide +kernel
theorem dL_part_9 : decode cL_part 9 = .ok (.lastore, 1) := by decide +kernel
theorem dL_part_10 : decode cL_part 10 = .ok (.goto 11, 3) := by decide +kernel
theorem dL_part_13 : decode cL_part 13 = .ok (.astore 4, 2) := by decide +kernel
theorem dL_part_15 : decode cL_part 15 = .ok (.iconst 1, 1) := by decide +kernel
theorem dL_part_16 : decode cL_part 16 = .ok (.ireturn, 1) := by decide +kernel
theorem dL_part_17 : decode cL_part 17 = .ok (.astore 4, 2) := by decide +kernel
theorem dL_part_19 : decode cL_part 19 = .ok (.iconst 2, 1) := by decide +kernel
theorem dL_part_20 : decode cL_part 20 = .ok (.ireturn, 1) := by decide +kernel
theorem dL_part_21 : decode cL_part 21 = .ok (.iconst 0, 1) := by decide +kernel
theorem dL_part_22 : decode cL_part 22 = .ok (.ireturn, 1) := by decide +kernel
set_option maxHeartbeats 4000000 in
set_option maxRecDepth 100000 in
theorem tL_part {l : Launch} {g : yG} {n : Nat} {σ : yM} (hlt : l.stackTraces = false) (hn : 172 ≤ n) (w h : Int) (T S F P O : Int → Int → Int) (nf df nl : Int) (lg : Int → Int → Int) (s re fo ra tu we sh : Int) (H : List aX) (ht : Bool) (K : Int → Int → Int) (tl : Int) (tb : Int → Int) (fa r1 r2 N : Int) (hV : cV σ (w, h, (T, S, F, P, O, nf, df, nl, lg), (s, re, fo, ra, tu, we, sh), H, ht, K, tl, tb, fa, r1, r2)) (hW : aW N (w, h, (T, S, F, P, O, nf, df, nl, lg), (s, re, fo, ra, tu, we, sh), H, ht, K, tl, tb, fa, r1, r2)) (p a : Int) (hp : -2147483648 ≤ p ∧ p < 2147483648) (ha : -2147483648 ≤ a ∧ a < 2147483648) : yMH l g yL_part cL_part 5 (some .int) [(0, 10, 13, 23), (0, 10, 17, 13)] (rmA 9 4 24) [yR g 0, yI p, yI a, yR g 171] (SC g) n σ (SC g) (yPi (fun zk n' σ' => n ≤ n' ∧ cG σ σ' ∧ ((((0 ≤ p ∧ p < (sPt w h T).2) ∧ 0 ≤ a ∧ a ≤ 5) ∧ zk = 0 ∧ σ' 171 0 = wr (paV (paQ w h T p) a) ∧ cV σ' (w, h, (T, S, F, P, O, nf, df, nl, lg), (s, re, fo, ra, tu, we, sh), H, ht, K, tl, tb, fa, r1, r2)) ∨ (¬ (0 ≤ p ∧ p < (sPt w h T).2) ∧ zk = 1 ∧ cV σ' (bN (w, h, (T, S, F, P, O, nf, df, nl, lg), (s, re, fo, ra, tu, we, sh), H, ht, K, tl, tb, fa, r1, r2))) ∨ ((0 ≤ p ∧ p < (sPt w h T).2) ∧ ¬ (0 ≤ a ∧ a ≤ 5) ∧ zk = 2 ∧ cV σ' (bA (w, h, (T, S, F, P, O, nf, df, nl, lg), (s, re, fo, ra, tu, we, sh), H, ht, K, tl, tb, fa, r1, r2)))))) := by
  refine y_startH (by decide) (Nat.le_of_ble_eq_true rfl) (fun X0 hFH => ?_)
  have hF := hFH.1
  show yV X0 g 5 (yQ X0 g (SC g) (yPi (fun zk n' σ' => n ≤ n' ∧ cG σ σ' ∧ ((((0 ≤ p ∧ p < (sPt w h T).2) ∧ 0 ≤ a ∧ a ≤ 5) ∧ zk = 0 ∧ σ' 171 0 = wr (paV (paQ w h T p) a) ∧ cV σ' (w, h, (T, S, F, P, O, nf, df, nl, lg), (s, re, fo, ra, tu, we, sh), H, ht, K, tl, tb, fa, r1, r2)) ∨ (¬ (0 ≤ p ∧ p < (sPt w h T).2) ∧ zk = 1 ∧ cV σ' (bN (w, h, (T, S, F, P, O, nf, df, nl, lg), (s, re, fo, ra, tu, we, sh), H, ht, K, tl, tb, fa, r1, r2))) ∨ ((0 ≤ p ∧ p < (sPt w h T).2) ∧ ¬ (0 ≤ a ∧ a ≤ 5) ∧ zk = 2 ∧ cV σ' (bA (w, h, (T, S, F, P, O, nf, df, nl, lg), (s, re, fo, ra, tu, we, sh), H, ht, K, tl, tb, fa, r1, r2)))))) (rmA 9 4 24)) (SC g) n σ 0 0 0 [(0, yR g 0), (1, yI p), (2, yI a), (3, yR g 171)] []
  refine y_aload_n (pc := 0) hF dL_part_0 3 rfl ?_
  refine y_iconst (pc := 1) hF dL_part_1 ?_
  refine y_aload_n (pc := 2) hF dL_part_2 0 rfl ?_
  refine y_iload_n (pc := 3) hF dL_part_3 1 rfl ?_
  refine y_iload_n (pc := 4) hF dL_part_4 2 rfl ?_
  refine y_contH (cells' := 4) (slots' := 24) hFH (y_rVH (pc := 5) hFH (tX10_part hlt hn w h T S F P O nf df nl lg s re fo ra tu we sh H ht K tl tb fa r1 r2 N hV hW p a hp ha) dL_part_5 (by omega) rfl rfl rfl w_1087 qX10_part rfl ⟨Nat.le_of_ble_eq_true rfl, Nat.le_of_ble_eq_true rfl⟩ ⟨Nat.le_of_ble_eq_true rfl, Nat.le_of_ble_eq_true rfl⟩ (Nat.le_of_ble_eq_true rfl) rfl (rest := [yI 0, yR g 171])) rfl rfl (fun E n' σ' zx => ?_) (fun r n' σ' zp => ?_)
  · obtain ⟨h1, h2, h4⟩ := zx
    rcases h2 with ⟨zE, h2, h3⟩ | ⟨zE, h2, h5, h3⟩
    · subst zE
      refine ⟨[], (0, 10, 13, 23), [(0, 10, 17, 13)], rfl, (fun y hy => nomatch hy), (by decide), (by decide), w_747, w_766, fun q => ?_⟩
      refine y_astoreS (pc := 13) (lv' := [(0, yR g 0), (1, yI p), (2, yI a), (3, yR g 171), (4, .ref q)]) hF dL_part_13 (by decide) rfl rfl ?_
      refine y_iconst (pc := 15) hF dL_part_15 ?_
      exact y_iret (pc := 16) hF dL_part_16 (Nat.le_of_ble_eq_true rfl) (Nat.le_of_ble_eq_true rfl) ⟨_, rfl, h1, (fun c hc _ => h4 c hc), Or.inr (Or.inl ⟨h2, rfl, h3⟩)⟩
    · subst zE
      refine ⟨[(0, 10, 13, 23)], (0, 10, 17, 13), [], rfl, (fun y hy => by rw [List.mem_singleton.mp hy]; exact ⟨by decide, rfl, w_747⟩), (by decide), (by decide), w_606, w_617, fun q => ?_⟩
      refine y_astoreS (pc := 17) (lv' := [(0, yR g 0), (1, yI p), (2, yI a), (3, yR g 171), (4, .ref q)]) hF dL_part_17 (by decide) rfl rfl ?_
      refine y_iconst (pc := 19) hF dL_part_19 ?_
      exact y_iret (pc := 20) hF dL_part_20 (Nat.le_of_ble_eq_true rfl) (Nat.le_of_ble_eq_true rfl) ⟨_, rfl, h1, (fun c hc _ => h4 c hc), Or.inr (Or.inr ⟨h2, h5, rfl, h3⟩)⟩
  · obtain ⟨zv, rfl, h1, h2, h5, h3, h4⟩ := zp
    show yV X0 g 5 (yQ X0 g (SC g) (yPi (fun zk n' σ' => n ≤ n' ∧ cG σ σ' ∧ ((((0 ≤ p ∧ p < (sPt w h T).2) ∧ 0 ≤ a ∧ a ≤ 5) ∧ zk = 0 ∧ σ' 171 0 = wr (paV (paQ w h T p) a) ∧ cV σ' (w, h, (T, S, F, P, O, nf, df, nl, lg), (s, re, fo, ra, tu, we, sh), H, ht, K, tl, tb, fa, r1, r2)) ∨ (¬ (0 ≤ p ∧ p < (sPt w h T).2) ∧ zk = 1 ∧ cV σ' (bN (w, h, (T, S, F, P, O, nf, df, nl, lg), (s, re, fo, ra, tu, we, sh), H, ht, K, tl, tb, fa, r1, r2))) ∨ ((0 ≤ p ∧ p < (sPt w h T).2) ∧ ¬ (0 ≤ a ∧ a ≤ 5) ∧ zk = 2 ∧ cV σ' (bA (w, h, (T, S, F, P, O, nf, df, nl, lg), (s, re, fo, ra, tu, we, sh), H, ht, K, tl, tb, fa, r1, r2)))))) (rmA 9 4 24)) (SC g) n' σ' 4 24 8 [(0, yR g 0), (1, yI p), (2, yI a), (3, yR g 171)] [yI zv, yI 0, yR g 171]
    refine y_i2lw (pc := 8) hF dL_part_8 ?_
    refine y_lastore (pc := 9) (len := 1) hF dL_part_9 (by omega) rfl (by decide) (by decide) ?_
    refine y_goto (pc := 10) hF dL_part_10 21 rfl ?_
    refine y_iconst (pc := 21) hF dL_part_21 ?_
    refine y_iret (pc := 22) hF dL_part_22 (Nat.le_of_ble_eq_true rfl) (Nat.le_of_ble_eq_true rfl) ⟨_, rfl, h1, (fun c hc hc2 => ?_), Or.inl ⟨h2, rfl, ?_, ?_⟩⟩
    · rw [yset_n hc2]
      exact h4 c hc
    · rw [yset_e, h5]
    · exact cV_out h3

theorem wl_ring : Cond.codeWith yL_ring cL_ring 5 (some .int) [(0, 10, 13, 23), (0, 10, 17, 13)] ∈ y_tb := y_in (mt_5 _ (List.mem_of_getElem? (i := 54) rfl)) rfl
theorem dL_ring_0 : decode cL_ring 0 = .ok (.aload_n 3, 1) := by decide +kernel
theorem dL_ring_1 : decode cL_ring 1 = .ok (.iconst 0, 1) := by decide +kernel
theorem dL_ring_2 : decode cL_ring 2 = .ok (.aload_n 0, 1) := by decide +kernel
theorem dL_ring_3 : decode cL_ring 3 = .ok (.iload_n 1, 1) := by decide +kernel
theorem dL_ring_4 : decode cL_ring 4 = .ok (.iload_n 2, 1) := by decide +kernel
theorem dL_ring_5 : decode cL_ring 5 = .ok (.invokevirtual 60, 3) := by decide +kernel
theorem dL_ring_8 : decode cL_ring 8 = .ok (.i2l, 1) := by decide +kernel
theorem dL_ring_9 : decode cL_ring 9 = .ok (.lastore, 1) := by decide +kernel
theorem dL_ring_10 : decode cL_ring 10 = .ok (.goto 11, 3) := by decide +kernel
theorem dL_ring_13 : decode cL_ring 13 = .ok (.astore 4, 2) := by decide +kernel
theorem dL_ring_15 : decode cL_ring 15 = .ok (.iconst 1, 1) := by decide +kernel
theorem dL_ring_16 : decode cL_ring 16 = .ok (.ireturn, 1) := by decide +kernel
theorem dL_ring_17 : decode cL_ring 17 = .ok (.astore 4, 2) := by decide +kernel
theorem dL_ring_19 : decode cL_ring 19 = .ok (.iconst 2, 1) := by decide +kernel
theorem dL_ring_20 : decode cL_ring 20 = .ok (.ireturn, 1) := by decide +kernel
theorem dL_ring_21 : decode cL_ring 21 = .ok (.iconst 0, 1) := by decide +kernel
theorem dL_ring_22 : decode cL_ring 22 = .ok (.ireturn, 1) := by decide +kernel
set_option maxHeartbeats 4000000 in
set_option maxRecDepth 100000 in
theorem tL_ring {l : Launch} {g : yG} {n : Nat} {σ : yM} (hlt : l.stackTraces = false) (hn : 172 ≤ n) (w h : Int) (T S F P O : Int → Int → Int) (nf df nl : Int) (lg : Int → Int → Int) (s re fo ra tu we sh : Int) (H : List aX) (ht : Bool) (K : Int → Int → Int) (tl : Int) (tb : Int → Int) (fa r1 r2 N : Int) (hV : cV σ (w, h, (T, S, F, P, O, nf, df, nl, lg), (s, re, fo, ra, tu, we, sh), H, ht, K, tl, tb, fa, r1, r2)) (hW : aW N (w, h, (T, S, F, P, O, nf, df, nl, lg), (s, re, fo, ra, tu, we, sh), H, ht, K, tl, tb, fa, r1, r2)) (p a : Int) (hp : -2147483648 ≤ p ∧ p < 2147483648) (ha : -2147483648 ≤ a ∧ a < 2147483648) : yMH l g yL_ring cL_ring 5 (some .int) [(0, 10, 13, 23), (0, 10, 17, 13)] (rmA 9 4 24) [yR g 0, yI p, yI a, yR g 171] (SC g) n σ (SC g) (yPi (fun zk n' σ' => n ≤ n' ∧ cG σ σ' ∧ ((((0 ≤ p ∧ p < (sPt w h T).2) ∧ 0 ≤ a ∧ a ≤ 3) ∧ zk = 0 ∧ σ' 171 0 = wr (rgV (rgQ w h T p) a) ∧ cV σ' (w, h, (T, S, F, P, O, nf, df, nl, lg), (s, re, fo, ra, tu, we, sh), H, ht, K, tl, tb, fa, r1, r2)) ∨ (¬ (0 ≤ p ∧ p < (sPt w h T).2) ∧ zk = 1 ∧ cV σ' (bN (w, h, (T, S, F, P, O, nf, df, nl, lg), (s, re, fo, ra, tu, we, sh), H, ht, K, tl, tb, fa, r1, r2))) ∨ ((0 ≤ p ∧ p < (sPt w h T).2) ∧ ¬ (0 ≤ a ∧ a ≤ 3) ∧ zk = 2 ∧ cV σ' (bA (w, h, (T, S, F, P, O, nf, df, nl, lg), (s, re, fo, ra, tu, we, sh), H, ht, K, tl, tb, fa, r1, r2)))))) := by
  refine y_startH (by decide) (Nat.le_of_ble_eq_true rfl) (fun X0 hFH => ?_)
  have hF := hFH.1
  show yV X0 g 5 (yQ X0 g (SC g) (yPi (fun zk n' σ' => n ≤ n' ∧ cG σ σ' ∧ ((((0 ≤ p ∧ p < (sPt w h T).2) ∧ 0 ≤ a ∧ a ≤ 3) ∧ zk = 0 ∧ σ' 171 0 = wr (rgV (rgQ w h T p) a) ∧ cV σ' (w, h, (T, S, F, P, O, nf, df, nl, lg), (s, re, fo, ra, tu, we, sh), H, ht, K, tl, tb, fa, r1, r2)) ∨ (¬ (0 ≤ p ∧ p < (sPt w h T).2) ∧ zk = 1 ∧ cV σ' (bN (w, h, (T, S, F, P, O, nf, df, nl, lg), (s, re, fo, ra, tu, we, sh), H, ht, K, tl, tb, fa, r1, r2))) ∨ ((0 ≤ p ∧ p < (sPt w h T).2) ∧ ¬ (0 ≤ a ∧ a ≤ 3) ∧ zk = 2 ∧ cV σ' (bA (w, h, (T, S, F, P, O, nf, df, nl, lg), (s, re, fo, ra, tu, we, sh), H, ht, K, tl, tb, fa, r1, r2)))))) (rmA 9 4 24)) (SC g) n σ 0 0 0 [(0, yR g 0), (1, yI p), (2, yI a), (3, yR g 171)] []
  refine y_aload_n (pc := 0) hF dL_ring_0 3 rfl ?_
  refine y_iconst (pc := 1) hF dL_ring_1 ?_
  refine y_aload_n (pc := 2) hF dL_ring_2 0 rfl ?_
  refine y_iload_n (pc := 3) hF dL_ring_3 1 rfl ?_
  refine y_iload_n (pc := 4) hF dL_ring_4 2 rfl ?_
  refine y_contH (cells' := 4) (slots' := 24) hFH (y_rVH (pc := 5) hFH (tX10_ring hlt hn w h T S F P O nf df nl lg s re fo ra tu we sh H ht K tl tb fa r1 r2 N hV hW p a hp ha) dL_ring_5 (by omega) rfl rfl rfl w_1100 qX10_ring rfl ⟨Nat.le_of_ble_eq_true rfl, Nat.le_of_ble_eq_true rfl⟩ ⟨Nat.le_of_ble_eq_true rfl, Nat.le_of_ble_eq_true rfl⟩ (Nat.le_of_ble_eq_true rfl) rfl (rest := [yI 0, yR g 171])) rfl rfl (fun E n' σ' zx => ?_) (fun r n' σ' zp => ?_)
  · obtain ⟨h1, h2, h4⟩ := zx
    rcases h2 with ⟨zE, h2, h3⟩ | ⟨zE, h2, h5, h3⟩
    · subst zE
      refine ⟨[], (0, 10, 13, 23), [(0, 10, 17, 13)], rfl, (fun y hy => nomatch hy), (by decide), (by decide), w_747, w_766, fun q => ?_⟩
      refine y_astoreS (pc := 13) (lv' := [(0, yR g 0), (1, yI p), (2, yI a), (3, yR g 171), (4, .ref q)]) hF dL_ring_13 (by decide) rfl rfl ?_
      refine y_iconst (pc := 15) hF dL_ring_15 ?_
      exact y_iret (pc := 16) hF dL_ring_16 (Nat.le_of_ble_eq_true rfl) (Nat.le_of_ble_eq_true rfl) ⟨_, rfl, h1, (fun c hc _ => h4 c hc), Or.inr (Or.inl ⟨h2, rfl, h3⟩)⟩
    · subst zE
      refine ⟨[(0, 10, 13, 23)], (0, 10, 17, 13), [], rfl, (fun y hy => by rw [List.mem_singleton.mp hy]; exact ⟨by decide, rfl, w_747⟩), (by decide), (by decide), w_606, w_617, fun q => ?_⟩
      refine y_astoreS (pc := 17) (lv' := [(0, yR g 0), (1, yI p), (2, yI a), (3, yR g 171), (4, .ref q)]) hF dL_ring_17 (by decide) rfl rfl ?_
      refine y_iconst (pc := 19) hF dL_ring_19 ?_
      exact y_iret (pc := 20) hF dL_ring_20 (Nat.le_of_ble_eq_true rfl) (Nat.le_of_ble_eq_true rfl) ⟨_, rfl, h1, (fun c hc _ => h4 c hc), Or.inr (Or.inr ⟨h2, h5, rfl, h3⟩)⟩
  · obtain ⟨zv, rfl, h1, h2, h5, h3, h4⟩ := zp
    show yV X0 g 5 (yQ X0 g (SC g) (yPi (fun zk n' σ' => n ≤ n' ∧ cG σ σ' ∧ ((((0 ≤ p ∧ p < (sPt w h T).2) ∧ 0 ≤ a ∧ a ≤ 3) ∧ zk = 0 ∧ σ' 171 0 = wr (rgV (rgQ w h T p) a) ∧ cV σ' (w, h, (T, S, F, P, O, nf, df, nl, lg), (s, re, fo, ra, tu, we, sh), H, ht, K, tl, tb, fa, r1, r2)) ∨ (¬ (0 ≤ p ∧ p < (sPt w h T).2) ∧ zk = 1 ∧ cV σ' (bN (w, h, (T, S, F, P, O, nf, df, nl, lg), (s, re, fo, ra, tu, we, sh), H, ht, K, tl, tb, fa, r1, r2))) ∨ ((0 ≤ p ∧ p < (sPt w h T).2) ∧ ¬ (0 ≤ a ∧ a ≤ 3) ∧ zk = 2 ∧ cV σ' (bA (w, h, (T, S, F, P, O, nf, df, nl, lg), (s, re, fo, ra, tu, we, sh), H, ht, K, tl, tb, fa, r1, r2)))))) (rmA 9 4 24)) (SC g) n' σ' 4 24 8 [(0, yR g 0), (1, yI p), (2, yI a), (3, yR g 171)] [yI zv, yI 0, yR g 171]
    refine y_i2lw (pc := 8) hF dL_ring_8 ?_
    refine y_lastore (pc := 9) (len := 1) hF dL_ring_9 (by omega) rfl (by decide) (by decide) ?_
    refine y_goto (pc := 10) hF dL_ring_10 21 rfl ?_
    refine y_iconst (pc := 21) hF dL_ring_21 ?_
    refine y_iret (pc := 22) hF dL_ring_22 (Nat.le_of_ble_eq_true rfl) (Nat.le_of_ble_eq_true rfl) ⟨_, rfl, h1, (fun c hc hc2 => ?_), Or.inl ⟨h2, rfl, ?_, ?_⟩⟩
    · rw [yset_n hc2]
      exact h4 c hc
    · rw [yset_e, h5]
    · exact cV_out h3

theorem wl_log : Cond.codeWith yL_log cL_log 5 (some .int) [(0, 10, 13, 23), (0, 10, 17, 13)] ∈ y_tb := y_in (mt_5 _ (List.mem_of_getElem? (i := 66) rfl)) rfl
theorem dL_log_0 : decode cL_log 0 = .ok (.aload_n 3, 1) := by decide +kernel
theorem dL_log_1 : decode cL_log 1 = .ok (.iconst 0, 1) := by decide +kernel
theorem dL_log_2 : decode cL_log 2 = .ok (.aload_n 0, 1) := by decide +kernel
theorem dL_log_3 : decode cL_log 3 = .ok (.iload_n 1, 1) := by decide +kernel
theorem dL_log_4 : decode cL_log 4 = .ok (.iload_n 2, 1) := by decide +kernel
theorem dL_log_5 : decode cL_log 5 = .ok (.invokevirtual 63, 3) := by decide +kernel
theorem dL_log_8 : decode cL_log 8 = .ok (.i2l, 1) := by decide +kernel
theorem dL_log_9 : decode cL_log 9 = .ok (.lastore, 1) := by decide +kernel
theorem dL_log_10 : decode cL_log 10 = .ok (.goto 11, 3) := by decide +kernel
theorem dL_log_13 : decode cL_log 13 = .ok (.astore 4, 2) := by decide +kernel
theorem dL_log_15 : decode cL_log 15 = .ok (.iconst 1, 1) := by decide +kernel
theorem dL_log_16 : decode cL_log 16 = .ok (.ireturn, 1) := by decide +kernel
theorem dL_log_17 : decode cL_log 17 = .ok (.astore 4, 2) := by decide +kernel
theorem dL_log_19 : decode cL_log 19 = .ok (.iconst 2, 1) := by decide +kernel
theorem dL_log_20 : decode cL_log 20 = .ok (.ireturn, 1) := by decide +kernel
theorem dL_log_21 : decode cL_log 21 = .ok (.iconst 0, 1) := by decide +kernel
theorem dL_log_22 : decode cL_log 22 = .ok (.ireturn, 1) := by decide +kernel
set_option maxHeartbeats 4000000 in
set_option maxRecDepth 100000 in
theorem tL_log {l : Launch} {g : yG} {n : Nat} {σ : yM} (hlt : l.stackTraces = false) (hn : 172 ≤ n) (w h : Int) (T S F P O : Int → Int → Int) (nf df nl : Int) (lg : Int → Int → Int) (s re fo ra tu we sh : Int) (H : List aX) (ht : Bool) (K : Int → Int → Int) (tl : Int) (tb : Int → Int) (fa r1 r2 N : Int) (hV : cV σ (w, h, (T, S, F, P, O, nf, df, nl, lg), (s, re, fo, ra, tu, we, sh), H, ht, K, tl, tb, fa, r1, r2)) (hW : aW N (w, h, (T, S, F, P, O, nf, df, nl, lg), (s, re, fo, ra, tu, we, sh), H, ht, K, tl, tb, fa, r1, r2)) (k a : Int) (hk : -2147483648 ≤ k ∧ k < 2147483648) (ha : -2147483648 ≤ a ∧ a < 2147483648) : yMH l g yL_log cL_log 5 (some .int) [(0, 10, 13, 23), (0, 10, 17, 13)] (rmA 9 4 24) [yR g 0, yI k, yI a, yR g 171] (SC g) n σ (SC g) (yPi (fun zk n' σ' => n ≤ n' ∧ cG σ σ' ∧ ((((0 ≤ k ∧ k < nl) ∧ 0 ≤ a ∧ a ≤ 8) ∧ zk = 0 ∧ σ' 171 0 = wr (lg k a) ∧ cV σ' (w, h, (T, S, F, P, O, nf, df, nl, lg), (s, re, fo, ra, tu, we, sh), H, ht, K, tl, tb, fa, r1, r2)) ∨ (¬ (0 ≤ k ∧ k < nl) ∧ zk = 1 ∧ cV σ' (bN (w, h, (T, S, F, P, O, nf, df, nl, lg), (s, re, fo, ra, tu, we, sh), H, ht, K, tl, tb, fa, r1, r2))) ∨ ((0 ≤ k ∧ k < nl) ∧ ¬ (0 ≤ a ∧ a ≤ 8) ∧ zk = 2 ∧ cV σ' (bA (w, h, (T, S, F, P, O, nf, df, nl, lg), (s, re, fo, ra, tu, we, sh), H, ht, K, tl, tb, fa, r1, r2)))))) := by
  refine y_startH (by decide) (Nat.le_of_ble_eq_true rfl) (fun X0 hFH => ?_)
  have hF := hFH.1
  show yV X0 g 5 (yQ X0 g (SC g) (yPi (fun zk n' σ' => n ≤ n' ∧ cG σ σ' ∧ ((((0 ≤ k ∧ k < nl) ∧ 0 ≤ a ∧ a ≤ 8) ∧ zk = 0 ∧ σ' 171 0 = wr (lg k a) ∧ cV σ' (w, h, (T, S, F, P, O, nf, df, nl, lg), (s, re, fo, ra, tu, we, sh), H, ht, K, tl, tb, fa, r1, r2)) ∨ (¬ (0 ≤ k ∧ k < nl) ∧ zk = 1 ∧ cV σ' (bN (w, h, (T, S, F, P, O, nf, df, nl, lg), (s, re, fo, ra, tu, we, sh), H, ht, K, tl, tb, fa, r1, r2))) ∨ ((0 ≤ k ∧ k < nl) ∧ ¬ (0 ≤ a ∧ a ≤ 8) ∧ zk = 2 ∧ cV σ' (bA (w, h, (T, S, F, P, O, nf, df, nl, lg), (s, re, fo, ra, tu, we, sh), H, ht, K, tl, tb, fa, r1, r2)))))) (rmA 9 4 24)) (SC g) n σ 0 0 0 [(0, yR g 0), (1, yI k), (2, yI a), (3, yR g 171)] []
  refine y_aload_n (pc := 0) hF dL_log_0 3 rfl ?_
  refine y_iconst (pc := 1) hF dL_log_1 ?_
  refine y_aload_n (pc := 2) hF dL_log_2 0 rfl ?_
  refine y_iload_n (pc := 3) hF dL_log_3 1 rfl ?_
  refine y_iload_n (pc := 4) hF dL_log_4 2 rfl ?_
  refine y_contH (cells' := 4) (slots' := 24) hFH (y_rVH (pc := 5) hFH (tX10_log hlt hn w h T S F P O nf df nl lg s re fo ra tu we sh H ht K tl tb fa r1 r2 N hV hW k a hk ha) dL_log_5 (by omega) rfl rfl rfl w_1112 qX10_log rfl ⟨Nat.le_of_ble_eq_true rfl, Nat.le_of_ble_eq_true rfl⟩ ⟨Nat.le_of_ble_eq_true rfl, Nat.le_of_ble_eq_true rfl⟩ (Nat.le_of_ble_eq_true rfl) rfl (rest := [yI 0, yR g 171])) rfl rfl (fun E n' σ' zx => ?_) (fun r n' σ' zp => ?_)
  · obtain ⟨h1, h2, h4⟩ := zx
    rcases h2 with ⟨zE, h2, h3⟩ | ⟨zE, h2, h5, h3⟩
    · subst zE
      refine ⟨[], (0, 10, 13, 23), [(0, 10, 17, 13)], rfl, (fun y hy => nomatch hy), (by decide), (by decide), w_747, w_766, fun q => ?_⟩
      refine y_astoreS (pc := 13) (lv' := [(0, yR g 0), (1, yI k), (2, yI a), (3, yR g 171), (4, .ref q)]) hF dL_log_13 (by decide) rfl rfl ?_
      refine y_iconst (pc := 15) hF dL_log_15 ?_
      exact y_iret (pc := 16) hF dL_log_16 (Nat.le_of_ble_eq_true rfl) (Nat.le_of_ble_eq_true rfl) ⟨_, rfl, h1, (fun c hc _ => h4 c hc), Or.inr (Or.inl ⟨h2, rfl, h3⟩)⟩
    · subst zE
      refine ⟨[(0, 10, 13, 23)], (0, 10, 17, 13), [], rfl, (fun y hy => by rw [List.mem_singleton.mp hy]; exact ⟨by decide, rfl, w_747⟩), (by decide), (by decide), w_606, w_617, fun q => ?_⟩
      refine y_astoreS (pc := 17) (lv' := [(0, yR g 0), (1, yI k), (2, yI a), (3, yR g 171), (4, .ref q)]) hF dL_log_17 (by decide) rfl rfl ?_
      refine y_iconst (pc := 19) hF dL_log_19 ?_
      exact y_iret (pc := 20) hF dL_log_20 (Nat.le_of_ble_eq_true rfl) (Nat.le_of_ble_eq_true rfl) ⟨_, rfl, h1, (fun c hc _ => h4 c hc), Or.inr (Or.inr ⟨h2, h5, rfl, h3⟩)⟩
  · obtain ⟨zv, rfl, h1, h2, h5, h3, h4⟩ := zp
    show yV X0 g 5 (yQ X0 g (SC g) (yPi (fun zk n' σ' => n ≤ n' ∧ cG σ σ' ∧ ((((0 ≤ k ∧ k < nl) ∧ 0 ≤ a ∧ a ≤ 8) ∧ zk = 0 ∧ σ' 171 0 = wr (lg k a) ∧ cV σ' (w, h, (T, S, F, P, O, nf, df, nl, lg), (s, re, fo, ra, tu, we, sh), H, ht, K, tl, tb, fa, r1, r2)) ∨ (¬ (0 ≤ k ∧ k < nl) ∧ zk = 1 ∧ cV σ' (bN (w, h, (T, S, F, P, O, nf, df, nl, lg), (s, re, fo, ra, tu, we, sh), H, ht, K, tl, tb, fa, r1, r2))) ∨ ((0 ≤ k ∧ k < nl) ∧ ¬ (0 ≤ a ∧ a ≤ 8) ∧ zk = 2 ∧ cV σ' (bA (w, h, (T, S, F, P, O, nf, df, nl, lg), (s, re, fo, ra, tu, we, sh), H, ht, K, tl, tb, fa, r1, r2)))))) (rmA 9 4 24)) (SC g) n' σ' 4 24 8 [(0, yR g 0), (1, yI k), (2, yI a), (3, yR g 171)] [yI zv, yI 0, yR g 171]
    refine y_i2lw (pc := 8) hF dL_log_8 ?_
    refine y_lastore (pc := 9) (len := 1) hF dL_log_9 (by omega) rfl (by decide) (by decide) ?_
    refine y_goto (pc := 10) hF dL_log_10 21 rfl ?_
    refine y_iconst (pc := 21) hF dL_log_21 ?_
    refine y_iret (pc := 22) hF dL_log_22 (Nat.le_of_ble_eq_true rfl) (Nat.le_of_ble_eq_true rfl) ⟨_, rfl, h1, (fun c hc hc2 => ?_), Or.inl ⟨h2, rfl, ?_, ?_⟩⟩
    · rw [yset_n hc2]
      exact h4 c hc
    · rw [yset_e, h5]
    · exact cV_out h3

theorem wl_half : Cond.codeWith yL_half cL_half 6 (some .int) [(0, 12, 15, 13)] ∈ y_tb := y_in (mt_5 _ (List.mem_of_getElem? (i := 83) rfl)) rfl
theorem dL_half_0 : decode cL_half 0 = .ok (.aload 4, 2) := by decide +kernel
theorem dL_half_2 : decode cL_half 2 = .ok (.iconst 0, 1) := by decide +kernel
theorem dL_half_3 : decode cL_half 3 = .ok (.aload_n 0, 1) := by decide +kernel
theorem dL_half_4 : decode cL_half 4 = .ok (.iload_n 1, 1) := by decide +kernel
theorem dL_half_5 : decode cL_half 5 = .ok (.iload_n 2, 1) := by decide +kernel
theorem dL_half_6 : decode cL_half 6 = .ok (.iload_n 3, 1) := by decide +kernel
theorem dL_half_7 : decode cL_half 7 = .ok (.invokevirtual 66, 3) := by decide +kernel
theorem dL_half_10 : decode cL_half 10 = .ok (.i2l, 1) := by decide +kernel
theorem dL_half_11 : decode cL_half 11 = .ok (.lastore, 1) := by decide +kernel
theorem dL_half_12 : decode cL_half 12 = .ok (.goto 7, 3) := by decide +kernel
theorem dL_half_15 : decode cL_half 15 = .ok (.astore 5, 2) := by decide +kernel
theorem dL_half_17 : decode cL_half 17 = .ok (.iconst 1, 1) := by decide +kernel
theorem dL_half_18 : decode cL_half 18 = .ok (.ireturn, 1) := by decide +kernel
theorem dL_half_19 : decode cL_half 19 = .ok (.iconst 0, 1) := by decide +kernel
theorem dL_half_20 : decode cL_half 20 = .ok (.ireturn, 1) := by decide +kernel
set_option maxHeartbeats 4000000 in
set_option maxRecDepth 100000 in
theorem tL_half {l : Launch} {g : yG} {n : Nat} {σ : yM} (hlt : l.stackTraces = false) (hn : 172 ≤ n) (w h : Int) (T S F P O : Int → Int → Int) (nf df nl : Int) (lg : Int → Int → Int) (s re fo ra tu we sh : Int) (H : List aX) (ht : Bool) (K : Int → Int → Int) (tl : Int) (tb : Int → Int) (fa r1 r2 N : Int) (hV : cV σ (w, h, (T, S, F, P, O, nf, df, nl, lg), (s, re, fo, ra, tu, we, sh), H, ht, K, tl, tb, fa, r1, r2)) (hW : aW N (w, h, (T, S, F, P, O, nf, df, nl, lg), (s, re, fo, ra, tu, we, sh), H, ht, K, tl, tb, fa, r1, r2)) (a x y : Int) (ha : -2147483648 ≤ a ∧ a < 2147483648) (hx : -2147483648 ≤ x ∧ x < 2147483648) (hy : -2147483648 ≤ y ∧ y < 2147483648) : yMH l g yL_half cL_half 6 (some .int) [(0, 12, 15, 13)] (rmA 9 4 24) [yR g 0, yI a, yI x, yI y, yR g 171] (SC g) n σ (SC g) (yPi (fun zk n' σ' => n ≤ n' ∧ cG σ σ' ∧ (((a = 1 ∨ a = 2) ∧ zk = 0 ∧ σ' 171 0 = wr (hfV w h T a x y) ∧ cV σ' (w, h, (T, S, F, P, O, nf, df, nl, lg), (s, re, fo, ra, tu, we, sh), H, ht, K, tl, tb, fa, r1, r2)) ∨ (¬ (a = 1 ∨ a = 2) ∧ zk = 1 ∧ cV σ' (bA (w, h, (T, S, F, P, O, nf, df, nl, lg), (s, re, fo, ra, tu, we, sh), H, ht, K, tl, tb, fa, r1, r2)))))) := by
  refine y_startH (by decide) (Nat.le_of_ble_eq_true rfl) (fun X0 hFH => ?_)
  have hF := hFH.1
  show yV X0 g 6 (yQ X0 g (SC g) (yPi (fun zk n' σ' => n ≤ n' ∧ cG σ σ' ∧ (((a = 1 ∨ a = 2) ∧ zk = 0 ∧ σ' 171 0 = wr (hfV w h T a x y) ∧ cV σ' (w, h, (T, S, F, P, O, nf, df, nl, lg), (s, re, fo, ra, tu, we, sh), H, ht, K, tl, tb, fa, r1, r2)) ∨ (¬ (a = 1 ∨ a = 2) ∧ zk = 1 ∧ cV σ' (bA (w, h, (T, S, F, P, O, nf, df, nl, lg), (s, re, fo, ra, tu, we, sh), H, ht, K, tl, tb, fa, r1, r2)))))) (rmA 9 4 24)) (SC g) n σ 0 0 0 [(0, yR g 0), (1, yI a), (2, yI x), (3, yI y), (4, yR g 171)] []
  refine y_aload (pc := 0) hF dL_half_0 4 rfl ?_
  refine y_iconst (pc := 2) hF dL_half_2 ?_
  refine y_aload_n (pc := 3) hF dL_half_3 0 rfl ?_
  refine y_iload_n (pc := 4) hF dL_half_4 1 rfl ?_
  refine y_iload_n (pc := 5) hF dL_half_5 2 rfl ?_
  refine y_iload_n (pc := 6) hF dL_half_6 3 rfl ?_
  refine y_contH (cells' := 4) (slots' := 24) hFH (y_rVH (pc := 7) hFH (tX10_half hlt hn w h T S F P O nf df nl lg s re fo ra tu we sh H ht K tl tb fa r1 r2 N hV hW a x y ha hx hy) dL_half_7 (by omega) rfl rfl rfl w_1129 qX10_half rfl ⟨Nat.le_of_ble_eq_true rfl, Nat.le_of_ble_eq_true rfl⟩ ⟨Nat.le_of_ble_eq_true rfl, Nat.le_of_ble_eq_true rfl⟩ (Nat.le_of_ble_eq_true rfl) rfl (rest := [yI 0, yR g 171])) rfl rfl (fun E n' σ' zx => ?_) (fun r n' σ' zp => ?_)
  · obtain ⟨zE, h1, h2, h3, h4⟩ := zx
    subst zE
    refine ⟨[], (0, 12, 15, 13), [], rfl, (fun y hy => nomatch hy), (by decide), (by decide), w_606, w_617, fun q => ?_⟩
    refine y_astoreS (pc := 15) (lv' := [(0, yR g 0), (1, yI a), (2, yI x), (3, yI y), (4, yR g 171), (5, .ref q)]) hF dL_half_15 (by decide) rfl rfl ?_
    refine y_iconst (pc := 17) hF dL_half_17 ?_
    exact y_iret (pc := 18) hF dL_half_18 (Nat.le_of_ble_eq_true rfl) (Nat.le_of_ble_eq_true rfl) ⟨_, rfl, h1, (fun c hc _ => h4 c hc), Or.inr ⟨h2, rfl, h3⟩⟩
  · obtain ⟨zv, rfl, h1, h2, h5, h3, h4⟩ := zp
    show yV X0 g 6 (yQ X0 g (SC g) (yPi (fun zk n' σ' => n ≤ n' ∧ cG σ σ' ∧ (((a = 1 ∨ a = 2) ∧ zk = 0 ∧ σ' 171 0 = wr (hfV w h T a x y) ∧ cV σ' (w, h, (T, S, F, P, O, nf, df, nl, lg), (s, re, fo, ra, tu, we, sh), H, ht, K, tl, tb, fa, r1, r2)) ∨ (¬ (a = 1 ∨ a = 2) ∧ zk = 1 ∧ cV σ' (bA (w, h, (T, S, F, P, O, nf, df, nl, lg), (s, re, fo, ra, tu, we, sh), H, ht, K, tl, tb, fa, r1, r2)))))) (rmA 9 4 24)) (SC g) n' σ' 4 24 10 [(0, yR g 0), (1, yI a), (2, yI x), (3, yI y), (4, yR g 171)] [yI zv, yI 0, yR g 171]
    refine y_i2lw (pc := 10) hF dL_half_10 ?_
    refine y_lastore (pc := 11) (len := 1) hF dL_half_11 (by omega) rfl (by decide) (by decide) ?_
    refine y_goto (pc := 12) hF dL_half_12 19 rfl ?_
    refine y_iconst (pc := 19) hF dL_half_19 ?_
    refine y_iret (pc := 20) hF dL_half_20 (Nat.le_of_ble_eq_true rfl) (Nat.le_of_ble_eq_true rfl) ⟨_, rfl, h1, (fun c hc hc2 => ?_), Or.inl ⟨h2, rfl, ?_, ?_⟩⟩
    · rw [yset_n hc2]
      exact h4 c hc
    · rw [yset_e, h5]
    · exact cV_out h3

theorem wl_ahead : Cond.codeWith yL_ahead cL_ahead 5 (some .int) [(0, 10, 13, 13)] ∈ y_tb := y_in (mt_5 _ (List.mem_of_getElem? (i := 91) rfl)) rfl
theorem dL_ahead_0 : decode cL_ahead 0 = .ok (.aload_n 3, 1) := by decide +kernel
theorem dL_ahead_1 : decode cL_ahead 1 = .ok (.iconst 0, 1) := by decide +kernel
theorem dL_ahead_2 : decode cL_ahead 2 = .ok (.aload_n 0, 1) := by decide +kernel
theorem dL_ahead_3 : decode cL_ahead 3 = .ok (.iload_n 1, 1) := by decide +kernel
theorem dL_ahead_4 : decode cL_ahead 4 = .ok (.iload_n 2, 1) := by decide +kernel
theorem dL_ahead_5 : decode cL_ahead 5 = .ok (.invokevirtual 69, 3) := by decide +kernel
theorem dL_ahead_8 : decode cL_ahead 8 = .ok (.i2l, 1) := by decide +kernel
theorem dL_ahead_9 : decode cL_ahead 9 = .ok (.lastore, 1) := by decide +kernel
theorem dL_ahead_10 : decode cL_ahead 10 = .ok (.goto 7, 3) := by decide +kernel
theorem dL_ahead_13 : decode cL_ahead 13 = .ok (.astore 4, 2) := by decide +kernel
theorem dL_ahead_15 : decode cL_ahead 15 = .ok (.iconst 1, 1) := by decide +kernel
theorem dL_ahead_16 : decode cL_ahead 16 = .ok (.ireturn, 1) := by decide +kernel
theorem dL_ahead_17 : decode cL_ahead 17 = .ok (.iconst 0, 1) := by decide +kernel
theorem dL_ahead_18 : decode cL_ahead 18 = .ok (.ireturn, 1) := by decide +kernel
set_option maxHeartbeats 4000000 in
set_option maxRecDepth 100000 in
theorem tL_ahead {l : Launch} {g : yG} {n : Nat} {σ : yM} (hlt : l.stackTraces = false) (hn : 172 ≤ n) (w h : Int) (T S F P O : Int → Int → Int) (nf df nl : Int) (lg : Int → Int → Int) (s re fo ra tu we sh : Int) (H : List aX) (ht : Bool) (K : Int → Int → Int) (tl : Int) (tb : Int → Int) (fa r1 r2 N : Int) (hV : cV σ (w, h, (T, S, F, P, O, nf, df, nl, lg), (s, re, fo, ra, tu, we, sh), H, ht, K, tl, tb, fa, r1, r2)) (hW : aW N (w, h, (T, S, F, P, O, nf, df, nl, lg), (s, re, fo, ra, tu, we, sh), H, ht, K, tl, tb, fa, r1, r2)) (a b : Int) (ha : -2147483648 ≤ a ∧ a < 2147483648) (hb : -2147483648 ≤ b ∧ b < 2147483648) : yMH l g yL_ahead cL_ahead 5 (some .int) [(0, 10, 13, 13)] (rmA 9 4 24) [yR g 0, yI a, yI b, yR g 171] (SC g) n σ (SC g) (yPi (fun zk n' σ' => n ≤ n' ∧ cG σ σ' ∧ ((((1 ≤ a ∧ a ≤ 60) ∧ (0 ≤ b ∧ b ≤ 4)) ∧ zk = 0 ∧ σ' 171 0 = wr (ahV w h ht K (gR w h s re fo ra tu we sh 0 a.toNat (x00 T S F P O)).2 b) ∧ cV σ' (w, h, (T, S, F, P, O, nf, df, nl, lg), (s, re, fo, ra, tu, we, sh), H, ht, K, tl, tb, fa, r1, r2)) ∨ (¬ ((1 ≤ a ∧ a ≤ 60) ∧ (0 ≤ b ∧ b ≤ 4)) ∧ zk = 1 ∧ cV σ' (bA (w, h, (T, S, F, P, O, nf, df, nl, lg), (s, re, fo, ra, tu, we, sh), H, ht, K, tl, tb, fa, r1, r2)))))) := by
  refine y_startH (by decide) (Nat.le_of_ble_eq_true rfl) (fun X0 hFH => ?_)
  have hF := hFH.1
  show yV X0 g 5 (yQ X0 g (SC g) (yPi (fun zk n' σ' => n ≤ n' ∧ cG σ σ' ∧ ((((1 ≤ a ∧ a ≤ 60) ∧ (0 ≤ b ∧ b ≤ 4)) ∧ zk = 0 ∧ σ' 171 0 = wr (ahV w h ht K (gR w h s re fo ra tu we sh 0 a.toNat (x00 T S F P O)).2 b) ∧ cV σ' (w, h, (T, S, F, P, O, nf, df, nl, lg), (s, re, fo, ra, tu, we, sh), H, ht, K, tl, tb, fa, r1, r2)) ∨ (¬ ((1 ≤ a ∧ a ≤ 60) ∧ (0 ≤ b ∧ b ≤ 4)) ∧ zk = 1 ∧ cV σ' (bA (w, h, (T, S, F, P, O, nf, df, nl, lg), (s, re, fo, ra, tu, we, sh), H, ht, K, tl, tb, fa, r1, r2)))))) (rmA 9 4 24)) (SC g) n σ 0 0 0 [(0, yR g 0), (1, yI a), (2, yI b), (3, yR g 171)] []
  refine y_aload_n (pc := 0) hF dL_ahead_0 3 rfl ?_
  refine y_iconst (pc := 1) hF dL_ahead_1 ?_
  refine y_aload_n (pc := 2) hF dL_ahead_2 0 rfl ?_
  refine y_iload_n (pc := 3) hF dL_ahead_3 1 rfl ?_
  refine y_iload_n (pc := 4) hF dL_ahead_4 2 rfl ?_
  refine y_contH (cells' := 4) (slots' := 24) hFH (y_rVH (pc := 5) hFH (tX10_ahead hlt hn w h T S F P O nf df nl lg s re fo ra tu we sh H ht K tl tb fa r1 r2 N hV hW a b ha hb) dL_ahead_5 (by omega) rfl rfl rfl w_1137 qX10_ahead rfl ⟨Nat.le_of_ble_eq_true rfl, Nat.le_of_ble_eq_true rfl⟩ ⟨Nat.le_of_ble_eq_true rfl, Nat.le_of_ble_eq_true rfl⟩ (Nat.le_of_ble_eq_true rfl) rfl (rest := [yI 0, yR g 171])) rfl rfl (fun E n' σ' zx => ?_) (fun r n' σ' zp => ?_)
  · obtain ⟨zE, h1, h2, h3, h4⟩ := zx
    subst zE
    refine ⟨[], (0, 10, 13, 13), [], rfl, (fun y hy => nomatch hy), (by decide), (by decide), w_606, w_617, fun q => ?_⟩
    refine y_astoreS (pc := 13) (lv' := [(0, yR g 0), (1, yI a), (2, yI b), (3, yR g 171), (4, .ref q)]) hF dL_ahead_13 (by decide) rfl rfl ?_
    refine y_iconst (pc := 15) hF dL_ahead_15 ?_
    exact y_iret (pc := 16) hF dL_ahead_16 (Nat.le_of_ble_eq_true rfl) (Nat.le_of_ble_eq_true rfl) ⟨_, rfl, h1, (fun c hc _ => h4 c hc), Or.inr ⟨h2, rfl, h3⟩⟩
  · obtain ⟨zv, rfl, h1, h2, h5, h3, h4⟩ := zp
    show yV X0 g 5 (yQ X0 g (SC g) (yPi (fun zk n' σ' => n ≤ n' ∧ cG σ σ' ∧ ((((1 ≤ a ∧ a ≤ 60) ∧ (0 ≤ b ∧ b ≤ 4)) ∧ zk = 0 ∧ σ' 171 0 = wr (ahV w h ht K (gR w h s re fo ra tu we sh 0 a.toNat (x00 T S F P O)).2 b) ∧ cV σ' (w, h, (T, S, F, P, O, nf, df, nl, lg), (s, re, fo, ra, tu, we, sh), H, ht, K, tl, tb, fa, r1, r2)) ∨ (¬ ((1 ≤ a ∧ a ≤ 60) ∧ (0 ≤ b ∧ b ≤ 4)) ∧ zk = 1 ∧ cV σ' (bA (w, h, (T, S, F, P, O, nf, df, nl, lg), (s, re, fo, ra, tu, we, sh), H, ht, K, tl, tb, fa, r1, r2)))))) (rmA 9 4 24)) (SC g) n' σ' 4 24 8 [(0, yR g 0), (1, yI a), (2, yI b), (3, yR g 171)] [yI zv, yI 0, yR g 171]
    refine y_i2lw (pc := 8) hF dL_ahead_8 ?_
    refine y_lastore (pc := 9) (len := 1) hF dL_ahead_9 (by omega) rfl (by decide) (by decide) ?_
    refine y_goto (pc := 10) hF dL_ahead_10 17 rfl ?_
    refine y_iconst (pc := 17) hF dL_ahead_17 ?_
    refine y_iret (pc := 18) hF dL_ahead_18 (Nat.le_of_ble_eq_true rfl) (Nat.le_of_ble_eq_true rfl) ⟨_, rfl, h1, (fun c hc hc2 => ?_), Or.inl ⟨h2, rfl, ?_, ?_⟩⟩
    · rw [yset_n hc2]
      exact h4 c hc
    · rw [yset_e, h5]
    · exact cV_out h3

theorem wl_flawBy : Cond.codeWith yL_flawBy cL_flawBy 4 (some .int) [(0, 9, 12, 13)] ∈ y_tb := y_in (mt_5 _ (List.mem_of_getElem? (i := 109) rfl)) rfl
theorem dL_flawBy_0 : decode cL_flawBy 0 = .ok (.aload_n 2, 1) := by decide +kernel
theorem dL_flawBy_1 : decode cL_flawBy 1 = .ok (.iconst 0, 1) := by decide +kernel
theorem dL_flawBy_2 : decode cL_flawBy 2 = .ok (.aload_n 0, 1) := by decide +kernel
theorem dL_flawBy_3 : decode cL_flawBy 3 = .ok (.iload_n 1, 1) := by decide +kernel
theorem dL_flawBy_4 : decode cL_flawBy 4 = .ok (.invokevirtual 72, 3) := by decide +kernel
theorem dL_flawBy_7 : decode cL_flawBy 7 = .ok (.i2l, 1) := by decide +kernel
theorem dL_flawBy_8 : decode cL_flawBy 8 = .ok (.lastore, 1) := by decide +kernel
theorem dL_flawBy_9 : decode cL_flawBy 9 = .ok (.goto 6, 3) := by decide +kernel
theorem dL_flawBy_12 : decode cL_flawBy 12 = .ok (.astore_n 3, 1) := by decide +kernel
theorem dL_flawBy_13 : decode cL_flawBy 13 = .ok (.iconst 1, 1) := by decide +kernel
theorem dL_flawBy_14 : decode cL_flawBy 14 = .ok (.ireturn, 1) := by decide +kernel
theorem dL_flawBy_15 : decode cL_flawBy 15 = .ok (.iconst 0, 1) := by decide +kernel
theorem dL_flawBy_16 : decode cL_flawBy 16 = .ok (.ireturn, 1) := by decide +kernel
set_option maxHeartbeats 4000000 in
set_option maxRecDepth 100000 in
theorem tL_flawBy {l : Launch} {g : yG} {n : Nat} {σ : yM} (hlt : l.stackTraces = false) (hn : 172 ≤ n) (w h : Int) (T S F P O : Int → Int → Int) (nf df nl : Int) (lg : Int → Int → Int) (s re fo ra tu we sh : Int) (H : List aX) (ht : Bool) (K : Int → Int → Int) (tl : Int) (tb : Int → Int) (fa r1 r2 N : Int) (hV : cV σ (w, h, (T, S, F, P, O, nf, df, nl, lg), (s, re, fo, ra, tu, we, sh), H, ht, K, tl, tb, fa, r1, r2)) (hW : aW N (w, h, (T, S, F, P, O, nf, df, nl, lg), (s, re, fo, ra, tu, we, sh), H, ht, K, tl, tb, fa, r1, r2)) (a : Int) (ha : -2147483648 ≤ a ∧ a < 2147483648) : yMH l g yL_flawBy cL_flawBy 4 (some .int) [(0, 9, 12, 13)] (rmA 9 4 24) [yR g 0, yI a, yR g 171] (SC g) n σ (SC g) (yPi (fun zk n' σ' => n ≤ n' ∧ cG σ σ' ∧ (((0 ≤ a ∧ a ≤ 2) ∧ zk = 0 ∧ σ' 171 0 = wr (fbV w h ht K T F (gR w h s re fo ra tu we sh a (400 : Int).toNat (x00 T S F P O)).2) ∧ cV σ' (w, h, (T, S, F, P, O, nf, df, nl, lg), (s, re, fo, ra, tu, we, sh), H, ht, K, tl, tb, fa, r1, r2)) ∨ (¬ (0 ≤ a ∧ a ≤ 2) ∧ zk = 1 ∧ cV σ' (bA (w, h, (T, S, F, P, O, nf, df, nl, lg), (s, re, fo, ra, tu, we, sh), H, ht, K, tl, tb, fa, r1, r2)))))) := by
  refine y_startH (by decide) (Nat.le_of_ble_eq_true rfl) (fun X0 hFH => ?_)
  have hF := hFH.1
  show yV X0 g 4 (yQ X0 g (SC g) (yPi (fun zk n' σ' => n ≤ n' ∧ cG σ σ' ∧ (((0 ≤ a ∧ a ≤ 2) ∧ zk = 0 ∧ σ' 171 0 = wr (fbV w h ht K T F (gR w h s re fo ra tu we sh a (400 : Int).toNat (x00 T S F P O)).2) ∧ cV σ' (w, h, (T, S, F, P, O, nf, df, nl, lg), (s, re, fo, ra, tu, we, sh), H, ht, K, tl, tb, fa, r1, r2)) ∨ (¬ (0 ≤ a ∧ a ≤ 2) ∧ zk = 1 ∧ cV σ' (bA (w, h, (T, S, F, P, O, nf, df, nl, lg), (s, re, fo, ra, tu, we, sh), H, ht, K, tl, tb, fa, r1, r2)))))) (rmA 9 4 24)) (SC g) n σ 0 0 0 [(0, yR g 0), (1, yI a), (2, yR g 171)] []
  refine y_aload_n (pc := 0) hF dL_flawBy_0 2 rfl ?_
  refine y_iconst (pc := 1) hF dL_flawBy_1 ?_
  refine y_aload_n (pc := 2) hF dL_flawBy_2 0 rfl ?_
  refine y_iload_n (pc := 3) hF dL_flawBy_3 1 rfl ?_
  refine y_contH (cells' := 4) (slots' := 24) hFH (y_rVH (pc := 4) hFH (tX10_flawBy hlt hn w h T S F P O nf df nl lg s re fo ra tu we sh H ht K tl tb fa r1 r2 N hV hW a ha) dL_flawBy_4 (by omega) rfl rfl rfl w_1155 qX10_flawBy rfl ⟨Nat.le_of_ble_eq_true rfl, Nat.le_of_ble_eq_true rfl⟩ ⟨Nat.le_of_ble_eq_true rfl, Nat.le_of_ble_eq_true rfl⟩ (Nat.le_of_ble_eq_true rfl) rfl (rest := [yI 0, yR g 171])) rfl rfl (fun E n' σ' zx => ?_) (fun r n' σ' zp => ?_)
  · obtain ⟨zE, h1, h2, h3, h4⟩ := zx
    subst zE
    refine ⟨[], (0, 9, 12, 13), [], rfl, (fun y hy => nomatch hy), (by decide), (by decide), w_606, w_617, fun q => ?_⟩
    refine y_astoreS_n (pc := 12) (lv' := [(0, yR g 0), (1, yI a), (2, yR g 171), (3, .ref q)]) hF dL_flawBy_12 (by decide) rfl rfl ?_
    refine y_iconst (pc := 13) hF dL_flawBy_13 ?_
    exact y_iret (pc := 14) hF dL_flawBy_14 (Nat.le_of_ble_eq_true rfl) (Nat.le_of_ble_eq_true rfl) ⟨_, rfl, h1, (fun c hc _ => h4 c hc), Or.inr ⟨h2, rfl, h3⟩⟩
  · obtain ⟨zv, rfl, h1, h2, h5, h3, h4⟩ := zp
    show yV X0 g 4 (yQ X0 g (SC g) (yPi (fun zk n' σ' => n ≤ n' ∧ cG σ σ' ∧ (((0 ≤ a ∧ a ≤ 2) ∧ zk = 0 ∧ σ' 171 0 = wr (fbV w h ht K T F (gR w h s re fo ra tu we sh a (400 : Int).toNat (x00 T S F P O)).2) ∧ cV σ' (w, h, (T, S, F, P, O, nf, df, nl, lg), (s, re, fo, ra, tu, we, sh), H, ht, K, tl, tb, fa, r1, r2)) ∨ (¬ (0 ≤ a ∧ a ≤ 2) ∧ zk = 1 ∧ cV σ' (bA (w, h, (T, S, F, P, O, nf, df, nl, lg), (s, re, fo, ra, tu, we, sh), H, ht, K, tl, tb, fa, r1, r2)))))) (rmA 9 4 24)) (SC g) n' σ' 4 24 7 [(0, yR g 0), (1, yI a), (2, yR g 171)] [yI zv, yI 0, yR g 171]
    refine y_i2lw (pc := 7) hF dL_flawBy_7 ?_
    refine y_lastore (pc := 8) (len := 1) hF dL_flawBy_8 (by omega) rfl (by decide) (by decide) ?_
    refine y_goto (pc := 9) hF dL_flawBy_9 15 rfl ?_
    refine y_iconst (pc := 15) hF dL_flawBy_15 ?_
    refine y_iret (pc := 16) hF dL_flawBy_16 (Nat.le_of_ble_eq_true rfl) (Nat.le_of_ble_eq_true rfl) ⟨_, rfl, h1, (fun c hc hc2 => ?_), Or.inl ⟨h2, rfl, ?_, ?_⟩⟩
    · rw [yset_n hc2]
      exact h4 c hc
    · rw [yset_e, h5]
    · exact cV_out h3

theorem wl_tune : Cond.codeWith yL_tune cL_tune 4 (some .int) [(0, 9, 12, 13)] ∈ y_tb := y_in (mt_5 _ (List.mem_of_getElem? (i := 117) rfl)) rfl
theorem dL_tune_0 : decode cL_tune 0 = .ok (.aload_n 2, 1) := by decide +kernel
theorem dL_tune_1 : decode cL_tune 1 = .ok (.iconst 0, 1) := by decide +kernel
theorem dL_tune_2 : decode cL_tune 2 = .ok (.aload_n 0, 1) := by decide +kernel
theorem dL_tune_3 : decode cL_tune 3 = .ok (.iload_n 1, 1) := by decide +kernel
theorem dL_tune_4 : decode cL_tune 4 = .ok (.invokevirtual 75, 3) := by decide +kernel
theorem dL_tune_7 : decode cL_tune 7 = .ok (.i2l, 1) := by decide +kernel
theorem dL_tune_8 : decode cL_tune 8 = .ok (.lastore, 1) := by decide +kernel
theorem dL_tune_9 : decode cL_tune 9 = .ok (.goto 6, 3) := by decide +kernel
theorem dL_tune_12 : decode cL_tune 12 = .ok (.astore_n 3, 1) := by decide +kernel
theorem dL_tune_13 : decode cL_tune 13 = .ok (.iconst 1, 1) := by decide +kernel
theorem dL_tune_14 : decode cL_tune 14 = .ok (.ireturn, 1) := by decide +kernel
theorem dL_tune_15 : decode cL_tune 15 = .ok (.iconst 0, 1) := by decide +kernel
theorem dL_tune_16 : decode cL_tune 16 = .ok (.ireturn, 1) := by decide +kernel
set_option maxHeartbeats 4000000 in
set_option maxRecDepth 100000 in
theorem tL_tune {l : Launch} {g : yG} {n : Nat} {σ : yM} (hlt : l.stackTraces = false) (hn : 172 ≤ n) (w h : Int) (T S F P O : Int → Int → Int) (nf df nl : Int) (lg : Int → Int → Int) (s re fo ra tu we sh : Int) (H : List aX) (ht : Bool) (K : Int → Int → Int) (tl : Int) (tb : Int → Int) (fa r1 r2 N : Int) (hV : cV σ (w, h, (T, S, F, P, O, nf, df, nl, lg), (s, re, fo, ra, tu, we, sh), H, ht, K, tl, tb, fa, r1, r2)) (hW : aW N (w, h, (T, S, F, P, O, nf, df, nl, lg), (s, re, fo, ra, tu, we, sh), H, ht, K, tl, tb, fa, r1, r2)) (a : Int) (ha : -2147483648 ≤ a ∧ a < 2147483648) : yMH l g yL_tune cL_tune 4 (some .int) [(0, 9, 12, 13)] (rmA 9 4 24) [yR g 0, yI a, yR g 171] (SC g) n σ (SC g) (yPi (fun zk n' σ' => n ≤ n' ∧ cG σ σ' ∧ (((0 ≤ a ∧ a ≤ 2) ∧ zk = 0 ∧ σ' 171 0 = wr (tnV (tnQ w h T S F P O re fo ra tu we sh ht K 3) a) ∧ cV σ' (w, h, (T, S, F, P, O, nf, df, nl, lg), (s, re, fo, ra, tu, we, sh), H, ht, K, tl, tb, fa, r1, r2)) ∨ (¬ (0 ≤ a ∧ a ≤ 2) ∧ zk = 1 ∧ cV σ' (bA (w, h, (T, S, F, P, O, nf, df, nl, lg), (s, re, fo, ra, tu, we, sh), H, ht, K, tl, tb, fa, r1, r2)))))) := by
  refine y_startH (by decide) (Nat.le_of_ble_eq_true rfl) (fun X0 hFH => ?_)
  have hF := hFH.1
  show yV X0 g 4 (yQ X0 g (SC g) (yPi (fun zk n' σ' => n ≤ n' ∧ cG σ σ' ∧ (((0 ≤ a ∧ a ≤ 2) ∧ zk = 0 ∧ σ' 171 0 = wr (tnV (tnQ w h T S F P O re fo ra tu we sh ht K 3) a) ∧ cV σ' (w, h, (T, S, F, P, O, nf, df, nl, lg), (s, re, fo, ra, tu, we, sh), H, ht, K, tl, tb, fa, r1, r2)) ∨ (¬ (0 ≤ a ∧ a ≤ 2) ∧ zk = 1 ∧ cV σ' (bA (w, h, (T, S, F, P, O, nf, df, nl, lg), (s, re, fo, ra, tu, we, sh), H, ht, K, tl, tb, fa, r1, r2)))))) (rmA 9 4 24)) (SC g) n σ 0 0 0 [(0, yR g 0), (1, yI a), (2, yR g 171)] []
  refine y_aload_n (pc := 0) hF dL_tune_0 2 rfl ?_
  refine y_iconst (pc := 1) hF dL_tune_1 ?_
  refine y_aload_n (pc := 2) hF dL_tune_2 0 rfl ?_
  refine y_iload_n (pc := 3) hF dL_tune_3 1 rfl ?_
  refine y_contH (cells' := 4) (slots' := 24) hFH (y_rVH (pc := 4) hFH (tX10_tune hlt hn w h T S F P O nf df nl lg s re fo ra tu we sh H ht K tl tb fa r1 r2 N hV hW a ha) dL_tune_4 (by omega) rfl rfl rfl w_1163 qX10_tune rfl ⟨Nat.le_of_ble_eq_true rfl, Nat.le_of_ble_eq_true rfl⟩ ⟨Nat.le_of_ble_eq_true rfl, Nat.le_of_ble_eq_true rfl⟩ (Nat.le_of_ble_eq_true rfl) rfl (rest := [yI 0, yR g 171])) rfl rfl (fun E n' σ' zx => ?_) (fun r n' σ' zp => ?_)
  · obtain ⟨zE, h1, h2, h3, h4⟩ := zx
    subst zE
    refine ⟨[], (0, 9, 12, 13), [], rfl, (fun y hy => nomatch hy), (by decide), (by decide), w_606, w_617, fun q => ?_⟩
    refine y_astoreS_n (pc := 12) (lv' := [(0, yR g 0), (1, yI a), (2, yR g 171), (3, .ref q)]) hF dL_tune_12 (by decide) rfl rfl ?_
    refine y_iconst (pc := 13) hF dL_tune_13 ?_
    exact y_iret (pc := 14) hF dL_tune_14 (Nat.le_of_ble_eq_true rfl) (Nat.le_of_ble_eq_true rfl) ⟨_, rfl, h1, (fun c hc _ => h4 c hc), Or.inr ⟨h2, rfl, h3⟩⟩
  · obtain ⟨zv, rfl, h1, h2, h5, h3, h4⟩ := zp
    show yV X0 g 4 (yQ X0 g (SC g) (yPi (fun zk n' σ' => n ≤ n' ∧ cG σ σ' ∧ (((0 ≤ a ∧ a ≤ 2) ∧ zk = 0 ∧ σ' 171 0 = wr (tnV (tnQ w h T S F P O re fo ra tu we sh ht K 3) a) ∧ cV σ' (w, h, (T, S, F, P, O, nf, df, nl, lg), (s, re, fo, ra, tu, we, sh), H, ht, K, tl, tb, fa, r1, r2)) ∨ (¬ (0 ≤ a ∧ a ≤ 2) ∧ zk = 1 ∧ cV σ' (bA (w, h, (T, S, F, P, O, nf, df, nl, lg), (s, re, fo, ra, tu, we, sh), H, ht, K, tl, tb, fa, r1, r2)))))) (rmA 9 4 24)) (SC g) n' σ' 4 24 7 [(0, yR g 0), (1, yI a), (2, yR g 171)] [yI zv, yI 0, yR g 171]
    refine y_i2lw (pc := 7) hF dL_tune_7 ?_
    refine y_lastore (pc := 8) (len := 1) hF dL_tune_8 (by omega) rfl (by decide) (by decide) ?_
    refine y_goto (pc := 9) hF dL_tune_9 15 rfl ?_
    refine y_iconst (pc := 15) hF dL_tune_15 ?_
    refine y_iret (pc := 16) hF dL_tune_16 (Nat.le_of_ble_eq_true rfl) (Nat.le_of_ble_eq_true rfl) ⟨_, rfl, h1, (fun c hc hc2 => ?_), Or.inl ⟨h2, rfl, ?_, ?_⟩⟩
    · rw [yset_n hc2]
      exact h4 c hc
    · rw [yset_e, h5]
    · exact cV_out h3

theorem wl_reach : Cond.codeWith yL_reach cL_reach 6 (some .int) [(0, 12, 15, 23), (0, 12, 19, 13)] ∈ y_tb := y_in (mt_5 _ (List.mem_of_getElem? (i := 124) rfl)) rfl
theorem dL_reach_0 : decode cL_reach 0 = .ok (.aload 4, 2) := by decide +kernel
theorem dL_reach_2 : decode cL_reach 2 = .ok (.iconst 0, 1) := by decide +kernel
theorem dL_reach_3 : decode cL_reach 3 = .ok (.aload_n 0, 1) := by decide +kernel
theorem dL_reach_4 : decode cL_reach 4 = .ok (.iload_n 1, 1) := by decide +kernel
theorem dL_reach_5 : decode cL_reach 5 = .ok (.iload_n 2, 1) := by decide +kernel
theorem dL_reach_6 : decode cL_reach 6 = .ok (.iload_n 3, 1) := by decide +kernel
theorem dL_reach_7 : decode cL_reach 7 = .ok (.invokevirtual 78, 3) := by decide +kernel
theorem dL_reach_10 : decode cL_reach 10 = .ok (.i2l, 1) := by decide +kernel
theorem dL_reach_11 : decode cL_reach 11 = .ok (.lastore, 1) := by decide +kernel
theorem dL_reach_12 : decode cL_reach 12 = .ok (.goto 11, 3) := by decide +kernel
theorem dL_reach_15 : decode cL_reach 15 = .ok (.astore 5, 2) := by decide +kernel
theorem dL_reach_17 : decode cL_reach 17 = .ok (.iconst 1, 1) := by decide +kernel
theorem dL_reach_18 : decode cL_reach 18 = .ok (.ireturn, 1) := by decide +kernel
theorem dL_reach_19 : decode cL_reach 19 = .ok (.astore 5, 2) := by decide +kernel
theorem dL_reach_21 : decode cL_reach 21 = .ok (.iconst 2, 1) := by decide +kernel
theorem dL_reach_22 : decode cL_reach 22 = .ok (.ireturn, 1) := by decide +kernel
theorem dL_reach_23 : decode cL_reach 23 = .ok (.iconst 0, 1) := by decide +kernel
theorem dL_reach_24 : decode cL_reach 24 = .ok (.ireturn, 1) := by decide +kernel
set_option maxHeartbeats 4000000 in
set_option maxRecDepth 100000 in
theorem tL_reach {l : Launch} {g : yG} {n : Nat} {σ : yM} (hlt : l.stackTraces = false) (hn : 172 ≤ n) (w h : Int) (T S F P O : Int → Int → Int) (nf df nl : Int) (lg : Int → Int → Int) (s re fo ra tu we sh : Int) (H : List aX) (ht : Bool) (K : Int → Int → Int) (tl : Int) (tb : Int → Int) (fa r1 r2 N : Int) (hV : cV σ (w, h, (T, S, F, P, O, nf, df, nl, lg), (s, re, fo, ra, tu, we, sh), H, ht, K, tl, tb, fa, r1, r2)) (hW : aW N (w, h, (T, S, F, P, O, nf, df, nl, lg), (s, re, fo, ra, tu, we, sh), H, ht, K, tl, tb, fa, r1, r2)) (x y a : Int) (hx : -2147483648 ≤ x ∧ x < 2147483648) (hy : -2147483648 ≤ y ∧ y < 2147483648) (ha : -2147483648 ≤ a ∧ a < 2147483648) : yMH l g yL_reach cL_reach 6 (some .int) [(0, 12, 15, 23), (0, 12, 19, 13)] (rmA 9 4 24) [yR g 0, yI x, yI y, yI a, yR g 171] (SC g) n σ (SC g) (yPi (fun zk n' σ' => n ≤ n' ∧ cG σ σ' ∧ ((((sIn w h x y = true) ∧ (a = 0 ∨ a = 1)) ∧ zk = 0 ∧ σ' 171 0 = wr (reV w h T S F s fo tu we sh x y a) ∧ cV σ' (w, h, (T, S, F, P, O, nf, df, nl, lg), (s, re, fo, ra, tu, we, sh), H, ht, K, tl, tb, fa, r1, r2)) ∨ (¬ (sIn w h x y = true) ∧ zk = 1 ∧ cV σ' (bN (w, h, (T, S, F, P, O, nf, df, nl, lg), (s, re, fo, ra, tu, we, sh), H, ht, K, tl, tb, fa, r1, r2))) ∨ ((sIn w h x y = true) ∧ ¬ (a = 0 ∨ a = 1) ∧ zk = 2 ∧ cV σ' (bA (w, h, (T, S, F, P, O, nf, df, nl, lg), (s, re, fo, ra, tu, we, sh), H, ht, K, tl, tb, fa, r1, r2)))))) := by
  refine y_startH (by decide) (Nat.le_of_ble_eq_true rfl) (fun X0 hFH => ?_)
  have hF := hFH.1
  show yV X0 g 6 (yQ X0 g (SC g) (yPi (fun zk n' σ' => n ≤ n' ∧ cG σ σ' ∧ ((((sIn w h x y = true) ∧ (a = 0 ∨ a = 1)) ∧ zk = 0 ∧ σ' 171 0 = wr (reV w h T S F s fo tu we sh x y a) ∧ cV σ' (w, h, (T, S, F, P, O, nf, df, nl, lg), (s, re, fo, ra, tu, we, sh), H, ht, K, tl, tb, fa, r1, r2)) ∨ (¬ (sIn w h x y = true) ∧ zk = 1 ∧ cV σ' (bN (w, h, (T, S, F, P, O, nf, df, nl, lg), (s, re, fo, ra, tu, we, sh), H, ht, K, tl, tb, fa, r1, r2))) ∨ ((sIn w h x y = true) ∧ ¬ (a = 0 ∨ a = 1) ∧ zk = 2 ∧ cV σ' (bA (w, h, (T, S, F, P, O, nf, df, nl, lg), (s, re, fo, ra, tu, we, sh), H, ht, K, tl, tb, fa, r1, r2)))))) (rmA 9 4 24)) (SC g) n σ 0 0 0 [(0, yR g 0), (1, yI x), (2, yI y), (3, yI a), (4, yR g 171)] []
  refine y_aload (pc := 0) hF dL_reach_0 4 rfl ?_
  refine y_iconst (pc := 2) hF dL_reach_2 ?_
  refine y_aload_n (pc := 3) hF dL_reach_3 0 rfl ?_
  refine y_iload_n (pc := 4) hF dL_reach_4 1 rfl ?_
  refine y_iload_n (pc := 5) hF dL_reach_5 2 rfl ?_
  refine y_iload_n (pc := 6) hF dL_reach_6 3 rfl ?_
  refine y_contH (cells' := 4) (slots' := 24) hFH (y_rVH (pc := 7) hFH (tX10_reach hlt hn w h T S F P O nf df nl lg s re fo ra tu we sh H ht K tl tb fa r1 r2 N hV hW x y a hx hy ha) dL_reach_7 (by omega) rfl rfl rfl w_1170 qX10_reach rfl ⟨Nat.le_of_ble_eq_true rfl, Nat.le_of_ble_eq_true rfl⟩ ⟨Nat.le_of_ble_eq_true rfl, Nat.le_of_ble_eq_true rfl⟩ (Nat.le_of_ble_eq_true rfl) rfl (rest := [yI 0, yR g 171])) rfl rfl (fun E n' σ' zx => ?_) (fun r n' σ' zp => ?_)
  · obtain ⟨h1, h2, h4⟩ := zx
    rcases h2 with ⟨zE, h2, h3⟩ | ⟨zE, h2, h5, h3⟩
    · subst zE
      refine ⟨[], (0, 12, 15, 23), [(0, 12, 19, 13)], rfl, (fun y hy => nomatch hy), (by decide), (by decide), w_747, w_766, fun q => ?_⟩
      refine y_astoreS (pc := 15) (lv' := [(0, yR g 0), (1, yI x), (2, yI y), (3, yI a), (4, yR g 171), (5, .ref q)]) hF dL_reach_15 (by decide) rfl rfl ?_
      refine y_iconst (pc := 17) hF dL_reach_17 ?_
      exact y_iret (pc := 18) hF dL_reach_18 (Nat.le_of_ble_eq_true rfl) (Nat.le_of_ble_eq_true rfl) ⟨_, rfl, h1, (fun c hc _ => h4 c hc), Or.inr (Or.inl ⟨h2, rfl, h3⟩)⟩
    · subst zE
      refine ⟨[(0, 12, 15, 23)], (0, 12, 19, 13), [], rfl, (fun y hy => by rw [List.mem_singleton.mp hy]; exact ⟨by decide, rfl, w_747⟩), (by decide), (by decide), w_606, w_617, fun q => ?_⟩
      refine y_astoreS (pc := 19) (lv' := [(0, yR g 0), (1, yI x), (2, yI y), (3, yI a), (4, yR g 171), (5, .ref q)]) hF dL_reach_19 (by decide) rfl rfl ?_
      refine y_iconst (pc := 21) hF dL_reach_21 ?_
      exact y_iret (pc := 22) hF dL_reach_22 (Nat.le_of_ble_eq_true rfl) (Nat.le_of_ble_eq_true rfl) ⟨_, rfl, h1, (fun c hc _ => h4 c hc), Or.inr (Or.inr ⟨h2, h5, rfl, h3⟩)⟩
  · obtain ⟨zv, rfl, h1, h2, h5, h3, h4⟩ := zp
    show yV X0 g 6 (yQ X0 g (SC g) (yPi (fun zk n' σ' => n ≤ n' ∧ cG σ σ' ∧ ((((sIn w h x y = true) ∧ (a = 0 ∨ a = 1)) ∧ zk = 0 ∧ σ' 171 0 = wr (reV w h T S F s fo tu we sh x y a) ∧ cV σ' (w, h, (T, S, F, P, O, nf, df, nl, lg), (s, re, fo, ra, tu, we, sh), H, ht, K, tl, tb, fa, r1, r2)) ∨ (¬ (sIn w h x y = true) ∧ zk = 1 ∧ cV σ' (bN (w, h, (T, S, F, P, O, nf, df, nl, lg), (s, re, fo, ra, tu, we, sh), H, ht, K, tl, tb, fa, r1, r2))) ∨ ((sIn w h x y = true) ∧ ¬ (a = 0 ∨ a = 1) ∧ zk = 2 ∧ cV σ' (bA (w, h, (T, S, F, P, O, nf, df, nl, lg), (s, re, fo, ra, tu, we, sh), H, ht, K, tl, tb, fa, r1, r2)))))) (rmA 9 4 24)) (SC g) n' σ' 4 24 10 [(0, yR g 0), (1, yI x), (2, yI y), (3, yI a), (4, yR g 171)] [yI zv, yI 0, yR g 171]
    refine y_i2lw (pc := 10) hF dL_reach_10 ?_
    refine y_lastore (pc := 11) (len := 1) hF dL_reach_11 (by omega) rfl (by decide) (by decide) ?_
    refine y_goto (pc := 12) hF dL_reach_12 23 rfl ?_
    refine y_iconst (pc := 23) hF dL_reach_23 ?_
    refine y_iret (pc := 24) hF dL_reach_24 (Nat.le_of_ble_eq_true rfl) (Nat.le_of_ble_eq_true rfl) ⟨_, rfl, h1, (fun c hc hc2 => ?_), Or.inl ⟨h2, rfl, ?_, ?_⟩⟩
    · rw [yset_n hc2]
      exact h4 c hc
    · rw [yset_e, h5]
    · exact cV_out h3

theorem wl_seams : Cond.codeWith yL_seams cL_seams 4 (some .int) [(0, 9, 12, 13)] ∈ y_tb := y_in (mt_5 _ (List.mem_of_getElem? (i := 141) rfl)) rfl
theorem dL_seams_0 : decode cL_seams 0 = .ok (.aload_n 2, 1) := by decide +kernel
theorem dL_seams_1 : decode cL_seams 1 = .ok (.iconst 0, 1) := by decide +kernel
theorem dL_seams_2 : decode cL_seams 2 = .ok (.aload_n 0, 1) := by decide +kernel
theorem dL_seams_3 : decode cL_seams 3 = .ok (.iload_n 1, 1) := by decide +kernel
theorem dL_seams_4 : decode cL_seams 4 = .ok (.invokevirtual 81, 3) := by decide +kernel
theorem dL_seams_7 : decode cL_seams 7 = .ok (.i2l, 1) := by decide +kernel
theorem dL_seams_8 : decode cL_seams 8 = .ok (.lastore, 1) := by decide +kernel
theorem dL_seams_9 : decode cL_seams 9 = .ok (.goto 6, 3) := by decide +kernel
theorem dL_seams_12 : decode cL_seams 12 = .ok (.astore_n 3, 1) := by decide +kernel
theorem dL_seams_13 : decode cL_seams 13 = .ok (.iconst 1, 1) := by decide +kernel
theorem dL_seams_14 : decode cL_seams 14 = .ok (.ireturn, 1) := by decide +kernel
theorem dL_seams_15 : decode cL_seams 15 = .ok (.iconst 0, 1) := by decide +kernel
theorem dL_seams_16 : decode cL_seams 16 = .ok (.ireturn, 1) := by decide +kernel
set_option maxHeartbeats 4000000 in
set_option maxRecDepth 100000 in
theorem tL_seams {l : Launch} {g : yG} {n : Nat} {σ : yM} (hlt : l.stackTraces = false) (hn : 172 ≤ n) (w h : Int) (T S F P O : Int → Int → Int) (nf df nl : Int) (lg : Int → Int → Int) (s re fo ra tu we sh : Int) (H : List aX) (ht : Bool) (K : Int → Int → Int) (tl : Int) (tb : Int → Int) (fa r1 r2 N : Int) (hV : cV σ (w, h, (T, S, F, P, O, nf, df, nl, lg), (s, re, fo, ra, tu, we, sh), H, ht, K, tl, tb, fa, r1, r2)) (hW : aW N (w, h, (T, S, F, P, O, nf, df, nl, lg), (s, re, fo, ra, tu, we, sh), H, ht, K, tl, tb, fa, r1, r2)) (a : Int) (ha : -2147483648 ≤ a ∧ a < 2147483648) : yMH l g yL_seams cL_seams 4 (some .int) [(0, 9, 12, 13)] (rmA 9 4 24) [yR g 0, yI a, yR g 171] (SC g) n σ (SC g) (yPi (fun zk n' σ' => n ≤ n' ∧ cG σ σ' ∧ (((0 ≤ a ∧ a ≤ 2) ∧ zk = 0 ∧ σ' 171 0 = wr (smV w h T F a) ∧ cV σ' (w, h, (T, S, F, P, O, nf, df, nl, lg), (s, re, fo, ra, tu, we, sh), H, ht, K, tl, tb, fa, r1, r2)) ∨ (¬ (0 ≤ a ∧ a ≤ 2) ∧ zk = 1 ∧ cV σ' (bA (w, h, (T, S, F, P, O, nf, df, nl, lg), (s, re, fo, ra, tu, we, sh), H, ht, K, tl, tb, fa, r1, r2)))))) := by
  refine y_startH (by decide) (Nat.le_of_ble_eq_true rfl) (fun X0 hFH => ?_)
  have hF := hFH.1
  show yV X0 g 4 (yQ X0 g (SC g) (yPi (fun zk n' σ' => n ≤ n' ∧ cG σ σ' ∧ (((0 ≤ a ∧ a ≤ 2) ∧ zk = 0 ∧ σ' 171 0 = wr (smV w h T F a) ∧ cV σ' (w, h, (T, S, F, P, O, nf, df, nl, lg), (s, re, fo, ra, tu, we, sh), H, ht, K, tl, tb, fa, r1, r2)) ∨ (¬ (0 ≤ a ∧ a ≤ 2) ∧ zk = 1 ∧ cV σ' (bA (w, h, (T, S, F, P, O, nf, df, nl, lg), (s, re, fo, ra, tu, we, sh), H, ht, K, tl, tb, fa, r1, r2)))))) (rmA 9 4 24)) (SC g) n σ 0 0 0 [(0, yR g 0), (1, yI a), (2, yR g 171)] []
  refine y_aload_n (pc := 0) hF dL_seams_0 2 rfl ?_
  refine y_iconst (pc := 1) hF dL_seams_1 ?_
  refine y_aload_n (pc := 2) hF dL_seams_2 0 rfl ?_
  refine y_iload_n (pc := 3) hF dL_seams_3 1 rfl ?_
  refine y_contH (cells' := 4) (slots' := 24) hFH (y_rVH (pc := 4) hFH (tX10_seams hlt hn w h T S F P O nf df nl lg s re fo ra tu we sh H ht K tl tb fa r1 r2 N hV hW a ha) dL_seams_4 (by omega) rfl rfl rfl w_1187 qX10_seams rfl ⟨Nat.le_of_ble_eq_true rfl, Nat.le_of_ble_eq_true rfl⟩ ⟨Nat.le_of_ble_eq_true rfl, Nat.le_of_ble_eq_true rfl⟩ (Nat.le_of_ble_eq_true rfl) rfl (rest := [yI 0, yR g 171])) rfl rfl (fun E n' σ' zx => ?_) (fun r n' σ' zp => ?_)
  · obtain ⟨zE, h1, h2, h3, h4⟩ := zx
    subst zE
    refine ⟨[], (0, 9, 12, 13), [], rfl, (fun y hy => nomatch hy), (by decide), (by decide), w_606, w_617, fun q => ?_⟩
    refine y_astoreS_n (pc := 12) (lv' := [(0, yR g 0), (1, yI a), (2, yR g 171), (3, .ref q)]) hF dL_seams_12 (by decide) rfl rfl ?_
    refine y_iconst (pc := 13) hF dL_seams_13 ?_
    exact y_iret (pc := 14) hF dL_seams_14 (Nat.le_of_ble_eq_true rfl) (Nat.le_of_ble_eq_true rfl) ⟨_, rfl, h1, (fun c hc _ => h4 c hc), Or.inr ⟨h2, rfl, h3⟩⟩
  · obtain ⟨zv, rfl, h1, h2, h5, h3, h4⟩ := zp
    show yV X0 g 4 (yQ X0 g (SC g) (yPi (fun zk n' σ' => n ≤ n' ∧ cG σ σ' ∧ (((0 ≤ a ∧ a ≤ 2) ∧ zk = 0 ∧ σ' 171 0 = wr (smV w h T F a) ∧ cV σ' (w, h, (T, S, F, P, O, nf, df, nl, lg), (s, re, fo, ra, tu, we, sh), H, ht, K, tl, tb, fa, r1, r2)) ∨ (¬ (0 ≤ a ∧ a ≤ 2) ∧ zk = 1 ∧ cV σ' (bA (w, h, (T, S, F, P, O, nf, df, nl, lg), (s, re, fo, ra, tu, we, sh), H, ht, K, tl, tb, fa, r1, r2)))))) (rmA 9 4 24)) (SC g) n' σ' 4 24 7 [(0, yR g 0), (1, yI a), (2, yR g 171)] [yI zv, yI 0, yR g 171]
    refine y_i2lw (pc := 7) hF dL_seams_7 ?_
    refine y_lastore (pc := 8) (len := 1) hF dL_seams_8 (by omega) rfl (by decide) (by decide) ?_
    refine y_goto (pc := 9) hF dL_seams_9 15 rfl ?_
    refine y_iconst (pc := 15) hF dL_seams_15 ?_
    refine y_iret (pc := 16) hF dL_seams_16 (Nat.le_of_ble_eq_true rfl) (Nat.le_of_ble_eq_true rfl) ⟨_, rfl, h1, (fun c hc hc2 => ?_), Or.inl ⟨h2, rfl, ?_, ?_⟩⟩
    · rw [yset_n hc2]
      exact h4 c hc
    · rw [yset_e, h5]
    · exact cV_out h3

theorem wl_favourite : Cond.codeWith yL_favourite cL_favourite 4 (some .int) [(0, 9, 12, 13)] ∈ y_tb := y_in (mt_5 _ (List.mem_of_getElem? (i := 155) rfl)) rfl
theorem dL_favourite_0 : decode cL_favourite 0 = .ok (.aload_n 2, 1) := by decide +kernel
theorem dL_favourite_1 : decode cL_favourite 1 = .ok (.iconst 0, 1) := by decide +kernel
theorem dL_favourite_2 : decode cL_favourite 2 = .ok (.aload_n 0, 1) := by decide +kernel
theorem dL_favourite_3 : decode cL_favourite 3 = .ok (.iload_n 1, 1) := by decide +kernel
theorem dL_favourite_4 : decode cL_favourite 4 = .ok (.invokevirtual 84, 3) := by decide +kernel
theorem dL_favourite_7 : decode cL_favourite 7 = .ok (.i2l, 1) := by decide +kernel
theorem dL_favourite_8 : decode cL_favourite 8 = .ok (.lastore, 1) := by decide +kernel
theorem dL_favourite_9 : decode cL_favourite 9 = .ok (.goto 6, 3) := by decide +kernel
theorem dL_favourite_12 : decode cL_favourite 12 = .ok (.astore_n 3, 1) := by decide +kernel
theorem dL_favourite_13 : decode cL_favourite 13 = .ok (.iconst 1, 1) := by decide +kernel
theorem dL_favourite_14 : decode cL_favourite 14 = .ok (.ireturn, 1) := by decide +kernel
theorem dL_favourite_15 : decode cL_favourite 15 = .ok (.iconst 0, 1) := by decide +kernel
theorem dL_favourite_16 : decode cL_favourite 16 = .ok (.ireturn, 1) := by decide +kernel
set_option maxHeartbeats 4000000 in
set_option maxRecDepth 100000 in
theorem tL_favourite {l : Launch} {g : yG} {n : Nat} {σ : yM} (hlt : l.stackTraces = false) (hn : 172 ≤ n) (w h : Int) (T S F P O : Int → Int → Int) (nf df nl : Int) (lg : Int → Int → Int) (s re fo ra tu we sh : Int) (H : List aX) (ht : Bool) (K : Int → Int → Int) (tl : Int) (tb : Int → Int) (fa r1 r2 N : Int) (hV : cV σ (w, h, (T, S, F, P, O, nf, df, nl, lg), (s, re, fo, ra, tu, we, sh), H, ht, K, tl, tb, fa, r1, r2)) (hW : aW N (w, h, (T, S, F, P, O, nf, df, nl, lg), (s, re, fo, ra, tu, we, sh), H, ht, K, tl, tb, fa, r1, r2)) (a : Int) (ha : -2147483648 ≤ a ∧ a < 2147483648) : yMH l g yL_favourite cL_favourite 4 (some .int) [(0, 9, 12, 13)] (rmA 9 4 24) [yR g 0, yI a, yR g 171] (SC g) n σ (SC g) (yPi (fun zk n' σ' => n ≤ n' ∧ cG σ σ' ∧ (((a = 0 ∨ a = 1) ∧ zk = 0 ∧ σ' 171 0 = wr (if a = 0 then (fvQ nl lg).1 else (fvQ nl lg).2) ∧ cV σ' (w, h, (T, S, F, P, O, nf, df, nl, lg), (s, re, fo, ra, tu, we, sh), H, ht, K, tl, tb, fa, r1, r2)) ∨ (¬ (a = 0 ∨ a = 1) ∧ zk = 1 ∧ cV σ' (bA (w, h, (T, S, F, P, O, nf, df, nl, lg), (s, re, fo, ra, tu, we, sh), H, ht, K, tl, tb, fa, r1, r2)))))) := by
  refine y_startH (by decide) (Nat.le_of_ble_eq_true rfl) (fun X0 hFH => ?_)
  have hF := hFH.1
  show yV X0 g 4 (yQ X0 g (SC g) (yPi (fun zk n' σ' => n ≤ n' ∧ cG σ σ' ∧ (((a = 0 ∨ a = 1) ∧ zk = 0 ∧ σ' 171 0 = wr (if a = 0 then (fvQ nl lg).1 else (fvQ nl lg).2) ∧ cV σ' (w, h, (T, S, F, P, O, nf, df, nl, lg), (s, re, fo, ra, tu, we, sh), H, ht, K, tl, tb, fa, r1, r2)) ∨ (¬ (a = 0 ∨ a = 1) ∧ zk = 1 ∧ cV σ' (bA (w, h, (T, S, F, P, O, nf, df, nl, lg), (s, re, fo, ra, tu, we, sh), H, ht, K, tl, tb, fa, r1, r2)))))) (rmA 9 4 24)) (SC g) n σ 0 0 0 [(0, yR g 0), (1, yI a), (2, yR g 171)] []
  refine y_aload_n (pc := 0) hF dL_favourite_0 2 rfl ?_
  refine y_iconst (pc := 1) hF dL_favourite_1 ?_
  refine y_aload_n (pc := 2) hF dL_favourite_2 0 rfl ?_
  refine y_iload_n (pc := 3) hF dL_favourite_3 1 rfl ?_
  refine y_contH (cells' := 4) (slots' := 24) hFH (y_rVH (pc := 4) hFH (tX10_favourite hlt hn w h T S F P O nf df nl lg s re fo ra tu we sh H ht K tl tb fa r1 r2 N hV hW a ha) dL_favourite_4 (by omega) rfl rfl rfl w_1201 qX10_favourite rfl ⟨Nat.le_of_ble_eq_true rfl, Nat.le_of_ble_eq_true rfl⟩ ⟨Nat.le_of_ble_eq_true rfl, Nat.le_of_ble_eq_true rfl⟩ (Nat.le_of_ble_eq_true rfl) rfl (rest := [yI 0, yR g 171])) rfl rfl (fun E n' σ' zx => ?_) (fun r n' σ' zp => ?_)
  · obtain ⟨zE, h1, h2, h3, h4⟩ := zx
    subst zE
    refine ⟨[], (0, 9, 12, 13), [], rfl, (fun y hy => nomatch hy), (by decide), (by decide), w_606, w_617, fun q => ?_⟩
    refine y_astoreS_n (pc := 12) (lv' := [(0, yR g 0), (1, yI a), (2, yR g 171), (3, .ref q)]) hF dL_favourite_12 (by decide) rfl rfl ?_
    refine y_iconst (pc := 13) hF dL_favourite_13 ?_
    exact y_iret (pc := 14) hF dL_favourite_14 (Nat.le_of_ble_eq_true rfl) (Nat.le_of_ble_eq_true rfl) ⟨_, rfl, h1, (fun c hc _ => h4 c hc), Or.inr ⟨h2, rfl, h3⟩⟩
  · obtain ⟨zv, rfl, h1, h2, h5, h3, h4⟩ := zp
    show yV X0 g 4 (yQ X0 g (SC g) (yPi (fun zk n' σ' => n ≤ n' ∧ cG σ σ' ∧ (((a = 0 ∨ a = 1) ∧ zk = 0 ∧ σ' 171 0 = wr (if a = 0 then (fvQ nl lg).1 else (fvQ nl lg).2) ∧ cV σ' (w, h, (T, S, F, P, O, nf, df, nl, lg), (s, re, fo, ra, tu, we, sh), H, ht, K, tl, tb, fa, r1, r2)) ∨ (¬ (a = 0 ∨ a = 1) ∧ zk = 1 ∧ cV σ' (bA (w, h, (T, S, F, P, O, nf, df, nl, lg), (s, re, fo, ra, tu, we, sh), H, ht, K, tl, tb, fa, r1, r2)))))) (rmA 9 4 24)) (SC g) n' σ' 4 24 7 [(0, yR g 0), (1, yI a), (2, yR g 171)] [yI zv, yI 0, yR g 171]
    refine y_i2lw (pc := 7) hF dL_favourite_7 ?_
    refine y_lastore (pc := 8) (len := 1) hF dL_favourite_8 (by omega) rfl (by decide) (by decide) ?_
    refine y_goto (pc := 9) hF dL_favourite_9 15 rfl ?_
    refine y_iconst (pc := 15) hF dL_favourite_15 ?_
    refine y_iret (pc := 16) hF dL_favourite_16 (Nat.le_of_ble_eq_true rfl) (Nat.le_of_ble_eq_true rfl) ⟨_, rfl, h1, (fun c hc hc2 => ?_), Or.inl ⟨h2, rfl, ?_, ?_⟩⟩
    · rw [yset_n hc2]
      exact h4 c hc
    · rw [yset_e, h5]
    · exact cV_out h3

theorem wl_turning : Cond.codeWith yL_turning cL_turning 4 (some .int) [(0, 9, 12, 13)] ∈ y_tb := y_in (mt_5 _ (List.mem_of_getElem? (i := 167) rfl)) rfl
theorem dL_turning_0 : decode cL_turning 0 = .ok (.aload_n 2, 1) := by decide +kernel
theorem dL_turning_1 : decode cL_turning 1 = .ok (.iconst 0, 1) := by decide +kernel
theorem dL_turning_2 : decode cL_turning 2 = .ok (.aload_n 0, 1) := by decide +kernel
theorem dL_turning_3 : decode cL_turning 3 = .ok (.iload_n 1, 1) := by decide +kernel
theorem dL_turning_4 : decode cL_turning 4 = .ok (.invokevirtual 87, 3) := by decide +kernel
theorem dL_turning_7 : decode cL_turning 7 = .ok (.i2l, 1) := by decide +kernel
theorem dL_turning_8 : decode cL_turning 8 = .ok (.lastore, 1) := by decide +kernel
theorem dL_turning_9 : decode cL_turning 9 = .ok (.goto 6, 3) := by decide +kernel
theorem dL_turning_12 : decode cL_turning 12 = .ok (.astore_n 3, 1) := by decide +kernel
theorem dL_turning_13 : decode cL_turning 13 = .ok (.iconst 1, 1) := by decide +kernel
theorem dL_turning_14 : decode cL_turning 14 = .ok (.ireturn, 1) := by decide +kernel
theorem dL_turning_15 : decode cL_turning 15 = .ok (.iconst 0, 1) := by decide +kernel
theorem dL_turning_16 : decode cL_turning 16 = .ok (.ireturn, 1) := by decide +kernel
set_option maxHeartbeats 4000000 in
set_option maxRecDepth 100000 in
theorem tL_turning {l : Launch} {g : yG} {n : Nat} {σ : yM} (hlt : l.stackTraces = false) (hn : 172 ≤ n) (w h : Int) (T S F P O : Int → Int → Int) (nf df nl : Int) (lg : Int → Int → Int) (s re fo ra tu we sh : Int) (H : List aX) (ht : Bool) (K : Int → Int → Int) (tl : Int) (tb : Int → Int) (fa r1 r2 N : Int) (hV : cV σ (w, h, (T, S, F, P, O, nf, df, nl, lg), (s, re, fo, ra, tu, we, sh), H, ht, K, tl, tb, fa, r1, r2)) (hW : aW N (w, h, (T, S, F, P, O, nf, df, nl, lg), (s, re, fo, ra, tu, we, sh), H, ht, K, tl, tb, fa, r1, r2)) (a : Int) (ha : -2147483648 ≤ a ∧ a < 2147483648) : yMH l g yL_turning cL_turning 4 (some .int) [(0, 9, 12, 13)] (rmA 9 4 24) [yR g 0, yI a, yR g 171] (SC g) n σ (SC g) (yPi (fun zk n' σ' => n ≤ n' ∧ cG σ σ' ∧ (((a = 0 ∨ a = 1) ∧ zk = 0 ∧ σ' 171 0 = wr (trV (trQ w h T S F P O s re fo ra we sh 4) a) ∧ cV σ' (w, h, (T, S, F, P, O, nf, df, nl, lg), (s, re, fo, ra, tu, we, sh), H, ht, K, tl, tb, fa, r1, r2)) ∨ (¬ (a = 0 ∨ a = 1) ∧ zk = 1 ∧ cV σ' (bA (w, h, (T, S, F, P, O, nf, df, nl, lg), (s, re, fo, ra, tu, we, sh), H, ht, K, tl, tb, fa, r1, r2)))))) := by
  refine y_startH (by decide) (Nat.le_of_ble_eq_true rfl) (fun X0 hFH => ?_)
  have hF := hFH.1
  show yV X0 g 4 (yQ X0 g (SC g) (yPi (fun zk n' σ' => n ≤ n' ∧ cG σ σ' ∧ (((a = 0 ∨ a = 1) ∧ zk = 0 ∧ σ' 171 0 = wr (trV (trQ w h T S F P O s re fo ra we sh 4) a) ∧ cV σ' (w, h, (T, S, F, P, O, nf, df, nl, lg), (s, re, fo, ra, tu, we, sh), H, ht, K, tl, tb, fa, r1, r2)) ∨ (¬ (a = 0 ∨ a = 1) ∧ zk = 1 ∧ cV σ' (bA (w, h, (T, S, F, P, O, nf, df, nl, lg), (s, re, fo, ra, tu, we, sh), H, ht, K, tl, tb, fa, r1, r2)))))) (rmA 9 4 24)) (SC g) n σ 0 0 0 [(0, yR g 0), (1, yI a), (2, yR g 171)] []
  refine y_aload_n (pc := 0) hF dL_turning_0 2 rfl ?_
  refine y_iconst (pc := 1) hF dL_turning_1 ?_
  refine y_aload_n (pc := 2) hF dL_turning_2 0 rfl ?_
  refine y_iload_n (pc := 3) hF dL_turning_3 1 rfl ?_
  refine y_contH (cells' := 4) (slots' := 24) hFH (y_rVH (pc := 4) hFH (tX10_turning hlt hn w h T S F P O nf df nl lg s re fo ra tu we sh H ht K tl tb fa r1 r2 N hV hW a ha) dL_turning_4 (by omega) rfl rfl rfl w_1213 qX10_turning rfl ⟨Nat.le_of_ble_eq_true rfl, Nat.le_of_ble_eq_true rfl⟩ ⟨Nat.le_of_ble_eq_true rfl, Nat.le_of_ble_eq_true rfl⟩ (Nat.le_of_ble_eq_true rfl) rfl (rest := [yI 0, yR g 171])) rfl rfl (fun E n' σ' zx => ?_) (fun r n' σ' zp => ?_)
  · obtain ⟨zE, h1, h2, h3, h4⟩ := zx
    subst zE
    refine ⟨[], (0, 9, 12, 13), [], rfl, (fun y hy => nomatch hy), (by decide), (by decide), w_606, w_617, fun q => ?_⟩
    refine y_astoreS_n (pc := 12) (lv' := [(0, yR g 0), (1, yI a), (2, yR g 171), (3, .ref q)]) hF dL_turning_12 (by decide) rfl rfl ?_
    refine y_iconst (pc := 13) hF dL_turning_13 ?_
    exact y_iret (pc := 14) hF dL_turning_14 (Nat.le_of_ble_eq_true rfl) (Nat.le_of_ble_eq_true rfl) ⟨_, rfl, h1, (fun c hc _ => h4 c hc), Or.inr ⟨h2, rfl, h3⟩⟩
  · obtain ⟨zv, rfl, h1, h2, h5, h3, h4⟩ := zp
    show yV X0 g 4 (yQ X0 g (SC g) (yPi (fun zk n' σ' => n ≤ n' ∧ cG σ σ' ∧ (((a = 0 ∨ a = 1) ∧ zk = 0 ∧ σ' 171 0 = wr (trV (trQ w h T S F P O s re fo ra we sh 4) a) ∧ cV σ' (w, h, (T, S, F, P, O, nf, df, nl, lg), (s, re, fo, ra, tu, we, sh), H, ht, K, tl, tb, fa, r1, r2)) ∨ (¬ (a = 0 ∨ a = 1) ∧ zk = 1 ∧ cV σ' (bA (w, h, (T, S, F, P, O, nf, df, nl, lg), (s, re, fo, ra, tu, we, sh), H, ht, K, tl, tb, fa, r1, r2)))))) (rmA 9 4 24)) (SC g) n' σ' 4 24 7 [(0, yR g 0), (1, yI a), (2, yR g 171)] [yI zv, yI 0, yR g 171]
    refine y_i2lw (pc := 7) hF dL_turning_7 ?_
    refine y_lastore (pc := 8) (len := 1) hF dL_turning_8 (by omega) rfl (by decide) (by decide) ?_
    refine y_goto (pc := 9) hF dL_turning_9 15 rfl ?_
    refine y_iconst (pc := 15) hF dL_turning_15 ?_
    refine y_iret (pc := 16) hF dL_turning_16 (Nat.le_of_ble_eq_true rfl) (Nat.le_of_ble_eq_true rfl) ⟨_, rfl, h1, (fun c hc hc2 => ?_), Or.inl ⟨h2, rfl, ?_, ?_⟩⟩
    · rw [yset_n hc2]
      exact h4 c hc
    · rw [yset_e, h5]
    · exact cV_out h3

theorem wl_lent : Cond.codeWith yL_lent cL_lent 5 (some .int) [(0, 10, 13, 23)] ∈ y_tb := y_in (mt_5 _ (List.mem_of_getElem? (i := 174) rfl)) rfl
theorem dL_lent_0 : decode cL_lent 0 = .ok (.aload_n 3, 1) := by decide +kernel
theorem dL_lent_1 : decode cL_lent 1 = .ok (.iconst 0, 1) := by decide +kernel
theorem dL_lent_2 : decode cL_lent 2 = .ok (.aload_n 0, 1) := by decide +kernel
theorem dL_lent_3 : decode cL_lent 3 = .ok (.iload_n 1, 1) := by decide +kernel
theorem dL_lent_4 : decode cL_lent 4 = .ok (.iload_n 2, 1) := by decide +kernel
theorem dL_lent_5 : decode cL_lent 5 = .ok (.invokevirtual 90, 3) := by decide +kernel
theorem dL_lent_8 : decode cL_lent 8 = .ok (.i2l, 1) := by decide +kernel
theorem dL_lent_9 : decode cL_lent 9 = .ok (.lastore, 1) := by decide +kernel
theorem dL_lent_10 : decode cL_lent 10 = .ok (.goto 7, 3) := by decide +kernel
theorem dL_lent_13 : decode cL_lent 13 = .ok (.astore 4, 2) := by decide +kernel
theorem dL_lent_15 : decode cL_lent 15 = .ok (.iconst 1, 1) := by decide +kernel
theorem dL_lent_16 : decode cL_lent 16 = .ok (.ireturn, 1) := by decide +kernel
theorem dL_lent_17 : decode cL_lent 17 = .ok (.iconst 0, 1) := by decide +kernel
theorem dL_lent_18 : decode cL_lent 18 = .ok (.ireturn, 1) := by decide +kernel
set_option maxHeartbeats 4000000 in
set_option maxRecDepth 100000 in
theorem tL_lent {l : Launch} {g : yG} {n : Nat} {σ : yM} (hlt : l.stackTraces = false) (hn : 172 ≤ n) (w h : Int) (T S F P O : Int → Int → Int) (nf df nl : Int) (lg : Int → Int → Int) (s re fo ra tu we sh : Int) (H : List aX) (ht : Bool) (K : Int → Int → Int) (tl : Int) (tb : Int → Int) (fa r1 r2 N : Int) (hV : cV σ (w, h, (T, S, F, P, O, nf, df, nl, lg), (s, re, fo, ra, tu, we, sh), H, ht, K, tl, tb, fa, r1, r2)) (hW : aW N (w, h, (T, S, F, P, O, nf, df, nl, lg), (s, re, fo, ra, tu, we, sh), H, ht, K, tl, tb, fa, r1, r2)) (x y : Int) (hx : -2147483648 ≤ x ∧ x < 2147483648) (hy : -2147483648 ≤ y ∧ y < 2147483648) : yMH l g yL_lent cL_lent 5 (some .int) [(0, 10, 13, 23)] (rmA 9 4 24) [yR g 0, yI x, yI y, yR g 171] (SC g) n σ (SC g) (yPi (fun zk n' σ' => n ≤ n' ∧ cG σ σ' ∧ (((sIn w h x y = true) ∧ zk = 0 ∧ σ' 171 0 = wr (lnV w h O s x y) ∧ cV σ' (w, h, (T, S, F, P, O, nf, df, nl, lg), (s, re, fo, ra, tu, we, sh), H, ht, K, tl, tb, fa, r1, r2)) ∨ (¬ (sIn w h x y = true) ∧ zk = 1 ∧ cV σ' (bN (w, h, (T, S, F, P, O, nf, df, nl, lg), (s, re, fo, ra, tu, we, sh), H, ht, K, tl, tb, fa, r1, r2)))))) := by
  refine y_startH (by decide) (Nat.le_of_ble_eq_true rfl) (fun X0 hFH => ?_)
  have hF := hFH.1
  show yV X0 g 5 (yQ X0 g (SC g) (yPi (fun zk n' σ' => n ≤ n' ∧ cG σ σ' ∧ (((sIn w h x y = true) ∧ zk = 0 ∧ σ' 171 0 = wr (lnV w h O s x y) ∧ cV σ' (w, h, (T, S, F, P, O, nf, df, nl, lg), (s, re, fo, ra, tu, we, sh), H, ht, K, tl, tb, fa, r1, r2)) ∨ (¬ (sIn w h x y = true) ∧ zk = 1 ∧ cV σ' (bN (w, h, (T, S, F, P, O, nf, df, nl, lg), (s, re, fo, ra, tu, we, sh), H, ht, K, tl, tb, fa, r1, r2)))))) (rmA 9 4 24)) (SC g) n σ 0 0 0 [(0, yR g 0), (1, yI x), (2, yI y), (3, yR g 171)] []
  refine y_aload_n (pc := 0) hF dL_lent_0 3 rfl ?_
  refine y_iconst (pc := 1) hF dL_lent_1 ?_
  refine y_aload_n (pc := 2) hF dL_lent_2 0 rfl ?_
  refine y_iload_n (pc := 3) hF dL_lent_3 1 rfl ?_
  refine y_iload_n (pc := 4) hF dL_lent_4 2 rfl ?_
  refine y_contH (cells' := 4) (slots' := 24) hFH (y_rVH (pc := 5) hFH (tX10_lent hlt hn w h T S F P O nf df nl lg s re fo ra tu we sh H ht K tl tb fa r1 r2 N hV hW x y hx hy) dL_lent_5 (by omega) rfl rfl rfl w_1220 qX10_lent rfl ⟨Nat.le_of_ble_eq_true rfl, Nat.le_of_ble_eq_true rfl⟩ ⟨Nat.le_of_ble_eq_true rfl, Nat.le_of_ble_eq_true rfl⟩ (Nat.le_of_ble_eq_true rfl) rfl (rest := [yI 0, yR g 171])) rfl rfl (fun E n' σ' zx => ?_) (fun r n' σ' zp => ?_)
  · obtain ⟨zE, h1, h2, h3, h4⟩ := zx
    subst zE
    refine ⟨[], (0, 10, 13, 23), [], rfl, (fun y hy => nomatch hy), (by decide), (by decide), w_747, w_766, fun q => ?_⟩
    refine y_astoreS (pc := 13) (lv' := [(0, yR g 0), (1, yI x), (2, yI y), (3, yR g 171), (4, .ref q)]) hF dL_lent_13 (by decide) rfl rfl ?_
    refine y_iconst (pc := 15) hF dL_lent_15 ?_
    exact y_iret (pc := 16) hF dL_lent_16 (Nat.le_of_ble_eq_true rfl) (Nat.le_of_ble_eq_true rfl) ⟨_, rfl, h1, (fun c hc _ => h4 c hc), Or.inr ⟨h2, rfl, h3⟩⟩
  · obtain ⟨zv, rfl, h1, h2, h5, h3, h4⟩ := zp
    show yV X0 g 5 (yQ X0 g (SC g) (yPi (fun zk n' σ' => n ≤ n' ∧ cG σ σ' ∧ (((sIn w h x y = true) ∧ zk = 0 ∧ σ' 171 0 = wr (lnV w h O s x y) ∧ cV σ' (w, h, (T, S, F, P, O, nf, df, nl, lg), (s, re, fo, ra, tu, we, sh), H, ht, K, tl, tb, fa, r1, r2)) ∨ (¬ (sIn w h x y = true) ∧ zk = 1 ∧ cV σ' (bN (w, h, (T, S, F, P, O, nf, df, nl, lg), (s, re, fo, ra, tu, we, sh), H, ht, K, tl, tb, fa, r1, r2)))))) (rmA 9 4 24)) (SC g) n' σ' 4 24 8 [(0, yR g 0), (1, yI x), (2, yI y), (3, yR g 171)] [yI zv, yI 0, yR g 171]
    refine y_i2lw (pc := 8) hF dL_lent_8 ?_
    refine y_lastore (pc := 9) (len := 1) hF dL_lent_9 (by omega) rfl (by decide) (by decide) ?_
    refine y_goto (pc := 10) hF dL_lent_10 17 rfl ?_
    refine y_iconst (pc := 17) hF dL_lent_17 ?_
    refine y_iret (pc := 18) hF dL_lent_18 (Nat.le_of_ble_eq_true rfl) (Nat.le_of_ble_eq_true rfl) ⟨_, rfl, h1, (fun c hc hc2 => ?_), Or.inl ⟨h2, rfl, ?_, ?_⟩⟩
    · rw [yset_n hc2]
      exact h4 c hc
    · rw [yset_e, h5]
    · exact cV_out h3
