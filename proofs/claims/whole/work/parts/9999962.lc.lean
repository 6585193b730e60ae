theorem dW_635 : decode code 635 = .ok (.aload_n 1, 1) := by decide +kernel
theorem dW_636 : decode code 636 = .ok (.aload_n 0, 1) := by decide +kernel
theorem dW_637 : decode code 637 = .ok (.iload 4, 2) := by decide +kernel
theorem dW_639 : decode code 639 = .ok (.iconst 1, 1) := by decide +kernel
theorem dW_640 : decode code 640 = .ok (.iadd, 1) := by decide +kernel
theorem dW_641 : decode code 641 = .ok (.iaload, 1) := by decide +kernel
theorem dW_642 : decode code 642 = .ok (.aload_n 3, 1) := by decide +kernel
theorem dW_643 : decode code 643 = .ok (.invokestatic 134, 3) := by decide +kernel
theorem dW_646 : decode code 646 = .ok (.istore 5, 2) := by decide +kernel
theorem dW_648 : decode code 648 = .ok (.aload_n 2, 1) := by decide +kernel
theorem dW_649 : decode code 649 = .ok (.aload_n 0, 1) := by decide +kernel
theorem dW_650 : decode code 650 = .ok (.iload 4, 2) := by decide +kernel
theorem dW_652 : decode code 652 = .ok (.iconst 1, 1) := by decide +kernel
theorem dW_653 : decode code 653 = .ok (.iadd, 1) := by decide +kernel
theorem dW_654 : decode code 654 = .ok (.iaload, 1) := by decide +kernel
theorem dW_655 : decode code 655 = .ok (.invokevirtual 136, 3) := by decide +kernel
theorem dW_658 : decode code 658 = .ok (.istore 6, 2) := by decide +kernel
theorem dW_660 : decode code 660 = .ok (.aload_n 2, 1) := by decide +kernel
theorem dW_661 : decode code 661 = .ok (.invokevirtual 107, 3) := by decide +kernel
theorem dW_664 : decode code 664 = .ok (.iload 5, 2) := by decide +kernel
theorem dW_666 : decode code 666 = .ok (.if_icmp .eq 5, 3) := by decide +kernel
theorem dW_671 : decode code 671 = .ok (.iload 5, 2) := by decide +kernel
theorem dW_673 : decode code 673 = .ok (.ifCond .ne 15, 3) := by decide +kernel
theorem dW_676 : decode code 676 = .ok (.aload_n 3, 1) := by decide +kernel
theorem dW_677 : decode code 677 = .ok (.iconst 0, 1) := by decide +kernel
theorem dW_678 : decode code 678 = .ok (.laload, 1) := by decide +kernel
theorem dW_679 : decode code 679 = .ok (.iload 6, 2) := by decide +kernel
theorem dW_681 : decode code 681 = .ok (.i2l, 1) := by decide +kernel
theorem dW_682 : decode code 682 = .ok (.lcmp, 1) := by decide +kernel
theorem dW_683 : decode code 683 = .ok (.ifCond .eq 5, 3) := by decide +kernel
theorem dW_688 : decode code 688 = .ok (.goto 1372, 3) := by decide +kernel
theorem dW_691 : decode code 691 = .ok (.aload_n 1, 1) := by decide +kernel
theorem dW_692 : decode code 692 = .ok (.invokevirtual 137, 3) := by decide +kernel
theorem dW_695 : decode code 695 = .ok (.aload_n 2, 1) := by decide +kernel
theorem dW_696 : decode code 696 = .ok (.invokevirtual 140, 3) := by decide +kernel
theorem dW_699 : decode code 699 = .ok (.if_icmp .eq 1361, 3) := by decide +kernel
theorem dW_704 : decode code 704 = .ok (.aload_n 1, 1) := by decide +kernel
theorem dW_705 : decode code 705 = .ok (.aload_n 0, 1) := by decide +kernel
theorem dW_706 : decode code 706 = .ok (.iload 4, 2) := by decide +kernel
theorem dW_708 : decode code 708 = .ok (.iconst 1, 1) := by decide +kernel
theorem dW_709 : decode code 709 = .ok (.iadd, 1) := by decide +kernel
theorem dW_710 : decode code 710 = .ok (.iaload, 1) := by decide +kernel
theorem dW_711 : decode code 711 = .ok (.aload_n 3, 1) := by decide +kernel
theorem dW_712 : decode code 712 = .ok (.invokestatic 141, 3) := by decide +kernel
theorem dW_715 : decode code 715 = .ok (.istore 5, 2) := by decide +kernel
theorem dW_717 : decode code 717 = .ok (.aload_n 2, 1) := by decide +kernel
theorem dW_718 : decode code 718 = .ok (.aload_n 0, 1) := by decide +kernel
theorem dW_719 : decode code 719 = .ok (.iload 4, 2) := by decide +kernel
theorem dW_721 : decode code 721 = .ok (.iconst 1, 1) := by decide +kernel
theorem dW_722 : decode code 722 = .ok (.iadd, 1) := by decide +kernel
theorem dW_723 : decode code 723 = .ok (.iaload, 1) := by decide +kernel
theorem dW_724 : decode code 724 = .ok (.invokevirtual 143, 3) := by decide +kernel
theorem dW_727 : decode code 727 = .ok (.istore 6, 2) := by decide +kernel
theorem dW_729 : decode code 729 = .ok (.aload_n 2, 1) := by decide +kernel
theorem dW_730 : decode code 730 = .ok (.invokevirtual 107, 3) := by decide +kernel
theorem dW_733 : decode code 733 = .ok (.iload 5, 2) := by decide +kernel
theorem dW_735 : decode code 735 = .ok (.if_icmp .eq 5, 3) := by decide +kernel
theorem dW_740 : decode code 740 = .ok (.iload 5, 2) := by decide +kernel
theorem dW_742 : decode code 742 = .ok (.ifCond .ne 15, 3) := by decide +kernel
theorem dW_745 : decode code 745 = .ok (.aload_n 3, 1) := by decide +kernel
theorem dW_746 : decode code 746 = .ok (.iconst 0, 1) := by decide +kernel
theorem dW_747 : decode code 747 = .ok (.laload, 1) := by decide +kernel
theorem dW_748 : decode code 748 = .ok (.iload 6, 2) := by decide +kernel
theorem dW_750 : decode code 750 = .ok (.i2l, 1) := by decide +kernel
theorem dW_751 : decode code 751 = .ok (.lcmp, 1) := by decide +kernel
theorem dW_752 : decode code 752 = .ok (.ifCond .eq 5, 3) := by decide +kernel
theorem dW_757 : decode code 757 = .ok (.goto 1303, 3) := by decide +kernel
theorem dW_760 : decode code 760 = .ok (.aload_n 1, 1) := by decide +kernel
theorem dW_761 : decode code 761 = .ok (.aload_n 0, 1) := by decide +kernel
theorem dW_762 : decode code 762 = .ok (.iload 4, 2) := by decide +kernel
theorem dW_764 : decode code 764 = .ok (.iconst 1, 1) := by decide +kernel
theorem dW_765 : decode code 765 = .ok (.iadd, 1) := by decide +kernel
theorem dW_766 : decode code 766 = .ok (.iaload, 1) := by decide +kernel
theorem dW_767 : decode code 767 = .ok (.aload_n 0, 1) := by decide +kernel
theorem dW_768 : decode code 768 = .ok (.iload 4, 2) := by decide +kernel
theorem dW_770 : decode code 770 = .ok (.iconst 2, 1) := by decide +kernel
theorem dW_771 : decode code 771 = .ok (.iadd, 1) := by decide +kernel
theorem dW_772 : decode code 772 = .ok (.iaload, 1) := by decide +kernel
theorem dW_773 : decode code 773 = .ok (.aload_n 0, 1) := by decide +kernel
theorem dW_774 : decode code 774 = .ok (.iload 4, 2) := by decide +kernel
theorem dW_776 : decode code 776 = .ok (.iconst 3, 1) := by decide +kernel
theorem dW_777 : decode code 777 = .ok (.iadd, 1) := by decide +kernel
theorem dW_778 : decode code 778 = .ok (.iaload, 1) := by decide +kernel
theorem dW_779 : decode code 779 = .ok (.aload_n 3, 1) := by decide +kernel
theorem dW_780 : decode code 780 = .ok (.invokestatic 144, 3) := by decide +kernel
theorem dW_783 : decode code 783 = .ok (.istore 5, 2) := by decide +kernel
theorem dW_785 : decode code 785 = .ok (.aload_n 2, 1) := by decide +kernel
theorem dW_786 : decode code 786 = .ok (.aload_n 0, 1) := by decide +kernel
theorem dW_787 : decode code 787 = .ok (.iload 4, 2) := by decide +kernel
theorem dW_789 : decode code 789 = .ok (.iconst 1, 1) := by decide +kernel
theorem dW_790 : decode code 790 = .ok (.iadd, 1) := by decide +kernel
theorem dW_791 : decode code 791 = .ok (.iaload, 1) := by decide +kernel
theorem dW_792 : decode code 792 = .ok (.aload_n 0, 1) := by decide +kernel
theorem dW_793 : decode code 793 = .ok (.iload 4, 2) := by decide +kernel
theorem dW_795 : decode code 795 = .ok (.iconst 2, 1) := by decide +kernel
theorem dW_796 : decode code 796 = .ok (.iadd, 1) := by decide +kernel
theorem dW_797 : decode code 797 = .ok (.iaload, 1) := by decide +kernel
theorem dW_798 : decode code 798 = .ok (.aload_n 0, 1) := by decide +kernel
theorem dW_799 : decode code 799 = .ok (.iload 4, 2) := by decide +kernel
theorem dW_801 : decode code 801 = .ok (.iconst 3, 1) := by decide +kernel
theorem dW_802 : decode code 802 = .ok (.iadd, 1) := by decide +kernel
theorem dW_803 : decode code 803 = .ok (.iaload, 1) := by decide +kernel
theorem dW_804 : decode code 804 = .ok (.invokevirtual 146, 3) := by decide +kernel
theorem dW_807 : decode code 807 = .ok (.istore 6, 2) := by decide +kernel
theorem dW_809 : decode code 809 = .ok (.aload_n 2, 1) := by decide +kernel
theorem dW_810 : decode code 810 = .ok (.invokevirtual 107, 3) := by decide +kernel
theorem dW_813 : decode code 813 = .ok (.iload 5, 2) := by decide +kernel
theorem dW_815 : decode code 815 = .ok (.if_icmp .eq 5, 3) := by decide +kernel
theorem dW_820 : decode code 820 = .ok (.iload 5, 2) := by decide +kernel
theorem dW_822 : decode code 822 = .ok (.ifCond .ne 15, 3) := by decide +kernel
theorem dW_825 : decode code 825 = .ok (.aload_n 3, 1) := by decide +kernel
theorem dW_826 : decode code 826 = .ok (.iconst 0, 1) := by decide +kernel
theorem dW_827 : decode code 827 = .ok (.laload, 1) := by decide +kernel
theorem dW_828 : decode code 828 = .ok (.iload 6, 2) := by decide +kernel
theorem dW_830 : decode code 830 = .ok (.i2l, 1) := by decide +kernel
theorem dW_831 : decode code 831 = .ok (.lcmp, 1) := by decide +kernel
theorem dW_832 : decode code 832 = .ok (.ifCond .eq 5, 3) := by decide +kernel
theorem dW_837 : decode code 837 = .ok (.goto 1223, 3) := by decide +kernel
section YLA
variable {x : yC} {l : Launch} {g : yG} {b L : Nat} {xs : Nat → Int32} {Q : State → Prop} {n : Nat} {σ : yM} {cells slots : Nat}
set_option maxHeartbeats 4000000 in
set_option maxRecDepth 100000 in
theorem zc_guide (E : zE x l g b L xs) {N : Int} {A : aA} (G : zG N σ A) (hN0 : 0 ≤ N) (hN : N ≤ 400000000) (hn : 172 ≤ n) {i : Int} (hi : 0 ≤ i ∧ i + 6 ≤ (L : Int)) (hc : cells + 408 ≤ 601024) (hs : slots + 3660 ≤ 7293033) (k : zK x g b Q n N cells slots i) : yV x g 7 Q (SC g) n σ cells slots 635 (zL g b i) [] := by
  obtain ⟨w, h, ⟨T, S, F, P, O, nf, df, nl, lg⟩, ⟨s, re, fo, ra, tu, we, sh⟩, H, ht, K, tl, tb, fa, r1, r2⟩ := A
  obtain ⟨hC, hM, hW⟩ := G
  have hF := E.1
  have ZN := hN0
  refine y_aload_n (pc := 635) hF dW_635 1 rfl ?_
  refine zl_arg (pc := 636) E dW_636 dW_637 dW_639 dW_640 dW_641 rfl rfl (by omega) ?_
  refine y_aload_n (pc := 642) hF dW_642 3 rfl ?_
  refine y_ci (cells' := cells + 4) (slots' := slots + 24) (y_rSL (pc := 643) (na := 3) hF E.2.1 E.2.2.1 (tL_guide E.2.2.2.1 hn _ _ _ _ _ _ _ _ _ _ _ _ _ _ _ _ _ _ _ _ _ _ _ _ _ _ _ hC hW hN (zA xs i 1) (zA_r xs i 1)) dW_643 w_972 w_973 wl_guide w_85 ⟨by decide, by decide, by decide +kernel⟩ rfl ⟨Nat.le_of_ble_eq_true rfl, Nat.le_of_ble_eq_true rfl⟩ ⟨by show cells + 4 ≤ 601024; omega, by show slots + 24 ≤ 7293033; omega⟩ (Nat.le_of_ble_eq_true rfl) rfl (rest := [])) rfl rfl (fun zk n1 σ1 z1 => ?_)
  refine y_istore (pc := 646) (lv' := zL5 g b i zk) hF dW_646 (by decide) rfl rfl ?_
  have hn1 := Nat.le_trans hn z1.1
  have zM := mV_cG hM z1.2.1
  refine y_aload_n (pc := 648) hF dW_648 2 rfl ?_
  refine zl_arg (pc := 649) E dW_649 dW_650 dW_652 dW_653 dW_654 rfl rfl (by omega) ?_
  refine y_ci (cells' := cells + 4 + 303) (slots' := slots + 24 + 2727) (y_rV (pc := 655) (rest := []) hF (tX11_guide hn1 _ _ _ _ _ _ _ _ _ _ _ _ _ _ _ _ _ _ _ _ _ _ _ _ _ _ _ zM hW (zA xs i 1) (zA_r xs i 1) hN) dW_655 (by omega) rfl rfl rfl w_1597 qX11_guide rfl ⟨Nat.le_of_ble_eq_true rfl, Nat.le_of_ble_eq_true rfl⟩ ⟨by show cells + 4 + 303 ≤ 601024; omega, by show slots + 24 + 2727 ≤ 7293033; omega⟩ (Nat.le_of_ble_eq_true rfl) rfl) rfl rfl (fun zb n2 σ2 z2 => ?_)
  refine y_istore (pc := 658) (lv' := zL6 g b i zk zb) hF dW_658 (by decide) rfl rfl ?_
  have hn2 := Nat.le_trans hn1 z2.1
  have hn3 := Nat.le_trans z1.1 z2.1
  have zt : ∃ A' : aA, zk = σ2 155 0 ∧ (0 ≤ zk ∧ zk ≤ 2) ∧ (zk = 0 → σ2 171 0 = wr zb) ∧ zG (N + 400) σ2 A' := by
    obtain ⟨_, zg, z1⟩ := z1
    obtain ⟨_, z2⟩ := z2
    rcases z1 with ⟨q, rfl, q2, q3⟩ | ⟨q, rfl, q3⟩
    · rcases z2 with ⟨p, p1, p2⟩ | ⟨p, p2⟩
      · exact ⟨_, p2.2.1.symm, (by decide), (fun _ => by rw [p2.1 171 (Or.inr rfl), q2, p1]), cV_mF q3 p2.1, p2.2.2, aW_run ⟨by have := (cV_ok hC).2.2.1; omega, (cV_ok hC).2.2.1.2⟩ (cV_ok hC).2.2.2 (cV_ok hC).1 (cV_ok hC).2.1 hN (by decide) hW⟩
      · exact absurd q p
    · rcases z2 with ⟨p, p1, p2⟩ | ⟨p, p2⟩
      · exact absurd p q
      · exact ⟨_, p2.2.1.symm, (by decide), (fun z => absurd z (by decide)), cV_mF q3 p2.1, p2.2.2, aW_up (aW_bA hW) (by omega)⟩
  obtain ⟨A', t1, t2, t3, t4⟩ := zt
  exact zl_tail (pc := 660) E dW_660 dW_661 dW_664 dW_666 dW_671 dW_673 dW_676 dW_677 dW_678 dW_679 dW_681 dW_682 dW_683 dW_688 rfl t1 t2 t3 hn2 (by omega) (by omega) (y_wid (by omega) (by omega) (k n2 σ2 A' hn3 t4))
set_option maxHeartbeats 4000000 in
set_option maxRecDepth 100000 in
theorem zc_undo (E : zE x l g b L xs) {N : Int} {A : aA} (G : zG N σ A) (hN0 : 0 ≤ N) (hN : N ≤ 400000000) (hn : 172 ≤ n) {i : Int} (hi : 0 ≤ i ∧ i + 6 ≤ (L : Int)) (hc : cells + 408 ≤ 601024) (hs : slots + 3660 ≤ 7293033) (k : zK x g b Q n N cells slots i) : yV x g 7 Q (SC g) n σ cells slots 691 (zL g b i) [] := by
  obtain ⟨w, h, ⟨T, S, F, P, O, nf, df, nl, lg⟩, ⟨s, re, fo, ra, tu, we, sh⟩, H, ht, K, tl, tb, fa, r1, r2⟩ := A
  obtain ⟨hC, hM, hW⟩ := G
  have hF := E.1
  have ZN := hN0
  refine y_aload_n (pc := 691) hF dW_691 1 rfl ?_
  refine y_ci (y_rV (pc := 692) (rest := []) hF (tX10_undo hn _ _ _ _ _ _ _ _ _ _ _ _ _ _ _ _ _ _ _ _ _ _ _ _ _ _ _ hC hW) dW_692 (by omega) rfl rfl rfl w_572 qX10_undo rfl ⟨Nat.le_of_ble_eq_true rfl, Nat.le_of_ble_eq_true rfl⟩ ⟨by show cells ≤ 601024; omega, by show slots ≤ 7293033; omega⟩ (Nat.le_of_ble_eq_true rfl) rfl) rfl rfl (fun zv n1 σ1 z1 => ?_)
  obtain ⟨z0, _, zv1, z3, z4⟩ := z1
  have hn1 := Nat.le_trans hn z0
  have zM := mV_cG hM (fun c hc _ => z4 c hc)
  refine y_aload_n (pc := 695) hF dW_695 2 rfl ?_
  refine y_ci (cells' := cells) (slots' := slots) (y_rV (pc := 696) (rest := [_]) hF (tX11_undo hn1 _ _ _ _ _ _ _ _ _ _ _ _ _ _ _ _ _ _ _ _ _ _ _ _ _ _ _ zM hW) dW_696 (by omega) rfl rfl rfl w_1613 qX11_undo rfl ⟨Nat.le_of_ble_eq_true rfl, Nat.le_of_ble_eq_true rfl⟩ ⟨by show cells ≤ 601024; omega, by show slots ≤ 7293033; omega⟩ (Nat.le_of_ble_eq_true rfl) rfl) rfl rfl (fun zb n2 σ2 z2 => ?_)
  obtain ⟨z5, zb1, z6⟩ := z2
  subst zb1
  subst zv1
  refine y_icmp_same (pc := 699) hF dW_699 2060 rfl ?_
  exact y_wid (by omega) (by omega) (k n2 σ2 _ (Nat.le_trans z0 z5) ⟨cV_mF z3 z6.1, z6.2.2, aW_up (aW_undo hW) (by omega)⟩)
set_option maxHeartbeats 4000000 in
set_option maxRecDepth 100000 in
theorem zc_told (E : zE x l g b L xs) {N : Int} {A : aA} (G : zG N σ A) (hN0 : 0 ≤ N) (hN : N ≤ 400000000) (hn : 172 ≤ n) {i : Int} (hi : 0 ≤ i ∧ i + 6 ≤ (L : Int)) (hc : cells + 408 ≤ 601024) (hs : slots + 3660 ≤ 7293033) (k : zK x g b Q n N cells slots i) : yV x g 7 Q (SC g) n σ cells slots 704 (zL g b i) [] := by
  obtain ⟨w, h, ⟨T, S, F, P, O, nf, df, nl, lg⟩, ⟨s, re, fo, ra, tu, we, sh⟩, H, ht, K, tl, tb, fa, r1, r2⟩ := A
  obtain ⟨hC, hM, hW⟩ := G
  have hF := E.1
  have ZN := hN0
  refine y_aload_n (pc := 704) hF dW_704 1 rfl ?_
  refine zl_arg (pc := 705) E dW_705 dW_706 dW_708 dW_709 dW_710 rfl rfl (by omega) ?_
  refine y_aload_n (pc := 711) hF dW_711 3 rfl ?_
  refine y_ci (cells' := cells + 3) (slots' := slots + 18) (y_rSL (pc := 712) (na := 3) hF E.2.1 E.2.2.1 (tL_told E.2.2.2.1 hn _ _ _ _ _ _ _ _ _ _ _ _ _ _ _ _ _ _ _ _ _ _ _ _ _ _ _ hC hW (zA xs i 1) (zA_r xs i 1)) dW_712 w_979 w_980 wl_told w_85 ⟨by decide, by decide, by decide +kernel⟩ rfl ⟨Nat.le_of_ble_eq_true rfl, Nat.le_of_ble_eq_true rfl⟩ ⟨by show cells + 3 ≤ 601024; omega, by show slots + 18 ≤ 7293033; omega⟩ (Nat.le_of_ble_eq_true rfl) rfl (rest := [])) rfl rfl (fun zk n1 σ1 z1 => ?_)
  refine y_istore (pc := 715) (lv' := zL5 g b i zk) hF dW_715 (by decide) rfl rfl ?_
  have hn1 := Nat.le_trans hn z1.1
  have zM := mV_cG hM z1.2.1
  refine y_aload_n (pc := 717) hF dW_717 2 rfl ?_
  refine zl_arg (pc := 718) E dW_718 dW_719 dW_721 dW_722 dW_723 rfl rfl (by omega) ?_
  refine y_ci (cells' := cells + 3) (slots' := slots + 18) (y_rV (pc := 724) (rest := []) hF (tX11_told hn1 _ _ _ _ _ _ _ _ _ _ _ _ _ _ _ _ _ _ _ _ _ _ _ _ _ _ _ zM hW (zA xs i 1) (zA_r xs i 1)) dW_724 (by omega) rfl rfl rfl w_1641 qX11_told rfl ⟨Nat.le_of_ble_eq_true rfl, Nat.le_of_ble_eq_true rfl⟩ ⟨by show cells + 3 ≤ 601024; omega, by show slots + 18 ≤ 7293033; omega⟩ (Nat.le_of_ble_eq_true rfl) rfl) rfl rfl (fun zb n2 σ2 z2 => ?_)
  refine y_istore (pc := 727) (lv' := zL6 g b i zk zb) hF dW_727 (by decide) rfl rfl ?_
  have hn2 := Nat.le_trans hn1 z2.1
  have hn3 := Nat.le_trans z1.1 z2.1
  have zt : ∃ A' : aA, zk = σ2 155 0 ∧ (0 ≤ zk ∧ zk ≤ 2) ∧ (zk = 0 → σ2 171 0 = wr zb) ∧ zG (N + 400) σ2 A' := by
    obtain ⟨_, zg, z1⟩ := z1
    obtain ⟨_, z2⟩ := z2
    rcases z1 with ⟨q, rfl, q2, q3⟩ | ⟨q, rfl, q3⟩
    · rcases z2 with ⟨p, p1, p2⟩ | ⟨p, p2⟩
      · exact ⟨_, p2.2.1.symm, (by decide), (fun _ => by rw [p2.1 171 (Or.inr rfl), q2, p1]), cV_mF q3 p2.1, p2.2.2, aW_up hW (by omega)⟩
      · exact absurd q p
    · rcases z2 with ⟨p, p1, p2⟩ | ⟨p, p2⟩
      · exact absurd p q
      · exact ⟨_, p2.2.1.symm, (by decide), (fun z => absurd z (by decide)), cV_mF q3 p2.1, p2.2.2, aW_up (aW_bA hW) (by omega)⟩
  obtain ⟨A', t1, t2, t3, t4⟩ := zt
  exact zl_tail (pc := 729) E dW_729 dW_730 dW_733 dW_735 dW_740 dW_742 dW_745 dW_746 dW_747 dW_748 dW_750 dW_751 dW_752 dW_757 rfl t1 t2 t3 hn2 (by omega) (by omega) (y_wid (by omega) (by omega) (k n2 σ2 A' hn3 t4))
set_option maxHeartbeats 4000000 in
set_option maxRecDepth 100000 in
theorem zc_dot (E : zE x l g b L xs) {N : Int} {A : aA} (G : zG N σ A) (hN0 : 0 ≤ N) (hN : N ≤ 400000000) (hn : 172 ≤ n) {i : Int} (hi : 0 ≤ i ∧ i + 6 ≤ (L : Int)) (hc : cells + 408 ≤ 601024) (hs : slots + 3660 ≤ 7293033) (k : zK x g b Q n N cells slots i) : yV x g 7 Q (SC g) n σ cells slots 760 (zL g b i) [] := by
  obtain ⟨w, h, ⟨T, S, F, P, O, nf, df, nl, lg⟩, ⟨s, re, fo, ra, tu, we, sh⟩, H, ht, K, tl, tb, fa, r1, r2⟩ := A
  obtain ⟨hC, hM, hW⟩ := G
  have hF := E.1
  have ZN := hN0
  refine y_aload_n (pc := 760) hF dW_760 1 rfl ?_
  refine zl_arg (pc := 761) E dW_761 dW_762 dW_764 dW_765 dW_766 rfl rfl (by omega) ?_
  refine zl_arg (pc := 767) E dW_767 dW_768 dW_770 dW_771 dW_772 rfl rfl (by omega) ?_
  refine zl_arg (pc := 773) E dW_773 dW_774 dW_776 dW_777 dW_778 rfl rfl (by omega) ?_
  refine y_aload_n (pc := 779) hF dW_779 3 rfl ?_
  refine y_ci (cells' := cells + 3) (slots' := slots + 18) (y_rSL (pc := 780) (na := 5) hF E.2.1 E.2.2.1 (tL_dot E.2.2.2.1 hn _ _ _ _ _ _ _ _ _ _ _ _ _ _ _ _ _ _ _ _ _ _ _ _ _ _ _ hC hW (zA xs i 1) (zA xs i 2) (zA xs i 3) (zA_r xs i 1) (zA_r xs i 2) (zA_r xs i 3)) dW_780 w_1019 w_1020 wl_dot w_85 ⟨by decide, by decide, by decide +kernel⟩ rfl ⟨Nat.le_of_ble_eq_true rfl, Nat.le_of_ble_eq_true rfl⟩ ⟨by show cells + 3 ≤ 601024; omega, by show slots + 18 ≤ 7293033; omega⟩ (Nat.le_of_ble_eq_true rfl) rfl (rest := [])) rfl rfl (fun zk n1 σ1 z1 => ?_)
  refine y_istore (pc := 783) (lv' := zL5 g b i zk) hF dW_783 (by decide) rfl rfl ?_
  have hn1 := Nat.le_trans hn z1.1
  have zM := mV_cG hM z1.2.1
  refine y_aload_n (pc := 785) hF dW_785 2 rfl ?_
  refine zl_arg (pc := 786) E dW_786 dW_787 dW_789 dW_790 dW_791 rfl rfl (by omega) ?_
  refine zl_arg (pc := 792) E dW_792 dW_793 dW_795 dW_796 dW_797 rfl rfl (by omega) ?_
  refine zl_arg (pc := 798) E dW_798 dW_799 dW_801 dW_802 dW_803 rfl rfl (by omega) ?_
  refine y_ci (cells' := cells + 3) (slots' := slots + 18) (y_rV (pc := 804) (rest := []) hF (tX11_dot hn1 _ _ _ _ _ _ _ _ _ _ _ _ _ _ _ _ _ _ _ _ _ _ _ _ _ _ _ zM hW (zA xs i 1) (zA xs i 2) (zA xs i 3) (zA_r xs i 1) (zA_r xs i 2) (zA_r xs i 3)) dW_804 (by omega) rfl rfl rfl w_1653 qX11_dot rfl ⟨Nat.le_of_ble_eq_true rfl, Nat.le_of_ble_eq_true rfl⟩ ⟨by show cells + 3 ≤ 601024; omega, by show slots + 18 ≤ 7293033; omega⟩ (Nat.le_of_ble_eq_true rfl) rfl) rfl rfl (fun zb n2 σ2 z2 => ?_)
  refine y_istore (pc := 807) (lv' := zL6 g b i zk zb) hF dW_807 (by decide) rfl rfl ?_
  have hn2 := Nat.le_trans hn1 z2.1
  have hn3 := Nat.le_trans z1.1 z2.1
  have zt : ∃ A' : aA, zk = σ2 155 0 ∧ (0 ≤ zk ∧ zk ≤ 2) ∧ (zk = 0 → σ2 171 0 = wr zb) ∧ zG (N + 400) σ2 A' := by
    obtain ⟨_, zg, z1⟩ := z1
    obtain ⟨_, z2⟩ := z2
    rcases z1 with ⟨q, rfl, q2, q3⟩ | ⟨q, rfl, q3⟩ | ⟨q, q0, rfl, q3⟩
    · rcases z2 with ⟨p, p0, p1, p2⟩ | ⟨p, p2⟩ | ⟨p, p0, p2⟩
      · exact ⟨_, p2.2.1.symm, (by decide), (fun _ => by rw [p2.1 171 (Or.inr rfl), q2, p1]), cV_mF q3 p2.1, p2.2.2, aW_up hW (by omega)⟩
      · exact absurd q.1 p
      · exact absurd q.2 p0
    · rcases z2 with ⟨p, p0, p1, p2⟩ | ⟨p, p2⟩ | ⟨p, p0, p2⟩
      · exact absurd p q
      · exact ⟨_, p2.2.1.symm, (by decide), (fun z => absurd z (by decide)), cV_mF q3 p2.1, p2.2.2, aW_up (aW_bN hW) (by omega)⟩
      · exact absurd p q
    · rcases z2 with ⟨p, p0, p1, p2⟩ | ⟨p, p2⟩ | ⟨p, p0, p2⟩
      · exact absurd p0 q0
      · exact absurd q p
      · exact ⟨_, p2.2.1.symm, (by decide), (fun z => absurd z (by decide)), cV_mF q3 p2.1, p2.2.2, aW_up (aW_bA hW) (by omega)⟩
  obtain ⟨A', t1, t2, t3, t4⟩ := zt
  exact zl_tail (pc := 809) E dW_809 dW_810 dW_813 dW_815 dW_820 dW_822 dW_825 dW_826 dW_827 dW_828 dW_830 dW_831 dW_832 dW_837 rfl t1 t2 t3 hn2 (by omega) (by omega) (y_wid (by omega) (by omega) (k n2 σ2 A' hn3 t4))
end YLA
