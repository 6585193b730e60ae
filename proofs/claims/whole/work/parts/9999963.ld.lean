theorem dW_840 : decode code 840 = .ok (.aload_n 1, 1) := by decide +kernel
theorem dW_841 : decode code 841 = .ok (.aload_n 0, 1) := by decide +kernel
theorem dW_842 : decode code 842 = .ok (.iload 4, 2) := by decide +kernel
theorem dW_844 : decode code 844 = .ok (.iconst 1, 1) := by decide +kernel
theorem dW_845 : decode code 845 = .ok (.iadd, 1) := by decide +kernel
theorem dW_846 : decode code 846 = .ok (.iaload, 1) := by decide +kernel
theorem dW_847 : decode code 847 = .ok (.aload_n 0, 1) := by decide +kernel
theorem dW_848 : decode code 848 = .ok (.iload 4, 2) := by decide +kernel
theorem dW_850 : decode code 850 = .ok (.iconst 2, 1) := by decide +kernel
theorem dW_851 : decode code 851 = .ok (.iadd, 1) := by decide +kernel
theorem dW_852 : decode code 852 = .ok (.iaload, 1) := by decide +kernel
theorem dW_853 : decode code 853 = .ok (.aload_n 0, 1) := by decide +kernel
theorem dW_854 : decode code 854 = .ok (.iload 4, 2) := by decide +kernel
theorem dW_856 : decode code 856 = .ok (.iconst 3, 1) := by decide +kernel
theorem dW_857 : decode code 857 = .ok (.iadd, 1) := by decide +kernel
theorem dW_858 : decode code 858 = .ok (.iaload, 1) := by decide +kernel
theorem dW_859 : decode code 859 = .ok (.aload_n 3, 1) := by decide +kernel
theorem dW_860 : decode code 860 = .ok (.invokestatic 147, 3) := by decide +kernel
theorem dW_863 : decode code 863 = .ok (.istore 5, 2) := by decide +kernel
theorem dW_865 : decode code 865 = .ok (.aload_n 2, 1) := by decide +kernel
theorem dW_866 : decode code 866 = .ok (.aload_n 0, 1) := by decide +kernel
theorem dW_867 : decode code 867 = .ok (.iload 4, 2) := by decide +kernel
theorem dW_869 : decode code 869 = .ok (.iconst 1, 1) := by decide +kernel
theorem dW_870 : decode code 870 = .ok (.iadd, 1) := by decide +kernel
theorem dW_871 : decode code 871 = .ok (.iaload, 1) := by decide +kernel
theorem dW_872 : decode code 872 = .ok (.aload_n 0, 1) := by decide +kernel
theorem dW_873 : decode code 873 = .ok (.iload 4, 2) := by decide +kernel
theorem dW_875 : decode code 875 = .ok (.iconst 2, 1) := by decide +kernel
theorem dW_876 : decode code 876 = .ok (.iadd, 1) := by decide +kernel
theorem dW_877 : decode code 877 = .ok (.iaload, 1) := by decide +kernel
theorem dW_878 : decode code 878 = .ok (.aload_n 0, 1) := by decide +kernel
theorem dW_879 : decode code 879 = .ok (.iload 4, 2) := by decide +kernel
theorem dW_881 : decode code 881 = .ok (.iconst 3, 1) := by decide +kernel
theorem dW_882 : decode code 882 = .ok (.iadd, 1) := by decide +kernel
theorem dW_883 : decode code 883 = .ok (.iaload, 1) := by decide +kernel
theorem dW_884 : decode code 884 = .ok (.invokevirtual 149, 3) := by decide +kernel
theorem dW_887 : decode code 887 = .ok (.istore 6, 2) := by decide +kernel
theorem dW_889 : decode code 889 = .ok (.aload_n 2, 1) := by decide +kernel
theorem dW_890 : decode code 890 = .ok (.invokevirtual 107, 3) := by decide +kernel
theorem dW_893 : decode code 893 = .ok (.iload 5, 2) := by decide +kernel
theorem dW_895 : decode code 895 = .ok (.if_icmp .eq 5, 3) := by decide +kernel
theorem dW_900 : decode code 900 = .ok (.iload 5, 2) := by decide +kernel
theorem dW_902 : decode code 902 = .ok (.ifCond .ne 15, 3) := by decide +kernel
theorem dW_905 : decode code 905 = .ok (.aload_n 3, 1) := by decide +kernel
theorem dW_906 : decode code 906 = .ok (.iconst 0, 1) := by decide +kernel
theorem dW_907 : decode code 907 = .ok (.laload, 1) := by decide +kernel
theorem dW_908 : decode code 908 = .ok (.iload 6, 2) := by decide +kernel
theorem dW_910 : decode code 910 = .ok (.i2l, 1) := by decide +kernel
theorem dW_911 : decode code 911 = .ok (.lcmp, 1) := by decide +kernel
theorem dW_912 : decode code 912 = .ok (.ifCond .eq 5, 3) := by decide +kernel
theorem dW_917 : decode code 917 = .ok (.goto 1143, 3) := by decide +kernel
theorem dW_920 : decode code 920 = .ok (.aload_n 1, 1) := by decide +kernel
theorem dW_921 : decode code 921 = .ok (.aload_n 0, 1) := by decide +kernel
theorem dW_922 : decode code 922 = .ok (.iload 4, 2) := by decide +kernel
theorem dW_924 : decode code 924 = .ok (.iconst 1, 1) := by decide +kernel
theorem dW_925 : decode code 925 = .ok (.iadd, 1) := by decide +kernel
theorem dW_926 : decode code 926 = .ok (.iaload, 1) := by decide +kernel
theorem dW_927 : decode code 927 = .ok (.aload_n 3, 1) := by decide +kernel
theorem dW_928 : decode code 928 = .ok (.invokestatic 150, 3) := by decide +kernel
theorem dW_931 : decode code 931 = .ok (.istore 5, 2) := by decide +kernel
theorem dW_933 : decode code 933 = .ok (.aload_n 2, 1) := by decide +kernel
theorem dW_934 : decode code 934 = .ok (.aload_n 0, 1) := by decide +kernel
theorem dW_935 : decode code 935 = .ok (.iload 4, 2) := by decide +kernel
theorem dW_937 : decode code 937 = .ok (.iconst 1, 1) := by decide +kernel
theorem dW_938 : decode code 938 = .ok (.iadd, 1) := by decide +kernel
theorem dW_939 : decode code 939 = .ok (.iaload, 1) := by decide +kernel
theorem dW_940 : decode code 940 = .ok (.invokevirtual 152, 3) := by decide +kernel
theorem dW_943 : decode code 943 = .ok (.istore 6, 2) := by decide +kernel
theorem dW_945 : decode code 945 = .ok (.aload_n 2, 1) := by decide +kernel
theorem dW_946 : decode code 946 = .ok (.invokevirtual 107, 3) := by decide +kernel
theorem dW_949 : decode code 949 = .ok (.iload 5, 2) := by decide +kernel
theorem dW_951 : decode code 951 = .ok (.if_icmp .eq 5, 3) := by decide +kernel
theorem dW_956 : decode code 956 = .ok (.iload 5, 2) := by decide +kernel
theorem dW_958 : decode code 958 = .ok (.ifCond .ne 15, 3) := by decide +kernel
theorem dW_961 : decode code 961 = .ok (.aload_n 3, 1) := by decide +kernel
theorem dW_962 : decode code 962 = .ok (.iconst 0, 1) := by decide +kernel
theorem dW_963 : decode code 963 = .ok (.laload, 1) := by decide +kernel
theorem dW_964 : decode code 964 = .ok (.iload 6, 2) := by decide +kernel
theorem dW_966 : decode code 966 = .ok (.i2l, 1) := by decide +kernel
theorem dW_967 : decode code 967 = .ok (.lcmp, 1) := by decide +kernel
theorem dW_968 : decode code 968 = .ok (.ifCond .eq 5, 3) := by decide +kernel
theorem dW_973 : decode code 973 = .ok (.goto 1087, 3) := by decide +kernel
theorem dW_976 : decode code 976 = .ok (.aload_n 1, 1) := by decide +kernel
theorem dW_977 : decode code 977 = .ok (.aload_n 0, 1) := by decide +kernel
theorem dW_978 : decode code 978 = .ok (.iload 4, 2) := by decide +kernel
theorem dW_980 : decode code 980 = .ok (.iconst 1, 1) := by decide +kernel
theorem dW_981 : decode code 981 = .ok (.iadd, 1) := by decide +kernel
theorem dW_982 : decode code 982 = .ok (.iaload, 1) := by decide +kernel
theorem dW_983 : decode code 983 = .ok (.aload_n 0, 1) := by decide +kernel
theorem dW_984 : decode code 984 = .ok (.iload 4, 2) := by decide +kernel
theorem dW_986 : decode code 986 = .ok (.iconst 2, 1) := by decide +kernel
theorem dW_987 : decode code 987 = .ok (.iadd, 1) := by decide +kernel
theorem dW_988 : decode code 988 = .ok (.iaload, 1) := by decide +kernel
theorem dW_989 : decode code 989 = .ok (.aload_n 0, 1) := by decide +kernel
theorem dW_990 : decode code 990 = .ok (.iload 4, 2) := by decide +kernel
theorem dW_992 : decode code 992 = .ok (.iconst 3, 1) := by decide +kernel
theorem dW_993 : decode code 993 = .ok (.iadd, 1) := by decide +kernel
theorem dW_994 : decode code 994 = .ok (.iaload, 1) := by decide +kernel
theorem dW_995 : decode code 995 = .ok (.aload_n 3, 1) := by decide +kernel
theorem dW_996 : decode code 996 = .ok (.invokestatic 153, 3) := by decide +kernel
theorem dW_999 : decode code 999 = .ok (.istore 5, 2) := by decide +kernel
theorem dW_1001 : decode code 1001 = .ok (.aload_n 2, 1) := by decide +kernel
theorem dW_1002 : decode code 1002 = .ok (.aload_n 0, 1) := by decide +kernel
theorem dW_1003 : decode code 1003 = .ok (.iload 4, 2) := by decide +kernel
theorem dW_1005 : decode code 1005 = .ok (.iconst 1, 1) := by decide +kernel
theorem dW_1006 : decode code 1006 = .ok (.iadd, 1) := by decide +kernel
theorem dW_1007 : decode code 1007 = .ok (.iaload, 1) := by decide +kernel
theorem dW_1008 : decode code 1008 = .ok (.aload_n 0, 1) := by decide +kernel
theorem dW_1009 : decode code 1009 = .ok (.iload 4, 2) := by decide +kernel
theorem dW_1011 : decode code 1011 = .ok (.iconst 2, 1) := by decide +kernel
theorem dW_1012 : decode code 1012 = .ok (.iadd, 1) := by decide +kernel
theorem dW_1013 : decode code 1013 = .ok (.iaload, 1) := by decide +kernel
theorem dW_1014 : decode code 1014 = .ok (.aload_n 0, 1) := by decide +kernel
theorem dW_1015 : decode code 1015 = .ok (.iload 4, 2) := by decide +kernel
theorem dW_1017 : decode code 1017 = .ok (.iconst 3, 1) := by decide +kernel
theorem dW_1018 : decode code 1018 = .ok (.iadd, 1) := by decide +kernel
theorem dW_1019 : decode code 1019 = .ok (.iaload, 1) := by decide +kernel
theorem dW_1020 : decode code 1020 = .ok (.invokevirtual 155, 3) := by decide +kernel
theorem dW_1023 : decode code 1023 = .ok (.istore 6, 2) := by decide +kernel
theorem dW_1025 : decode code 1025 = .ok (.aload_n 2, 1) := by decide +kernel
theorem dW_1026 : decode code 1026 = .ok (.invokevirtual 107, 3) := by decide +kernel
theorem dW_1029 : decode code 1029 = .ok (.iload 5, 2) := by decide +kernel
theorem dW_1031 : decode code 1031 = .ok (.if_icmp .eq 5, 3) := by decide +kernel
theorem dW_1036 : decode code 1036 = .ok (.iload 5, 2) := by decide +kernel
theorem dW_1038 : decode code 1038 = .ok (.ifCond .ne 15, 3) := by decide +kernel
theorem dW_1041 : decode code 1041 = .ok (.aload_n 3, 1) := by decide +kernel
theorem dW_1042 : decode code 1042 = .ok (.iconst 0, 1) := by decide +kernel
theorem dW_1043 : decode code 1043 = .ok (.laload, 1) := by decide +kernel
theorem dW_1044 : decode code 1044 = .ok (.iload 6, 2) := by decide +kernel
theorem dW_1046 : decode code 1046 = .ok (.i2l, 1) := by decide +kernel
theorem dW_1047 : decode code 1047 = .ok (.lcmp, 1) := by decide +kernel
theorem dW_1048 : decode code 1048 = .ok (.ifCond .eq 5, 3) := by decide +kernel
theorem dW_1053 : decode code 1053 = .ok (.goto 1007, 3) := by decide +kernel
theorem dW_1056 : decode code 1056 = .ok (.aload_n 1, 1) := by decide +kernel
theorem dW_1057 : decode code 1057 = .ok (.aload_n 0, 1) := by decide +kernel
theorem dW_1058 : decode code 1058 = .ok (.iload 4, 2) := by decide +kernel
theorem dW_1060 : decode code 1060 = .ok (.iconst 1, 1) := by decide +kernel
theorem dW_1061 : decode code 1061 = .ok (.iadd, 1) := by decide +kernel
theorem dW_1062 : decode code 1062 = .ok (.iaload, 1) := by decide +kernel
theorem dW_1063 : decode code 1063 = .ok (.aload_n 0, 1) := by decide +kernel
theorem dW_1064 : decode code 1064 = .ok (.iload 4, 2) := by decide +kernel
theorem dW_1066 : decode code 1066 = .ok (.iconst 2, 1) := by decide +kernel
theorem dW_1067 : decode code 1067 = .ok (.iadd, 1) := by decide +kernel
theorem dW_1068 : decode code 1068 = .ok (.iaload, 1) := by decide +kernel
theorem dW_1069 : decode code 1069 = .ok (.aload_n 0, 1) := by decide +kernel
theorem dW_1070 : decode code 1070 = .ok (.iload 4, 2) := by decide +kernel
theorem dW_1072 : decode code 1072 = .ok (.iconst 3, 1) := by decide +kernel
theorem dW_1073 : decode code 1073 = .ok (.iadd, 1) := by decide +kernel
theorem dW_1074 : decode code 1074 = .ok (.iaload, 1) := by decide +kernel
theorem dW_1075 : decode code 1075 = .ok (.aload_n 0, 1) := by decide +kernel
theorem dW_1076 : decode code 1076 = .ok (.iload 4, 2) := by decide +kernel
theorem dW_1078 : decode code 1078 = .ok (.iconst 4, 1) := by decide +kernel
theorem dW_1079 : decode code 1079 = .ok (.iadd, 1) := by decide +kernel
theorem dW_1080 : decode code 1080 = .ok (.iaload, 1) := by decide +kernel
theorem dW_1081 : decode code 1081 = .ok (.aload_n 0, 1) := by decide +kernel
theorem dW_1082 : decode code 1082 = .ok (.iload 4, 2) := by decide +kernel
theorem dW_1084 : decode code 1084 = .ok (.iconst 5, 1) := by decide +kernel
theorem dW_1085 : decode code 1085 = .ok (.iadd, 1) := by decide +kernel
theorem dW_1086 : decode code 1086 = .ok (.iaload, 1) := by decide +kernel
theorem dW_1087 : decode code 1087 = .ok (.aload_n 3, 1) := by decide +kernel
theorem dW_1088 : decode code 1088 = .ok (.invokestatic 156, 3) := by decide +kernel
theorem dW_1091 : decode code 1091 = .ok (.istore 5, 2) := by decide +kernel
theorem dW_1093 : decode code 1093 = .ok (.aload_n 2, 1) := by decide +kernel
theorem dW_1094 : decode code 1094 = .ok (.aload_n 0, 1) := by decide +kernel
theorem dW_1095 : decode code 1095 = .ok (.iload 4, 2) := by decide +kernel
theorem dW_1097 : decode code 1097 = .ok (.iconst 1, 1) := by decide +kernel
theorem dW_1098 : decode code 1098 = .ok (.iadd, 1) := by decide +kernel
theorem dW_1099 : decode code 1099 = .ok (.iaload, 1) := by decide +kernel
theorem dW_1100 : decode code 1100 = .ok (.aload_n 0, 1) := by decide +kernel
theorem dW_1101 : decode code 1101 = .ok (.iload 4, 2) := by decide +kernel
theorem dW_1103 : decode code 1103 = .ok (.iconst 2, 1) := by decide +kernel
theorem dW_1104 : decode code 1104 = .ok (.iadd, 1) := by decide +kernel
theorem dW_1105 : decode code 1105 = .ok (.iaload, 1) := by decide +kernel
theorem dW_1106 : decode code 1106 = .ok (.aload_n 0, 1) := by decide +kernel
theorem dW_1107 : decode code 1107 = .ok (.iload 4, 2) := by decide +kernel
theorem dW_1109 : decode code 1109 = .ok (.iconst 3, 1) := by decide +kernel
theorem dW_1110 : decode code 1110 = .ok (.iadd, 1) := by decide +kernel
theorem dW_1111 : decode code 1111 = .ok (.iaload, 1) := by decide +kernel
theorem dW_1112 : decode code 1112 = .ok (.aload_n 0, 1) := by decide +kernel
theorem dW_1113 : decode code 1113 = .ok (.iload 4, 2) := by decide +kernel
theorem dW_1115 : decode code 1115 = .ok (.iconst 4, 1) := by decide +kernel
theorem dW_1116 : decode code 1116 = .ok (.iadd, 1) := by decide +kernel
theorem dW_1117 : decode code 1117 = .ok (.iaload, 1) := by decide +kernel
theorem dW_1118 : decode code 1118 = .ok (.aload_n 0, 1) := by decide +kernel
theorem dW_1119 : decode code 1119 = .ok (.iload 4, 2) := by decide +kernel
theorem dW_1121 : decode code 1121 = .ok (.iconst 5, 1) := by decide +kernel
theorem dW_1122 : decode code 1122 = .ok (.iadd, 1) := by decide +kernel
theorem dW_1123 : decode code 1123 = .ok (.iaload, 1) := by decide +kernel
theorem dW_1124 : decode code 1124 = .ok (.invokevirtual 159, 3) := by decide +kernel
theorem dW_1127 : decode code 1127 = .ok (.istore 6, 2) := by decide +kernel
theorem dW_1129 : decode code 1129 = .ok (.aload_n 2, 1) := by decide +kernel
theorem dW_1130 : decode code 1130 = .ok (.invokevirtual 107, 3) := by decide +kernel
theorem dW_1133 : decode code 1133 = .ok (.iload 5, 2) := by decide +kernel
theorem dW_1135 : decode code 1135 = .ok (.if_icmp .eq 5, 3) := by decide +kernel
theorem dW_1140 : decode code 1140 = .ok (.iload 5, 2) := by decide +kernel
theorem dW_1142 : decode code 1142 = .ok (.ifCond .ne 15, 3) := by decide +kernel
theorem dW_1145 : decode code 1145 = .ok (.aload_n 3, 1) := by decide +kernel
theorem dW_1146 : decode code 1146 = .ok (.iconst 0, 1) := by decide +kernel
theorem dW_1147 : decode code 1147 = .ok (.laload, 1) := by decide +kernel
theorem dW_1148 : decode code 1148 = .ok (.iload 6, 2) := by decide +kernel
theorem dW_1150 : decode code 1150 = .ok (.i2l, 1) := by decide +kernel
theorem dW_1151 : decode code 1151 = .ok (.lcmp, 1) := by decide +kernel
theorem dW_1152 : decode code 1152 = .ok (.ifCond .eq 5, 3) := by decide +kernel
theorem dW_1157 : decode code 1157 = .ok (.goto 903, 3) := by decide +kernel
section YLA
variable {x : yC} {l : Launch} {g : yG} {b L : Nat} {xs : Nat → Int32} {Q : State → Prop} {n : Nat} {σ : yM} {cells slots : Nat}
set_option maxHeartbeats 4000000 in
set_option maxRecDepth 100000 in
theorem zc_rank (E : zE x l g b L xs) {N : Int} {A : aA} (G : zG N σ A) (hN0 : 0 ≤ N) (hN : N ≤ 400000000) (hn : 172 ≤ n) {i : Int} (hi : 0 ≤ i ∧ i + 6 ≤ (L : Int)) (hc : cells + 408 ≤ 601024) (hs : slots + 3660 ≤ 7293033) (k : zK x g b Q n N cells slots i) : yV x g 7 Q (SC g) n σ cells slots 840 (zL g b i) [] := by
  obtain ⟨w, h, ⟨T, S, F, P, O, nf, df, nl, lg⟩, ⟨s, re, fo, ra, tu, we, sh⟩, H, ht, K, tl, tb, fa, r1, r2⟩ := A
  obtain ⟨hC, hM, hW⟩ := G
  have hF := E.1
  have ZN := hN0
  refine y_aload_n (pc := 840) hF dW_840 1 rfl ?_
  refine zl_arg (pc := 841) E dW_841 dW_842 dW_844 dW_845 dW_846 rfl rfl (by omega) ?_
  refine zl_arg (pc := 847) E dW_847 dW_848 dW_850 dW_851 dW_852 rfl rfl (by omega) ?_
  refine zl_arg (pc := 853) E dW_853 dW_854 dW_856 dW_857 dW_858 rfl rfl (by omega) ?_
  refine y_aload_n (pc := 859) hF dW_859 3 rfl ?_
  refine y_ci (cells' := cells + 4) (slots' := slots + 24) (y_rSL (pc := 860) (na := 5) hF E.2.1 E.2.2.1 (tL_rank E.2.2.2.1 hn _ _ _ _ _ _ _ _ _ _ _ _ _ _ _ _ _ _ _ _ _ _ _ _ _ _ _ hC hW (zA xs i 1) (zA xs i 2) (zA xs i 3) (zA_r xs i 1) (zA_r xs i 2) (zA_r xs i 3)) dW_860 w_1026 w_1027 wl_rank w_85 ⟨by decide, by decide, by decide +kernel⟩ rfl ⟨Nat.le_of_ble_eq_true rfl, Nat.le_of_ble_eq_true rfl⟩ ⟨by show cells + 4 ≤ 601024; omega, by show slots + 24 ≤ 7293033; omega⟩ (Nat.le_of_ble_eq_true rfl) rfl (rest := [])) rfl rfl (fun zk n1 σ1 z1 => ?_)
  refine y_istore (pc := 863) (lv' := zL5 g b i zk) hF dW_863 (by decide) rfl rfl ?_
  have hn1 := Nat.le_trans hn z1.1
  have zM := mV_cG hM z1.2.1
  refine y_aload_n (pc := 865) hF dW_865 2 rfl ?_
  refine zl_arg (pc := 866) E dW_866 dW_867 dW_869 dW_870 dW_871 rfl rfl (by omega) ?_
  refine zl_arg (pc := 872) E dW_872 dW_873 dW_875 dW_876 dW_877 rfl rfl (by omega) ?_
  refine zl_arg (pc := 878) E dW_878 dW_879 dW_881 dW_882 dW_883 rfl rfl (by omega) ?_
  refine y_ci (cells' := cells + 4) (slots' := slots + 24) (y_rV (pc := 884) (rest := []) hF (tX11_rank hn1 _ _ _ _ _ _ _ _ _ _ _ _ _ _ _ _ _ _ _ _ _ _ _ _ _ _ _ zM hW (zA xs i 1) (zA xs i 2) (zA xs i 3) (zA_r xs i 1) (zA_r xs i 2) (zA_r xs i 3)) dW_884 (by omega) rfl rfl rfl w_1663 qX11_rank rfl ⟨Nat.le_of_ble_eq_true rfl, Nat.le_of_ble_eq_true rfl⟩ ⟨by show cells + 4 ≤ 601024; omega, by show slots + 24 ≤ 7293033; omega⟩ (Nat.le_of_ble_eq_true rfl) rfl) rfl rfl (fun zb n2 σ2 z2 => ?_)
  refine y_istore (pc := 887) (lv' := zL6 g b i zk zb) hF dW_887 (by decide) rfl rfl ?_
  have hn2 := Nat.le_trans hn1 z2.1
  have hn3 := Nat.le_trans z1.1 z2.1
  have zt : ∃ A' : aA, zk = σ2 155 0 ∧ (0 ≤ zk ∧ zk ≤ 2) ∧ (zk = 0 → σ2 171 0 = wr zb) ∧ zG (N + 400) σ2 A' := by
    obtain ⟨_, zg, z1⟩ := z1
    obtain ⟨_, z2⟩ := z2
    rcases z1 with ⟨q, rfl, q2, q3⟩ | ⟨q, rfl, q3⟩ | ⟨q, q0, rfl, q3⟩
    · rcases z2 with ⟨p, p0, p1, p2⟩ | ⟨p, p2⟩ | ⟨p, p0, p2⟩
      · exact ⟨_, p2.2.1.symm, (by decide), (fun _ => by rw [p2.1 171 (Or.inr rfl), q2, p1]), cV_mF q3 p2.1, p2.2.2, aW_up hW (by omega)⟩
      · exact absurd q.1 p
      · exact absurd q.2 p0
    · rcases z2 with ⟨p, p0, p1, p2⟩ | ⟨p, p2⟩ | ⟨p, p0, p2⟩
      · exact absurd p q
      · exact ⟨_, p2.2.1.symm, (by decide), (fun z => absurd z (by decide)), cV_mF q3 p2.1, p2.2.2, aW_up (aW_bN hW) (by omega)⟩
      · exact absurd p q
    · rcases z2 with ⟨p, p0, p1, p2⟩ | ⟨p, p2⟩ | ⟨p, p0, p2⟩
      · exact absurd p0 q0
      · exact absurd q p
      · exact ⟨_, p2.2.1.symm, (by decide), (fun z => absurd z (by decide)), cV_mF q3 p2.1, p2.2.2, aW_up (aW_bA hW) (by omega)⟩
  obtain ⟨A', t1, t2, t3, t4⟩ := zt
  exact zl_tail (pc := 889) E dW_889 dW_890 dW_893 dW_895 dW_900 dW_902 dW_905 dW_906 dW_907 dW_908 dW_910 dW_911 dW_912 dW_917 rfl t1 t2 t3 hn2 (by omega) (by omega) (y_wid (by omega) (by omega) (k n2 σ2 A' hn3 t4))
set_option maxHeartbeats 4000000 in
set_option maxRecDepth 100000 in
theorem zc_next (E : zE x l g b L xs) {N : Int} {A : aA} (G : zG N σ A) (hN0 : 0 ≤ N) (hN : N ≤ 400000000) (hn : 172 ≤ n) {i : Int} (hi : 0 ≤ i ∧ i + 6 ≤ (L : Int)) (hc : cells + 408 ≤ 601024) (hs : slots + 3660 ≤ 7293033) (k : zK x g b Q n N cells slots i) : yV x g 7 Q (SC g) n σ cells slots 920 (zL g b i) [] := by
  obtain ⟨w, h, ⟨T, S, F, P, O, nf, df, nl, lg⟩, ⟨s, re, fo, ra, tu, we, sh⟩, H, ht, K, tl, tb, fa, r1, r2⟩ := A
  obtain ⟨hC, hM, hW⟩ := G
  have hF := E.1
  have ZN := hN0
  refine y_aload_n (pc := 920) hF dW_920 1 rfl ?_
  refine zl_arg (pc := 921) E dW_921 dW_922 dW_924 dW_925 dW_926 rfl rfl (by omega) ?_
  refine y_aload_n (pc := 927) hF dW_927 3 rfl ?_
  refine y_ci (cells' := cells + 4) (slots' := slots + 24) (y_rSL (pc := 928) (na := 3) hF E.2.1 E.2.2.1 (tL_next E.2.2.2.1 hn _ _ _ _ _ _ _ _ _ _ _ _ _ _ _ _ _ _ _ _ _ _ _ _ _ _ _ hC hW (zA xs i 1) (zA_r xs i 1)) dW_928 w_1035 w_1036 wl_next w_85 ⟨by decide, by decide, by decide +kernel⟩ rfl ⟨Nat.le_of_ble_eq_true rfl, Nat.le_of_ble_eq_true rfl⟩ ⟨by show cells + 4 ≤ 601024; omega, by show slots + 24 ≤ 7293033; omega⟩ (Nat.le_of_ble_eq_true rfl) rfl (rest := [])) rfl rfl (fun zk n1 σ1 z1 => ?_)
  refine y_istore (pc := 931) (lv' := zL5 g b i zk) hF dW_931 (by decide) rfl rfl ?_
  have hn1 := Nat.le_trans hn z1.1
  have zM := mV_cG hM z1.2.1
  refine y_aload_n (pc := 933) hF dW_933 2 rfl ?_
  refine zl_arg (pc := 934) E dW_934 dW_935 dW_937 dW_938 dW_939 rfl rfl (by omega) ?_
  refine y_ci (cells' := cells + 4) (slots' := slots + 24) (y_rV (pc := 940) (rest := []) hF (tX11_next hn1 _ _ _ _ _ _ _ _ _ _ _ _ _ _ _ _ _ _ _ _ _ _ _ _ _ _ _ zM hW (zA xs i 1) (zA_r xs i 1)) dW_940 (by omega) rfl rfl rfl w_1667 qX11_next rfl ⟨Nat.le_of_ble_eq_true rfl, Nat.le_of_ble_eq_true rfl⟩ ⟨by show cells + 4 ≤ 601024; omega, by show slots + 24 ≤ 7293033; omega⟩ (Nat.le_of_ble_eq_true rfl) rfl) rfl rfl (fun zb n2 σ2 z2 => ?_)
  refine y_istore (pc := 943) (lv' := zL6 g b i zk zb) hF dW_943 (by decide) rfl rfl ?_
  have hn2 := Nat.le_trans hn1 z2.1
  have hn3 := Nat.le_trans z1.1 z2.1
  have zt : ∃ A' : aA, zk = σ2 155 0 ∧ (0 ≤ zk ∧ zk ≤ 2) ∧ (zk = 0 → σ2 171 0 = wr zb) ∧ zG (N + 400) σ2 A' := by
    obtain ⟨_, zg, z1⟩ := z1
    obtain ⟨_, z2⟩ := z2
    rcases z1 with ⟨q, rfl, q2, q3⟩ | ⟨q, rfl, q3⟩
    · rcases z2 with ⟨p, p1, p2⟩ | ⟨p, p2⟩
      · exact ⟨_, p2.2.1.symm, (by decide), (fun _ => by rw [p2.1 171 (Or.inr rfl), q2, p1]), cV_mF q3 p2.1, p2.2.2, aW_up hW (by omega)⟩
      · exact absurd q p
    · rcases z2 with ⟨p, p1, p2⟩ | ⟨p, p2⟩
      · exact absurd p q
      · exact ⟨_, p2.2.1.symm, (by decide), (fun z => absurd z (by decide)), cV_mF q3 p2.1, p2.2.2, aW_up (aW_bA hW) (by omega)⟩
  obtain ⟨A', t1, t2, t3, t4⟩ := zt
  exact zl_tail (pc := 945) E dW_945 dW_946 dW_949 dW_951 dW_956 dW_958 dW_961 dW_962 dW_963 dW_964 dW_966 dW_967 dW_968 dW_973 rfl t1 t2 t3 hn2 (by omega) (by omega) (y_wid (by omega) (by omega) (k n2 σ2 A' hn3 t4))
set_option maxHeartbeats 4000000 in
set_option maxRecDepth 100000 in
theorem zc_search (E : zE x l g b L xs) {N : Int} {A : aA} (G : zG N σ A) (hN0 : 0 ≤ N) (hN : N ≤ 400000000) (hn : 172 ≤ n) {i : Int} (hi : 0 ≤ i ∧ i + 6 ≤ (L : Int)) (hc : cells + 408 ≤ 601024) (hs : slots + 3660 ≤ 7293033) (k : zK x g b Q n N cells slots i) : yV x g 7 Q (SC g) n σ cells slots 976 (zL g b i) [] := by
  obtain ⟨w, h, ⟨T, S, F, P, O, nf, df, nl, lg⟩, ⟨s, re, fo, ra, tu, we, sh⟩, H, ht, K, tl, tb, fa, r1, r2⟩ := A
  obtain ⟨hC, hM, hW⟩ := G
  have hF := E.1
  have ZN := hN0
  refine y_aload_n (pc := 976) hF dW_976 1 rfl ?_
  refine zl_arg (pc := 977) E dW_977 dW_978 dW_980 dW_981 dW_982 rfl rfl (by omega) ?_
  refine zl_arg (pc := 983) E dW_983 dW_984 dW_986 dW_987 dW_988 rfl rfl (by omega) ?_
  refine zl_arg (pc := 989) E dW_989 dW_990 dW_992 dW_993 dW_994 rfl rfl (by omega) ?_
  refine y_aload_n (pc := 995) hF dW_995 3 rfl ?_
  refine y_ci (cells' := cells + 4) (slots' := slots + 24) (y_rSL (pc := 996) (na := 5) hF E.2.1 E.2.2.1 (tL_search E.2.2.2.1 hn _ _ _ _ _ _ _ _ _ _ _ _ _ _ _ _ _ _ _ _ _ _ _ _ _ _ _ hC hW (zA xs i 1) (zA xs i 2) (zA xs i 3) (zA_r xs i 1) (zA_r xs i 2) (zA_r xs i 3)) dW_996 w_1050 w_1051 wl_search w_85 ⟨by decide, by decide, by decide +kernel⟩ rfl ⟨Nat.le_of_ble_eq_true rfl, Nat.le_of_ble_eq_true rfl⟩ ⟨by show cells + 4 ≤ 601024; omega, by show slots + 24 ≤ 7293033; omega⟩ (Nat.le_of_ble_eq_true rfl) rfl (rest := [])) rfl rfl (fun zk n1 σ1 z1 => ?_)
  refine y_istore (pc := 999) (lv' := zL5 g b i zk) hF dW_999 (by decide) rfl rfl ?_
  have hn1 := Nat.le_trans hn z1.1
  have zM := mV_cG hM z1.2.1
  refine y_aload_n (pc := 1001) hF dW_1001 2 rfl ?_
  refine zl_arg (pc := 1002) E dW_1002 dW_1003 dW_1005 dW_1006 dW_1007 rfl rfl (by omega) ?_
  refine zl_arg (pc := 1008) E dW_1008 dW_1009 dW_1011 dW_1012 dW_1013 rfl rfl (by omega) ?_
  refine zl_arg (pc := 1014) E dW_1014 dW_1015 dW_1017 dW_1018 dW_1019 rfl rfl (by omega) ?_
  refine y_ci (cells' := cells + 4) (slots' := slots + 24) (y_rV (pc := 1020) (rest := []) hF (tX11_search hn1 _ _ _ _ _ _ _ _ _ _ _ _ _ _ _ _ _ _ _ _ _ _ _ _ _ _ _ zM hW (zA xs i 1) (zA xs i 2) (zA xs i 3) (zA_r xs i 1) (zA_r xs i 2) (zA_r xs i 3)) dW_1020 (by omega) rfl rfl rfl w_1671 qX11_search rfl ⟨Nat.le_of_ble_eq_true rfl, Nat.le_of_ble_eq_true rfl⟩ ⟨by show cells + 4 ≤ 601024; omega, by show slots + 24 ≤ 7293033; omega⟩ (Nat.le_of_ble_eq_true rfl) rfl) rfl rfl (fun zb n2 σ2 z2 => ?_)
  refine y_istore (pc := 1023) (lv' := zL6 g b i zk zb) hF dW_1023 (by decide) rfl rfl ?_
  have hn2 := Nat.le_trans hn1 z2.1
  have hn3 := Nat.le_trans z1.1 z2.1
  have zt : ∃ A' : aA, zk = σ2 155 0 ∧ (0 ≤ zk ∧ zk ≤ 2) ∧ (zk = 0 → σ2 171 0 = wr zb) ∧ zG (N + 400) σ2 A' := by
    obtain ⟨_, zg, z1⟩ := z1
    obtain ⟨_, z2⟩ := z2
    rcases z1 with ⟨q, rfl, q2, q3⟩ | ⟨q, rfl, q3⟩ | ⟨q, q0, rfl, q3⟩
    · rcases z2 with ⟨p, p0, p1, p2⟩ | ⟨p, p2⟩ | ⟨p, p0, p2⟩
      · exact ⟨_, p2.2.1.symm, (by decide), (fun _ => by rw [p2.1 171 (Or.inr rfl), q2, p1]), cV_mF q3 p2.1, p2.2.2, aW_up hW (by omega)⟩
      · exact absurd q.1 p
      · exact absurd q.2 p0
    · rcases z2 with ⟨p, p0, p1, p2⟩ | ⟨p, p2⟩ | ⟨p, p0, p2⟩
      · exact absurd p q
      · exact ⟨_, p2.2.1.symm, (by decide), (fun z => absurd z (by decide)), cV_mF q3 p2.1, p2.2.2, aW_up (aW_bN hW) (by omega)⟩
      · exact absurd p q
    · rcases z2 with ⟨p, p0, p1, p2⟩ | ⟨p, p2⟩ | ⟨p, p0, p2⟩
      · exact absurd p0 q0
      · exact absurd q p
      · exact ⟨_, p2.2.1.symm, (by decide), (fun z => absurd z (by decide)), cV_mF q3 p2.1, p2.2.2, aW_up (aW_bA hW) (by omega)⟩
  obtain ⟨A', t1, t2, t3, t4⟩ := zt
  exact zl_tail (pc := 1025) E dW_1025 dW_1026 dW_1029 dW_1031 dW_1036 dW_1038 dW_1041 dW_1042 dW_1043 dW_1044 dW_1046 dW_1047 dW_1048 dW_1053 rfl t1 t2 t3 hn2 (by omega) (by omega) (y_wid (by omega) (by omega) (k n2 σ2 A' hn3 t4))
set_option maxHeartbeats 4000000 in
set_option maxRecDepth 100000 in
theorem zc_difference (E : zE x l g b L xs) {N : Int} {A : aA} (G : zG N σ A) (hN0 : 0 ≤ N) (hN : N ≤ 400000000) (hn : 172 ≤ n) {i : Int} (hi : 0 ≤ i ∧ i + 6 ≤ (L : Int)) (hc : cells + 408 ≤ 601024) (hs : slots + 3660 ≤ 7293033) (k : zK x g b Q n N cells slots i) : yV x g 7 Q (SC g) n σ cells slots 1056 (zL g b i) [] := by
  obtain ⟨w, h, ⟨T, S, F, P, O, nf, df, nl, lg⟩, ⟨s, re, fo, ra, tu, we, sh⟩, H, ht, K, tl, tb, fa, r1, r2⟩ := A
  obtain ⟨hC, hM, hW⟩ := G
  have hF := E.1
  have ZN := hN0
  refine y_aload_n (pc := 1056) hF dW_1056 1 rfl ?_
  refine zl_arg (pc := 1057) E dW_1057 dW_1058 dW_1060 dW_1061 dW_1062 rfl rfl (by omega) ?_
  refine zl_arg (pc := 1063) E dW_1063 dW_1064 dW_1066 dW_1067 dW_1068 rfl rfl (by omega) ?_
  refine zl_arg (pc := 1069) E dW_1069 dW_1070 dW_1072 dW_1073 dW_1074 rfl rfl (by omega) ?_
  refine zl_arg (pc := 1075) E dW_1075 dW_1076 dW_1078 dW_1079 dW_1080 rfl rfl (by omega) ?_
  refine zl_arg (pc := 1081) E dW_1081 dW_1082 dW_1084 dW_1085 dW_1086 rfl rfl (by omega) ?_
  refine y_aload_n (pc := 1087) hF dW_1087 3 rfl ?_
  refine y_ci (cells' := cells + 4) (slots' := slots + 24) (y_rSL (pc := 1088) (na := 7) hF E.2.1 E.2.2.1 (tL_difference E.2.2.2.1 hn _ _ _ _ _ _ _ _ _ _ _ _ _ _ _ _ _ _ _ _ _ _ _ _ _ _ _ hC hW (zA xs i 1) (zA xs i 2) (zA xs i 3) (zA xs i 4) (zA xs i 5) (zA_r xs i 1) (zA_r xs i 2) (zA_r xs i 3) (zA_r xs i 4) (zA_r xs i 5)) dW_1088 w_1057 w_1058 wl_difference w_85 ⟨by decide, by decide, by decide +kernel⟩ rfl ⟨Nat.le_of_ble_eq_true rfl, Nat.le_of_ble_eq_true rfl⟩ ⟨by show cells + 4 ≤ 601024; omega, by show slots + 24 ≤ 7293033; omega⟩ (Nat.le_of_ble_eq_true rfl) rfl (rest := [])) rfl rfl (fun zk n1 σ1 z1 => ?_)
  refine y_istore (pc := 1091) (lv' := zL5 g b i zk) hF dW_1091 (by decide) rfl rfl ?_
  have hn1 := Nat.le_trans hn z1.1
  have zM := mV_cG hM z1.2.1
  refine y_aload_n (pc := 1093) hF dW_1093 2 rfl ?_
  refine zl_arg (pc := 1094) E dW_1094 dW_1095 dW_1097 dW_1098 dW_1099 rfl rfl (by omega) ?_
  refine zl_arg (pc := 1100) E dW_1100 dW_1101 dW_1103 dW_1104 dW_1105 rfl rfl (by omega) ?_
  refine zl_arg (pc := 1106) E dW_1106 dW_1107 dW_1109 dW_1110 dW_1111 rfl rfl (by omega) ?_
  refine zl_arg (pc := 1112) E dW_1112 dW_1113 dW_1115 dW_1116 dW_1117 rfl rfl (by omega) ?_
  refine zl_arg (pc := 1118) E dW_1118 dW_1119 dW_1121 dW_1122 dW_1123 rfl rfl (by omega) ?_
  refine y_ci (cells' := cells + 4) (slots' := slots + 24) (y_rV (pc := 1124) (rest := []) hF (tX11_difference hn1 _ _ _ _ _ _ _ _ _ _ _ _ _ _ _ _ _ _ _ _ _ _ _ _ _ _ _ zM hW (zA xs i 1) (zA xs i 2) (zA xs i 3) (zA xs i 4) (zA xs i 5) (zA_r xs i 1) (zA_r xs i 2) (zA_r xs i 3) (zA_r xs i 4) (zA_r xs i 5)) dW_1124 (by omega) rfl rfl rfl w_1675 qX11_difference rfl ⟨Nat.le_of_ble_eq_true rfl, Nat.le_of_ble_eq_true rfl⟩ ⟨by show cells + 4 ≤ 601024; omega, by show slots + 24 ≤ 7293033; omega⟩ (Nat.le_of_ble_eq_true rfl) rfl) rfl rfl (fun zb n2 σ2 z2 => ?_)
  refine y_istore (pc := 1127) (lv' := zL6 g b i zk zb) hF dW_1127 (by decide) rfl rfl ?_
  have hn2 := Nat.le_trans hn1 z2.1
  have hn3 := Nat.le_trans z1.1 z2.1
  have zt : ∃ A' : aA, zk = σ2 155 0 ∧ (0 ≤ zk ∧ zk ≤ 2) ∧ (zk = 0 → σ2 171 0 = wr zb) ∧ zG (N + 400) σ2 A' := by
    obtain ⟨_, zg, z1⟩ := z1
    obtain ⟨_, z2⟩ := z2
    rcases z1 with ⟨q, rfl, q2, q3⟩ | ⟨q, rfl, q3⟩ | ⟨q, q0, rfl, q3⟩
    · rcases z2 with ⟨p, p0, p1, p2⟩ | ⟨p, p2⟩ | ⟨p, p0, p2⟩
      · exact ⟨_, p2.2.1.symm, (by decide), (fun _ => by rw [p2.1 171 (Or.inr rfl), q2, p1]), cV_mF q3 p2.1, p2.2.2, aW_up hW (by omega)⟩
      · exact absurd q.1 p
      · exact absurd q.2 p0
    · rcases z2 with ⟨p, p0, p1, p2⟩ | ⟨p, p2⟩ | ⟨p, p0, p2⟩
      · exact absurd p q
      · exact ⟨_, p2.2.1.symm, (by decide), (fun z => absurd z (by decide)), cV_mF q3 p2.1, p2.2.2, aW_up (aW_bN hW) (by omega)⟩
      · exact absurd p q
    · rcases z2 with ⟨p, p0, p1, p2⟩ | ⟨p, p2⟩ | ⟨p, p0, p2⟩
      · exact absurd p0 q0
      · exact absurd q p
      · exact ⟨_, p2.2.1.symm, (by decide), (fun z => absurd z (by decide)), cV_mF q3 p2.1, p2.2.2, aW_up (aW_bA hW) (by omega)⟩
  obtain ⟨A', t1, t2, t3, t4⟩ := zt
  exact zl_tail (pc := 1129) E dW_1129 dW_1130 dW_1133 dW_1135 dW_1140 dW_1142 dW_1145 dW_1146 dW_1147 dW_1148 dW_1150 dW_1151 dW_1152 dW_1157 rfl t1 t2 t3 hn2 (by omega) (by omega) (y_wid (by omega) (by omega) (k n2 σ2 A' hn3 t4))
end YLA
