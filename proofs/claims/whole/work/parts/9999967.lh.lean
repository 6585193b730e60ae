theorem dW_1897 : decode code 1897 = .ok (.aload_n 1, 1) := by decide +kernel
theorem dW_1898 : decode code 1898 = .ok (.aload_n 0, 1) := by decide +kernel
theorem dW_1899 : decode code 1899 = .ok (.iload 4, 2) := by decide +kernel
theorem dW_1901 : decode code 1901 = .ok (.iconst 1, 1) := by decide +kernel
theorem dW_1902 : decode code 1902 = .ok (.iadd, 1) := by decide +kernel
theorem dW_1903 : decode code 1903 = .ok (.iaload, 1) := by decide +kernel
theorem dW_1904 : decode code 1904 = .ok (.aload_n 3, 1) := by decide +kernel
theorem dW_1905 : decode code 1905 = .ok (.invokestatic 197, 3) := by decide +kernel
theorem dW_1908 : decode code 1908 = .ok (.istore 5, 2) := by decide +kernel
theorem dW_1910 : decode code 1910 = .ok (.aload_n 2, 1) := by decide +kernel
theorem dW_1911 : decode code 1911 = .ok (.aload_n 0, 1) := by decide +kernel
theorem dW_1912 : decode code 1912 = .ok (.iload 4, 2) := by decide +kernel
theorem dW_1914 : decode code 1914 = .ok (.iconst 1, 1) := by decide +kernel
theorem dW_1915 : decode code 1915 = .ok (.iadd, 1) := by decide +kernel
theorem dW_1916 : decode code 1916 = .ok (.iaload, 1) := by decide +kernel
theorem dW_1917 : decode code 1917 = .ok (.invokevirtual 199, 3) := by decide +kernel
theorem dW_1920 : decode code 1920 = .ok (.istore 6, 2) := by decide +kernel
theorem dW_1922 : decode code 1922 = .ok (.aload_n 2, 1) := by decide +kernel
theorem dW_1923 : decode code 1923 = .ok (.invokevirtual 107, 3) := by decide +kernel
theorem dW_1926 : decode code 1926 = .ok (.iload 5, 2) := by decide +kernel
theorem dW_1928 : decode code 1928 = .ok (.if_icmp .eq 5, 3) := by decide +kernel
theorem dW_1933 : decode code 1933 = .ok (.iload 5, 2) := by decide +kernel
theorem dW_1935 : decode code 1935 = .ok (.ifCond .ne 15, 3) := by decide +kernel
theorem dW_1938 : decode code 1938 = .ok (.aload_n 3, 1) := by decide +kernel
theorem dW_1939 : decode code 1939 = .ok (.iconst 0, 1) := by decide +kernel
theorem dW_1940 : decode code 1940 = .ok (.laload, 1) := by decide +kernel
theorem dW_1941 : decode code 1941 = .ok (.iload 6, 2) := by decide +kernel
theorem dW_1943 : decode code 1943 = .ok (.i2l, 1) := by decide +kernel
theorem dW_1944 : decode code 1944 = .ok (.lcmp, 1) := by decide +kernel
theorem dW_1945 : decode code 1945 = .ok (.ifCond .eq 5, 3) := by decide +kernel
theorem dW_1950 : decode code 1950 = .ok (.goto 110, 3) := by decide +kernel
theorem dW_1953 : decode code 1953 = .ok (.aload_n 1, 1) := by decide +kernel
theorem dW_1954 : decode code 1954 = .ok (.aload_n 0, 1) := by decide +kernel
theorem dW_1955 : decode code 1955 = .ok (.iload 4, 2) := by decide +kernel
theorem dW_1957 : decode code 1957 = .ok (.iconst 1, 1) := by decide +kernel
theorem dW_1958 : decode code 1958 = .ok (.iadd, 1) := by decide +kernel
theorem dW_1959 : decode code 1959 = .ok (.iaload, 1) := by decide +kernel
theorem dW_1960 : decode code 1960 = .ok (.aload_n 0, 1) := by decide +kernel
theorem dW_1961 : decode code 1961 = .ok (.iload 4, 2) := by decide +kernel
theorem dW_1963 : decode code 1963 = .ok (.iconst 2, 1) := by decide +kernel
theorem dW_1964 : decode code 1964 = .ok (.iadd, 1) := by decide +kernel
theorem dW_1965 : decode code 1965 = .ok (.iaload, 1) := by decide +kernel
theorem dW_1966 : decode code 1966 = .ok (.aload_n 3, 1) := by decide +kernel
theorem dW_1967 : decode code 1967 = .ok (.invokestatic 200, 3) := by decide +kernel
theorem dW_1970 : decode code 1970 = .ok (.istore 5, 2) := by decide +kernel
theorem dW_1972 : decode code 1972 = .ok (.aload_n 2, 1) := by decide +kernel
theorem dW_1973 : decode code 1973 = .ok (.aload_n 0, 1) := by decide +kernel
theorem dW_1974 : decode code 1974 = .ok (.iload 4, 2) := by decide +kernel
theorem dW_1976 : decode code 1976 = .ok (.iconst 1, 1) := by decide +kernel
theorem dW_1977 : decode code 1977 = .ok (.iadd, 1) := by decide +kernel
theorem dW_1978 : decode code 1978 = .ok (.iaload, 1) := by decide +kernel
theorem dW_1979 : decode code 1979 = .ok (.aload_n 0, 1) := by decide +kernel
theorem dW_1980 : decode code 1980 = .ok (.iload 4, 2) := by decide +kernel
theorem dW_1982 : decode code 1982 = .ok (.iconst 2, 1) := by decide +kernel
theorem dW_1983 : decode code 1983 = .ok (.iadd, 1) := by decide +kernel
theorem dW_1984 : decode code 1984 = .ok (.iaload, 1) := by decide +kernel
theorem dW_1985 : decode code 1985 = .ok (.invokevirtual 202, 3) := by decide +kernel
theorem dW_1988 : decode code 1988 = .ok (.istore 6, 2) := by decide +kernel
theorem dW_1990 : decode code 1990 = .ok (.aload_n 2, 1) := by decide +kernel
theorem dW_1991 : decode code 1991 = .ok (.invokevirtual 107, 3) := by decide +kernel
theorem dW_1994 : decode code 1994 = .ok (.iload 5, 2) := by decide +kernel
theorem dW_1996 : decode code 1996 = .ok (.if_icmp .eq 5, 3) := by decide +kernel
theorem dW_2001 : decode code 2001 = .ok (.iload 5, 2) := by decide +kernel
theorem dW_2003 : decode code 2003 = .ok (.ifCond .ne 15, 3) := by decide +kernel
theorem dW_2006 : decode code 2006 = .ok (.aload_n 3, 1) := by decide +kernel
theorem dW_2007 : decode code 2007 = .ok (.iconst 0, 1) := by decide +kernel
theorem dW_2008 : decode code 2008 = .ok (.laload, 1) := by decide +kernel
theorem dW_2009 : decode code 2009 = .ok (.iload 6, 2) := by decide +kernel
theorem dW_2011 : decode code 2011 = .ok (.i2l, 1) := by decide +kernel
theorem dW_2012 : decode code 2012 = .ok (.lcmp, 1) := by decide +kernel
theorem dW_2013 : decode code 2013 = .ok (.ifCond .eq 5, 3) := by decide +kernel
theorem dW_2018 : decode code 2018 = .ok (.goto 42, 3) := by decide +kernel
theorem dW_2021 : decode code 2021 = .ok (.aload_n 1, 1) := by decide +kernel
theorem dW_2022 : decode code 2022 = .ok (.invokevirtual 203, 3) := by decide +kernel
theorem dW_2025 : decode code 2025 = .ok (.aload_n 2, 1) := by decide +kernel
theorem dW_2026 : decode code 2026 = .ok (.invokevirtual 207, 3) := by decide +kernel
theorem dW_2029 : decode code 2029 = .ok (.lcmp, 1) := by decide +kernel
theorem dW_2030 : decode code 2030 = .ok (.ifCond .eq 30, 3) := by decide +kernel
theorem dW_2035 : decode code 2035 = .ok (.aload_n 1, 1) := by decide +kernel
theorem dW_2036 : decode code 2036 = .ok (.aload_n 0, 1) := by decide +kernel
theorem dW_2037 : decode code 2037 = .ok (.iload 4, 2) := by decide +kernel
theorem dW_2039 : decode code 2039 = .ok (.iconst 1, 1) := by decide +kernel
theorem dW_2040 : decode code 2040 = .ok (.iadd, 1) := by decide +kernel
theorem dW_2041 : decode code 2041 = .ok (.iaload, 1) := by decide +kernel
theorem dW_2042 : decode code 2042 = .ok (.invokevirtual 208, 3) := by decide +kernel
theorem dW_2045 : decode code 2045 = .ok (.aload_n 2, 1) := by decide +kernel
theorem dW_2046 : decode code 2046 = .ok (.aload_n 0, 1) := by decide +kernel
theorem dW_2047 : decode code 2047 = .ok (.iload 4, 2) := by decide +kernel
theorem dW_2049 : decode code 2049 = .ok (.iconst 1, 1) := by decide +kernel
theorem dW_2050 : decode code 2050 = .ok (.iadd, 1) := by decide +kernel
theorem dW_2051 : decode code 2051 = .ok (.iaload, 1) := by decide +kernel
theorem dW_2052 : decode code 2052 = .ok (.invokevirtual 211, 3) := by decide +kernel
theorem dW_2055 : decode code 2055 = .ok (.if_icmp .eq 5, 3) := by decide +kernel
section YLA
variable {x : yC} {l : Launch} {g : yG} {b L : Nat} {xs : Nat → Int32} {Q : State → Prop} {n : Nat} {σ : yM} {cells slots : Nat}
set_option maxHeartbeats 4000000 in
set_option maxRecDepth 100000 in
theorem zc_turning (E : zE x l g b L xs) {N : Int} {A : aA} (G : zG N σ A) (hN0 : 0 ≤ N) (hN : N ≤ 400000000) (hn : 172 ≤ n) {i : Int} (hi : 0 ≤ i ∧ i + 6 ≤ (L : Int)) (hc : cells + 408 ≤ 601024) (hs : slots + 3660 ≤ 7293033) (k : zK x g b Q n N cells slots i) : yV x g 7 Q (SC g) n σ cells slots 1897 (zL g b i) [] := by
  obtain ⟨w, h, ⟨T, S, F, P, O, nf, df, nl, lg⟩, ⟨s, re, fo, ra, tu, we, sh⟩, H, ht, K, tl, tb, fa, r1, r2⟩ := A
  obtain ⟨hC, hM, hW⟩ := G
  have hF := E.1
  have ZN := hN0
  refine y_aload_n (pc := 1897) hF dW_1897 1 rfl ?_
  refine zl_arg (pc := 1898) E dW_1898 dW_1899 dW_1901 dW_1902 dW_1903 rfl rfl (by omega) ?_
  refine y_aload_n (pc := 1904) hF dW_1904 3 rfl ?_
  refine y_ci (cells' := cells + 4) (slots' := slots + 24) (y_rSL (pc := 1905) (na := 3) hF E.2.1 E.2.2.1 (tL_turning E.2.2.2.1 hn _ _ _ _ _ _ _ _ _ _ _ _ _ _ _ _ _ _ _ _ _ _ _ _ _ _ _ hC hW (zA xs i 1) (zA_r xs i 1)) dW_1905 w_1210 w_1211 wl_turning w_85 ⟨by decide, by decide, by decide +kernel⟩ rfl ⟨Nat.le_of_ble_eq_true rfl, Nat.le_of_ble_eq_true rfl⟩ ⟨by show cells + 4 ≤ 601024; omega, by show slots + 24 ≤ 7293033; omega⟩ (Nat.le_of_ble_eq_true rfl) rfl (rest := [])) rfl rfl (fun zk n1 σ1 z1 => ?_)
  refine y_istore (pc := 1908) (lv' := zL5 g b i zk) hF dW_1908 (by decide) rfl rfl ?_
  have hn1 := Nat.le_trans hn z1.1
  have zM := mV_cG hM z1.2.1
  refine y_aload_n (pc := 1910) hF dW_1910 2 rfl ?_
  refine zl_arg (pc := 1911) E dW_1911 dW_1912 dW_1914 dW_1915 dW_1916 rfl rfl (by omega) ?_
  refine y_ci (cells' := cells + 4 + 404) (slots' := slots + 24 + 3636) (y_rV (pc := 1917) (rest := []) hF (tX11_turning hn1 _ _ _ _ _ _ _ _ _ _ _ _ _ _ _ _ _ _ _ _ _ _ _ _ _ _ _ zM hW (zA xs i 1) (zA_r xs i 1) hN) dW_1917 (by omega) rfl rfl rfl w_1724 qX11_turning rfl ⟨Nat.le_of_ble_eq_true rfl, Nat.le_of_ble_eq_true rfl⟩ ⟨by show cells + 4 + 404 ≤ 601024; omega, by show slots + 24 + 3636 ≤ 7293033; omega⟩ (Nat.le_of_ble_eq_true rfl) rfl) rfl rfl (fun zb n2 σ2 z2 => ?_)
  refine y_istore (pc := 1920) (lv' := zL6 g b i zk zb) hF dW_1920 (by decide) rfl rfl ?_
  have hn2 := Nat.le_trans hn1 z2.1
  have hn3 := Nat.le_trans z1.1 z2.1
  have zt : ∃ A' : aA, zk = σ2 155 0 ∧ (0 ≤ zk ∧ zk ≤ 2) ∧ (zk = 0 → σ2 171 0 = wr zb) ∧ zG (N + 400) σ2 A' := by
    obtain ⟨_, zg, z1⟩ := z1
    obtain ⟨_, z2⟩ := z2
    rcases z1 with ⟨q, rfl, q2, q3⟩ | ⟨q, rfl, q3⟩
    · rcases z2 with ⟨p, p1, p2⟩ | ⟨p, p2⟩
      · exact ⟨_, p2.2.1.symm, (by decide), (fun _ => by rw [p2.1 171 (Or.inr rfl), q2, p1]), cV_mF q3 p2.1, p2.2.2, aW_up hW (by omega)⟩
      · exact absurd q p
    · rcases z2 with ⟨p, p1, p2⟩ | ⟨p, p2⟩
      · exact absurd p q
      · exact ⟨_, p2.2.1.symm, (by decide), (fun z => absurd z (by decide)), cV_mF q3 p2.1, p2.2.2, aW_up (aW_bA hW) (by omega)⟩
  obtain ⟨A', t1, t2, t3, t4⟩ := zt
  exact zl_tail (pc := 1922) E dW_1922 dW_1923 dW_1926 dW_1928 dW_1933 dW_1935 dW_1938 dW_1939 dW_1940 dW_1941 dW_1943 dW_1944 dW_1945 dW_1950 rfl t1 t2 t3 hn2 (by omega) (by omega) (y_wid (by omega) (by omega) (k n2 σ2 A' hn3 t4))
set_option maxHeartbeats 4000000 in
set_option maxRecDepth 100000 in
theorem zc_lent (E : zE x l g b L xs) {N : Int} {A : aA} (G : zG N σ A) (hN0 : 0 ≤ N) (hN : N ≤ 400000000) (hn : 172 ≤ n) {i : Int} (hi : 0 ≤ i ∧ i + 6 ≤ (L : Int)) (hc : cells + 408 ≤ 601024) (hs : slots + 3660 ≤ 7293033) (k : zK x g b Q n N cells slots i) : yV x g 7 Q (SC g) n σ cells slots 1953 (zL g b i) [] := by
  obtain ⟨w, h, ⟨T, S, F, P, O, nf, df, nl, lg⟩, ⟨s, re, fo, ra, tu, we, sh⟩, H, ht, K, tl, tb, fa, r1, r2⟩ := A
  obtain ⟨hC, hM, hW⟩ := G
  have hF := E.1
  have ZN := hN0
  refine y_aload_n (pc := 1953) hF dW_1953 1 rfl ?_
  refine zl_arg (pc := 1954) E dW_1954 dW_1955 dW_1957 dW_1958 dW_1959 rfl rfl (by omega) ?_
  refine zl_arg (pc := 1960) E dW_1960 dW_1961 dW_1963 dW_1964 dW_1965 rfl rfl (by omega) ?_
  refine y_aload_n (pc := 1966) hF dW_1966 3 rfl ?_
  refine y_ci (cells' := cells + 4) (slots' := slots + 24) (y_rSL (pc := 1967) (na := 4) hF E.2.1 E.2.2.1 (tL_lent E.2.2.2.1 hn _ _ _ _ _ _ _ _ _ _ _ _ _ _ _ _ _ _ _ _ _ _ _ _ _ _ _ hC hW (zA xs i 1) (zA xs i 2) (zA_r xs i 1) (zA_r xs i 2)) dW_1967 w_1217 w_1218 wl_lent w_85 ⟨by decide, by decide, by decide +kernel⟩ rfl ⟨Nat.le_of_ble_eq_true rfl, Nat.le_of_ble_eq_true rfl⟩ ⟨by show cells + 4 ≤ 601024; omega, by show slots + 24 ≤ 7293033; omega⟩ (Nat.le_of_ble_eq_true rfl) rfl (rest := [])) rfl rfl (fun zk n1 σ1 z1 => ?_)
  refine y_istore (pc := 1970) (lv' := zL5 g b i zk) hF dW_1970 (by decide) rfl rfl ?_
  have hn1 := Nat.le_trans hn z1.1
  have zM := mV_cG hM z1.2.1
  refine y_aload_n (pc := 1972) hF dW_1972 2 rfl ?_
  refine zl_arg (pc := 1973) E dW_1973 dW_1974 dW_1976 dW_1977 dW_1978 rfl rfl (by omega) ?_
  refine zl_arg (pc := 1979) E dW_1979 dW_1980 dW_1982 dW_1983 dW_1984 rfl rfl (by omega) ?_
  refine y_ci (cells' := cells + 4) (slots' := slots + 24) (y_rV (pc := 1985) (rest := []) hF (tX11_lent hn1 _ _ _ _ _ _ _ _ _ _ _ _ _ _ _ _ _ _ _ _ _ _ _ _ _ _ _ zM hW (zA xs i 1) (zA xs i 2) (zA_r xs i 1) (zA_r xs i 2)) dW_1985 (by omega) rfl rfl rfl w_1744 qX11_lent rfl ⟨Nat.le_of_ble_eq_true rfl, Nat.le_of_ble_eq_true rfl⟩ ⟨by show cells + 4 ≤ 601024; omega, by show slots + 24 ≤ 7293033; omega⟩ (Nat.le_of_ble_eq_true rfl) rfl) rfl rfl (fun zb n2 σ2 z2 => ?_)
  refine y_istore (pc := 1988) (lv' := zL6 g b i zk zb) hF dW_1988 (by decide) rfl rfl ?_
  have hn2 := Nat.le_trans hn1 z2.1
  have hn3 := Nat.le_trans z1.1 z2.1
  have zt : ∃ A' : aA, zk = σ2 155 0 ∧ (0 ≤ zk ∧ zk ≤ 2) ∧ (zk = 0 → σ2 171 0 = wr zb) ∧ zG (N + 400) σ2 A' := by
    obtain ⟨_, zg, z1⟩ := z1
    obtain ⟨_, z2⟩ := z2
    rcases z1 with ⟨q, rfl, q2, q3⟩ | ⟨q, rfl, q3⟩
    · rcases z2 with ⟨p, p1, p2⟩ | ⟨p, p2⟩
      · exact ⟨_, p2.2.1.symm, (by decide), (fun _ => by rw [p2.1 171 (Or.inr rfl), q2, p1]), cV_mF q3 p2.1, p2.2.2, aW_up hW (by omega)⟩
      · exact absurd q p
    · rcases z2 with ⟨p, p1, p2⟩ | ⟨p, p2⟩
      · exact absurd p q
      · exact ⟨_, p2.2.1.symm, (by decide), (fun z => absurd z (by decide)), cV_mF q3 p2.1, p2.2.2, aW_up (aW_bN hW) (by omega)⟩
  obtain ⟨A', t1, t2, t3, t4⟩ := zt
  exact zl_tail (pc := 1990) E dW_1990 dW_1991 dW_1994 dW_1996 dW_2001 dW_2003 dW_2006 dW_2007 dW_2008 dW_2009 dW_2011 dW_2012 dW_2013 dW_2018 rfl t1 t2 t3 hn2 (by omega) (by omega) (y_wid (by omega) (by omega) (k n2 σ2 A' hn3 t4))
set_option maxHeartbeats 4000000 in
set_option maxRecDepth 100000 in
theorem zc_print (E : zE x l g b L xs) {N : Int} {A : aA} (G : zG N σ A) (hN0 : 0 ≤ N) (hN : N ≤ 400000000) (hn : 172 ≤ n) {i : Int} (hi : 0 ≤ i ∧ i + 6 ≤ (L : Int)) (hc : cells + 408 ≤ 601024) (hs : slots + 3660 ≤ 7293033) (k : zK x g b Q n N cells slots i) : yV x g 7 Q (SC g) n σ cells slots 2021 (zL g b i) [] := by
  obtain ⟨w, h, ⟨T, S, F, P, O, nf, df, nl, lg⟩, ⟨s, re, fo, ra, tu, we, sh⟩, H, ht, K, tl, tb, fa, r1, r2⟩ := A
  obtain ⟨hC, hM, hW⟩ := G
  have hF := E.1
  have ZN := hN0
  refine y_aload_n (pc := 2021) hF dW_2021 1 rfl ?_
  refine y_cl (y_rV (pc := 2022) (rest := []) hF (tX10_print hn _ _ _ _ _ _ _ _ _ _ _ _ _ _ _ _ _ _ _ _ _ _ _ _ _ _ _ hC hW) dW_2022 (by omega) rfl rfl rfl w_594 qX10_print rfl ⟨Nat.le_of_ble_eq_true rfl, Nat.le_of_ble_eq_true rfl⟩ ⟨by show cells ≤ 601024; omega, by show slots ≤ 7293033; omega⟩ (Nat.le_of_ble_eq_true rfl) rfl) rfl rfl (fun zv n1 σ1 z1 => ?_)
  obtain ⟨zv1, rfl, rfl⟩ := z1
  have hn1 := hn
  have zM := hM
  refine y_aload_n (pc := 2025) hF dW_2025 2 rfl ?_
  refine y_cl (cells' := cells) (slots' := slots) (y_rV (pc := 2026) (rest := [_]) hF (tX11_print hn1 _ _ _ _ _ _ _ _ _ _ _ _ _ _ _ _ _ _ _ _ _ _ _ _ _ _ _ zM hW) dW_2026 (by omega) rfl rfl rfl w_1748 qX11_print rfl ⟨Nat.le_of_ble_eq_true rfl, Nat.le_of_ble_eq_true rfl⟩ ⟨by show cells ≤ 601024; omega, by show slots ≤ 7293033; omega⟩ (Nat.le_of_ble_eq_true rfl) rfl) rfl rfl (fun zb n2 σ2 z2 => ?_)
  obtain ⟨zb1, z5, z6⟩ := z2
  subst zv1
  subst zb1
  refine y_lcmp_same (pc := 2029) hF dW_2029 ?_
  refine y_if_eq (pc := 2030) hF dW_2030 2060 rfl (by decide) (fun _ => ?_) (fun z => absurd rfl z)
  exact y_wid (by omega) (by omega) (k n2 σ2 _ z5 ⟨cV_mF hC z6.1, z6.2.2, aW_up hW (by omega)⟩)
set_option maxHeartbeats 4000000 in
set_option maxRecDepth 100000 in
theorem zc_status (E : zE x l g b L xs) {N : Int} {A : aA} (G : zG N σ A) (hN0 : 0 ≤ N) (hN : N ≤ 400000000) (hn : 172 ≤ n) {i : Int} (hi : 0 ≤ i ∧ i + 6 ≤ (L : Int)) (hc : cells + 408 ≤ 601024) (hs : slots + 3660 ≤ 7293033) (k : zK x g b Q n N cells slots i) : yV x g 7 Q (SC g) n σ cells slots 2035 (zL g b i) [] := by
  obtain ⟨w, h, ⟨T, S, F, P, O, nf, df, nl, lg⟩, ⟨s, re, fo, ra, tu, we, sh⟩, H, ht, K, tl, tb, fa, r1, r2⟩ := A
  obtain ⟨hC, hM, hW⟩ := G
  have hF := E.1
  have ZN := hN0
  refine y_aload_n (pc := 2035) hF dW_2035 1 rfl ?_
  refine zl_arg (pc := 2036) E dW_2036 dW_2037 dW_2039 dW_2040 dW_2041 rfl rfl (by omega) ?_
  refine y_cp (y_rV (pc := 2042) (rest := []) hF (tX10_status hn _ _ _ _ _ _ _ _ _ _ _ _ _ _ _ _ _ _ _ _ _ _ _ _ _ _ _ hC hW (zA xs i 1) (zA_r xs i 1)) dW_2042 (by omega) rfl rfl rfl w_599 qX10_status rfl ⟨Nat.le_of_ble_eq_true rfl, Nat.le_of_ble_eq_true rfl⟩ ⟨by show cells ≤ 601024; omega, by show slots ≤ 7293033; omega⟩ (Nat.le_of_ble_eq_true rfl) rfl) ?_
  have hn1 := hn
  have zM := hM
  refine y_aload_n (pc := 2045) hF dW_2045 2 rfl ?_
  refine zl_arg (pc := 2046) E dW_2046 dW_2047 dW_2049 dW_2050 dW_2051 rfl rfl (by omega) ?_
  refine y_ci (cells' := cells) (slots' := slots) (y_rV (pc := 2052) (rest := [_]) hF (tX11_status hn1 _ _ _ _ _ _ _ _ _ _ _ _ _ _ _ _ _ _ _ _ _ _ _ _ _ _ _ zM hW (zA xs i 1) (zA_r xs i 1)) dW_2052 (by omega) rfl rfl rfl w_1753 qX11_status rfl ⟨Nat.le_of_ble_eq_true rfl, Nat.le_of_ble_eq_true rfl⟩ ⟨by show cells ≤ 601024; omega, by show slots ≤ 7293033; omega⟩ (Nat.le_of_ble_eq_true rfl) rfl) rfl rfl (fun zb n2 σ2 z2 => ?_)
  obtain ⟨z5, zb1, z6⟩ := z2
  subst zb1
  refine y_icmp_same (pc := 2055) hF dW_2055 2060 rfl ?_
  exact y_wid (by omega) (by omega) (k n2 σ2 _ z5 ⟨cV_mF hC z6.1, z6.2.2, aW_up hW (by omega)⟩)
end YLA
