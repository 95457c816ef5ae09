theorem dL_law_1891 : decode cL_law 1891 = .ok (.aload_n 1, 1) := by decide +kernel
theorem dL_law_1892 : decode cL_law 1892 = .ok (.aload_n 0, 1) := by decide +kernel
theorem dL_law_1893 : decode cL_law 1893 = .ok (.iload_n 3, 1) := by decide +kernel
theorem dL_law_1894 : decode cL_law 1894 = .ok (.iconst 1, 1) := by decide +kernel
theorem dL_law_1895 : decode cL_law 1895 = .ok (.iadd, 1) := by decide +kernel
theorem dL_law_1896 : decode cL_law 1896 = .ok (.iaload, 1) := by decide +kernel
theorem dL_law_1897 : decode cL_law 1897 = .ok (.aload_n 0, 1) := by decide +kernel
theorem dL_law_1898 : decode cL_law 1898 = .ok (.iload_n 3, 1) := by decide +kernel
theorem dL_law_1899 : decode cL_law 1899 = .ok (.iconst 2, 1) := by decide +kernel
theorem dL_law_1900 : decode cL_law 1900 = .ok (.iadd, 1) := by decide +kernel
theorem dL_law_1901 : decode cL_law 1901 = .ok (.iaload, 1) := by decide +kernel
theorem dL_law_1902 : decode cL_law 1902 = .ok (.aload_n 0, 1) := by decide +kernel
theorem dL_law_1903 : decode cL_law 1903 = .ok (.iload_n 3, 1) := by decide +kernel
theorem dL_law_1904 : decode cL_law 1904 = .ok (.iconst 3, 1) := by decide +kernel
theorem dL_law_1905 : decode cL_law 1905 = .ok (.iadd, 1) := by decide +kernel
theorem dL_law_1906 : decode cL_law 1906 = .ok (.iaload, 1) := by decide +kernel
theorem dL_law_1907 : decode cL_law 1907 = .ok (.invokevirtual 260, 3) := by decide +kernel
theorem dL_law_1910 : decode cL_law 1910 = .ok (.aload_n 2, 1) := by decide +kernel
theorem dL_law_1911 : decode cL_law 1911 = .ok (.aload_n 0, 1) := by decide +kernel
theorem dL_law_1912 : decode cL_law 1912 = .ok (.iload_n 3, 1) := by decide +kernel
theorem dL_law_1913 : decode cL_law 1913 = .ok (.iconst 1, 1) := by decide +kernel
theorem dL_law_1914 : decode cL_law 1914 = .ok (.iadd, 1) := by decide +kernel
theorem dL_law_1915 : decode cL_law 1915 = .ok (.iaload, 1) := by decide +kernel
theorem dL_law_1916 : decode cL_law 1916 = .ok (.aload_n 0, 1) := by decide +kernel
theorem dL_law_1917 : decode cL_law 1917 = .ok (.iload_n 3, 1) := by decide +kernel
theorem dL_law_1918 : decode cL_law 1918 = .ok (.iconst 2, 1) := by decide +kernel
theorem dL_law_1919 : decode cL_law 1919 = .ok (.iadd, 1) := by decide +kernel
theorem dL_law_1920 : decode cL_law 1920 = .ok (.iaload, 1) := by decide +kernel
theorem dL_law_1921 : decode cL_law 1921 = .ok (.aload_n 0, 1) := by decide +kernel
theorem dL_law_1922 : decode cL_law 1922 = .ok (.iload_n 3, 1) := by decide +kernel
theorem dL_law_1923 : decode cL_law 1923 = .ok (.iconst 3, 1) := by decide +kernel
theorem dL_law_1924 : decode cL_law 1924 = .ok (.iadd, 1) := by decide +kernel
theorem dL_law_1925 : decode cL_law 1925 = .ok (.iaload, 1) := by decide +kernel
theorem dL_law_1926 : decode cL_law 1926 = .ok (.invokevirtual 263, 3) := by decide +kernel
theorem dL_law_1929 : decode cL_law 1929 = .ok (.if_icmp .eq 141, 3) := by decide +kernel
set_option maxRecDepth 20000 in
theorem gL_X11_row : GoodIn lw_tbl (wsV RL 260 RX11 yX11_row vX11_row) := goodIn_r _ [1231, 1232, 1233, 98, 1234, 959, 960, 98, 961, 490, 1235, 1236, 1237, 102, 1238, 318, 1239, 1082, 118, 1083, 321, 323, 326, 499, 501, 503, 505, 507, 509, 511, 513, 515, 517, 519, 521, 523, 525, 328, 330, 332, 334] (by decide +kernel) (by decide +kernel)
set_option maxRecDepth 20000 in
theorem gL_X12_row : GoodIn lw_tbl (wsV RL 263 RX12 yX12_row vX12_row) := goodIn_r _ [1911, 1912, 1913, 110, 1914, 1734, 1735, 110, 1736, 1737, 1387, 1388, 1389, 1297, 1298, 1299, 1301, 1303, 1305, 1307, 1309, 1311, 1313, 1315, 1317, 1319, 1321, 1323, 1325, 1327, 1329, 1331, 1333, 1335, 1337, 1339, 1341, 1343, 1345, 1347, 1349, 1351, 1353, 1355, 1357, 1359, 1361, 1363, 1365, 1367, 1369, 1371, 1373, 1375, 1377, 1379] (by decide +kernel) (by decide +kernel)
set_option maxHeartbeats 8000000 in
set_option maxRecDepth 100000 in
theorem law_c60 {p : Program} {e : Env} {s : State} {m : MethodId} {below : List Frame} {meth : Method} {c : Code} (l : Launch) {b : Nat} {xs : Nat → Int32} {D : va_G} {cs : Nat → ClassId} {ad : Nat → Nat} {g : Nat → va_E} {H : Heap} {locs : List Loc} (C0 : lw_At p s m meth c b 6 xs) (X : CxL p s m b meth c D cs) (hj : wJ ad nW) (hA : ∀ i, i < nW → AL s (ad i)) (hFX : FrX cs ad g) (hFM : FrM cs ad g) (hP : va_P D vwCl (wL ad g nW) H) (hS : va_S (AL s) s.heap H locs) (ls : Array Slot) (hl : lv_has ls 4 [(3, .int 0), (2, .ref (ad 197)), (1, .ref (ad 0)), (0, .ref b)]) : W p l e room_1 s m #[Value.ref b] below meth c H locs 218 6259 (lw_Z below #[Value.ref b] s) (F0 m 1891 ls []) := by
  have hx := X.1
  have hb : c.code = cL_law := X.2.1
  obtain ⟨-, -, -, -, -, -, hX, hbl, -, -⟩ := id C0
  have hbA : ¬ AL s b := Nat.not_le.mpr hbl
  refine lv_aload_n hx hb dL_law_1891 rfl (lv_at hl 2 rfl) ?_
  refine lv_aload_n hx hb dL_law_1892 rfl (lv_at hl 3 rfl) ?_
  refine lv_iload_n hx hb dL_law_1893 rfl (lv_at hl 0 rfl) ?_
  refine lv_iconst (v := 1) hx hb dL_law_1894 (by decide) ?_
  refine lv_iadd hx hb dL_law_1895 ?_
  refine lv_topi (fun z_1 ez_1 => ?_)
  obtain rfl : z_1 = 1 := ez_1.trans (by decide)
  refine va_sld hx hb hX hbl hbA hS (i := 1) (by unfold vp_in; decide) dL_law_1896 ?_
  refine lv_aload_n hx hb dL_law_1897 rfl (lv_at hl 3 rfl) ?_
  refine lv_iload_n hx hb dL_law_1898 rfl (lv_at hl 0 rfl) ?_
  refine lv_iconst (v := 2) hx hb dL_law_1899 (by decide) ?_
  refine lv_iadd hx hb dL_law_1900 ?_
  refine lv_topi (fun z_2 ez_2 => ?_)
  obtain rfl : z_2 = 2 := ez_2.trans (by decide)
  refine va_sld hx hb hX hbl hbA hS (i := 2) (by unfold vp_in; decide) dL_law_1901 ?_
  refine lv_aload_n hx hb dL_law_1902 rfl (lv_at hl 3 rfl) ?_
  refine lv_iload_n hx hb dL_law_1903 rfl (lv_at hl 0 rfl) ?_
  refine lv_iconst (v := 3) hx hb dL_law_1904 (by decide) ?_
  refine lv_iadd hx hb dL_law_1905 ?_
  refine lv_topi (fun z_3 ez_3 => ?_)
  obtain rfl : z_3 = 3 := ez_3.trans (by decide)
  refine va_sld hx hb hX hbl hbA hS (i := 3) (by unfold vp_in; decide) dL_law_1906 ?_
  refine q_calli (q := (RX11, TX11, 14)) (As := [.int (xs (Int32.toNatClampNeg 1)), .int (xs (Int32.toNatClampNeg 2)), .int (xs (Int32.toNatClampNeg 3))]) (rest := []) X (k_row l D cs ad hj g (xs (Int32.toNatClampNeg 1)) (xs (Int32.toNatClampNeg 2)) (xs (Int32.toNatClampNeg 3)) hFX.1 hFX.2.2.2.2.2.2.2.2.2.2.2.2.2.2.2.2.2.2.2.2.2.2.2.2.2.2.2.2.2.2.2.2.2.2.2.2.2.2.2.2.2.2.2.2.2.2.2.2.2.2.2.2.2.2.2.2.2.2.2.2.1 hFX.2.2.2.2.2.2.2.2.2.2.2.2.2.2.2.2.2.2.2.2.2.2.2.2.2.2.2.2.2.2.2.2.2.2.2.2.2.2.2.2.2.2.2.2.2.2.2.2.2.2.2.2.2.2.2.2.2.2.2.2.2.1 hFX.2.2.2.2.2.2.2.2.2.2.2.2.2.2.2.2.2.2.2.2.2.2.2.2.2.2.2.2.2.2.2.2.2.2.2.2.2.2.2.2.2.2.2.2.2.2.2.2.2.2.2.2.2.2.2.2.2.2.2.2.2.2.2.1 hFX.2.2.2.2.2.2.2.2.2.2.2.2.2.2.2.2.2.2.2.2.2.2.2.2.2.2.2.2.2.2.2.2.2.2.2.2.2.2.2.2.2.2.2.2.2.2.2.2.2.2.2.2.2.2.2.2.2.2.2.2.2.2.2.2.2.1 hFX.2.2.2.2.2.2.2.2.2.2.2.2.2.2.2.2.2.2.2.2.2.2.2.2.2.2.2.2.2.2.2.2.2.2.2.2.2.2.2.2.2.2.2.2.2.2.2.2.2.2.2.2.2.2.2.2.2.2.2.2.2.2.2.2.2.2.2.1 hFX.2.2.2.2.2.2.2.2.2.2.2.2.2.2.2.2.2.2.2.2.2.2.2.2.2.2.2.2.2.2.2.2.2.2.2.2.2.2.2.2.2.2.2.2.2.2.2.2.2.2.2.2.2.2.2.2.2.2.2.2.2.2.1 hFX.2.2.2.2.2.2.2.2.2.2.2.2.2.2.2.2.2.2.2.2.2.2.2.2.2.2.2.2.2.2.2.2.2.2.2.2.2.2.2.2.2.2.2.2.2.2.2.2.2.2.2.2.2.2.2.2.2.2.2.2.2.2.2.2.1 hFX.2.2.2.2.2.2.2.2.2.2.2.2.2.2.2.2.2.2.2.2.2.2.2.2.2.2.2.2.2.2.2.2.2.2.2.2.2.2.2.2.2.2.2.2.2.2.2.2.2.2.2.2.2.2.2.2.2.2.2.2.2.2.2.2.2.2.1 hFX.2.2.2.2.2.2.2.2.2.2.2.2.2.2.2.2.2.2.2.2.2.2.2.2.2.2.2.2.2.2.2.2.2.2.2.2.2.2.2.2.2.2.2.2.2.2.2.2.2.2.2.2.2.2.2.2.2.2.2.2.2.2.2.2.2.2.2.2.1) (cwV 3 X.2.2.2.2.1 gL_X11_row rfl rfl rfl (by decide +kernel) ⟨Nat.le_of_ble_eq_true rfl, Nat.le_of_ble_eq_true rfl⟩) (by decide) (hFX.1) rfl hP hA hS rfl hl.1 rfl (Nat.le_of_ble_eq_true rfl) dL_law_1907 ⟨Nat.le_of_ble_eq_true rfl, Nat.le_of_ble_eq_true rfl⟩ (fun r_5 g_4 H locs hw_6 hP hS => ?_)
  obtain ⟨hw_6, hw_6f⟩ := hw_6
  subst hw_6
  refine lv_aload_n hx hb dL_law_1910 rfl (lv_at hl 1 rfl) ?_
  refine lv_aload_n hx hb dL_law_1911 rfl (lv_at hl 3 rfl) ?_
  refine lv_iload_n hx hb dL_law_1912 rfl (lv_at hl 0 rfl) ?_
  refine lv_iconst (v := 1) hx hb dL_law_1913 (by decide) ?_
  refine lv_iadd hx hb dL_law_1914 ?_
  refine lv_topi (fun z_7 ez_7 => ?_)
  obtain rfl : z_7 = 1 := ez_7.trans (by decide)
  refine va_sld hx hb hX hbl hbA hS (i := 1) (by unfold vp_in; decide) dL_law_1915 ?_
  refine lv_aload_n hx hb dL_law_1916 rfl (lv_at hl 3 rfl) ?_
  refine lv_iload_n hx hb dL_law_1917 rfl (lv_at hl 0 rfl) ?_
  refine lv_iconst (v := 2) hx hb dL_law_1918 (by decide) ?_
  refine lv_iadd hx hb dL_law_1919 ?_
  refine lv_topi (fun z_8 ez_8 => ?_)
  obtain rfl : z_8 = 2 := ez_8.trans (by decide)
  refine va_sld hx hb hX hbl hbA hS (i := 2) (by unfold vp_in; decide) dL_law_1920 ?_
  refine lv_aload_n hx hb dL_law_1921 rfl (lv_at hl 3 rfl) ?_
  refine lv_iload_n hx hb dL_law_1922 rfl (lv_at hl 0 rfl) ?_
  refine lv_iconst (v := 3) hx hb dL_law_1923 (by decide) ?_
  refine lv_iadd hx hb dL_law_1924 ?_
  refine lv_topi (fun z_9 ez_9 => ?_)
  obtain rfl : z_9 = 3 := ez_9.trans (by decide)
  refine va_sld hx hb hX hbl hbA hS (i := 3) (by unfold vp_in; decide) dL_law_1925 ?_
  refine q_calli (q := (RX12, TX12, 40)) (As := [.int (xs (Int32.toNatClampNeg 1)), .int (xs (Int32.toNatClampNeg 2)), .int (xs (Int32.toNatClampNeg 3))]) (rest := [.int (aRow (xs (Int32.toNatClampNeg 1)) (xs (Int32.toNatClampNeg 2)) (xs (Int32.toNatClampNeg 3)))]) X (m_row l D cs ad hj g_4 (xs (Int32.toNatClampNeg 1)) (xs (Int32.toNatClampNeg 2)) (xs (Int32.toNatClampNeg 3)) ((hw_6f 197 (by decide)).trans hFM.1) ((hw_6f 214 (by decide)).trans hFM.2.2.2.2.2.2.2.2.2.2.2.2.2.2.2.2.2.1) ((hw_6f 215 (by decide)).trans hFM.2.2.2.2.2.2.2.2.2.2.2.2.2.2.2.2.2.2.1) ((hw_6f 216 (by decide)).trans hFM.2.2.2.2.2.2.2.2.2.2.2.2.2.2.2.2.2.2.2.1)) (cwV 3 X.2.2.2.2.1 gL_X12_row rfl rfl rfl (by decide +kernel) ⟨Nat.le_of_ble_eq_true rfl, Nat.le_of_ble_eq_true rfl⟩) (by decide) (((hw_6f 197 (by decide)).trans hFM.1)) rfl hP hA hS rfl hl.1 rfl (Nat.le_of_ble_eq_true rfl) dL_law_1926 ⟨Nat.le_of_ble_eq_true rfl, Nat.le_of_ble_eq_true rfl⟩ (fun r_11 g_10 H locs hw_12 hP hS => ?_)
  subst hw_12
  refine lv_icmp_eq (tgt := 2070) hx hb dL_law_1929 (by decide) (fun _ => ?_) (fun h => absurd rfl h)
  exact law_tail l C0 X hS ls hl

theorem dL_law_1934 : decode cL_law 1934 = .ok (.aload_n 1, 1) := by decide +kernel
theorem dL_law_1935 : decode cL_law 1935 = .ok (.aload_n 0, 1) := by decide +kernel
theorem dL_law_1936 : decode cL_law 1936 = .ok (.iload_n 3, 1) := by decide +kernel
theorem dL_law_1937 : decode cL_law 1937 = .ok (.iconst 1, 1) := by decide +kernel
theorem dL_law_1938 : decode cL_law 1938 = .ok (.iadd, 1) := by decide +kernel
theorem dL_law_1939 : decode cL_law 1939 = .ok (.iaload, 1) := by decide +kernel
theorem dL_law_1940 : decode cL_law 1940 = .ok (.aload_n 0, 1) := by decide +kernel
theorem dL_law_1941 : decode cL_law 1941 = .ok (.iload_n 3, 1) := by decide +kernel
theorem dL_law_1942 : decode cL_law 1942 = .ok (.iconst 2, 1) := by decide +kernel
theorem dL_law_1943 : decode cL_law 1943 = .ok (.iadd, 1) := by decide +kernel
theorem dL_law_1944 : decode cL_law 1944 = .ok (.iaload, 1) := by decide +kernel
theorem dL_law_1945 : decode cL_law 1945 = .ok (.aload_n 0, 1) := by decide +kernel
theorem dL_law_1946 : decode cL_law 1946 = .ok (.iload_n 3, 1) := by decide +kernel
theorem dL_law_1947 : decode cL_law 1947 = .ok (.iconst 3, 1) := by decide +kernel
theorem dL_law_1948 : decode cL_law 1948 = .ok (.iadd, 1) := by decide +kernel
theorem dL_law_1949 : decode cL_law 1949 = .ok (.iaload, 1) := by decide +kernel
theorem dL_law_1950 : decode cL_law 1950 = .ok (.i2l, 1) := by decide +kernel
theorem dL_law_1951 : decode cL_law 1951 = .ok (.bipush 32, 2) := by decide +kernel
theorem dL_law_1953 : decode cL_law 1953 = .ok (.lshl, 1) := by decide +kernel
theorem dL_law_1954 : decode cL_law 1954 = .ok (.aload_n 0, 1) := by decide +kernel
theorem dL_law_1955 : decode cL_law 1955 = .ok (.iload_n 3, 1) := by decide +kernel
theorem dL_law_1956 : decode cL_law 1956 = .ok (.iconst 4, 1) := by decide +kernel
theorem dL_law_1957 : decode cL_law 1957 = .ok (.iadd, 1) := by decide +kernel
theorem dL_law_1958 : decode cL_law 1958 = .ok (.iaload, 1) := by decide +kernel
theorem dL_law_1959 : decode cL_law 1959 = .ok (.i2l, 1) := by decide +kernel
theorem dL_law_1960 : decode cL_law 1960 = .ok (.ldc2_w 264, 3) := by decide +kernel
theorem dL_law_1963 : decode cL_law 1963 = .ok (.land, 1) := by decide +kernel
theorem dL_law_1964 : decode cL_law 1964 = .ok (.lor, 1) := by decide +kernel
theorem dL_law_1965 : decode cL_law 1965 = .ok (.invokevirtual 266, 3) := by decide +kernel
theorem dL_law_1968 : decode cL_law 1968 = .ok (.aload_n 2, 1) := by decide +kernel
theorem dL_law_1969 : decode cL_law 1969 = .ok (.aload_n 0, 1) := by decide +kernel
theorem dL_law_1970 : decode cL_law 1970 = .ok (.iload_n 3, 1) := by decide +kernel
theorem dL_law_1971 : decode cL_law 1971 = .ok (.iconst 1, 1) := by decide +kernel
theorem dL_law_1972 : decode cL_law 1972 = .ok (.iadd, 1) := by decide +kernel
theorem dL_law_1973 : decode cL_law 1973 = .ok (.iaload, 1) := by decide +kernel
theorem dL_law_1974 : decode cL_law 1974 = .ok (.aload_n 0, 1) := by decide +kernel
theorem dL_law_1975 : decode cL_law 1975 = .ok (.iload_n 3, 1) := by decide +kernel
theorem dL_law_1976 : decode cL_law 1976 = .ok (.iconst 2, 1) := by decide +kernel
theorem dL_law_1977 : decode cL_law 1977 = .ok (.iadd, 1) := by decide +kernel
theorem dL_law_1978 : decode cL_law 1978 = .ok (.iaload, 1) := by decide +kernel
theorem dL_law_1979 : decode cL_law 1979 = .ok (.aload_n 0, 1) := by decide +kernel
theorem dL_law_1980 : decode cL_law 1980 = .ok (.iload_n 3, 1) := by decide +kernel
theorem dL_law_1981 : decode cL_law 1981 = .ok (.iconst 3, 1) := by decide +kernel
theorem dL_law_1982 : decode cL_law 1982 = .ok (.iadd, 1) := by decide +kernel
theorem dL_law_1983 : decode cL_law 1983 = .ok (.iaload, 1) := by decide +kernel
theorem dL_law_1984 : decode cL_law 1984 = .ok (.i2l, 1) := by decide +kernel
theorem dL_law_1985 : decode cL_law 1985 = .ok (.bipush 32, 2) := by decide +kernel
theorem dL_law_1987 : decode cL_law 1987 = .ok (.lshl, 1) := by decide +kernel
theorem dL_law_1988 : decode cL_law 1988 = .ok (.aload_n 0, 1) := by decide +kernel
theorem dL_law_1989 : decode cL_law 1989 = .ok (.iload_n 3, 1) := by decide +kernel
theorem dL_law_1990 : decode cL_law 1990 = .ok (.iconst 4, 1) := by decide +kernel
theorem dL_law_1991 : decode cL_law 1991 = .ok (.iadd, 1) := by decide +kernel
theorem dL_law_1992 : decode cL_law 1992 = .ok (.iaload, 1) := by decide +kernel
theorem dL_law_1993 : decode cL_law 1993 = .ok (.i2l, 1) := by decide +kernel
theorem dL_law_1994 : decode cL_law 1994 = .ok (.ldc2_w 264, 3) := by decide +kernel
theorem dL_law_1997 : decode cL_law 1997 = .ok (.land, 1) := by decide +kernel
theorem dL_law_1998 : decode cL_law 1998 = .ok (.lor, 1) := by decide +kernel
theorem dL_law_1999 : decode cL_law 1999 = .ok (.invokevirtual 270, 3) := by decide +kernel
theorem dL_law_2002 : decode cL_law 2002 = .ok (.if_icmp .eq 68, 3) := by decide +kernel
set_option maxRecDepth 20000 in
theorem gL_X11_write : GoodIn lw_tbl (wsV RL 266 RX11 yX11_write vX11_write) := goodIn_r _ [1240, 1241, 1242, 98, 1243, 959, 960, 98, 961, 490, 322, 499, 501, 503, 505, 507, 509, 511, 513, 515, 517, 519, 521, 523, 525, 328, 330, 332, 334] (by decide +kernel) (by decide +kernel)
set_option maxRecDepth 20000 in
theorem gL_X12_write : GoodIn lw_tbl (wsV RL 270 RX12 yX12_write vX12_write) := goodIn_r _ [1915, 1916, 1917, 110, 1918, 1734, 1735, 110, 1736, 1737, 1387, 1388, 1389, 1297, 1301, 1303, 1305, 1307, 1309, 1311, 1313, 1315, 1317, 1319, 1321, 1323, 1325, 1327, 1329, 1331, 1333, 1335, 1337, 1339, 1341, 1343, 1345, 1347, 1349, 1351, 1353, 1355, 1357, 1359, 1361, 1363, 1365, 1367, 1369, 1371, 1373, 1375, 1377, 1379] (by decide +kernel) (by decide +kernel)
set_option maxHeartbeats 8000000 in
set_option maxRecDepth 100000 in
theorem law_c61 {p : Program} {e : Env} {s : State} {m : MethodId} {below : List Frame} {meth : Method} {c : Code} (l : Launch) {b : Nat} {xs : Nat → Int32} {D : va_G} {cs : Nat → ClassId} {ad : Nat → Nat} {g : Nat → va_E} {H : Heap} {locs : List Loc} (C0 : lw_At p s m meth c b 6 xs) (X : CxL p s m b meth c D cs) (hj : wJ ad nW) (hA : ∀ i, i < nW → AL s (ad i)) (hFX : FrX cs ad g) (hFM : FrM cs ad g) (hP : va_P D vwCl (wL ad g nW) H) (hS : va_S (AL s) s.heap H locs) (ls : Array Slot) (hl : lv_has ls 4 [(3, .int 0), (2, .ref (ad 197)), (1, .ref (ad 0)), (0, .ref b)]) : W p l e room_1 s m #[Value.ref b] below meth c H locs 218 6259 (lw_Z below #[Value.ref b] s) (F0 m 1934 ls []) := by
  have hx := X.1
  have hb : c.code = cL_law := X.2.1
  obtain ⟨-, -, -, -, -, -, hX, hbl, -, -⟩ := id C0
  have hbA : ¬ AL s b := Nat.not_le.mpr hbl
  refine lv_aload_n hx hb dL_law_1934 rfl (lv_at hl 2 rfl) ?_
  refine lv_aload_n hx hb dL_law_1935 rfl (lv_at hl 3 rfl) ?_
  refine lv_iload_n hx hb dL_law_1936 rfl (lv_at hl 0 rfl) ?_
  refine lv_iconst (v := 1) hx hb dL_law_1937 (by decide) ?_
  refine lv_iadd hx hb dL_law_1938 ?_
  refine lv_topi (fun z_1 ez_1 => ?_)
  obtain rfl : z_1 = 1 := ez_1.trans (by decide)
  refine va_sld hx hb hX hbl hbA hS (i := 1) (by unfold vp_in; decide) dL_law_1939 ?_
  refine lv_aload_n hx hb dL_law_1940 rfl (lv_at hl 3 rfl) ?_
  refine lv_iload_n hx hb dL_law_1941 rfl (lv_at hl 0 rfl) ?_
  refine lv_iconst (v := 2) hx hb dL_law_1942 (by decide) ?_
  refine lv_iadd hx hb dL_law_1943 ?_
  refine lv_topi (fun z_2 ez_2 => ?_)
  obtain rfl : z_2 = 2 := ez_2.trans (by decide)
  refine va_sld hx hb hX hbl hbA hS (i := 2) (by unfold vp_in; decide) dL_law_1944 ?_
  refine lv_aload_n hx hb dL_law_1945 rfl (lv_at hl 3 rfl) ?_
  refine lv_iload_n hx hb dL_law_1946 rfl (lv_at hl 0 rfl) ?_
  refine lv_iconst (v := 3) hx hb dL_law_1947 (by decide) ?_
  refine lv_iadd hx hb dL_law_1948 ?_
  refine lv_topi (fun z_3 ez_3 => ?_)
  obtain rfl : z_3 = 3 := ez_3.trans (by decide)
  refine va_sld hx hb hX hbl hbA hS (i := 3) (by unfold vp_in; decide) dL_law_1949 ?_
  refine lv_i2l hx hb dL_law_1950 rfl ?_
  refine lv_topl (fun z_4 ez_4 => ?_)
  refine lv_bipush (v := 32) hx hb dL_law_1951 (by decide) ?_
  refine lv_lshl hx hb dL_law_1953 rfl ?_
  refine lv_topl (fun z_5 ez_5 => ?_)
  refine lv_aload_n hx hb dL_law_1954 rfl (lv_at hl 3 rfl) ?_
  refine lv_iload_n hx hb dL_law_1955 rfl (lv_at hl 0 rfl) ?_
  refine lv_iconst (v := 4) hx hb dL_law_1956 (by decide) ?_
  refine lv_iadd hx hb dL_law_1957 ?_
  refine lv_topi (fun z_6 ez_6 => ?_)
  obtain rfl : z_6 = 4 := ez_6.trans (by decide)
  refine va_sld hx hb hX hbl hbA hS (i := 4) (by unfold vp_in; decide) dL_law_1958 ?_
  refine lv_i2l hx hb dL_law_1959 rfl ?_
  refine lv_topl (fun z_7 ez_7 => ?_)
  refine lv_ldc2 (v := 4294967295) hx hb X.2.2.2.2.2.1 (X.2.2.2.2.1 _ (List.mem_of_getElem? (i := 1926) (by decide +kernel))) dL_law_1960 ?_
  refine lv_land hx hb dL_law_1963 ?_
  refine lv_topl (fun z_8 ez_8 => ?_)
  refine lv_lor hx hb dL_law_1964 ?_
  refine lv_topl (fun z_9 ez_9 => ?_)
  refine q_calli (q := (RX11, TX11, 14)) (As := [.int (xs (Int32.toNatClampNeg 1)), .int (xs (Int32.toNatClampNeg 2)), .long z_9]) (rest := []) X (k_write l D cs ad hj g (xs (Int32.toNatClampNeg 1)) (xs (Int32.toNatClampNeg 2)) z_9 hFX.1 hFX.2.2.2.2.2.2.2.2.2.2.2.2.2.2.2.2.2.2.2.2.2.2.2.2.2.2.2.2.2.2.2.2.2.2.2.2.2.2.2.2.2.2.2.2.2.2.2.2.2.2.2.2.2.2.2.2.2.2.2.2.1 hFX.2.2.2.2.2.2.2.2.2.2.2.2.2.2.2.2.2.2.2.2.2.2.2.2.2.2.2.2.2.2.2.2.2.2.2.2.2.2.2.2.2.2.2.2.2.2.2.2.2.2.2.2.2.2.2.2.2.2.2.2.2.1 hFX.2.2.2.2.2.2.2.2.2.2.2.2.2.2.2.2.2.2.2.2.2.2.2.2.2.2.2.2.2.2.2.2.2.2.2.2.2.2.2.2.2.2.2.2.2.2.2.2.2.2.2.2.2.2.2.2.2.2.2.2.2.2.2.1 hFX.2.2.2.2.2.2.2.2.2.2.2.2.2.2.2.2.2.2.2.2.2.2.2.2.2.2.2.2.2.2.2.2.2.2.2.2.2.2.2.2.2.2.2.2.2.2.2.2.2.2.2.2.2.2.2.2.2.2.2.2.2.2.2.2.2.1 hFX.2.2.2.2.2.2.2.2.2.2.2.2.2.2.2.2.2.2.2.2.2.2.2.2.2.2.2.2.2.2.2.2.2.2.2.2.2.2.2.2.2.2.2.2.2.2.2.2.2.2.2.2.2.2.2.2.2.2.2.2.2.2.2.2.2.2.2.1) (cwV 3 X.2.2.2.2.1 gL_X11_write rfl rfl rfl (by decide +kernel) ⟨Nat.le_of_ble_eq_true rfl, Nat.le_of_ble_eq_true rfl⟩) (by decide) (hFX.1) rfl hP hA hS rfl hl.1 rfl (Nat.le_of_ble_eq_true rfl) dL_law_1965 ⟨Nat.le_of_ble_eq_true rfl, Nat.le_of_ble_eq_true rfl⟩ (fun r_11 g_10 H locs hw_12 hP hS => ?_)
  obtain ⟨hw_12, hw_12f⟩ := hw_12
  subst hw_12
  refine lv_aload_n hx hb dL_law_1968 rfl (lv_at hl 1 rfl) ?_
  refine lv_aload_n hx hb dL_law_1969 rfl (lv_at hl 3 rfl) ?_
  refine lv_iload_n hx hb dL_law_1970 rfl (lv_at hl 0 rfl) ?_
  refine lv_iconst (v := 1) hx hb dL_law_1971 (by decide) ?_
  refine lv_iadd hx hb dL_law_1972 ?_
  refine lv_topi (fun z_13 ez_13 => ?_)
  obtain rfl : z_13 = 1 := ez_13.trans (by decide)
  refine va_sld hx hb hX hbl hbA hS (i := 1) (by unfold vp_in; decide) dL_law_1973 ?_
  refine lv_aload_n hx hb dL_law_1974 rfl (lv_at hl 3 rfl) ?_
  refine lv_iload_n hx hb dL_law_1975 rfl (lv_at hl 0 rfl) ?_
  refine lv_iconst (v := 2) hx hb dL_law_1976 (by decide) ?_
  refine lv_iadd hx hb dL_law_1977 ?_
  refine lv_topi (fun z_14 ez_14 => ?_)
  obtain rfl : z_14 = 2 := ez_14.trans (by decide)
  refine va_sld hx hb hX hbl hbA hS (i := 2) (by unfold vp_in; decide) dL_law_1978 ?_
  refine lv_aload_n hx hb dL_law_1979 rfl (lv_at hl 3 rfl) ?_
  refine lv_iload_n hx hb dL_law_1980 rfl (lv_at hl 0 rfl) ?_
  refine lv_iconst (v := 3) hx hb dL_law_1981 (by decide) ?_
  refine lv_iadd hx hb dL_law_1982 ?_
  refine lv_topi (fun z_15 ez_15 => ?_)
  obtain rfl : z_15 = 3 := ez_15.trans (by decide)
  refine va_sld hx hb hX hbl hbA hS (i := 3) (by unfold vp_in; decide) dL_law_1983 ?_
  refine lv_i2l hx hb dL_law_1984 rfl ?_
  refine lv_topl (fun z_16 ez_16 => ?_)
  refine lv_bipush (v := 32) hx hb dL_law_1985 (by decide) ?_
  refine lv_lshl hx hb dL_law_1987 rfl ?_
  refine lv_topl (fun z_17 ez_17 => ?_)
  refine lv_aload_n hx hb dL_law_1988 rfl (lv_at hl 3 rfl) ?_
  refine lv_iload_n hx hb dL_law_1989 rfl (lv_at hl 0 rfl) ?_
  refine lv_iconst (v := 4) hx hb dL_law_1990 (by decide) ?_
  refine lv_iadd hx hb dL_law_1991 ?_
  refine lv_topi (fun z_18 ez_18 => ?_)
  obtain rfl : z_18 = 4 := ez_18.trans (by decide)
  refine va_sld hx hb hX hbl hbA hS (i := 4) (by unfold vp_in; decide) dL_law_1992 ?_
  refine lv_i2l hx hb dL_law_1993 rfl ?_
  refine lv_topl (fun z_19 ez_19 => ?_)
  refine lv_ldc2 (v := 4294967295) hx hb X.2.2.2.2.2.1 (X.2.2.2.2.1 _ (List.mem_of_getElem? (i := 1926) (by decide +kernel))) dL_law_1994 ?_
  refine lv_land hx hb dL_law_1997 ?_
  refine lv_topl (fun z_20 ez_20 => ?_)
  refine lv_lor hx hb dL_law_1998 ?_
  refine lv_topl (fun z_21 ez_21 => ?_)
  refine q_calli (q := (RX12, TX12, 40)) (As := [.int (xs (Int32.toNatClampNeg 1)), .int (xs (Int32.toNatClampNeg 2)), .long z_21]) (rest := [.int (aWr (xs (Int32.toNatClampNeg 1)))]) X (m_write l D cs ad hj g_10 (xs (Int32.toNatClampNeg 1)) (xs (Int32.toNatClampNeg 2)) z_21 ((hw_12f 197 (by decide)).trans hFM.1) ((hw_12f 214 (by decide)).trans hFM.2.2.2.2.2.2.2.2.2.2.2.2.2.2.2.2.2.1)) (cwV 3 X.2.2.2.2.1 gL_X12_write rfl rfl rfl (by decide +kernel) ⟨Nat.le_of_ble_eq_true rfl, Nat.le_of_ble_eq_true rfl⟩) (by decide) (((hw_12f 197 (by decide)).trans hFM.1)) rfl hP hA hS rfl hl.1 rfl (Nat.le_of_ble_eq_true rfl) dL_law_1999 ⟨Nat.le_of_ble_eq_true rfl, Nat.le_of_ble_eq_true rfl⟩ (fun r_23 g_22 H locs hw_24 hP hS => ?_)
  subst hw_24
  refine lv_icmp_eq (tgt := 2070) hx hb dL_law_2002 (by decide) (fun _ => ?_) (fun h => absurd rfl h)
  exact law_tail l C0 X hS ls hl

theorem dL_law_2007 : decode cL_law 2007 = .ok (.aload_n 1, 1) := by decide +kernel
theorem dL_law_2008 : decode cL_law 2008 = .ok (.aload_n 0, 1) := by decide +kernel
theorem dL_law_2009 : decode cL_law 2009 = .ok (.iload_n 3, 1) := by decide +kernel
theorem dL_law_2010 : decode cL_law 2010 = .ok (.iconst 1, 1) := by decide +kernel
theorem dL_law_2011 : decode cL_law 2011 = .ok (.iadd, 1) := by decide +kernel
theorem dL_law_2012 : decode cL_law 2012 = .ok (.iaload, 1) := by decide +kernel
theorem dL_law_2013 : decode cL_law 2013 = .ok (.aload_n 0, 1) := by decide +kernel
theorem dL_law_2014 : decode cL_law 2014 = .ok (.iload_n 3, 1) := by decide +kernel
theorem dL_law_2015 : decode cL_law 2015 = .ok (.iconst 2, 1) := by decide +kernel
theorem dL_law_2016 : decode cL_law 2016 = .ok (.iadd, 1) := by decide +kernel
theorem dL_law_2017 : decode cL_law 2017 = .ok (.iaload, 1) := by decide +kernel
theorem dL_law_2018 : decode cL_law 2018 = .ok (.aload_n 0, 1) := by decide +kernel
theorem dL_law_2019 : decode cL_law 2019 = .ok (.iload_n 3, 1) := by decide +kernel
theorem dL_law_2020 : decode cL_law 2020 = .ok (.iconst 3, 1) := by decide +kernel
theorem dL_law_2021 : decode cL_law 2021 = .ok (.iadd, 1) := by decide +kernel
theorem dL_law_2022 : decode cL_law 2022 = .ok (.iaload, 1) := by decide +kernel
theorem dL_law_2023 : decode cL_law 2023 = .ok (.aload_n 0, 1) := by decide +kernel
theorem dL_law_2024 : decode cL_law 2024 = .ok (.iload_n 3, 1) := by decide +kernel
theorem dL_law_2025 : decode cL_law 2025 = .ok (.iconst 4, 1) := by decide +kernel
theorem dL_law_2026 : decode cL_law 2026 = .ok (.iadd, 1) := by decide +kernel
theorem dL_law_2027 : decode cL_law 2027 = .ok (.iaload, 1) := by decide +kernel
theorem dL_law_2028 : decode cL_law 2028 = .ok (.aload_n 0, 1) := by decide +kernel
theorem dL_law_2029 : decode cL_law 2029 = .ok (.iload_n 3, 1) := by decide +kernel
theorem dL_law_2030 : decode cL_law 2030 = .ok (.iconst 5, 1) := by decide +kernel
theorem dL_law_2031 : decode cL_law 2031 = .ok (.iadd, 1) := by decide +kernel
theorem dL_law_2032 : decode cL_law 2032 = .ok (.iaload, 1) := by decide +kernel
theorem dL_law_2033 : decode cL_law 2033 = .ok (.invokevirtual 271, 3) := by decide +kernel
theorem dL_law_2036 : decode cL_law 2036 = .ok (.aload_n 2, 1) := by decide +kernel
theorem dL_law_2037 : decode cL_law 2037 = .ok (.aload_n 0, 1) := by decide +kernel
theorem dL_law_2038 : decode cL_law 2038 = .ok (.iload_n 3, 1) := by decide +kernel
theorem dL_law_2039 : decode cL_law 2039 = .ok (.iconst 1, 1) := by decide +kernel
theorem dL_law_2040 : decode cL_law 2040 = .ok (.iadd, 1) := by decide +kernel
theorem dL_law_2041 : decode cL_law 2041 = .ok (.iaload, 1) := by decide +kernel
theorem dL_law_2042 : decode cL_law 2042 = .ok (.aload_n 0, 1) := by decide +kernel
theorem dL_law_2043 : decode cL_law 2043 = .ok (.iload_n 3, 1) := by decide +kernel
theorem dL_law_2044 : decode cL_law 2044 = .ok (.iconst 2, 1) := by decide +kernel
theorem dL_law_2045 : decode cL_law 2045 = .ok (.iadd, 1) := by decide +kernel
theorem dL_law_2046 : decode cL_law 2046 = .ok (.iaload, 1) := by decide +kernel
theorem dL_law_2047 : decode cL_law 2047 = .ok (.aload_n 0, 1) := by decide +kernel
theorem dL_law_2048 : decode cL_law 2048 = .ok (.iload_n 3, 1) := by decide +kernel
theorem dL_law_2049 : decode cL_law 2049 = .ok (.iconst 3, 1) := by decide +kernel
theorem dL_law_2050 : decode cL_law 2050 = .ok (.iadd, 1) := by decide +kernel
theorem dL_law_2051 : decode cL_law 2051 = .ok (.iaload, 1) := by decide +kernel
theorem dL_law_2052 : decode cL_law 2052 = .ok (.aload_n 0, 1) := by decide +kernel
theorem dL_law_2053 : decode cL_law 2053 = .ok (.iload_n 3, 1) := by decide +kernel
theorem dL_law_2054 : decode cL_law 2054 = .ok (.iconst 4, 1) := by decide +kernel
theorem dL_law_2055 : decode cL_law 2055 = .ok (.iadd, 1) := by decide +kernel
theorem dL_law_2056 : decode cL_law 2056 = .ok (.iaload, 1) := by decide +kernel
theorem dL_law_2057 : decode cL_law 2057 = .ok (.aload_n 0, 1) := by decide +kernel
theorem dL_law_2058 : decode cL_law 2058 = .ok (.iload_n 3, 1) := by decide +kernel
theorem dL_law_2059 : decode cL_law 2059 = .ok (.iconst 5, 1) := by decide +kernel
theorem dL_law_2060 : decode cL_law 2060 = .ok (.iadd, 1) := by decide +kernel
theorem dL_law_2061 : decode cL_law 2061 = .ok (.iaload, 1) := by decide +kernel
theorem dL_law_2062 : decode cL_law 2062 = .ok (.invokevirtual 274, 3) := by decide +kernel
theorem dL_law_2065 : decode cL_law 2065 = .ok (.if_icmp .eq 5, 3) := by decide +kernel
set_option maxRecDepth 20000 in
theorem gL_X11_paste : GoodIn lw_tbl (wsV RL 271 RX11 yX11_paste vX11_paste) := goodIn_r _ [1248, 1249, 1250, 98, 1251, 959, 960, 98, 961, 490, 322, 499, 501, 503, 505, 507, 509, 511, 513, 515, 517, 519, 521, 523, 525, 328, 330, 332, 334] (by decide +kernel) (by decide +kernel)
set_option maxRecDepth 20000 in
theorem gL_X12_paste : GoodIn lw_tbl (wsV RL 274 RX12 yX12_paste vX12_paste) := goodIn_r _ [1922, 1923, 1924, 110, 1925, 1734, 1735, 110, 1736, 1737, 1387, 1388, 1389, 1297, 1301, 1303, 1305, 1307, 1309, 1311, 1313, 1315, 1317, 1319, 1321, 1323, 1325, 1327, 1329, 1331, 1333, 1335, 1337, 1339, 1341, 1343, 1345, 1347, 1349, 1351, 1353, 1355, 1357, 1359, 1361, 1363, 1365, 1367, 1369, 1371, 1373, 1375, 1377, 1379] (by decide +kernel) (by decide +kernel)
set_option maxHeartbeats 8000000 in
set_option maxRecDepth 100000 in
theorem law_c62 {p : Program} {e : Env} {s : State} {m : MethodId} {below : List Frame} {meth : Method} {c : Code} (l : Launch) {b : Nat} {xs : Nat → Int32} {D : va_G} {cs : Nat → ClassId} {ad : Nat → Nat} {g : Nat → va_E} {H : Heap} {locs : List Loc} (C0 : lw_At p s m meth c b 6 xs) (X : CxL p s m b meth c D cs) (hj : wJ ad nW) (hA : ∀ i, i < nW → AL s (ad i)) (hFX : FrX cs ad g) (hFM : FrM cs ad g) (hP : va_P D vwCl (wL ad g nW) H) (hS : va_S (AL s) s.heap H locs) (ls : Array Slot) (hl : lv_has ls 4 [(3, .int 0), (2, .ref (ad 197)), (1, .ref (ad 0)), (0, .ref b)]) : W p l e room_1 s m #[Value.ref b] below meth c H locs 218 6259 (lw_Z below #[Value.ref b] s) (F0 m 2007 ls []) := by
  have hx := X.1
  have hb : c.code = cL_law := X.2.1
  obtain ⟨-, -, -, -, -, -, hX, hbl, -, -⟩ := id C0
  have hbA : ¬ AL s b := Nat.not_le.mpr hbl
  refine lv_aload_n hx hb dL_law_2007 rfl (lv_at hl 2 rfl) ?_
  refine lv_aload_n hx hb dL_law_2008 rfl (lv_at hl 3 rfl) ?_
  refine lv_iload_n hx hb dL_law_2009 rfl (lv_at hl 0 rfl) ?_
  refine lv_iconst (v := 1) hx hb dL_law_2010 (by decide) ?_
  refine lv_iadd hx hb dL_law_2011 ?_
  refine lv_topi (fun z_1 ez_1 => ?_)
  obtain rfl : z_1 = 1 := ez_1.trans (by decide)
  refine va_sld hx hb hX hbl hbA hS (i := 1) (by unfold vp_in; decide) dL_law_2012 ?_
  refine lv_aload_n hx hb dL_law_2013 rfl (lv_at hl 3 rfl) ?_
  refine lv_iload_n hx hb dL_law_2014 rfl (lv_at hl 0 rfl) ?_
  refine lv_iconst (v := 2) hx hb dL_law_2015 (by decide) ?_
  refine lv_iadd hx hb dL_law_2016 ?_
  refine lv_topi (fun z_2 ez_2 => ?_)
  obtain rfl : z_2 = 2 := ez_2.trans (by decide)
  refine va_sld hx hb hX hbl hbA hS (i := 2) (by unfold vp_in; decide) dL_law_2017 ?_
  refine lv_aload_n hx hb dL_law_2018 rfl (lv_at hl 3 rfl) ?_
  refine lv_iload_n hx hb dL_law_2019 rfl (lv_at hl 0 rfl) ?_
  refine lv_iconst (v := 3) hx hb dL_law_2020 (by decide) ?_
  refine lv_iadd hx hb dL_law_2021 ?_
  refine lv_topi (fun z_3 ez_3 => ?_)
  obtain rfl : z_3 = 3 := ez_3.trans (by decide)
  refine va_sld hx hb hX hbl hbA hS (i := 3) (by unfold vp_in; decide) dL_law_2022 ?_
  refine lv_aload_n hx hb dL_law_2023 rfl (lv_at hl 3 rfl) ?_
  refine lv_iload_n hx hb dL_law_2024 rfl (lv_at hl 0 rfl) ?_
  refine lv_iconst (v := 4) hx hb dL_law_2025 (by decide) ?_
  refine lv_iadd hx hb dL_law_2026 ?_
  refine lv_topi (fun z_4 ez_4 => ?_)
  obtain rfl : z_4 = 4 := ez_4.trans (by decide)
  refine va_sld hx hb hX hbl hbA hS (i := 4) (by unfold vp_in; decide) dL_law_2027 ?_
  refine lv_aload_n hx hb dL_law_2028 rfl (lv_at hl 3 rfl) ?_
  refine lv_iload_n hx hb dL_law_2029 rfl (lv_at hl 0 rfl) ?_
  refine lv_iconst (v := 5) hx hb dL_law_2030 (by decide) ?_
  refine lv_iadd hx hb dL_law_2031 ?_
  refine lv_topi (fun z_5 ez_5 => ?_)
  obtain rfl : z_5 = 5 := ez_5.trans (by decide)
  refine va_sld hx hb hX hbl hbA hS (i := 5) (by unfold vp_in; decide) dL_law_2032 ?_
  refine q_calli (q := (RX11, TX11, 14)) (As := [.int (xs (Int32.toNatClampNeg 1)), .int (xs (Int32.toNatClampNeg 2)), .int (xs (Int32.toNatClampNeg 3)), .int (xs (Int32.toNatClampNeg 4)), .int (xs (Int32.toNatClampNeg 5))]) (rest := []) X (k_paste l D cs ad hj g (xs (Int32.toNatClampNeg 1)) (xs (Int32.toNatClampNeg 2)) (xs (Int32.toNatClampNeg 3)) (xs (Int32.toNatClampNeg 4)) (xs (Int32.toNatClampNeg 5)) hFX.1 hFX.2.2.2.2.2.2.2.2.2.2.2.2.2.2.2.2.2.2.2.2.2.2.2.2.2.2.2.2.2.2.2.2.2.2.2.2.2.2.2.2.2.2.2.2.2.2.2.2.2.2.2.2.2.2.2.2.2.2.2.2.1 hFX.2.2.2.2.2.2.2.2.2.2.2.2.2.2.2.2.2.2.2.2.2.2.2.2.2.2.2.2.2.2.2.2.2.2.2.2.2.2.2.2.2.2.2.2.2.2.2.2.2.2.2.2.2.2.2.2.2.2.2.2.2.1 hFX.2.2.2.2.2.2.2.2.2.2.2.2.2.2.2.2.2.2.2.2.2.2.2.2.2.2.2.2.2.2.2.2.2.2.2.2.2.2.2.2.2.2.2.2.2.2.2.2.2.2.2.2.2.2.2.2.2.2.2.2.2.2.2.1 hFX.2.2.2.2.2.2.2.2.2.2.2.2.2.2.2.2.2.2.2.2.2.2.2.2.2.2.2.2.2.2.2.2.2.2.2.2.2.2.2.2.2.2.2.2.2.2.2.2.2.2.2.2.2.2.2.2.2.2.2.2.2.2.2.2.2.1 hFX.2.2.2.2.2.2.2.2.2.2.2.2.2.2.2.2.2.2.2.2.2.2.2.2.2.2.2.2.2.2.2.2.2.2.2.2.2.2.2.2.2.2.2.2.2.2.2.2.2.2.2.2.2.2.2.2.2.2.2.2.2.2.2.2.2.2.2.1) (cwV 5 X.2.2.2.2.1 gL_X11_paste rfl rfl rfl (by decide +kernel) ⟨Nat.le_of_ble_eq_true rfl, Nat.le_of_ble_eq_true rfl⟩) (by decide) (hFX.1) rfl hP hA hS rfl hl.1 rfl (Nat.le_of_ble_eq_true rfl) dL_law_2033 ⟨Nat.le_of_ble_eq_true rfl, Nat.le_of_ble_eq_true rfl⟩ (fun r_7 g_6 H locs hw_8 hP hS => ?_)
  obtain ⟨hw_8, hw_8f⟩ := hw_8
  subst hw_8
  refine lv_aload_n hx hb dL_law_2036 rfl (lv_at hl 1 rfl) ?_
  refine lv_aload_n hx hb dL_law_2037 rfl (lv_at hl 3 rfl) ?_
  refine lv_iload_n hx hb dL_law_2038 rfl (lv_at hl 0 rfl) ?_
  refine lv_iconst (v := 1) hx hb dL_law_2039 (by decide) ?_
  refine lv_iadd hx hb dL_law_2040 ?_
  refine lv_topi (fun z_9 ez_9 => ?_)
  obtain rfl : z_9 = 1 := ez_9.trans (by decide)
  refine va_sld hx hb hX hbl hbA hS (i := 1) (by unfold vp_in; decide) dL_law_2041 ?_
  refine lv_aload_n hx hb dL_law_2042 rfl (lv_at hl 3 rfl) ?_
  refine lv_iload_n hx hb dL_law_2043 rfl (lv_at hl 0 rfl) ?_
  refine lv_iconst (v := 2) hx hb dL_law_2044 (by decide) ?_
  refine lv_iadd hx hb dL_law_2045 ?_
  refine lv_topi (fun z_10 ez_10 => ?_)
  obtain rfl : z_10 = 2 := ez_10.trans (by decide)
  refine va_sld hx hb hX hbl hbA hS (i := 2) (by unfold vp_in; decide) dL_law_2046 ?_
  refine lv_aload_n hx hb dL_law_2047 rfl (lv_at hl 3 rfl) ?_
  refine lv_iload_n hx hb dL_law_2048 rfl (lv_at hl 0 rfl) ?_
  refine lv_iconst (v := 3) hx hb dL_law_2049 (by decide) ?_
  refine lv_iadd hx hb dL_law_2050 ?_
  refine lv_topi (fun z_11 ez_11 => ?_)
  obtain rfl : z_11 = 3 := ez_11.trans (by decide)
  refine va_sld hx hb hX hbl hbA hS (i := 3) (by unfold vp_in; decide) dL_law_2051 ?_
  refine lv_aload_n hx hb dL_law_2052 rfl (lv_at hl 3 rfl) ?_
  refine lv_iload_n hx hb dL_law_2053 rfl (lv_at hl 0 rfl) ?_
  refine lv_iconst (v := 4) hx hb dL_law_2054 (by decide) ?_
  refine lv_iadd hx hb dL_law_2055 ?_
  refine lv_topi (fun z_12 ez_12 => ?_)
  obtain rfl : z_12 = 4 := ez_12.trans (by decide)
  refine va_sld hx hb hX hbl hbA hS (i := 4) (by unfold vp_in; decide) dL_law_2056 ?_
  refine lv_aload_n hx hb dL_law_2057 rfl (lv_at hl 3 rfl) ?_
  refine lv_iload_n hx hb dL_law_2058 rfl (lv_at hl 0 rfl) ?_
  refine lv_iconst (v := 5) hx hb dL_law_2059 (by decide) ?_
  refine lv_iadd hx hb dL_law_2060 ?_
  refine lv_topi (fun z_13 ez_13 => ?_)
  obtain rfl : z_13 = 5 := ez_13.trans (by decide)
  refine va_sld hx hb hX hbl hbA hS (i := 5) (by unfold vp_in; decide) dL_law_2061 ?_
  refine q_calli (q := (RX12, TX12, 40)) (As := [.int (xs (Int32.toNatClampNeg 1)), .int (xs (Int32.toNatClampNeg 2)), .int (xs (Int32.toNatClampNeg 3)), .int (xs (Int32.toNatClampNeg 4)), .int (xs (Int32.toNatClampNeg 5))]) (rest := [.int (aPst (xs (Int32.toNatClampNeg 1)) (xs (Int32.toNatClampNeg 3)))]) X (m_paste l D cs ad hj g_6 (xs (Int32.toNatClampNeg 1)) (xs (Int32.toNatClampNeg 2)) (xs (Int32.toNatClampNeg 3)) (xs (Int32.toNatClampNeg 4)) (xs (Int32.toNatClampNeg 5)) ((hw_8f 197 (by decide)).trans hFM.1) ((hw_8f 214 (by decide)).trans hFM.2.2.2.2.2.2.2.2.2.2.2.2.2.2.2.2.2.1)) (cwV 5 X.2.2.2.2.1 gL_X12_paste rfl rfl rfl (by decide +kernel) ⟨Nat.le_of_ble_eq_true rfl, Nat.le_of_ble_eq_true rfl⟩) (by decide) (((hw_8f 197 (by decide)).trans hFM.1)) rfl hP hA hS rfl hl.1 rfl (Nat.le_of_ble_eq_true rfl) dL_law_2062 ⟨Nat.le_of_ble_eq_true rfl, Nat.le_of_ble_eq_true rfl⟩ (fun r_15 g_14 H locs hw_16 hP hS => ?_)
  subst hw_16
  refine lv_icmp_eq (tgt := 2070) hx hb dL_law_2065 (by decide) (fun _ => ?_) (fun h => absurd rfl h)
  exact law_tail l C0 X hS ls hl
