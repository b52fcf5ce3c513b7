/-! the cases 32 to 39 of the law -/
section
variable {p : Program} {l : Launch} {e : Env} {s : State} {m : MethodId} {args : Array Value} {below : List Frame} {meth : Method} {c : Code} {H : Heap} {locs : List Loc} {cells slots : Nat} {Q : State → Prop}
variable {ls : Array Slot} {D : va_G} {A0 : Nat → Prop} {cI cL : ClassId} {u a b : Nat → Nat} {o x L : Nat} {xs : Nat → Int32} {S : Nat → Nat → Nat} {th : Int32} {K : Nat → Nat} {S2 : Nat → Nat → Nat} {f : Nat → Int64}
set_option maxRecDepth 100000 in
set_option maxHeartbeats 4000000 in
theorem lc_32 (F : LF p s m c args) (X : LX l s D A0 cI cL x L xs) {i : Nat} (hi : i + 4 ≤ L) (hc : cells + 149 ≤ 601024) (hs : slots + 944 ≤ 7293033) (G : LG s D A0 cI cL u o a b x i S th K S2 f H locs ls) (N : LN p l e s m args below meth c Q D A0 cI cL u o a b x i cells slots) : W p l e room_1 s m args below meth c H locs cells slots Q (F0 m 1770 ls []) := by
  obtain ⟨hI, hP, hD, hS, hl⟩ := G
  have hl : lv_has ls 9 [(4, .int (nI i)), (0, .ref x), (1, .ref (a 13)), (2, .ref (u 0)), (3, .ref o)] := hl
  refine lv_aload_n F.1 F.2.1 dL_law_1770 rfl (lv_at hl 2 rfl) ?_
  refine w_rd (k := 1) F X (by decide) (by omega) hS 1 0 hl rfl rfl dL_law_1771 dL_law_1772 dL_law_1774 dL_law_1775 dL_law_1776 ?_
  refine lv_aload_n F.1 F.2.1 dL_law_1777 rfl (lv_at hl 4 rfl) ?_
  refine w_help (n := 3) (rest := []) F (c_L_inFarmAfter l D cI cL X.2.2.2.2.2.1 a b o f S S2 (xs (i + 1)) hI) gL_law_L_inFarmAfter rfl (by decide +kernel) ⟨Nat.le_of_ble_eq_true rfl, Nat.le_of_ble_eq_true rfl⟩ rfl hl.1 rfl (Nat.le_of_ble_eq_true rfl) dL_law_1778 ⟨show cells + 1 ≤ 601024 by omega, show slots + 6 * 1 ≤ 7293033 by omega⟩ X.2.1 X.2.2.1 X.2.2.2.1 hP hD hS wOC_ad (fun H locs hP hD hS => ?_)
  refine lv_istore (lv' := [(5, .int (nI ((rAfter S (xs (i + 1))).1))), (4, .int (nI i)), (0, .ref x), (1, .ref (a 13)), (2, .ref (u 0)), (3, .ref o)]) F.1 F.2.1 dL_law_1781 hl (by decide) rfl (fun ls hl => ?_)
  refine lv_aload_n F.1 F.2.1 dL_law_1783 rfl (lv_at hl 4 rfl) ?_
  refine w_rd (k := 1) F X (by decide) (by omega) hS 2 1 hl rfl rfl dL_law_1784 dL_law_1785 dL_law_1787 dL_law_1788 dL_law_1789 ?_
  refine w_headI (n := 1) (rest := []) F (c_X4_inFarmAfter l D cI u S th K (xs (i + 1)) hI) gL_law_X4_inFarmAfter rfl (by decide +kernel) ⟨Nat.le_of_ble_eq_true rfl, Nat.le_of_ble_eq_true rfl⟩ rfl hl.1 rfl (Nat.le_of_ble_eq_true rfl) dL_law_1790 ⟨show cells + 1 ≤ 601024 by omega, show slots + 6 * 1 ≤ 7293033 by omega⟩ X.1 hP hD hS wMo_ln wMo_ad (q0 := 0) (ci := 4) rfl rfl (fun H locs hP hD hS => ?_)
  refine lv_istore (lv' := [(6, .int ((rAfter S (xs (i + 1))).2)), (5, .int (nI ((rAfter S (xs (i + 1))).1))), (4, .int (nI i)), (0, .ref x), (1, .ref (a 13)), (2, .ref (u 0)), (3, .ref o)]) F.1 F.2.1 dL_law_1793 hl (by decide) rfl (fun ls hl => ?_)
  exact w_tail F X (k := (rAfter S (xs (i + 1))).1) (v := ((rAfter S (xs (i + 1))).2)) hI hP hD hS hl (Nat.le_trans (rAfter_le _ _) (by decide)) (show cells + 1 ≤ cells + 149 by omega) (show slots + 6 * 1 ≤ slots + 944 by omega) hc hs N dL_law_1795 dL_law_1796 dL_law_1799 dL_law_1801 dL_law_1806 dL_law_1808 dL_law_1811 dL_law_1812 dL_law_1813 dL_law_1814 dL_law_1816 dL_law_1817 dL_law_1818 dL_law_1823 (by decide)
set_option maxRecDepth 100000 in
set_option maxHeartbeats 4000000 in
theorem lc_33 (F : LF p s m c args) (X : LX l s D A0 cI cL x L xs) {i : Nat} (hi : i + 4 ≤ L) (hc : cells + 149 ≤ 601024) (hs : slots + 944 ≤ 7293033) (G : LG s D A0 cI cL u o a b x i S th K S2 f H locs ls) (N : LN p l e s m args below meth c Q D A0 cI cL u o a b x i cells slots) : W p l e room_1 s m args below meth c H locs cells slots Q (F0 m 1826 ls []) := by
  obtain ⟨hI, hP, hD, hS, hl⟩ := G
  have hl : lv_has ls 9 [(4, .int (nI i)), (0, .ref x), (1, .ref (a 13)), (2, .ref (u 0)), (3, .ref o)] := hl
  refine lv_aload_n F.1 F.2.1 dL_law_1826 rfl (lv_at hl 2 rfl) ?_
  refine w_rd (k := 1) F X (by decide) (by omega) hS 1 0 hl rfl rfl dL_law_1827 dL_law_1828 dL_law_1830 dL_law_1831 dL_law_1832 ?_
  refine lv_aload_n F.1 F.2.1 dL_law_1833 rfl (lv_at hl 4 rfl) ?_
  refine w_help (n := 3) (rest := []) F (c_L_cornsWanted l D cI cL X.2.2.2.2.2.1 a b o f S S2 (xs (i + 1)) hI) gL_law_L_cornsWanted rfl (by decide +kernel) ⟨Nat.le_of_ble_eq_true rfl, Nat.le_of_ble_eq_true rfl⟩ rfl hl.1 rfl (Nat.le_of_ble_eq_true rfl) dL_law_1834 ⟨show cells + 1 ≤ 601024 by omega, show slots + 6 * 1 ≤ 7293033 by omega⟩ X.2.1 X.2.2.1 X.2.2.2.1 hP hD hS wOC_ad (fun H locs hP hD hS => ?_)
  refine lv_istore (lv' := [(5, .int (nI ((r1 (S 0 2) (xs (i + 1)) (oI (cwN S (cl (xs (i + 1))) 21))).1))), (4, .int (nI i)), (0, .ref x), (1, .ref (a 13)), (2, .ref (u 0)), (3, .ref o)]) F.1 F.2.1 dL_law_1837 hl (by decide) rfl (fun ls hl => ?_)
  refine lv_aload_n F.1 F.2.1 dL_law_1839 rfl (lv_at hl 4 rfl) ?_
  refine w_rd (k := 1) F X (by decide) (by omega) hS 2 1 hl rfl rfl dL_law_1840 dL_law_1841 dL_law_1843 dL_law_1844 dL_law_1845 ?_
  refine w_headI (n := 1) (rest := []) F (c_X4_cornsWanted l D cI u S th K (xs (i + 1)) hI) gL_law_X4_cornsWanted rfl (by decide +kernel) ⟨Nat.le_of_ble_eq_true rfl, Nat.le_of_ble_eq_true rfl⟩ rfl hl.1 rfl (Nat.le_of_ble_eq_true rfl) dL_law_1846 ⟨show cells + 1 ≤ 601024 by omega, show slots + 6 * 1 ≤ 7293033 by omega⟩ X.1 hP hD hS wMo_ln wMo_ad (q0 := 0) (ci := 4) rfl rfl (fun H locs hP hD hS => ?_)
  refine lv_istore (lv' := [(6, .int ((r1 (S 0 2) (xs (i + 1)) (oI (cwN S (cl (xs (i + 1))) 21))).2)), (5, .int (nI ((r1 (S 0 2) (xs (i + 1)) (oI (cwN S (cl (xs (i + 1))) 21))).1))), (4, .int (nI i)), (0, .ref x), (1, .ref (a 13)), (2, .ref (u 0)), (3, .ref o)]) F.1 F.2.1 dL_law_1849 hl (by decide) rfl (fun ls hl => ?_)
  exact w_tail F X (k := (r1 (S 0 2) (xs (i + 1)) (oI (cwN S (cl (xs (i + 1))) 21))).1) (v := ((r1 (S 0 2) (xs (i + 1)) (oI (cwN S (cl (xs (i + 1))) 21))).2)) hI hP hD hS hl (Nat.le_trans (r1_le _ _ _) (by decide)) (show cells + 1 ≤ cells + 149 by omega) (show slots + 6 * 1 ≤ slots + 944 by omega) hc hs N dL_law_1851 dL_law_1852 dL_law_1855 dL_law_1857 dL_law_1862 dL_law_1864 dL_law_1867 dL_law_1868 dL_law_1869 dL_law_1870 dL_law_1872 dL_law_1873 dL_law_1874 dL_law_1879 (by decide)
set_option maxRecDepth 100000 in
set_option maxHeartbeats 4000000 in
theorem lc_34 (F : LF p s m c args) (X : LX l s D A0 cI cL x L xs) {i : Nat} (hi : i + 4 ≤ L) (hc : cells + 149 ≤ 601024) (hs : slots + 944 ≤ 7293033) (G : LG s D A0 cI cL u o a b x i S th K S2 f H locs ls) (N : LN p l e s m args below meth c Q D A0 cI cL u o a b x i cells slots) : W p l e room_1 s m args below meth c H locs cells slots Q (F0 m 1882 ls []) := by
  obtain ⟨hI, hP, hD, hS, hl⟩ := G
  have hl : lv_has ls 9 [(4, .int (nI i)), (0, .ref x), (1, .ref (a 13)), (2, .ref (u 0)), (3, .ref o)] := hl
  refine lv_aload_n F.1 F.2.1 dL_law_1882 rfl (lv_at hl 2 rfl) ?_
  refine w_rd (k := 1) F X (by decide) (by omega) hS 1 0 hl rfl rfl dL_law_1883 dL_law_1884 dL_law_1886 dL_law_1887 dL_law_1888 ?_
  refine lv_aload_n F.1 F.2.1 dL_law_1889 rfl (lv_at hl 4 rfl) ?_
  refine w_help (n := 3) (rest := []) F (c_L_bestToBribe l D cI cL X.2.2.2.2.2.1 a b o f S S2 (xs (i + 1)) hI) gL_law_L_bestToBribe rfl (by decide +kernel) ⟨Nat.le_of_ble_eq_true rfl, Nat.le_of_ble_eq_true rfl⟩ rfl hl.1 rfl (Nat.le_of_ble_eq_true rfl) dL_law_1890 ⟨show cells + 1 ≤ 601024 by omega, show slots + 6 * 1 ≤ 7293033 by omega⟩ X.2.1 X.2.2.1 X.2.2.2.1 hP hD hS wOC_ad (fun H locs hP hD hS => ?_)
  refine lv_istore (lv' := [(5, .int (nI ((r1 (S 0 2) (xs (i + 1)) (oI (frcN S (S 7 (cl (xs (i + 1)))) (S 0 1)).1)).1))), (4, .int (nI i)), (0, .ref x), (1, .ref (a 13)), (2, .ref (u 0)), (3, .ref o)]) F.1 F.2.1 dL_law_1893 hl (by decide) rfl (fun ls hl => ?_)
  refine lv_aload_n F.1 F.2.1 dL_law_1895 rfl (lv_at hl 4 rfl) ?_
  refine w_rd (k := 1) F X (by decide) (by omega) hS 2 1 hl rfl rfl dL_law_1896 dL_law_1897 dL_law_1899 dL_law_1900 dL_law_1901 ?_
  refine w_headI (n := 1) (rest := []) F (c_X4_bestToBribe l D cI u S th K (xs (i + 1)) hI) gL_law_X4_bestToBribe rfl (by decide +kernel) ⟨Nat.le_of_ble_eq_true rfl, Nat.le_of_ble_eq_true rfl⟩ rfl hl.1 rfl (Nat.le_of_ble_eq_true rfl) dL_law_1902 ⟨show cells + 1 ≤ 601024 by omega, show slots + 6 * 1 ≤ 7293033 by omega⟩ X.1 hP hD hS wMo_ln wMo_ad (q0 := 0) (ci := 4) rfl rfl (fun H locs hP hD hS => ?_)
  refine lv_istore (lv' := [(6, .int ((r1 (S 0 2) (xs (i + 1)) (oI (frcN S (S 7 (cl (xs (i + 1)))) (S 0 1)).1)).2)), (5, .int (nI ((r1 (S 0 2) (xs (i + 1)) (oI (frcN S (S 7 (cl (xs (i + 1)))) (S 0 1)).1)).1))), (4, .int (nI i)), (0, .ref x), (1, .ref (a 13)), (2, .ref (u 0)), (3, .ref o)]) F.1 F.2.1 dL_law_1905 hl (by decide) rfl (fun ls hl => ?_)
  exact w_tail F X (k := (r1 (S 0 2) (xs (i + 1)) (oI (frcN S (S 7 (cl (xs (i + 1)))) (S 0 1)).1)).1) (v := ((r1 (S 0 2) (xs (i + 1)) (oI (frcN S (S 7 (cl (xs (i + 1)))) (S 0 1)).1)).2)) hI hP hD hS hl (Nat.le_trans (r1_le _ _ _) (by decide)) (show cells + 1 ≤ cells + 149 by omega) (show slots + 6 * 1 ≤ slots + 944 by omega) hc hs N dL_law_1907 dL_law_1908 dL_law_1911 dL_law_1913 dL_law_1918 dL_law_1920 dL_law_1923 dL_law_1924 dL_law_1925 dL_law_1926 dL_law_1928 dL_law_1929 dL_law_1930 dL_law_1935 (by decide)
set_option maxRecDepth 100000 in
set_option maxHeartbeats 4000000 in
theorem lc_35 (F : LF p s m c args) (X : LX l s D A0 cI cL x L xs) {i : Nat} (hi : i + 4 ≤ L) (hc : cells + 149 ≤ 601024) (hs : slots + 944 ≤ 7293033) (G : LG s D A0 cI cL u o a b x i S th K S2 f H locs ls) (N : LN p l e s m args below meth c Q D A0 cI cL u o a b x i cells slots) : W p l e room_1 s m args below meth c H locs cells slots Q (F0 m 1938 ls []) := by
  obtain ⟨hI, hP, hD, hS, hl⟩ := G
  have hl : lv_has ls 9 [(4, .int (nI i)), (0, .ref x), (1, .ref (a 13)), (2, .ref (u 0)), (3, .ref o)] := hl
  refine lv_aload_n F.1 F.2.1 dL_law_1938 rfl (lv_at hl 2 rfl) ?_
  refine w_rd (k := 1) F X (by decide) (by omega) hS 1 0 hl rfl rfl dL_law_1939 dL_law_1940 dL_law_1942 dL_law_1943 dL_law_1944 ?_
  refine lv_aload_n F.1 F.2.1 dL_law_1945 rfl (lv_at hl 4 rfl) ?_
  refine w_help (n := 3) (rest := []) F (c_L_bribesWanted l D cI cL X.2.2.2.2.2.1 a b o f S S2 (xs (i + 1)) hI) gL_law_L_bribesWanted rfl (by decide +kernel) ⟨Nat.le_of_ble_eq_true rfl, Nat.le_of_ble_eq_true rfl⟩ rfl hl.1 rfl (Nat.le_of_ble_eq_true rfl) dL_law_1946 ⟨show cells + 1 ≤ 601024 by omega, show slots + 6 * 1 ≤ 7293033 by omega⟩ X.2.1 X.2.2.1 X.2.2.2.1 hP hD hS wOC_ad (fun H locs hP hD hS => ?_)
  refine lv_istore (lv' := [(5, .int (nI ((r1 (S 0 2) (xs (i + 1)) (nI (calmN S (cl (xs (i + 1)))))).1))), (4, .int (nI i)), (0, .ref x), (1, .ref (a 13)), (2, .ref (u 0)), (3, .ref o)]) F.1 F.2.1 dL_law_1949 hl (by decide) rfl (fun ls hl => ?_)
  refine lv_aload_n F.1 F.2.1 dL_law_1951 rfl (lv_at hl 4 rfl) ?_
  refine w_rd (k := 1) F X (by decide) (by omega) hS 2 1 hl rfl rfl dL_law_1952 dL_law_1953 dL_law_1955 dL_law_1956 dL_law_1957 ?_
  refine w_headG (n := 1) (rest := []) F (c_X4_bribesWanted l D cI u S th K (xs (i + 1)) hI) gL_law_X4_bribesWanted rfl (by decide +kernel) ⟨Nat.le_of_ble_eq_true rfl, Nat.le_of_ble_eq_true rfl⟩ rfl hl.1 rfl (Nat.le_of_ble_eq_true rfl) dL_law_1958 ⟨show cells + 1 + 1 ≤ 601024 by omega, show slots + 6 * 1 + 10 ≤ 7293033 by omega⟩ X.1 hP hD hS X.2.2.2.2.1 wMo_ln wMo_ad (q0 := 0) (ci := 4) rfl rfl (fun H locs hP hD hS => ?_)
  refine lv_istore (lv' := [(6, .int ((r1 (S 0 2) (xs (i + 1)) (nI (calmN S (cl (xs (i + 1)))))).2)), (5, .int (nI ((r1 (S 0 2) (xs (i + 1)) (nI (calmN S (cl (xs (i + 1)))))).1))), (4, .int (nI i)), (0, .ref x), (1, .ref (a 13)), (2, .ref (u 0)), (3, .ref o)]) F.1 F.2.1 dL_law_1961 hl (by decide) rfl (fun ls hl => ?_)
  exact w_tail F X (k := (r1 (S 0 2) (xs (i + 1)) (nI (calmN S (cl (xs (i + 1)))))).1) (v := ((r1 (S 0 2) (xs (i + 1)) (nI (calmN S (cl (xs (i + 1)))))).2)) hI hP hD hS hl (Nat.le_trans (r1_le _ _ _) (by decide)) (show cells + 1 + 1 ≤ cells + 149 by omega) (show slots + 6 * 1 + 10 ≤ slots + 944 by omega) hc hs N dL_law_1963 dL_law_1964 dL_law_1967 dL_law_1969 dL_law_1974 dL_law_1976 dL_law_1979 dL_law_1980 dL_law_1981 dL_law_1982 dL_law_1984 dL_law_1985 dL_law_1986 dL_law_1991 (by decide)
set_option maxRecDepth 100000 in
set_option maxHeartbeats 4000000 in
theorem lc_36 (F : LF p s m c args) (X : LX l s D A0 cI cL x L xs) {i : Nat} (hi : i + 4 ≤ L) (hc : cells + 149 ≤ 601024) (hs : slots + 944 ≤ 7293033) (G : LG s D A0 cI cL u o a b x i S th K S2 f H locs ls) (N : LN p l e s m args below meth c Q D A0 cI cL u o a b x i cells slots) : W p l e room_1 s m args below meth c H locs cells slots Q (F0 m 1994 ls []) := by
  obtain ⟨hI, hP, hD, hS, hl⟩ := G
  have hl : lv_has ls 9 [(4, .int (nI i)), (0, .ref x), (1, .ref (a 13)), (2, .ref (u 0)), (3, .ref o)] := hl
  refine lv_aload_n F.1 F.2.1 dL_law_1994 rfl (lv_at hl 2 rfl) ?_
  refine w_rd (k := 1) F X (by decide) (by omega) hS 1 0 hl rfl rfl dL_law_1995 dL_law_1996 dL_law_1998 dL_law_1999 dL_law_2000 ?_
  refine lv_aload_n F.1 F.2.1 dL_law_2001 rfl (lv_at hl 4 rfl) ?_
  refine w_help (n := 3) (rest := []) F (c_L_rankWanted l D cI cL X.2.2.2.2.2.1 a b o f S S2 (xs (i + 1)) hI) gL_law_L_rankWanted rfl (by decide +kernel) ⟨Nat.le_of_ble_eq_true rfl, Nat.le_of_ble_eq_true rfl⟩ rfl hl.1 rfl (Nat.le_of_ble_eq_true rfl) dL_law_2002 ⟨show cells + 1 ≤ 601024 by omega, show slots + 6 * 1 ≤ 7293033 by omega⟩ X.2.1 X.2.2.1 X.2.2.2.1 hP hD hS wOC_ad (fun H locs hP hD hS => ?_)
  refine lv_istore (lv' := [(5, .int (nI ((r1 (S 0 2) (xs (i + 1)) (oI (rkN S (cl (xs (i + 1))) 10))).1))), (4, .int (nI i)), (0, .ref x), (1, .ref (a 13)), (2, .ref (u 0)), (3, .ref o)]) F.1 F.2.1 dL_law_2005 hl (by decide) rfl (fun ls hl => ?_)
  refine lv_aload_n F.1 F.2.1 dL_law_2007 rfl (lv_at hl 4 rfl) ?_
  refine w_rd (k := 1) F X (by decide) (by omega) hS 2 1 hl rfl rfl dL_law_2008 dL_law_2009 dL_law_2011 dL_law_2012 dL_law_2013 ?_
  refine w_headI (n := 1) (rest := []) F (c_X4_rankWanted l D cI u S th K (xs (i + 1)) hI) gL_law_X4_rankWanted rfl (by decide +kernel) ⟨Nat.le_of_ble_eq_true rfl, Nat.le_of_ble_eq_true rfl⟩ rfl hl.1 rfl (Nat.le_of_ble_eq_true rfl) dL_law_2014 ⟨show cells + 1 ≤ 601024 by omega, show slots + 6 * 1 ≤ 7293033 by omega⟩ X.1 hP hD hS wMo_ln wMo_ad (q0 := 0) (ci := 4) rfl rfl (fun H locs hP hD hS => ?_)
  refine lv_istore (lv' := [(6, .int ((r1 (S 0 2) (xs (i + 1)) (oI (rkN S (cl (xs (i + 1))) 10))).2)), (5, .int (nI ((r1 (S 0 2) (xs (i + 1)) (oI (rkN S (cl (xs (i + 1))) 10))).1))), (4, .int (nI i)), (0, .ref x), (1, .ref (a 13)), (2, .ref (u 0)), (3, .ref o)]) F.1 F.2.1 dL_law_2017 hl (by decide) rfl (fun ls hl => ?_)
  exact w_tail F X (k := (r1 (S 0 2) (xs (i + 1)) (oI (rkN S (cl (xs (i + 1))) 10))).1) (v := ((r1 (S 0 2) (xs (i + 1)) (oI (rkN S (cl (xs (i + 1))) 10))).2)) hI hP hD hS hl (Nat.le_trans (r1_le _ _ _) (by decide)) (show cells + 1 ≤ cells + 149 by omega) (show slots + 6 * 1 ≤ slots + 944 by omega) hc hs N dL_law_2019 dL_law_2020 dL_law_2023 dL_law_2025 dL_law_2030 dL_law_2032 dL_law_2035 dL_law_2036 dL_law_2037 dL_law_2038 dL_law_2040 dL_law_2041 dL_law_2042 dL_law_2047 (by decide)
set_option maxRecDepth 100000 in
set_option maxHeartbeats 4000000 in
theorem lc_37 (F : LF p s m c args) (X : LX l s D A0 cI cL x L xs) {i : Nat} (hi : i + 4 ≤ L) (hc : cells + 149 ≤ 601024) (hs : slots + 944 ≤ 7293033) (G : LG s D A0 cI cL u o a b x i S th K S2 f H locs ls) (N : LN p l e s m args below meth c Q D A0 cI cL u o a b x i cells slots) : W p l e room_1 s m args below meth c H locs cells slots Q (F0 m 2050 ls []) := by
  obtain ⟨hI, hP, hD, hS, hl⟩ := G
  have hl : lv_has ls 9 [(4, .int (nI i)), (0, .ref x), (1, .ref (a 13)), (2, .ref (u 0)), (3, .ref o)] := hl
  refine lv_aload_n F.1 F.2.1 dL_law_2050 rfl (lv_at hl 2 rfl) ?_
  refine w_rd (k := 1) F X (by decide) (by omega) hS 1 0 hl rfl rfl dL_law_2051 dL_law_2052 dL_law_2054 dL_law_2055 dL_law_2056 ?_
  refine w_rd (k := 2) F X (by decide) (by omega) hS 1 0 hl rfl rfl dL_law_2057 dL_law_2058 dL_law_2060 dL_law_2061 dL_law_2062 ?_
  refine lv_aload_n F.1 F.2.1 dL_law_2063 rfl (lv_at hl 4 rfl) ?_
  refine w_help (n := 4) (rest := []) F (c_L_firstBar l D cI cL X.2.2.2.2.2.1 a b o f S S2 (xs (i + 1)) (xs (i + 2)) hI) gL_law_L_firstBar rfl (by decide +kernel) ⟨Nat.le_of_ble_eq_true rfl, Nat.le_of_ble_eq_true rfl⟩ rfl hl.1 rfl (Nat.le_of_ble_eq_true rfl) dL_law_2064 ⟨show cells + 1 ≤ 601024 by omega, show slots + 6 * 1 ≤ 7293033 by omega⟩ X.2.1 X.2.2.1 X.2.2.2.1 hP hD hS wOC_ad (fun H locs hP hD hS => ?_)
  refine lv_istore (lv' := [(5, .int (nI ((rBar S (xs (i + 1)) (xs (i + 2))).1))), (4, .int (nI i)), (0, .ref x), (1, .ref (a 13)), (2, .ref (u 0)), (3, .ref o)]) F.1 F.2.1 dL_law_2067 hl (by decide) rfl (fun ls hl => ?_)
  refine lv_aload_n F.1 F.2.1 dL_law_2069 rfl (lv_at hl 4 rfl) ?_
  refine w_rd (k := 1) F X (by decide) (by omega) hS 2 1 hl rfl rfl dL_law_2070 dL_law_2071 dL_law_2073 dL_law_2074 dL_law_2075 ?_
  refine w_rd (k := 2) F X (by decide) (by omega) hS 2 1 hl rfl rfl dL_law_2076 dL_law_2077 dL_law_2079 dL_law_2080 dL_law_2081 ?_
  refine w_headI (n := 2) (rest := []) F (c_X4_firstBar l D cI u S th K (xs (i + 1)) (xs (i + 2)) hI) gL_law_X4_firstBar rfl (by decide +kernel) ⟨Nat.le_of_ble_eq_true rfl, Nat.le_of_ble_eq_true rfl⟩ rfl hl.1 rfl (Nat.le_of_ble_eq_true rfl) dL_law_2082 ⟨show cells + 1 ≤ 601024 by omega, show slots + 6 * 1 ≤ 7293033 by omega⟩ X.1 hP hD hS wMo_ln wMo_ad (q0 := 0) (ci := 4) rfl rfl (fun H locs hP hD hS => ?_)
  refine lv_istore (lv' := [(6, .int ((rBar S (xs (i + 1)) (xs (i + 2))).2)), (5, .int (nI ((rBar S (xs (i + 1)) (xs (i + 2))).1))), (4, .int (nI i)), (0, .ref x), (1, .ref (a 13)), (2, .ref (u 0)), (3, .ref o)]) F.1 F.2.1 dL_law_2085 hl (by decide) rfl (fun ls hl => ?_)
  exact w_tail F X (k := (rBar S (xs (i + 1)) (xs (i + 2))).1) (v := ((rBar S (xs (i + 1)) (xs (i + 2))).2)) hI hP hD hS hl (Nat.le_trans (rBar_le _ _ _) (by decide)) (show cells + 1 ≤ cells + 149 by omega) (show slots + 6 * 1 ≤ slots + 944 by omega) hc hs N dL_law_2087 dL_law_2088 dL_law_2091 dL_law_2093 dL_law_2098 dL_law_2100 dL_law_2103 dL_law_2104 dL_law_2105 dL_law_2106 dL_law_2108 dL_law_2109 dL_law_2110 dL_law_2115 (by decide)
set_option maxRecDepth 100000 in
set_option maxHeartbeats 4000000 in
theorem lc_38 (F : LF p s m c args) (X : LX l s D A0 cI cL x L xs) {i : Nat} (hi : i + 4 ≤ L) (hc : cells + 149 ≤ 601024) (hs : slots + 944 ≤ 7293033) (G : LG s D A0 cI cL u o a b x i S th K S2 f H locs ls) (N : LN p l e s m args below meth c Q D A0 cI cL u o a b x i cells slots) : W p l e room_1 s m args below meth c H locs cells slots Q (F0 m 2118 ls []) := by
  obtain ⟨hI, hP, hD, hS, hl⟩ := G
  have hl : lv_has ls 9 [(4, .int (nI i)), (0, .ref x), (1, .ref (a 13)), (2, .ref (u 0)), (3, .ref o)] := hl
  refine lv_aload_n F.1 F.2.1 dL_law_2118 rfl (lv_at hl 2 rfl) ?_
  refine w_subD (n := 0) (rest := []) (As := []) F (c_X3_meanTemper l D cI a b S S2 hI) gL_law_X3_meanTemper rfl (by decide +kernel) ⟨Nat.le_of_ble_eq_true rfl, Nat.le_of_ble_eq_true rfl⟩ rfl hl.1 rfl (Nat.le_of_ble_eq_true rfl) dL_law_2119 ⟨show cells ≤ 601024 by omega, show slots ≤ 7293033 by omega⟩ X.1 hP (wLw_Co hP) hS (q0 := 0) (ci := 3) rfl rfl (fun H locs hP hS => ?_)
  refine lv_dstore (lv' := [(5, .double (meanD S)), (4, .int (nI i)), (0, .ref x), (1, .ref (a 13)), (2, .ref (u 0)), (3, .ref o)]) F.1 F.2.1 dL_law_2122 hl (by decide) rfl (fun ls hl => ?_)
  refine lv_aload_n F.1 F.2.1 dL_law_2124 rfl (lv_at hl 4 rfl) ?_
  refine w_headD (n := 0) (rest := []) (As := []) F (c_X4_meanTemper l D cI u S th K hI) gL_law_X4_meanTemper rfl (by decide +kernel) ⟨Nat.le_of_ble_eq_true rfl, Nat.le_of_ble_eq_true rfl⟩ rfl hl.1 rfl (Nat.le_of_ble_eq_true rfl) dL_law_2125 ⟨show cells ≤ 601024 by omega, show slots ≤ 7293033 by omega⟩ X.1 hP hD hS wMo_ln wMo_ad (q0 := 0) (ci := 4) rfl rfl (fun H locs hP hD hS => ?_)
  refine lv_dstore (lv' := [(7, .double (meanD S)), (5, .double (meanD S)), (4, .int (nI i)), (0, .ref x), (1, .ref (a 13)), (2, .ref (u 0)), (3, .ref o)]) F.1 F.2.1 dL_law_2128 hl (by decide) rfl (fun ls hl => ?_)
  refine lv_dload F.1 F.2.1 dL_law_2130 (lv_at hl 1 rfl) ?_
  refine lv_dload F.1 F.2.1 dL_law_2132 (lv_at hl 0 rfl) ?_
  refine lv_dcmp F.1 F.2.1 dL_law_2134 ?_
  refine lv_if_eq (tgt := 2156) F.1 F.2.1 dL_law_2135 (by decide) (fun _ => ?_) (fun h1 => ?_)
  · exact w_exit F hI hP hD hS (lv_sub hl [2, 3, 4, 5, 6] rfl) (show cells ≤ cells + 149 by omega) (show slots ≤ slots + 944 by omega) N dL_law_2156 (by decide)
  · refine lv_dload F.1 F.2.1 dL_law_2138 (lv_at hl 1 rfl) ?_
    refine lv_dload F.1 F.2.1 dL_law_2140 (lv_at hl 1 rfl) ?_
    refine lv_dcmp F.1 F.2.1 dL_law_2142 ?_
    refine lv_if_eq (tgt := 2154) F.1 F.2.1 dL_law_2143 (by decide) (fun h2 => absurd h2 h1) (fun _ => ?_)
    refine lv_dload F.1 F.2.1 dL_law_2146 (lv_at hl 0 rfl) ?_
    refine lv_dload F.1 F.2.1 dL_law_2148 (lv_at hl 0 rfl) ?_
    refine lv_dcmp F.1 F.2.1 dL_law_2150 ?_
    refine lv_if_ne (tgt := 2156) F.1 F.2.1 dL_law_2151 (by decide) (fun _ => ?_) (fun h2 => absurd h2 h1)
    exact w_exit F hI hP hD hS (lv_sub hl [2, 3, 4, 5, 6] rfl) (show cells ≤ cells + 149 by omega) (show slots ≤ slots + 944 by omega) N dL_law_2156 (by decide)
set_option maxRecDepth 100000 in
set_option maxHeartbeats 4000000 in
theorem lc_39 (F : LF p s m c args) (X : LX l s D A0 cI cL x L xs) {i : Nat} (hi : i + 4 ≤ L) (hc : cells + 149 ≤ 601024) (hs : slots + 944 ≤ 7293033) (G : LG s D A0 cI cL u o a b x i S th K S2 f H locs ls) (N : LN p l e s m args below meth c Q D A0 cI cL u o a b x i cells slots) : W p l e room_1 s m args below meth c H locs cells slots Q (F0 m 2159 ls []) := by
  obtain ⟨hI, hP, hD, hS, hl⟩ := G
  have hl : lv_has ls 9 [(4, .int (nI i)), (0, .ref x), (1, .ref (a 13)), (2, .ref (u 0)), (3, .ref o)] := hl
  refine lv_aload_n F.1 F.2.1 dL_law_2159 rfl (lv_at hl 2 rfl) ?_
  have hP : va_P D vwCl ((wMo cI u S th K ++ wOut cL o f) ++ wCo cI a b S S2) H := by rw [List.append_assoc]; exact hP
  have hD : va_D A0 ((wMo cI u S th K ++ wOut cL o f) ++ wCo cI a b S S2) := by rw [List.append_assoc]; exact hD
  refine w_tailE (n := 0) (rest := []) (As := []) F (c_X3_digest l D cI X.2.2.2.2.2.1 a b S S2 hI) gL_law_X3_digest rfl (by decide +kernel) ⟨Nat.le_of_ble_eq_true rfl, Nat.le_of_ble_eq_true rfl⟩ rfl hl.1 rfl (Nat.le_of_ble_eq_true rfl) dL_law_2160 ⟨show cells + 124 ≤ 601024 by omega, show slots + 6 * 124 ≤ 7293033 by omega⟩ X.1 X.2.2.1 hP hD hS wCo_ad (q0 := 0) (ci := 3) rfl rfl (fun H locs hP hD hS => ?_)
  rw [List.append_assoc] at hP hD
  refine lv_aload_n F.1 F.2.1 dL_law_2163 rfl (lv_at hl 3 rfl) ?_
  refine w_headGL (n := 0) (rest := [.long (dgst S)]) (As := []) F (c_X4_digest l D cI u S th K hI) gL_law_X4_digest rfl (by decide +kernel) ⟨Nat.le_of_ble_eq_true rfl, Nat.le_of_ble_eq_true rfl⟩ rfl hl.1 rfl (Nat.le_of_ble_eq_true rfl) dL_law_2164 ⟨show cells + 124 + 25 ≤ 601024 by omega, show slots + 6 * 124 + 200 ≤ 7293033 by omega⟩ X.1 hP hD hS X.2.2.2.2.1 wMo_ln wMo_ad (q0 := 0) (ci := 4) rfl rfl (fun H locs hP hD hS => ?_)
  refine W.lcmp F.1 F.2.1 dL_law_2167 ?_
  refine lv_if_eq (tgt := 2173) F.1 F.2.1 dL_law_2168 (by decide) (fun _ => ?_) (fun h => absurd (lg_cmp_self _) h)
  exact W.widen (show cells + 124 + 25 ≤ cells + 149 by omega) (show slots + 6 * 124 + 200 ≤ slots + 944 by omega) (N S (nI 0) (kepN S K (S 0 2)) (untN S S2 (S 0 2)) f H locs ls ⟨hI, hP, hD, hS, hl⟩)
end
