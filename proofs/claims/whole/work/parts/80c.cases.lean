/-! the cases 16 to 23 of the law -/
section
variable {p : Program} {l : Launch} {e : Env} {s : State} {m : MethodId} {args : Array Value} {below : List Frame} {meth : Method} {c : Code} {H : Heap} {locs : List Loc} {cells slots : Nat} {Q : State → Prop}
variable {ls : Array Slot} {D : va_G} {A0 : Nat → Prop} {cI cL : ClassId} {u a b : Nat → Nat} {o x L : Nat} {xs : Nat → Int32} {S : Nat → Nat → Nat} {th : Int32} {K : Nat → Nat} {S2 : Nat → Nat → Nat} {f : Nat → Int64}
set_option maxRecDepth 100000 in
set_option maxHeartbeats 4000000 in
theorem lc_16 (F : LF p s m c args) (X : LX l s D A0 cI cL x L xs) {i : Nat} (hi : i + 4 ≤ L) (hc : cells + 149 ≤ 601024) (hs : slots + 944 ≤ 7293033) (G : LG s D A0 cI cL u o a b x i S th K S2 f H locs ls) (N : LN p l e s m args below meth c Q D A0 cI cL u o a b x i cells slots) : W p l e room_1 s m args below meth c H locs cells slots Q (F0 m 891 ls []) := by
  obtain ⟨hI, hP, hD, hS, hl⟩ := G
  have hl : lv_has ls 9 [(4, .int (nI i)), (0, .ref x), (1, .ref (a 13)), (2, .ref (u 0)), (3, .ref o)] := hl
  refine lv_aload_n F.1 F.2.1 dL_law_891 rfl (lv_at hl 2 rfl) ?_
  refine w_rd (k := 1) F X (by decide) (by omega) hS 1 0 hl rfl rfl dL_law_892 dL_law_893 dL_law_895 dL_law_896 dL_law_897 ?_
  refine lv_aload_n F.1 F.2.1 dL_law_898 rfl (lv_at hl 4 rfl) ?_
  refine w_help (n := 3) (rest := []) F (c_L_awakeAt l D cI cL X.2.2.2.2.2.1 a b o f S S2 (xs (i + 1)) hI) gL_law_L_awakeAt rfl (by decide +kernel) ⟨Nat.le_of_ble_eq_true rfl, Nat.le_of_ble_eq_true rfl⟩ rfl hl.1 rfl (Nat.le_of_ble_eq_true rfl) dL_law_899 ⟨show cells + 1 ≤ 601024 by omega, show slots + 6 * 1 ≤ 7293033 by omega⟩ X.2.1 X.2.2.1 X.2.2.2.1 hP hD hS wOC_ad (fun H locs hP hD hS => ?_)
  refine lv_istore (lv' := [(5, .int (nI ((r1 (S 0 0) (xs (i + 1)) (nI (cntN S (cl (xs (i + 1))) (S 0 1)))).1))), (4, .int (nI i)), (0, .ref x), (1, .ref (a 13)), (2, .ref (u 0)), (3, .ref o)]) F.1 F.2.1 dL_law_902 hl (by decide) rfl (fun ls hl => ?_)
  refine lv_aload_n F.1 F.2.1 dL_law_904 rfl (lv_at hl 4 rfl) ?_
  refine w_rd (k := 1) F X (by decide) (by omega) hS 2 1 hl rfl rfl dL_law_905 dL_law_906 dL_law_908 dL_law_909 dL_law_910 ?_
  refine w_headI (n := 1) (rest := []) F (c_X4_awakeAt l D cI u S th K (xs (i + 1)) hI) gL_law_X4_awakeAt rfl (by decide +kernel) ⟨Nat.le_of_ble_eq_true rfl, Nat.le_of_ble_eq_true rfl⟩ rfl hl.1 rfl (Nat.le_of_ble_eq_true rfl) dL_law_911 ⟨show cells + 1 ≤ 601024 by omega, show slots + 6 * 1 ≤ 7293033 by omega⟩ X.1 hP hD hS wMo_ln wMo_ad (q0 := 0) (ci := 4) rfl rfl (fun H locs hP hD hS => ?_)
  refine lv_istore (lv' := [(6, .int ((r1 (S 0 0) (xs (i + 1)) (nI (cntN S (cl (xs (i + 1))) (S 0 1)))).2)), (5, .int (nI ((r1 (S 0 0) (xs (i + 1)) (nI (cntN S (cl (xs (i + 1))) (S 0 1)))).1))), (4, .int (nI i)), (0, .ref x), (1, .ref (a 13)), (2, .ref (u 0)), (3, .ref o)]) F.1 F.2.1 dL_law_914 hl (by decide) rfl (fun ls hl => ?_)
  exact w_tail F X (k := (r1 (S 0 0) (xs (i + 1)) (nI (cntN S (cl (xs (i + 1))) (S 0 1)))).1) (v := ((r1 (S 0 0) (xs (i + 1)) (nI (cntN S (cl (xs (i + 1))) (S 0 1)))).2)) hI hP hD hS hl (Nat.le_trans (r1_le _ _ _) (by decide)) (show cells + 1 ≤ cells + 149 by omega) (show slots + 6 * 1 ≤ slots + 944 by omega) hc hs N dL_law_916 dL_law_917 dL_law_920 dL_law_922 dL_law_927 dL_law_929 dL_law_932 dL_law_933 dL_law_934 dL_law_935 dL_law_937 dL_law_938 dL_law_939 dL_law_944 (by decide)
set_option maxRecDepth 100000 in
set_option maxHeartbeats 4000000 in
theorem lc_17 (F : LF p s m c args) (X : LX l s D A0 cI cL x L xs) {i : Nat} (hi : i + 4 ≤ L) (hc : cells + 149 ≤ 601024) (hs : slots + 944 ≤ 7293033) (G : LG s D A0 cI cL u o a b x i S th K S2 f H locs ls) (N : LN p l e s m args below meth c Q D A0 cI cL u o a b x i cells slots) : W p l e room_1 s m args below meth c H locs cells slots Q (F0 m 947 ls []) := by
  obtain ⟨hI, hP, hD, hS, hl⟩ := G
  have hl : lv_has ls 9 [(4, .int (nI i)), (0, .ref x), (1, .ref (a 13)), (2, .ref (u 0)), (3, .ref o)] := hl
  refine lv_aload_n F.1 F.2.1 dL_law_947 rfl (lv_at hl 2 rfl) ?_
  refine w_rd (k := 1) F X (by decide) (by omega) hS 1 0 hl rfl rfl dL_law_948 dL_law_949 dL_law_951 dL_law_952 dL_law_953 ?_
  refine w_rd (k := 2) F X (by decide) (by omega) hS 1 0 hl rfl rfl dL_law_954 dL_law_955 dL_law_957 dL_law_958 dL_law_959 ?_
  refine lv_aload_n F.1 F.2.1 dL_law_960 rfl (lv_at hl 4 rfl) ?_
  refine w_help (n := 4) (rest := []) F (c_L_hissOf l D cI cL X.2.2.2.2.2.1 a b o f S S2 (xs (i + 1)) (xs (i + 2)) hI) gL_law_L_hissOf rfl (by decide +kernel) ⟨Nat.le_of_ble_eq_true rfl, Nat.le_of_ble_eq_true rfl⟩ rfl hl.1 rfl (Nat.le_of_ble_eq_true rfl) dL_law_961 ⟨show cells + 2 ≤ 601024 by omega, show slots + 6 * 2 ≤ 7293033 by omega⟩ X.2.1 X.2.2.1 X.2.2.2.1 hP hD hS wOC_ad (fun H locs hP hD hS => ?_)
  refine lv_istore (lv' := [(5, .int (nI ((rHiss S (xs (i + 1)) (xs (i + 2))).1))), (4, .int (nI i)), (0, .ref x), (1, .ref (a 13)), (2, .ref (u 0)), (3, .ref o)]) F.1 F.2.1 dL_law_964 hl (by decide) rfl (fun ls hl => ?_)
  refine lv_aload_n F.1 F.2.1 dL_law_966 rfl (lv_at hl 4 rfl) ?_
  refine w_rd (k := 1) F X (by decide) (by omega) hS 2 1 hl rfl rfl dL_law_967 dL_law_968 dL_law_970 dL_law_971 dL_law_972 ?_
  refine w_rd (k := 2) F X (by decide) (by omega) hS 2 1 hl rfl rfl dL_law_973 dL_law_974 dL_law_976 dL_law_977 dL_law_978 ?_
  refine w_headI (n := 2) (rest := []) F (c_X4_hissOf l D cI u S th K (xs (i + 1)) (xs (i + 2)) hI) gL_law_X4_hissOf rfl (by decide +kernel) ⟨Nat.le_of_ble_eq_true rfl, Nat.le_of_ble_eq_true rfl⟩ rfl hl.1 rfl (Nat.le_of_ble_eq_true rfl) dL_law_979 ⟨show cells + 2 ≤ 601024 by omega, show slots + 6 * 2 ≤ 7293033 by omega⟩ X.1 hP hD hS wMo_ln wMo_ad (q0 := 0) (ci := 4) rfl rfl (fun H locs hP hD hS => ?_)
  refine lv_istore (lv' := [(6, .int ((rHiss S (xs (i + 1)) (xs (i + 2))).2)), (5, .int (nI ((rHiss S (xs (i + 1)) (xs (i + 2))).1))), (4, .int (nI i)), (0, .ref x), (1, .ref (a 13)), (2, .ref (u 0)), (3, .ref o)]) F.1 F.2.1 dL_law_982 hl (by decide) rfl (fun ls hl => ?_)
  exact w_tail F X (k := (rHiss S (xs (i + 1)) (xs (i + 2))).1) (v := ((rHiss S (xs (i + 1)) (xs (i + 2))).2)) hI hP hD hS hl (Nat.le_trans (rHiss_le _ _ _) (by decide)) (show cells + 2 ≤ cells + 149 by omega) (show slots + 6 * 2 ≤ slots + 944 by omega) hc hs N dL_law_984 dL_law_985 dL_law_988 dL_law_990 dL_law_995 dL_law_997 dL_law_1000 dL_law_1001 dL_law_1002 dL_law_1003 dL_law_1005 dL_law_1006 dL_law_1007 dL_law_1012 (by decide)
set_option maxRecDepth 100000 in
set_option maxHeartbeats 4000000 in
theorem lc_18 (F : LF p s m c args) (X : LX l s D A0 cI cL x L xs) {i : Nat} (hi : i + 4 ≤ L) (hc : cells + 149 ≤ 601024) (hs : slots + 944 ≤ 7293033) (G : LG s D A0 cI cL u o a b x i S th K S2 f H locs ls) (N : LN p l e s m args below meth c Q D A0 cI cL u o a b x i cells slots) : W p l e room_1 s m args below meth c H locs cells slots Q (F0 m 1015 ls []) := by
  obtain ⟨hI, hP, hD, hS, hl⟩ := G
  have hl : lv_has ls 9 [(4, .int (nI i)), (0, .ref x), (1, .ref (a 13)), (2, .ref (u 0)), (3, .ref o)] := hl
  refine lv_aload_n F.1 F.2.1 dL_law_1015 rfl (lv_at hl 2 rfl) ?_
  refine w_subI (n := 0) (rest := []) (As := []) F (c_X3_loudestGate l D cI a b S S2 hI) gL_law_X3_loudestGate rfl (by decide +kernel) ⟨Nat.le_of_ble_eq_true rfl, Nat.le_of_ble_eq_true rfl⟩ rfl hl.1 rfl (Nat.le_of_ble_eq_true rfl) dL_law_1016 ⟨show cells ≤ 601024 by omega, show slots ≤ 7293033 by omega⟩ X.1 hP (wLw_Co hP) hS (q0 := 0) (ci := 3) rfl rfl (fun H locs hP hS => ?_)
  refine lv_aload_n F.1 F.2.1 dL_law_1019 rfl (lv_at hl 3 rfl) ?_
  refine w_headI (n := 0) (rest := [.int (oI (ldN S (S 0 0)).1)]) (As := []) F (c_X4_loudestGate l D cI u S th K hI) gL_law_X4_loudestGate rfl (by decide +kernel) ⟨Nat.le_of_ble_eq_true rfl, Nat.le_of_ble_eq_true rfl⟩ rfl hl.1 rfl (Nat.le_of_ble_eq_true rfl) dL_law_1020 ⟨show cells ≤ 601024 by omega, show slots ≤ 7293033 by omega⟩ X.1 hP hD hS wMo_ln wMo_ad (q0 := 0) (ci := 4) rfl rfl (fun H locs hP hD hS => ?_)
  refine lv_icmp_eq (tgt := 2173) F.1 F.2.1 dL_law_1023 (by decide) (fun _ => ?_) (fun h => absurd rfl h)
  exact W.widen (show cells ≤ cells + 149 by omega) (show slots ≤ slots + 944 by omega) (N S (nI 0) K S2 f H locs ls ⟨hI, hP, hD, hS, hl⟩)
set_option maxRecDepth 100000 in
set_option maxHeartbeats 4000000 in
theorem lc_19 (F : LF p s m c args) (X : LX l s D A0 cI cL x L xs) {i : Nat} (hi : i + 4 ≤ L) (hc : cells + 149 ≤ 601024) (hs : slots + 944 ≤ 7293033) (G : LG s D A0 cI cL u o a b x i S th K S2 f H locs ls) (N : LN p l e s m args below meth c Q D A0 cI cL u o a b x i cells slots) : W p l e room_1 s m args below meth c H locs cells slots Q (F0 m 1028 ls []) := by
  obtain ⟨hI, hP, hD, hS, hl⟩ := G
  have hl : lv_has ls 9 [(4, .int (nI i)), (0, .ref x), (1, .ref (a 13)), (2, .ref (u 0)), (3, .ref o)] := hl
  refine lv_aload_n F.1 F.2.1 dL_law_1028 rfl (lv_at hl 2 rfl) ?_
  refine w_rd (k := 1) F X (by decide) (by omega) hS 1 0 hl rfl rfl dL_law_1029 dL_law_1030 dL_law_1032 dL_law_1033 dL_law_1034 ?_
  refine lv_aload_n F.1 F.2.1 dL_law_1035 rfl (lv_at hl 4 rfl) ?_
  refine w_help (n := 3) (rest := []) F (c_L_gateOf l D cI cL X.2.2.2.2.2.1 a b o f S S2 (xs (i + 1)) hI) gL_law_L_gateOf rfl (by decide +kernel) ⟨Nat.le_of_ble_eq_true rfl, Nat.le_of_ble_eq_true rfl⟩ rfl hl.1 rfl (Nat.le_of_ble_eq_true rfl) dL_law_1036 ⟨show cells + 1 ≤ 601024 by omega, show slots + 6 * 1 ≤ 7293033 by omega⟩ X.2.1 X.2.2.1 X.2.2.2.1 hP hD hS wOC_ad (fun H locs hP hD hS => ?_)
  refine lv_istore (lv' := [(5, .int (nI ((r1 (S 0 1) (xs (i + 1)) (nI (S 2 (cl (xs (i + 1)))))).1))), (4, .int (nI i)), (0, .ref x), (1, .ref (a 13)), (2, .ref (u 0)), (3, .ref o)]) F.1 F.2.1 dL_law_1039 hl (by decide) rfl (fun ls hl => ?_)
  refine lv_aload_n F.1 F.2.1 dL_law_1041 rfl (lv_at hl 4 rfl) ?_
  refine w_rd (k := 1) F X (by decide) (by omega) hS 2 1 hl rfl rfl dL_law_1042 dL_law_1043 dL_law_1045 dL_law_1046 dL_law_1047 ?_
  refine w_headI (n := 1) (rest := []) F (c_X4_gateOf l D cI u S th K (xs (i + 1)) hI) gL_law_X4_gateOf rfl (by decide +kernel) ⟨Nat.le_of_ble_eq_true rfl, Nat.le_of_ble_eq_true rfl⟩ rfl hl.1 rfl (Nat.le_of_ble_eq_true rfl) dL_law_1048 ⟨show cells + 1 ≤ 601024 by omega, show slots + 6 * 1 ≤ 7293033 by omega⟩ X.1 hP hD hS wMo_ln wMo_ad (q0 := 0) (ci := 4) rfl rfl (fun H locs hP hD hS => ?_)
  refine lv_istore (lv' := [(6, .int ((r1 (S 0 1) (xs (i + 1)) (nI (S 2 (cl (xs (i + 1)))))).2)), (5, .int (nI ((r1 (S 0 1) (xs (i + 1)) (nI (S 2 (cl (xs (i + 1)))))).1))), (4, .int (nI i)), (0, .ref x), (1, .ref (a 13)), (2, .ref (u 0)), (3, .ref o)]) F.1 F.2.1 dL_law_1051 hl (by decide) rfl (fun ls hl => ?_)
  exact w_tail F X (k := (r1 (S 0 1) (xs (i + 1)) (nI (S 2 (cl (xs (i + 1)))))).1) (v := ((r1 (S 0 1) (xs (i + 1)) (nI (S 2 (cl (xs (i + 1)))))).2)) hI hP hD hS hl (Nat.le_trans (r1_le _ _ _) (by decide)) (show cells + 1 ≤ cells + 149 by omega) (show slots + 6 * 1 ≤ slots + 944 by omega) hc hs N dL_law_1053 dL_law_1054 dL_law_1057 dL_law_1059 dL_law_1064 dL_law_1066 dL_law_1069 dL_law_1070 dL_law_1071 dL_law_1072 dL_law_1074 dL_law_1075 dL_law_1076 dL_law_1081 (by decide)
set_option maxRecDepth 100000 in
set_option maxHeartbeats 4000000 in
theorem lc_20 (F : LF p s m c args) (X : LX l s D A0 cI cL x L xs) {i : Nat} (hi : i + 4 ≤ L) (hc : cells + 149 ≤ 601024) (hs : slots + 944 ≤ 7293033) (G : LG s D A0 cI cL u o a b x i S th K S2 f H locs ls) (N : LN p l e s m args below meth c Q D A0 cI cL u o a b x i cells slots) : W p l e room_1 s m args below meth c H locs cells slots Q (F0 m 1084 ls []) := by
  obtain ⟨hI, hP, hD, hS, hl⟩ := G
  have hl : lv_has ls 9 [(4, .int (nI i)), (0, .ref x), (1, .ref (a 13)), (2, .ref (u 0)), (3, .ref o)] := hl
  refine lv_aload_n F.1 F.2.1 dL_law_1084 rfl (lv_at hl 2 rfl) ?_
  refine w_rd (k := 1) F X (by decide) (by omega) hS 1 0 hl rfl rfl dL_law_1085 dL_law_1086 dL_law_1088 dL_law_1089 dL_law_1090 ?_
  refine lv_aload_n F.1 F.2.1 dL_law_1091 rfl (lv_at hl 4 rfl) ?_
  refine w_help (n := 3) (rest := []) F (c_L_temperOf l D cI cL X.2.2.2.2.2.1 a b o f S S2 (xs (i + 1)) hI) gL_law_L_temperOf rfl (by decide +kernel) ⟨Nat.le_of_ble_eq_true rfl, Nat.le_of_ble_eq_true rfl⟩ rfl hl.1 rfl (Nat.le_of_ble_eq_true rfl) dL_law_1092 ⟨show cells + 1 ≤ 601024 by omega, show slots + 6 * 1 ≤ 7293033 by omega⟩ X.2.1 X.2.2.1 X.2.2.2.1 hP hD hS wOC_ad (fun H locs hP hD hS => ?_)
  refine lv_istore (lv' := [(5, .int (nI ((r1 (S 0 1) (xs (i + 1)) (nI (S 3 (cl (xs (i + 1)))))).1))), (4, .int (nI i)), (0, .ref x), (1, .ref (a 13)), (2, .ref (u 0)), (3, .ref o)]) F.1 F.2.1 dL_law_1095 hl (by decide) rfl (fun ls hl => ?_)
  refine lv_aload_n F.1 F.2.1 dL_law_1097 rfl (lv_at hl 4 rfl) ?_
  refine w_rd (k := 1) F X (by decide) (by omega) hS 2 1 hl rfl rfl dL_law_1098 dL_law_1099 dL_law_1101 dL_law_1102 dL_law_1103 ?_
  refine w_headI (n := 1) (rest := []) F (c_X4_temperOf l D cI u S th K (xs (i + 1)) hI) gL_law_X4_temperOf rfl (by decide +kernel) ⟨Nat.le_of_ble_eq_true rfl, Nat.le_of_ble_eq_true rfl⟩ rfl hl.1 rfl (Nat.le_of_ble_eq_true rfl) dL_law_1104 ⟨show cells + 1 ≤ 601024 by omega, show slots + 6 * 1 ≤ 7293033 by omega⟩ X.1 hP hD hS wMo_ln wMo_ad (q0 := 0) (ci := 4) rfl rfl (fun H locs hP hD hS => ?_)
  refine lv_istore (lv' := [(6, .int ((r1 (S 0 1) (xs (i + 1)) (nI (S 3 (cl (xs (i + 1)))))).2)), (5, .int (nI ((r1 (S 0 1) (xs (i + 1)) (nI (S 3 (cl (xs (i + 1)))))).1))), (4, .int (nI i)), (0, .ref x), (1, .ref (a 13)), (2, .ref (u 0)), (3, .ref o)]) F.1 F.2.1 dL_law_1107 hl (by decide) rfl (fun ls hl => ?_)
  exact w_tail F X (k := (r1 (S 0 1) (xs (i + 1)) (nI (S 3 (cl (xs (i + 1)))))).1) (v := ((r1 (S 0 1) (xs (i + 1)) (nI (S 3 (cl (xs (i + 1)))))).2)) hI hP hD hS hl (Nat.le_trans (r1_le _ _ _) (by decide)) (show cells + 1 ≤ cells + 149 by omega) (show slots + 6 * 1 ≤ slots + 944 by omega) hc hs N dL_law_1109 dL_law_1110 dL_law_1113 dL_law_1115 dL_law_1120 dL_law_1122 dL_law_1125 dL_law_1126 dL_law_1127 dL_law_1128 dL_law_1130 dL_law_1131 dL_law_1132 dL_law_1137 (by decide)
set_option maxRecDepth 100000 in
set_option maxHeartbeats 4000000 in
theorem lc_21 (F : LF p s m c args) (X : LX l s D A0 cI cL x L xs) {i : Nat} (hi : i + 4 ≤ L) (hc : cells + 149 ≤ 601024) (hs : slots + 944 ≤ 7293033) (G : LG s D A0 cI cL u o a b x i S th K S2 f H locs ls) (N : LN p l e s m args below meth c Q D A0 cI cL u o a b x i cells slots) : W p l e room_1 s m args below meth c H locs cells slots Q (F0 m 1140 ls []) := by
  obtain ⟨hI, hP, hD, hS, hl⟩ := G
  have hl : lv_has ls 9 [(4, .int (nI i)), (0, .ref x), (1, .ref (a 13)), (2, .ref (u 0)), (3, .ref o)] := hl
  refine lv_aload_n F.1 F.2.1 dL_law_1140 rfl (lv_at hl 2 rfl) ?_
  refine w_rd (k := 1) F X (by decide) (by omega) hS 1 0 hl rfl rfl dL_law_1141 dL_law_1142 dL_law_1144 dL_law_1145 dL_law_1146 ?_
  refine lv_aload_n F.1 F.2.1 dL_law_1147 rfl (lv_at hl 4 rfl) ?_
  refine w_help (n := 3) (rest := []) F (c_L_calmFor l D cI cL X.2.2.2.2.2.1 a b o f S S2 (xs (i + 1)) hI) gL_law_L_calmFor rfl (by decide +kernel) ⟨Nat.le_of_ble_eq_true rfl, Nat.le_of_ble_eq_true rfl⟩ rfl hl.1 rfl (Nat.le_of_ble_eq_true rfl) dL_law_1148 ⟨show cells + 1 ≤ 601024 by omega, show slots + 6 * 1 ≤ 7293033 by omega⟩ X.2.1 X.2.2.1 X.2.2.2.1 hP hD hS wOC_ad (fun H locs hP hD hS => ?_)
  refine lv_istore (lv' := [(5, .int (nI ((r1 (S 0 1) (xs (i + 1)) (nI (S 4 (cl (xs (i + 1)))))).1))), (4, .int (nI i)), (0, .ref x), (1, .ref (a 13)), (2, .ref (u 0)), (3, .ref o)]) F.1 F.2.1 dL_law_1151 hl (by decide) rfl (fun ls hl => ?_)
  refine lv_aload_n F.1 F.2.1 dL_law_1153 rfl (lv_at hl 4 rfl) ?_
  refine w_rd (k := 1) F X (by decide) (by omega) hS 2 1 hl rfl rfl dL_law_1154 dL_law_1155 dL_law_1157 dL_law_1158 dL_law_1159 ?_
  refine w_headI (n := 1) (rest := []) F (c_X4_calmFor l D cI u S th K (xs (i + 1)) hI) gL_law_X4_calmFor rfl (by decide +kernel) ⟨Nat.le_of_ble_eq_true rfl, Nat.le_of_ble_eq_true rfl⟩ rfl hl.1 rfl (Nat.le_of_ble_eq_true rfl) dL_law_1160 ⟨show cells + 1 ≤ 601024 by omega, show slots + 6 * 1 ≤ 7293033 by omega⟩ X.1 hP hD hS wMo_ln wMo_ad (q0 := 0) (ci := 4) rfl rfl (fun H locs hP hD hS => ?_)
  refine lv_istore (lv' := [(6, .int ((r1 (S 0 1) (xs (i + 1)) (nI (S 4 (cl (xs (i + 1)))))).2)), (5, .int (nI ((r1 (S 0 1) (xs (i + 1)) (nI (S 4 (cl (xs (i + 1)))))).1))), (4, .int (nI i)), (0, .ref x), (1, .ref (a 13)), (2, .ref (u 0)), (3, .ref o)]) F.1 F.2.1 dL_law_1163 hl (by decide) rfl (fun ls hl => ?_)
  exact w_tail F X (k := (r1 (S 0 1) (xs (i + 1)) (nI (S 4 (cl (xs (i + 1)))))).1) (v := ((r1 (S 0 1) (xs (i + 1)) (nI (S 4 (cl (xs (i + 1)))))).2)) hI hP hD hS hl (Nat.le_trans (r1_le _ _ _) (by decide)) (show cells + 1 ≤ cells + 149 by omega) (show slots + 6 * 1 ≤ slots + 944 by omega) hc hs N dL_law_1165 dL_law_1166 dL_law_1169 dL_law_1171 dL_law_1176 dL_law_1178 dL_law_1181 dL_law_1182 dL_law_1183 dL_law_1184 dL_law_1186 dL_law_1187 dL_law_1188 dL_law_1193 (by decide)
set_option maxRecDepth 100000 in
set_option maxHeartbeats 4000000 in
theorem lc_22 (F : LF p s m c args) (X : LX l s D A0 cI cL x L xs) {i : Nat} (hi : i + 4 ≤ L) (hc : cells + 149 ≤ 601024) (hs : slots + 944 ≤ 7293033) (G : LG s D A0 cI cL u o a b x i S th K S2 f H locs ls) (N : LN p l e s m args below meth c Q D A0 cI cL u o a b x i cells slots) : W p l e room_1 s m args below meth c H locs cells slots Q (F0 m 1196 ls []) := by
  obtain ⟨hI, hP, hD, hS, hl⟩ := G
  have hl : lv_has ls 9 [(4, .int (nI i)), (0, .ref x), (1, .ref (a 13)), (2, .ref (u 0)), (3, .ref o)] := hl
  refine lv_aload_n F.1 F.2.1 dL_law_1196 rfl (lv_at hl 2 rfl) ?_
  refine w_rd (k := 1) F X (by decide) (by omega) hS 1 0 hl rfl rfl dL_law_1197 dL_law_1198 dL_law_1200 dL_law_1201 dL_law_1202 ?_
  refine lv_aload_n F.1 F.2.1 dL_law_1203 rfl (lv_at hl 4 rfl) ?_
  refine w_help (n := 3) (rest := []) F (c_L_eatenBy l D cI cL X.2.2.2.2.2.1 a b o f S S2 (xs (i + 1)) hI) gL_law_L_eatenBy rfl (by decide +kernel) ⟨Nat.le_of_ble_eq_true rfl, Nat.le_of_ble_eq_true rfl⟩ rfl hl.1 rfl (Nat.le_of_ble_eq_true rfl) dL_law_1204 ⟨show cells + 1 ≤ 601024 by omega, show slots + 6 * 1 ≤ 7293033 by omega⟩ X.2.1 X.2.2.1 X.2.2.2.1 hP hD hS wOC_ad (fun H locs hP hD hS => ?_)
  refine lv_istore (lv' := [(5, .int (nI ((r1 (S 0 1) (xs (i + 1)) (nI (S 5 (cl (xs (i + 1)))))).1))), (4, .int (nI i)), (0, .ref x), (1, .ref (a 13)), (2, .ref (u 0)), (3, .ref o)]) F.1 F.2.1 dL_law_1207 hl (by decide) rfl (fun ls hl => ?_)
  refine lv_aload_n F.1 F.2.1 dL_law_1209 rfl (lv_at hl 4 rfl) ?_
  refine w_rd (k := 1) F X (by decide) (by omega) hS 2 1 hl rfl rfl dL_law_1210 dL_law_1211 dL_law_1213 dL_law_1214 dL_law_1215 ?_
  refine w_headI (n := 1) (rest := []) F (c_X4_eatenBy l D cI u S th K (xs (i + 1)) hI) gL_law_X4_eatenBy rfl (by decide +kernel) ⟨Nat.le_of_ble_eq_true rfl, Nat.le_of_ble_eq_true rfl⟩ rfl hl.1 rfl (Nat.le_of_ble_eq_true rfl) dL_law_1216 ⟨show cells + 1 ≤ 601024 by omega, show slots + 6 * 1 ≤ 7293033 by omega⟩ X.1 hP hD hS wMo_ln wMo_ad (q0 := 0) (ci := 4) rfl rfl (fun H locs hP hD hS => ?_)
  refine lv_istore (lv' := [(6, .int ((r1 (S 0 1) (xs (i + 1)) (nI (S 5 (cl (xs (i + 1)))))).2)), (5, .int (nI ((r1 (S 0 1) (xs (i + 1)) (nI (S 5 (cl (xs (i + 1)))))).1))), (4, .int (nI i)), (0, .ref x), (1, .ref (a 13)), (2, .ref (u 0)), (3, .ref o)]) F.1 F.2.1 dL_law_1219 hl (by decide) rfl (fun ls hl => ?_)
  exact w_tail F X (k := (r1 (S 0 1) (xs (i + 1)) (nI (S 5 (cl (xs (i + 1)))))).1) (v := ((r1 (S 0 1) (xs (i + 1)) (nI (S 5 (cl (xs (i + 1)))))).2)) hI hP hD hS hl (Nat.le_trans (r1_le _ _ _) (by decide)) (show cells + 1 ≤ cells + 149 by omega) (show slots + 6 * 1 ≤ slots + 944 by omega) hc hs N dL_law_1221 dL_law_1222 dL_law_1225 dL_law_1227 dL_law_1232 dL_law_1234 dL_law_1237 dL_law_1238 dL_law_1239 dL_law_1240 dL_law_1242 dL_law_1243 dL_law_1244 dL_law_1249 (by decide)
set_option maxRecDepth 100000 in
set_option maxHeartbeats 4000000 in
theorem lc_23 (F : LF p s m c args) (X : LX l s D A0 cI cL x L xs) {i : Nat} (hi : i + 4 ≤ L) (hc : cells + 149 ≤ 601024) (hs : slots + 944 ≤ 7293033) (G : LG s D A0 cI cL u o a b x i S th K S2 f H locs ls) (N : LN p l e s m args below meth c Q D A0 cI cL u o a b x i cells slots) : W p l e room_1 s m args below meth c H locs cells slots Q (F0 m 1252 ls []) := by
  obtain ⟨hI, hP, hD, hS, hl⟩ := G
  have hl : lv_has ls 9 [(4, .int (nI i)), (0, .ref x), (1, .ref (a 13)), (2, .ref (u 0)), (3, .ref o)] := hl
  refine lv_aload_n F.1 F.2.1 dL_law_1252 rfl (lv_at hl 2 rfl) ?_
  refine w_rd (k := 1) F X (by decide) (by omega) hS 1 0 hl rfl rfl dL_law_1253 dL_law_1254 dL_law_1256 dL_law_1257 dL_law_1258 ?_
  refine lv_aload_n F.1 F.2.1 dL_law_1259 rfl (lv_at hl 4 rfl) ?_
  refine w_help (n := 3) (rest := []) F (c_L_passedBy l D cI cL X.2.2.2.2.2.1 a b o f S S2 (xs (i + 1)) hI) gL_law_L_passedBy rfl (by decide +kernel) ⟨Nat.le_of_ble_eq_true rfl, Nat.le_of_ble_eq_true rfl⟩ rfl hl.1 rfl (Nat.le_of_ble_eq_true rfl) dL_law_1260 ⟨show cells + 1 ≤ 601024 by omega, show slots + 6 * 1 ≤ 7293033 by omega⟩ X.2.1 X.2.2.1 X.2.2.2.1 hP hD hS wOC_ad (fun H locs hP hD hS => ?_)
  refine lv_istore (lv' := [(5, .int (nI ((r1 (S 0 2) (xs (i + 1)) (nI (S 7 (cl (xs (i + 1)))))).1))), (4, .int (nI i)), (0, .ref x), (1, .ref (a 13)), (2, .ref (u 0)), (3, .ref o)]) F.1 F.2.1 dL_law_1263 hl (by decide) rfl (fun ls hl => ?_)
  refine lv_aload_n F.1 F.2.1 dL_law_1265 rfl (lv_at hl 4 rfl) ?_
  refine w_rd (k := 1) F X (by decide) (by omega) hS 2 1 hl rfl rfl dL_law_1266 dL_law_1267 dL_law_1269 dL_law_1270 dL_law_1271 ?_
  refine w_headI (n := 1) (rest := []) F (c_X4_passedBy l D cI u S th K (xs (i + 1)) hI) gL_law_X4_passedBy rfl (by decide +kernel) ⟨Nat.le_of_ble_eq_true rfl, Nat.le_of_ble_eq_true rfl⟩ rfl hl.1 rfl (Nat.le_of_ble_eq_true rfl) dL_law_1272 ⟨show cells + 1 ≤ 601024 by omega, show slots + 6 * 1 ≤ 7293033 by omega⟩ X.1 hP hD hS wMo_ln wMo_ad (q0 := 0) (ci := 4) rfl rfl (fun H locs hP hD hS => ?_)
  refine lv_istore (lv' := [(6, .int ((r1 (S 0 2) (xs (i + 1)) (nI (S 7 (cl (xs (i + 1)))))).2)), (5, .int (nI ((r1 (S 0 2) (xs (i + 1)) (nI (S 7 (cl (xs (i + 1)))))).1))), (4, .int (nI i)), (0, .ref x), (1, .ref (a 13)), (2, .ref (u 0)), (3, .ref o)]) F.1 F.2.1 dL_law_1275 hl (by decide) rfl (fun ls hl => ?_)
  exact w_tail F X (k := (r1 (S 0 2) (xs (i + 1)) (nI (S 7 (cl (xs (i + 1)))))).1) (v := ((r1 (S 0 2) (xs (i + 1)) (nI (S 7 (cl (xs (i + 1)))))).2)) hI hP hD hS hl (Nat.le_trans (r1_le _ _ _) (by decide)) (show cells + 1 ≤ cells + 149 by omega) (show slots + 6 * 1 ≤ slots + 944 by omega) hc hs N dL_law_1277 dL_law_1278 dL_law_1281 dL_law_1283 dL_law_1288 dL_law_1290 dL_law_1293 dL_law_1294 dL_law_1295 dL_law_1296 dL_law_1298 dL_law_1299 dL_law_1300 dL_law_1305 (by decide)
end
