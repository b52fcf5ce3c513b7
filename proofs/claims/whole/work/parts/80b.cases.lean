/-! the cases 8 to 15 of the law -/
section
variable {p : Program} {l : Launch} {e : Env} {s : State} {m : MethodId} {args : Array Value} {below : List Frame} {meth : Method} {c : Code} {H : Heap} {locs : List Loc} {cells slots : Nat} {Q : State → Prop}
variable {ls : Array Slot} {D : va_G} {A0 : Nat → Prop} {cI cL : ClassId} {u a b : Nat → Nat} {o x L : Nat} {xs : Nat → Int32} {S : Nat → Nat → Nat} {th : Int32} {K : Nat → Nat} {S2 : Nat → Nat → Nat} {f : Nat → Int64}
set_option maxRecDepth 100000 in
set_option maxHeartbeats 4000000 in
theorem lc_8 (F : LF p s m c args) (X : LX l s D A0 cI cL x L xs) {i : Nat} (hi : i + 4 ≤ L) (hc : cells + 149 ≤ 601024) (hs : slots + 944 ≤ 7293033) (G : LG s D A0 cI cL u o a b x i S th K S2 f H locs ls) (N : LN p l e s m args below meth c Q D A0 cI cL u o a b x i cells slots) : W p l e room_1 s m args below meth c H locs cells slots Q (F0 m 744 ls []) := by
  obtain ⟨hI, hP, hD, hS, hl⟩ := G
  have hl : lv_has ls 9 [(4, .int (nI i)), (0, .ref x), (1, .ref (a 13)), (2, .ref (u 0)), (3, .ref o)] := hl
  refine lv_aload_n F.1 F.2.1 dL_law_744 rfl (lv_at hl 2 rfl) ?_
  refine w_subI (n := 0) (rest := []) (As := []) F (c_X3_beats l D cI a b S S2 hI) gL_law_X3_beats rfl (by decide +kernel) ⟨Nat.le_of_ble_eq_true rfl, Nat.le_of_ble_eq_true rfl⟩ rfl hl.1 rfl (Nat.le_of_ble_eq_true rfl) dL_law_745 ⟨show cells ≤ 601024 by omega, show slots ≤ 7293033 by omega⟩ X.1 hP (wLw_Co hP) hS (q0 := 0) (ci := 3) rfl rfl (fun H locs hP hS => ?_)
  refine lv_aload_n F.1 F.2.1 dL_law_748 rfl (lv_at hl 3 rfl) ?_
  refine w_headI (n := 0) (rest := [.int (nI (S 0 3))]) (As := []) F (c_X4_beats l D cI u S th K hI) gL_law_X4_beats rfl (by decide +kernel) ⟨Nat.le_of_ble_eq_true rfl, Nat.le_of_ble_eq_true rfl⟩ rfl hl.1 rfl (Nat.le_of_ble_eq_true rfl) dL_law_749 ⟨show cells ≤ 601024 by omega, show slots ≤ 7293033 by omega⟩ X.1 hP hD hS wMo_ln wMo_ad (q0 := 0) (ci := 4) rfl rfl (fun H locs hP hD hS => ?_)
  refine lv_icmp_eq (tgt := 2173) F.1 F.2.1 dL_law_752 (by decide) (fun _ => ?_) (fun h => absurd rfl h)
  exact W.widen (show cells ≤ cells + 149 by omega) (show slots ≤ slots + 944 by omega) (N S (nI 0) K S2 f H locs ls ⟨hI, hP, hD, hS, hl⟩)
set_option maxRecDepth 100000 in
set_option maxHeartbeats 4000000 in
theorem lc_9 (F : LF p s m c args) (X : LX l s D A0 cI cL x L xs) {i : Nat} (hi : i + 4 ≤ L) (hc : cells + 149 ≤ 601024) (hs : slots + 944 ≤ 7293033) (G : LG s D A0 cI cL u o a b x i S th K S2 f H locs ls) (N : LN p l e s m args below meth c Q D A0 cI cL u o a b x i cells slots) : W p l e room_1 s m args below meth c H locs cells slots Q (F0 m 757 ls []) := by
  obtain ⟨hI, hP, hD, hS, hl⟩ := G
  have hl : lv_has ls 9 [(4, .int (nI i)), (0, .ref x), (1, .ref (a 13)), (2, .ref (u 0)), (3, .ref o)] := hl
  refine lv_aload_n F.1 F.2.1 dL_law_757 rfl (lv_at hl 2 rfl) ?_
  refine w_subI (n := 0) (rest := []) (As := []) F (c_X3_gates l D cI a b S S2 hI) gL_law_X3_gates rfl (by decide +kernel) ⟨Nat.le_of_ble_eq_true rfl, Nat.le_of_ble_eq_true rfl⟩ rfl hl.1 rfl (Nat.le_of_ble_eq_true rfl) dL_law_758 ⟨show cells ≤ 601024 by omega, show slots ≤ 7293033 by omega⟩ X.1 hP (wLw_Co hP) hS (q0 := 0) (ci := 3) rfl rfl (fun H locs hP hS => ?_)
  refine lv_aload_n F.1 F.2.1 dL_law_761 rfl (lv_at hl 3 rfl) ?_
  refine w_headI (n := 0) (rest := [.int (nI (S 0 0))]) (As := []) F (c_X4_gates l D cI u S th K hI) gL_law_X4_gates rfl (by decide +kernel) ⟨Nat.le_of_ble_eq_true rfl, Nat.le_of_ble_eq_true rfl⟩ rfl hl.1 rfl (Nat.le_of_ble_eq_true rfl) dL_law_762 ⟨show cells ≤ 601024 by omega, show slots ≤ 7293033 by omega⟩ X.1 hP hD hS wMo_ln wMo_ad (q0 := 0) (ci := 4) rfl rfl (fun H locs hP hD hS => ?_)
  refine lv_icmp_eq (tgt := 2173) F.1 F.2.1 dL_law_765 (by decide) (fun _ => ?_) (fun h => absurd rfl h)
  exact W.widen (show cells ≤ cells + 149 by omega) (show slots ≤ slots + 944 by omega) (N S (nI 0) K S2 f H locs ls ⟨hI, hP, hD, hS, hl⟩)
set_option maxRecDepth 100000 in
set_option maxHeartbeats 4000000 in
theorem lc_10 (F : LF p s m c args) (X : LX l s D A0 cI cL x L xs) {i : Nat} (hi : i + 4 ≤ L) (hc : cells + 149 ≤ 601024) (hs : slots + 944 ≤ 7293033) (G : LG s D A0 cI cL u o a b x i S th K S2 f H locs ls) (N : LN p l e s m args below meth c Q D A0 cI cL u o a b x i cells slots) : W p l e room_1 s m args below meth c H locs cells slots Q (F0 m 770 ls []) := by
  obtain ⟨hI, hP, hD, hS, hl⟩ := G
  have hl : lv_has ls 9 [(4, .int (nI i)), (0, .ref x), (1, .ref (a 13)), (2, .ref (u 0)), (3, .ref o)] := hl
  refine lv_aload_n F.1 F.2.1 dL_law_770 rfl (lv_at hl 2 rfl) ?_
  refine w_subI (n := 0) (rest := []) (As := []) F (c_X3_geese l D cI a b S S2 hI) gL_law_X3_geese rfl (by decide +kernel) ⟨Nat.le_of_ble_eq_true rfl, Nat.le_of_ble_eq_true rfl⟩ rfl hl.1 rfl (Nat.le_of_ble_eq_true rfl) dL_law_771 ⟨show cells ≤ 601024 by omega, show slots ≤ 7293033 by omega⟩ X.1 hP (wLw_Co hP) hS (q0 := 0) (ci := 3) rfl rfl (fun H locs hP hS => ?_)
  refine lv_aload_n F.1 F.2.1 dL_law_774 rfl (lv_at hl 3 rfl) ?_
  refine w_headI (n := 0) (rest := [.int (nI (S 0 1))]) (As := []) F (c_X4_geese l D cI u S th K hI) gL_law_X4_geese rfl (by decide +kernel) ⟨Nat.le_of_ble_eq_true rfl, Nat.le_of_ble_eq_true rfl⟩ rfl hl.1 rfl (Nat.le_of_ble_eq_true rfl) dL_law_775 ⟨show cells ≤ 601024 by omega, show slots ≤ 7293033 by omega⟩ X.1 hP hD hS wMo_ln wMo_ad (q0 := 0) (ci := 4) rfl rfl (fun H locs hP hD hS => ?_)
  refine lv_icmp_eq (tgt := 2173) F.1 F.2.1 dL_law_778 (by decide) (fun _ => ?_) (fun h => absurd rfl h)
  exact W.widen (show cells ≤ cells + 149 by omega) (show slots ≤ slots + 944 by omega) (N S (nI 0) K S2 f H locs ls ⟨hI, hP, hD, hS, hl⟩)
set_option maxRecDepth 100000 in
set_option maxHeartbeats 4000000 in
theorem lc_11 (F : LF p s m c args) (X : LX l s D A0 cI cL x L xs) {i : Nat} (hi : i + 4 ≤ L) (hc : cells + 149 ≤ 601024) (hs : slots + 944 ≤ 7293033) (G : LG s D A0 cI cL u o a b x i S th K S2 f H locs ls) (N : LN p l e s m args below meth c Q D A0 cI cL u o a b x i cells slots) : W p l e room_1 s m args below meth c H locs cells slots Q (F0 m 783 ls []) := by
  obtain ⟨hI, hP, hD, hS, hl⟩ := G
  have hl : lv_has ls 9 [(4, .int (nI i)), (0, .ref x), (1, .ref (a 13)), (2, .ref (u 0)), (3, .ref o)] := hl
  refine lv_aload_n F.1 F.2.1 dL_law_783 rfl (lv_at hl 2 rfl) ?_
  refine w_subI (n := 0) (rest := []) (As := []) F (c_X3_visitors l D cI a b S S2 hI) gL_law_X3_visitors rfl (by decide +kernel) ⟨Nat.le_of_ble_eq_true rfl, Nat.le_of_ble_eq_true rfl⟩ rfl hl.1 rfl (Nat.le_of_ble_eq_true rfl) dL_law_784 ⟨show cells ≤ 601024 by omega, show slots ≤ 7293033 by omega⟩ X.1 hP (wLw_Co hP) hS (q0 := 0) (ci := 3) rfl rfl (fun H locs hP hS => ?_)
  refine lv_aload_n F.1 F.2.1 dL_law_787 rfl (lv_at hl 3 rfl) ?_
  refine w_headI (n := 0) (rest := [.int (nI (S 0 2))]) (As := []) F (c_X4_visitors l D cI u S th K hI) gL_law_X4_visitors rfl (by decide +kernel) ⟨Nat.le_of_ble_eq_true rfl, Nat.le_of_ble_eq_true rfl⟩ rfl hl.1 rfl (Nat.le_of_ble_eq_true rfl) dL_law_788 ⟨show cells ≤ 601024 by omega, show slots ≤ 7293033 by omega⟩ X.1 hP hD hS wMo_ln wMo_ad (q0 := 0) (ci := 4) rfl rfl (fun H locs hP hD hS => ?_)
  refine lv_icmp_eq (tgt := 2173) F.1 F.2.1 dL_law_791 (by decide) (fun _ => ?_) (fun h => absurd rfl h)
  exact W.widen (show cells ≤ cells + 149 by omega) (show slots ≤ slots + 944 by omega) (N S (nI 0) K S2 f H locs ls ⟨hI, hP, hD, hS, hl⟩)
set_option maxRecDepth 100000 in
set_option maxHeartbeats 4000000 in
theorem lc_12 (F : LF p s m c args) (X : LX l s D A0 cI cL x L xs) {i : Nat} (hi : i + 4 ≤ L) (hc : cells + 149 ≤ 601024) (hs : slots + 944 ≤ 7293033) (G : LG s D A0 cI cL u o a b x i S th K S2 f H locs ls) (N : LN p l e s m args below meth c Q D A0 cI cL u o a b x i cells slots) : W p l e room_1 s m args below meth c H locs cells slots Q (F0 m 796 ls []) := by
  obtain ⟨hI, hP, hD, hS, hl⟩ := G
  have hl : lv_has ls 9 [(4, .int (nI i)), (0, .ref x), (1, .ref (a 13)), (2, .ref (u 0)), (3, .ref o)] := hl
  refine lv_aload_n F.1 F.2.1 dL_law_796 rfl (lv_at hl 2 rfl) ?_
  refine w_subI (n := 0) (rest := []) (As := []) F (c_X3_inFarm l D cI a b S S2 hI) gL_law_X3_inFarm rfl (by decide +kernel) ⟨Nat.le_of_ble_eq_true rfl, Nat.le_of_ble_eq_true rfl⟩ rfl hl.1 rfl (Nat.le_of_ble_eq_true rfl) dL_law_797 ⟨show cells ≤ 601024 by omega, show slots ≤ 7293033 by omega⟩ X.1 hP (wLw_Co hP) hS (q0 := 0) (ci := 3) rfl rfl (fun H locs hP hS => ?_)
  refine lv_aload_n F.1 F.2.1 dL_law_800 rfl (lv_at hl 3 rfl) ?_
  refine w_headI (n := 0) (rest := [.int (nI (inN S (S 0 2)))]) (As := []) F (c_X4_inFarm l D cI u S th K hI) gL_law_X4_inFarm rfl (by decide +kernel) ⟨Nat.le_of_ble_eq_true rfl, Nat.le_of_ble_eq_true rfl⟩ rfl hl.1 rfl (Nat.le_of_ble_eq_true rfl) dL_law_801 ⟨show cells ≤ 601024 by omega, show slots ≤ 7293033 by omega⟩ X.1 hP hD hS wMo_ln wMo_ad (q0 := 0) (ci := 4) rfl rfl (fun H locs hP hD hS => ?_)
  refine lv_icmp_eq (tgt := 2173) F.1 F.2.1 dL_law_804 (by decide) (fun _ => ?_) (fun h => absurd rfl h)
  exact W.widen (show cells ≤ cells + 149 by omega) (show slots ≤ slots + 944 by omega) (N S (nI 0) K S2 f H locs ls ⟨hI, hP, hD, hS, hl⟩)
set_option maxRecDepth 100000 in
set_option maxHeartbeats 4000000 in
theorem lc_13 (F : LF p s m c args) (X : LX l s D A0 cI cL x L xs) {i : Nat} (hi : i + 4 ≤ L) (hc : cells + 149 ≤ 601024) (hs : slots + 944 ≤ 7293033) (G : LG s D A0 cI cL u o a b x i S th K S2 f H locs ls) (N : LN p l e s m args below meth c Q D A0 cI cL u o a b x i cells slots) : W p l e room_1 s m args below meth c H locs cells slots Q (F0 m 809 ls []) := by
  obtain ⟨hI, hP, hD, hS, hl⟩ := G
  have hl : lv_has ls 9 [(4, .int (nI i)), (0, .ref x), (1, .ref (a 13)), (2, .ref (u 0)), (3, .ref o)] := hl
  refine lv_aload_n F.1 F.2.1 dL_law_809 rfl (lv_at hl 2 rfl) ?_
  refine w_subI (n := 0) (rest := []) (As := []) F (c_X3_bribes l D cI a b S S2 hI) gL_law_X3_bribes rfl (by decide +kernel) ⟨Nat.le_of_ble_eq_true rfl, Nat.le_of_ble_eq_true rfl⟩ rfl hl.1 rfl (Nat.le_of_ble_eq_true rfl) dL_law_810 ⟨show cells ≤ 601024 by omega, show slots ≤ 7293033 by omega⟩ X.1 hP (wLw_Co hP) hS (q0 := 0) (ci := 3) rfl rfl (fun H locs hP hS => ?_)
  refine lv_aload_n F.1 F.2.1 dL_law_813 rfl (lv_at hl 3 rfl) ?_
  refine w_headI (n := 0) (rest := [.int (nI (S 0 4))]) (As := []) F (c_X4_bribes l D cI u S th K hI) gL_law_X4_bribes rfl (by decide +kernel) ⟨Nat.le_of_ble_eq_true rfl, Nat.le_of_ble_eq_true rfl⟩ rfl hl.1 rfl (Nat.le_of_ble_eq_true rfl) dL_law_814 ⟨show cells ≤ 601024 by omega, show slots ≤ 7293033 by omega⟩ X.1 hP hD hS wMo_ln wMo_ad (q0 := 0) (ci := 4) rfl rfl (fun H locs hP hD hS => ?_)
  refine lv_icmp_eq (tgt := 2173) F.1 F.2.1 dL_law_817 (by decide) (fun _ => ?_) (fun h => absurd rfl h)
  exact W.widen (show cells ≤ cells + 149 by omega) (show slots ≤ slots + 944 by omega) (N S (nI 0) K S2 f H locs ls ⟨hI, hP, hD, hS, hl⟩)
set_option maxRecDepth 100000 in
set_option maxHeartbeats 4000000 in
theorem lc_14 (F : LF p s m c args) (X : LX l s D A0 cI cL x L xs) {i : Nat} (hi : i + 4 ≤ L) (hc : cells + 149 ≤ 601024) (hs : slots + 944 ≤ 7293033) (G : LG s D A0 cI cL u o a b x i S th K S2 f H locs ls) (N : LN p l e s m args below meth c Q D A0 cI cL u o a b x i cells slots) : W p l e room_1 s m args below meth c H locs cells slots Q (F0 m 822 ls []) := by
  obtain ⟨hI, hP, hD, hS, hl⟩ := G
  have hl : lv_has ls 9 [(4, .int (nI i)), (0, .ref x), (1, .ref (a 13)), (2, .ref (u 0)), (3, .ref o)] := hl
  refine lv_aload_n F.1 F.2.1 dL_law_822 rfl (lv_at hl 2 rfl) ?_
  refine w_subI (n := 0) (rest := []) (As := []) F (c_X3_retreats l D cI a b S S2 hI) gL_law_X3_retreats rfl (by decide +kernel) ⟨Nat.le_of_ble_eq_true rfl, Nat.le_of_ble_eq_true rfl⟩ rfl hl.1 rfl (Nat.le_of_ble_eq_true rfl) dL_law_823 ⟨show cells ≤ 601024 by omega, show slots ≤ 7293033 by omega⟩ X.1 hP (wLw_Co hP) hS (q0 := 0) (ci := 3) rfl rfl (fun H locs hP hS => ?_)
  refine lv_aload_n F.1 F.2.1 dL_law_826 rfl (lv_at hl 3 rfl) ?_
  refine w_headI (n := 0) (rest := [.int (nI (S 0 5))]) (As := []) F (c_X4_retreats l D cI u S th K hI) gL_law_X4_retreats rfl (by decide +kernel) ⟨Nat.le_of_ble_eq_true rfl, Nat.le_of_ble_eq_true rfl⟩ rfl hl.1 rfl (Nat.le_of_ble_eq_true rfl) dL_law_827 ⟨show cells ≤ 601024 by omega, show slots ≤ 7293033 by omega⟩ X.1 hP hD hS wMo_ln wMo_ad (q0 := 0) (ci := 4) rfl rfl (fun H locs hP hD hS => ?_)
  refine lv_icmp_eq (tgt := 2173) F.1 F.2.1 dL_law_830 (by decide) (fun _ => ?_) (fun h => absurd rfl h)
  exact W.widen (show cells ≤ cells + 149 by omega) (show slots ≤ slots + 944 by omega) (N S (nI 0) K S2 f H locs ls ⟨hI, hP, hD, hS, hl⟩)
set_option maxRecDepth 100000 in
set_option maxHeartbeats 4000000 in
theorem lc_15 (F : LF p s m c args) (X : LX l s D A0 cI cL x L xs) {i : Nat} (hi : i + 4 ≤ L) (hc : cells + 149 ≤ 601024) (hs : slots + 944 ≤ 7293033) (G : LG s D A0 cI cL u o a b x i S th K S2 f H locs ls) (N : LN p l e s m args below meth c Q D A0 cI cL u o a b x i cells slots) : W p l e room_1 s m args below meth c H locs cells slots Q (F0 m 835 ls []) := by
  obtain ⟨hI, hP, hD, hS, hl⟩ := G
  have hl : lv_has ls 9 [(4, .int (nI i)), (0, .ref x), (1, .ref (a 13)), (2, .ref (u 0)), (3, .ref o)] := hl
  refine lv_aload_n F.1 F.2.1 dL_law_835 rfl (lv_at hl 2 rfl) ?_
  refine w_rd (k := 1) F X (by decide) (by omega) hS 1 0 hl rfl rfl dL_law_836 dL_law_837 dL_law_839 dL_law_840 dL_law_841 ?_
  refine lv_aload_n F.1 F.2.1 dL_law_842 rfl (lv_at hl 4 rfl) ?_
  refine w_help (n := 3) (rest := []) F (c_L_rankOf l D cI cL X.2.2.2.2.2.1 a b o f S S2 (xs (i + 1)) hI) gL_law_L_rankOf rfl (by decide +kernel) ⟨Nat.le_of_ble_eq_true rfl, Nat.le_of_ble_eq_true rfl⟩ rfl hl.1 rfl (Nat.le_of_ble_eq_true rfl) dL_law_843 ⟨show cells + 1 ≤ 601024 by omega, show slots + 6 * 1 ≤ 7293033 by omega⟩ X.2.1 X.2.2.1 X.2.2.2.1 hP hD hS wOC_ad (fun H locs hP hD hS => ?_)
  refine lv_istore (lv' := [(5, .int (nI ((r1 (S 0 0) (xs (i + 1)) (nI (S 1 (cl (xs (i + 1)))))).1))), (4, .int (nI i)), (0, .ref x), (1, .ref (a 13)), (2, .ref (u 0)), (3, .ref o)]) F.1 F.2.1 dL_law_846 hl (by decide) rfl (fun ls hl => ?_)
  refine lv_aload_n F.1 F.2.1 dL_law_848 rfl (lv_at hl 4 rfl) ?_
  refine w_rd (k := 1) F X (by decide) (by omega) hS 2 1 hl rfl rfl dL_law_849 dL_law_850 dL_law_852 dL_law_853 dL_law_854 ?_
  refine w_headI (n := 1) (rest := []) F (c_X4_rankOf l D cI u S th K (xs (i + 1)) hI) gL_law_X4_rankOf rfl (by decide +kernel) ⟨Nat.le_of_ble_eq_true rfl, Nat.le_of_ble_eq_true rfl⟩ rfl hl.1 rfl (Nat.le_of_ble_eq_true rfl) dL_law_855 ⟨show cells + 1 ≤ 601024 by omega, show slots + 6 * 1 ≤ 7293033 by omega⟩ X.1 hP hD hS wMo_ln wMo_ad (q0 := 0) (ci := 4) rfl rfl (fun H locs hP hD hS => ?_)
  refine lv_istore (lv' := [(6, .int ((r1 (S 0 0) (xs (i + 1)) (nI (S 1 (cl (xs (i + 1)))))).2)), (5, .int (nI ((r1 (S 0 0) (xs (i + 1)) (nI (S 1 (cl (xs (i + 1)))))).1))), (4, .int (nI i)), (0, .ref x), (1, .ref (a 13)), (2, .ref (u 0)), (3, .ref o)]) F.1 F.2.1 dL_law_858 hl (by decide) rfl (fun ls hl => ?_)
  exact w_tail F X (k := (r1 (S 0 0) (xs (i + 1)) (nI (S 1 (cl (xs (i + 1)))))).1) (v := ((r1 (S 0 0) (xs (i + 1)) (nI (S 1 (cl (xs (i + 1)))))).2)) hI hP hD hS hl (Nat.le_trans (r1_le _ _ _) (by decide)) (show cells + 1 ≤ cells + 149 by omega) (show slots + 6 * 1 ≤ slots + 944 by omega) hc hs N dL_law_860 dL_law_861 dL_law_864 dL_law_866 dL_law_871 dL_law_873 dL_law_876 dL_law_877 dL_law_878 dL_law_879 dL_law_881 dL_law_882 dL_law_883 dL_law_888 (by decide)
end
