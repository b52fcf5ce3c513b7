theorem nL_act_X4 : ∀ x ∈ wsX40, x ∈ wsL_act := fun _ h => List.mem_cons_of_mem _ (List.mem_append_left _ (List.mem_append_left _ (List.mem_append_left _ (List.mem_append_left _ (List.mem_append_left _ (List.mem_append_left _ (List.mem_append_left _ (List.mem_append_right _ h))))))))
set_option maxRecDepth 100000 in
set_option maxHeartbeats 8000000 in
theorem c_L_act (l : Launch) (D : va_G) (cI cA : ClassId) (hst : l.stackTraces = false) (z a b : Nat → Nat) (S S2 : Nat → Nat → Nat) (x : Int32) (hL : LI S) : AC l 9 500 2500 159 D cI cA z a b S S2 x := by
  intro sz
  refine q_bodyX (cc := cL_act) (maxL := 15) (ret := (some .boolean)) (by decide) rfl (Nat.le_of_ble_eq_true rfl) ?_
  intro p e s m args below meth c H ls hz F hr hlk hl hP hK hX hD hS
  have F : CallFix p m c cL_act 15 s args wsL_act RL := F
  have hl : lv_has ls 15 [(0, .ref (a 13)), (1, .ref (z 0)), (2, .int x)] := hl
  have hI := hL.1
  have hi0 := hI.gates
  have hi1 := hI.geese
  have hi2 := hI.guests
  refine lv_aload_n F.1 F.2.1 dL_act_0 rfl (lv_at hl 1 rfl) ?_
  refine k_get (v := .ref (z 1)) F nL_act_X4 hK.1.1 hP 0 (pre_at rfl) rfl 3 (by decide) (List.mem_of_getElem? (i := 1) rfl) rfl dL_act_1 ?_
  refine q_alen F hK hP 1 (pre_at rfl) dL_act_4 ?_
  refine lv_istore_n (lv' := [(3, .int (nI (S 0 0))), (0, .ref (a 13)), (1, .ref (z 0)), (2, .int x)]) F.1 F.2.1 dL_act_5 rfl hl (by decide) rfl (fun ls hl => ?_)
  refine lv_aload_n F.1 F.2.1 dL_act_6 rfl (lv_at hl 2 rfl) ?_
  refine k_get (v := .ref (z 2)) F nL_act_X4 hK.1.1 hP 0 (pre_at rfl) rfl 4 (by decide) (List.mem_of_getElem? (i := 2) rfl) rfl dL_act_7 ?_
  refine q_alenA F hK hP 2 (pre_at rfl) dL_act_10 ?_
  refine lv_istore (lv' := [(4, .int (nI (S 0 1))), (3, .int (nI (S 0 0))), (0, .ref (a 13)), (1, .ref (z 0)), (2, .int x)]) F.1 F.2.1 dL_act_11 hl (by decide) rfl (fun ls hl => ?_)
  refine lv_aload_n F.1 F.2.1 dL_act_13 rfl (lv_at hl 3 rfl) ?_
  refine k_get (v := .ref (z 3)) F nL_act_X4 hK.1.1 hP 0 (pre_at rfl) rfl 5 (by decide) (List.mem_of_getElem? (i := 3) rfl) rfl dL_act_14 ?_
  refine q_alenA F hK hP 3 (pre_at rfl) dL_act_17 ?_
  refine lv_istore (lv' := [(5, .int (nI (S 0 2))), (4, .int (nI (S 0 1))), (3, .int (nI (S 0 0))), (0, .ref (a 13)), (1, .ref (z 0)), (2, .int x)]) F.1 F.2.1 dL_act_18 hl (by decide) rfl (fun ls hl => ?_)
  refine lv_iload_n F.1 F.2.1 dL_act_20 rfl (lv_at hl 5 rfl) ?_
  refine lv_bipush (v := nI 9) F.1 F.2.1 dL_act_21 (by decide) ?_
  refine lv_ishr F.1 F.2.1 dL_act_23 ?_
  refine lv_bipush (v := nI 18) F.1 F.2.1 dL_act_24 (by decide) ?_
  refine x_pS (n := 2) (rest := []) (v := nI (blw (x >>> (nI 9 &&& 31)) 18)) F (c_L_below l D cI (x >>> (nI 9 &&& 31)) 18 (by omega) (by omega)) gL_act_L_below rfl (by decide +kernel) ⟨Nat.le_of_ble_eq_true rfl, Nat.le_of_ble_eq_true rfl⟩ rfl hl.1 rfl (Nat.le_of_ble_eq_true rfl) dL_act_26 ⟨show 0 ≤ 500 by omega, show 0 ≤ 2500 by omega⟩ hK hP hS (fun H locs hP hS => ?_)
  have := blw_lt (x >>> (nI 9 &&& 31)) (n := 18) (by omega)
  refine lv_istore (lv' := [(6, .int (nI (blw (x >>> (nI 9 &&& 31)) 18))), (5, .int (nI (S 0 2))), (4, .int (nI (S 0 1))), (3, .int (nI (S 0 0))), (0, .ref (a 13)), (1, .ref (z 0)), (2, .int x)]) F.1 F.2.1 dL_act_29 hl (by decide) rfl (fun ls hl => ?_)
  refine lv_iload_n F.1 F.2.1 dL_act_31 rfl (lv_at hl 3 rfl) ?_
  refine k_if_eq (tgt := 40) F (by omega) dL_act_32 (by decide) (fun h32 => ?_) (fun h32 => ?_)
  · skip
    refine lv_iload_n F.1 F.2.1 dL_act_40 rfl (lv_at hl 3 rfl) ?_
    refine lv_bipush (v := nI 6) F.1 F.2.1 dL_act_41 (by decide) ?_
    refine k_icmp_eq (tgt := 51) F (by omega) (by omega) dL_act_43 (by decide) (fun h43 => ?_) (fun h43 => ?_)
    · skip
      refine lv_iconst (v := nI 1) F.1 F.2.1 dL_act_51 (by decide) ?_
      exact a_ret F hr hlk hP hD hS hz rfl hL (show S 0 3 ≤ S 0 3 + 60 by omega) (show 0 ≤ 500 by omega) (show 0 ≤ 2500 by omega) dL_act_52
    · skip
      refine lv_iload F.1 F.2.1 dL_act_46 (lv_at hl 1 rfl) ?_
      refine k_if_le (tgt := 53) F (by omega) dL_act_48 (by decide) (fun h48 => ?_) (fun h48 => ?_)
      · skip
        refine lv_aload_n F.1 F.2.1 dL_act_53 rfl (lv_at hl 5 rfl) ?_
        refine lv_iload_n F.1 F.2.1 dL_act_54 rfl (lv_at hl 6 rfl) ?_
        refine lv_iconst (v := nI 2) F.1 F.2.1 dL_act_55 (by decide) ?_
        refine lv_ishr F.1 F.2.1 dL_act_56 ?_
        refine lv_bipush (v := nI 10) F.1 F.2.1 dL_act_57 (by decide) ?_
        refine x_pS (n := 2) (rest := [.ref (z 0)]) (v := nI (blw (x >>> (nI 2 &&& 31)) 10)) F (c_L_below l D cI (x >>> (nI 2 &&& 31)) 10 (by omega) (by omega)) gL_act_L_below rfl (by decide +kernel) ⟨Nat.le_of_ble_eq_true rfl, Nat.le_of_ble_eq_true rfl⟩ rfl hl.1 rfl (Nat.le_of_ble_eq_true rfl) dL_act_59 ⟨show 0 ≤ 500 by omega, show 0 ≤ 2500 by omega⟩ hK hP hS (fun H locs hP hS => ?_)
        have := blw_lt (x >>> (nI 2 &&& 31)) (n := 10) (by omega)
        refine q_addGate F (c_X4_addGate l D cI cA z S (blw (x >>> (nI 2 &&& 31)) 10) (by omega)) gL_act_X4_addGate ⟨Nat.le_of_ble_eq_true rfl, Nat.le_of_ble_eq_true rfl⟩ hl.1 (Nat.le_of_ble_eq_true rfl) dL_act_62 ⟨show 0 + 1 ≤ 500 by omega, show 0 + 7 ≤ 2500 by omega⟩ hK hP hD hS (fun q h => Or.inr (by omega)) (fun q62 H locs hP hD hS => ?_)
        refine lv_aload_n F.1 F.2.1 dL_act_65 rfl (lv_at hl 4 rfl) ?_
        refine lv_iload_n F.1 F.2.1 dL_act_66 rfl (lv_at hl 6 rfl) ?_
        refine lv_iconst (v := nI 2) F.1 F.2.1 dL_act_67 (by decide) ?_
        refine lv_ishr F.1 F.2.1 dL_act_68 ?_
        refine lv_bipush (v := nI 10) F.1 F.2.1 dL_act_69 (by decide) ?_
        refine x_pS (n := 2) (rest := [.ref (a 13)]) (v := nI (blw (x >>> (nI 2 &&& 31)) 10)) F (c_L_below l D cI (x >>> (nI 2 &&& 31)) 10 (by omega) (by omega)) gL_act_L_below rfl (by decide +kernel) ⟨Nat.le_of_ble_eq_true rfl, Nat.le_of_ble_eq_true rfl⟩ rfl hl.1 rfl (Nat.le_of_ble_eq_true rfl) dL_act_71 ⟨show 0 + 1 ≤ 500 by omega, show 0 + 7 ≤ 2500 by omega⟩ hK hP hS (fun H locs hP hS => ?_)
        have := blw_lt (x >>> (nI 2 &&& 31)) (n := 10) (by omega)
        have ok_1 : rAddGate S (nI (blw (x >>> (nI 2 &&& 31)) 10)) = (0, nI (S 0 0), (gaS S (blw (x >>> (nI 2 &&& 31)) 10))) := ok_addGate (by omega) (by omega) (by omega)
        refine x_tI (n := 1) (rest := []) (v := nI (S 0 0)) (w1 := (wCo cI a b (gaS S (blw (x >>> (nI 2 &&& 31)) 10)) S2)) F (c_X3_addGate l D cI hst a b S S2 (nI (blw (x >>> (nI 2 &&& 31)) 10)) hI) (by rw [ok_1]; rfl) (by rw [ok_1]) (by rw [ok_1]) gL_act_X3_addGate rfl (by decide +kernel) ⟨Nat.le_of_ble_eq_true rfl, Nat.le_of_ble_eq_true rfl⟩ rfl hl.1 rfl (Nat.le_of_ble_eq_true rfl) dL_act_74 ⟨show 0 + 1 + 2 ≤ 500 by omega, show 0 + 7 + 12 ≤ 2500 by omega⟩ hK hX hP hD hS ap_t rfl rfl ((wSi cI cA (updN z 1 q62) (gaS S (blw (x >>> (nI 2 &&& 31)) 10))) ++ (wCo cI a b (gaS S (blw (x >>> (nI 2 &&& 31)) 10)) S2)) (congrArg _ (List.append_nil _)) (q0 := 0) (ci := 3) rfl rfl (fun H locs hP hD hS => ?_)
        refine lv_iload_n F.1 F.2.1 dL_act_77 rfl (lv_at hl 3 rfl) ?_
        refine lv_icmp_ne (tgt := 85) F.1 F.2.1 dL_act_78 (by decide) (fun h78 => ?_) (fun h78 => ?_)
        · skip
          exact absurd rfl h78
        · skip
          refine lv_iconst (v := nI 1) F.1 F.2.1 dL_act_81 (by decide) ?_
          refine lv_goto (tgt := 86) F.1 F.2.1 dL_act_82 (by decide) ?_
          exact a_ret F hr hlk hP hD hS hz rfl (LI_ga hL (by omega) (by omega) (by omega)) (show S 0 3 ≤ S 0 3 + 60 by omega) (show 0 + 1 + 2 ≤ 500 by omega) (show 0 + 7 + 12 ≤ 2500 by omega) dL_act_86
      · skip
        refine lv_iconst (v := nI 1) F.1 F.2.1 dL_act_51 (by decide) ?_
        exact a_ret F hr hlk hP hD hS hz rfl hL (show S 0 3 ≤ S 0 3 + 60 by omega) (show 0 ≤ 500 by omega) (show 0 ≤ 2500 by omega) dL_act_52
  · skip
    refine lv_iload F.1 F.2.1 dL_act_35 (lv_at hl 0 rfl) ?_
    refine k_if_ne (tgt := 87) F (by omega) dL_act_37 (by decide) (fun h37 => ?_) (fun h37 => ?_)
    · skip
      refine lv_iload_n F.1 F.2.1 dL_act_87 rfl (lv_at hl 6 rfl) ?_
      refine lv_iconst (v := nI 1) F.1 F.2.1 dL_act_88 (by decide) ?_
      refine lv_ishr F.1 F.2.1 dL_act_89 ?_
      refine lv_iload_n F.1 F.2.1 dL_act_90 rfl (lv_at hl 3 rfl) ?_
      refine x_pS (n := 2) (rest := []) (v := nI (blw (x >>> (nI 1 &&& 31)) (S 0 0))) F (c_L_below l D cI (x >>> (nI 1 &&& 31)) (S 0 0) (by omega) (by omega)) gL_act_L_below rfl (by decide +kernel) ⟨Nat.le_of_ble_eq_true rfl, Nat.le_of_ble_eq_true rfl⟩ rfl hl.1 rfl (Nat.le_of_ble_eq_true rfl) dL_act_91 ⟨show 0 ≤ 500 by omega, show 0 ≤ 2500 by omega⟩ hK hP hS (fun H locs hP hS => ?_)
      have := blw_lt (x >>> (nI 1 &&& 31)) (n := (S 0 0)) (by omega)
      refine lv_istore (lv' := [(7, .int (nI (blw (x >>> (nI 1 &&& 31)) (S 0 0)))), (6, .int (nI (blw (x >>> (nI 9 &&& 31)) 18))), (5, .int (nI (S 0 2))), (4, .int (nI (S 0 1))), (3, .int (nI (S 0 0))), (0, .ref (a 13)), (1, .ref (z 0)), (2, .int x)]) F.1 F.2.1 dL_act_94 hl (by decide) rfl (fun ls hl => ?_)
      refine lv_iload F.1 F.2.1 dL_act_96 (lv_at hl 3 rfl) ?_
      refine k_if_eq (tgt := 107) F (by omega) dL_act_98 (by decide) (fun h98 => ?_) (fun h98 => ?_)
      · skip
        refine lv_iload F.1 F.2.1 dL_act_107 (lv_at hl 3 rfl) ?_
        refine lv_bipush (v := nI 8) F.1 F.2.1 dL_act_109 (by decide) ?_
        refine k_icmp_ne (tgt := 116) F (by omega) (by omega) dL_act_111 (by decide) (fun h111 => ?_) (fun h111 => ?_)
        · skip
          refine lv_aload_n F.1 F.2.1 dL_act_116 rfl (lv_at hl 6 rfl) ?_
          refine lv_aload_n F.1 F.2.1 dL_act_117 rfl (lv_at hl 6 rfl) ?_
          refine k_get (v := .ref (z 2)) F nL_act_X4 hK.1.1 hP 0 (pre_at rfl) rfl 4 (by decide) (List.mem_of_getElem? (i := 2) rfl) rfl dL_act_118 ?_
          refine lv_iconst (v := nI 4) F.1 F.2.1 dL_act_121 (by decide) ?_
          refine q_newa F (List.mem_of_getElem? (i := 4) rfl) hK hP hD hS (fun q h => Or.inr (by omega)) (k := 4) (by omega) ⟨show 0 + 1 ≤ 500 by omega, show 0 + 4 ≤ 2500 by omega⟩ dL_act_122 (fun q122 H hP hD hS => ?_)
          refine lv_dup F.1 F.2.1 dL_act_124 rfl ?_
          refine lv_iconst (v := nI 0) F.1 F.2.1 dL_act_125 (by decide) ?_
          refine lv_iload F.1 F.2.1 dL_act_126 (lv_at hl 0 rfl) ?_
          refine q_iast (k := 0) (x := (blw (x >>> (nI 1 &&& 31)) (S 0 0))) F hK hP hD hS (((wSi cI cA z S) ++ (wCo cI a b S S2)).length + 0) (app_l rfl) (by omega) (by first | omega | decide) dL_act_128 (((wSi cI cA z S) ++ (wCo cI a b S S2)) ++ [(q122, .inl (cI, 4, .inl (row (updN (fun _ => 0) 0 (blw (x >>> (nI 1 &&& 31)) (S 0 0))))))]) (set_app1 rfl) (fun H locs hP hD hS => ?_)
          refine lv_dup F.1 F.2.1 dL_act_129 rfl ?_
          refine lv_iconst (v := nI 1) F.1 F.2.1 dL_act_130 (by decide) ?_
          refine lv_iconst (v := nI 1) F.1 F.2.1 dL_act_131 (by decide) ?_
          refine lv_iload_n F.1 F.2.1 dL_act_132 rfl (lv_at hl 7 rfl) ?_
          refine lv_iconst (v := nI 4) F.1 F.2.1 dL_act_133 (by decide) ?_
          refine lv_ishr F.1 F.2.1 dL_act_134 ?_
          refine lv_bipush (v := nI 9) F.1 F.2.1 dL_act_135 (by decide) ?_
          refine x_pS (n := 2) (rest := [.int (nI 1), .int (nI 1), .ref q122, .ref q122, .ref (z 2), .ref (z 0)]) (v := nI (blw (x >>> (nI 4 &&& 31)) 9)) F (c_L_below l D cI (x >>> (nI 4 &&& 31)) 9 (by omega) (by omega)) gL_act_L_below rfl (by decide +kernel) ⟨Nat.le_of_ble_eq_true rfl, Nat.le_of_ble_eq_true rfl⟩ rfl hl.1 rfl (Nat.le_of_ble_eq_true rfl) dL_act_137 ⟨show 0 + 1 ≤ 500 by omega, show 0 + 4 ≤ 2500 by omega⟩ hK hP hS (fun H locs hP hS => ?_)
          have := blw_lt (x >>> (nI 4 &&& 31)) (n := 9) (by omega)
          refine k_iadd F dL_act_140 ?_
          refine q_iast (k := 1) (x := (1 + (blw (x >>> (nI 4 &&& 31)) 9))) F hK hP hD hS (((wSi cI cA z S) ++ (wCo cI a b S S2)).length + 0) (app_l rfl) (by omega) (by first | omega | decide) dL_act_141 (((wSi cI cA z S) ++ (wCo cI a b S S2)) ++ [(q122, .inl (cI, 4, .inl (row (updN (updN (fun _ => 0) 0 (blw (x >>> (nI 1 &&& 31)) (S 0 0))) 1 (1 + (blw (x >>> (nI 4 &&& 31)) 9))))))]) (set_app1 rfl) (fun H locs hP hD hS => ?_)
          refine lv_dup F.1 F.2.1 dL_act_142 rfl ?_
          refine lv_iconst (v := nI 2) F.1 F.2.1 dL_act_143 (by decide) ?_
          refine lv_iconst (v := nI 0) F.1 F.2.1 dL_act_144 (by decide) ?_
          refine q_iast (k := 2) (x := 0) F hK hP hD hS (((wSi cI cA z S) ++ (wCo cI a b S S2)).length + 0) (app_l rfl) (by omega) (by first | omega | decide) dL_act_145 (((wSi cI cA z S) ++ (wCo cI a b S S2)) ++ [(q122, .inl (cI, 4, .inl (row (updN (updN (updN (fun _ => 0) 0 (blw (x >>> (nI 1 &&& 31)) (S 0 0))) 1 (1 + (blw (x >>> (nI 4 &&& 31)) 9))) 2 0))))]) (set_app1 rfl) (fun H locs hP hD hS => ?_)
          refine lv_dup F.1 F.2.1 dL_act_146 rfl ?_
          refine lv_iconst (v := nI 3) F.1 F.2.1 dL_act_147 (by decide) ?_
          refine lv_iconst (v := nI 0) F.1 F.2.1 dL_act_148 (by decide) ?_
          refine q_iast (k := 3) (x := 0) F hK hP hD hS (((wSi cI cA z S) ++ (wCo cI a b S S2)).length + 0) (app_l rfl) (by omega) (by first | omega | decide) dL_act_149 (((wSi cI cA z S) ++ (wCo cI a b S S2)) ++ [(q122, .inl (cI, 4, .inl (row (updN (updN (updN (updN (fun _ => 0) 0 (blw (x >>> (nI 1 &&& 31)) (S 0 0))) 1 (1 + (blw (x >>> (nI 4 &&& 31)) 9))) 2 0) 3 0))))]) (set_app1 rfl) (fun H locs hP hD hS => ?_)
          refine q_with F (c_X4_with l D cI cA (z 2) (S 0 1) q122 2 (fun k => some (z (4 + k))) (((wSi cI cA z S) ++ (wCo cI a b S S2)) ++ [(q122, .inl (cI, 4, .inl (row (updN (updN (updN (updN (fun _ => 0) 0 (blw (x >>> (nI 1 &&& 31)) (S 0 0))) 1 (1 + (blw (x >>> (nI 4 &&& 31)) 9))) 2 0) 3 0))))]) (by omega) (pre_at (pre_at rfl)) (fun H h => rowAt_of h (app_l (k := 0) rfl)) (fun k hk => ⟨z (4 + k), rfl, fun H h => rowAt_of h (pre_at (pre_at (wSi_g hk)))⟩)) gL_act_X4_with ⟨Nat.le_of_ble_eq_true rfl, Nat.le_of_ble_eq_true rfl⟩ hl.1 (Nat.le_of_ble_eq_true rfl) dL_act_150 ⟨show 0 + 1 + 1 ≤ 500 by omega, show 0 + 4 + 9 ≤ 2500 by omega⟩ hK hP hD hS (fun q h => Or.inr (by omega)) (fun q150 H locs hP hD hS => ?_)
          have hP : va_P D vwCl (((wSi cI cA z S) ++ (wCo cI a b S S2)) ++ [(q122, .inl (cI, 4, .inl (row (updN (updN (updN (updN (fun _ => 0) 0 (blw (x >>> (nI 1 &&& 31)) (S 0 0))) 1 (1 + (blw (x >>> (nI 4 &&& 31)) 9))) 2 0) 3 0)))), (q150, .inl (cA, (S 0 1 + 1), ilr (va_up (fun k => some (z (4 + k))) (S 0 1) (some q122))))]) H := P_eq (List.append_assoc _ _ _) hP
          have hD : va_D (va_A (wAc cI cA z a b S S2) sz) (((wSi cI cA z S) ++ (wCo cI a b S S2)) ++ [(q122, .inl (cI, 4, .inl (row (updN (updN (updN (updN (fun _ => 0) 0 (blw (x >>> (nI 1 &&& 31)) (S 0 0))) 1 (1 + (blw (x >>> (nI 4 &&& 31)) 9))) 2 0) 3 0)))), (q150, .inl (cA, (S 0 1 + 1), ilr (va_up (fun k => some (z (4 + k))) (S 0 1) (some q122))))]) := D_eq (List.append_assoc _ _ _) hD
          refine q_putr (ty := .array (.array .int)) F nL_act_X4 tyX4 tyX4_ok nmX4 hK hP hD hS 0 (pre_at (pre_at rfl)) rfl 4 (by decide) (List.mem_of_getElem? (i := 2) rfl) rfl (by decide +kernel) rfl rfl (Nat.le_of_ble_eq_true rfl) dL_act_153 ((((wSi cI cA z S).set 0 (z 0, .inr (4, [.int (nI (S 0 3)), .int (nI (S 0 4)), .int (nI (S 0 5)), .ref (z 1), .ref q150, .ref (z 3)]))) ++ (wCo cI a b S S2)) ++ [(q122, .inl (cI, 4, .inl (row (updN (updN (updN (updN (fun _ => 0) 0 (blw (x >>> (nI 1 &&& 31)) (S 0 0))) 1 (1 + (blw (x >>> (nI 4 &&& 31)) 9))) 2 0) 3 0)))), (q150, .inl (cA, (S 0 1 + 1), ilr (va_up (fun k => some (z (4 + k))) (S 0 1) (some q122))))]) (set_pre (pre_at rfl) (set_pre rfl rfl)) (fun H locs hP hD hS => ?_)
          refine lv_aload_n F.1 F.2.1 dL_act_156 rfl (lv_at hl 5 rfl) ?_
          refine lv_iload F.1 F.2.1 dL_act_157 (lv_at hl 0 rfl) ?_
          refine lv_iconst (v := nI 1) F.1 F.2.1 dL_act_159 (by decide) ?_
          refine lv_iload_n F.1 F.2.1 dL_act_160 rfl (lv_at hl 7 rfl) ?_
          refine lv_iconst (v := nI 4) F.1 F.2.1 dL_act_161 (by decide) ?_
          refine lv_ishr F.1 F.2.1 dL_act_162 ?_
          refine lv_bipush (v := nI 9) F.1 F.2.1 dL_act_163 (by decide) ?_
          refine x_pS (n := 2) (rest := [.int (nI 1), .int (nI (blw (x >>> (nI 1 &&& 31)) (S 0 0))), .ref (a 13)]) (v := nI (blw (x >>> (nI 4 &&& 31)) 9)) F (c_L_below l D cI (x >>> (nI 4 &&& 31)) 9 (by omega) (by omega)) gL_act_L_below rfl (by decide +kernel) ⟨Nat.le_of_ble_eq_true rfl, Nat.le_of_ble_eq_true rfl⟩ rfl hl.1 rfl (Nat.le_of_ble_eq_true rfl) dL_act_165 ⟨show 0 + 1 + 1 ≤ 500 by omega, show 0 + 4 + 9 ≤ 2500 by omega⟩ hK hP hS (fun H locs hP hS => ?_)
          have := blw_lt (x >>> (nI 4 &&& 31)) (n := 9) (by omega)
          refine k_iadd F dL_act_168 ?_
          have ok_2 : rAddGoose S (nI (blw (x >>> (nI 1 &&& 31)) (S 0 0))) (nI (1 + (blw (x >>> (nI 4 &&& 31)) 9))) = (0, nI (S 0 1), (goA S (blw (x >>> (nI 1 &&& 31)) (S 0 0)) (1 + (blw (x >>> (nI 4 &&& 31)) 9)))) := ok_addGoose hI (by omega) (by omega) (by omega) (by omega)
          refine x_tI (n := 2) (rest := []) (v := nI (S 0 1)) (w1 := (wCo cI a b (goA S (blw (x >>> (nI 1 &&& 31)) (S 0 0)) (1 + (blw (x >>> (nI 4 &&& 31)) 9))) S2)) F (c_X3_addGoose l D cI hst a b S S2 (nI (blw (x >>> (nI 1 &&& 31)) (S 0 0))) (nI (1 + (blw (x >>> (nI 4 &&& 31)) 9))) hI) (by rw [ok_2]; rfl) (by rw [ok_2]) (by rw [ok_2]) gL_act_X3_addGoose rfl (by decide +kernel) ⟨Nat.le_of_ble_eq_true rfl, Nat.le_of_ble_eq_true rfl⟩ rfl hl.1 rfl (Nat.le_of_ble_eq_true rfl) dL_act_169 ⟨show 0 + 1 + 1 + 3 ≤ 500 by omega, show 0 + 4 + 9 + 18 ≤ 2500 by omega⟩ hK hX hP hD hS (List.append_assoc _ _ _) rfl rfl ((((wSi cI cA z S).set 0 (z 0, .inr (4, [.int (nI (S 0 3)), .int (nI (S 0 4)), .int (nI (S 0 5)), .ref (z 1), .ref q150, .ref (z 3)]))) ++ (wCo cI a b (goA S (blw (x >>> (nI 1 &&& 31)) (S 0 0)) (1 + (blw (x >>> (nI 4 &&& 31)) 9))) S2)) ++ [(q122, .inl (cI, 4, .inl (row (updN (updN (updN (updN (fun _ => 0) 0 (blw (x >>> (nI 1 &&& 31)) (S 0 0))) 1 (1 + (blw (x >>> (nI 4 &&& 31)) 9))) 2 0) 3 0)))), (q150, .inl (cA, (S 0 1 + 1), ilr (va_up (fun k => some (z (4 + k))) (S 0 1) (some q122))))]) (List.append_assoc _ _ _).symm (q0 := 0) (ci := 3) rfl rfl (fun H locs hP hD hS => ?_)
          refine lv_iload F.1 F.2.1 dL_act_172 (lv_at hl 3 rfl) ?_
          refine lv_icmp_ne (tgt := 181) F.1 F.2.1 dL_act_174 (by decide) (fun h174 => ?_) (fun h174 => ?_)
          · skip
            exact absurd rfl h174
          · skip
            refine lv_iconst (v := nI 1) F.1 F.2.1 dL_act_177 (by decide) ?_
            refine lv_goto (tgt := 182) F.1 F.2.1 dL_act_178 (by decide) ?_
            exact a_ret F hr hlk (re_gP (g := (blw (x >>> (nI 1 &&& 31)) (S 0 0))) (t := (1 + (blw (x >>> (nI 4 &&& 31)) 9))) (by omega) rfl rfl (hL.2.1.1 _ (Nat.le_refl _)).1.symm (hL.2.1.1 _ (Nat.le_refl _)).2.symm hP) (re_gD (g := (blw (x >>> (nI 1 &&& 31)) (S 0 0))) (t := (1 + (blw (x >>> (nI 4 &&& 31)) 9))) (by omega) hD) hS hz (by unfold zG; rw [updN_ne (by omega), updN_ne (by omega)]) (LI_go hL (by omega) (by omega) (by omega) (by omega)) (show S 0 3 ≤ S 0 3 + 60 by omega) (show 0 + 1 + 1 + 3 ≤ 500 by omega) (show 0 + 4 + 9 + 18 ≤ 2500 by omega) dL_act_182
        · skip
          refine lv_iconst (v := nI 1) F.1 F.2.1 dL_act_114 (by decide) ?_
          exact a_ret F hr hlk hP hD hS hz rfl hL (show S 0 3 ≤ S 0 3 + 60 by omega) (show 0 ≤ 500 by omega) (show 0 ≤ 2500 by omega) dL_act_115
      · skip
        refine lv_iload F.1 F.2.1 dL_act_101 (lv_at hl 1 rfl) ?_
        refine lv_iconst (v := nI 4) F.1 F.2.1 dL_act_103 (by decide) ?_
        refine k_icmp_ge (tgt := 183) F (by omega) (by omega) dL_act_104 (by decide) (fun h104 => ?_) (fun h104 => ?_)
        · skip
          refine lv_iload F.1 F.2.1 dL_act_183 (lv_at hl 2 rfl) ?_
          refine k_if_eq (tgt := 195) F (by omega) dL_act_185 (by decide) (fun h185 => ?_) (fun h185 => ?_)
          · skip
            refine lv_iload F.1 F.2.1 dL_act_195 (lv_at hl 2 rfl) ?_
            refine lv_bipush (v := nI 8) F.1 F.2.1 dL_act_197 (by decide) ?_
            refine k_icmp_ne (tgt := 204) F (by omega) (by omega) dL_act_199 (by decide) (fun h199 => ?_) (fun h199 => ?_)
            · skip
              refine lv_iconst (v := nI 5) F.1 F.2.1 dL_act_204 (by decide) ?_
              refine q_newa F (List.mem_of_getElem? (i := 4) rfl) hK hP hD hS (fun q h => Or.inr (by omega)) (k := 5) (by omega) ⟨show 0 + 1 ≤ 500 by omega, show 0 + 5 ≤ 2500 by omega⟩ dL_act_205 (fun q205 H hP hD hS => ?_)
              refine lv_dup F.1 F.2.1 dL_act_207 rfl ?_
              refine lv_iconst (v := nI 0) F.1 F.2.1 dL_act_208 (by decide) ?_
              refine lv_iload_n F.1 F.2.1 dL_act_209 rfl (lv_at hl 7 rfl) ?_
              refine lv_iconst (v := nI 2) F.1 F.2.1 dL_act_210 (by decide) ?_
              refine lv_ishr F.1 F.2.1 dL_act_211 ?_
              refine lv_bipush (v := nI 10) F.1 F.2.1 dL_act_212 (by decide) ?_
              refine x_pS (n := 2) (rest := [.int (nI 0), .ref q205, .ref q205]) (v := nI (blw (x >>> (nI 2 &&& 31)) 10)) F (c_L_below l D cI (x >>> (nI 2 &&& 31)) 10 (by omega) (by omega)) gL_act_L_below rfl (by decide +kernel) ⟨Nat.le_of_ble_eq_true rfl, Nat.le_of_ble_eq_true rfl⟩ rfl hl.1 rfl (Nat.le_of_ble_eq_true rfl) dL_act_214 ⟨show 0 + 1 ≤ 500 by omega, show 0 + 5 ≤ 2500 by omega⟩ hK hP hS (fun H locs hP hS => ?_)
              have := blw_lt (x >>> (nI 2 &&& 31)) (n := 10) (by omega)
              refine q_iast (k := 0) (x := (blw (x >>> (nI 2 &&& 31)) 10)) F hK hP hD hS (((wSi cI cA z S) ++ (wCo cI a b S S2)).length + 0) (app_l rfl) (by omega) (by first | omega | decide) dL_act_217 (((wSi cI cA z S) ++ (wCo cI a b S S2)) ++ [(q205, .inl (cI, 5, .inl (row (updN (fun _ => 0) 0 (blw (x >>> (nI 2 &&& 31)) 10)))))]) (set_app1 rfl) (fun H locs hP hD hS => ?_)
              refine lv_dup F.1 F.2.1 dL_act_218 rfl ?_
              refine lv_iconst (v := nI 1) F.1 F.2.1 dL_act_219 (by decide) ?_
              refine lv_iload_n F.1 F.2.1 dL_act_220 rfl (lv_at hl 7 rfl) ?_
              refine lv_iconst (v := nI 4) F.1 F.2.1 dL_act_221 (by decide) ?_
              refine lv_ishr F.1 F.2.1 dL_act_222 ?_
              refine lv_bipush (v := nI 21) F.1 F.2.1 dL_act_223 (by decide) ?_
              refine x_pS (n := 2) (rest := [.int (nI 1), .ref q205, .ref q205]) (v := nI (blw (x >>> (nI 4 &&& 31)) 21)) F (c_L_below l D cI (x >>> (nI 4 &&& 31)) 21 (by omega) (by omega)) gL_act_L_below rfl (by decide +kernel) ⟨Nat.le_of_ble_eq_true rfl, Nat.le_of_ble_eq_true rfl⟩ rfl hl.1 rfl (Nat.le_of_ble_eq_true rfl) dL_act_225 ⟨show 0 + 1 ≤ 500 by omega, show 0 + 5 ≤ 2500 by omega⟩ hK hP hS (fun H locs hP hS => ?_)
              have := blw_lt (x >>> (nI 4 &&& 31)) (n := 21) (by omega)
              refine q_iast (k := 1) (x := (blw (x >>> (nI 4 &&& 31)) 21)) F hK hP hD hS (((wSi cI cA z S) ++ (wCo cI a b S S2)).length + 0) (app_l rfl) (by omega) (by first | omega | decide) dL_act_228 (((wSi cI cA z S) ++ (wCo cI a b S S2)) ++ [(q205, .inl (cI, 5, .inl (row (updN (updN (fun _ => 0) 0 (blw (x >>> (nI 2 &&& 31)) 10)) 1 (blw (x >>> (nI 4 &&& 31)) 21)))))]) (set_app1 rfl) (fun H locs hP hD hS => ?_)
              refine lv_dup F.1 F.2.1 dL_act_229 rfl ?_
              refine lv_iconst (v := nI 2) F.1 F.2.1 dL_act_230 (by decide) ?_
              refine lv_iload_n F.1 F.2.1 dL_act_231 rfl (lv_at hl 7 rfl) ?_
              refine lv_bipush (v := nI 6) F.1 F.2.1 dL_act_232 (by decide) ?_
              refine lv_ishr F.1 F.2.1 dL_act_234 ?_
              refine lv_iload_n F.1 F.2.1 dL_act_235 rfl (lv_at hl 7 rfl) ?_
              refine lv_iconst (v := nI 3) F.1 F.2.1 dL_act_236 (by decide) ?_
              refine x_pS (n := 2) (rest := [.int (x >>> (nI 6 &&& 31)), .int (nI 2), .ref q205, .ref q205]) (v := nI (blw x 3)) F (c_L_below l D cI x 3 (by omega) (by omega)) gL_act_L_below rfl (by decide +kernel) ⟨Nat.le_of_ble_eq_true rfl, Nat.le_of_ble_eq_true rfl⟩ rfl hl.1 rfl (Nat.le_of_ble_eq_true rfl) dL_act_237 ⟨show 0 + 1 ≤ 500 by omega, show 0 + 5 ≤ 2500 by omega⟩ hK hP hS (fun H locs hP hS => ?_)
              have := blw_lt x (n := 3) (by omega)
              refine k_if_ne (tgt := 248) F (by omega) dL_act_240 (by decide) (fun h240 => ?_) (fun h240 => ?_)
              · skip
                refine lv_iconst (v := nI 4) F.1 F.2.1 dL_act_248 (by decide) ?_
                refine x_pS (n := 2) (rest := [.int (nI 2), .ref q205, .ref q205]) (v := nI (blw (x >>> (nI 6 &&& 31)) 4)) F (c_L_below l D cI (x >>> (nI 6 &&& 31)) 4 (by omega) (by omega)) gL_act_L_below rfl (by decide +kernel) ⟨Nat.le_of_ble_eq_true rfl, Nat.le_of_ble_eq_true rfl⟩ rfl hl.1 rfl (Nat.le_of_ble_eq_true rfl) dL_act_249 ⟨show 0 + 1 ≤ 500 by omega, show 0 + 5 ≤ 2500 by omega⟩ hK hP hS (fun H locs hP hS => ?_)
                have := blw_lt (x >>> (nI 6 &&& 31)) (n := 4) (by omega)
                refine q_iast (k := 2) (x := (blw (x >>> (nI 6 &&& 31)) 4)) F hK hP hD hS (((wSi cI cA z S) ++ (wCo cI a b S S2)).length + 0) (app_l rfl) (by omega) (by first | omega | decide) dL_act_252 (((wSi cI cA z S) ++ (wCo cI a b S S2)) ++ [(q205, .inl (cI, 5, .inl (row (updN (updN (updN (fun _ => 0) 0 (blw (x >>> (nI 2 &&& 31)) 10)) 1 (blw (x >>> (nI 4 &&& 31)) 21)) 2 (blw (x >>> (nI 6 &&& 31)) 4)))))]) (set_app1 rfl) (fun H locs hP hD hS => ?_)
                refine lv_dup F.1 F.2.1 dL_act_253 rfl ?_
                refine lv_iconst (v := nI 3) F.1 F.2.1 dL_act_254 (by decide) ?_
                refine lv_iconst (v := nI 0) F.1 F.2.1 dL_act_255 (by decide) ?_
                refine q_iast (k := 3) (x := 0) F hK hP hD hS (((wSi cI cA z S) ++ (wCo cI a b S S2)).length + 0) (app_l rfl) (by omega) (by first | omega | decide) dL_act_256 (((wSi cI cA z S) ++ (wCo cI a b S S2)) ++ [(q205, .inl (cI, 5, .inl (row (updN (updN (updN (updN (fun _ => 0) 0 (blw (x >>> (nI 2 &&& 31)) 10)) 1 (blw (x >>> (nI 4 &&& 31)) 21)) 2 (blw (x >>> (nI 6 &&& 31)) 4)) 3 0))))]) (set_app1 rfl) (fun H locs hP hD hS => ?_)
                refine lv_dup F.1 F.2.1 dL_act_257 rfl ?_
                refine lv_iconst (v := nI 4) F.1 F.2.1 dL_act_258 (by decide) ?_
                refine lv_iconst (v := nI 0) F.1 F.2.1 dL_act_259 (by decide) ?_
                refine q_iast (k := 4) (x := 0) F hK hP hD hS (((wSi cI cA z S) ++ (wCo cI a b S S2)).length + 0) (app_l rfl) (by omega) (by first | omega | decide) dL_act_260 (((wSi cI cA z S) ++ (wCo cI a b S S2)) ++ [(q205, .inl (cI, 5, .inl (row (updN (updN (updN (updN (updN (fun _ => 0) 0 (blw (x >>> (nI 2 &&& 31)) 10)) 1 (blw (x >>> (nI 4 &&& 31)) 21)) 2 (blw (x >>> (nI 6 &&& 31)) 4)) 3 0) 4 0))))]) (set_app1 rfl) (fun H locs hP hD hS => ?_)
                refine lv_astore (lv' := [(8, .ref q205), (7, .int (nI (blw (x >>> (nI 1 &&& 31)) (S 0 0)))), (6, .int (nI (blw (x >>> (nI 9 &&& 31)) 18))), (5, .int (nI (S 0 2))), (4, .int (nI (S 0 1))), (3, .int (nI (S 0 0))), (0, .ref (a 13)), (1, .ref (z 0)), (2, .int x)]) F.1 F.2.1 dL_act_261 hl (by decide) rfl (fun ls hl => ?_)
                refine lv_aload_n F.1 F.2.1 dL_act_263 rfl (lv_at hl 7 rfl) ?_
                refine lv_aload_n F.1 F.2.1 dL_act_264 rfl (lv_at hl 7 rfl) ?_
                refine k_get (v := .ref (z 3)) F nL_act_X4 hK.1.1 hP 0 (pre_at (pre_at rfl)) rfl 5 (by decide) (List.mem_of_getElem? (i := 3) rfl) rfl dL_act_265 ?_
                refine lv_aload F.1 F.2.1 dL_act_268 (lv_at hl 0 rfl) ?_
                refine q_with F (c_X4_with l D cI cA (z 3) (S 0 2) q205 3 (fun k => some (z (12 + k))) (((wSi cI cA z S) ++ (wCo cI a b S S2)) ++ [(q205, .inl (cI, 5, .inl (row (updN (updN (updN (updN (updN (fun _ => 0) 0 (blw (x >>> (nI 2 &&& 31)) 10)) 1 (blw (x >>> (nI 4 &&& 31)) 21)) 2 (blw (x >>> (nI 6 &&& 31)) 4)) 3 0) 4 0))))]) (by omega) (pre_at (pre_at rfl)) (fun H h => rowAt_of h (app_l (k := 0) rfl)) (fun k hk => ⟨z (12 + k), rfl, fun H h => rowAt_of h (pre_at (pre_at (wSi_v hk)))⟩)) gL_act_X4_with ⟨Nat.le_of_ble_eq_true rfl, Nat.le_of_ble_eq_true rfl⟩ hl.1 (Nat.le_of_ble_eq_true rfl) dL_act_270 ⟨show 0 + 1 + 1 ≤ 500 by omega, show 0 + 5 + 9 ≤ 2500 by omega⟩ hK hP hD hS (fun q h => Or.inr (by omega)) (fun q270 H locs hP hD hS => ?_)
                have hP : va_P D vwCl (((wSi cI cA z S) ++ (wCo cI a b S S2)) ++ [(q205, .inl (cI, 5, .inl (row (updN (updN (updN (updN (updN (fun _ => 0) 0 (blw (x >>> (nI 2 &&& 31)) 10)) 1 (blw (x >>> (nI 4 &&& 31)) 21)) 2 (blw (x >>> (nI 6 &&& 31)) 4)) 3 0) 4 0)))), (q270, .inl (cA, (S 0 2 + 1), ilr (va_up (fun k => some (z (12 + k))) (S 0 2) (some q205))))]) H := P_eq (List.append_assoc _ _ _) hP
                have hD : va_D (va_A (wAc cI cA z a b S S2) sz) (((wSi cI cA z S) ++ (wCo cI a b S S2)) ++ [(q205, .inl (cI, 5, .inl (row (updN (updN (updN (updN (updN (fun _ => 0) 0 (blw (x >>> (nI 2 &&& 31)) 10)) 1 (blw (x >>> (nI 4 &&& 31)) 21)) 2 (blw (x >>> (nI 6 &&& 31)) 4)) 3 0) 4 0)))), (q270, .inl (cA, (S 0 2 + 1), ilr (va_up (fun k => some (z (12 + k))) (S 0 2) (some q205))))]) := D_eq (List.append_assoc _ _ _) hD
                refine q_putr (ty := .array (.array .int)) F nL_act_X4 tyX4 tyX4_ok nmX4 hK hP hD hS 0 (pre_at (pre_at rfl)) rfl 5 (by decide) (List.mem_of_getElem? (i := 3) rfl) rfl (by decide +kernel) rfl rfl (Nat.le_of_ble_eq_true rfl) dL_act_273 ((((wSi cI cA z S).set 0 (z 0, .inr (4, [.int (nI (S 0 3)), .int (nI (S 0 4)), .int (nI (S 0 5)), .ref (z 1), .ref (z 2), .ref q270]))) ++ (wCo cI a b S S2)) ++ [(q205, .inl (cI, 5, .inl (row (updN (updN (updN (updN (updN (fun _ => 0) 0 (blw (x >>> (nI 2 &&& 31)) 10)) 1 (blw (x >>> (nI 4 &&& 31)) 21)) 2 (blw (x >>> (nI 6 &&& 31)) 4)) 3 0) 4 0)))), (q270, .inl (cA, (S 0 2 + 1), ilr (va_up (fun k => some (z (12 + k))) (S 0 2) (some q205))))]) (set_pre (pre_at rfl) (set_pre rfl rfl)) (fun H locs hP hD hS => ?_)
                refine lv_aload_n F.1 F.2.1 dL_act_276 rfl (lv_at hl 6 rfl) ?_
                refine lv_aload F.1 F.2.1 dL_act_277 (lv_at hl 0 rfl) ?_
                refine lv_iconst (v := nI 0) F.1 F.2.1 dL_act_279 (by decide) ?_
                refine q_iald (f := updN (updN (updN (updN (updN (fun _ => 0) 0 (blw (x >>> (nI 2 &&& 31)) 10)) 1 (blw (x >>> (nI 4 &&& 31)) 21)) 2 (blw (x >>> (nI 6 &&& 31)) 4)) 3 0) 4 0) (v := (blw (x >>> (nI 2 &&& 31)) 10)) F hK hP ((((wSi cI cA z S).set 0 (z 0, .inr (4, [.int (nI (S 0 3)), .int (nI (S 0 4)), .int (nI (S 0 5)), .ref (z 1), .ref (z 2), .ref q270]))) ++ (wCo cI a b S S2)).length + 0) (app_l rfl) (by omega) (by first | omega | decide) rfl dL_act_280 ?_
                refine lv_aload F.1 F.2.1 dL_act_281 (lv_at hl 0 rfl) ?_
                refine lv_iconst (v := nI 1) F.1 F.2.1 dL_act_283 (by decide) ?_
                refine q_iald (f := updN (updN (updN (updN (updN (fun _ => 0) 0 (blw (x >>> (nI 2 &&& 31)) 10)) 1 (blw (x >>> (nI 4 &&& 31)) 21)) 2 (blw (x >>> (nI 6 &&& 31)) 4)) 3 0) 4 0) (v := (blw (x >>> (nI 4 &&& 31)) 21)) F hK hP ((((wSi cI cA z S).set 0 (z 0, .inr (4, [.int (nI (S 0 3)), .int (nI (S 0 4)), .int (nI (S 0 5)), .ref (z 1), .ref (z 2), .ref q270]))) ++ (wCo cI a b S S2)).length + 0) (app_l rfl) (by omega) (by first | omega | decide) rfl dL_act_284 ?_
                refine lv_aload F.1 F.2.1 dL_act_285 (lv_at hl 0 rfl) ?_
                refine lv_iconst (v := nI 2) F.1 F.2.1 dL_act_287 (by decide) ?_
                refine q_iald (f := updN (updN (updN (updN (updN (fun _ => 0) 0 (blw (x >>> (nI 2 &&& 31)) 10)) 1 (blw (x >>> (nI 4 &&& 31)) 21)) 2 (blw (x >>> (nI 6 &&& 31)) 4)) 3 0) 4 0) (v := (blw (x >>> (nI 6 &&& 31)) 4)) F hK hP ((((wSi cI cA z S).set 0 (z 0, .inr (4, [.int (nI (S 0 3)), .int (nI (S 0 4)), .int (nI (S 0 5)), .ref (z 1), .ref (z 2), .ref q270]))) ++ (wCo cI a b S S2)).length + 0) (app_l rfl) (by omega) (by first | omega | decide) rfl dL_act_288 ?_
                have ok_3 : rArrive S (nI (blw (x >>> (nI 2 &&& 31)) 10)) (nI (blw (x >>> (nI 4 &&& 31)) 21)) (nI (blw (x >>> (nI 6 &&& 31)) 4)) = (0, nI (S 0 2), (viA S (blw (x >>> (nI 2 &&& 31)) 10) (blw (x >>> (nI 4 &&& 31)) 21) (blw (x >>> (nI 6 &&& 31)) 4))) := ok_arrive (by omega) (by omega) (by omega) (by omega) (by omega)
                refine x_tI (n := 3) (rest := []) (v := nI (S 0 2)) (w1 := (wCo cI a b (viA S (blw (x >>> (nI 2 &&& 31)) 10) (blw (x >>> (nI 4 &&& 31)) 21) (blw (x >>> (nI 6 &&& 31)) 4)) S2)) F (c_X3_arrive l D cI hst a b S S2 (nI (blw (x >>> (nI 2 &&& 31)) 10)) (nI (blw (x >>> (nI 4 &&& 31)) 21)) (nI (blw (x >>> (nI 6 &&& 31)) 4)) hI) (by rw [ok_3]; rfl) (by rw [ok_3]) (by rw [ok_3]) gL_act_X3_arrive rfl (by decide +kernel) ⟨Nat.le_of_ble_eq_true rfl, Nat.le_of_ble_eq_true rfl⟩ rfl hl.1 rfl (Nat.le_of_ble_eq_true rfl) dL_act_289 ⟨show 0 + 1 + 1 + 2 ≤ 500 by omega, show 0 + 5 + 9 + 12 ≤ 2500 by omega⟩ hK hX hP hD hS (List.append_assoc _ _ _) rfl rfl ((((wSi cI cA z S).set 0 (z 0, .inr (4, [.int (nI (S 0 3)), .int (nI (S 0 4)), .int (nI (S 0 5)), .ref (z 1), .ref (z 2), .ref q270]))) ++ (wCo cI a b (viA S (blw (x >>> (nI 2 &&& 31)) 10) (blw (x >>> (nI 4 &&& 31)) 21) (blw (x >>> (nI 6 &&& 31)) 4)) S2)) ++ [(q205, .inl (cI, 5, .inl (row (updN (updN (updN (updN (updN (fun _ => 0) 0 (blw (x >>> (nI 2 &&& 31)) 10)) 1 (blw (x >>> (nI 4 &&& 31)) 21)) 2 (blw (x >>> (nI 6 &&& 31)) 4)) 3 0) 4 0)))), (q270, .inl (cA, (S 0 2 + 1), ilr (va_up (fun k => some (z (12 + k))) (S 0 2) (some q205))))]) (List.append_assoc _ _ _).symm (q0 := 0) (ci := 3) rfl rfl (fun H locs hP hD hS => ?_)
                refine lv_iload F.1 F.2.1 dL_act_292 (lv_at hl 3 rfl) ?_
                refine lv_icmp_ne (tgt := 301) F.1 F.2.1 dL_act_294 (by decide) (fun h294 => ?_) (fun h294 => ?_)
                · skip
                  exact absurd rfl h294
                · skip
                  refine lv_iconst (v := nI 1) F.1 F.2.1 dL_act_297 (by decide) ?_
                  refine lv_goto (tgt := 302) F.1 F.2.1 dL_act_298 (by decide) ?_
                  exact a_ret F hr hlk (re_vP (r := (blw (x >>> (nI 2 &&& 31)) 10)) (v := (blw (x >>> (nI 4 &&& 31)) 21)) (c := (blw (x >>> (nI 6 &&& 31)) 4)) (by omega) hi1 rfl rfl rfl (hL.2.1.2.1 _ (Nat.le_refl _)).1.symm (hL.2.1.2.1 _ (Nat.le_refl _)).2.symm hP) (re_vD (r := (blw (x >>> (nI 2 &&& 31)) 10)) (v := (blw (x >>> (nI 4 &&& 31)) 21)) (c := (blw (x >>> (nI 6 &&& 31)) 4)) (by omega) hi1 hD) hS hz (by unfold zV; rw [updN_ne (by omega), updN_ne (by omega)]) (LI_vi hL (by omega) (by omega) (by omega) (by omega) (by omega)) (show S 0 3 ≤ S 0 3 + 60 by omega) (show 0 + 1 + 1 + 2 ≤ 500 by omega) (show 0 + 5 + 9 + 12 ≤ 2500 by omega) dL_act_302
              · skip
                refine lv_bipush (v := nI 21) F.1 F.2.1 dL_act_243 (by decide) ?_
                refine lv_goto (tgt := 249) F.1 F.2.1 dL_act_245 (by decide) ?_
                refine x_pS (n := 2) (rest := [.int (nI 2), .ref q205, .ref q205]) (v := nI (blw (x >>> (nI 6 &&& 31)) 21)) F (c_L_below l D cI (x >>> (nI 6 &&& 31)) 21 (by omega) (by omega)) gL_act_L_below rfl (by decide +kernel) ⟨Nat.le_of_ble_eq_true rfl, Nat.le_of_ble_eq_true rfl⟩ rfl hl.1 rfl (Nat.le_of_ble_eq_true rfl) dL_act_249 ⟨show 0 + 1 ≤ 500 by omega, show 0 + 5 ≤ 2500 by omega⟩ hK hP hS (fun H locs hP hS => ?_)
                have := blw_lt (x >>> (nI 6 &&& 31)) (n := 21) (by omega)
                refine q_iast (k := 2) (x := (blw (x >>> (nI 6 &&& 31)) 21)) F hK hP hD hS (((wSi cI cA z S) ++ (wCo cI a b S S2)).length + 0) (app_l rfl) (by omega) (by first | omega | decide) dL_act_252 (((wSi cI cA z S) ++ (wCo cI a b S S2)) ++ [(q205, .inl (cI, 5, .inl (row (updN (updN (updN (fun _ => 0) 0 (blw (x >>> (nI 2 &&& 31)) 10)) 1 (blw (x >>> (nI 4 &&& 31)) 21)) 2 (blw (x >>> (nI 6 &&& 31)) 21)))))]) (set_app1 rfl) (fun H locs hP hD hS => ?_)
                refine lv_dup F.1 F.2.1 dL_act_253 rfl ?_
                refine lv_iconst (v := nI 3) F.1 F.2.1 dL_act_254 (by decide) ?_
                refine lv_iconst (v := nI 0) F.1 F.2.1 dL_act_255 (by decide) ?_
                refine q_iast (k := 3) (x := 0) F hK hP hD hS (((wSi cI cA z S) ++ (wCo cI a b S S2)).length + 0) (app_l rfl) (by omega) (by first | omega | decide) dL_act_256 (((wSi cI cA z S) ++ (wCo cI a b S S2)) ++ [(q205, .inl (cI, 5, .inl (row (updN (updN (updN (updN (fun _ => 0) 0 (blw (x >>> (nI 2 &&& 31)) 10)) 1 (blw (x >>> (nI 4 &&& 31)) 21)) 2 (blw (x >>> (nI 6 &&& 31)) 21)) 3 0))))]) (set_app1 rfl) (fun H locs hP hD hS => ?_)
                refine lv_dup F.1 F.2.1 dL_act_257 rfl ?_
                refine lv_iconst (v := nI 4) F.1 F.2.1 dL_act_258 (by decide) ?_
                refine lv_iconst (v := nI 0) F.1 F.2.1 dL_act_259 (by decide) ?_
                refine q_iast (k := 4) (x := 0) F hK hP hD hS (((wSi cI cA z S) ++ (wCo cI a b S S2)).length + 0) (app_l rfl) (by omega) (by first | omega | decide) dL_act_260 (((wSi cI cA z S) ++ (wCo cI a b S S2)) ++ [(q205, .inl (cI, 5, .inl (row (updN (updN (updN (updN (updN (fun _ => 0) 0 (blw (x >>> (nI 2 &&& 31)) 10)) 1 (blw (x >>> (nI 4 &&& 31)) 21)) 2 (blw (x >>> (nI 6 &&& 31)) 21)) 3 0) 4 0))))]) (set_app1 rfl) (fun H locs hP hD hS => ?_)
                refine lv_astore (lv' := [(8, .ref q205), (7, .int (nI (blw (x >>> (nI 1 &&& 31)) (S 0 0)))), (6, .int (nI (blw (x >>> (nI 9 &&& 31)) 18))), (5, .int (nI (S 0 2))), (4, .int (nI (S 0 1))), (3, .int (nI (S 0 0))), (0, .ref (a 13)), (1, .ref (z 0)), (2, .int x)]) F.1 F.2.1 dL_act_261 hl (by decide) rfl (fun ls hl => ?_)
                refine lv_aload_n F.1 F.2.1 dL_act_263 rfl (lv_at hl 7 rfl) ?_
                refine lv_aload_n F.1 F.2.1 dL_act_264 rfl (lv_at hl 7 rfl) ?_
                refine k_get (v := .ref (z 3)) F nL_act_X4 hK.1.1 hP 0 (pre_at (pre_at rfl)) rfl 5 (by decide) (List.mem_of_getElem? (i := 3) rfl) rfl dL_act_265 ?_
                refine lv_aload F.1 F.2.1 dL_act_268 (lv_at hl 0 rfl) ?_
                refine q_with F (c_X4_with l D cI cA (z 3) (S 0 2) q205 3 (fun k => some (z (12 + k))) (((wSi cI cA z S) ++ (wCo cI a b S S2)) ++ [(q205, .inl (cI, 5, .inl (row (updN (updN (updN (updN (updN (fun _ => 0) 0 (blw (x >>> (nI 2 &&& 31)) 10)) 1 (blw (x >>> (nI 4 &&& 31)) 21)) 2 (blw (x >>> (nI 6 &&& 31)) 21)) 3 0) 4 0))))]) (by omega) (pre_at (pre_at rfl)) (fun H h => rowAt_of h (app_l (k := 0) rfl)) (fun k hk => ⟨z (12 + k), rfl, fun H h => rowAt_of h (pre_at (pre_at (wSi_v hk)))⟩)) gL_act_X4_with ⟨Nat.le_of_ble_eq_true rfl, Nat.le_of_ble_eq_true rfl⟩ hl.1 (Nat.le_of_ble_eq_true rfl) dL_act_270 ⟨show 0 + 1 + 1 ≤ 500 by omega, show 0 + 5 + 9 ≤ 2500 by omega⟩ hK hP hD hS (fun q h => Or.inr (by omega)) (fun q270 H locs hP hD hS => ?_)
                have hP : va_P D vwCl (((wSi cI cA z S) ++ (wCo cI a b S S2)) ++ [(q205, .inl (cI, 5, .inl (row (updN (updN (updN (updN (updN (fun _ => 0) 0 (blw (x >>> (nI 2 &&& 31)) 10)) 1 (blw (x >>> (nI 4 &&& 31)) 21)) 2 (blw (x >>> (nI 6 &&& 31)) 21)) 3 0) 4 0)))), (q270, .inl (cA, (S 0 2 + 1), ilr (va_up (fun k => some (z (12 + k))) (S 0 2) (some q205))))]) H := P_eq (List.append_assoc _ _ _) hP
                have hD : va_D (va_A (wAc cI cA z a b S S2) sz) (((wSi cI cA z S) ++ (wCo cI a b S S2)) ++ [(q205, .inl (cI, 5, .inl (row (updN (updN (updN (updN (updN (fun _ => 0) 0 (blw (x >>> (nI 2 &&& 31)) 10)) 1 (blw (x >>> (nI 4 &&& 31)) 21)) 2 (blw (x >>> (nI 6 &&& 31)) 21)) 3 0) 4 0)))), (q270, .inl (cA, (S 0 2 + 1), ilr (va_up (fun k => some (z (12 + k))) (S 0 2) (some q205))))]) := D_eq (List.append_assoc _ _ _) hD
                refine q_putr (ty := .array (.array .int)) F nL_act_X4 tyX4 tyX4_ok nmX4 hK hP hD hS 0 (pre_at (pre_at rfl)) rfl 5 (by decide) (List.mem_of_getElem? (i := 3) rfl) rfl (by decide +kernel) rfl rfl (Nat.le_of_ble_eq_true rfl) dL_act_273 ((((wSi cI cA z S).set 0 (z 0, .inr (4, [.int (nI (S 0 3)), .int (nI (S 0 4)), .int (nI (S 0 5)), .ref (z 1), .ref (z 2), .ref q270]))) ++ (wCo cI a b S S2)) ++ [(q205, .inl (cI, 5, .inl (row (updN (updN (updN (updN (updN (fun _ => 0) 0 (blw (x >>> (nI 2 &&& 31)) 10)) 1 (blw (x >>> (nI 4 &&& 31)) 21)) 2 (blw (x >>> (nI 6 &&& 31)) 21)) 3 0) 4 0)))), (q270, .inl (cA, (S 0 2 + 1), ilr (va_up (fun k => some (z (12 + k))) (S 0 2) (some q205))))]) (set_pre (pre_at rfl) (set_pre rfl rfl)) (fun H locs hP hD hS => ?_)
                refine lv_aload_n F.1 F.2.1 dL_act_276 rfl (lv_at hl 6 rfl) ?_
                refine lv_aload F.1 F.2.1 dL_act_277 (lv_at hl 0 rfl) ?_
                refine lv_iconst (v := nI 0) F.1 F.2.1 dL_act_279 (by decide) ?_
                refine q_iald (f := updN (updN (updN (updN (updN (fun _ => 0) 0 (blw (x >>> (nI 2 &&& 31)) 10)) 1 (blw (x >>> (nI 4 &&& 31)) 21)) 2 (blw (x >>> (nI 6 &&& 31)) 21)) 3 0) 4 0) (v := (blw (x >>> (nI 2 &&& 31)) 10)) F hK hP ((((wSi cI cA z S).set 0 (z 0, .inr (4, [.int (nI (S 0 3)), .int (nI (S 0 4)), .int (nI (S 0 5)), .ref (z 1), .ref (z 2), .ref q270]))) ++ (wCo cI a b S S2)).length + 0) (app_l rfl) (by omega) (by first | omega | decide) rfl dL_act_280 ?_
                refine lv_aload F.1 F.2.1 dL_act_281 (lv_at hl 0 rfl) ?_
                refine lv_iconst (v := nI 1) F.1 F.2.1 dL_act_283 (by decide) ?_
                refine q_iald (f := updN (updN (updN (updN (updN (fun _ => 0) 0 (blw (x >>> (nI 2 &&& 31)) 10)) 1 (blw (x >>> (nI 4 &&& 31)) 21)) 2 (blw (x >>> (nI 6 &&& 31)) 21)) 3 0) 4 0) (v := (blw (x >>> (nI 4 &&& 31)) 21)) F hK hP ((((wSi cI cA z S).set 0 (z 0, .inr (4, [.int (nI (S 0 3)), .int (nI (S 0 4)), .int (nI (S 0 5)), .ref (z 1), .ref (z 2), .ref q270]))) ++ (wCo cI a b S S2)).length + 0) (app_l rfl) (by omega) (by first | omega | decide) rfl dL_act_284 ?_
                refine lv_aload F.1 F.2.1 dL_act_285 (lv_at hl 0 rfl) ?_
                refine lv_iconst (v := nI 2) F.1 F.2.1 dL_act_287 (by decide) ?_
                refine q_iald (f := updN (updN (updN (updN (updN (fun _ => 0) 0 (blw (x >>> (nI 2 &&& 31)) 10)) 1 (blw (x >>> (nI 4 &&& 31)) 21)) 2 (blw (x >>> (nI 6 &&& 31)) 21)) 3 0) 4 0) (v := (blw (x >>> (nI 6 &&& 31)) 21)) F hK hP ((((wSi cI cA z S).set 0 (z 0, .inr (4, [.int (nI (S 0 3)), .int (nI (S 0 4)), .int (nI (S 0 5)), .ref (z 1), .ref (z 2), .ref q270]))) ++ (wCo cI a b S S2)).length + 0) (app_l rfl) (by omega) (by first | omega | decide) rfl dL_act_288 ?_
                have ok_4 : rArrive S (nI (blw (x >>> (nI 2 &&& 31)) 10)) (nI (blw (x >>> (nI 4 &&& 31)) 21)) (nI (blw (x >>> (nI 6 &&& 31)) 21)) = (0, nI (S 0 2), (viA S (blw (x >>> (nI 2 &&& 31)) 10) (blw (x >>> (nI 4 &&& 31)) 21) (blw (x >>> (nI 6 &&& 31)) 21))) := ok_arrive (by omega) (by omega) (by omega) (by omega) (by omega)
                refine x_tI (n := 3) (rest := []) (v := nI (S 0 2)) (w1 := (wCo cI a b (viA S (blw (x >>> (nI 2 &&& 31)) 10) (blw (x >>> (nI 4 &&& 31)) 21) (blw (x >>> (nI 6 &&& 31)) 21)) S2)) F (c_X3_arrive l D cI hst a b S S2 (nI (blw (x >>> (nI 2 &&& 31)) 10)) (nI (blw (x >>> (nI 4 &&& 31)) 21)) (nI (blw (x >>> (nI 6 &&& 31)) 21)) hI) (by rw [ok_4]; rfl) (by rw [ok_4]) (by rw [ok_4]) gL_act_X3_arrive rfl (by decide +kernel) ⟨Nat.le_of_ble_eq_true rfl, Nat.le_of_ble_eq_true rfl⟩ rfl hl.1 rfl (Nat.le_of_ble_eq_true rfl) dL_act_289 ⟨show 0 + 1 + 1 + 2 ≤ 500 by omega, show 0 + 5 + 9 + 12 ≤ 2500 by omega⟩ hK hX hP hD hS (List.append_assoc _ _ _) rfl rfl ((((wSi cI cA z S).set 0 (z 0, .inr (4, [.int (nI (S 0 3)), .int (nI (S 0 4)), .int (nI (S 0 5)), .ref (z 1), .ref (z 2), .ref q270]))) ++ (wCo cI a b (viA S (blw (x >>> (nI 2 &&& 31)) 10) (blw (x >>> (nI 4 &&& 31)) 21) (blw (x >>> (nI 6 &&& 31)) 21)) S2)) ++ [(q205, .inl (cI, 5, .inl (row (updN (updN (updN (updN (updN (fun _ => 0) 0 (blw (x >>> (nI 2 &&& 31)) 10)) 1 (blw (x >>> (nI 4 &&& 31)) 21)) 2 (blw (x >>> (nI 6 &&& 31)) 21)) 3 0) 4 0)))), (q270, .inl (cA, (S 0 2 + 1), ilr (va_up (fun k => some (z (12 + k))) (S 0 2) (some q205))))]) (List.append_assoc _ _ _).symm (q0 := 0) (ci := 3) rfl rfl (fun H locs hP hD hS => ?_)
                refine lv_iload F.1 F.2.1 dL_act_292 (lv_at hl 3 rfl) ?_
                refine lv_icmp_ne (tgt := 301) F.1 F.2.1 dL_act_294 (by decide) (fun h294 => ?_) (fun h294 => ?_)
                · skip
                  exact absurd rfl h294
                · skip
                  refine lv_iconst (v := nI 1) F.1 F.2.1 dL_act_297 (by decide) ?_
                  refine lv_goto (tgt := 302) F.1 F.2.1 dL_act_298 (by decide) ?_
                  exact a_ret F hr hlk (re_vP (r := (blw (x >>> (nI 2 &&& 31)) 10)) (v := (blw (x >>> (nI 4 &&& 31)) 21)) (c := (blw (x >>> (nI 6 &&& 31)) 21)) (by omega) hi1 rfl rfl rfl (hL.2.1.2.1 _ (Nat.le_refl _)).1.symm (hL.2.1.2.1 _ (Nat.le_refl _)).2.symm hP) (re_vD (r := (blw (x >>> (nI 2 &&& 31)) 10)) (v := (blw (x >>> (nI 4 &&& 31)) 21)) (c := (blw (x >>> (nI 6 &&& 31)) 21)) (by omega) hi1 hD) hS hz (by unfold zV; rw [updN_ne (by omega), updN_ne (by omega)]) (LI_vi hL (by omega) (by omega) (by omega) (by omega) (by omega)) (show S 0 3 ≤ S 0 3 + 60 by omega) (show 0 + 1 + 1 + 2 ≤ 500 by omega) (show 0 + 5 + 9 + 12 ≤ 2500 by omega) dL_act_302
            · skip
              refine lv_iconst (v := nI 1) F.1 F.2.1 dL_act_202 (by decide) ?_
              exact a_ret F hr hlk hP hD hS hz rfl hL (show S 0 3 ≤ S 0 3 + 60 by omega) (show 0 ≤ 500 by omega) (show 0 ≤ 2500 by omega) dL_act_203
          · skip
            refine lv_iload F.1 F.2.1 dL_act_188 (lv_at hl 1 rfl) ?_
            refine lv_bipush (v := nI 7) F.1 F.2.1 dL_act_190 (by decide) ?_
            refine k_icmp_ge (tgt := 303) F (by omega) (by omega) dL_act_192 (by decide) (fun h192 => ?_) (fun h192 => ?_)
            · skip
              refine lv_iload_n F.1 F.2.1 dL_act_303 rfl (lv_at hl 7 rfl) ?_
              refine lv_iconst (v := nI 2) F.1 F.2.1 dL_act_304 (by decide) ?_
              refine lv_ishr F.1 F.2.1 dL_act_305 ?_
              refine lv_iload F.1 F.2.1 dL_act_306 (lv_at hl 2 rfl) ?_
              refine x_pS (n := 2) (rest := []) (v := nI (blw (x >>> (nI 2 &&& 31)) (S 0 2))) F (c_L_below l D cI (x >>> (nI 2 &&& 31)) (S 0 2) (by omega) (by omega)) gL_act_L_below rfl (by decide +kernel) ⟨Nat.le_of_ble_eq_true rfl, Nat.le_of_ble_eq_true rfl⟩ rfl hl.1 rfl (Nat.le_of_ble_eq_true rfl) dL_act_308 ⟨show 0 ≤ 500 by omega, show 0 ≤ 2500 by omega⟩ hK hP hS (fun H locs hP hS => ?_)
              have := blw_lt (x >>> (nI 2 &&& 31)) (n := (S 0 2)) (by omega)
              refine lv_istore (lv' := [(8, .int (nI (blw (x >>> (nI 2 &&& 31)) (S 0 2)))), (7, .int (nI (blw (x >>> (nI 1 &&& 31)) (S 0 0)))), (6, .int (nI (blw (x >>> (nI 9 &&& 31)) 18))), (5, .int (nI (S 0 2))), (4, .int (nI (S 0 1))), (3, .int (nI (S 0 0))), (0, .ref (a 13)), (1, .ref (z 0)), (2, .int x)]) F.1 F.2.1 dL_act_311 hl (by decide) rfl (fun ls hl => ?_)
              refine lv_iload_n F.1 F.2.1 dL_act_313 rfl (lv_at hl 8 rfl) ?_
              refine lv_iconst (v := nI 3) F.1 F.2.1 dL_act_314 (by decide) ?_
              refine lv_ishr F.1 F.2.1 dL_act_315 ?_
              refine lv_iload F.1 F.2.1 dL_act_316 (lv_at hl 4 rfl) ?_
              refine x_pS (n := 2) (rest := []) (v := nI (blw (x >>> (nI 3 &&& 31)) (S 0 1))) F (c_L_below l D cI (x >>> (nI 3 &&& 31)) (S 0 1) (by omega) (by omega)) gL_act_L_below rfl (by decide +kernel) ⟨Nat.le_of_ble_eq_true rfl, Nat.le_of_ble_eq_true rfl⟩ rfl hl.1 rfl (Nat.le_of_ble_eq_true rfl) dL_act_318 ⟨show 0 ≤ 500 by omega, show 0 ≤ 2500 by omega⟩ hK hP hS (fun H locs hP hS => ?_)
              have := blw_lt (x >>> (nI 3 &&& 31)) (n := (S 0 1)) (by omega)
              refine lv_istore (lv' := [(9, .int (nI (blw (x >>> (nI 3 &&& 31)) (S 0 1)))), (8, .int (nI (blw (x >>> (nI 2 &&& 31)) (S 0 2)))), (7, .int (nI (blw (x >>> (nI 1 &&& 31)) (S 0 0)))), (6, .int (nI (blw (x >>> (nI 9 &&& 31)) 18))), (5, .int (nI (S 0 2))), (4, .int (nI (S 0 1))), (3, .int (nI (S 0 0))), (0, .ref (a 13)), (1, .ref (z 0)), (2, .int x)]) F.1 F.2.1 dL_act_321 hl (by decide) rfl (fun ls hl => ?_)
              refine lv_aload_n F.1 F.2.1 dL_act_323 rfl (lv_at hl 8 rfl) ?_
              refine k_get (v := .ref (z 3)) F nL_act_X4 hK.1.1 hP 0 (pre_at rfl) rfl 5 (by decide) (List.mem_of_getElem? (i := 3) rfl) rfl dL_act_324 ?_
              refine lv_iload F.1 F.2.1 dL_act_327 (lv_at hl 1 rfl) ?_
              refine q_aald (v := z (12 + (blw (x >>> (nI 2 &&& 31)) (S 0 2)))) F hK hP 3 (pre_at rfl) (show (blw (x >>> (nI 2 &&& 31)) (S 0 2)) < S 0 2 by omega) (show S 0 2 < 2 ^ 31 by omega) rfl dL_act_329 ?_
              refine lv_astore (lv' := [(10, .ref (z (12 + (blw (x >>> (nI 2 &&& 31)) (S 0 2))))), (9, .int (nI (blw (x >>> (nI 3 &&& 31)) (S 0 1)))), (8, .int (nI (blw (x >>> (nI 2 &&& 31)) (S 0 2)))), (7, .int (nI (blw (x >>> (nI 1 &&& 31)) (S 0 0)))), (6, .int (nI (blw (x >>> (nI 9 &&& 31)) 18))), (5, .int (nI (S 0 2))), (4, .int (nI (S 0 1))), (3, .int (nI (S 0 0))), (0, .ref (a 13)), (1, .ref (z 0)), (2, .int x)]) F.1 F.2.1 dL_act_330 hl (by decide) rfl (fun ls hl => ?_)
              refine lv_aload_n F.1 F.2.1 dL_act_332 rfl (lv_at hl 9 rfl) ?_
              refine k_get (v := .ref (z 2)) F nL_act_X4 hK.1.1 hP 0 (pre_at rfl) rfl 4 (by decide) (List.mem_of_getElem? (i := 2) rfl) rfl dL_act_333 ?_
              refine lv_iload F.1 F.2.1 dL_act_336 (lv_at hl 1 rfl) ?_
              refine q_aald (v := z (4 + (blw (x >>> (nI 3 &&& 31)) (S 0 1)))) F hK hP 2 (pre_at rfl) (show (blw (x >>> (nI 3 &&& 31)) (S 0 1)) < S 0 1 by omega) (show S 0 1 < 2 ^ 31 by omega) rfl dL_act_338 ?_
              refine lv_astore (lv' := [(11, .ref (z (4 + (blw (x >>> (nI 3 &&& 31)) (S 0 1))))), (10, .ref (z (12 + (blw (x >>> (nI 2 &&& 31)) (S 0 2))))), (9, .int (nI (blw (x >>> (nI 3 &&& 31)) (S 0 1)))), (8, .int (nI (blw (x >>> (nI 2 &&& 31)) (S 0 2)))), (7, .int (nI (blw (x >>> (nI 1 &&& 31)) (S 0 0)))), (6, .int (nI (blw (x >>> (nI 9 &&& 31)) 18))), (5, .int (nI (S 0 2))), (4, .int (nI (S 0 1))), (3, .int (nI (S 0 0))), (0, .ref (a 13)), (1, .ref (z 0)), (2, .int x)]) F.1 F.2.1 dL_act_339 hl (by decide) rfl (fun ls hl => ?_)
              refine lv_iload F.1 F.2.1 dL_act_341 (lv_at hl 5 rfl) ?_
              refine a_tab F (by omega) (by omega) (fun h343 => ?_) (fun h343 => ?_) (fun h343 => ?_) (fun h343 => ?_) (fun h343 => ?_)
              · skip
                refine lv_aload_n F.1 F.2.1 dL_act_372 rfl (lv_at hl 10 rfl) ?_
                refine k_get (v := .ref (z 1)) F nL_act_X4 hK.1.1 hP 0 (pre_at rfl) rfl 3 (by decide) (List.mem_of_getElem? (i := 1) rfl) rfl dL_act_373 ?_
                refine lv_iload F.1 F.2.1 dL_act_376 (lv_at hl 4 rfl) ?_
                refine q_iald (f := S 1) (v := S 1 (blw (x >>> (nI 1 &&& 31)) (S 0 0))) F hK hP 1 (pre_at rfl) (show (blw (x >>> (nI 1 &&& 31)) (S 0 0)) < S 0 0 by omega) (show S 0 0 < 2 ^ 31 by omega) rfl dL_act_378 ?_
                have := hI.rank (blw (x >>> (nI 1 &&& 31)) (S 0 0))
                refine lv_istore (lv' := [(12, .int (nI (S 1 (blw (x >>> (nI 1 &&& 31)) (S 0 0))))), (11, .ref (z (4 + (blw (x >>> (nI 3 &&& 31)) (S 0 1))))), (10, .ref (z (12 + (blw (x >>> (nI 2 &&& 31)) (S 0 2))))), (9, .int (nI (blw (x >>> (nI 3 &&& 31)) (S 0 1)))), (8, .int (nI (blw (x >>> (nI 2 &&& 31)) (S 0 2)))), (7, .int (nI (blw (x >>> (nI 1 &&& 31)) (S 0 0)))), (6, .int (nI (blw (x >>> (nI 9 &&& 31)) 18))), (5, .int (nI (S 0 2))), (4, .int (nI (S 0 1))), (3, .int (nI (S 0 0))), (0, .ref (a 13)), (1, .ref (z 0)), (2, .int x)]) F.1 F.2.1 dL_act_379 hl (by decide) rfl (fun ls hl => ?_)
                refine lv_aload_n F.1 F.2.1 dL_act_381 rfl (lv_at hl 11 rfl) ?_
                refine k_get (v := .ref (z 1)) F nL_act_X4 hK.1.1 hP 0 (pre_at rfl) rfl 3 (by decide) (List.mem_of_getElem? (i := 1) rfl) rfl dL_act_382 ?_
                refine lv_iload F.1 F.2.1 dL_act_385 (lv_at hl 5 rfl) ?_
                refine lv_iload_n F.1 F.2.1 dL_act_387 rfl (lv_at hl 12 rfl) ?_
                refine lv_iconst (v := nI 5) F.1 F.2.1 dL_act_388 (by decide) ?_
                refine lv_ishr F.1 F.2.1 dL_act_389 ?_
                refine lv_bipush (v := nI 10) F.1 F.2.1 dL_act_390 (by decide) ?_
                refine x_pS (n := 2) (rest := [.int (nI (blw (x >>> (nI 1 &&& 31)) (S 0 0))), .ref (z 1)]) (v := nI (blw (x >>> (nI 5 &&& 31)) 10)) F (c_L_below l D cI (x >>> (nI 5 &&& 31)) 10 (by omega) (by omega)) gL_act_L_below rfl (by decide +kernel) ⟨Nat.le_of_ble_eq_true rfl, Nat.le_of_ble_eq_true rfl⟩ rfl hl.1 rfl (Nat.le_of_ble_eq_true rfl) dL_act_392 ⟨show 0 ≤ 500 by omega, show 0 ≤ 2500 by omega⟩ hK hP hS (fun H locs hP hS => ?_)
                have := blw_lt (x >>> (nI 5 &&& 31)) (n := 10) (by omega)
                refine q_iast (k := (blw (x >>> (nI 1 &&& 31)) (S 0 0))) (x := (blw (x >>> (nI 5 &&& 31)) 10)) F hK hP hD hS 1 (pre_at rfl) (show (blw (x >>> (nI 1 &&& 31)) (S 0 0)) < S 0 0 by omega) (show S 0 0 < 2 ^ 31 by omega) dL_act_395 ((wSi cI cA z (setf S 1 (blw (x >>> (nI 1 &&& 31)) (S 0 0)) (blw (x >>> (nI 5 &&& 31)) 10))) ++ (wCo cI a b S S2)) (set_pre rfl (wSi_sr (blw (x >>> (nI 1 &&& 31)) (S 0 0)) (blw (x >>> (nI 5 &&& 31)) 10))) (fun H locs hP hD hS => ?_)
                refine lv_aload_n F.1 F.2.1 dL_act_396 rfl (lv_at hl 10 rfl) ?_
                refine lv_iload F.1 F.2.1 dL_act_397 (lv_at hl 5 rfl) ?_
                refine lv_aload_n F.1 F.2.1 dL_act_399 rfl (lv_at hl 11 rfl) ?_
                refine k_get (v := .ref (z 1)) F nL_act_X4 hK.1.1 hP 0 (pre_at rfl) rfl 3 (by decide) (List.mem_of_getElem? (i := 1) rfl) rfl dL_act_400 ?_
                refine lv_iload F.1 F.2.1 dL_act_403 (lv_at hl 5 rfl) ?_
                refine q_iald (f := updN (S 1) (blw (x >>> (nI 1 &&& 31)) (S 0 0)) (blw (x >>> (nI 5 &&& 31)) 10)) (v := (blw (x >>> (nI 5 &&& 31)) 10)) F hK hP 1 (pre_at rfl) (show (blw (x >>> (nI 1 &&& 31)) (S 0 0)) < S 0 0 by omega) (show S 0 0 < 2 ^ 31 by omega) (if_pos rfl) dL_act_405 ?_
                have ok_5 : rSetRank S (nI (blw (x >>> (nI 1 &&& 31)) (S 0 0))) (nI (blw (x >>> (nI 5 &&& 31)) 10)) = (0, nI (S 1 (blw (x >>> (nI 1 &&& 31)) (S 0 0))), (setf S 1 (blw (x >>> (nI 1 &&& 31)) (S 0 0)) (blw (x >>> (nI 5 &&& 31)) 10))) := ok_setRank hI (by omega) (by omega)
                refine x_tI (n := 2) (rest := []) (v := nI (S 1 (blw (x >>> (nI 1 &&& 31)) (S 0 0)))) (w1 := (wCo cI a b (setf S 1 (blw (x >>> (nI 1 &&& 31)) (S 0 0)) (blw (x >>> (nI 5 &&& 31)) 10)) S2)) F (c_X3_setRank l D cI hst a b S S2 (nI (blw (x >>> (nI 1 &&& 31)) (S 0 0))) (nI (blw (x >>> (nI 5 &&& 31)) 10)) hI) (by rw [ok_5]; rfl) (by rw [ok_5]) (by rw [ok_5]) gL_act_X3_setRank rfl (by decide +kernel) ⟨Nat.le_of_ble_eq_true rfl, Nat.le_of_ble_eq_true rfl⟩ rfl hl.1 rfl (Nat.le_of_ble_eq_true rfl) dL_act_406 ⟨show 0 + 2 ≤ 500 by omega, show 0 + 12 ≤ 2500 by omega⟩ hK hX hP hD hS ap_t rfl rfl ((wSi cI cA z (setf S 1 (blw (x >>> (nI 1 &&& 31)) (S 0 0)) (blw (x >>> (nI 5 &&& 31)) 10))) ++ (wCo cI a b (setf S 1 (blw (x >>> (nI 1 &&& 31)) (S 0 0)) (blw (x >>> (nI 5 &&& 31)) 10)) S2)) (congrArg _ (List.append_nil _)) (q0 := 0) (ci := 3) rfl rfl (fun H locs hP hD hS => ?_)
                refine lv_iload F.1 F.2.1 dL_act_409 (lv_at hl 0 rfl) ?_
                refine lv_icmp_ne (tgt := 418) F.1 F.2.1 dL_act_411 (by decide) (fun h411 => ?_) (fun h411 => ?_)
                · skip
                  exact absurd rfl h411
                · skip
                  refine lv_iconst (v := nI 1) F.1 F.2.1 dL_act_414 (by decide) ?_
                  refine lv_goto (tgt := 419) F.1 F.2.1 dL_act_415 (by decide) ?_
                  exact a_ret F hr hlk hP hD hS hz rfl (LI_rank hL (by omega) (by omega)) (show S 0 3 ≤ S 0 3 + 60 by omega) (show 0 + 2 ≤ 500 by omega) (show 0 + 12 ≤ 2500 by omega) dL_act_419
              · skip
                refine lv_aload F.1 F.2.1 dL_act_420 (lv_at hl 0 rfl) ?_
                refine lv_iconst (v := nI 0) F.1 F.2.1 dL_act_422 (by decide) ?_
                refine q_iald (v := S 2 (blw (x >>> (nI 3 &&& 31)) (S 0 1))) F hK hP (4 + (blw (x >>> (nI 3 &&& 31)) (S 0 1))) (pre_at (wSi_g (show (blw (x >>> (nI 3 &&& 31)) (S 0 1)) < S 0 1 by omega))) (by decide) (by first | omega | decide) rfl dL_act_423 ?_
                have := hI.keep (blw (x >>> (nI 3 &&& 31)) (S 0 1))
                refine lv_istore (lv' := [(13, .int (nI (S 2 (blw (x >>> (nI 3 &&& 31)) (S 0 1))))), (11, .ref (z (4 + (blw (x >>> (nI 3 &&& 31)) (S 0 1))))), (10, .ref (z (12 + (blw (x >>> (nI 2 &&& 31)) (S 0 2))))), (9, .int (nI (blw (x >>> (nI 3 &&& 31)) (S 0 1)))), (8, .int (nI (blw (x >>> (nI 2 &&& 31)) (S 0 2)))), (7, .int (nI (blw (x >>> (nI 1 &&& 31)) (S 0 0)))), (6, .int (nI (blw (x >>> (nI 9 &&& 31)) 18))), (5, .int (nI (S 0 2))), (4, .int (nI (S 0 1))), (3, .int (nI (S 0 0))), (0, .ref (a 13)), (1, .ref (z 0)), (2, .int x)]) F.1 F.2.1 dL_act_424 hl (by decide) rfl (fun ls hl => ?_)
                refine lv_aload F.1 F.2.1 dL_act_426 (lv_at hl 1 rfl) ?_
                refine lv_iconst (v := nI 0) F.1 F.2.1 dL_act_428 (by decide) ?_
                refine lv_iload F.1 F.2.1 dL_act_429 (lv_at hl 5 rfl) ?_
                refine q_iast (k := 0) (x := (blw (x >>> (nI 1 &&& 31)) (S 0 0))) F hK hP hD hS (4 + (blw (x >>> (nI 3 &&& 31)) (S 0 1))) (pre_at (wSi_g (show (blw (x >>> (nI 3 &&& 31)) (S 0 1)) < S 0 1 by omega))) (by decide) (by first | omega | decide) dL_act_431 ((wSi cI cA z (setf S 2 (blw (x >>> (nI 3 &&& 31)) (S 0 1)) (blw (x >>> (nI 1 &&& 31)) (S 0 0)))) ++ (wCo cI a b S S2)) (set_pre (wSi_g (show (blw (x >>> (nI 3 &&& 31)) (S 0 1)) < S 0 1 by omega)) (wSi_sg 0 (blw (x >>> (nI 1 &&& 31)) (S 0 0)) (show (blw (x >>> (nI 3 &&& 31)) (S 0 1)) < S 0 1 by omega) (by decide))) (fun H locs hP hD hS => ?_)
                refine lv_aload_n F.1 F.2.1 dL_act_432 rfl (lv_at hl 10 rfl) ?_
                refine lv_iload F.1 F.2.1 dL_act_433 (lv_at hl 3 rfl) ?_
                refine lv_iload F.1 F.2.1 dL_act_435 (lv_at hl 5 rfl) ?_
                have ok_6 : rLead S (nI (blw (x >>> (nI 3 &&& 31)) (S 0 1))) (nI (blw (x >>> (nI 1 &&& 31)) (S 0 0))) = (0, nI (S 2 (blw (x >>> (nI 3 &&& 31)) (S 0 1))), (setf S 2 (blw (x >>> (nI 3 &&& 31)) (S 0 1)) (blw (x >>> (nI 1 &&& 31)) (S 0 0)))) := ok_lead hI (by omega) (by omega)
                refine x_tI (n := 2) (rest := []) (v := nI (S 2 (blw (x >>> (nI 3 &&& 31)) (S 0 1)))) (w1 := (wCo cI a b (setf S 2 (blw (x >>> (nI 3 &&& 31)) (S 0 1)) (blw (x >>> (nI 1 &&& 31)) (S 0 0))) S2)) F (c_X3_lead l D cI hst a b S S2 (nI (blw (x >>> (nI 3 &&& 31)) (S 0 1))) (nI (blw (x >>> (nI 1 &&& 31)) (S 0 0))) hI) (by rw [ok_6]; rfl) (by rw [ok_6]) (by rw [ok_6]) gL_act_X3_lead rfl (by decide +kernel) ⟨Nat.le_of_ble_eq_true rfl, Nat.le_of_ble_eq_true rfl⟩ rfl hl.1 rfl (Nat.le_of_ble_eq_true rfl) dL_act_437 ⟨show 0 + 1 ≤ 500 by omega, show 0 + 6 ≤ 2500 by omega⟩ hK hX hP hD hS ap_t rfl rfl ((wSi cI cA z (setf S 2 (blw (x >>> (nI 3 &&& 31)) (S 0 1)) (blw (x >>> (nI 1 &&& 31)) (S 0 0)))) ++ (wCo cI a b (setf S 2 (blw (x >>> (nI 3 &&& 31)) (S 0 1)) (blw (x >>> (nI 1 &&& 31)) (S 0 0))) S2)) (congrArg _ (List.append_nil _)) (q0 := 0) (ci := 3) rfl rfl (fun H locs hP hD hS => ?_)
                refine lv_iload F.1 F.2.1 dL_act_440 (lv_at hl 0 rfl) ?_
                refine lv_icmp_ne (tgt := 449) F.1 F.2.1 dL_act_442 (by decide) (fun h442 => ?_) (fun h442 => ?_)
                · skip
                  exact absurd rfl h442
                · skip
                  refine lv_iconst (v := nI 1) F.1 F.2.1 dL_act_445 (by decide) ?_
                  refine lv_goto (tgt := 450) F.1 F.2.1 dL_act_446 (by decide) ?_
                  exact a_ret F hr hlk hP hD hS hz rfl (LI_lead hL (by omega) (by omega)) (show S 0 3 ≤ S 0 3 + 60 by omega) (show 0 + 1 ≤ 500 by omega) (show 0 + 6 ≤ 2500 by omega) dL_act_450
              · skip
                refine lv_aload F.1 F.2.1 dL_act_451 (lv_at hl 1 rfl) ?_
                refine lv_iconst (v := nI 2) F.1 F.2.1 dL_act_453 (by decide) ?_
                refine lv_bipush (v := nI 20) F.1 F.2.1 dL_act_454 (by decide) ?_
                refine lv_aload F.1 F.2.1 dL_act_456 (lv_at hl 1 rfl) ?_
                refine lv_iconst (v := nI 2) F.1 F.2.1 dL_act_458 (by decide) ?_
                refine q_iald (v := S 8 (blw (x >>> (nI 2 &&& 31)) (S 0 2))) F hK hP (4 + S 0 1 + (blw (x >>> (nI 2 &&& 31)) (S 0 2))) (pre_at (wSi_v (show (blw (x >>> (nI 2 &&& 31)) (S 0 2)) < S 0 2 by omega))) (by decide) (by first | omega | decide) rfl dL_act_459 ?_
                have := hI.has (blw (x >>> (nI 2 &&& 31)) (S 0 2))
                refine lv_iconst (v := nI 1) F.1 F.2.1 dL_act_460 (by decide) ?_
                refine k_iadd F dL_act_461 ?_
                refine lv_iload_n F.1 F.2.1 dL_act_462 rfl (lv_at hl 11 rfl) ?_
                refine lv_iconst (v := nI 5) F.1 F.2.1 dL_act_463 (by decide) ?_
                refine lv_ishr F.1 F.2.1 dL_act_464 ?_
                refine lv_iconst (v := nI 5) F.1 F.2.1 dL_act_465 (by decide) ?_
                refine x_pS (n := 2) (rest := [.int (nI (S 8 (blw (x >>> (nI 2 &&& 31)) (S 0 2)) + 1)), .int (nI 20), .int (nI 2), .ref (z (12 + (blw (x >>> (nI 2 &&& 31)) (S 0 2))))]) (v := nI (blw (x >>> (nI 5 &&& 31)) 5)) F (c_L_below l D cI (x >>> (nI 5 &&& 31)) 5 (by omega) (by omega)) gL_act_L_below rfl (by decide +kernel) ⟨Nat.le_of_ble_eq_true rfl, Nat.le_of_ble_eq_true rfl⟩ rfl hl.1 rfl (Nat.le_of_ble_eq_true rfl) dL_act_466 ⟨show 0 ≤ 500 by omega, show 0 ≤ 2500 by omega⟩ hK hP hS (fun H locs hP hS => ?_)
                have := blw_lt (x >>> (nI 5 &&& 31)) (n := 5) (by omega)
                refine k_iadd F dL_act_469 ?_
                rw [show ((S 8 (blw (x >>> (nI 2 &&& 31)) (S 0 2)) + 1) + (blw (x >>> (nI 5 &&& 31)) 5)) = (S 8 (blw (x >>> (nI 2 &&& 31)) (S 0 2)) + (1 + (blw (x >>> (nI 5 &&& 31)) 5))) from Nat.add_assoc _ _ _]
                refine k_min F hl.1 (List.mem_of_getElem? (i := 5) rfl) (List.mem_of_getElem? (i := 6) rfl) (List.mem_of_getElem? (i := 7) rfl) (List.mem_of_getElem? (i := 8) rfl) (Nat.le_of_ble_eq_true rfl) (Nat.le_of_ble_eq_true rfl) ⟨show 0 ≤ 500 by omega, show 0 ≤ 2500 by omega⟩ (by omega) (by omega) dL_act_470 ?_
                refine q_iast (k := 2) (x := (min 20 (S 8 (blw (x >>> (nI 2 &&& 31)) (S 0 2)) + (1 + (blw (x >>> (nI 5 &&& 31)) 5))))) F hK hP hD hS (4 + S 0 1 + (blw (x >>> (nI 2 &&& 31)) (S 0 2))) (pre_at (wSi_v (show (blw (x >>> (nI 2 &&& 31)) (S 0 2)) < S 0 2 by omega))) (by decide) (by first | omega | decide) dL_act_473 ((wSi cI cA z (setf S 8 (blw (x >>> (nI 2 &&& 31)) (S 0 2)) (min 20 (S 8 (blw (x >>> (nI 2 &&& 31)) (S 0 2)) + (1 + (blw (x >>> (nI 5 &&& 31)) 5)))))) ++ (wCo cI a b S S2)) (set_pre (wSi_v (show (blw (x >>> (nI 2 &&& 31)) (S 0 2)) < S 0 2 by omega)) (wSi_sv 2 (min 20 (S 8 (blw (x >>> (nI 2 &&& 31)) (S 0 2)) + (1 + (blw (x >>> (nI 5 &&& 31)) 5)))) (show (blw (x >>> (nI 2 &&& 31)) (S 0 2)) < S 0 2 by omega) (by decide))) (fun H locs hP hD hS => ?_)
                refine lv_aload_n F.1 F.2.1 dL_act_474 rfl (lv_at hl 9 rfl) ?_
                refine lv_iload F.1 F.2.1 dL_act_475 (lv_at hl 3 rfl) ?_
                refine lv_iconst (v := nI 1) F.1 F.2.1 dL_act_477 (by decide) ?_
                refine lv_iload_n F.1 F.2.1 dL_act_478 rfl (lv_at hl 11 rfl) ?_
                refine lv_iconst (v := nI 5) F.1 F.2.1 dL_act_479 (by decide) ?_
                refine lv_ishr F.1 F.2.1 dL_act_480 ?_
                refine lv_iconst (v := nI 5) F.1 F.2.1 dL_act_481 (by decide) ?_
                refine x_pS (n := 2) (rest := [.int (nI 1), .int (nI (blw (x >>> (nI 2 &&& 31)) (S 0 2))), .ref (a 13)]) (v := nI (blw (x >>> (nI 5 &&& 31)) 5)) F (c_L_below l D cI (x >>> (nI 5 &&& 31)) 5 (by omega) (by omega)) gL_act_L_below rfl (by decide +kernel) ⟨Nat.le_of_ble_eq_true rfl, Nat.le_of_ble_eq_true rfl⟩ rfl hl.1 rfl (Nat.le_of_ble_eq_true rfl) dL_act_482 ⟨show 0 ≤ 500 by omega, show 0 ≤ 2500 by omega⟩ hK hP hS (fun H locs hP hS => ?_)
                have := blw_lt (x >>> (nI 5 &&& 31)) (n := 5) (by omega)
                refine k_iadd F dL_act_485 ?_
                have ok_7 : rGive S (nI (blw (x >>> (nI 2 &&& 31)) (S 0 2))) (nI (1 + (blw (x >>> (nI 5 &&& 31)) 5))) = (0, nI (min 20 (S 8 (blw (x >>> (nI 2 &&& 31)) (S 0 2)) + (1 + (blw (x >>> (nI 5 &&& 31)) 5)))), (setf S 8 (blw (x >>> (nI 2 &&& 31)) (S 0 2)) (min 20 (S 8 (blw (x >>> (nI 2 &&& 31)) (S 0 2)) + (1 + (blw (x >>> (nI 5 &&& 31)) 5)))))) := ok_give hI (by omega) (by omega) (by omega)
                refine x_tI (n := 2) (rest := []) (v := nI (min 20 (S 8 (blw (x >>> (nI 2 &&& 31)) (S 0 2)) + (1 + (blw (x >>> (nI 5 &&& 31)) 5))))) (w1 := (wCo cI a b (setf S 8 (blw (x >>> (nI 2 &&& 31)) (S 0 2)) (min 20 (S 8 (blw (x >>> (nI 2 &&& 31)) (S 0 2)) + (1 + (blw (x >>> (nI 5 &&& 31)) 5))))) S2)) F (c_X3_giveCorns l D cI hst a b S S2 (nI (blw (x >>> (nI 2 &&& 31)) (S 0 2))) (nI (1 + (blw (x >>> (nI 5 &&& 31)) 5))) hI) (by rw [ok_7]; rfl) (by rw [ok_7]) (by rw [ok_7]) gL_act_X3_giveCorns rfl (by decide +kernel) ⟨Nat.le_of_ble_eq_true rfl, Nat.le_of_ble_eq_true rfl⟩ rfl hl.1 rfl (Nat.le_of_ble_eq_true rfl) dL_act_486 ⟨show 0 + 2 ≤ 500 by omega, show 0 + 12 ≤ 2500 by omega⟩ hK hX hP hD hS ap_t rfl rfl ((wSi cI cA z (setf S 8 (blw (x >>> (nI 2 &&& 31)) (S 0 2)) (min 20 (S 8 (blw (x >>> (nI 2 &&& 31)) (S 0 2)) + (1 + (blw (x >>> (nI 5 &&& 31)) 5)))))) ++ (wCo cI a b (setf S 8 (blw (x >>> (nI 2 &&& 31)) (S 0 2)) (min 20 (S 8 (blw (x >>> (nI 2 &&& 31)) (S 0 2)) + (1 + (blw (x >>> (nI 5 &&& 31)) 5))))) S2)) (congrArg _ (List.append_nil _)) (q0 := 0) (ci := 3) rfl rfl (fun H locs hP hD hS => ?_)
                refine lv_aload F.1 F.2.1 dL_act_489 (lv_at hl 1 rfl) ?_
                refine lv_iconst (v := nI 2) F.1 F.2.1 dL_act_491 (by decide) ?_
                refine q_iald (v := (min 20 (S 8 (blw (x >>> (nI 2 &&& 31)) (S 0 2)) + (1 + (blw (x >>> (nI 5 &&& 31)) 5))))) F hK hP (4 + S 0 1 + (blw (x >>> (nI 2 &&& 31)) (S 0 2))) (pre_at (wSi_v (show (blw (x >>> (nI 2 &&& 31)) (S 0 2)) < S 0 2 by omega))) (by decide) (by first | omega | decide) (setf_k S 8 (blw (x >>> (nI 2 &&& 31)) (S 0 2)) (min 20 (S 8 (blw (x >>> (nI 2 &&& 31)) (S 0 2)) + (1 + (blw (x >>> (nI 5 &&& 31)) 5))))) dL_act_492 ?_
                refine lv_icmp_ne (tgt := 500) F.1 F.2.1 dL_act_493 (by decide) (fun h493 => ?_) (fun h493 => ?_)
                · skip
                  exact absurd rfl h493
                · skip
                  refine lv_iconst (v := nI 1) F.1 F.2.1 dL_act_496 (by decide) ?_
                  refine lv_goto (tgt := 501) F.1 F.2.1 dL_act_497 (by decide) ?_
                  exact a_ret F hr hlk hP hD hS hz rfl (LI_give hL (by omega)) (show S 0 3 ≤ S 0 3 + 60 by omega) (show 0 + 2 ≤ 500 by omega) (show 0 + 12 ≤ 2500 by omega) dL_act_501
              · skip
                refine lv_aload F.1 F.2.1 dL_act_502 (lv_at hl 1 rfl) ?_
                refine lv_iconst (v := nI 2) F.1 F.2.1 dL_act_504 (by decide) ?_
                refine q_iald (v := S 8 (blw (x >>> (nI 2 &&& 31)) (S 0 2))) F hK hP (4 + S 0 1 + (blw (x >>> (nI 2 &&& 31)) (S 0 2))) (pre_at (wSi_v (show (blw (x >>> (nI 2 &&& 31)) (S 0 2)) < S 0 2 by omega))) (by decide) (by first | omega | decide) rfl dL_act_505 ?_
                have := hI.has (blw (x >>> (nI 2 &&& 31)) (S 0 2))
                refine k_if_eq (tgt := 529) F (by omega) dL_act_506 (by decide) (fun h506 => ?_) (fun h506 => ?_)
                · skip
                  refine lv_iconst (v := nI 1) F.1 F.2.1 dL_act_529 (by decide) ?_
                  exact a_ret F hr hlk hP hD hS hz rfl hL (show S 0 3 ≤ S 0 3 + 60 by omega) (show 0 ≤ 500 by omega) (show 0 ≤ 2500 by omega) dL_act_530
                · skip
                  refine lv_aload_n F.1 F.2.1 dL_act_509 rfl (lv_at hl 10 rfl) ?_
                  refine lv_aload F.1 F.2.1 dL_act_510 (lv_at hl 1 rfl) ?_
                  refine q_pV (n := 1) (rest := []) (v := bI (S 0 0 ≤ S 7 (blw (x >>> (nI 2 &&& 31)) (S 0 2)))) F (c_X4_isIn l D cI cA z S (blw (x >>> (nI 2 &&& 31)) (S 0 2)) hI (by first | assumption | omega)) gL_act_X4_isIn rfl (by decide +kernel) ⟨Nat.le_of_ble_eq_true rfl, Nat.le_of_ble_eq_true rfl⟩ rfl hl.1 rfl (Nat.le_of_ble_eq_true rfl) dL_act_512 ⟨show 0 ≤ 500 by omega, show 0 ≤ 2500 by omega⟩ hK hP hS rfl (q0 := 0) (ci := 4) rfl rfl (fun H locs hP hS => ?_)
                  refine k_ifne_b (tgt := 529) F dL_act_515 (by decide) (fun h515 => ?_) (fun h515 => ?_)
                  · skip
                    refine lv_iconst (v := nI 1) F.1 F.2.1 dL_act_529 (by decide) ?_
                    exact a_ret F hr hlk hP hD hS hz rfl hL (show S 0 3 ≤ S 0 3 + 60 by omega) (show 0 ≤ 500 by omega) (show 0 ≤ 2500 by omega) dL_act_530
                  · skip
                    refine lv_aload F.1 F.2.1 dL_act_518 (lv_at hl 0 rfl) ?_
                    refine lv_iconst (v := nI 0) F.1 F.2.1 dL_act_520 (by decide) ?_
                    refine q_iald (v := S 2 (blw (x >>> (nI 3 &&& 31)) (S 0 1))) F hK hP (4 + (blw (x >>> (nI 3 &&& 31)) (S 0 1))) (pre_at (wSi_g (show (blw (x >>> (nI 3 &&& 31)) (S 0 1)) < S 0 1 by omega))) (by decide) (by first | omega | decide) rfl dL_act_521 ?_
                    have := hI.keep (blw (x >>> (nI 3 &&& 31)) (S 0 1))
                    refine lv_aload F.1 F.2.1 dL_act_522 (lv_at hl 1 rfl) ?_
                    refine lv_iconst (v := nI 3) F.1 F.2.1 dL_act_524 (by decide) ?_
                    refine q_iald (v := S 7 (blw (x >>> (nI 2 &&& 31)) (S 0 2))) F hK hP (4 + S 0 1 + (blw (x >>> (nI 2 &&& 31)) (S 0 2))) (pre_at (wSi_v (show (blw (x >>> (nI 2 &&& 31)) (S 0 2)) < S 0 2 by omega))) (by decide) (by first | omega | decide) rfl dL_act_525 ?_
                    have := hI.went (blw (x >>> (nI 2 &&& 31)) (S 0 2))
                    refine k_icmp_eq (tgt := 531) F (by omega) (by omega) dL_act_526 (by decide) (fun h526 => ?_) (fun h526 => ?_)
                    · skip
                      refine lv_aload_n F.1 F.2.1 dL_act_531 rfl (lv_at hl 10 rfl) ?_
                      refine lv_aload F.1 F.2.1 dL_act_532 (lv_at hl 1 rfl) ?_
                      refine lv_aload F.1 F.2.1 dL_act_534 (lv_at hl 0 rfl) ?_
                      refine q_gV (n := 2) (rest := []) F (c_X4_feed l D cI cA z S (blw (x >>> (nI 2 &&& 31)) (S 0 2)) (blw (x >>> (nI 3 &&& 31)) (S 0 1)) hI (by first | assumption | omega) (by first | assumption | omega) (by first | assumption | omega) (hI.mood1 _ (by omega))) gL_act_X4_feed rfl (by decide +kernel) ⟨Nat.le_of_ble_eq_true rfl, Nat.le_of_ble_eq_true rfl⟩ rfl hl.1 rfl (Nat.le_of_ble_eq_true rfl) dL_act_536 ⟨show 0 ≤ 500 by omega, show 0 ≤ 2500 by omega⟩ hK hP hD hS (fun q h => Or.inr (by omega)) rfl (wSi_ad rfl rfl) (wSi_lneq rfl rfl) ((wSi cI cA z (payS S (blw (x >>> (nI 2 &&& 31)) (S 0 2)) (blw (x >>> (nI 3 &&& 31)) (S 0 1)))) ++ (wCo cI a b S S2)) rfl (q0 := 0) (ci := 4) rfl rfl (fun H locs hP hD hS => ?_)
                      refine lv_aload_n F.1 F.2.1 dL_act_539 rfl (lv_at hl 9 rfl) ?_
                      refine lv_iload F.1 F.2.1 dL_act_540 (lv_at hl 3 rfl) ?_
                      refine lv_iload F.1 F.2.1 dL_act_542 (lv_at hl 2 rfl) ?_
                      have ok_8 : rBribe S (nI (blw (x >>> (nI 2 &&& 31)) (S 0 2))) (nI (blw (x >>> (nI 3 &&& 31)) (S 0 1))) = (0, nI (max 1 (S 3 (blw (x >>> (nI 3 &&& 31)) (S 0 1)) - 1)), (payS S (blw (x >>> (nI 2 &&& 31)) (S 0 2)) (blw (x >>> (nI 3 &&& 31)) (S 0 1)))) := ok_bribe hI (by omega) (by omega) (by omega) (by omega) (by omega)
                      refine x_tI (n := 2) (rest := []) (v := nI (max 1 (S 3 (blw (x >>> (nI 3 &&& 31)) (S 0 1)) - 1))) (w1 := (wCo cI a b (payS S (blw (x >>> (nI 2 &&& 31)) (S 0 2)) (blw (x >>> (nI 3 &&& 31)) (S 0 1))) S2)) F (c_X3_bribe l D cI hst a b S S2 (nI (blw (x >>> (nI 2 &&& 31)) (S 0 2))) (nI (blw (x >>> (nI 3 &&& 31)) (S 0 1))) hI) (by rw [ok_8]; rfl) (by rw [ok_8]) (by rw [ok_8]) gL_act_X3_bribe rfl (by decide +kernel) ⟨Nat.le_of_ble_eq_true rfl, Nat.le_of_ble_eq_true rfl⟩ rfl hl.1 rfl (Nat.le_of_ble_eq_true rfl) dL_act_544 ⟨show 0 + 0 + 3 ≤ 500 by omega, show 0 + 0 + 18 ≤ 2500 by omega⟩ hK hX hP hD hS ap_t rfl rfl ((wSi cI cA z (payS S (blw (x >>> (nI 2 &&& 31)) (S 0 2)) (blw (x >>> (nI 3 &&& 31)) (S 0 1)))) ++ (wCo cI a b (payS S (blw (x >>> (nI 2 &&& 31)) (S 0 2)) (blw (x >>> (nI 3 &&& 31)) (S 0 1))) S2)) (congrArg _ (List.append_nil _)) (q0 := 0) (ci := 3) rfl rfl (fun H locs hP hD hS => ?_)
                      refine lv_aload F.1 F.2.1 dL_act_547 (lv_at hl 0 rfl) ?_
                      refine lv_iconst (v := nI 1) F.1 F.2.1 dL_act_549 (by decide) ?_
                      refine q_iald (v := (payS S (blw (x >>> (nI 2 &&& 31)) (S 0 2)) (blw (x >>> (nI 3 &&& 31)) (S 0 1))) 3 (blw (x >>> (nI 3 &&& 31)) (S 0 1))) F hK hP (4 + (blw (x >>> (nI 3 &&& 31)) (S 0 1))) (pre_at (wSi_g (show (blw (x >>> (nI 3 &&& 31)) (S 0 1)) < S 0 1 by omega))) (by decide) (by first | omega | decide) rfl dL_act_550 ?_
                      have hp9 := pay_k S (blw (x >>> (nI 2 &&& 31)) (S 0 2)) (blw (x >>> (nI 3 &&& 31)) (S 0 1)); have hm9 := hI.mood (blw (x >>> (nI 3 &&& 31)) (S 0 1))
                      refine k_icmp_ne (tgt := 558) F (by omega) (by omega) dL_act_551 (by decide) (fun h551 => ?_) (fun h551 => ?_)
                      · skip
                        exact absurd (pay_k _ _ _).symm h551
                      · skip
                        refine lv_iconst (v := nI 1) F.1 F.2.1 dL_act_554 (by decide) ?_
                        refine lv_goto (tgt := 559) F.1 F.2.1 dL_act_555 (by decide) ?_
                        exact a_ret F hr hlk hP hD hS hz rfl (LI_pay hL (by omega)) (show S 0 3 ≤ S 0 3 + 60 by omega) (show 0 + 0 + 3 ≤ 500 by omega) (show 0 + 0 + 18 ≤ 2500 by omega) dL_act_559
                    · skip
                      refine lv_iconst (v := nI 1) F.1 F.2.1 dL_act_529 (by decide) ?_
                      exact a_ret F hr hlk hP hD hS hz rfl hL (show S 0 3 ≤ S 0 3 + 60 by omega) (show 0 ≤ 500 by omega) (show 0 ≤ 2500 by omega) dL_act_530
              · skip
                refine lv_iconst (v := nI 1) F.1 F.2.1 dL_act_560 (by decide) ?_
                refine lv_iload_n F.1 F.2.1 dL_act_561 rfl (lv_at hl 11 rfl) ?_
                refine lv_iconst (v := nI 2) F.1 F.2.1 dL_act_562 (by decide) ?_
                refine lv_ishr F.1 F.2.1 dL_act_563 ?_
                refine lv_iload_n F.1 F.2.1 dL_act_564 rfl (lv_at hl 11 rfl) ?_
                refine lv_bipush (v := nI 9) F.1 F.2.1 dL_act_565 (by decide) ?_
                refine x_pS (n := 2) (rest := [.int (x >>> (nI 2 &&& 31)), .int (nI 1)]) (v := nI (blw x 9)) F (c_L_below l D cI x 9 (by omega) (by omega)) gL_act_L_below rfl (by decide +kernel) ⟨Nat.le_of_ble_eq_true rfl, Nat.le_of_ble_eq_true rfl⟩ rfl hl.1 rfl (Nat.le_of_ble_eq_true rfl) dL_act_567 ⟨show 0 ≤ 500 by omega, show 0 ≤ 2500 by omega⟩ hK hP hS (fun H locs hP hS => ?_)
                have := blw_lt x (n := 9) (by omega)
                refine k_if_ne (tgt := 578) F (by omega) dL_act_570 (by decide) (fun h570 => ?_) (fun h570 => ?_)
                · skip
                  refine lv_iconst (v := nI 3) F.1 F.2.1 dL_act_578 (by decide) ?_
                  refine x_pS (n := 2) (rest := [.int (nI 1)]) (v := nI (blw (x >>> (nI 2 &&& 31)) 3)) F (c_L_below l D cI (x >>> (nI 2 &&& 31)) 3 (by omega) (by omega)) gL_act_L_below rfl (by decide +kernel) ⟨Nat.le_of_ble_eq_true rfl, Nat.le_of_ble_eq_true rfl⟩ rfl hl.1 rfl (Nat.le_of_ble_eq_true rfl) dL_act_579 ⟨show 0 ≤ 500 by omega, show 0 ≤ 2500 by omega⟩ hK hP hS (fun H locs hP hS => ?_)
                  have := blw_lt (x >>> (nI 2 &&& 31)) (n := 3) (by omega)
                  refine k_iadd F dL_act_582 ?_
                  refine lv_istore (lv' := [(14, .int (nI (1 + (blw (x >>> (nI 2 &&& 31)) 3)))), (11, .ref (z (4 + (blw (x >>> (nI 3 &&& 31)) (S 0 1))))), (10, .ref (z (12 + (blw (x >>> (nI 2 &&& 31)) (S 0 2))))), (9, .int (nI (blw (x >>> (nI 3 &&& 31)) (S 0 1)))), (8, .int (nI (blw (x >>> (nI 2 &&& 31)) (S 0 2)))), (7, .int (nI (blw (x >>> (nI 1 &&& 31)) (S 0 0)))), (6, .int (nI (blw (x >>> (nI 9 &&& 31)) 18))), (5, .int (nI (S 0 2))), (4, .int (nI (S 0 1))), (3, .int (nI (S 0 0))), (0, .ref (a 13)), (1, .ref (z 0)), (2, .int x)]) F.1 F.2.1 dL_act_583 hl (by decide) rfl (fun ls hl => ?_)
                  refine lv_aload_n F.1 F.2.1 dL_act_585 rfl (lv_at hl 10 rfl) ?_
                  refine lv_iload F.1 F.2.1 dL_act_586 (lv_at hl 0 rfl) ?_
                  have ok_9 : rPass S (nI (1 + (blw (x >>> (nI 2 &&& 31)) 3))) = (0, (cameI S (1 + (blw (x >>> (nI 2 &&& 31)) 3))), (beatsN S (1 + (blw (x >>> (nI 2 &&& 31)) 3)))) := ok_pass (by omega) (by omega)
                  refine x_tI (n := 1) (rest := []) (v := (cameI S (1 + (blw (x >>> (nI 2 &&& 31)) 3)))) (w1 := (wCo cI a b (beatsN S (1 + (blw (x >>> (nI 2 &&& 31)) 3))) S2)) F (c_X3_passBeats l D cI hst a b S S2 (nI (1 + (blw (x >>> (nI 2 &&& 31)) 3))) hI) (by rw [ok_9]; rfl) (by rw [ok_9]) (by rw [ok_9]) gL_act_X3_passBeats rfl (by decide +kernel) ⟨Nat.le_of_ble_eq_true rfl, Nat.le_of_ble_eq_true rfl⟩ rfl hl.1 rfl (Nat.le_of_ble_eq_true rfl) dL_act_588 ⟨show 0 + 1 ≤ 500 by omega, show 0 + 6 ≤ 2500 by omega⟩ hK hX hP hD hS ap_t rfl rfl ((wSi cI cA z S) ++ (wCo cI a b (beatsN S (1 + (blw (x >>> (nI 2 &&& 31)) 3))) S2)) (congrArg _ (List.append_nil _)) (q0 := 0) (ci := 3) rfl rfl (fun H locs hP hD hS => ?_)
                  refine lv_aload_n F.1 F.2.1 dL_act_591 rfl (lv_at hl 11 rfl) ?_
                  refine lv_iload F.1 F.2.1 dL_act_592 (lv_at hl 0 rfl) ?_
                  refine q_gI (n := 1) (rest := [.int (cameI S (1 + (blw (x >>> (nI 2 &&& 31)) 3)))]) (v := (cameI S (1 + (blw (x >>> (nI 2 &&& 31)) 3)))) F (c_X4_behind l D cI cA z S (1 + (blw (x >>> (nI 2 &&& 31)) 3)) hI (by first | assumption | omega)) gL_act_X4_behind rfl (by decide +kernel) ⟨Nat.le_of_ble_eq_true rfl, Nat.le_of_ble_eq_true rfl⟩ rfl hl.1 rfl (Nat.le_of_ble_eq_true rfl) dL_act_594 ⟨show 0 + 1 + 480 ≤ 500 by omega, show 0 + 6 + 1920 ≤ 2500 by omega⟩ hK hP hD hS (fun q h => Or.inr (by omega)) rfl (wSi_ad (beatsN_sc _ 1 (by omega) _) (beatsN_sc _ 2 (by omega) _)) (wSi_lneq (beatsN_sc _ 1 (by omega) _) (beatsN_sc _ 2 (by omega) _)) ((wSi cI cA z (beatsN S (1 + (blw (x >>> (nI 2 &&& 31)) 3)))) ++ (wCo cI a b (beatsN S (1 + (blw (x >>> (nI 2 &&& 31)) 3))) S2)) rfl (q0 := 0) (ci := 4) rfl rfl (fun H locs hP hD hS => ?_)
                  refine lv_icmp_ne (tgt := 604) F.1 F.2.1 dL_act_597 (by decide) (fun h597 => ?_) (fun h597 => ?_)
                  · skip
                    exact absurd rfl h597
                  · skip
                    refine lv_iconst (v := nI 1) F.1 F.2.1 dL_act_600 (by decide) ?_
                    refine lv_goto (tgt := 605) F.1 F.2.1 dL_act_601 (by decide) ?_
                    exact a_ret F hr hlk hP hD hS hz rfl (LI_beatsN hL _) (by rw [beatsN_b]; omega) (show 0 + 1 + 480 ≤ 500 by omega) (show 0 + 6 + 1920 ≤ 2500 by omega) dL_act_605
                · skip
                  refine lv_bipush (v := nI 60) F.1 F.2.1 dL_act_573 (by decide) ?_
                  refine lv_goto (tgt := 579) F.1 F.2.1 dL_act_575 (by decide) ?_
                  refine x_pS (n := 2) (rest := [.int (nI 1)]) (v := nI (blw (x >>> (nI 2 &&& 31)) 60)) F (c_L_below l D cI (x >>> (nI 2 &&& 31)) 60 (by omega) (by omega)) gL_act_L_below rfl (by decide +kernel) ⟨Nat.le_of_ble_eq_true rfl, Nat.le_of_ble_eq_true rfl⟩ rfl hl.1 rfl (Nat.le_of_ble_eq_true rfl) dL_act_579 ⟨show 0 ≤ 500 by omega, show 0 ≤ 2500 by omega⟩ hK hP hS (fun H locs hP hS => ?_)
                  have := blw_lt (x >>> (nI 2 &&& 31)) (n := 60) (by omega)
                  refine k_iadd F dL_act_582 ?_
                  refine lv_istore (lv' := [(14, .int (nI (1 + (blw (x >>> (nI 2 &&& 31)) 60)))), (11, .ref (z (4 + (blw (x >>> (nI 3 &&& 31)) (S 0 1))))), (10, .ref (z (12 + (blw (x >>> (nI 2 &&& 31)) (S 0 2))))), (9, .int (nI (blw (x >>> (nI 3 &&& 31)) (S 0 1)))), (8, .int (nI (blw (x >>> (nI 2 &&& 31)) (S 0 2)))), (7, .int (nI (blw (x >>> (nI 1 &&& 31)) (S 0 0)))), (6, .int (nI (blw (x >>> (nI 9 &&& 31)) 18))), (5, .int (nI (S 0 2))), (4, .int (nI (S 0 1))), (3, .int (nI (S 0 0))), (0, .ref (a 13)), (1, .ref (z 0)), (2, .int x)]) F.1 F.2.1 dL_act_583 hl (by decide) rfl (fun ls hl => ?_)
                  refine lv_aload_n F.1 F.2.1 dL_act_585 rfl (lv_at hl 10 rfl) ?_
                  refine lv_iload F.1 F.2.1 dL_act_586 (lv_at hl 0 rfl) ?_
                  have ok_10 : rPass S (nI (1 + (blw (x >>> (nI 2 &&& 31)) 60))) = (0, (cameI S (1 + (blw (x >>> (nI 2 &&& 31)) 60))), (beatsN S (1 + (blw (x >>> (nI 2 &&& 31)) 60)))) := ok_pass (by omega) (by omega)
                  refine x_tI (n := 1) (rest := []) (v := (cameI S (1 + (blw (x >>> (nI 2 &&& 31)) 60)))) (w1 := (wCo cI a b (beatsN S (1 + (blw (x >>> (nI 2 &&& 31)) 60))) S2)) F (c_X3_passBeats l D cI hst a b S S2 (nI (1 + (blw (x >>> (nI 2 &&& 31)) 60))) hI) (by rw [ok_10]; rfl) (by rw [ok_10]) (by rw [ok_10]) gL_act_X3_passBeats rfl (by decide +kernel) ⟨Nat.le_of_ble_eq_true rfl, Nat.le_of_ble_eq_true rfl⟩ rfl hl.1 rfl (Nat.le_of_ble_eq_true rfl) dL_act_588 ⟨show 0 + 1 ≤ 500 by omega, show 0 + 6 ≤ 2500 by omega⟩ hK hX hP hD hS ap_t rfl rfl ((wSi cI cA z S) ++ (wCo cI a b (beatsN S (1 + (blw (x >>> (nI 2 &&& 31)) 60))) S2)) (congrArg _ (List.append_nil _)) (q0 := 0) (ci := 3) rfl rfl (fun H locs hP hD hS => ?_)
                  refine lv_aload_n F.1 F.2.1 dL_act_591 rfl (lv_at hl 11 rfl) ?_
                  refine lv_iload F.1 F.2.1 dL_act_592 (lv_at hl 0 rfl) ?_
                  refine q_gI (n := 1) (rest := [.int (cameI S (1 + (blw (x >>> (nI 2 &&& 31)) 60)))]) (v := (cameI S (1 + (blw (x >>> (nI 2 &&& 31)) 60)))) F (c_X4_behind l D cI cA z S (1 + (blw (x >>> (nI 2 &&& 31)) 60)) hI (by first | assumption | omega)) gL_act_X4_behind rfl (by decide +kernel) ⟨Nat.le_of_ble_eq_true rfl, Nat.le_of_ble_eq_true rfl⟩ rfl hl.1 rfl (Nat.le_of_ble_eq_true rfl) dL_act_594 ⟨show 0 + 1 + 480 ≤ 500 by omega, show 0 + 6 + 1920 ≤ 2500 by omega⟩ hK hP hD hS (fun q h => Or.inr (by omega)) rfl (wSi_ad (beatsN_sc _ 1 (by omega) _) (beatsN_sc _ 2 (by omega) _)) (wSi_lneq (beatsN_sc _ 1 (by omega) _) (beatsN_sc _ 2 (by omega) _)) ((wSi cI cA z (beatsN S (1 + (blw (x >>> (nI 2 &&& 31)) 60)))) ++ (wCo cI a b (beatsN S (1 + (blw (x >>> (nI 2 &&& 31)) 60))) S2)) rfl (q0 := 0) (ci := 4) rfl rfl (fun H locs hP hD hS => ?_)
                  refine lv_icmp_ne (tgt := 604) F.1 F.2.1 dL_act_597 (by decide) (fun h597 => ?_) (fun h597 => ?_)
                  · skip
                    exact absurd rfl h597
                  · skip
                    refine lv_iconst (v := nI 1) F.1 F.2.1 dL_act_600 (by decide) ?_
                    refine lv_goto (tgt := 605) F.1 F.2.1 dL_act_601 (by decide) ?_
                    exact a_ret F hr hlk hP hD hS hz rfl (LI_beatsN hL _) (by rw [beatsN_b]; omega) (show 0 + 1 + 480 ≤ 500 by omega) (show 0 + 6 + 1920 ≤ 2500 by omega) dL_act_605
            · skip
              refine lv_iload F.1 F.2.1 dL_act_195 (lv_at hl 2 rfl) ?_
              refine lv_bipush (v := nI 8) F.1 F.2.1 dL_act_197 (by decide) ?_
              refine k_icmp_ne (tgt := 204) F (by omega) (by omega) dL_act_199 (by decide) (fun h199 => ?_) (fun h199 => ?_)
              · skip
                refine lv_iconst (v := nI 5) F.1 F.2.1 dL_act_204 (by decide) ?_
                refine q_newa F (List.mem_of_getElem? (i := 4) rfl) hK hP hD hS (fun q h => Or.inr (by omega)) (k := 5) (by omega) ⟨show 0 + 1 ≤ 500 by omega, show 0 + 5 ≤ 2500 by omega⟩ dL_act_205 (fun q205 H hP hD hS => ?_)
                refine lv_dup F.1 F.2.1 dL_act_207 rfl ?_
                refine lv_iconst (v := nI 0) F.1 F.2.1 dL_act_208 (by decide) ?_
                refine lv_iload_n F.1 F.2.1 dL_act_209 rfl (lv_at hl 7 rfl) ?_
                refine lv_iconst (v := nI 2) F.1 F.2.1 dL_act_210 (by decide) ?_
                refine lv_ishr F.1 F.2.1 dL_act_211 ?_
                refine lv_bipush (v := nI 10) F.1 F.2.1 dL_act_212 (by decide) ?_
                refine x_pS (n := 2) (rest := [.int (nI 0), .ref q205, .ref q205]) (v := nI (blw (x >>> (nI 2 &&& 31)) 10)) F (c_L_below l D cI (x >>> (nI 2 &&& 31)) 10 (by omega) (by omega)) gL_act_L_below rfl (by decide +kernel) ⟨Nat.le_of_ble_eq_true rfl, Nat.le_of_ble_eq_true rfl⟩ rfl hl.1 rfl (Nat.le_of_ble_eq_true rfl) dL_act_214 ⟨show 0 + 1 ≤ 500 by omega, show 0 + 5 ≤ 2500 by omega⟩ hK hP hS (fun H locs hP hS => ?_)
                have := blw_lt (x >>> (nI 2 &&& 31)) (n := 10) (by omega)
                refine q_iast (k := 0) (x := (blw (x >>> (nI 2 &&& 31)) 10)) F hK hP hD hS (((wSi cI cA z S) ++ (wCo cI a b S S2)).length + 0) (app_l rfl) (by omega) (by first | omega | decide) dL_act_217 (((wSi cI cA z S) ++ (wCo cI a b S S2)) ++ [(q205, .inl (cI, 5, .inl (row (updN (fun _ => 0) 0 (blw (x >>> (nI 2 &&& 31)) 10)))))]) (set_app1 rfl) (fun H locs hP hD hS => ?_)
                refine lv_dup F.1 F.2.1 dL_act_218 rfl ?_
                refine lv_iconst (v := nI 1) F.1 F.2.1 dL_act_219 (by decide) ?_
                refine lv_iload_n F.1 F.2.1 dL_act_220 rfl (lv_at hl 7 rfl) ?_
                refine lv_iconst (v := nI 4) F.1 F.2.1 dL_act_221 (by decide) ?_
                refine lv_ishr F.1 F.2.1 dL_act_222 ?_
                refine lv_bipush (v := nI 21) F.1 F.2.1 dL_act_223 (by decide) ?_
                refine x_pS (n := 2) (rest := [.int (nI 1), .ref q205, .ref q205]) (v := nI (blw (x >>> (nI 4 &&& 31)) 21)) F (c_L_below l D cI (x >>> (nI 4 &&& 31)) 21 (by omega) (by omega)) gL_act_L_below rfl (by decide +kernel) ⟨Nat.le_of_ble_eq_true rfl, Nat.le_of_ble_eq_true rfl⟩ rfl hl.1 rfl (Nat.le_of_ble_eq_true rfl) dL_act_225 ⟨show 0 + 1 ≤ 500 by omega, show 0 + 5 ≤ 2500 by omega⟩ hK hP hS (fun H locs hP hS => ?_)
                have := blw_lt (x >>> (nI 4 &&& 31)) (n := 21) (by omega)
                refine q_iast (k := 1) (x := (blw (x >>> (nI 4 &&& 31)) 21)) F hK hP hD hS (((wSi cI cA z S) ++ (wCo cI a b S S2)).length + 0) (app_l rfl) (by omega) (by first | omega | decide) dL_act_228 (((wSi cI cA z S) ++ (wCo cI a b S S2)) ++ [(q205, .inl (cI, 5, .inl (row (updN (updN (fun _ => 0) 0 (blw (x >>> (nI 2 &&& 31)) 10)) 1 (blw (x >>> (nI 4 &&& 31)) 21)))))]) (set_app1 rfl) (fun H locs hP hD hS => ?_)
                refine lv_dup F.1 F.2.1 dL_act_229 rfl ?_
                refine lv_iconst (v := nI 2) F.1 F.2.1 dL_act_230 (by decide) ?_
                refine lv_iload_n F.1 F.2.1 dL_act_231 rfl (lv_at hl 7 rfl) ?_
                refine lv_bipush (v := nI 6) F.1 F.2.1 dL_act_232 (by decide) ?_
                refine lv_ishr F.1 F.2.1 dL_act_234 ?_
                refine lv_iload_n F.1 F.2.1 dL_act_235 rfl (lv_at hl 7 rfl) ?_
                refine lv_iconst (v := nI 3) F.1 F.2.1 dL_act_236 (by decide) ?_
                refine x_pS (n := 2) (rest := [.int (x >>> (nI 6 &&& 31)), .int (nI 2), .ref q205, .ref q205]) (v := nI (blw x 3)) F (c_L_below l D cI x 3 (by omega) (by omega)) gL_act_L_below rfl (by decide +kernel) ⟨Nat.le_of_ble_eq_true rfl, Nat.le_of_ble_eq_true rfl⟩ rfl hl.1 rfl (Nat.le_of_ble_eq_true rfl) dL_act_237 ⟨show 0 + 1 ≤ 500 by omega, show 0 + 5 ≤ 2500 by omega⟩ hK hP hS (fun H locs hP hS => ?_)
                have := blw_lt x (n := 3) (by omega)
                refine k_if_ne (tgt := 248) F (by omega) dL_act_240 (by decide) (fun h240 => ?_) (fun h240 => ?_)
                · skip
                  refine lv_iconst (v := nI 4) F.1 F.2.1 dL_act_248 (by decide) ?_
                  refine x_pS (n := 2) (rest := [.int (nI 2), .ref q205, .ref q205]) (v := nI (blw (x >>> (nI 6 &&& 31)) 4)) F (c_L_below l D cI (x >>> (nI 6 &&& 31)) 4 (by omega) (by omega)) gL_act_L_below rfl (by decide +kernel) ⟨Nat.le_of_ble_eq_true rfl, Nat.le_of_ble_eq_true rfl⟩ rfl hl.1 rfl (Nat.le_of_ble_eq_true rfl) dL_act_249 ⟨show 0 + 1 ≤ 500 by omega, show 0 + 5 ≤ 2500 by omega⟩ hK hP hS (fun H locs hP hS => ?_)
                  have := blw_lt (x >>> (nI 6 &&& 31)) (n := 4) (by omega)
                  refine q_iast (k := 2) (x := (blw (x >>> (nI 6 &&& 31)) 4)) F hK hP hD hS (((wSi cI cA z S) ++ (wCo cI a b S S2)).length + 0) (app_l rfl) (by omega) (by first | omega | decide) dL_act_252 (((wSi cI cA z S) ++ (wCo cI a b S S2)) ++ [(q205, .inl (cI, 5, .inl (row (updN (updN (updN (fun _ => 0) 0 (blw (x >>> (nI 2 &&& 31)) 10)) 1 (blw (x >>> (nI 4 &&& 31)) 21)) 2 (blw (x >>> (nI 6 &&& 31)) 4)))))]) (set_app1 rfl) (fun H locs hP hD hS => ?_)
                  refine lv_dup F.1 F.2.1 dL_act_253 rfl ?_
                  refine lv_iconst (v := nI 3) F.1 F.2.1 dL_act_254 (by decide) ?_
                  refine lv_iconst (v := nI 0) F.1 F.2.1 dL_act_255 (by decide) ?_
                  refine q_iast (k := 3) (x := 0) F hK hP hD hS (((wSi cI cA z S) ++ (wCo cI a b S S2)).length + 0) (app_l rfl) (by omega) (by first | omega | decide) dL_act_256 (((wSi cI cA z S) ++ (wCo cI a b S S2)) ++ [(q205, .inl (cI, 5, .inl (row (updN (updN (updN (updN (fun _ => 0) 0 (blw (x >>> (nI 2 &&& 31)) 10)) 1 (blw (x >>> (nI 4 &&& 31)) 21)) 2 (blw (x >>> (nI 6 &&& 31)) 4)) 3 0))))]) (set_app1 rfl) (fun H locs hP hD hS => ?_)
                  refine lv_dup F.1 F.2.1 dL_act_257 rfl ?_
                  refine lv_iconst (v := nI 4) F.1 F.2.1 dL_act_258 (by decide) ?_
                  refine lv_iconst (v := nI 0) F.1 F.2.1 dL_act_259 (by decide) ?_
                  refine q_iast (k := 4) (x := 0) F hK hP hD hS (((wSi cI cA z S) ++ (wCo cI a b S S2)).length + 0) (app_l rfl) (by omega) (by first | omega | decide) dL_act_260 (((wSi cI cA z S) ++ (wCo cI a b S S2)) ++ [(q205, .inl (cI, 5, .inl (row (updN (updN (updN (updN (updN (fun _ => 0) 0 (blw (x >>> (nI 2 &&& 31)) 10)) 1 (blw (x >>> (nI 4 &&& 31)) 21)) 2 (blw (x >>> (nI 6 &&& 31)) 4)) 3 0) 4 0))))]) (set_app1 rfl) (fun H locs hP hD hS => ?_)
                  refine lv_astore (lv' := [(8, .ref q205), (7, .int (nI (blw (x >>> (nI 1 &&& 31)) (S 0 0)))), (6, .int (nI (blw (x >>> (nI 9 &&& 31)) 18))), (5, .int (nI (S 0 2))), (4, .int (nI (S 0 1))), (3, .int (nI (S 0 0))), (0, .ref (a 13)), (1, .ref (z 0)), (2, .int x)]) F.1 F.2.1 dL_act_261 hl (by decide) rfl (fun ls hl => ?_)
                  refine lv_aload_n F.1 F.2.1 dL_act_263 rfl (lv_at hl 7 rfl) ?_
                  refine lv_aload_n F.1 F.2.1 dL_act_264 rfl (lv_at hl 7 rfl) ?_
                  refine k_get (v := .ref (z 3)) F nL_act_X4 hK.1.1 hP 0 (pre_at (pre_at rfl)) rfl 5 (by decide) (List.mem_of_getElem? (i := 3) rfl) rfl dL_act_265 ?_
                  refine lv_aload F.1 F.2.1 dL_act_268 (lv_at hl 0 rfl) ?_
                  refine q_with F (c_X4_with l D cI cA (z 3) (S 0 2) q205 3 (fun k => some (z (12 + k))) (((wSi cI cA z S) ++ (wCo cI a b S S2)) ++ [(q205, .inl (cI, 5, .inl (row (updN (updN (updN (updN (updN (fun _ => 0) 0 (blw (x >>> (nI 2 &&& 31)) 10)) 1 (blw (x >>> (nI 4 &&& 31)) 21)) 2 (blw (x >>> (nI 6 &&& 31)) 4)) 3 0) 4 0))))]) (by omega) (pre_at (pre_at rfl)) (fun H h => rowAt_of h (app_l (k := 0) rfl)) (fun k hk => ⟨z (12 + k), rfl, fun H h => rowAt_of h (pre_at (pre_at (wSi_v hk)))⟩)) gL_act_X4_with ⟨Nat.le_of_ble_eq_true rfl, Nat.le_of_ble_eq_true rfl⟩ hl.1 (Nat.le_of_ble_eq_true rfl) dL_act_270 ⟨show 0 + 1 + 1 ≤ 500 by omega, show 0 + 5 + 9 ≤ 2500 by omega⟩ hK hP hD hS (fun q h => Or.inr (by omega)) (fun q270 H locs hP hD hS => ?_)
                  have hP : va_P D vwCl (((wSi cI cA z S) ++ (wCo cI a b S S2)) ++ [(q205, .inl (cI, 5, .inl (row (updN (updN (updN (updN (updN (fun _ => 0) 0 (blw (x >>> (nI 2 &&& 31)) 10)) 1 (blw (x >>> (nI 4 &&& 31)) 21)) 2 (blw (x >>> (nI 6 &&& 31)) 4)) 3 0) 4 0)))), (q270, .inl (cA, (S 0 2 + 1), ilr (va_up (fun k => some (z (12 + k))) (S 0 2) (some q205))))]) H := P_eq (List.append_assoc _ _ _) hP
                  have hD : va_D (va_A (wAc cI cA z a b S S2) sz) (((wSi cI cA z S) ++ (wCo cI a b S S2)) ++ [(q205, .inl (cI, 5, .inl (row (updN (updN (updN (updN (updN (fun _ => 0) 0 (blw (x >>> (nI 2 &&& 31)) 10)) 1 (blw (x >>> (nI 4 &&& 31)) 21)) 2 (blw (x >>> (nI 6 &&& 31)) 4)) 3 0) 4 0)))), (q270, .inl (cA, (S 0 2 + 1), ilr (va_up (fun k => some (z (12 + k))) (S 0 2) (some q205))))]) := D_eq (List.append_assoc _ _ _) hD
                  refine q_putr (ty := .array (.array .int)) F nL_act_X4 tyX4 tyX4_ok nmX4 hK hP hD hS 0 (pre_at (pre_at rfl)) rfl 5 (by decide) (List.mem_of_getElem? (i := 3) rfl) rfl (by decide +kernel) rfl rfl (Nat.le_of_ble_eq_true rfl) dL_act_273 ((((wSi cI cA z S).set 0 (z 0, .inr (4, [.int (nI (S 0 3)), .int (nI (S 0 4)), .int (nI (S 0 5)), .ref (z 1), .ref (z 2), .ref q270]))) ++ (wCo cI a b S S2)) ++ [(q205, .inl (cI, 5, .inl (row (updN (updN (updN (updN (updN (fun _ => 0) 0 (blw (x >>> (nI 2 &&& 31)) 10)) 1 (blw (x >>> (nI 4 &&& 31)) 21)) 2 (blw (x >>> (nI 6 &&& 31)) 4)) 3 0) 4 0)))), (q270, .inl (cA, (S 0 2 + 1), ilr (va_up (fun k => some (z (12 + k))) (S 0 2) (some q205))))]) (set_pre (pre_at rfl) (set_pre rfl rfl)) (fun H locs hP hD hS => ?_)
                  refine lv_aload_n F.1 F.2.1 dL_act_276 rfl (lv_at hl 6 rfl) ?_
                  refine lv_aload F.1 F.2.1 dL_act_277 (lv_at hl 0 rfl) ?_
                  refine lv_iconst (v := nI 0) F.1 F.2.1 dL_act_279 (by decide) ?_
                  refine q_iald (f := updN (updN (updN (updN (updN (fun _ => 0) 0 (blw (x >>> (nI 2 &&& 31)) 10)) 1 (blw (x >>> (nI 4 &&& 31)) 21)) 2 (blw (x >>> (nI 6 &&& 31)) 4)) 3 0) 4 0) (v := (blw (x >>> (nI 2 &&& 31)) 10)) F hK hP ((((wSi cI cA z S).set 0 (z 0, .inr (4, [.int (nI (S 0 3)), .int (nI (S 0 4)), .int (nI (S 0 5)), .ref (z 1), .ref (z 2), .ref q270]))) ++ (wCo cI a b S S2)).length + 0) (app_l rfl) (by omega) (by first | omega | decide) rfl dL_act_280 ?_
                  refine lv_aload F.1 F.2.1 dL_act_281 (lv_at hl 0 rfl) ?_
                  refine lv_iconst (v := nI 1) F.1 F.2.1 dL_act_283 (by decide) ?_
                  refine q_iald (f := updN (updN (updN (updN (updN (fun _ => 0) 0 (blw (x >>> (nI 2 &&& 31)) 10)) 1 (blw (x >>> (nI 4 &&& 31)) 21)) 2 (blw (x >>> (nI 6 &&& 31)) 4)) 3 0) 4 0) (v := (blw (x >>> (nI 4 &&& 31)) 21)) F hK hP ((((wSi cI cA z S).set 0 (z 0, .inr (4, [.int (nI (S 0 3)), .int (nI (S 0 4)), .int (nI (S 0 5)), .ref (z 1), .ref (z 2), .ref q270]))) ++ (wCo cI a b S S2)).length + 0) (app_l rfl) (by omega) (by first | omega | decide) rfl dL_act_284 ?_
                  refine lv_aload F.1 F.2.1 dL_act_285 (lv_at hl 0 rfl) ?_
                  refine lv_iconst (v := nI 2) F.1 F.2.1 dL_act_287 (by decide) ?_
                  refine q_iald (f := updN (updN (updN (updN (updN (fun _ => 0) 0 (blw (x >>> (nI 2 &&& 31)) 10)) 1 (blw (x >>> (nI 4 &&& 31)) 21)) 2 (blw (x >>> (nI 6 &&& 31)) 4)) 3 0) 4 0) (v := (blw (x >>> (nI 6 &&& 31)) 4)) F hK hP ((((wSi cI cA z S).set 0 (z 0, .inr (4, [.int (nI (S 0 3)), .int (nI (S 0 4)), .int (nI (S 0 5)), .ref (z 1), .ref (z 2), .ref q270]))) ++ (wCo cI a b S S2)).length + 0) (app_l rfl) (by omega) (by first | omega | decide) rfl dL_act_288 ?_
                  have ok_11 : rArrive S (nI (blw (x >>> (nI 2 &&& 31)) 10)) (nI (blw (x >>> (nI 4 &&& 31)) 21)) (nI (blw (x >>> (nI 6 &&& 31)) 4)) = (0, nI (S 0 2), (viA S (blw (x >>> (nI 2 &&& 31)) 10) (blw (x >>> (nI 4 &&& 31)) 21) (blw (x >>> (nI 6 &&& 31)) 4))) := ok_arrive (by omega) (by omega) (by omega) (by omega) (by omega)
                  refine x_tI (n := 3) (rest := []) (v := nI (S 0 2)) (w1 := (wCo cI a b (viA S (blw (x >>> (nI 2 &&& 31)) 10) (blw (x >>> (nI 4 &&& 31)) 21) (blw (x >>> (nI 6 &&& 31)) 4)) S2)) F (c_X3_arrive l D cI hst a b S S2 (nI (blw (x >>> (nI 2 &&& 31)) 10)) (nI (blw (x >>> (nI 4 &&& 31)) 21)) (nI (blw (x >>> (nI 6 &&& 31)) 4)) hI) (by rw [ok_11]; rfl) (by rw [ok_11]) (by rw [ok_11]) gL_act_X3_arrive rfl (by decide +kernel) ⟨Nat.le_of_ble_eq_true rfl, Nat.le_of_ble_eq_true rfl⟩ rfl hl.1 rfl (Nat.le_of_ble_eq_true rfl) dL_act_289 ⟨show 0 + 1 + 1 + 2 ≤ 500 by omega, show 0 + 5 + 9 + 12 ≤ 2500 by omega⟩ hK hX hP hD hS (List.append_assoc _ _ _) rfl rfl ((((wSi cI cA z S).set 0 (z 0, .inr (4, [.int (nI (S 0 3)), .int (nI (S 0 4)), .int (nI (S 0 5)), .ref (z 1), .ref (z 2), .ref q270]))) ++ (wCo cI a b (viA S (blw (x >>> (nI 2 &&& 31)) 10) (blw (x >>> (nI 4 &&& 31)) 21) (blw (x >>> (nI 6 &&& 31)) 4)) S2)) ++ [(q205, .inl (cI, 5, .inl (row (updN (updN (updN (updN (updN (fun _ => 0) 0 (blw (x >>> (nI 2 &&& 31)) 10)) 1 (blw (x >>> (nI 4 &&& 31)) 21)) 2 (blw (x >>> (nI 6 &&& 31)) 4)) 3 0) 4 0)))), (q270, .inl (cA, (S 0 2 + 1), ilr (va_up (fun k => some (z (12 + k))) (S 0 2) (some q205))))]) (List.append_assoc _ _ _).symm (q0 := 0) (ci := 3) rfl rfl (fun H locs hP hD hS => ?_)
                  refine lv_iload F.1 F.2.1 dL_act_292 (lv_at hl 3 rfl) ?_
                  refine lv_icmp_ne (tgt := 301) F.1 F.2.1 dL_act_294 (by decide) (fun h294 => ?_) (fun h294 => ?_)
                  · skip
                    exact absurd rfl h294
                  · skip
                    refine lv_iconst (v := nI 1) F.1 F.2.1 dL_act_297 (by decide) ?_
                    refine lv_goto (tgt := 302) F.1 F.2.1 dL_act_298 (by decide) ?_
                    exact a_ret F hr hlk (re_vP (r := (blw (x >>> (nI 2 &&& 31)) 10)) (v := (blw (x >>> (nI 4 &&& 31)) 21)) (c := (blw (x >>> (nI 6 &&& 31)) 4)) (by omega) hi1 rfl rfl rfl (hL.2.1.2.1 _ (Nat.le_refl _)).1.symm (hL.2.1.2.1 _ (Nat.le_refl _)).2.symm hP) (re_vD (r := (blw (x >>> (nI 2 &&& 31)) 10)) (v := (blw (x >>> (nI 4 &&& 31)) 21)) (c := (blw (x >>> (nI 6 &&& 31)) 4)) (by omega) hi1 hD) hS hz (by unfold zV; rw [updN_ne (by omega), updN_ne (by omega)]) (LI_vi hL (by omega) (by omega) (by omega) (by omega) (by omega)) (show S 0 3 ≤ S 0 3 + 60 by omega) (show 0 + 1 + 1 + 2 ≤ 500 by omega) (show 0 + 5 + 9 + 12 ≤ 2500 by omega) dL_act_302
                · skip
                  refine lv_bipush (v := nI 21) F.1 F.2.1 dL_act_243 (by decide) ?_
                  refine lv_goto (tgt := 249) F.1 F.2.1 dL_act_245 (by decide) ?_
                  refine x_pS (n := 2) (rest := [.int (nI 2), .ref q205, .ref q205]) (v := nI (blw (x >>> (nI 6 &&& 31)) 21)) F (c_L_below l D cI (x >>> (nI 6 &&& 31)) 21 (by omega) (by omega)) gL_act_L_below rfl (by decide +kernel) ⟨Nat.le_of_ble_eq_true rfl, Nat.le_of_ble_eq_true rfl⟩ rfl hl.1 rfl (Nat.le_of_ble_eq_true rfl) dL_act_249 ⟨show 0 + 1 ≤ 500 by omega, show 0 + 5 ≤ 2500 by omega⟩ hK hP hS (fun H locs hP hS => ?_)
                  have := blw_lt (x >>> (nI 6 &&& 31)) (n := 21) (by omega)
                  refine q_iast (k := 2) (x := (blw (x >>> (nI 6 &&& 31)) 21)) F hK hP hD hS (((wSi cI cA z S) ++ (wCo cI a b S S2)).length + 0) (app_l rfl) (by omega) (by first | omega | decide) dL_act_252 (((wSi cI cA z S) ++ (wCo cI a b S S2)) ++ [(q205, .inl (cI, 5, .inl (row (updN (updN (updN (fun _ => 0) 0 (blw (x >>> (nI 2 &&& 31)) 10)) 1 (blw (x >>> (nI 4 &&& 31)) 21)) 2 (blw (x >>> (nI 6 &&& 31)) 21)))))]) (set_app1 rfl) (fun H locs hP hD hS => ?_)
                  refine lv_dup F.1 F.2.1 dL_act_253 rfl ?_
                  refine lv_iconst (v := nI 3) F.1 F.2.1 dL_act_254 (by decide) ?_
                  refine lv_iconst (v := nI 0) F.1 F.2.1 dL_act_255 (by decide) ?_
                  refine q_iast (k := 3) (x := 0) F hK hP hD hS (((wSi cI cA z S) ++ (wCo cI a b S S2)).length + 0) (app_l rfl) (by omega) (by first | omega | decide) dL_act_256 (((wSi cI cA z S) ++ (wCo cI a b S S2)) ++ [(q205, .inl (cI, 5, .inl (row (updN (updN (updN (updN (fun _ => 0) 0 (blw (x >>> (nI 2 &&& 31)) 10)) 1 (blw (x >>> (nI 4 &&& 31)) 21)) 2 (blw (x >>> (nI 6 &&& 31)) 21)) 3 0))))]) (set_app1 rfl) (fun H locs hP hD hS => ?_)
                  refine lv_dup F.1 F.2.1 dL_act_257 rfl ?_
                  refine lv_iconst (v := nI 4) F.1 F.2.1 dL_act_258 (by decide) ?_
                  refine lv_iconst (v := nI 0) F.1 F.2.1 dL_act_259 (by decide) ?_
                  refine q_iast (k := 4) (x := 0) F hK hP hD hS (((wSi cI cA z S) ++ (wCo cI a b S S2)).length + 0) (app_l rfl) (by omega) (by first | omega | decide) dL_act_260 (((wSi cI cA z S) ++ (wCo cI a b S S2)) ++ [(q205, .inl (cI, 5, .inl (row (updN (updN (updN (updN (updN (fun _ => 0) 0 (blw (x >>> (nI 2 &&& 31)) 10)) 1 (blw (x >>> (nI 4 &&& 31)) 21)) 2 (blw (x >>> (nI 6 &&& 31)) 21)) 3 0) 4 0))))]) (set_app1 rfl) (fun H locs hP hD hS => ?_)
                  refine lv_astore (lv' := [(8, .ref q205), (7, .int (nI (blw (x >>> (nI 1 &&& 31)) (S 0 0)))), (6, .int (nI (blw (x >>> (nI 9 &&& 31)) 18))), (5, .int (nI (S 0 2))), (4, .int (nI (S 0 1))), (3, .int (nI (S 0 0))), (0, .ref (a 13)), (1, .ref (z 0)), (2, .int x)]) F.1 F.2.1 dL_act_261 hl (by decide) rfl (fun ls hl => ?_)
                  refine lv_aload_n F.1 F.2.1 dL_act_263 rfl (lv_at hl 7 rfl) ?_
                  refine lv_aload_n F.1 F.2.1 dL_act_264 rfl (lv_at hl 7 rfl) ?_
                  refine k_get (v := .ref (z 3)) F nL_act_X4 hK.1.1 hP 0 (pre_at (pre_at rfl)) rfl 5 (by decide) (List.mem_of_getElem? (i := 3) rfl) rfl dL_act_265 ?_
                  refine lv_aload F.1 F.2.1 dL_act_268 (lv_at hl 0 rfl) ?_
                  refine q_with F (c_X4_with l D cI cA (z 3) (S 0 2) q205 3 (fun k => some (z (12 + k))) (((wSi cI cA z S) ++ (wCo cI a b S S2)) ++ [(q205, .inl (cI, 5, .inl (row (updN (updN (updN (updN (updN (fun _ => 0) 0 (blw (x >>> (nI 2 &&& 31)) 10)) 1 (blw (x >>> (nI 4 &&& 31)) 21)) 2 (blw (x >>> (nI 6 &&& 31)) 21)) 3 0) 4 0))))]) (by omega) (pre_at (pre_at rfl)) (fun H h => rowAt_of h (app_l (k := 0) rfl)) (fun k hk => ⟨z (12 + k), rfl, fun H h => rowAt_of h (pre_at (pre_at (wSi_v hk)))⟩)) gL_act_X4_with ⟨Nat.le_of_ble_eq_true rfl, Nat.le_of_ble_eq_true rfl⟩ hl.1 (Nat.le_of_ble_eq_true rfl) dL_act_270 ⟨show 0 + 1 + 1 ≤ 500 by omega, show 0 + 5 + 9 ≤ 2500 by omega⟩ hK hP hD hS (fun q h => Or.inr (by omega)) (fun q270 H locs hP hD hS => ?_)
                  have hP : va_P D vwCl (((wSi cI cA z S) ++ (wCo cI a b S S2)) ++ [(q205, .inl (cI, 5, .inl (row (updN (updN (updN (updN (updN (fun _ => 0) 0 (blw (x >>> (nI 2 &&& 31)) 10)) 1 (blw (x >>> (nI 4 &&& 31)) 21)) 2 (blw (x >>> (nI 6 &&& 31)) 21)) 3 0) 4 0)))), (q270, .inl (cA, (S 0 2 + 1), ilr (va_up (fun k => some (z (12 + k))) (S 0 2) (some q205))))]) H := P_eq (List.append_assoc _ _ _) hP
                  have hD : va_D (va_A (wAc cI cA z a b S S2) sz) (((wSi cI cA z S) ++ (wCo cI a b S S2)) ++ [(q205, .inl (cI, 5, .inl (row (updN (updN (updN (updN (updN (fun _ => 0) 0 (blw (x >>> (nI 2 &&& 31)) 10)) 1 (blw (x >>> (nI 4 &&& 31)) 21)) 2 (blw (x >>> (nI 6 &&& 31)) 21)) 3 0) 4 0)))), (q270, .inl (cA, (S 0 2 + 1), ilr (va_up (fun k => some (z (12 + k))) (S 0 2) (some q205))))]) := D_eq (List.append_assoc _ _ _) hD
                  refine q_putr (ty := .array (.array .int)) F nL_act_X4 tyX4 tyX4_ok nmX4 hK hP hD hS 0 (pre_at (pre_at rfl)) rfl 5 (by decide) (List.mem_of_getElem? (i := 3) rfl) rfl (by decide +kernel) rfl rfl (Nat.le_of_ble_eq_true rfl) dL_act_273 ((((wSi cI cA z S).set 0 (z 0, .inr (4, [.int (nI (S 0 3)), .int (nI (S 0 4)), .int (nI (S 0 5)), .ref (z 1), .ref (z 2), .ref q270]))) ++ (wCo cI a b S S2)) ++ [(q205, .inl (cI, 5, .inl (row (updN (updN (updN (updN (updN (fun _ => 0) 0 (blw (x >>> (nI 2 &&& 31)) 10)) 1 (blw (x >>> (nI 4 &&& 31)) 21)) 2 (blw (x >>> (nI 6 &&& 31)) 21)) 3 0) 4 0)))), (q270, .inl (cA, (S 0 2 + 1), ilr (va_up (fun k => some (z (12 + k))) (S 0 2) (some q205))))]) (set_pre (pre_at rfl) (set_pre rfl rfl)) (fun H locs hP hD hS => ?_)
                  refine lv_aload_n F.1 F.2.1 dL_act_276 rfl (lv_at hl 6 rfl) ?_
                  refine lv_aload F.1 F.2.1 dL_act_277 (lv_at hl 0 rfl) ?_
                  refine lv_iconst (v := nI 0) F.1 F.2.1 dL_act_279 (by decide) ?_
                  refine q_iald (f := updN (updN (updN (updN (updN (fun _ => 0) 0 (blw (x >>> (nI 2 &&& 31)) 10)) 1 (blw (x >>> (nI 4 &&& 31)) 21)) 2 (blw (x >>> (nI 6 &&& 31)) 21)) 3 0) 4 0) (v := (blw (x >>> (nI 2 &&& 31)) 10)) F hK hP ((((wSi cI cA z S).set 0 (z 0, .inr (4, [.int (nI (S 0 3)), .int (nI (S 0 4)), .int (nI (S 0 5)), .ref (z 1), .ref (z 2), .ref q270]))) ++ (wCo cI a b S S2)).length + 0) (app_l rfl) (by omega) (by first | omega | decide) rfl dL_act_280 ?_
                  refine lv_aload F.1 F.2.1 dL_act_281 (lv_at hl 0 rfl) ?_
                  refine lv_iconst (v := nI 1) F.1 F.2.1 dL_act_283 (by decide) ?_
                  refine q_iald (f := updN (updN (updN (updN (updN (fun _ => 0) 0 (blw (x >>> (nI 2 &&& 31)) 10)) 1 (blw (x >>> (nI 4 &&& 31)) 21)) 2 (blw (x >>> (nI 6 &&& 31)) 21)) 3 0) 4 0) (v := (blw (x >>> (nI 4 &&& 31)) 21)) F hK hP ((((wSi cI cA z S).set 0 (z 0, .inr (4, [.int (nI (S 0 3)), .int (nI (S 0 4)), .int (nI (S 0 5)), .ref (z 1), .ref (z 2), .ref q270]))) ++ (wCo cI a b S S2)).length + 0) (app_l rfl) (by omega) (by first | omega | decide) rfl dL_act_284 ?_
                  refine lv_aload F.1 F.2.1 dL_act_285 (lv_at hl 0 rfl) ?_
                  refine lv_iconst (v := nI 2) F.1 F.2.1 dL_act_287 (by decide) ?_
                  refine q_iald (f := updN (updN (updN (updN (updN (fun _ => 0) 0 (blw (x >>> (nI 2 &&& 31)) 10)) 1 (blw (x >>> (nI 4 &&& 31)) 21)) 2 (blw (x >>> (nI 6 &&& 31)) 21)) 3 0) 4 0) (v := (blw (x >>> (nI 6 &&& 31)) 21)) F hK hP ((((wSi cI cA z S).set 0 (z 0, .inr (4, [.int (nI (S 0 3)), .int (nI (S 0 4)), .int (nI (S 0 5)), .ref (z 1), .ref (z 2), .ref q270]))) ++ (wCo cI a b S S2)).length + 0) (app_l rfl) (by omega) (by first | omega | decide) rfl dL_act_288 ?_
                  have ok_12 : rArrive S (nI (blw (x >>> (nI 2 &&& 31)) 10)) (nI (blw (x >>> (nI 4 &&& 31)) 21)) (nI (blw (x >>> (nI 6 &&& 31)) 21)) = (0, nI (S 0 2), (viA S (blw (x >>> (nI 2 &&& 31)) 10) (blw (x >>> (nI 4 &&& 31)) 21) (blw (x >>> (nI 6 &&& 31)) 21))) := ok_arrive (by omega) (by omega) (by omega) (by omega) (by omega)
                  refine x_tI (n := 3) (rest := []) (v := nI (S 0 2)) (w1 := (wCo cI a b (viA S (blw (x >>> (nI 2 &&& 31)) 10) (blw (x >>> (nI 4 &&& 31)) 21) (blw (x >>> (nI 6 &&& 31)) 21)) S2)) F (c_X3_arrive l D cI hst a b S S2 (nI (blw (x >>> (nI 2 &&& 31)) 10)) (nI (blw (x >>> (nI 4 &&& 31)) 21)) (nI (blw (x >>> (nI 6 &&& 31)) 21)) hI) (by rw [ok_12]; rfl) (by rw [ok_12]) (by rw [ok_12]) gL_act_X3_arrive rfl (by decide +kernel) ⟨Nat.le_of_ble_eq_true rfl, Nat.le_of_ble_eq_true rfl⟩ rfl hl.1 rfl (Nat.le_of_ble_eq_true rfl) dL_act_289 ⟨show 0 + 1 + 1 + 2 ≤ 500 by omega, show 0 + 5 + 9 + 12 ≤ 2500 by omega⟩ hK hX hP hD hS (List.append_assoc _ _ _) rfl rfl ((((wSi cI cA z S).set 0 (z 0, .inr (4, [.int (nI (S 0 3)), .int (nI (S 0 4)), .int (nI (S 0 5)), .ref (z 1), .ref (z 2), .ref q270]))) ++ (wCo cI a b (viA S (blw (x >>> (nI 2 &&& 31)) 10) (blw (x >>> (nI 4 &&& 31)) 21) (blw (x >>> (nI 6 &&& 31)) 21)) S2)) ++ [(q205, .inl (cI, 5, .inl (row (updN (updN (updN (updN (updN (fun _ => 0) 0 (blw (x >>> (nI 2 &&& 31)) 10)) 1 (blw (x >>> (nI 4 &&& 31)) 21)) 2 (blw (x >>> (nI 6 &&& 31)) 21)) 3 0) 4 0)))), (q270, .inl (cA, (S 0 2 + 1), ilr (va_up (fun k => some (z (12 + k))) (S 0 2) (some q205))))]) (List.append_assoc _ _ _).symm (q0 := 0) (ci := 3) rfl rfl (fun H locs hP hD hS => ?_)
                  refine lv_iload F.1 F.2.1 dL_act_292 (lv_at hl 3 rfl) ?_
                  refine lv_icmp_ne (tgt := 301) F.1 F.2.1 dL_act_294 (by decide) (fun h294 => ?_) (fun h294 => ?_)
                  · skip
                    exact absurd rfl h294
                  · skip
                    refine lv_iconst (v := nI 1) F.1 F.2.1 dL_act_297 (by decide) ?_
                    refine lv_goto (tgt := 302) F.1 F.2.1 dL_act_298 (by decide) ?_
                    exact a_ret F hr hlk (re_vP (r := (blw (x >>> (nI 2 &&& 31)) 10)) (v := (blw (x >>> (nI 4 &&& 31)) 21)) (c := (blw (x >>> (nI 6 &&& 31)) 21)) (by omega) hi1 rfl rfl rfl (hL.2.1.2.1 _ (Nat.le_refl _)).1.symm (hL.2.1.2.1 _ (Nat.le_refl _)).2.symm hP) (re_vD (r := (blw (x >>> (nI 2 &&& 31)) 10)) (v := (blw (x >>> (nI 4 &&& 31)) 21)) (c := (blw (x >>> (nI 6 &&& 31)) 21)) (by omega) hi1 hD) hS hz (by unfold zV; rw [updN_ne (by omega), updN_ne (by omega)]) (LI_vi hL (by omega) (by omega) (by omega) (by omega) (by omega)) (show S 0 3 ≤ S 0 3 + 60 by omega) (show 0 + 1 + 1 + 2 ≤ 500 by omega) (show 0 + 5 + 9 + 12 ≤ 2500 by omega) dL_act_302
              · skip
                refine lv_iconst (v := nI 1) F.1 F.2.1 dL_act_202 (by decide) ?_
                exact a_ret F hr hlk hP hD hS hz rfl hL (show S 0 3 ≤ S 0 3 + 60 by omega) (show 0 ≤ 500 by omega) (show 0 ≤ 2500 by omega) dL_act_203
        · skip
          refine lv_iload F.1 F.2.1 dL_act_107 (lv_at hl 3 rfl) ?_
          refine lv_bipush (v := nI 8) F.1 F.2.1 dL_act_109 (by decide) ?_
          refine k_icmp_ne (tgt := 116) F (by omega) (by omega) dL_act_111 (by decide) (fun h111 => ?_) (fun h111 => ?_)
          · skip
            refine lv_aload_n F.1 F.2.1 dL_act_116 rfl (lv_at hl 6 rfl) ?_
            refine lv_aload_n F.1 F.2.1 dL_act_117 rfl (lv_at hl 6 rfl) ?_
            refine k_get (v := .ref (z 2)) F nL_act_X4 hK.1.1 hP 0 (pre_at rfl) rfl 4 (by decide) (List.mem_of_getElem? (i := 2) rfl) rfl dL_act_118 ?_
            refine lv_iconst (v := nI 4) F.1 F.2.1 dL_act_121 (by decide) ?_
            refine q_newa F (List.mem_of_getElem? (i := 4) rfl) hK hP hD hS (fun q h => Or.inr (by omega)) (k := 4) (by omega) ⟨show 0 + 1 ≤ 500 by omega, show 0 + 4 ≤ 2500 by omega⟩ dL_act_122 (fun q122 H hP hD hS => ?_)
            refine lv_dup F.1 F.2.1 dL_act_124 rfl ?_
            refine lv_iconst (v := nI 0) F.1 F.2.1 dL_act_125 (by decide) ?_
            refine lv_iload F.1 F.2.1 dL_act_126 (lv_at hl 0 rfl) ?_
            refine q_iast (k := 0) (x := (blw (x >>> (nI 1 &&& 31)) (S 0 0))) F hK hP hD hS (((wSi cI cA z S) ++ (wCo cI a b S S2)).length + 0) (app_l rfl) (by omega) (by first | omega | decide) dL_act_128 (((wSi cI cA z S) ++ (wCo cI a b S S2)) ++ [(q122, .inl (cI, 4, .inl (row (updN (fun _ => 0) 0 (blw (x >>> (nI 1 &&& 31)) (S 0 0))))))]) (set_app1 rfl) (fun H locs hP hD hS => ?_)
            refine lv_dup F.1 F.2.1 dL_act_129 rfl ?_
            refine lv_iconst (v := nI 1) F.1 F.2.1 dL_act_130 (by decide) ?_
            refine lv_iconst (v := nI 1) F.1 F.2.1 dL_act_131 (by decide) ?_
            refine lv_iload_n F.1 F.2.1 dL_act_132 rfl (lv_at hl 7 rfl) ?_
            refine lv_iconst (v := nI 4) F.1 F.2.1 dL_act_133 (by decide) ?_
            refine lv_ishr F.1 F.2.1 dL_act_134 ?_
            refine lv_bipush (v := nI 9) F.1 F.2.1 dL_act_135 (by decide) ?_
            refine x_pS (n := 2) (rest := [.int (nI 1), .int (nI 1), .ref q122, .ref q122, .ref (z 2), .ref (z 0)]) (v := nI (blw (x >>> (nI 4 &&& 31)) 9)) F (c_L_below l D cI (x >>> (nI 4 &&& 31)) 9 (by omega) (by omega)) gL_act_L_below rfl (by decide +kernel) ⟨Nat.le_of_ble_eq_true rfl, Nat.le_of_ble_eq_true rfl⟩ rfl hl.1 rfl (Nat.le_of_ble_eq_true rfl) dL_act_137 ⟨show 0 + 1 ≤ 500 by omega, show 0 + 4 ≤ 2500 by omega⟩ hK hP hS (fun H locs hP hS => ?_)
            have := blw_lt (x >>> (nI 4 &&& 31)) (n := 9) (by omega)
            refine k_iadd F dL_act_140 ?_
            refine q_iast (k := 1) (x := (1 + (blw (x >>> (nI 4 &&& 31)) 9))) F hK hP hD hS (((wSi cI cA z S) ++ (wCo cI a b S S2)).length + 0) (app_l rfl) (by omega) (by first | omega | decide) dL_act_141 (((wSi cI cA z S) ++ (wCo cI a b S S2)) ++ [(q122, .inl (cI, 4, .inl (row (updN (updN (fun _ => 0) 0 (blw (x >>> (nI 1 &&& 31)) (S 0 0))) 1 (1 + (blw (x >>> (nI 4 &&& 31)) 9))))))]) (set_app1 rfl) (fun H locs hP hD hS => ?_)
            refine lv_dup F.1 F.2.1 dL_act_142 rfl ?_
            refine lv_iconst (v := nI 2) F.1 F.2.1 dL_act_143 (by decide) ?_
            refine lv_iconst (v := nI 0) F.1 F.2.1 dL_act_144 (by decide) ?_
            refine q_iast (k := 2) (x := 0) F hK hP hD hS (((wSi cI cA z S) ++ (wCo cI a b S S2)).length + 0) (app_l rfl) (by omega) (by first | omega | decide) dL_act_145 (((wSi cI cA z S) ++ (wCo cI a b S S2)) ++ [(q122, .inl (cI, 4, .inl (row (updN (updN (updN (fun _ => 0) 0 (blw (x >>> (nI 1 &&& 31)) (S 0 0))) 1 (1 + (blw (x >>> (nI 4 &&& 31)) 9))) 2 0))))]) (set_app1 rfl) (fun H locs hP hD hS => ?_)
            refine lv_dup F.1 F.2.1 dL_act_146 rfl ?_
            refine lv_iconst (v := nI 3) F.1 F.2.1 dL_act_147 (by decide) ?_
            refine lv_iconst (v := nI 0) F.1 F.2.1 dL_act_148 (by decide) ?_
            refine q_iast (k := 3) (x := 0) F hK hP hD hS (((wSi cI cA z S) ++ (wCo cI a b S S2)).length + 0) (app_l rfl) (by omega) (by first | omega | decide) dL_act_149 (((wSi cI cA z S) ++ (wCo cI a b S S2)) ++ [(q122, .inl (cI, 4, .inl (row (updN (updN (updN (updN (fun _ => 0) 0 (blw (x >>> (nI 1 &&& 31)) (S 0 0))) 1 (1 + (blw (x >>> (nI 4 &&& 31)) 9))) 2 0) 3 0))))]) (set_app1 rfl) (fun H locs hP hD hS => ?_)
            refine q_with F (c_X4_with l D cI cA (z 2) (S 0 1) q122 2 (fun k => some (z (4 + k))) (((wSi cI cA z S) ++ (wCo cI a b S S2)) ++ [(q122, .inl (cI, 4, .inl (row (updN (updN (updN (updN (fun _ => 0) 0 (blw (x >>> (nI 1 &&& 31)) (S 0 0))) 1 (1 + (blw (x >>> (nI 4 &&& 31)) 9))) 2 0) 3 0))))]) (by omega) (pre_at (pre_at rfl)) (fun H h => rowAt_of h (app_l (k := 0) rfl)) (fun k hk => ⟨z (4 + k), rfl, fun H h => rowAt_of h (pre_at (pre_at (wSi_g hk)))⟩)) gL_act_X4_with ⟨Nat.le_of_ble_eq_true rfl, Nat.le_of_ble_eq_true rfl⟩ hl.1 (Nat.le_of_ble_eq_true rfl) dL_act_150 ⟨show 0 + 1 + 1 ≤ 500 by omega, show 0 + 4 + 9 ≤ 2500 by omega⟩ hK hP hD hS (fun q h => Or.inr (by omega)) (fun q150 H locs hP hD hS => ?_)
            have hP : va_P D vwCl (((wSi cI cA z S) ++ (wCo cI a b S S2)) ++ [(q122, .inl (cI, 4, .inl (row (updN (updN (updN (updN (fun _ => 0) 0 (blw (x >>> (nI 1 &&& 31)) (S 0 0))) 1 (1 + (blw (x >>> (nI 4 &&& 31)) 9))) 2 0) 3 0)))), (q150, .inl (cA, (S 0 1 + 1), ilr (va_up (fun k => some (z (4 + k))) (S 0 1) (some q122))))]) H := P_eq (List.append_assoc _ _ _) hP
            have hD : va_D (va_A (wAc cI cA z a b S S2) sz) (((wSi cI cA z S) ++ (wCo cI a b S S2)) ++ [(q122, .inl (cI, 4, .inl (row (updN (updN (updN (updN (fun _ => 0) 0 (blw (x >>> (nI 1 &&& 31)) (S 0 0))) 1 (1 + (blw (x >>> (nI 4 &&& 31)) 9))) 2 0) 3 0)))), (q150, .inl (cA, (S 0 1 + 1), ilr (va_up (fun k => some (z (4 + k))) (S 0 1) (some q122))))]) := D_eq (List.append_assoc _ _ _) hD
            refine q_putr (ty := .array (.array .int)) F nL_act_X4 tyX4 tyX4_ok nmX4 hK hP hD hS 0 (pre_at (pre_at rfl)) rfl 4 (by decide) (List.mem_of_getElem? (i := 2) rfl) rfl (by decide +kernel) rfl rfl (Nat.le_of_ble_eq_true rfl) dL_act_153 ((((wSi cI cA z S).set 0 (z 0, .inr (4, [.int (nI (S 0 3)), .int (nI (S 0 4)), .int (nI (S 0 5)), .ref (z 1), .ref q150, .ref (z 3)]))) ++ (wCo cI a b S S2)) ++ [(q122, .inl (cI, 4, .inl (row (updN (updN (updN (updN (fun _ => 0) 0 (blw (x >>> (nI 1 &&& 31)) (S 0 0))) 1 (1 + (blw (x >>> (nI 4 &&& 31)) 9))) 2 0) 3 0)))), (q150, .inl (cA, (S 0 1 + 1), ilr (va_up (fun k => some (z (4 + k))) (S 0 1) (some q122))))]) (set_pre (pre_at rfl) (set_pre rfl rfl)) (fun H locs hP hD hS => ?_)
            refine lv_aload_n F.1 F.2.1 dL_act_156 rfl (lv_at hl 5 rfl) ?_
            refine lv_iload F.1 F.2.1 dL_act_157 (lv_at hl 0 rfl) ?_
            refine lv_iconst (v := nI 1) F.1 F.2.1 dL_act_159 (by decide) ?_
            refine lv_iload_n F.1 F.2.1 dL_act_160 rfl (lv_at hl 7 rfl) ?_
            refine lv_iconst (v := nI 4) F.1 F.2.1 dL_act_161 (by decide) ?_
            refine lv_ishr F.1 F.2.1 dL_act_162 ?_
            refine lv_bipush (v := nI 9) F.1 F.2.1 dL_act_163 (by decide) ?_
            refine x_pS (n := 2) (rest := [.int (nI 1), .int (nI (blw (x >>> (nI 1 &&& 31)) (S 0 0))), .ref (a 13)]) (v := nI (blw (x >>> (nI 4 &&& 31)) 9)) F (c_L_below l D cI (x >>> (nI 4 &&& 31)) 9 (by omega) (by omega)) gL_act_L_below rfl (by decide +kernel) ⟨Nat.le_of_ble_eq_true rfl, Nat.le_of_ble_eq_true rfl⟩ rfl hl.1 rfl (Nat.le_of_ble_eq_true rfl) dL_act_165 ⟨show 0 + 1 + 1 ≤ 500 by omega, show 0 + 4 + 9 ≤ 2500 by omega⟩ hK hP hS (fun H locs hP hS => ?_)
            have := blw_lt (x >>> (nI 4 &&& 31)) (n := 9) (by omega)
            refine k_iadd F dL_act_168 ?_
            have ok_13 : rAddGoose S (nI (blw (x >>> (nI 1 &&& 31)) (S 0 0))) (nI (1 + (blw (x >>> (nI 4 &&& 31)) 9))) = (0, nI (S 0 1), (goA S (blw (x >>> (nI 1 &&& 31)) (S 0 0)) (1 + (blw (x >>> (nI 4 &&& 31)) 9)))) := ok_addGoose hI (by omega) (by omega) (by omega) (by omega)
            refine x_tI (n := 2) (rest := []) (v := nI (S 0 1)) (w1 := (wCo cI a b (goA S (blw (x >>> (nI 1 &&& 31)) (S 0 0)) (1 + (blw (x >>> (nI 4 &&& 31)) 9))) S2)) F (c_X3_addGoose l D cI hst a b S S2 (nI (blw (x >>> (nI 1 &&& 31)) (S 0 0))) (nI (1 + (blw (x >>> (nI 4 &&& 31)) 9))) hI) (by rw [ok_13]; rfl) (by rw [ok_13]) (by rw [ok_13]) gL_act_X3_addGoose rfl (by decide +kernel) ⟨Nat.le_of_ble_eq_true rfl, Nat.le_of_ble_eq_true rfl⟩ rfl hl.1 rfl (Nat.le_of_ble_eq_true rfl) dL_act_169 ⟨show 0 + 1 + 1 + 3 ≤ 500 by omega, show 0 + 4 + 9 + 18 ≤ 2500 by omega⟩ hK hX hP hD hS (List.append_assoc _ _ _) rfl rfl ((((wSi cI cA z S).set 0 (z 0, .inr (4, [.int (nI (S 0 3)), .int (nI (S 0 4)), .int (nI (S 0 5)), .ref (z 1), .ref q150, .ref (z 3)]))) ++ (wCo cI a b (goA S (blw (x >>> (nI 1 &&& 31)) (S 0 0)) (1 + (blw (x >>> (nI 4 &&& 31)) 9))) S2)) ++ [(q122, .inl (cI, 4, .inl (row (updN (updN (updN (updN (fun _ => 0) 0 (blw (x >>> (nI 1 &&& 31)) (S 0 0))) 1 (1 + (blw (x >>> (nI 4 &&& 31)) 9))) 2 0) 3 0)))), (q150, .inl (cA, (S 0 1 + 1), ilr (va_up (fun k => some (z (4 + k))) (S 0 1) (some q122))))]) (List.append_assoc _ _ _).symm (q0 := 0) (ci := 3) rfl rfl (fun H locs hP hD hS => ?_)
            refine lv_iload F.1 F.2.1 dL_act_172 (lv_at hl 3 rfl) ?_
            refine lv_icmp_ne (tgt := 181) F.1 F.2.1 dL_act_174 (by decide) (fun h174 => ?_) (fun h174 => ?_)
            · skip
              exact absurd rfl h174
            · skip
              refine lv_iconst (v := nI 1) F.1 F.2.1 dL_act_177 (by decide) ?_
              refine lv_goto (tgt := 182) F.1 F.2.1 dL_act_178 (by decide) ?_
              exact a_ret F hr hlk (re_gP (g := (blw (x >>> (nI 1 &&& 31)) (S 0 0))) (t := (1 + (blw (x >>> (nI 4 &&& 31)) 9))) (by omega) rfl rfl (hL.2.1.1 _ (Nat.le_refl _)).1.symm (hL.2.1.1 _ (Nat.le_refl _)).2.symm hP) (re_gD (g := (blw (x >>> (nI 1 &&& 31)) (S 0 0))) (t := (1 + (blw (x >>> (nI 4 &&& 31)) 9))) (by omega) hD) hS hz (by unfold zG; rw [updN_ne (by omega), updN_ne (by omega)]) (LI_go hL (by omega) (by omega) (by omega) (by omega)) (show S 0 3 ≤ S 0 3 + 60 by omega) (show 0 + 1 + 1 + 3 ≤ 500 by omega) (show 0 + 4 + 9 + 18 ≤ 2500 by omega) dL_act_182
          · skip
            refine lv_iconst (v := nI 1) F.1 F.2.1 dL_act_114 (by decide) ?_
            exact a_ret F hr hlk hP hD hS hz rfl hL (show S 0 3 ≤ S 0 3 + 60 by omega) (show 0 ≤ 500 by omega) (show 0 ≤ 2500 by omega) dL_act_115
    · skip
      refine lv_iload_n F.1 F.2.1 dL_act_40 rfl (lv_at hl 3 rfl) ?_
      refine lv_bipush (v := nI 6) F.1 F.2.1 dL_act_41 (by decide) ?_
      refine k_icmp_eq (tgt := 51) F (by omega) (by omega) dL_act_43 (by decide) (fun h43 => ?_) (fun h43 => ?_)
      · skip
        refine lv_iconst (v := nI 1) F.1 F.2.1 dL_act_51 (by decide) ?_
        exact a_ret F hr hlk hP hD hS hz rfl hL (show S 0 3 ≤ S 0 3 + 60 by omega) (show 0 ≤ 500 by omega) (show 0 ≤ 2500 by omega) dL_act_52
      · skip
        refine lv_iload F.1 F.2.1 dL_act_46 (lv_at hl 1 rfl) ?_
        refine k_if_le (tgt := 53) F (by omega) dL_act_48 (by decide) (fun h48 => ?_) (fun h48 => ?_)
        · skip
          refine lv_aload_n F.1 F.2.1 dL_act_53 rfl (lv_at hl 5 rfl) ?_
          refine lv_iload_n F.1 F.2.1 dL_act_54 rfl (lv_at hl 6 rfl) ?_
          refine lv_iconst (v := nI 2) F.1 F.2.1 dL_act_55 (by decide) ?_
          refine lv_ishr F.1 F.2.1 dL_act_56 ?_
          refine lv_bipush (v := nI 10) F.1 F.2.1 dL_act_57 (by decide) ?_
          refine x_pS (n := 2) (rest := [.ref (z 0)]) (v := nI (blw (x >>> (nI 2 &&& 31)) 10)) F (c_L_below l D cI (x >>> (nI 2 &&& 31)) 10 (by omega) (by omega)) gL_act_L_below rfl (by decide +kernel) ⟨Nat.le_of_ble_eq_true rfl, Nat.le_of_ble_eq_true rfl⟩ rfl hl.1 rfl (Nat.le_of_ble_eq_true rfl) dL_act_59 ⟨show 0 ≤ 500 by omega, show 0 ≤ 2500 by omega⟩ hK hP hS (fun H locs hP hS => ?_)
          have := blw_lt (x >>> (nI 2 &&& 31)) (n := 10) (by omega)
          refine q_addGate F (c_X4_addGate l D cI cA z S (blw (x >>> (nI 2 &&& 31)) 10) (by omega)) gL_act_X4_addGate ⟨Nat.le_of_ble_eq_true rfl, Nat.le_of_ble_eq_true rfl⟩ hl.1 (Nat.le_of_ble_eq_true rfl) dL_act_62 ⟨show 0 + 1 ≤ 500 by omega, show 0 + 7 ≤ 2500 by omega⟩ hK hP hD hS (fun q h => Or.inr (by omega)) (fun q62 H locs hP hD hS => ?_)
          refine lv_aload_n F.1 F.2.1 dL_act_65 rfl (lv_at hl 4 rfl) ?_
          refine lv_iload_n F.1 F.2.1 dL_act_66 rfl (lv_at hl 6 rfl) ?_
          refine lv_iconst (v := nI 2) F.1 F.2.1 dL_act_67 (by decide) ?_
          refine lv_ishr F.1 F.2.1 dL_act_68 ?_
          refine lv_bipush (v := nI 10) F.1 F.2.1 dL_act_69 (by decide) ?_
          refine x_pS (n := 2) (rest := [.ref (a 13)]) (v := nI (blw (x >>> (nI 2 &&& 31)) 10)) F (c_L_below l D cI (x >>> (nI 2 &&& 31)) 10 (by omega) (by omega)) gL_act_L_below rfl (by decide +kernel) ⟨Nat.le_of_ble_eq_true rfl, Nat.le_of_ble_eq_true rfl⟩ rfl hl.1 rfl (Nat.le_of_ble_eq_true rfl) dL_act_71 ⟨show 0 + 1 ≤ 500 by omega, show 0 + 7 ≤ 2500 by omega⟩ hK hP hS (fun H locs hP hS => ?_)
          have := blw_lt (x >>> (nI 2 &&& 31)) (n := 10) (by omega)
          have ok_14 : rAddGate S (nI (blw (x >>> (nI 2 &&& 31)) 10)) = (0, nI (S 0 0), (gaS S (blw (x >>> (nI 2 &&& 31)) 10))) := ok_addGate (by omega) (by omega) (by omega)
          refine x_tI (n := 1) (rest := []) (v := nI (S 0 0)) (w1 := (wCo cI a b (gaS S (blw (x >>> (nI 2 &&& 31)) 10)) S2)) F (c_X3_addGate l D cI hst a b S S2 (nI (blw (x >>> (nI 2 &&& 31)) 10)) hI) (by rw [ok_14]; rfl) (by rw [ok_14]) (by rw [ok_14]) gL_act_X3_addGate rfl (by decide +kernel) ⟨Nat.le_of_ble_eq_true rfl, Nat.le_of_ble_eq_true rfl⟩ rfl hl.1 rfl (Nat.le_of_ble_eq_true rfl) dL_act_74 ⟨show 0 + 1 + 2 ≤ 500 by omega, show 0 + 7 + 12 ≤ 2500 by omega⟩ hK hX hP hD hS ap_t rfl rfl ((wSi cI cA (updN z 1 q62) (gaS S (blw (x >>> (nI 2 &&& 31)) 10))) ++ (wCo cI a b (gaS S (blw (x >>> (nI 2 &&& 31)) 10)) S2)) (congrArg _ (List.append_nil _)) (q0 := 0) (ci := 3) rfl rfl (fun H locs hP hD hS => ?_)
          refine lv_iload_n F.1 F.2.1 dL_act_77 rfl (lv_at hl 3 rfl) ?_
          refine lv_icmp_ne (tgt := 85) F.1 F.2.1 dL_act_78 (by decide) (fun h78 => ?_) (fun h78 => ?_)
          · skip
            exact absurd rfl h78
          · skip
            refine lv_iconst (v := nI 1) F.1 F.2.1 dL_act_81 (by decide) ?_
            refine lv_goto (tgt := 86) F.1 F.2.1 dL_act_82 (by decide) ?_
            exact a_ret F hr hlk hP hD hS hz rfl (LI_ga hL (by omega) (by omega) (by omega)) (show S 0 3 ≤ S 0 3 + 60 by omega) (show 0 + 1 + 2 ≤ 500 by omega) (show 0 + 7 + 12 ≤ 2500 by omega) dL_act_86
        · skip
          refine lv_iconst (v := nI 1) F.1 F.2.1 dL_act_51 (by decide) ?_
          exact a_ret F hr hlk hP hD hS hz rfl hL (show S 0 3 ≤ S 0 3 + 60 by omega) (show 0 ≤ 500 by omega) (show 0 ≤ 2500 by omega) dL_act_52
