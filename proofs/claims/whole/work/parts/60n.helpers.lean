theorem rAfter_out {S : Nat → Nat → Nat} {x : Int32} : (rAfter S x).1 = 1 → ¬ okR 1 60 x := by
  intro h q
  rw [rAfter, if_pos q] at h
  exact absurd h (by simp)
theorem bl0 {v : Int32} (h : v = 0) : v.toInt64 = 0 := by rw [h]; first | rfl | decide
theorem bl1 {P : Prop} [Decidable P] {n : Nat} {x : Int32} (h : ¬ (r1 n x (bI P)).2 = 0) : (r1 n x (bI P)).2.toInt64 = 1 := by
  by_cases q : okI n x
  · have e : r1 n x (bI P) = (0, bI P) := if_pos q
    rw [e] at h ⊢
    by_cases r : P
    · show (if P then (1 : Int32) else 0).toInt64 = 1
      rw [if_pos r]
      first | rfl | decide
    · exact absurd (show (if P then (1 : Int32) else 0) = 0 from if_neg r) h
  · have e : r1 n x (bI P) = (1, nI 0) := if_neg q
    rw [e] at h
    exact absurd (show nI 0 = (0 : Int32) by decide) h
set_option maxRecDepth 100000 in
set_option maxHeartbeats 4000000 in
theorem c_L_addGate (l : Launch) (D : va_G) (cI cL : ClassId) (hst : l.stackTraces = false) (a b : Nat → Nat) (o : Nat) (f : Nat → Int64) (S S2 : Nat → Nat → Nat) (x1 : Int32) (hI : Inv S) : LH l yL_addGate wsL_addGate 8 2 136 D [(cI, .int), (cL, .long)] [.ref (a 13), .int x1, .ref o] (wOut cL o f ++ (wCo cI a b S S2)) (wOut cL o (ouF f ((rAddGate S x1).1) ((rAddGate S x1).2.1)) ++ (wCo cI a b ((rAddGate S x1).2.2) S2)) (nI ((rAddGate S x1).1)) := by
  refine k_bodyL (cc := cL_addGate) (maxL := 4) (ret := (some .int)) (hh := [(0, 9, 12, 13), (0, 9, 15, 15)]) (by decide) rfl (Nat.le_of_ble_eq_true rfl) ?_
  intro p e s m args below meth c H ls F hr hlk hl hP hK hD hS hX hN het
  have F : CallFix p m c cL_addGate 4 s args wsL_addGate RL := F
  have hl : lv_has ls 4 [(0, .ref (a 13)), (1, .int x1), (2, .ref o)] := hl
  have hK1 : KK D [(cI, .int)] s := ⟨hK.1.sub (tys' := [(cI, .int)]) [0] rfl, hK.2⟩
  refine lv_aload_n F.1 F.2.1 dL_addGate_0 rfl (lv_at hl 2 rfl) ?_
  refine lv_iconst (v := nI 0) F.1 F.2.1 dL_addGate_1 (by decide) ?_
  refine lv_aload_n F.1 F.2.1 dL_addGate_2 rfl (lv_at hl 0 rfl) ?_
  refine lv_iload_n F.1 F.2.1 dL_addGate_3 rfl (lv_at hl 1 rfl) ?_
  refine t_callX (n := 1) (rest := [.int (nI 0), .ref o]) (wr := wOut cL o f) F (c_X3_addGate l D cI hst a b S S2 x1 hI) gL_addGate_X3_addGate rfl (by decide +kernel) ⟨Nat.le_of_ble_eq_true rfl, Nat.le_of_ble_eq_true rfl⟩ rfl hl.1 rfl (Nat.le_of_ble_eq_true rfl) dL_addGate_4 ⟨show 0 + 2 ≤ 2 by omega, show 0 + 6 * 2 ≤ 6 * 2 by omega⟩ hK1 hX hP hD hS wCo_ad (q0 := 0) (ci := 3) rfl rfl (fun E9 ce q9 H locs hE hP hS hce hcv hcl => ?_) (fun hE H locs hP hD hS => ?_)
  · rcases exq_s2 hE with ⟨hc9, rfl⟩ | ⟨hc9, rfl⟩
    · refine vx_catch (own := RL) (name := "java/lang/IllegalArgumentException") F.2.2.2.1 [] ⟨0, 9, 12, 13⟩ [⟨0, 9, 15, 15⟩] (by rw [het]; rfl) (fun z hz => absurd hz List.not_mem_nil) (by decide) (by decide) (F.2.2.2.2 _ (List.mem_of_getElem? (i := 1) rfl)) (va_Nw.use rfl hX.2.2.2.2.2.2.1) hce hcv hcl ?_
      refine lv_astore_n (lv' := [(3, .ref q9), (0, .ref (a 13)), (1, .int x1), (2, .ref o)]) F.1 F.2.1 dL_addGate_12 rfl hl (by decide) rfl (fun ls hl => ?_)
      refine lv_iconst (v := nI 1) F.1 F.2.1 dL_addGate_13 (by decide) ?_
      exact k_retLH F hr hlk hP (by rw [show ouF f ((rAddGate S x1).1) ((rAddGate S x1).2.1) = f from if_neg (by rw [hc9]; decide), rAddGate_no hc9]) hS (by rw [hc9]) (show 0 + 2 ≤ 2 by omega) (show 0 + 6 * 2 ≤ 6 * 2 by omega) dL_addGate_14
    · refine vx_catch (own := RL) (name := "java/lang/IllegalStateException") F.2.2.2.1 [⟨0, 9, 12, 13⟩] ⟨0, 9, 15, 15⟩ [] (by rw [het]; rfl) (fun z hz => by obtain rfl := List.mem_singleton.mp hz; exact Or.inr ⟨by decide, "java/lang/IllegalArgumentException", F.2.2.2.2 _ (List.mem_of_getElem? (i := 1) rfl), hN.2.2⟩) (by decide) (by decide) (F.2.2.2.2 _ (List.mem_of_getElem? (i := 2) rfl)) (va_Nw.use rfl hX.2.2.2.2.2.2.2.1) hce hcv hcl ?_
      refine lv_astore_n (lv' := [(3, .ref q9), (0, .ref (a 13)), (1, .int x1), (2, .ref o)]) F.1 F.2.1 dL_addGate_15 rfl hl (by decide) rfl (fun ls hl => ?_)
      refine lv_iconst (v := nI 2) F.1 F.2.1 dL_addGate_16 (by decide) ?_
      exact k_retLH F hr hlk hP (by rw [show ouF f ((rAddGate S x1).1) ((rAddGate S x1).2.1) = f from if_neg (by rw [hc9]; decide), rAddGate_no hc9]) hS (by rw [hc9]) (show 0 + 2 ≤ 2 by omega) (show 0 + 6 * 2 ≤ 6 * 2 by omega) dL_addGate_17
  · have h0 := exq_none hE (rAddGate_le _ _)
    refine lv_i2l (v := ((rAddGate S x1).2.1).toInt64) F.1 F.2.1 dL_addGate_7 rfl ?_
    refine k_last F hK.1 rfl hP hD hS dL_addGate_8 (fun H locs hP hD hS => ?_)
    refine lv_goto (tgt := 18) F.1 F.2.1 dL_addGate_9 (by decide) ?_
    refine lv_iconst (v := nI 0) F.1 F.2.1 dL_addGate_18 (by decide) ?_
    exact k_retLH F hr hlk hP (by rw [show ouF f ((rAddGate S x1).1) ((rAddGate S x1).2.1) = _ from if_pos h0]) hS (by rw [h0]) (show 0 + 2 ≤ 2 by omega) (show 0 + 6 * 2 ≤ 6 * 2 by omega) dL_addGate_19
set_option maxRecDepth 100000 in
set_option maxHeartbeats 4000000 in
theorem c_L_addGoose (l : Launch) (D : va_G) (cI cL : ClassId) (hst : l.stackTraces = false) (a b : Nat → Nat) (o : Nat) (f : Nat → Int64) (S S2 : Nat → Nat → Nat) (x1 x2 : Int32) (hI : Inv S) : LH l yL_addGoose wsL_addGoose 8 3 137 D [(cI, .int), (cL, .long)] [.ref (a 13), .int x1, .int x2, .ref o] (wOut cL o f ++ (wCo cI a b S S2)) (wOut cL o (ouF f ((rAddGoose S x1 x2).1) ((rAddGoose S x1 x2).2.1)) ++ (wCo cI a b ((rAddGoose S x1 x2).2.2) S2)) (nI ((rAddGoose S x1 x2).1)) := by
  refine k_bodyL (cc := cL_addGoose) (maxL := 5) (ret := (some .int)) (hh := [(0, 10, 13, 21), (0, 10, 17, 13), (0, 10, 21, 15)]) (by decide) rfl (Nat.le_of_ble_eq_true rfl) ?_
  intro p e s m args below meth c H ls F hr hlk hl hP hK hD hS hX hN het
  have F : CallFix p m c cL_addGoose 5 s args wsL_addGoose RL := F
  have hl : lv_has ls 5 [(0, .ref (a 13)), (1, .int x1), (2, .int x2), (3, .ref o)] := hl
  have hK1 : KK D [(cI, .int)] s := ⟨hK.1.sub (tys' := [(cI, .int)]) [0] rfl, hK.2⟩
  refine lv_aload_n F.1 F.2.1 dL_addGoose_0 rfl (lv_at hl 3 rfl) ?_
  refine lv_iconst (v := nI 0) F.1 F.2.1 dL_addGoose_1 (by decide) ?_
  refine lv_aload_n F.1 F.2.1 dL_addGoose_2 rfl (lv_at hl 0 rfl) ?_
  refine lv_iload_n F.1 F.2.1 dL_addGoose_3 rfl (lv_at hl 1 rfl) ?_
  refine lv_iload_n F.1 F.2.1 dL_addGoose_4 rfl (lv_at hl 2 rfl) ?_
  refine t_callX (n := 2) (rest := [.int (nI 0), .ref o]) (wr := wOut cL o f) F (c_X3_addGoose l D cI hst a b S S2 x1 x2 hI) gL_addGoose_X3_addGoose rfl (by decide +kernel) ⟨Nat.le_of_ble_eq_true rfl, Nat.le_of_ble_eq_true rfl⟩ rfl hl.1 rfl (Nat.le_of_ble_eq_true rfl) dL_addGoose_5 ⟨show 0 + 3 ≤ 3 by omega, show 0 + 6 * 3 ≤ 6 * 3 by omega⟩ hK1 hX hP hD hS wCo_ad (q0 := 0) (ci := 3) rfl rfl (fun E9 ce q9 H locs hE hP hS hce hcv hcl => ?_) (fun hE H locs hP hD hS => ?_)
  · rcases exq_s3 hE with ⟨hc9, rfl⟩ | ⟨hc9, rfl⟩ | ⟨hc9, rfl⟩
    · refine vx_catch (own := RL) (name := "java/lang/IndexOutOfBoundsException") F.2.2.2.1 [] ⟨0, 10, 13, 21⟩ [⟨0, 10, 17, 13⟩, ⟨0, 10, 21, 15⟩] (by rw [het]; rfl) (fun z hz => absurd hz List.not_mem_nil) (by decide) (by decide) (F.2.2.2.2 _ (List.mem_of_getElem? (i := 1) rfl)) (va_Nw.use rfl hX.2.2.2.2.2.1) hce hcv hcl ?_
      refine lv_astore (lv' := [(4, .ref q9), (0, .ref (a 13)), (1, .int x1), (2, .int x2), (3, .ref o)]) F.1 F.2.1 dL_addGoose_13 hl (by decide) rfl (fun ls hl => ?_)
      refine lv_iconst (v := nI 1) F.1 F.2.1 dL_addGoose_15 (by decide) ?_
      exact k_retLH F hr hlk hP (by rw [show ouF f ((rAddGoose S x1 x2).1) ((rAddGoose S x1 x2).2.1) = f from if_neg (by rw [hc9]; decide), rAddGoose_no hc9]) hS (by rw [hc9]) (show 0 + 3 ≤ 3 by omega) (show 0 + 6 * 3 ≤ 6 * 3 by omega) dL_addGoose_16
    · refine vx_catch (own := RL) (name := "java/lang/IllegalArgumentException") F.2.2.2.1 [⟨0, 10, 13, 21⟩] ⟨0, 10, 17, 13⟩ [⟨0, 10, 21, 15⟩] (by rw [het]; rfl) (fun z hz => by obtain rfl := List.mem_singleton.mp hz; exact Or.inr ⟨by decide, "java/lang/IndexOutOfBoundsException", F.2.2.2.2 _ (List.mem_of_getElem? (i := 1) rfl), hN.1⟩) (by decide) (by decide) (F.2.2.2.2 _ (List.mem_of_getElem? (i := 2) rfl)) (va_Nw.use rfl hX.2.2.2.2.2.2.1) hce hcv hcl ?_
      refine lv_astore (lv' := [(4, .ref q9), (0, .ref (a 13)), (1, .int x1), (2, .int x2), (3, .ref o)]) F.1 F.2.1 dL_addGoose_17 hl (by decide) rfl (fun ls hl => ?_)
      refine lv_iconst (v := nI 2) F.1 F.2.1 dL_addGoose_19 (by decide) ?_
      exact k_retLH F hr hlk hP (by rw [show ouF f ((rAddGoose S x1 x2).1) ((rAddGoose S x1 x2).2.1) = f from if_neg (by rw [hc9]; decide), rAddGoose_no hc9]) hS (by rw [hc9]) (show 0 + 3 ≤ 3 by omega) (show 0 + 6 * 3 ≤ 6 * 3 by omega) dL_addGoose_20
    · refine vx_catch (own := RL) (name := "java/lang/IllegalStateException") F.2.2.2.1 [⟨0, 10, 13, 21⟩, ⟨0, 10, 17, 13⟩] ⟨0, 10, 21, 15⟩ [] (by rw [het]; rfl) (fun z hz => by
      rcases List.mem_cons.mp hz with rfl | hz
      · exact Or.inr ⟨by decide, "java/lang/IndexOutOfBoundsException", F.2.2.2.2 _ (List.mem_of_getElem? (i := 1) rfl), hN.2.1⟩
      · obtain rfl := List.mem_singleton.mp hz
        exact Or.inr ⟨by decide, "java/lang/IllegalArgumentException", F.2.2.2.2 _ (List.mem_of_getElem? (i := 2) rfl), hN.2.2⟩) (by decide) (by decide) (F.2.2.2.2 _ (List.mem_of_getElem? (i := 3) rfl)) (va_Nw.use rfl hX.2.2.2.2.2.2.2.1) hce hcv hcl ?_
      refine lv_astore (lv' := [(4, .ref q9), (0, .ref (a 13)), (1, .int x1), (2, .int x2), (3, .ref o)]) F.1 F.2.1 dL_addGoose_21 hl (by decide) rfl (fun ls hl => ?_)
      refine lv_iconst (v := nI 3) F.1 F.2.1 dL_addGoose_23 (by decide) ?_
      exact k_retLH F hr hlk hP (by rw [show ouF f ((rAddGoose S x1 x2).1) ((rAddGoose S x1 x2).2.1) = f from if_neg (by rw [hc9]; decide), rAddGoose_no hc9]) hS (by rw [hc9]) (show 0 + 3 ≤ 3 by omega) (show 0 + 6 * 3 ≤ 6 * 3 by omega) dL_addGoose_24
  · have h0 := exq_none hE (rAddGoose_le _ _ _)
    refine lv_i2l (v := ((rAddGoose S x1 x2).2.1).toInt64) F.1 F.2.1 dL_addGoose_8 rfl ?_
    refine k_last F hK.1 rfl hP hD hS dL_addGoose_9 (fun H locs hP hD hS => ?_)
    refine lv_goto (tgt := 25) F.1 F.2.1 dL_addGoose_10 (by decide) ?_
    refine lv_iconst (v := nI 0) F.1 F.2.1 dL_addGoose_25 (by decide) ?_
    exact k_retLH F hr hlk hP (by rw [show ouF f ((rAddGoose S x1 x2).1) ((rAddGoose S x1 x2).2.1) = _ from if_pos h0]) hS (by rw [h0]) (show 0 + 3 ≤ 3 by omega) (show 0 + 6 * 3 ≤ 6 * 3 by omega) dL_addGoose_26
set_option maxRecDepth 100000 in
set_option maxHeartbeats 4000000 in
theorem c_L_arrive (l : Launch) (D : va_G) (cI cL : ClassId) (hst : l.stackTraces = false) (a b : Nat → Nat) (o : Nat) (f : Nat → Int64) (S S2 : Nat → Nat → Nat) (x1 x2 x3 : Int32) (hI : Inv S) : LH l yL_arrive wsL_arrive 8 2 138 D [(cI, .int), (cL, .long)] [.ref (a 13), .int x1, .int x2, .int x3, .ref o] (wOut cL o f ++ (wCo cI a b S S2)) (wOut cL o (ouF f ((rArrive S x1 x2 x3).1) ((rArrive S x1 x2 x3).2.1)) ++ (wCo cI a b ((rArrive S x1 x2 x3).2.2) S2)) (nI ((rArrive S x1 x2 x3).1)) := by
  refine k_bodyL (cc := cL_arrive) (maxL := 6) (ret := (some .int)) (hh := [(0, 12, 15, 13), (0, 12, 19, 15)]) (by decide) rfl (Nat.le_of_ble_eq_true rfl) ?_
  intro p e s m args below meth c H ls F hr hlk hl hP hK hD hS hX hN het
  have F : CallFix p m c cL_arrive 6 s args wsL_arrive RL := F
  have hl : lv_has ls 6 [(0, .ref (a 13)), (1, .int x1), (2, .int x2), (3, .int x3), (4, .ref o)] := hl
  have hK1 : KK D [(cI, .int)] s := ⟨hK.1.sub (tys' := [(cI, .int)]) [0] rfl, hK.2⟩
  refine lv_aload F.1 F.2.1 dL_arrive_0 (lv_at hl 4 rfl) ?_
  refine lv_iconst (v := nI 0) F.1 F.2.1 dL_arrive_2 (by decide) ?_
  refine lv_aload_n F.1 F.2.1 dL_arrive_3 rfl (lv_at hl 0 rfl) ?_
  refine lv_iload_n F.1 F.2.1 dL_arrive_4 rfl (lv_at hl 1 rfl) ?_
  refine lv_iload_n F.1 F.2.1 dL_arrive_5 rfl (lv_at hl 2 rfl) ?_
  refine lv_iload_n F.1 F.2.1 dL_arrive_6 rfl (lv_at hl 3 rfl) ?_
  refine t_callX (n := 3) (rest := [.int (nI 0), .ref o]) (wr := wOut cL o f) F (c_X3_arrive l D cI hst a b S S2 x1 x2 x3 hI) gL_arrive_X3_arrive rfl (by decide +kernel) ⟨Nat.le_of_ble_eq_true rfl, Nat.le_of_ble_eq_true rfl⟩ rfl hl.1 rfl (Nat.le_of_ble_eq_true rfl) dL_arrive_7 ⟨show 0 + 2 ≤ 2 by omega, show 0 + 6 * 2 ≤ 6 * 2 by omega⟩ hK1 hX hP hD hS wCo_ad (q0 := 0) (ci := 3) rfl rfl (fun E9 ce q9 H locs hE hP hS hce hcv hcl => ?_) (fun hE H locs hP hD hS => ?_)
  · rcases exq_s2 hE with ⟨hc9, rfl⟩ | ⟨hc9, rfl⟩
    · refine vx_catch (own := RL) (name := "java/lang/IllegalArgumentException") F.2.2.2.1 [] ⟨0, 12, 15, 13⟩ [⟨0, 12, 19, 15⟩] (by rw [het]; rfl) (fun z hz => absurd hz List.not_mem_nil) (by decide) (by decide) (F.2.2.2.2 _ (List.mem_of_getElem? (i := 1) rfl)) (va_Nw.use rfl hX.2.2.2.2.2.2.1) hce hcv hcl ?_
      refine lv_astore (lv' := [(5, .ref q9), (0, .ref (a 13)), (1, .int x1), (2, .int x2), (3, .int x3), (4, .ref o)]) F.1 F.2.1 dL_arrive_15 hl (by decide) rfl (fun ls hl => ?_)
      refine lv_iconst (v := nI 1) F.1 F.2.1 dL_arrive_17 (by decide) ?_
      exact k_retLH F hr hlk hP (by rw [show ouF f ((rArrive S x1 x2 x3).1) ((rArrive S x1 x2 x3).2.1) = f from if_neg (by rw [hc9]; decide), rArrive_no hc9]) hS (by rw [hc9]) (show 0 + 2 ≤ 2 by omega) (show 0 + 6 * 2 ≤ 6 * 2 by omega) dL_arrive_18
    · refine vx_catch (own := RL) (name := "java/lang/IllegalStateException") F.2.2.2.1 [⟨0, 12, 15, 13⟩] ⟨0, 12, 19, 15⟩ [] (by rw [het]; rfl) (fun z hz => by obtain rfl := List.mem_singleton.mp hz; exact Or.inr ⟨by decide, "java/lang/IllegalArgumentException", F.2.2.2.2 _ (List.mem_of_getElem? (i := 1) rfl), hN.2.2⟩) (by decide) (by decide) (F.2.2.2.2 _ (List.mem_of_getElem? (i := 2) rfl)) (va_Nw.use rfl hX.2.2.2.2.2.2.2.1) hce hcv hcl ?_
      refine lv_astore (lv' := [(5, .ref q9), (0, .ref (a 13)), (1, .int x1), (2, .int x2), (3, .int x3), (4, .ref o)]) F.1 F.2.1 dL_arrive_19 hl (by decide) rfl (fun ls hl => ?_)
      refine lv_iconst (v := nI 2) F.1 F.2.1 dL_arrive_21 (by decide) ?_
      exact k_retLH F hr hlk hP (by rw [show ouF f ((rArrive S x1 x2 x3).1) ((rArrive S x1 x2 x3).2.1) = f from if_neg (by rw [hc9]; decide), rArrive_no hc9]) hS (by rw [hc9]) (show 0 + 2 ≤ 2 by omega) (show 0 + 6 * 2 ≤ 6 * 2 by omega) dL_arrive_22
  · have h0 := exq_none hE (rArrive_le _ _ _ _)
    refine lv_i2l (v := ((rArrive S x1 x2 x3).2.1).toInt64) F.1 F.2.1 dL_arrive_10 rfl ?_
    refine k_last F hK.1 rfl hP hD hS dL_arrive_11 (fun H locs hP hD hS => ?_)
    refine lv_goto (tgt := 23) F.1 F.2.1 dL_arrive_12 (by decide) ?_
    refine lv_iconst (v := nI 0) F.1 F.2.1 dL_arrive_23 (by decide) ?_
    exact k_retLH F hr hlk hP (by rw [show ouF f ((rArrive S x1 x2 x3).1) ((rArrive S x1 x2 x3).2.1) = _ from if_pos h0]) hS (by rw [h0]) (show 0 + 2 ≤ 2 by omega) (show 0 + 6 * 2 ≤ 6 * 2 by omega) dL_arrive_24
set_option maxRecDepth 100000 in
set_option maxHeartbeats 4000000 in
theorem c_L_setRank (l : Launch) (D : va_G) (cI cL : ClassId) (hst : l.stackTraces = false) (a b : Nat → Nat) (o : Nat) (f : Nat → Int64) (S S2 : Nat → Nat → Nat) (x1 x2 : Int32) (hI : Inv S) : LH l yL_setRank wsL_setRank 8 2 138 D [(cI, .int), (cL, .long)] [.ref (a 13), .int x1, .int x2, .ref o] (wOut cL o f ++ (wCo cI a b S S2)) (wOut cL o (ouF f ((rSetRank S x1 x2).1) ((rSetRank S x1 x2).2.1)) ++ (wCo cI a b ((rSetRank S x1 x2).2.2) S2)) (nI ((rSetRank S x1 x2).1)) := by
  refine k_bodyL (cc := cL_setRank) (maxL := 5) (ret := (some .int)) (hh := [(0, 10, 13, 21), (0, 10, 17, 13)]) (by decide) rfl (Nat.le_of_ble_eq_true rfl) ?_
  intro p e s m args below meth c H ls F hr hlk hl hP hK hD hS hX hN het
  have F : CallFix p m c cL_setRank 5 s args wsL_setRank RL := F
  have hl : lv_has ls 5 [(0, .ref (a 13)), (1, .int x1), (2, .int x2), (3, .ref o)] := hl
  have hK1 : KK D [(cI, .int)] s := ⟨hK.1.sub (tys' := [(cI, .int)]) [0] rfl, hK.2⟩
  refine lv_aload_n F.1 F.2.1 dL_setRank_0 rfl (lv_at hl 3 rfl) ?_
  refine lv_iconst (v := nI 0) F.1 F.2.1 dL_setRank_1 (by decide) ?_
  refine lv_aload_n F.1 F.2.1 dL_setRank_2 rfl (lv_at hl 0 rfl) ?_
  refine lv_iload_n F.1 F.2.1 dL_setRank_3 rfl (lv_at hl 1 rfl) ?_
  refine lv_iload_n F.1 F.2.1 dL_setRank_4 rfl (lv_at hl 2 rfl) ?_
  refine t_callX (n := 2) (rest := [.int (nI 0), .ref o]) (wr := wOut cL o f) F (c_X3_setRank l D cI hst a b S S2 x1 x2 hI) gL_setRank_X3_setRank rfl (by decide +kernel) ⟨Nat.le_of_ble_eq_true rfl, Nat.le_of_ble_eq_true rfl⟩ rfl hl.1 rfl (Nat.le_of_ble_eq_true rfl) dL_setRank_5 ⟨show 0 + 2 ≤ 2 by omega, show 0 + 6 * 2 ≤ 6 * 2 by omega⟩ hK1 hX hP hD hS wCo_ad (q0 := 0) (ci := 3) rfl rfl (fun E9 ce q9 H locs hE hP hS hce hcv hcl => ?_) (fun hE H locs hP hD hS => ?_)
  · rcases exq_s2 hE with ⟨hc9, rfl⟩ | ⟨hc9, rfl⟩
    · refine vx_catch (own := RL) (name := "java/lang/IndexOutOfBoundsException") F.2.2.2.1 [] ⟨0, 10, 13, 21⟩ [⟨0, 10, 17, 13⟩] (by rw [het]; rfl) (fun z hz => absurd hz List.not_mem_nil) (by decide) (by decide) (F.2.2.2.2 _ (List.mem_of_getElem? (i := 1) rfl)) (va_Nw.use rfl hX.2.2.2.2.2.1) hce hcv hcl ?_
      refine lv_astore (lv' := [(4, .ref q9), (0, .ref (a 13)), (1, .int x1), (2, .int x2), (3, .ref o)]) F.1 F.2.1 dL_setRank_13 hl (by decide) rfl (fun ls hl => ?_)
      refine lv_iconst (v := nI 1) F.1 F.2.1 dL_setRank_15 (by decide) ?_
      exact k_retLH F hr hlk hP (by rw [show ouF f ((rSetRank S x1 x2).1) ((rSetRank S x1 x2).2.1) = f from if_neg (by rw [hc9]; decide), rSetRank_no hc9]) hS (by rw [hc9]) (show 0 + 2 ≤ 2 by omega) (show 0 + 6 * 2 ≤ 6 * 2 by omega) dL_setRank_16
    · refine vx_catch (own := RL) (name := "java/lang/IllegalArgumentException") F.2.2.2.1 [⟨0, 10, 13, 21⟩] ⟨0, 10, 17, 13⟩ [] (by rw [het]; rfl) (fun z hz => by obtain rfl := List.mem_singleton.mp hz; exact Or.inr ⟨by decide, "java/lang/IndexOutOfBoundsException", F.2.2.2.2 _ (List.mem_of_getElem? (i := 1) rfl), hN.1⟩) (by decide) (by decide) (F.2.2.2.2 _ (List.mem_of_getElem? (i := 2) rfl)) (va_Nw.use rfl hX.2.2.2.2.2.2.1) hce hcv hcl ?_
      refine lv_astore (lv' := [(4, .ref q9), (0, .ref (a 13)), (1, .int x1), (2, .int x2), (3, .ref o)]) F.1 F.2.1 dL_setRank_17 hl (by decide) rfl (fun ls hl => ?_)
      refine lv_iconst (v := nI 2) F.1 F.2.1 dL_setRank_19 (by decide) ?_
      exact k_retLH F hr hlk hP (by rw [show ouF f ((rSetRank S x1 x2).1) ((rSetRank S x1 x2).2.1) = f from if_neg (by rw [hc9]; decide), rSetRank_no hc9]) hS (by rw [hc9]) (show 0 + 2 ≤ 2 by omega) (show 0 + 6 * 2 ≤ 6 * 2 by omega) dL_setRank_20
  · have h0 := exq_none hE (rSetRank_le _ _ _)
    refine lv_i2l (v := ((rSetRank S x1 x2).2.1).toInt64) F.1 F.2.1 dL_setRank_8 rfl ?_
    refine k_last F hK.1 rfl hP hD hS dL_setRank_9 (fun H locs hP hD hS => ?_)
    refine lv_goto (tgt := 21) F.1 F.2.1 dL_setRank_10 (by decide) ?_
    refine lv_iconst (v := nI 0) F.1 F.2.1 dL_setRank_21 (by decide) ?_
    exact k_retLH F hr hlk hP (by rw [show ouF f ((rSetRank S x1 x2).1) ((rSetRank S x1 x2).2.1) = _ from if_pos h0]) hS (by rw [h0]) (show 0 + 2 ≤ 2 by omega) (show 0 + 6 * 2 ≤ 6 * 2 by omega) dL_setRank_22
set_option maxRecDepth 100000 in
set_option maxHeartbeats 4000000 in
theorem c_L_lead (l : Launch) (D : va_G) (cI cL : ClassId) (hst : l.stackTraces = false) (a b : Nat → Nat) (o : Nat) (f : Nat → Int64) (S S2 : Nat → Nat → Nat) (x1 x2 : Int32) (hI : Inv S) : LH l yL_lead wsL_lead 8 1 138 D [(cI, .int), (cL, .long)] [.ref (a 13), .int x1, .int x2, .ref o] (wOut cL o f ++ (wCo cI a b S S2)) (wOut cL o (ouF f ((rLead S x1 x2).1) ((rLead S x1 x2).2.1)) ++ (wCo cI a b ((rLead S x1 x2).2.2) S2)) (nI ((rLead S x1 x2).1)) := by
  refine k_bodyL (cc := cL_lead) (maxL := 5) (ret := (some .int)) (hh := [(0, 10, 13, 21)]) (by decide) rfl (Nat.le_of_ble_eq_true rfl) ?_
  intro p e s m args below meth c H ls F hr hlk hl hP hK hD hS hX hN het
  have F : CallFix p m c cL_lead 5 s args wsL_lead RL := F
  have hl : lv_has ls 5 [(0, .ref (a 13)), (1, .int x1), (2, .int x2), (3, .ref o)] := hl
  have hK1 : KK D [(cI, .int)] s := ⟨hK.1.sub (tys' := [(cI, .int)]) [0] rfl, hK.2⟩
  refine lv_aload_n F.1 F.2.1 dL_lead_0 rfl (lv_at hl 3 rfl) ?_
  refine lv_iconst (v := nI 0) F.1 F.2.1 dL_lead_1 (by decide) ?_
  refine lv_aload_n F.1 F.2.1 dL_lead_2 rfl (lv_at hl 0 rfl) ?_
  refine lv_iload_n F.1 F.2.1 dL_lead_3 rfl (lv_at hl 1 rfl) ?_
  refine lv_iload_n F.1 F.2.1 dL_lead_4 rfl (lv_at hl 2 rfl) ?_
  refine t_callX (n := 2) (rest := [.int (nI 0), .ref o]) (wr := wOut cL o f) F (c_X3_lead l D cI hst a b S S2 x1 x2 hI) gL_lead_X3_lead rfl (by decide +kernel) ⟨Nat.le_of_ble_eq_true rfl, Nat.le_of_ble_eq_true rfl⟩ rfl hl.1 rfl (Nat.le_of_ble_eq_true rfl) dL_lead_5 ⟨show 0 + 1 ≤ 1 by omega, show 0 + 6 * 1 ≤ 6 * 1 by omega⟩ hK1 hX hP hD hS wCo_ad (q0 := 0) (ci := 3) rfl rfl (fun E9 ce q9 H locs hE hP hS hce hcv hcl => ?_) (fun hE H locs hP hD hS => ?_)
  · rcases exq_s1 hE with ⟨hc9, rfl⟩
    · refine vx_catch (own := RL) (name := "java/lang/IndexOutOfBoundsException") F.2.2.2.1 [] ⟨0, 10, 13, 21⟩ [] (by rw [het]; rfl) (fun z hz => absurd hz List.not_mem_nil) (by decide) (by decide) (F.2.2.2.2 _ (List.mem_of_getElem? (i := 1) rfl)) (va_Nw.use rfl hX.2.2.2.2.2.1) hce hcv hcl ?_
      refine lv_astore (lv' := [(4, .ref q9), (0, .ref (a 13)), (1, .int x1), (2, .int x2), (3, .ref o)]) F.1 F.2.1 dL_lead_13 hl (by decide) rfl (fun ls hl => ?_)
      refine lv_iconst (v := nI 1) F.1 F.2.1 dL_lead_15 (by decide) ?_
      exact k_retLH F hr hlk hP (by rw [show ouF f ((rLead S x1 x2).1) ((rLead S x1 x2).2.1) = f from if_neg (by rw [hc9]; decide), rLead_no hc9]) hS (by rw [hc9]) (show 0 + 1 ≤ 1 by omega) (show 0 + 6 * 1 ≤ 6 * 1 by omega) dL_lead_16
  · have h0 := exq_none hE (rLead_le _ _ _)
    refine lv_i2l (v := ((rLead S x1 x2).2.1).toInt64) F.1 F.2.1 dL_lead_8 rfl ?_
    refine k_last F hK.1 rfl hP hD hS dL_lead_9 (fun H locs hP hD hS => ?_)
    refine lv_goto (tgt := 17) F.1 F.2.1 dL_lead_10 (by decide) ?_
    refine lv_iconst (v := nI 0) F.1 F.2.1 dL_lead_17 (by decide) ?_
    exact k_retLH F hr hlk hP (by rw [show ouF f ((rLead S x1 x2).1) ((rLead S x1 x2).2.1) = _ from if_pos h0]) hS (by rw [h0]) (show 0 + 1 ≤ 1 by omega) (show 0 + 6 * 1 ≤ 6 * 1 by omega) dL_lead_18
set_option maxRecDepth 100000 in
set_option maxHeartbeats 4000000 in
theorem c_L_giveCorns (l : Launch) (D : va_G) (cI cL : ClassId) (hst : l.stackTraces = false) (a b : Nat → Nat) (o : Nat) (f : Nat → Int64) (S S2 : Nat → Nat → Nat) (x1 x2 : Int32) (hI : Inv S) : LH l yL_giveCorns wsL_giveCorns 9 2 159 D [(cI, .int), (cL, .long)] [.ref (a 13), .int x1, .int x2, .ref o] (wOut cL o f ++ (wCo cI a b S S2)) (wOut cL o (ouF f ((rGive S x1 x2).1) ((rGive S x1 x2).2.1)) ++ (wCo cI a b ((rGive S x1 x2).2.2) S2)) (nI ((rGive S x1 x2).1)) := by
  refine k_bodyL (cc := cL_giveCorns) (maxL := 5) (ret := (some .int)) (hh := [(0, 10, 13, 21), (0, 10, 17, 13)]) (by decide) rfl (Nat.le_of_ble_eq_true rfl) ?_
  intro p e s m args below meth c H ls F hr hlk hl hP hK hD hS hX hN het
  have F : CallFix p m c cL_giveCorns 5 s args wsL_giveCorns RL := F
  have hl : lv_has ls 5 [(0, .ref (a 13)), (1, .int x1), (2, .int x2), (3, .ref o)] := hl
  have hK1 : KK D [(cI, .int)] s := ⟨hK.1.sub (tys' := [(cI, .int)]) [0] rfl, hK.2⟩
  refine lv_aload_n F.1 F.2.1 dL_giveCorns_0 rfl (lv_at hl 3 rfl) ?_
  refine lv_iconst (v := nI 0) F.1 F.2.1 dL_giveCorns_1 (by decide) ?_
  refine lv_aload_n F.1 F.2.1 dL_giveCorns_2 rfl (lv_at hl 0 rfl) ?_
  refine lv_iload_n F.1 F.2.1 dL_giveCorns_3 rfl (lv_at hl 1 rfl) ?_
  refine lv_iload_n F.1 F.2.1 dL_giveCorns_4 rfl (lv_at hl 2 rfl) ?_
  refine t_callX (n := 2) (rest := [.int (nI 0), .ref o]) (wr := wOut cL o f) F (c_X3_giveCorns l D cI hst a b S S2 x1 x2 hI) gL_giveCorns_X3_giveCorns rfl (by decide +kernel) ⟨Nat.le_of_ble_eq_true rfl, Nat.le_of_ble_eq_true rfl⟩ rfl hl.1 rfl (Nat.le_of_ble_eq_true rfl) dL_giveCorns_5 ⟨show 0 + 2 ≤ 2 by omega, show 0 + 6 * 2 ≤ 6 * 2 by omega⟩ hK1 hX hP hD hS wCo_ad (q0 := 0) (ci := 3) rfl rfl (fun E9 ce q9 H locs hE hP hS hce hcv hcl => ?_) (fun hE H locs hP hD hS => ?_)
  · rcases exq_s2 hE with ⟨hc9, rfl⟩ | ⟨hc9, rfl⟩
    · refine vx_catch (own := RL) (name := "java/lang/IndexOutOfBoundsException") F.2.2.2.1 [] ⟨0, 10, 13, 21⟩ [⟨0, 10, 17, 13⟩] (by rw [het]; rfl) (fun z hz => absurd hz List.not_mem_nil) (by decide) (by decide) (F.2.2.2.2 _ (List.mem_of_getElem? (i := 1) rfl)) (va_Nw.use rfl hX.2.2.2.2.2.1) hce hcv hcl ?_
      refine lv_astore (lv' := [(4, .ref q9), (0, .ref (a 13)), (1, .int x1), (2, .int x2), (3, .ref o)]) F.1 F.2.1 dL_giveCorns_13 hl (by decide) rfl (fun ls hl => ?_)
      refine lv_iconst (v := nI 1) F.1 F.2.1 dL_giveCorns_15 (by decide) ?_
      exact k_retLH F hr hlk hP (by rw [show ouF f ((rGive S x1 x2).1) ((rGive S x1 x2).2.1) = f from if_neg (by rw [hc9]; decide), rGive_no hc9]) hS (by rw [hc9]) (show 0 + 2 ≤ 2 by omega) (show 0 + 6 * 2 ≤ 6 * 2 by omega) dL_giveCorns_16
    · refine vx_catch (own := RL) (name := "java/lang/IllegalArgumentException") F.2.2.2.1 [⟨0, 10, 13, 21⟩] ⟨0, 10, 17, 13⟩ [] (by rw [het]; rfl) (fun z hz => by obtain rfl := List.mem_singleton.mp hz; exact Or.inr ⟨by decide, "java/lang/IndexOutOfBoundsException", F.2.2.2.2 _ (List.mem_of_getElem? (i := 1) rfl), hN.1⟩) (by decide) (by decide) (F.2.2.2.2 _ (List.mem_of_getElem? (i := 2) rfl)) (va_Nw.use rfl hX.2.2.2.2.2.2.1) hce hcv hcl ?_
      refine lv_astore (lv' := [(4, .ref q9), (0, .ref (a 13)), (1, .int x1), (2, .int x2), (3, .ref o)]) F.1 F.2.1 dL_giveCorns_17 hl (by decide) rfl (fun ls hl => ?_)
      refine lv_iconst (v := nI 2) F.1 F.2.1 dL_giveCorns_19 (by decide) ?_
      exact k_retLH F hr hlk hP (by rw [show ouF f ((rGive S x1 x2).1) ((rGive S x1 x2).2.1) = f from if_neg (by rw [hc9]; decide), rGive_no hc9]) hS (by rw [hc9]) (show 0 + 2 ≤ 2 by omega) (show 0 + 6 * 2 ≤ 6 * 2 by omega) dL_giveCorns_20
  · have h0 := exq_none hE (rGive_le _ _ _)
    refine lv_i2l (v := ((rGive S x1 x2).2.1).toInt64) F.1 F.2.1 dL_giveCorns_8 rfl ?_
    refine k_last F hK.1 rfl hP hD hS dL_giveCorns_9 (fun H locs hP hD hS => ?_)
    refine lv_goto (tgt := 21) F.1 F.2.1 dL_giveCorns_10 (by decide) ?_
    refine lv_iconst (v := nI 0) F.1 F.2.1 dL_giveCorns_21 (by decide) ?_
    exact k_retLH F hr hlk hP (by rw [show ouF f ((rGive S x1 x2).1) ((rGive S x1 x2).2.1) = _ from if_pos h0]) hS (by rw [h0]) (show 0 + 2 ≤ 2 by omega) (show 0 + 6 * 2 ≤ 6 * 2 by omega) dL_giveCorns_22
set_option maxRecDepth 100000 in
set_option maxHeartbeats 4000000 in
theorem c_L_bribe (l : Launch) (D : va_G) (cI cL : ClassId) (hst : l.stackTraces = false) (a b : Nat → Nat) (o : Nat) (f : Nat → Int64) (S S2 : Nat → Nat → Nat) (x1 x2 : Int32) (hI : Inv S) : LH l yL_bribe wsL_bribe 9 3 158 D [(cI, .int), (cL, .long)] [.ref (a 13), .int x1, .int x2, .ref o] (wOut cL o f ++ (wCo cI a b S S2)) (wOut cL o (ouF f ((rBribe S x1 x2).1) ((rBribe S x1 x2).2.1)) ++ (wCo cI a b ((rBribe S x1 x2).2.2) S2)) (nI ((rBribe S x1 x2).1)) := by
  refine k_bodyL (cc := cL_bribe) (maxL := 5) (ret := (some .int)) (hh := [(0, 10, 13, 21), (0, 10, 17, 15)]) (by decide) rfl (Nat.le_of_ble_eq_true rfl) ?_
  intro p e s m args below meth c H ls F hr hlk hl hP hK hD hS hX hN het
  have F : CallFix p m c cL_bribe 5 s args wsL_bribe RL := F
  have hl : lv_has ls 5 [(0, .ref (a 13)), (1, .int x1), (2, .int x2), (3, .ref o)] := hl
  have hK1 : KK D [(cI, .int)] s := ⟨hK.1.sub (tys' := [(cI, .int)]) [0] rfl, hK.2⟩
  refine lv_aload_n F.1 F.2.1 dL_bribe_0 rfl (lv_at hl 3 rfl) ?_
  refine lv_iconst (v := nI 0) F.1 F.2.1 dL_bribe_1 (by decide) ?_
  refine lv_aload_n F.1 F.2.1 dL_bribe_2 rfl (lv_at hl 0 rfl) ?_
  refine lv_iload_n F.1 F.2.1 dL_bribe_3 rfl (lv_at hl 1 rfl) ?_
  refine lv_iload_n F.1 F.2.1 dL_bribe_4 rfl (lv_at hl 2 rfl) ?_
  refine t_callX (n := 2) (rest := [.int (nI 0), .ref o]) (wr := wOut cL o f) F (c_X3_bribe l D cI hst a b S S2 x1 x2 hI) gL_bribe_X3_bribe rfl (by decide +kernel) ⟨Nat.le_of_ble_eq_true rfl, Nat.le_of_ble_eq_true rfl⟩ rfl hl.1 rfl (Nat.le_of_ble_eq_true rfl) dL_bribe_5 ⟨show 0 + 3 ≤ 3 by omega, show 0 + 6 * 3 ≤ 6 * 3 by omega⟩ hK1 hX hP hD hS wCo_ad (q0 := 0) (ci := 3) rfl rfl (fun E9 ce q9 H locs hE hP hS hce hcv hcl => ?_) (fun hE H locs hP hD hS => ?_)
  · rcases exq_s2 hE with ⟨hc9, rfl⟩ | ⟨hc9, rfl⟩
    · refine vx_catch (own := RL) (name := "java/lang/IndexOutOfBoundsException") F.2.2.2.1 [] ⟨0, 10, 13, 21⟩ [⟨0, 10, 17, 15⟩] (by rw [het]; rfl) (fun z hz => absurd hz List.not_mem_nil) (by decide) (by decide) (F.2.2.2.2 _ (List.mem_of_getElem? (i := 1) rfl)) (va_Nw.use rfl hX.2.2.2.2.2.1) hce hcv hcl ?_
      refine lv_astore (lv' := [(4, .ref q9), (0, .ref (a 13)), (1, .int x1), (2, .int x2), (3, .ref o)]) F.1 F.2.1 dL_bribe_13 hl (by decide) rfl (fun ls hl => ?_)
      refine lv_iconst (v := nI 1) F.1 F.2.1 dL_bribe_15 (by decide) ?_
      exact k_retLH F hr hlk hP (by rw [show ouF f ((rBribe S x1 x2).1) ((rBribe S x1 x2).2.1) = f from if_neg (by rw [hc9]; decide), rBribe_no hc9]) hS (by rw [hc9]) (show 0 + 3 ≤ 3 by omega) (show 0 + 6 * 3 ≤ 6 * 3 by omega) dL_bribe_16
    · refine vx_catch (own := RL) (name := "java/lang/IllegalStateException") F.2.2.2.1 [⟨0, 10, 13, 21⟩] ⟨0, 10, 17, 15⟩ [] (by rw [het]; rfl) (fun z hz => by obtain rfl := List.mem_singleton.mp hz; exact Or.inr ⟨by decide, "java/lang/IndexOutOfBoundsException", F.2.2.2.2 _ (List.mem_of_getElem? (i := 1) rfl), hN.2.1⟩) (by decide) (by decide) (F.2.2.2.2 _ (List.mem_of_getElem? (i := 2) rfl)) (va_Nw.use rfl hX.2.2.2.2.2.2.2.1) hce hcv hcl ?_
      refine lv_astore (lv' := [(4, .ref q9), (0, .ref (a 13)), (1, .int x1), (2, .int x2), (3, .ref o)]) F.1 F.2.1 dL_bribe_17 hl (by decide) rfl (fun ls hl => ?_)
      refine lv_iconst (v := nI 2) F.1 F.2.1 dL_bribe_19 (by decide) ?_
      exact k_retLH F hr hlk hP (by rw [show ouF f ((rBribe S x1 x2).1) ((rBribe S x1 x2).2.1) = f from if_neg (by rw [hc9]; decide), rBribe_no hc9]) hS (by rw [hc9]) (show 0 + 3 ≤ 3 by omega) (show 0 + 6 * 3 ≤ 6 * 3 by omega) dL_bribe_20
  · have h0 := exq_none hE (rBribe_le _ _ _)
    refine lv_i2l (v := ((rBribe S x1 x2).2.1).toInt64) F.1 F.2.1 dL_bribe_8 rfl ?_
    refine k_last F hK.1 rfl hP hD hS dL_bribe_9 (fun H locs hP hD hS => ?_)
    refine lv_goto (tgt := 21) F.1 F.2.1 dL_bribe_10 (by decide) ?_
    refine lv_iconst (v := nI 0) F.1 F.2.1 dL_bribe_21 (by decide) ?_
    exact k_retLH F hr hlk hP (by rw [show ouF f ((rBribe S x1 x2).1) ((rBribe S x1 x2).2.1) = _ from if_pos h0]) hS (by rw [h0]) (show 0 + 3 ≤ 3 by omega) (show 0 + 6 * 3 ≤ 6 * 3 by omega) dL_bribe_22
set_option maxRecDepth 100000 in
set_option maxHeartbeats 4000000 in
theorem c_L_passBeats (l : Launch) (D : va_G) (cI cL : ClassId) (hst : l.stackTraces = false) (a b : Nat → Nat) (o : Nat) (f : Nat → Int64) (S S2 : Nat → Nat → Nat) (x1 : Int32) (hI : Inv S) : LH l yL_passBeats wsL_passBeats 8 1 157 D [(cI, .int), (cL, .long)] [.ref (a 13), .int x1, .ref o] (wOut cL o f ++ (wCo cI a b S S2)) (wOut cL o (ouF f ((rPass S x1).1) ((rPass S x1).2.1)) ++ (wCo cI a b ((rPass S x1).2.2) S2)) (nI ((rPass S x1).1)) := by
  refine k_bodyL (cc := cL_passBeats) (maxL := 4) (ret := (some .int)) (hh := [(0, 9, 12, 13)]) (by decide) rfl (Nat.le_of_ble_eq_true rfl) ?_
  intro p e s m args below meth c H ls F hr hlk hl hP hK hD hS hX hN het
  have F : CallFix p m c cL_passBeats 4 s args wsL_passBeats RL := F
  have hl : lv_has ls 4 [(0, .ref (a 13)), (1, .int x1), (2, .ref o)] := hl
  have hK1 : KK D [(cI, .int)] s := ⟨hK.1.sub (tys' := [(cI, .int)]) [0] rfl, hK.2⟩
  refine lv_aload_n F.1 F.2.1 dL_passBeats_0 rfl (lv_at hl 2 rfl) ?_
  refine lv_iconst (v := nI 0) F.1 F.2.1 dL_passBeats_1 (by decide) ?_
  refine lv_aload_n F.1 F.2.1 dL_passBeats_2 rfl (lv_at hl 0 rfl) ?_
  refine lv_iload_n F.1 F.2.1 dL_passBeats_3 rfl (lv_at hl 1 rfl) ?_
  refine t_callX (n := 1) (rest := [.int (nI 0), .ref o]) (wr := wOut cL o f) F (c_X3_passBeats l D cI hst a b S S2 x1 hI) gL_passBeats_X3_passBeats rfl (by decide +kernel) ⟨Nat.le_of_ble_eq_true rfl, Nat.le_of_ble_eq_true rfl⟩ rfl hl.1 rfl (Nat.le_of_ble_eq_true rfl) dL_passBeats_4 ⟨show 0 + 1 ≤ 1 by omega, show 0 + 6 * 1 ≤ 6 * 1 by omega⟩ hK1 hX hP hD hS wCo_ad (q0 := 0) (ci := 3) rfl rfl (fun E9 ce q9 H locs hE hP hS hce hcv hcl => ?_) (fun hE H locs hP hD hS => ?_)
  · rcases exq_s1 hE with ⟨hc9, rfl⟩
    · refine vx_catch (own := RL) (name := "java/lang/IllegalArgumentException") F.2.2.2.1 [] ⟨0, 9, 12, 13⟩ [] (by rw [het]; rfl) (fun z hz => absurd hz List.not_mem_nil) (by decide) (by decide) (F.2.2.2.2 _ (List.mem_of_getElem? (i := 1) rfl)) (va_Nw.use rfl hX.2.2.2.2.2.2.1) hce hcv hcl ?_
      refine lv_astore_n (lv' := [(3, .ref q9), (0, .ref (a 13)), (1, .int x1), (2, .ref o)]) F.1 F.2.1 dL_passBeats_12 rfl hl (by decide) rfl (fun ls hl => ?_)
      refine lv_iconst (v := nI 1) F.1 F.2.1 dL_passBeats_13 (by decide) ?_
      exact k_retLH F hr hlk hP (by rw [show ouF f ((rPass S x1).1) ((rPass S x1).2.1) = f from if_neg (by rw [hc9]; decide), rPass_no hc9]) hS (by rw [hc9]) (show 0 + 1 ≤ 1 by omega) (show 0 + 6 * 1 ≤ 6 * 1 by omega) dL_passBeats_14
  · have h0 := exq_none hE (rPass_le _ _)
    refine lv_i2l (v := ((rPass S x1).2.1).toInt64) F.1 F.2.1 dL_passBeats_7 rfl ?_
    refine k_last F hK.1 rfl hP hD hS dL_passBeats_8 (fun H locs hP hD hS => ?_)
    refine lv_goto (tgt := 15) F.1 F.2.1 dL_passBeats_9 (by decide) ?_
    refine lv_iconst (v := nI 0) F.1 F.2.1 dL_passBeats_15 (by decide) ?_
    exact k_retLH F hr hlk hP (by rw [show ouF f ((rPass S x1).1) ((rPass S x1).2.1) = _ from if_pos h0]) hS (by rw [h0]) (show 0 + 1 ≤ 1 by omega) (show 0 + 6 * 1 ≤ 6 * 1 by omega) dL_passBeats_16
set_option maxRecDepth 100000 in
set_option maxHeartbeats 4000000 in
theorem c_L_rankOf (l : Launch) (D : va_G) (cI cL : ClassId) (hst : l.stackTraces = false) (a b : Nat → Nat) (o : Nat) (f : Nat → Int64) (S S2 : Nat → Nat → Nat) (x1 : Int32) (hI : Inv S) : LH l yL_rankOf wsL_rankOf 8 1 136 D [(cI, .int), (cL, .long)] [.ref (a 13), .int x1, .ref o] (wOut cL o f ++ (wCo cI a b S S2)) (wOut cL o (ouF f ((r1 (S 0 0) x1 (nI (S 1 (cl x1)))).1) ((r1 (S 0 0) x1 (nI (S 1 (cl x1)))).2)) ++ (wCo cI a b S S2)) (nI ((r1 (S 0 0) x1 (nI (S 1 (cl x1)))).1)) := by
  refine k_bodyL (cc := cL_rankOf) (maxL := 4) (ret := (some .int)) (hh := [(0, 9, 12, 21)]) (by decide) rfl (Nat.le_of_ble_eq_true rfl) ?_
  intro p e s m args below meth c H ls F hr hlk hl hP hK hD hS hX hN het
  have F : CallFix p m c cL_rankOf 4 s args wsL_rankOf RL := F
  have hl : lv_has ls 4 [(0, .ref (a 13)), (1, .int x1), (2, .ref o)] := hl
  have hK1 : KK D [(cI, .int)] s := ⟨hK.1.sub (tys' := [(cI, .int)]) [0] rfl, hK.2⟩
  refine lv_aload_n F.1 F.2.1 dL_rankOf_0 rfl (lv_at hl 2 rfl) ?_
  refine lv_iconst (v := nI 0) F.1 F.2.1 dL_rankOf_1 (by decide) ?_
  refine lv_aload_n F.1 F.2.1 dL_rankOf_2 rfl (lv_at hl 0 rfl) ?_
  refine lv_iload_n F.1 F.2.1 dL_rankOf_3 rfl (lv_at hl 1 rfl) ?_
  refine t_callX (n := 1) (rest := [.int (nI 0), .ref o]) (wr := wOut cL o f) F (c_X3_rankOf l D cI hst a b S S2 x1 hI) gL_rankOf_X3_rankOf rfl (by decide +kernel) ⟨Nat.le_of_ble_eq_true rfl, Nat.le_of_ble_eq_true rfl⟩ rfl hl.1 rfl (Nat.le_of_ble_eq_true rfl) dL_rankOf_4 ⟨show 0 + 1 ≤ 1 by omega, show 0 + 6 * 1 ≤ 6 * 1 by omega⟩ hK1 hX hP hD hS wCo_ad (q0 := 0) (ci := 3) rfl rfl (fun E9 ce q9 H locs hE hP hS hce hcv hcl => ?_) (fun hE H locs hP hD hS => ?_)
  · rcases exq_s1 hE with ⟨hc9, rfl⟩
    · refine vx_catch (own := RL) (name := "java/lang/IndexOutOfBoundsException") F.2.2.2.1 [] ⟨0, 9, 12, 21⟩ [] (by rw [het]; rfl) (fun z hz => absurd hz List.not_mem_nil) (by decide) (by decide) (F.2.2.2.2 _ (List.mem_of_getElem? (i := 1) rfl)) (va_Nw.use rfl hX.2.2.2.2.2.1) hce hcv hcl ?_
      refine lv_astore_n (lv' := [(3, .ref q9), (0, .ref (a 13)), (1, .int x1), (2, .ref o)]) F.1 F.2.1 dL_rankOf_12 rfl hl (by decide) rfl (fun ls hl => ?_)
      refine lv_iconst (v := nI 1) F.1 F.2.1 dL_rankOf_13 (by decide) ?_
      exact k_retLH F hr hlk hP (by rw [show ouF f ((r1 (S 0 0) x1 (nI (S 1 (cl x1)))).1) ((r1 (S 0 0) x1 (nI (S 1 (cl x1)))).2) = f from if_neg (by rw [hc9]; decide)]) hS (by rw [hc9]) (show 0 + 1 ≤ 1 by omega) (show 0 + 6 * 1 ≤ 6 * 1 by omega) dL_rankOf_14
  · have h0 := exq_none hE (r1_le _ _ _)
    refine lv_i2l (v := ((r1 (S 0 0) x1 (nI (S 1 (cl x1)))).2).toInt64) F.1 F.2.1 dL_rankOf_7 rfl ?_
    refine k_last F hK.1 rfl hP hD hS dL_rankOf_8 (fun H locs hP hD hS => ?_)
    refine lv_goto (tgt := 15) F.1 F.2.1 dL_rankOf_9 (by decide) ?_
    refine lv_iconst (v := nI 0) F.1 F.2.1 dL_rankOf_15 (by decide) ?_
    exact k_retLH F hr hlk hP (by rw [show ouF f ((r1 (S 0 0) x1 (nI (S 1 (cl x1)))).1) ((r1 (S 0 0) x1 (nI (S 1 (cl x1)))).2) = _ from if_pos h0]) hS (by rw [h0]) (show 0 + 1 ≤ 1 by omega) (show 0 + 6 * 1 ≤ 6 * 1 by omega) dL_rankOf_16
set_option maxRecDepth 100000 in
set_option maxHeartbeats 4000000 in
theorem c_L_awakeAt (l : Launch) (D : va_G) (cI cL : ClassId) (hst : l.stackTraces = false) (a b : Nat → Nat) (o : Nat) (f : Nat → Int64) (S S2 : Nat → Nat → Nat) (x1 : Int32) (hI : Inv S) : LH l yL_awakeAt wsL_awakeAt 8 1 136 D [(cI, .int), (cL, .long)] [.ref (a 13), .int x1, .ref o] (wOut cL o f ++ (wCo cI a b S S2)) (wOut cL o (ouF f ((r1 (S 0 0) x1 (nI (cntN S (cl x1) (S 0 1)))).1) ((r1 (S 0 0) x1 (nI (cntN S (cl x1) (S 0 1)))).2)) ++ (wCo cI a b S S2)) (nI ((r1 (S 0 0) x1 (nI (cntN S (cl x1) (S 0 1)))).1)) := by
  refine k_bodyL (cc := cL_awakeAt) (maxL := 4) (ret := (some .int)) (hh := [(0, 9, 12, 21)]) (by decide) rfl (Nat.le_of_ble_eq_true rfl) ?_
  intro p e s m args below meth c H ls F hr hlk hl hP hK hD hS hX hN het
  have F : CallFix p m c cL_awakeAt 4 s args wsL_awakeAt RL := F
  have hl : lv_has ls 4 [(0, .ref (a 13)), (1, .int x1), (2, .ref o)] := hl
  have hK1 : KK D [(cI, .int)] s := ⟨hK.1.sub (tys' := [(cI, .int)]) [0] rfl, hK.2⟩
  refine lv_aload_n F.1 F.2.1 dL_awakeAt_0 rfl (lv_at hl 2 rfl) ?_
  refine lv_iconst (v := nI 0) F.1 F.2.1 dL_awakeAt_1 (by decide) ?_
  refine lv_aload_n F.1 F.2.1 dL_awakeAt_2 rfl (lv_at hl 0 rfl) ?_
  refine lv_iload_n F.1 F.2.1 dL_awakeAt_3 rfl (lv_at hl 1 rfl) ?_
  refine t_callX (n := 1) (rest := [.int (nI 0), .ref o]) (wr := wOut cL o f) F (c_X3_awakeAt l D cI hst a b S S2 x1 hI) gL_awakeAt_X3_awakeAt rfl (by decide +kernel) ⟨Nat.le_of_ble_eq_true rfl, Nat.le_of_ble_eq_true rfl⟩ rfl hl.1 rfl (Nat.le_of_ble_eq_true rfl) dL_awakeAt_4 ⟨show 0 + 1 ≤ 1 by omega, show 0 + 6 * 1 ≤ 6 * 1 by omega⟩ hK1 hX hP hD hS wCo_ad (q0 := 0) (ci := 3) rfl rfl (fun E9 ce q9 H locs hE hP hS hce hcv hcl => ?_) (fun hE H locs hP hD hS => ?_)
  · rcases exq_s1 hE with ⟨hc9, rfl⟩
    · refine vx_catch (own := RL) (name := "java/lang/IndexOutOfBoundsException") F.2.2.2.1 [] ⟨0, 9, 12, 21⟩ [] (by rw [het]; rfl) (fun z hz => absurd hz List.not_mem_nil) (by decide) (by decide) (F.2.2.2.2 _ (List.mem_of_getElem? (i := 1) rfl)) (va_Nw.use rfl hX.2.2.2.2.2.1) hce hcv hcl ?_
      refine lv_astore_n (lv' := [(3, .ref q9), (0, .ref (a 13)), (1, .int x1), (2, .ref o)]) F.1 F.2.1 dL_awakeAt_12 rfl hl (by decide) rfl (fun ls hl => ?_)
      refine lv_iconst (v := nI 1) F.1 F.2.1 dL_awakeAt_13 (by decide) ?_
      exact k_retLH F hr hlk hP (by rw [show ouF f ((r1 (S 0 0) x1 (nI (cntN S (cl x1) (S 0 1)))).1) ((r1 (S 0 0) x1 (nI (cntN S (cl x1) (S 0 1)))).2) = f from if_neg (by rw [hc9]; decide)]) hS (by rw [hc9]) (show 0 + 1 ≤ 1 by omega) (show 0 + 6 * 1 ≤ 6 * 1 by omega) dL_awakeAt_14
  · have h0 := exq_none hE (r1_le _ _ _)
    refine lv_i2l (v := ((r1 (S 0 0) x1 (nI (cntN S (cl x1) (S 0 1)))).2).toInt64) F.1 F.2.1 dL_awakeAt_7 rfl ?_
    refine k_last F hK.1 rfl hP hD hS dL_awakeAt_8 (fun H locs hP hD hS => ?_)
    refine lv_goto (tgt := 15) F.1 F.2.1 dL_awakeAt_9 (by decide) ?_
    refine lv_iconst (v := nI 0) F.1 F.2.1 dL_awakeAt_15 (by decide) ?_
    exact k_retLH F hr hlk hP (by rw [show ouF f ((r1 (S 0 0) x1 (nI (cntN S (cl x1) (S 0 1)))).1) ((r1 (S 0 0) x1 (nI (cntN S (cl x1) (S 0 1)))).2) = _ from if_pos h0]) hS (by rw [h0]) (show 0 + 1 ≤ 1 by omega) (show 0 + 6 * 1 ≤ 6 * 1 by omega) dL_awakeAt_16
set_option maxRecDepth 100000 in
set_option maxHeartbeats 4000000 in
theorem c_L_hissOf (l : Launch) (D : va_G) (cI cL : ClassId) (hst : l.stackTraces = false) (a b : Nat → Nat) (o : Nat) (f : Nat → Int64) (S S2 : Nat → Nat → Nat) (x1 x2 : Int32) (hI : Inv S) : LH l yL_hissOf wsL_hissOf 8 2 137 D [(cI, .int), (cL, .long)] [.ref (a 13), .int x1, .int x2, .ref o] (wOut cL o f ++ (wCo cI a b S S2)) (wOut cL o (ouF f ((rHiss S x1 x2).1) ((rHiss S x1 x2).2)) ++ (wCo cI a b S S2)) (nI ((rHiss S x1 x2).1)) := by
  refine k_bodyL (cc := cL_hissOf) (maxL := 5) (ret := (some .int)) (hh := [(0, 10, 13, 21), (0, 10, 17, 13)]) (by decide) rfl (Nat.le_of_ble_eq_true rfl) ?_
  intro p e s m args below meth c H ls F hr hlk hl hP hK hD hS hX hN het
  have F : CallFix p m c cL_hissOf 5 s args wsL_hissOf RL := F
  have hl : lv_has ls 5 [(0, .ref (a 13)), (1, .int x1), (2, .int x2), (3, .ref o)] := hl
  have hK1 : KK D [(cI, .int)] s := ⟨hK.1.sub (tys' := [(cI, .int)]) [0] rfl, hK.2⟩
  refine lv_aload_n F.1 F.2.1 dL_hissOf_0 rfl (lv_at hl 3 rfl) ?_
  refine lv_iconst (v := nI 0) F.1 F.2.1 dL_hissOf_1 (by decide) ?_
  refine lv_aload_n F.1 F.2.1 dL_hissOf_2 rfl (lv_at hl 0 rfl) ?_
  refine lv_iload_n F.1 F.2.1 dL_hissOf_3 rfl (lv_at hl 1 rfl) ?_
  refine lv_iload_n F.1 F.2.1 dL_hissOf_4 rfl (lv_at hl 2 rfl) ?_
  refine t_callX (n := 2) (rest := [.int (nI 0), .ref o]) (wr := wOut cL o f) F (c_X3_hissOf l D cI hst a b S S2 x1 x2 hI) gL_hissOf_X3_hissOf rfl (by decide +kernel) ⟨Nat.le_of_ble_eq_true rfl, Nat.le_of_ble_eq_true rfl⟩ rfl hl.1 rfl (Nat.le_of_ble_eq_true rfl) dL_hissOf_5 ⟨show 0 + 2 ≤ 2 by omega, show 0 + 6 * 2 ≤ 6 * 2 by omega⟩ hK1 hX hP hD hS wCo_ad (q0 := 0) (ci := 3) rfl rfl (fun E9 ce q9 H locs hE hP hS hce hcv hcl => ?_) (fun hE H locs hP hD hS => ?_)
  · rcases exq_s2 hE with ⟨hc9, rfl⟩ | ⟨hc9, rfl⟩
    · refine vx_catch (own := RL) (name := "java/lang/IndexOutOfBoundsException") F.2.2.2.1 [] ⟨0, 10, 13, 21⟩ [⟨0, 10, 17, 13⟩] (by rw [het]; rfl) (fun z hz => absurd hz List.not_mem_nil) (by decide) (by decide) (F.2.2.2.2 _ (List.mem_of_getElem? (i := 1) rfl)) (va_Nw.use rfl hX.2.2.2.2.2.1) hce hcv hcl ?_
      refine lv_astore (lv' := [(4, .ref q9), (0, .ref (a 13)), (1, .int x1), (2, .int x2), (3, .ref o)]) F.1 F.2.1 dL_hissOf_13 hl (by decide) rfl (fun ls hl => ?_)
      refine lv_iconst (v := nI 1) F.1 F.2.1 dL_hissOf_15 (by decide) ?_
      exact k_retLH F hr hlk hP (by rw [show ouF f ((rHiss S x1 x2).1) ((rHiss S x1 x2).2) = f from if_neg (by rw [hc9]; decide)]) hS (by rw [hc9]) (show 0 + 2 ≤ 2 by omega) (show 0 + 6 * 2 ≤ 6 * 2 by omega) dL_hissOf_16
    · refine vx_catch (own := RL) (name := "java/lang/IllegalArgumentException") F.2.2.2.1 [⟨0, 10, 13, 21⟩] ⟨0, 10, 17, 13⟩ [] (by rw [het]; rfl) (fun z hz => by obtain rfl := List.mem_singleton.mp hz; exact Or.inr ⟨by decide, "java/lang/IndexOutOfBoundsException", F.2.2.2.2 _ (List.mem_of_getElem? (i := 1) rfl), hN.1⟩) (by decide) (by decide) (F.2.2.2.2 _ (List.mem_of_getElem? (i := 2) rfl)) (va_Nw.use rfl hX.2.2.2.2.2.2.1) hce hcv hcl ?_
      refine lv_astore (lv' := [(4, .ref q9), (0, .ref (a 13)), (1, .int x1), (2, .int x2), (3, .ref o)]) F.1 F.2.1 dL_hissOf_17 hl (by decide) rfl (fun ls hl => ?_)
      refine lv_iconst (v := nI 2) F.1 F.2.1 dL_hissOf_19 (by decide) ?_
      exact k_retLH F hr hlk hP (by rw [show ouF f ((rHiss S x1 x2).1) ((rHiss S x1 x2).2) = f from if_neg (by rw [hc9]; decide)]) hS (by rw [hc9]) (show 0 + 2 ≤ 2 by omega) (show 0 + 6 * 2 ≤ 6 * 2 by omega) dL_hissOf_20
  · have h0 := exq_none hE (rHiss_le _ _ _)
    refine lv_i2l (v := ((rHiss S x1 x2).2).toInt64) F.1 F.2.1 dL_hissOf_8 rfl ?_
    refine k_last F hK.1 rfl hP hD hS dL_hissOf_9 (fun H locs hP hD hS => ?_)
    refine lv_goto (tgt := 21) F.1 F.2.1 dL_hissOf_10 (by decide) ?_
    refine lv_iconst (v := nI 0) F.1 F.2.1 dL_hissOf_21 (by decide) ?_
    exact k_retLH F hr hlk hP (by rw [show ouF f ((rHiss S x1 x2).1) ((rHiss S x1 x2).2) = _ from if_pos h0]) hS (by rw [h0]) (show 0 + 2 ≤ 2 by omega) (show 0 + 6 * 2 ≤ 6 * 2 by omega) dL_hissOf_22
set_option maxRecDepth 100000 in
set_option maxHeartbeats 4000000 in
theorem c_L_gateOf (l : Launch) (D : va_G) (cI cL : ClassId) (hst : l.stackTraces = false) (a b : Nat → Nat) (o : Nat) (f : Nat → Int64) (S S2 : Nat → Nat → Nat) (x1 : Int32) (hI : Inv S) : LH l yL_gateOf wsL_gateOf 9 1 157 D [(cI, .int), (cL, .long)] [.ref (a 13), .int x1, .ref o] (wOut cL o f ++ (wCo cI a b S S2)) (wOut cL o (ouF f ((r1 (S 0 1) x1 (nI (S 2 (cl x1)))).1) ((r1 (S 0 1) x1 (nI (S 2 (cl x1)))).2)) ++ (wCo cI a b S S2)) (nI ((r1 (S 0 1) x1 (nI (S 2 (cl x1)))).1)) := by
  refine k_bodyL (cc := cL_gateOf) (maxL := 4) (ret := (some .int)) (hh := [(0, 9, 12, 21)]) (by decide) rfl (Nat.le_of_ble_eq_true rfl) ?_
  intro p e s m args below meth c H ls F hr hlk hl hP hK hD hS hX hN het
  have F : CallFix p m c cL_gateOf 4 s args wsL_gateOf RL := F
  have hl : lv_has ls 4 [(0, .ref (a 13)), (1, .int x1), (2, .ref o)] := hl
  have hK1 : KK D [(cI, .int)] s := ⟨hK.1.sub (tys' := [(cI, .int)]) [0] rfl, hK.2⟩
  refine lv_aload_n F.1 F.2.1 dL_gateOf_0 rfl (lv_at hl 2 rfl) ?_
  refine lv_iconst (v := nI 0) F.1 F.2.1 dL_gateOf_1 (by decide) ?_
  refine lv_aload_n F.1 F.2.1 dL_gateOf_2 rfl (lv_at hl 0 rfl) ?_
  refine lv_iload_n F.1 F.2.1 dL_gateOf_3 rfl (lv_at hl 1 rfl) ?_
  refine t_callX (n := 1) (rest := [.int (nI 0), .ref o]) (wr := wOut cL o f) F (c_X3_gateOf l D cI hst a b S S2 x1 hI) gL_gateOf_X3_gateOf rfl (by decide +kernel) ⟨Nat.le_of_ble_eq_true rfl, Nat.le_of_ble_eq_true rfl⟩ rfl hl.1 rfl (Nat.le_of_ble_eq_true rfl) dL_gateOf_4 ⟨show 0 + 1 ≤ 1 by omega, show 0 + 6 * 1 ≤ 6 * 1 by omega⟩ hK1 hX hP hD hS wCo_ad (q0 := 0) (ci := 3) rfl rfl (fun E9 ce q9 H locs hE hP hS hce hcv hcl => ?_) (fun hE H locs hP hD hS => ?_)
  · rcases exq_s1 hE with ⟨hc9, rfl⟩
    · refine vx_catch (own := RL) (name := "java/lang/IndexOutOfBoundsException") F.2.2.2.1 [] ⟨0, 9, 12, 21⟩ [] (by rw [het]; rfl) (fun z hz => absurd hz List.not_mem_nil) (by decide) (by decide) (F.2.2.2.2 _ (List.mem_of_getElem? (i := 1) rfl)) (va_Nw.use rfl hX.2.2.2.2.2.1) hce hcv hcl ?_
      refine lv_astore_n (lv' := [(3, .ref q9), (0, .ref (a 13)), (1, .int x1), (2, .ref o)]) F.1 F.2.1 dL_gateOf_12 rfl hl (by decide) rfl (fun ls hl => ?_)
      refine lv_iconst (v := nI 1) F.1 F.2.1 dL_gateOf_13 (by decide) ?_
      exact k_retLH F hr hlk hP (by rw [show ouF f ((r1 (S 0 1) x1 (nI (S 2 (cl x1)))).1) ((r1 (S 0 1) x1 (nI (S 2 (cl x1)))).2) = f from if_neg (by rw [hc9]; decide)]) hS (by rw [hc9]) (show 0 + 1 ≤ 1 by omega) (show 0 + 6 * 1 ≤ 6 * 1 by omega) dL_gateOf_14
  · have h0 := exq_none hE (r1_le _ _ _)
    refine lv_i2l (v := ((r1 (S 0 1) x1 (nI (S 2 (cl x1)))).2).toInt64) F.1 F.2.1 dL_gateOf_7 rfl ?_
    refine k_last F hK.1 rfl hP hD hS dL_gateOf_8 (fun H locs hP hD hS => ?_)
    refine lv_goto (tgt := 15) F.1 F.2.1 dL_gateOf_9 (by decide) ?_
    refine lv_iconst (v := nI 0) F.1 F.2.1 dL_gateOf_15 (by decide) ?_
    exact k_retLH F hr hlk hP (by rw [show ouF f ((r1 (S 0 1) x1 (nI (S 2 (cl x1)))).1) ((r1 (S 0 1) x1 (nI (S 2 (cl x1)))).2) = _ from if_pos h0]) hS (by rw [h0]) (show 0 + 1 ≤ 1 by omega) (show 0 + 6 * 1 ≤ 6 * 1 by omega) dL_gateOf_16
set_option maxRecDepth 100000 in
set_option maxHeartbeats 4000000 in
theorem c_L_temperOf (l : Launch) (D : va_G) (cI cL : ClassId) (hst : l.stackTraces = false) (a b : Nat → Nat) (o : Nat) (f : Nat → Int64) (S S2 : Nat → Nat → Nat) (x1 : Int32) (hI : Inv S) : LH l yL_temperOf wsL_temperOf 9 1 157 D [(cI, .int), (cL, .long)] [.ref (a 13), .int x1, .ref o] (wOut cL o f ++ (wCo cI a b S S2)) (wOut cL o (ouF f ((r1 (S 0 1) x1 (nI (S 3 (cl x1)))).1) ((r1 (S 0 1) x1 (nI (S 3 (cl x1)))).2)) ++ (wCo cI a b S S2)) (nI ((r1 (S 0 1) x1 (nI (S 3 (cl x1)))).1)) := by
  refine k_bodyL (cc := cL_temperOf) (maxL := 4) (ret := (some .int)) (hh := [(0, 9, 12, 21)]) (by decide) rfl (Nat.le_of_ble_eq_true rfl) ?_
  intro p e s m args below meth c H ls F hr hlk hl hP hK hD hS hX hN het
  have F : CallFix p m c cL_temperOf 4 s args wsL_temperOf RL := F
  have hl : lv_has ls 4 [(0, .ref (a 13)), (1, .int x1), (2, .ref o)] := hl
  have hK1 : KK D [(cI, .int)] s := ⟨hK.1.sub (tys' := [(cI, .int)]) [0] rfl, hK.2⟩
  refine lv_aload_n F.1 F.2.1 dL_temperOf_0 rfl (lv_at hl 2 rfl) ?_
  refine lv_iconst (v := nI 0) F.1 F.2.1 dL_temperOf_1 (by decide) ?_
  refine lv_aload_n F.1 F.2.1 dL_temperOf_2 rfl (lv_at hl 0 rfl) ?_
  refine lv_iload_n F.1 F.2.1 dL_temperOf_3 rfl (lv_at hl 1 rfl) ?_
  refine t_callX (n := 1) (rest := [.int (nI 0), .ref o]) (wr := wOut cL o f) F (c_X3_temperOf l D cI hst a b S S2 x1 hI) gL_temperOf_X3_temperOf rfl (by decide +kernel) ⟨Nat.le_of_ble_eq_true rfl, Nat.le_of_ble_eq_true rfl⟩ rfl hl.1 rfl (Nat.le_of_ble_eq_true rfl) dL_temperOf_4 ⟨show 0 + 1 ≤ 1 by omega, show 0 + 6 * 1 ≤ 6 * 1 by omega⟩ hK1 hX hP hD hS wCo_ad (q0 := 0) (ci := 3) rfl rfl (fun E9 ce q9 H locs hE hP hS hce hcv hcl => ?_) (fun hE H locs hP hD hS => ?_)
  · rcases exq_s1 hE with ⟨hc9, rfl⟩
    · refine vx_catch (own := RL) (name := "java/lang/IndexOutOfBoundsException") F.2.2.2.1 [] ⟨0, 9, 12, 21⟩ [] (by rw [het]; rfl) (fun z hz => absurd hz List.not_mem_nil) (by decide) (by decide) (F.2.2.2.2 _ (List.mem_of_getElem? (i := 1) rfl)) (va_Nw.use rfl hX.2.2.2.2.2.1) hce hcv hcl ?_
      refine lv_astore_n (lv' := [(3, .ref q9), (0, .ref (a 13)), (1, .int x1), (2, .ref o)]) F.1 F.2.1 dL_temperOf_12 rfl hl (by decide) rfl (fun ls hl => ?_)
      refine lv_iconst (v := nI 1) F.1 F.2.1 dL_temperOf_13 (by decide) ?_
      exact k_retLH F hr hlk hP (by rw [show ouF f ((r1 (S 0 1) x1 (nI (S 3 (cl x1)))).1) ((r1 (S 0 1) x1 (nI (S 3 (cl x1)))).2) = f from if_neg (by rw [hc9]; decide)]) hS (by rw [hc9]) (show 0 + 1 ≤ 1 by omega) (show 0 + 6 * 1 ≤ 6 * 1 by omega) dL_temperOf_14
  · have h0 := exq_none hE (r1_le _ _ _)
    refine lv_i2l (v := ((r1 (S 0 1) x1 (nI (S 3 (cl x1)))).2).toInt64) F.1 F.2.1 dL_temperOf_7 rfl ?_
    refine k_last F hK.1 rfl hP hD hS dL_temperOf_8 (fun H locs hP hD hS => ?_)
    refine lv_goto (tgt := 15) F.1 F.2.1 dL_temperOf_9 (by decide) ?_
    refine lv_iconst (v := nI 0) F.1 F.2.1 dL_temperOf_15 (by decide) ?_
    exact k_retLH F hr hlk hP (by rw [show ouF f ((r1 (S 0 1) x1 (nI (S 3 (cl x1)))).1) ((r1 (S 0 1) x1 (nI (S 3 (cl x1)))).2) = _ from if_pos h0]) hS (by rw [h0]) (show 0 + 1 ≤ 1 by omega) (show 0 + 6 * 1 ≤ 6 * 1 by omega) dL_temperOf_16
set_option maxRecDepth 100000 in
set_option maxHeartbeats 4000000 in
theorem c_L_calmFor (l : Launch) (D : va_G) (cI cL : ClassId) (hst : l.stackTraces = false) (a b : Nat → Nat) (o : Nat) (f : Nat → Int64) (S S2 : Nat → Nat → Nat) (x1 : Int32) (hI : Inv S) : LH l yL_calmFor wsL_calmFor 9 1 157 D [(cI, .int), (cL, .long)] [.ref (a 13), .int x1, .ref o] (wOut cL o f ++ (wCo cI a b S S2)) (wOut cL o (ouF f ((r1 (S 0 1) x1 (nI (S 4 (cl x1)))).1) ((r1 (S 0 1) x1 (nI (S 4 (cl x1)))).2)) ++ (wCo cI a b S S2)) (nI ((r1 (S 0 1) x1 (nI (S 4 (cl x1)))).1)) := by
  refine k_bodyL (cc := cL_calmFor) (maxL := 4) (ret := (some .int)) (hh := [(0, 9, 12, 21)]) (by decide) rfl (Nat.le_of_ble_eq_true rfl) ?_
  intro p e s m args below meth c H ls F hr hlk hl hP hK hD hS hX hN het
  have F : CallFix p m c cL_calmFor 4 s args wsL_calmFor RL := F
  have hl : lv_has ls 4 [(0, .ref (a 13)), (1, .int x1), (2, .ref o)] := hl
  have hK1 : KK D [(cI, .int)] s := ⟨hK.1.sub (tys' := [(cI, .int)]) [0] rfl, hK.2⟩
  refine lv_aload_n F.1 F.2.1 dL_calmFor_0 rfl (lv_at hl 2 rfl) ?_
  refine lv_iconst (v := nI 0) F.1 F.2.1 dL_calmFor_1 (by decide) ?_
  refine lv_aload_n F.1 F.2.1 dL_calmFor_2 rfl (lv_at hl 0 rfl) ?_
  refine lv_iload_n F.1 F.2.1 dL_calmFor_3 rfl (lv_at hl 1 rfl) ?_
  refine t_callX (n := 1) (rest := [.int (nI 0), .ref o]) (wr := wOut cL o f) F (c_X3_calmFor l D cI hst a b S S2 x1 hI) gL_calmFor_X3_calmFor rfl (by decide +kernel) ⟨Nat.le_of_ble_eq_true rfl, Nat.le_of_ble_eq_true rfl⟩ rfl hl.1 rfl (Nat.le_of_ble_eq_true rfl) dL_calmFor_4 ⟨show 0 + 1 ≤ 1 by omega, show 0 + 6 * 1 ≤ 6 * 1 by omega⟩ hK1 hX hP hD hS wCo_ad (q0 := 0) (ci := 3) rfl rfl (fun E9 ce q9 H locs hE hP hS hce hcv hcl => ?_) (fun hE H locs hP hD hS => ?_)
  · rcases exq_s1 hE with ⟨hc9, rfl⟩
    · refine vx_catch (own := RL) (name := "java/lang/IndexOutOfBoundsException") F.2.2.2.1 [] ⟨0, 9, 12, 21⟩ [] (by rw [het]; rfl) (fun z hz => absurd hz List.not_mem_nil) (by decide) (by decide) (F.2.2.2.2 _ (List.mem_of_getElem? (i := 1) rfl)) (va_Nw.use rfl hX.2.2.2.2.2.1) hce hcv hcl ?_
      refine lv_astore_n (lv' := [(3, .ref q9), (0, .ref (a 13)), (1, .int x1), (2, .ref o)]) F.1 F.2.1 dL_calmFor_12 rfl hl (by decide) rfl (fun ls hl => ?_)
      refine lv_iconst (v := nI 1) F.1 F.2.1 dL_calmFor_13 (by decide) ?_
      exact k_retLH F hr hlk hP (by rw [show ouF f ((r1 (S 0 1) x1 (nI (S 4 (cl x1)))).1) ((r1 (S 0 1) x1 (nI (S 4 (cl x1)))).2) = f from if_neg (by rw [hc9]; decide)]) hS (by rw [hc9]) (show 0 + 1 ≤ 1 by omega) (show 0 + 6 * 1 ≤ 6 * 1 by omega) dL_calmFor_14
  · have h0 := exq_none hE (r1_le _ _ _)
    refine lv_i2l (v := ((r1 (S 0 1) x1 (nI (S 4 (cl x1)))).2).toInt64) F.1 F.2.1 dL_calmFor_7 rfl ?_
    refine k_last F hK.1 rfl hP hD hS dL_calmFor_8 (fun H locs hP hD hS => ?_)
    refine lv_goto (tgt := 15) F.1 F.2.1 dL_calmFor_9 (by decide) ?_
    refine lv_iconst (v := nI 0) F.1 F.2.1 dL_calmFor_15 (by decide) ?_
    exact k_retLH F hr hlk hP (by rw [show ouF f ((r1 (S 0 1) x1 (nI (S 4 (cl x1)))).1) ((r1 (S 0 1) x1 (nI (S 4 (cl x1)))).2) = _ from if_pos h0]) hS (by rw [h0]) (show 0 + 1 ≤ 1 by omega) (show 0 + 6 * 1 ≤ 6 * 1 by omega) dL_calmFor_16
set_option maxRecDepth 100000 in
set_option maxHeartbeats 4000000 in
theorem c_L_eatenBy (l : Launch) (D : va_G) (cI cL : ClassId) (hst : l.stackTraces = false) (a b : Nat → Nat) (o : Nat) (f : Nat → Int64) (S S2 : Nat → Nat → Nat) (x1 : Int32) (hI : Inv S) : LH l yL_eatenBy wsL_eatenBy 9 1 157 D [(cI, .int), (cL, .long)] [.ref (a 13), .int x1, .ref o] (wOut cL o f ++ (wCo cI a b S S2)) (wOut cL o (ouF f ((r1 (S 0 1) x1 (nI (S 5 (cl x1)))).1) ((r1 (S 0 1) x1 (nI (S 5 (cl x1)))).2)) ++ (wCo cI a b S S2)) (nI ((r1 (S 0 1) x1 (nI (S 5 (cl x1)))).1)) := by
  refine k_bodyL (cc := cL_eatenBy) (maxL := 4) (ret := (some .int)) (hh := [(0, 9, 12, 21)]) (by decide) rfl (Nat.le_of_ble_eq_true rfl) ?_
  intro p e s m args below meth c H ls F hr hlk hl hP hK hD hS hX hN het
  have F : CallFix p m c cL_eatenBy 4 s args wsL_eatenBy RL := F
  have hl : lv_has ls 4 [(0, .ref (a 13)), (1, .int x1), (2, .ref o)] := hl
  have hK1 : KK D [(cI, .int)] s := ⟨hK.1.sub (tys' := [(cI, .int)]) [0] rfl, hK.2⟩
  refine lv_aload_n F.1 F.2.1 dL_eatenBy_0 rfl (lv_at hl 2 rfl) ?_
  refine lv_iconst (v := nI 0) F.1 F.2.1 dL_eatenBy_1 (by decide) ?_
  refine lv_aload_n F.1 F.2.1 dL_eatenBy_2 rfl (lv_at hl 0 rfl) ?_
  refine lv_iload_n F.1 F.2.1 dL_eatenBy_3 rfl (lv_at hl 1 rfl) ?_
  refine t_callX (n := 1) (rest := [.int (nI 0), .ref o]) (wr := wOut cL o f) F (c_X3_eatenBy l D cI hst a b S S2 x1 hI) gL_eatenBy_X3_eatenBy rfl (by decide +kernel) ⟨Nat.le_of_ble_eq_true rfl, Nat.le_of_ble_eq_true rfl⟩ rfl hl.1 rfl (Nat.le_of_ble_eq_true rfl) dL_eatenBy_4 ⟨show 0 + 1 ≤ 1 by omega, show 0 + 6 * 1 ≤ 6 * 1 by omega⟩ hK1 hX hP hD hS wCo_ad (q0 := 0) (ci := 3) rfl rfl (fun E9 ce q9 H locs hE hP hS hce hcv hcl => ?_) (fun hE H locs hP hD hS => ?_)
  · rcases exq_s1 hE with ⟨hc9, rfl⟩
    · refine vx_catch (own := RL) (name := "java/lang/IndexOutOfBoundsException") F.2.2.2.1 [] ⟨0, 9, 12, 21⟩ [] (by rw [het]; rfl) (fun z hz => absurd hz List.not_mem_nil) (by decide) (by decide) (F.2.2.2.2 _ (List.mem_of_getElem? (i := 1) rfl)) (va_Nw.use rfl hX.2.2.2.2.2.1) hce hcv hcl ?_
      refine lv_astore_n (lv' := [(3, .ref q9), (0, .ref (a 13)), (1, .int x1), (2, .ref o)]) F.1 F.2.1 dL_eatenBy_12 rfl hl (by decide) rfl (fun ls hl => ?_)
      refine lv_iconst (v := nI 1) F.1 F.2.1 dL_eatenBy_13 (by decide) ?_
      exact k_retLH F hr hlk hP (by rw [show ouF f ((r1 (S 0 1) x1 (nI (S 5 (cl x1)))).1) ((r1 (S 0 1) x1 (nI (S 5 (cl x1)))).2) = f from if_neg (by rw [hc9]; decide)]) hS (by rw [hc9]) (show 0 + 1 ≤ 1 by omega) (show 0 + 6 * 1 ≤ 6 * 1 by omega) dL_eatenBy_14
  · have h0 := exq_none hE (r1_le _ _ _)
    refine lv_i2l (v := ((r1 (S 0 1) x1 (nI (S 5 (cl x1)))).2).toInt64) F.1 F.2.1 dL_eatenBy_7 rfl ?_
    refine k_last F hK.1 rfl hP hD hS dL_eatenBy_8 (fun H locs hP hD hS => ?_)
    refine lv_goto (tgt := 15) F.1 F.2.1 dL_eatenBy_9 (by decide) ?_
    refine lv_iconst (v := nI 0) F.1 F.2.1 dL_eatenBy_15 (by decide) ?_
    exact k_retLH F hr hlk hP (by rw [show ouF f ((r1 (S 0 1) x1 (nI (S 5 (cl x1)))).1) ((r1 (S 0 1) x1 (nI (S 5 (cl x1)))).2) = _ from if_pos h0]) hS (by rw [h0]) (show 0 + 1 ≤ 1 by omega) (show 0 + 6 * 1 ≤ 6 * 1 by omega) dL_eatenBy_16
set_option maxRecDepth 100000 in
set_option maxHeartbeats 4000000 in
theorem c_L_passedBy (l : Launch) (D : va_G) (cI cL : ClassId) (hst : l.stackTraces = false) (a b : Nat → Nat) (o : Nat) (f : Nat → Int64) (S S2 : Nat → Nat → Nat) (x1 : Int32) (hI : Inv S) : LH l yL_passedBy wsL_passedBy 9 1 157 D [(cI, .int), (cL, .long)] [.ref (a 13), .int x1, .ref o] (wOut cL o f ++ (wCo cI a b S S2)) (wOut cL o (ouF f ((r1 (S 0 2) x1 (nI (S 7 (cl x1)))).1) ((r1 (S 0 2) x1 (nI (S 7 (cl x1)))).2)) ++ (wCo cI a b S S2)) (nI ((r1 (S 0 2) x1 (nI (S 7 (cl x1)))).1)) := by
  refine k_bodyL (cc := cL_passedBy) (maxL := 4) (ret := (some .int)) (hh := [(0, 9, 12, 21)]) (by decide) rfl (Nat.le_of_ble_eq_true rfl) ?_
  intro p e s m args below meth c H ls F hr hlk hl hP hK hD hS hX hN het
  have F : CallFix p m c cL_passedBy 4 s args wsL_passedBy RL := F
  have hl : lv_has ls 4 [(0, .ref (a 13)), (1, .int x1), (2, .ref o)] := hl
  have hK1 : KK D [(cI, .int)] s := ⟨hK.1.sub (tys' := [(cI, .int)]) [0] rfl, hK.2⟩
  refine lv_aload_n F.1 F.2.1 dL_passedBy_0 rfl (lv_at hl 2 rfl) ?_
  refine lv_iconst (v := nI 0) F.1 F.2.1 dL_passedBy_1 (by decide) ?_
  refine lv_aload_n F.1 F.2.1 dL_passedBy_2 rfl (lv_at hl 0 rfl) ?_
  refine lv_iload_n F.1 F.2.1 dL_passedBy_3 rfl (lv_at hl 1 rfl) ?_
  refine t_callX (n := 1) (rest := [.int (nI 0), .ref o]) (wr := wOut cL o f) F (c_X3_passedBy l D cI hst a b S S2 x1 hI) gL_passedBy_X3_passedBy rfl (by decide +kernel) ⟨Nat.le_of_ble_eq_true rfl, Nat.le_of_ble_eq_true rfl⟩ rfl hl.1 rfl (Nat.le_of_ble_eq_true rfl) dL_passedBy_4 ⟨show 0 + 1 ≤ 1 by omega, show 0 + 6 * 1 ≤ 6 * 1 by omega⟩ hK1 hX hP hD hS wCo_ad (q0 := 0) (ci := 3) rfl rfl (fun E9 ce q9 H locs hE hP hS hce hcv hcl => ?_) (fun hE H locs hP hD hS => ?_)
  · rcases exq_s1 hE with ⟨hc9, rfl⟩
    · refine vx_catch (own := RL) (name := "java/lang/IndexOutOfBoundsException") F.2.2.2.1 [] ⟨0, 9, 12, 21⟩ [] (by rw [het]; rfl) (fun z hz => absurd hz List.not_mem_nil) (by decide) (by decide) (F.2.2.2.2 _ (List.mem_of_getElem? (i := 1) rfl)) (va_Nw.use rfl hX.2.2.2.2.2.1) hce hcv hcl ?_
      refine lv_astore_n (lv' := [(3, .ref q9), (0, .ref (a 13)), (1, .int x1), (2, .ref o)]) F.1 F.2.1 dL_passedBy_12 rfl hl (by decide) rfl (fun ls hl => ?_)
      refine lv_iconst (v := nI 1) F.1 F.2.1 dL_passedBy_13 (by decide) ?_
      exact k_retLH F hr hlk hP (by rw [show ouF f ((r1 (S 0 2) x1 (nI (S 7 (cl x1)))).1) ((r1 (S 0 2) x1 (nI (S 7 (cl x1)))).2) = f from if_neg (by rw [hc9]; decide)]) hS (by rw [hc9]) (show 0 + 1 ≤ 1 by omega) (show 0 + 6 * 1 ≤ 6 * 1 by omega) dL_passedBy_14
  · have h0 := exq_none hE (r1_le _ _ _)
    refine lv_i2l (v := ((r1 (S 0 2) x1 (nI (S 7 (cl x1)))).2).toInt64) F.1 F.2.1 dL_passedBy_7 rfl ?_
    refine k_last F hK.1 rfl hP hD hS dL_passedBy_8 (fun H locs hP hD hS => ?_)
    refine lv_goto (tgt := 15) F.1 F.2.1 dL_passedBy_9 (by decide) ?_
    refine lv_iconst (v := nI 0) F.1 F.2.1 dL_passedBy_15 (by decide) ?_
    exact k_retLH F hr hlk hP (by rw [show ouF f ((r1 (S 0 2) x1 (nI (S 7 (cl x1)))).1) ((r1 (S 0 2) x1 (nI (S 7 (cl x1)))).2) = _ from if_pos h0]) hS (by rw [h0]) (show 0 + 1 ≤ 1 by omega) (show 0 + 6 * 1 ≤ 6 * 1 by omega) dL_passedBy_16
set_option maxRecDepth 100000 in
set_option maxHeartbeats 4000000 in
theorem c_L_isInFarm (l : Launch) (D : va_G) (cI cL : ClassId) (hst : l.stackTraces = false) (a b : Nat → Nat) (o : Nat) (f : Nat → Int64) (S S2 : Nat → Nat → Nat) (x1 : Int32) (hI : Inv S) : LH l yL_isInFarm wsL_isInFarm 9 1 157 D [(cI, .int), (cL, .long)] [.ref (a 13), .int x1, .ref o] (wOut cL o f ++ (wCo cI a b S S2)) (wOut cL o (ouF f ((r1 (S 0 2) x1 (bI (S 0 0 ≤ S 7 (cl x1)))).1) ((r1 (S 0 2) x1 (bI (S 0 0 ≤ S 7 (cl x1)))).2)) ++ (wCo cI a b S S2)) (nI ((r1 (S 0 2) x1 (bI (S 0 0 ≤ S 7 (cl x1)))).1)) := by
  refine k_bodyL (cc := cL_isInFarm) (maxL := 4) (ret := (some .int)) (hh := [(0, 16, 19, 21)]) (by decide) rfl (Nat.le_of_ble_eq_true rfl) ?_
  intro p e s m args below meth c H ls F hr hlk hl hP hK hD hS hX hN het
  have F : CallFix p m c cL_isInFarm 4 s args wsL_isInFarm RL := F
  have hl : lv_has ls 4 [(0, .ref (a 13)), (1, .int x1), (2, .ref o)] := hl
  have hK1 : KK D [(cI, .int)] s := ⟨hK.1.sub (tys' := [(cI, .int)]) [0] rfl, hK.2⟩
  refine lv_aload_n F.1 F.2.1 dL_isInFarm_0 rfl (lv_at hl 2 rfl) ?_
  refine lv_iconst (v := nI 0) F.1 F.2.1 dL_isInFarm_1 (by decide) ?_
  refine lv_aload_n F.1 F.2.1 dL_isInFarm_2 rfl (lv_at hl 0 rfl) ?_
  refine lv_iload_n F.1 F.2.1 dL_isInFarm_3 rfl (lv_at hl 1 rfl) ?_
  refine t_callX (n := 1) (rest := [.int (nI 0), .ref o]) (wr := wOut cL o f) F (c_X3_isInFarm l D cI hst a b S S2 x1 hI) gL_isInFarm_X3_isInFarm rfl (by decide +kernel) ⟨Nat.le_of_ble_eq_true rfl, Nat.le_of_ble_eq_true rfl⟩ rfl hl.1 rfl (Nat.le_of_ble_eq_true rfl) dL_isInFarm_4 ⟨show 0 + 1 ≤ 1 by omega, show 0 + 6 * 1 ≤ 6 * 1 by omega⟩ hK1 hX hP hD hS wCo_ad (q0 := 0) (ci := 3) rfl rfl (fun E9 ce q9 H locs hE hP hS hce hcv hcl => ?_) (fun hE H locs hP hD hS => ?_)
  · rcases exq_s1 hE with ⟨hc9, rfl⟩
    · refine vx_catch (own := RL) (name := "java/lang/IndexOutOfBoundsException") F.2.2.2.1 [] ⟨0, 16, 19, 21⟩ [] (by rw [het]; rfl) (fun z hz => absurd hz List.not_mem_nil) (by decide) (by decide) (F.2.2.2.2 _ (List.mem_of_getElem? (i := 1) rfl)) (va_Nw.use rfl hX.2.2.2.2.2.1) hce hcv hcl ?_
      refine lv_astore_n (lv' := [(3, .ref q9), (0, .ref (a 13)), (1, .int x1), (2, .ref o)]) F.1 F.2.1 dL_isInFarm_19 rfl hl (by decide) rfl (fun ls hl => ?_)
      refine lv_iconst (v := nI 1) F.1 F.2.1 dL_isInFarm_20 (by decide) ?_
      exact k_retLH F hr hlk hP (by rw [show ouF f ((r1 (S 0 2) x1 (bI (S 0 0 ≤ S 7 (cl x1)))).1) ((r1 (S 0 2) x1 (bI (S 0 0 ≤ S 7 (cl x1)))).2) = f from if_neg (by rw [hc9]; decide)]) hS (by rw [hc9]) (show 0 + 1 ≤ 1 by omega) (show 0 + 6 * 1 ≤ 6 * 1 by omega) dL_isInFarm_21
  · have h0 := exq_none hE (r1_le _ _ _)
    refine lv_if_eq (tgt := 14) F.1 F.2.1 dL_isInFarm_7 (by decide) (fun h7 => ?_) (fun h7 => ?_)
    · refine lv_lconst (v := 0) F.1 F.2.1 dL_isInFarm_14 (by decide) ?_
      refine k_last F hK.1 rfl hP hD hS dL_isInFarm_15 (fun H locs hP hD hS => ?_)
      refine lv_goto (tgt := 22) F.1 F.2.1 dL_isInFarm_16 (by decide) ?_
      refine lv_iconst (v := nI 0) F.1 F.2.1 dL_isInFarm_22 (by decide) ?_
      exact k_retLH F hr hlk hP (by rw [show ouF f ((r1 (S 0 2) x1 (bI (S 0 0 ≤ S 7 (cl x1)))).1) ((r1 (S 0 2) x1 (bI (S 0 0 ≤ S 7 (cl x1)))).2) = _ from if_pos h0, bl0 h7]) hS (by rw [h0]) (show 0 + 1 ≤ 1 by omega) (show 0 + 6 * 1 ≤ 6 * 1 by omega) dL_isInFarm_23
    · refine lv_lconst (v := 1) F.1 F.2.1 dL_isInFarm_10 (by decide) ?_
      refine lv_goto (tgt := 15) F.1 F.2.1 dL_isInFarm_11 (by decide) ?_
      refine k_last F hK.1 rfl hP hD hS dL_isInFarm_15 (fun H locs hP hD hS => ?_)
      refine lv_goto (tgt := 22) F.1 F.2.1 dL_isInFarm_16 (by decide) ?_
      refine lv_iconst (v := nI 0) F.1 F.2.1 dL_isInFarm_22 (by decide) ?_
      exact k_retLH F hr hlk hP (by rw [show ouF f ((r1 (S 0 2) x1 (bI (S 0 0 ≤ S 7 (cl x1)))).1) ((r1 (S 0 2) x1 (bI (S 0 0 ≤ S 7 (cl x1)))).2) = _ from if_pos h0, bl1 h7]) hS (by rw [h0]) (show 0 + 1 ≤ 1 by omega) (show 0 + 6 * 1 ≤ 6 * 1 by omega) dL_isInFarm_23
set_option maxRecDepth 100000 in
set_option maxHeartbeats 4000000 in
theorem c_L_cornsOf (l : Launch) (D : va_G) (cI cL : ClassId) (hst : l.stackTraces = false) (a b : Nat → Nat) (o : Nat) (f : Nat → Int64) (S S2 : Nat → Nat → Nat) (x1 : Int32) (hI : Inv S) : LH l yL_cornsOf wsL_cornsOf 9 1 157 D [(cI, .int), (cL, .long)] [.ref (a 13), .int x1, .ref o] (wOut cL o f ++ (wCo cI a b S S2)) (wOut cL o (ouF f ((r1 (S 0 2) x1 (nI (S 8 (cl x1)))).1) ((r1 (S 0 2) x1 (nI (S 8 (cl x1)))).2)) ++ (wCo cI a b S S2)) (nI ((r1 (S 0 2) x1 (nI (S 8 (cl x1)))).1)) := by
  refine k_bodyL (cc := cL_cornsOf) (maxL := 4) (ret := (some .int)) (hh := [(0, 9, 12, 21)]) (by decide) rfl (Nat.le_of_ble_eq_true rfl) ?_
  intro p e s m args below meth c H ls F hr hlk hl hP hK hD hS hX hN het
  have F : CallFix p m c cL_cornsOf 4 s args wsL_cornsOf RL := F
  have hl : lv_has ls 4 [(0, .ref (a 13)), (1, .int x1), (2, .ref o)] := hl
  have hK1 : KK D [(cI, .int)] s := ⟨hK.1.sub (tys' := [(cI, .int)]) [0] rfl, hK.2⟩
  refine lv_aload_n F.1 F.2.1 dL_cornsOf_0 rfl (lv_at hl 2 rfl) ?_
  refine lv_iconst (v := nI 0) F.1 F.2.1 dL_cornsOf_1 (by decide) ?_
  refine lv_aload_n F.1 F.2.1 dL_cornsOf_2 rfl (lv_at hl 0 rfl) ?_
  refine lv_iload_n F.1 F.2.1 dL_cornsOf_3 rfl (lv_at hl 1 rfl) ?_
  refine t_callX (n := 1) (rest := [.int (nI 0), .ref o]) (wr := wOut cL o f) F (c_X3_cornsOf l D cI hst a b S S2 x1 hI) gL_cornsOf_X3_cornsOf rfl (by decide +kernel) ⟨Nat.le_of_ble_eq_true rfl, Nat.le_of_ble_eq_true rfl⟩ rfl hl.1 rfl (Nat.le_of_ble_eq_true rfl) dL_cornsOf_4 ⟨show 0 + 1 ≤ 1 by omega, show 0 + 6 * 1 ≤ 6 * 1 by omega⟩ hK1 hX hP hD hS wCo_ad (q0 := 0) (ci := 3) rfl rfl (fun E9 ce q9 H locs hE hP hS hce hcv hcl => ?_) (fun hE H locs hP hD hS => ?_)
  · rcases exq_s1 hE with ⟨hc9, rfl⟩
    · refine vx_catch (own := RL) (name := "java/lang/IndexOutOfBoundsException") F.2.2.2.1 [] ⟨0, 9, 12, 21⟩ [] (by rw [het]; rfl) (fun z hz => absurd hz List.not_mem_nil) (by decide) (by decide) (F.2.2.2.2 _ (List.mem_of_getElem? (i := 1) rfl)) (va_Nw.use rfl hX.2.2.2.2.2.1) hce hcv hcl ?_
      refine lv_astore_n (lv' := [(3, .ref q9), (0, .ref (a 13)), (1, .int x1), (2, .ref o)]) F.1 F.2.1 dL_cornsOf_12 rfl hl (by decide) rfl (fun ls hl => ?_)
      refine lv_iconst (v := nI 1) F.1 F.2.1 dL_cornsOf_13 (by decide) ?_
      exact k_retLH F hr hlk hP (by rw [show ouF f ((r1 (S 0 2) x1 (nI (S 8 (cl x1)))).1) ((r1 (S 0 2) x1 (nI (S 8 (cl x1)))).2) = f from if_neg (by rw [hc9]; decide)]) hS (by rw [hc9]) (show 0 + 1 ≤ 1 by omega) (show 0 + 6 * 1 ≤ 6 * 1 by omega) dL_cornsOf_14
  · have h0 := exq_none hE (r1_le _ _ _)
    refine lv_i2l (v := ((r1 (S 0 2) x1 (nI (S 8 (cl x1)))).2).toInt64) F.1 F.2.1 dL_cornsOf_7 rfl ?_
    refine k_last F hK.1 rfl hP hD hS dL_cornsOf_8 (fun H locs hP hD hS => ?_)
    refine lv_goto (tgt := 15) F.1 F.2.1 dL_cornsOf_9 (by decide) ?_
    refine lv_iconst (v := nI 0) F.1 F.2.1 dL_cornsOf_15 (by decide) ?_
    exact k_retLH F hr hlk hP (by rw [show ouF f ((r1 (S 0 2) x1 (nI (S 8 (cl x1)))).1) ((r1 (S 0 2) x1 (nI (S 8 (cl x1)))).2) = _ from if_pos h0]) hS (by rw [h0]) (show 0 + 1 ≤ 1 by omega) (show 0 + 6 * 1 ≤ 6 * 1 by omega) dL_cornsOf_16
set_option maxRecDepth 100000 in
set_option maxHeartbeats 4000000 in
theorem c_L_nerveOf (l : Launch) (D : va_G) (cI cL : ClassId) (hst : l.stackTraces = false) (a b : Nat → Nat) (o : Nat) (f : Nat → Int64) (S S2 : Nat → Nat → Nat) (x1 : Int32) (hI : Inv S) : LH l yL_nerveOf wsL_nerveOf 9 1 157 D [(cI, .int), (cL, .long)] [.ref (a 13), .int x1, .ref o] (wOut cL o f ++ (wCo cI a b S S2)) (wOut cL o (ouF f ((r1 (S 0 2) x1 (nI (S 9 (cl x1)))).1) ((r1 (S 0 2) x1 (nI (S 9 (cl x1)))).2)) ++ (wCo cI a b S S2)) (nI ((r1 (S 0 2) x1 (nI (S 9 (cl x1)))).1)) := by
  refine k_bodyL (cc := cL_nerveOf) (maxL := 4) (ret := (some .int)) (hh := [(0, 9, 12, 21)]) (by decide) rfl (Nat.le_of_ble_eq_true rfl) ?_
  intro p e s m args below meth c H ls F hr hlk hl hP hK hD hS hX hN het
  have F : CallFix p m c cL_nerveOf 4 s args wsL_nerveOf RL := F
  have hl : lv_has ls 4 [(0, .ref (a 13)), (1, .int x1), (2, .ref o)] := hl
  have hK1 : KK D [(cI, .int)] s := ⟨hK.1.sub (tys' := [(cI, .int)]) [0] rfl, hK.2⟩
  refine lv_aload_n F.1 F.2.1 dL_nerveOf_0 rfl (lv_at hl 2 rfl) ?_
  refine lv_iconst (v := nI 0) F.1 F.2.1 dL_nerveOf_1 (by decide) ?_
  refine lv_aload_n F.1 F.2.1 dL_nerveOf_2 rfl (lv_at hl 0 rfl) ?_
  refine lv_iload_n F.1 F.2.1 dL_nerveOf_3 rfl (lv_at hl 1 rfl) ?_
  refine t_callX (n := 1) (rest := [.int (nI 0), .ref o]) (wr := wOut cL o f) F (c_X3_nerveOf l D cI hst a b S S2 x1 hI) gL_nerveOf_X3_nerveOf rfl (by decide +kernel) ⟨Nat.le_of_ble_eq_true rfl, Nat.le_of_ble_eq_true rfl⟩ rfl hl.1 rfl (Nat.le_of_ble_eq_true rfl) dL_nerveOf_4 ⟨show 0 + 1 ≤ 1 by omega, show 0 + 6 * 1 ≤ 6 * 1 by omega⟩ hK1 hX hP hD hS wCo_ad (q0 := 0) (ci := 3) rfl rfl (fun E9 ce q9 H locs hE hP hS hce hcv hcl => ?_) (fun hE H locs hP hD hS => ?_)
  · rcases exq_s1 hE with ⟨hc9, rfl⟩
    · refine vx_catch (own := RL) (name := "java/lang/IndexOutOfBoundsException") F.2.2.2.1 [] ⟨0, 9, 12, 21⟩ [] (by rw [het]; rfl) (fun z hz => absurd hz List.not_mem_nil) (by decide) (by decide) (F.2.2.2.2 _ (List.mem_of_getElem? (i := 1) rfl)) (va_Nw.use rfl hX.2.2.2.2.2.1) hce hcv hcl ?_
      refine lv_astore_n (lv' := [(3, .ref q9), (0, .ref (a 13)), (1, .int x1), (2, .ref o)]) F.1 F.2.1 dL_nerveOf_12 rfl hl (by decide) rfl (fun ls hl => ?_)
      refine lv_iconst (v := nI 1) F.1 F.2.1 dL_nerveOf_13 (by decide) ?_
      exact k_retLH F hr hlk hP (by rw [show ouF f ((r1 (S 0 2) x1 (nI (S 9 (cl x1)))).1) ((r1 (S 0 2) x1 (nI (S 9 (cl x1)))).2) = f from if_neg (by rw [hc9]; decide)]) hS (by rw [hc9]) (show 0 + 1 ≤ 1 by omega) (show 0 + 6 * 1 ≤ 6 * 1 by omega) dL_nerveOf_14
  · have h0 := exq_none hE (r1_le _ _ _)
    refine lv_i2l (v := ((r1 (S 0 2) x1 (nI (S 9 (cl x1)))).2).toInt64) F.1 F.2.1 dL_nerveOf_7 rfl ?_
    refine k_last F hK.1 rfl hP hD hS dL_nerveOf_8 (fun H locs hP hD hS => ?_)
    refine lv_goto (tgt := 15) F.1 F.2.1 dL_nerveOf_9 (by decide) ?_
    refine lv_iconst (v := nI 0) F.1 F.2.1 dL_nerveOf_15 (by decide) ?_
    exact k_retLH F hr hlk hP (by rw [show ouF f ((r1 (S 0 2) x1 (nI (S 9 (cl x1)))).1) ((r1 (S 0 2) x1 (nI (S 9 (cl x1)))).2) = _ from if_pos h0]) hS (by rw [h0]) (show 0 + 1 ≤ 1 by omega) (show 0 + 6 * 1 ≤ 6 * 1 by omega) dL_nerveOf_16
set_option maxRecDepth 100000 in
set_option maxHeartbeats 4000000 in
theorem c_L_retreatOf (l : Launch) (D : va_G) (cI cL : ClassId) (hst : l.stackTraces = false) (a b : Nat → Nat) (o : Nat) (f : Nat → Int64) (S S2 : Nat → Nat → Nat) (x1 : Int32) (hI : Inv S) : LH l yL_retreatOf wsL_retreatOf 9 1 157 D [(cI, .int), (cL, .long)] [.ref (a 13), .int x1, .ref o] (wOut cL o f ++ (wCo cI a b S S2)) (wOut cL o (ouF f ((r1 (S 0 2) x1 (nI (S 10 (cl x1)))).1) ((r1 (S 0 2) x1 (nI (S 10 (cl x1)))).2)) ++ (wCo cI a b S S2)) (nI ((r1 (S 0 2) x1 (nI (S 10 (cl x1)))).1)) := by
  refine k_bodyL (cc := cL_retreatOf) (maxL := 4) (ret := (some .int)) (hh := [(0, 9, 12, 21)]) (by decide) rfl (Nat.le_of_ble_eq_true rfl) ?_
  intro p e s m args below meth c H ls F hr hlk hl hP hK hD hS hX hN het
  have F : CallFix p m c cL_retreatOf 4 s args wsL_retreatOf RL := F
  have hl : lv_has ls 4 [(0, .ref (a 13)), (1, .int x1), (2, .ref o)] := hl
  have hK1 : KK D [(cI, .int)] s := ⟨hK.1.sub (tys' := [(cI, .int)]) [0] rfl, hK.2⟩
  refine lv_aload_n F.1 F.2.1 dL_retreatOf_0 rfl (lv_at hl 2 rfl) ?_
  refine lv_iconst (v := nI 0) F.1 F.2.1 dL_retreatOf_1 (by decide) ?_
  refine lv_aload_n F.1 F.2.1 dL_retreatOf_2 rfl (lv_at hl 0 rfl) ?_
  refine lv_iload_n F.1 F.2.1 dL_retreatOf_3 rfl (lv_at hl 1 rfl) ?_
  refine t_callX (n := 1) (rest := [.int (nI 0), .ref o]) (wr := wOut cL o f) F (c_X3_retreatOf l D cI hst a b S S2 x1 hI) gL_retreatOf_X3_retreatOf rfl (by decide +kernel) ⟨Nat.le_of_ble_eq_true rfl, Nat.le_of_ble_eq_true rfl⟩ rfl hl.1 rfl (Nat.le_of_ble_eq_true rfl) dL_retreatOf_4 ⟨show 0 + 1 ≤ 1 by omega, show 0 + 6 * 1 ≤ 6 * 1 by omega⟩ hK1 hX hP hD hS wCo_ad (q0 := 0) (ci := 3) rfl rfl (fun E9 ce q9 H locs hE hP hS hce hcv hcl => ?_) (fun hE H locs hP hD hS => ?_)
  · rcases exq_s1 hE with ⟨hc9, rfl⟩
    · refine vx_catch (own := RL) (name := "java/lang/IndexOutOfBoundsException") F.2.2.2.1 [] ⟨0, 9, 12, 21⟩ [] (by rw [het]; rfl) (fun z hz => absurd hz List.not_mem_nil) (by decide) (by decide) (F.2.2.2.2 _ (List.mem_of_getElem? (i := 1) rfl)) (va_Nw.use rfl hX.2.2.2.2.2.1) hce hcv hcl ?_
      refine lv_astore_n (lv' := [(3, .ref q9), (0, .ref (a 13)), (1, .int x1), (2, .ref o)]) F.1 F.2.1 dL_retreatOf_12 rfl hl (by decide) rfl (fun ls hl => ?_)
      refine lv_iconst (v := nI 1) F.1 F.2.1 dL_retreatOf_13 (by decide) ?_
      exact k_retLH F hr hlk hP (by rw [show ouF f ((r1 (S 0 2) x1 (nI (S 10 (cl x1)))).1) ((r1 (S 0 2) x1 (nI (S 10 (cl x1)))).2) = f from if_neg (by rw [hc9]; decide)]) hS (by rw [hc9]) (show 0 + 1 ≤ 1 by omega) (show 0 + 6 * 1 ≤ 6 * 1 by omega) dL_retreatOf_14
  · have h0 := exq_none hE (r1_le _ _ _)
    refine lv_i2l (v := ((r1 (S 0 2) x1 (nI (S 10 (cl x1)))).2).toInt64) F.1 F.2.1 dL_retreatOf_7 rfl ?_
    refine k_last F hK.1 rfl hP hD hS dL_retreatOf_8 (fun H locs hP hD hS => ?_)
    refine lv_goto (tgt := 15) F.1 F.2.1 dL_retreatOf_9 (by decide) ?_
    refine lv_iconst (v := nI 0) F.1 F.2.1 dL_retreatOf_15 (by decide) ?_
    exact k_retLH F hr hlk hP (by rw [show ouF f ((r1 (S 0 2) x1 (nI (S 10 (cl x1)))).1) ((r1 (S 0 2) x1 (nI (S 10 (cl x1)))).2) = _ from if_pos h0]) hS (by rw [h0]) (show 0 + 1 ≤ 1 by omega) (show 0 + 6 * 1 ≤ 6 * 1 by omega) dL_retreatOf_16
set_option maxRecDepth 100000 in
set_option maxHeartbeats 4000000 in
theorem c_L_hissAt (l : Launch) (D : va_G) (cI cL : ClassId) (hst : l.stackTraces = false) (a b : Nat → Nat) (o : Nat) (f : Nat → Int64) (S S2 : Nat → Nat → Nat) (x1 : Int32) (hI : Inv S) : LH l yL_hissAt wsL_hissAt 9 1 157 D [(cI, .int), (cL, .long)] [.ref (a 13), .int x1, .ref o] (wOut cL o f ++ (wCo cI a b S S2)) (wOut cL o (ouF f ((r1 (S 0 2) x1 (nI (hisG S (S 7 (cl x1)) (S 6 (cl x1))))).1) ((r1 (S 0 2) x1 (nI (hisG S (S 7 (cl x1)) (S 6 (cl x1))))).2)) ++ (wCo cI a b S S2)) (nI ((r1 (S 0 2) x1 (nI (hisG S (S 7 (cl x1)) (S 6 (cl x1))))).1)) := by
  refine k_bodyL (cc := cL_hissAt) (maxL := 4) (ret := (some .int)) (hh := [(0, 9, 12, 21)]) (by decide) rfl (Nat.le_of_ble_eq_true rfl) ?_
  intro p e s m args below meth c H ls F hr hlk hl hP hK hD hS hX hN het
  have F : CallFix p m c cL_hissAt 4 s args wsL_hissAt RL := F
  have hl : lv_has ls 4 [(0, .ref (a 13)), (1, .int x1), (2, .ref o)] := hl
  have hK1 : KK D [(cI, .int)] s := ⟨hK.1.sub (tys' := [(cI, .int)]) [0] rfl, hK.2⟩
  refine lv_aload_n F.1 F.2.1 dL_hissAt_0 rfl (lv_at hl 2 rfl) ?_
  refine lv_iconst (v := nI 0) F.1 F.2.1 dL_hissAt_1 (by decide) ?_
  refine lv_aload_n F.1 F.2.1 dL_hissAt_2 rfl (lv_at hl 0 rfl) ?_
  refine lv_iload_n F.1 F.2.1 dL_hissAt_3 rfl (lv_at hl 1 rfl) ?_
  refine t_callX (n := 1) (rest := [.int (nI 0), .ref o]) (wr := wOut cL o f) F (c_X3_hissAt l D cI hst a b S S2 x1 hI) gL_hissAt_X3_hissAt rfl (by decide +kernel) ⟨Nat.le_of_ble_eq_true rfl, Nat.le_of_ble_eq_true rfl⟩ rfl hl.1 rfl (Nat.le_of_ble_eq_true rfl) dL_hissAt_4 ⟨show 0 + 1 ≤ 1 by omega, show 0 + 6 * 1 ≤ 6 * 1 by omega⟩ hK1 hX hP hD hS wCo_ad (q0 := 0) (ci := 3) rfl rfl (fun E9 ce q9 H locs hE hP hS hce hcv hcl => ?_) (fun hE H locs hP hD hS => ?_)
  · rcases exq_s1 hE with ⟨hc9, rfl⟩
    · refine vx_catch (own := RL) (name := "java/lang/IndexOutOfBoundsException") F.2.2.2.1 [] ⟨0, 9, 12, 21⟩ [] (by rw [het]; rfl) (fun z hz => absurd hz List.not_mem_nil) (by decide) (by decide) (F.2.2.2.2 _ (List.mem_of_getElem? (i := 1) rfl)) (va_Nw.use rfl hX.2.2.2.2.2.1) hce hcv hcl ?_
      refine lv_astore_n (lv' := [(3, .ref q9), (0, .ref (a 13)), (1, .int x1), (2, .ref o)]) F.1 F.2.1 dL_hissAt_12 rfl hl (by decide) rfl (fun ls hl => ?_)
      refine lv_iconst (v := nI 1) F.1 F.2.1 dL_hissAt_13 (by decide) ?_
      exact k_retLH F hr hlk hP (by rw [show ouF f ((r1 (S 0 2) x1 (nI (hisG S (S 7 (cl x1)) (S 6 (cl x1))))).1) ((r1 (S 0 2) x1 (nI (hisG S (S 7 (cl x1)) (S 6 (cl x1))))).2) = f from if_neg (by rw [hc9]; decide)]) hS (by rw [hc9]) (show 0 + 1 ≤ 1 by omega) (show 0 + 6 * 1 ≤ 6 * 1 by omega) dL_hissAt_14
  · have h0 := exq_none hE (r1_le _ _ _)
    refine lv_i2l (v := ((r1 (S 0 2) x1 (nI (hisG S (S 7 (cl x1)) (S 6 (cl x1))))).2).toInt64) F.1 F.2.1 dL_hissAt_7 rfl ?_
    refine k_last F hK.1 rfl hP hD hS dL_hissAt_8 (fun H locs hP hD hS => ?_)
    refine lv_goto (tgt := 15) F.1 F.2.1 dL_hissAt_9 (by decide) ?_
    refine lv_iconst (v := nI 0) F.1 F.2.1 dL_hissAt_15 (by decide) ?_
    exact k_retLH F hr hlk hP (by rw [show ouF f ((r1 (S 0 2) x1 (nI (hisG S (S 7 (cl x1)) (S 6 (cl x1))))).1) ((r1 (S 0 2) x1 (nI (hisG S (S 7 (cl x1)) (S 6 (cl x1))))).2) = _ from if_pos h0]) hS (by rw [h0]) (show 0 + 1 ≤ 1 by omega) (show 0 + 6 * 1 ≤ 6 * 1 by omega) dL_hissAt_16
set_option maxRecDepth 100000 in
set_option maxHeartbeats 4000000 in
theorem c_L_gradeFor (l : Launch) (D : va_G) (cI cL : ClassId) (hst : l.stackTraces = false) (a b : Nat → Nat) (o : Nat) (f : Nat → Int64) (S S2 : Nat → Nat → Nat) (x1 : Int32) (hI : Inv S) : LH l yL_gradeFor wsL_gradeFor 9 1 157 D [(cI, .int), (cL, .long)] [.ref (a 13), .int x1, .ref o] (wOut cL o f ++ (wCo cI a b S S2)) (wOut cL o (ouF f ((r1 (S 0 2) x1 (nI (grdN (hisG S (S 7 (cl x1)) (S 6 (cl x1)))))).1) ((r1 (S 0 2) x1 (nI (grdN (hisG S (S 7 (cl x1)) (S 6 (cl x1)))))).2)) ++ (wCo cI a b S S2)) (nI ((r1 (S 0 2) x1 (nI (grdN (hisG S (S 7 (cl x1)) (S 6 (cl x1)))))).1)) := by
  refine k_bodyL (cc := cL_gradeFor) (maxL := 4) (ret := (some .int)) (hh := [(0, 9, 12, 21)]) (by decide) rfl (Nat.le_of_ble_eq_true rfl) ?_
  intro p e s m args below meth c H ls F hr hlk hl hP hK hD hS hX hN het
  have F : CallFix p m c cL_gradeFor 4 s args wsL_gradeFor RL := F
  have hl : lv_has ls 4 [(0, .ref (a 13)), (1, .int x1), (2, .ref o)] := hl
  have hK1 : KK D [(cI, .int)] s := ⟨hK.1.sub (tys' := [(cI, .int)]) [0] rfl, hK.2⟩
  refine lv_aload_n F.1 F.2.1 dL_gradeFor_0 rfl (lv_at hl 2 rfl) ?_
  refine lv_iconst (v := nI 0) F.1 F.2.1 dL_gradeFor_1 (by decide) ?_
  refine lv_aload_n F.1 F.2.1 dL_gradeFor_2 rfl (lv_at hl 0 rfl) ?_
  refine lv_iload_n F.1 F.2.1 dL_gradeFor_3 rfl (lv_at hl 1 rfl) ?_
  refine t_callX (n := 1) (rest := [.int (nI 0), .ref o]) (wr := wOut cL o f) F (c_X3_gradeFor l D cI hst a b S S2 x1 hI) gL_gradeFor_X3_gradeFor rfl (by decide +kernel) ⟨Nat.le_of_ble_eq_true rfl, Nat.le_of_ble_eq_true rfl⟩ rfl hl.1 rfl (Nat.le_of_ble_eq_true rfl) dL_gradeFor_4 ⟨show 0 + 1 ≤ 1 by omega, show 0 + 6 * 1 ≤ 6 * 1 by omega⟩ hK1 hX hP hD hS wCo_ad (q0 := 0) (ci := 3) rfl rfl (fun E9 ce q9 H locs hE hP hS hce hcv hcl => ?_) (fun hE H locs hP hD hS => ?_)
  · rcases exq_s1 hE with ⟨hc9, rfl⟩
    · refine vx_catch (own := RL) (name := "java/lang/IndexOutOfBoundsException") F.2.2.2.1 [] ⟨0, 9, 12, 21⟩ [] (by rw [het]; rfl) (fun z hz => absurd hz List.not_mem_nil) (by decide) (by decide) (F.2.2.2.2 _ (List.mem_of_getElem? (i := 1) rfl)) (va_Nw.use rfl hX.2.2.2.2.2.1) hce hcv hcl ?_
      refine lv_astore_n (lv' := [(3, .ref q9), (0, .ref (a 13)), (1, .int x1), (2, .ref o)]) F.1 F.2.1 dL_gradeFor_12 rfl hl (by decide) rfl (fun ls hl => ?_)
      refine lv_iconst (v := nI 1) F.1 F.2.1 dL_gradeFor_13 (by decide) ?_
      exact k_retLH F hr hlk hP (by rw [show ouF f ((r1 (S 0 2) x1 (nI (grdN (hisG S (S 7 (cl x1)) (S 6 (cl x1)))))).1) ((r1 (S 0 2) x1 (nI (grdN (hisG S (S 7 (cl x1)) (S 6 (cl x1)))))).2) = f from if_neg (by rw [hc9]; decide)]) hS (by rw [hc9]) (show 0 + 1 ≤ 1 by omega) (show 0 + 6 * 1 ≤ 6 * 1 by omega) dL_gradeFor_14
  · have h0 := exq_none hE (r1_le _ _ _)
    refine lv_i2l (v := ((r1 (S 0 2) x1 (nI (grdN (hisG S (S 7 (cl x1)) (S 6 (cl x1)))))).2).toInt64) F.1 F.2.1 dL_gradeFor_7 rfl ?_
    refine k_last F hK.1 rfl hP hD hS dL_gradeFor_8 (fun H locs hP hD hS => ?_)
    refine lv_goto (tgt := 15) F.1 F.2.1 dL_gradeFor_9 (by decide) ?_
    refine lv_iconst (v := nI 0) F.1 F.2.1 dL_gradeFor_15 (by decide) ?_
    exact k_retLH F hr hlk hP (by rw [show ouF f ((r1 (S 0 2) x1 (nI (grdN (hisG S (S 7 (cl x1)) (S 6 (cl x1)))))).1) ((r1 (S 0 2) x1 (nI (grdN (hisG S (S 7 (cl x1)) (S 6 (cl x1)))))).2) = _ from if_pos h0]) hS (by rw [h0]) (show 0 + 1 ≤ 1 by omega) (show 0 + 6 * 1 ≤ 6 * 1 by omega) dL_gradeFor_16
set_option maxRecDepth 100000 in
set_option maxHeartbeats 4000000 in
theorem c_L_dares (l : Launch) (D : va_G) (cI cL : ClassId) (hst : l.stackTraces = false) (a b : Nat → Nat) (o : Nat) (f : Nat → Int64) (S S2 : Nat → Nat → Nat) (x1 : Int32) (hI : Inv S) : LH l yL_dares wsL_dares 9 1 157 D [(cI, .int), (cL, .long)] [.ref (a 13), .int x1, .ref o] (wOut cL o f ++ (wCo cI a b S S2)) (wOut cL o (ouF f ((r1 (S 0 2) x1 (bI (dareP S (cl x1)))).1) ((r1 (S 0 2) x1 (bI (dareP S (cl x1)))).2)) ++ (wCo cI a b S S2)) (nI ((r1 (S 0 2) x1 (bI (dareP S (cl x1)))).1)) := by
  refine k_bodyL (cc := cL_dares) (maxL := 4) (ret := (some .int)) (hh := [(0, 16, 19, 21)]) (by decide) rfl (Nat.le_of_ble_eq_true rfl) ?_
  intro p e s m args below meth c H ls F hr hlk hl hP hK hD hS hX hN het
  have F : CallFix p m c cL_dares 4 s args wsL_dares RL := F
  have hl : lv_has ls 4 [(0, .ref (a 13)), (1, .int x1), (2, .ref o)] := hl
  have hK1 : KK D [(cI, .int)] s := ⟨hK.1.sub (tys' := [(cI, .int)]) [0] rfl, hK.2⟩
  refine lv_aload_n F.1 F.2.1 dL_dares_0 rfl (lv_at hl 2 rfl) ?_
  refine lv_iconst (v := nI 0) F.1 F.2.1 dL_dares_1 (by decide) ?_
  refine lv_aload_n F.1 F.2.1 dL_dares_2 rfl (lv_at hl 0 rfl) ?_
  refine lv_iload_n F.1 F.2.1 dL_dares_3 rfl (lv_at hl 1 rfl) ?_
  refine t_callX (n := 1) (rest := [.int (nI 0), .ref o]) (wr := wOut cL o f) F (c_X3_dares l D cI hst a b S S2 x1 hI) gL_dares_X3_dares rfl (by decide +kernel) ⟨Nat.le_of_ble_eq_true rfl, Nat.le_of_ble_eq_true rfl⟩ rfl hl.1 rfl (Nat.le_of_ble_eq_true rfl) dL_dares_4 ⟨show 0 + 1 ≤ 1 by omega, show 0 + 6 * 1 ≤ 6 * 1 by omega⟩ hK1 hX hP hD hS wCo_ad (q0 := 0) (ci := 3) rfl rfl (fun E9 ce q9 H locs hE hP hS hce hcv hcl => ?_) (fun hE H locs hP hD hS => ?_)
  · rcases exq_s1 hE with ⟨hc9, rfl⟩
    · refine vx_catch (own := RL) (name := "java/lang/IndexOutOfBoundsException") F.2.2.2.1 [] ⟨0, 16, 19, 21⟩ [] (by rw [het]; rfl) (fun z hz => absurd hz List.not_mem_nil) (by decide) (by decide) (F.2.2.2.2 _ (List.mem_of_getElem? (i := 1) rfl)) (va_Nw.use rfl hX.2.2.2.2.2.1) hce hcv hcl ?_
      refine lv_astore_n (lv' := [(3, .ref q9), (0, .ref (a 13)), (1, .int x1), (2, .ref o)]) F.1 F.2.1 dL_dares_19 rfl hl (by decide) rfl (fun ls hl => ?_)
      refine lv_iconst (v := nI 1) F.1 F.2.1 dL_dares_20 (by decide) ?_
      exact k_retLH F hr hlk hP (by rw [show ouF f ((r1 (S 0 2) x1 (bI (dareP S (cl x1)))).1) ((r1 (S 0 2) x1 (bI (dareP S (cl x1)))).2) = f from if_neg (by rw [hc9]; decide)]) hS (by rw [hc9]) (show 0 + 1 ≤ 1 by omega) (show 0 + 6 * 1 ≤ 6 * 1 by omega) dL_dares_21
  · have h0 := exq_none hE (r1_le _ _ _)
    refine lv_if_eq (tgt := 14) F.1 F.2.1 dL_dares_7 (by decide) (fun h7 => ?_) (fun h7 => ?_)
    · refine lv_lconst (v := 0) F.1 F.2.1 dL_dares_14 (by decide) ?_
      refine k_last F hK.1 rfl hP hD hS dL_dares_15 (fun H locs hP hD hS => ?_)
      refine lv_goto (tgt := 22) F.1 F.2.1 dL_dares_16 (by decide) ?_
      refine lv_iconst (v := nI 0) F.1 F.2.1 dL_dares_22 (by decide) ?_
      exact k_retLH F hr hlk hP (by rw [show ouF f ((r1 (S 0 2) x1 (bI (dareP S (cl x1)))).1) ((r1 (S 0 2) x1 (bI (dareP S (cl x1)))).2) = _ from if_pos h0, bl0 h7]) hS (by rw [h0]) (show 0 + 1 ≤ 1 by omega) (show 0 + 6 * 1 ≤ 6 * 1 by omega) dL_dares_23
    · refine lv_lconst (v := 1) F.1 F.2.1 dL_dares_10 (by decide) ?_
      refine lv_goto (tgt := 15) F.1 F.2.1 dL_dares_11 (by decide) ?_
      refine k_last F hK.1 rfl hP hD hS dL_dares_15 (fun H locs hP hD hS => ?_)
      refine lv_goto (tgt := 22) F.1 F.2.1 dL_dares_16 (by decide) ?_
      refine lv_iconst (v := nI 0) F.1 F.2.1 dL_dares_22 (by decide) ?_
      exact k_retLH F hr hlk hP (by rw [show ouF f ((r1 (S 0 2) x1 (bI (dareP S (cl x1)))).1) ((r1 (S 0 2) x1 (bI (dareP S (cl x1)))).2) = _ from if_pos h0, bl1 h7]) hS (by rw [h0]) (show 0 + 1 ≤ 1 by omega) (show 0 + 6 * 1 ≤ 6 * 1 by omega) dL_dares_23
set_option maxRecDepth 100000 in
set_option maxHeartbeats 4000000 in
theorem c_L_beatsUntilIn (l : Launch) (D : va_G) (cI cL : ClassId) (hst : l.stackTraces = false) (a b : Nat → Nat) (o : Nat) (f : Nat → Int64) (S S2 : Nat → Nat → Nat) (x1 : Int32) (hI : Inv S) : LH l yL_beatsUntilIn wsL_beatsUntilIn 9 1 157 D [(cI, .int), (cL, .long)] [.ref (a 13), .int x1, .ref o] (wOut cL o f ++ (wCo cI a b S S2)) (wOut cL o (ouF f ((r1 (S 0 2) x1 (arrI S (cl x1) 60)).1) ((r1 (S 0 2) x1 (arrI S (cl x1) 60)).2)) ++ (wCo cI a b S (if okI (S 0 2) x1 then untS S (cl x1) else S2))) (nI ((r1 (S 0 2) x1 (arrI S (cl x1) 60)).1)) := by
  refine k_bodyL (cc := cL_beatsUntilIn) (maxL := 4) (ret := (some .int)) (hh := [(0, 9, 12, 21)]) (by decide) rfl (Nat.le_of_ble_eq_true rfl) ?_
  intro p e s m args below meth c H ls F hr hlk hl hP hK hD hS hX hN het
  have F : CallFix p m c cL_beatsUntilIn 4 s args wsL_beatsUntilIn RL := F
  have hl : lv_has ls 4 [(0, .ref (a 13)), (1, .int x1), (2, .ref o)] := hl
  have hK1 : KK D [(cI, .int)] s := ⟨hK.1.sub (tys' := [(cI, .int)]) [0] rfl, hK.2⟩
  refine lv_aload_n F.1 F.2.1 dL_beatsUntilIn_0 rfl (lv_at hl 2 rfl) ?_
  refine lv_iconst (v := nI 0) F.1 F.2.1 dL_beatsUntilIn_1 (by decide) ?_
  refine lv_aload_n F.1 F.2.1 dL_beatsUntilIn_2 rfl (lv_at hl 0 rfl) ?_
  refine lv_iload_n F.1 F.2.1 dL_beatsUntilIn_3 rfl (lv_at hl 1 rfl) ?_
  refine t_callX (n := 1) (rest := [.int (nI 0), .ref o]) (wr := wOut cL o f) F (c_X3_beatsUntilIn l D cI hst a b S S2 x1 hI) gL_beatsUntilIn_X3_beatsUntilIn rfl (by decide +kernel) ⟨Nat.le_of_ble_eq_true rfl, Nat.le_of_ble_eq_true rfl⟩ rfl hl.1 rfl (Nat.le_of_ble_eq_true rfl) dL_beatsUntilIn_4 ⟨show 0 + 1 ≤ 1 by omega, show 0 + 6 * 1 ≤ 6 * 1 by omega⟩ hK1 hX hP hD hS wCo_ad (q0 := 0) (ci := 3) rfl rfl (fun E9 ce q9 H locs hE hP hS hce hcv hcl => ?_) (fun hE H locs hP hD hS => ?_)
  · rcases exq_s1 hE with ⟨hc9, rfl⟩
    · refine vx_catch (own := RL) (name := "java/lang/IndexOutOfBoundsException") F.2.2.2.1 [] ⟨0, 9, 12, 21⟩ [] (by rw [het]; rfl) (fun z hz => absurd hz List.not_mem_nil) (by decide) (by decide) (F.2.2.2.2 _ (List.mem_of_getElem? (i := 1) rfl)) (va_Nw.use rfl hX.2.2.2.2.2.1) hce hcv hcl ?_
      refine lv_astore_n (lv' := [(3, .ref q9), (0, .ref (a 13)), (1, .int x1), (2, .ref o)]) F.1 F.2.1 dL_beatsUntilIn_12 rfl hl (by decide) rfl (fun ls hl => ?_)
      refine lv_iconst (v := nI 1) F.1 F.2.1 dL_beatsUntilIn_13 (by decide) ?_
      exact k_retLH F hr hlk hP (by rw [show ouF f ((r1 (S 0 2) x1 (arrI S (cl x1) 60)).1) ((r1 (S 0 2) x1 (arrI S (cl x1) 60)).2) = f from if_neg (by rw [hc9]; decide)]; rw [if_neg (r1_no hc9)]) hS (by rw [hc9]) (show 0 + 1 ≤ 1 by omega) (show 0 + 6 * 1 ≤ 6 * 1 by omega) dL_beatsUntilIn_14
  · have h0 := exq_none hE (r1_le _ _ _)
    refine lv_i2l (v := ((r1 (S 0 2) x1 (arrI S (cl x1) 60)).2).toInt64) F.1 F.2.1 dL_beatsUntilIn_7 rfl ?_
    refine k_last F hK.1 rfl hP hD hS dL_beatsUntilIn_8 (fun H locs hP hD hS => ?_)
    refine lv_goto (tgt := 15) F.1 F.2.1 dL_beatsUntilIn_9 (by decide) ?_
    refine lv_iconst (v := nI 0) F.1 F.2.1 dL_beatsUntilIn_15 (by decide) ?_
    exact k_retLH F hr hlk hP (by rw [show ouF f ((r1 (S 0 2) x1 (arrI S (cl x1) 60)).1) ((r1 (S 0 2) x1 (arrI S (cl x1) 60)).2) = _ from if_pos h0]) hS (by rw [h0]) (show 0 + 1 ≤ 1 by omega) (show 0 + 6 * 1 ≤ 6 * 1 by omega) dL_beatsUntilIn_16
set_option maxRecDepth 100000 in
set_option maxHeartbeats 4000000 in
theorem c_L_inFarmAfter (l : Launch) (D : va_G) (cI cL : ClassId) (hst : l.stackTraces = false) (a b : Nat → Nat) (o : Nat) (f : Nat → Int64) (S S2 : Nat → Nat → Nat) (x1 : Int32) (hI : Inv S) : LH l yL_inFarmAfter wsL_inFarmAfter 8 1 156 D [(cI, .int), (cL, .long)] [.ref (a 13), .int x1, .ref o] (wOut cL o f ++ (wCo cI a b S S2)) (wOut cL o (ouF f ((rAfter S x1).1) ((rAfter S x1).2)) ++ (wCo cI a b S (if okR 1 60 x1 then beatsN S (cl x1) else S2))) (nI ((rAfter S x1).1)) := by
  refine k_bodyL (cc := cL_inFarmAfter) (maxL := 4) (ret := (some .int)) (hh := [(0, 9, 12, 13)]) (by decide) rfl (Nat.le_of_ble_eq_true rfl) ?_
  intro p e s m args below meth c H ls F hr hlk hl hP hK hD hS hX hN het
  have F : CallFix p m c cL_inFarmAfter 4 s args wsL_inFarmAfter RL := F
  have hl : lv_has ls 4 [(0, .ref (a 13)), (1, .int x1), (2, .ref o)] := hl
  have hK1 : KK D [(cI, .int)] s := ⟨hK.1.sub (tys' := [(cI, .int)]) [0] rfl, hK.2⟩
  refine lv_aload_n F.1 F.2.1 dL_inFarmAfter_0 rfl (lv_at hl 2 rfl) ?_
  refine lv_iconst (v := nI 0) F.1 F.2.1 dL_inFarmAfter_1 (by decide) ?_
  refine lv_aload_n F.1 F.2.1 dL_inFarmAfter_2 rfl (lv_at hl 0 rfl) ?_
  refine lv_iload_n F.1 F.2.1 dL_inFarmAfter_3 rfl (lv_at hl 1 rfl) ?_
  refine t_callX (n := 1) (rest := [.int (nI 0), .ref o]) (wr := wOut cL o f) F (c_X3_inFarmAfter l D cI hst a b S S2 x1 hI) gL_inFarmAfter_X3_inFarmAfter rfl (by decide +kernel) ⟨Nat.le_of_ble_eq_true rfl, Nat.le_of_ble_eq_true rfl⟩ rfl hl.1 rfl (Nat.le_of_ble_eq_true rfl) dL_inFarmAfter_4 ⟨show 0 + 1 ≤ 1 by omega, show 0 + 6 * 1 ≤ 6 * 1 by omega⟩ hK1 hX hP hD hS wCo_ad (q0 := 0) (ci := 3) rfl rfl (fun E9 ce q9 H locs hE hP hS hce hcv hcl => ?_) (fun hE H locs hP hD hS => ?_)
  · rcases exq_s1 hE with ⟨hc9, rfl⟩
    · refine vx_catch (own := RL) (name := "java/lang/IllegalArgumentException") F.2.2.2.1 [] ⟨0, 9, 12, 13⟩ [] (by rw [het]; rfl) (fun z hz => absurd hz List.not_mem_nil) (by decide) (by decide) (F.2.2.2.2 _ (List.mem_of_getElem? (i := 1) rfl)) (va_Nw.use rfl hX.2.2.2.2.2.2.1) hce hcv hcl ?_
      refine lv_astore_n (lv' := [(3, .ref q9), (0, .ref (a 13)), (1, .int x1), (2, .ref o)]) F.1 F.2.1 dL_inFarmAfter_12 rfl hl (by decide) rfl (fun ls hl => ?_)
      refine lv_iconst (v := nI 1) F.1 F.2.1 dL_inFarmAfter_13 (by decide) ?_
      exact k_retLH F hr hlk hP (by rw [show ouF f ((rAfter S x1).1) ((rAfter S x1).2) = f from if_neg (by rw [hc9]; decide)]; rw [if_neg (rAfter_out hc9)]) hS (by rw [hc9]) (show 0 + 1 ≤ 1 by omega) (show 0 + 6 * 1 ≤ 6 * 1 by omega) dL_inFarmAfter_14
  · have h0 := exq_none hE (rAfter_le _ _)
    refine lv_i2l (v := ((rAfter S x1).2).toInt64) F.1 F.2.1 dL_inFarmAfter_7 rfl ?_
    refine k_last F hK.1 rfl hP hD hS dL_inFarmAfter_8 (fun H locs hP hD hS => ?_)
    refine lv_goto (tgt := 15) F.1 F.2.1 dL_inFarmAfter_9 (by decide) ?_
    refine lv_iconst (v := nI 0) F.1 F.2.1 dL_inFarmAfter_15 (by decide) ?_
    exact k_retLH F hr hlk hP (by rw [show ouF f ((rAfter S x1).1) ((rAfter S x1).2) = _ from if_pos h0]) hS (by rw [h0]) (show 0 + 1 ≤ 1 by omega) (show 0 + 6 * 1 ≤ 6 * 1 by omega) dL_inFarmAfter_16
set_option maxRecDepth 100000 in
set_option maxHeartbeats 4000000 in
theorem c_L_cornsWanted (l : Launch) (D : va_G) (cI cL : ClassId) (hst : l.stackTraces = false) (a b : Nat → Nat) (o : Nat) (f : Nat → Int64) (S S2 : Nat → Nat → Nat) (x1 : Int32) (hI : Inv S) : LH l yL_cornsWanted wsL_cornsWanted 9 1 158 D [(cI, .int), (cL, .long)] [.ref (a 13), .int x1, .ref o] (wOut cL o f ++ (wCo cI a b S S2)) (wOut cL o (ouF f ((r1 (S 0 2) x1 (oI (cwN S (cl x1) 21))).1) ((r1 (S 0 2) x1 (oI (cwN S (cl x1) 21))).2)) ++ (wCo cI a b S (if okI (S 0 2) x1 then cwT S S2 (cl x1) (cwE S (cl x1)) else S2))) (nI ((r1 (S 0 2) x1 (oI (cwN S (cl x1) 21))).1)) := by
  refine k_bodyL (cc := cL_cornsWanted) (maxL := 4) (ret := (some .int)) (hh := [(0, 9, 12, 21)]) (by decide) rfl (Nat.le_of_ble_eq_true rfl) ?_
  intro p e s m args below meth c H ls F hr hlk hl hP hK hD hS hX hN het
  have F : CallFix p m c cL_cornsWanted 4 s args wsL_cornsWanted RL := F
  have hl : lv_has ls 4 [(0, .ref (a 13)), (1, .int x1), (2, .ref o)] := hl
  have hK1 : KK D [(cI, .int)] s := ⟨hK.1.sub (tys' := [(cI, .int)]) [0] rfl, hK.2⟩
  refine lv_aload_n F.1 F.2.1 dL_cornsWanted_0 rfl (lv_at hl 2 rfl) ?_
  refine lv_iconst (v := nI 0) F.1 F.2.1 dL_cornsWanted_1 (by decide) ?_
  refine lv_aload_n F.1 F.2.1 dL_cornsWanted_2 rfl (lv_at hl 0 rfl) ?_
  refine lv_iload_n F.1 F.2.1 dL_cornsWanted_3 rfl (lv_at hl 1 rfl) ?_
  refine t_callX (n := 1) (rest := [.int (nI 0), .ref o]) (wr := wOut cL o f) F (c_X3_cornsWanted l D cI hst a b S S2 x1 hI) gL_cornsWanted_X3_cornsWanted rfl (by decide +kernel) ⟨Nat.le_of_ble_eq_true rfl, Nat.le_of_ble_eq_true rfl⟩ rfl hl.1 rfl (Nat.le_of_ble_eq_true rfl) dL_cornsWanted_4 ⟨show 0 + 1 ≤ 1 by omega, show 0 + 6 * 1 ≤ 6 * 1 by omega⟩ hK1 hX hP hD hS wCo_ad (q0 := 0) (ci := 3) rfl rfl (fun E9 ce q9 H locs hE hP hS hce hcv hcl => ?_) (fun hE H locs hP hD hS => ?_)
  · rcases exq_s1 hE with ⟨hc9, rfl⟩
    · refine vx_catch (own := RL) (name := "java/lang/IndexOutOfBoundsException") F.2.2.2.1 [] ⟨0, 9, 12, 21⟩ [] (by rw [het]; rfl) (fun z hz => absurd hz List.not_mem_nil) (by decide) (by decide) (F.2.2.2.2 _ (List.mem_of_getElem? (i := 1) rfl)) (va_Nw.use rfl hX.2.2.2.2.2.1) hce hcv hcl ?_
      refine lv_astore_n (lv' := [(3, .ref q9), (0, .ref (a 13)), (1, .int x1), (2, .ref o)]) F.1 F.2.1 dL_cornsWanted_12 rfl hl (by decide) rfl (fun ls hl => ?_)
      refine lv_iconst (v := nI 1) F.1 F.2.1 dL_cornsWanted_13 (by decide) ?_
      exact k_retLH F hr hlk hP (by rw [show ouF f ((r1 (S 0 2) x1 (oI (cwN S (cl x1) 21))).1) ((r1 (S 0 2) x1 (oI (cwN S (cl x1) 21))).2) = f from if_neg (by rw [hc9]; decide)]; rw [if_neg (r1_no hc9)]) hS (by rw [hc9]) (show 0 + 1 ≤ 1 by omega) (show 0 + 6 * 1 ≤ 6 * 1 by omega) dL_cornsWanted_14
  · have h0 := exq_none hE (r1_le _ _ _)
    refine lv_i2l (v := ((r1 (S 0 2) x1 (oI (cwN S (cl x1) 21))).2).toInt64) F.1 F.2.1 dL_cornsWanted_7 rfl ?_
    refine k_last F hK.1 rfl hP hD hS dL_cornsWanted_8 (fun H locs hP hD hS => ?_)
    refine lv_goto (tgt := 15) F.1 F.2.1 dL_cornsWanted_9 (by decide) ?_
    refine lv_iconst (v := nI 0) F.1 F.2.1 dL_cornsWanted_15 (by decide) ?_
    exact k_retLH F hr hlk hP (by rw [show ouF f ((r1 (S 0 2) x1 (oI (cwN S (cl x1) 21))).1) ((r1 (S 0 2) x1 (oI (cwN S (cl x1) 21))).2) = _ from if_pos h0]) hS (by rw [h0]) (show 0 + 1 ≤ 1 by omega) (show 0 + 6 * 1 ≤ 6 * 1 by omega) dL_cornsWanted_16
set_option maxRecDepth 100000 in
set_option maxHeartbeats 4000000 in
theorem c_L_bestToBribe (l : Launch) (D : va_G) (cI cL : ClassId) (hst : l.stackTraces = false) (a b : Nat → Nat) (o : Nat) (f : Nat → Int64) (S S2 : Nat → Nat → Nat) (x1 : Int32) (hI : Inv S) : LH l yL_bestToBribe wsL_bestToBribe 9 1 157 D [(cI, .int), (cL, .long)] [.ref (a 13), .int x1, .ref o] (wOut cL o f ++ (wCo cI a b S S2)) (wOut cL o (ouF f ((r1 (S 0 2) x1 (oI (frcN S (S 7 (cl x1)) (S 0 1)).1)).1) ((r1 (S 0 2) x1 (oI (frcN S (S 7 (cl x1)) (S 0 1)).1)).2)) ++ (wCo cI a b S S2)) (nI ((r1 (S 0 2) x1 (oI (frcN S (S 7 (cl x1)) (S 0 1)).1)).1)) := by
  refine k_bodyL (cc := cL_bestToBribe) (maxL := 4) (ret := (some .int)) (hh := [(0, 9, 12, 21)]) (by decide) rfl (Nat.le_of_ble_eq_true rfl) ?_
  intro p e s m args below meth c H ls F hr hlk hl hP hK hD hS hX hN het
  have F : CallFix p m c cL_bestToBribe 4 s args wsL_bestToBribe RL := F
  have hl : lv_has ls 4 [(0, .ref (a 13)), (1, .int x1), (2, .ref o)] := hl
  have hK1 : KK D [(cI, .int)] s := ⟨hK.1.sub (tys' := [(cI, .int)]) [0] rfl, hK.2⟩
  refine lv_aload_n F.1 F.2.1 dL_bestToBribe_0 rfl (lv_at hl 2 rfl) ?_
  refine lv_iconst (v := nI 0) F.1 F.2.1 dL_bestToBribe_1 (by decide) ?_
  refine lv_aload_n F.1 F.2.1 dL_bestToBribe_2 rfl (lv_at hl 0 rfl) ?_
  refine lv_iload_n F.1 F.2.1 dL_bestToBribe_3 rfl (lv_at hl 1 rfl) ?_
  refine t_callX (n := 1) (rest := [.int (nI 0), .ref o]) (wr := wOut cL o f) F (c_X3_bestToBribe l D cI hst a b S S2 x1 hI) gL_bestToBribe_X3_bestToBribe rfl (by decide +kernel) ⟨Nat.le_of_ble_eq_true rfl, Nat.le_of_ble_eq_true rfl⟩ rfl hl.1 rfl (Nat.le_of_ble_eq_true rfl) dL_bestToBribe_4 ⟨show 0 + 1 ≤ 1 by omega, show 0 + 6 * 1 ≤ 6 * 1 by omega⟩ hK1 hX hP hD hS wCo_ad (q0 := 0) (ci := 3) rfl rfl (fun E9 ce q9 H locs hE hP hS hce hcv hcl => ?_) (fun hE H locs hP hD hS => ?_)
  · rcases exq_s1 hE with ⟨hc9, rfl⟩
    · refine vx_catch (own := RL) (name := "java/lang/IndexOutOfBoundsException") F.2.2.2.1 [] ⟨0, 9, 12, 21⟩ [] (by rw [het]; rfl) (fun z hz => absurd hz List.not_mem_nil) (by decide) (by decide) (F.2.2.2.2 _ (List.mem_of_getElem? (i := 1) rfl)) (va_Nw.use rfl hX.2.2.2.2.2.1) hce hcv hcl ?_
      refine lv_astore_n (lv' := [(3, .ref q9), (0, .ref (a 13)), (1, .int x1), (2, .ref o)]) F.1 F.2.1 dL_bestToBribe_12 rfl hl (by decide) rfl (fun ls hl => ?_)
      refine lv_iconst (v := nI 1) F.1 F.2.1 dL_bestToBribe_13 (by decide) ?_
      exact k_retLH F hr hlk hP (by rw [show ouF f ((r1 (S 0 2) x1 (oI (frcN S (S 7 (cl x1)) (S 0 1)).1)).1) ((r1 (S 0 2) x1 (oI (frcN S (S 7 (cl x1)) (S 0 1)).1)).2) = f from if_neg (by rw [hc9]; decide)]) hS (by rw [hc9]) (show 0 + 1 ≤ 1 by omega) (show 0 + 6 * 1 ≤ 6 * 1 by omega) dL_bestToBribe_14
  · have h0 := exq_none hE (r1_le _ _ _)
    refine lv_i2l (v := ((r1 (S 0 2) x1 (oI (frcN S (S 7 (cl x1)) (S 0 1)).1)).2).toInt64) F.1 F.2.1 dL_bestToBribe_7 rfl ?_
    refine k_last F hK.1 rfl hP hD hS dL_bestToBribe_8 (fun H locs hP hD hS => ?_)
    refine lv_goto (tgt := 15) F.1 F.2.1 dL_bestToBribe_9 (by decide) ?_
    refine lv_iconst (v := nI 0) F.1 F.2.1 dL_bestToBribe_15 (by decide) ?_
    exact k_retLH F hr hlk hP (by rw [show ouF f ((r1 (S 0 2) x1 (oI (frcN S (S 7 (cl x1)) (S 0 1)).1)).1) ((r1 (S 0 2) x1 (oI (frcN S (S 7 (cl x1)) (S 0 1)).1)).2) = _ from if_pos h0]) hS (by rw [h0]) (show 0 + 1 ≤ 1 by omega) (show 0 + 6 * 1 ≤ 6 * 1 by omega) dL_bestToBribe_16
set_option maxRecDepth 100000 in
set_option maxHeartbeats 4000000 in
theorem c_L_bribesWanted (l : Launch) (D : va_G) (cI cL : ClassId) (hst : l.stackTraces = false) (a b : Nat → Nat) (o : Nat) (f : Nat → Int64) (S S2 : Nat → Nat → Nat) (x1 : Int32) (hI : Inv S) : LH l yL_bribesWanted wsL_bribesWanted 9 1 157 D [(cI, .int), (cL, .long)] [.ref (a 13), .int x1, .ref o] (wOut cL o f ++ (wCo cI a b S S2)) (wOut cL o (ouF f ((r1 (S 0 2) x1 (nI (calmN S (cl x1)))).1) ((r1 (S 0 2) x1 (nI (calmN S (cl x1)))).2)) ++ (wCo cI a b S S2)) (nI ((r1 (S 0 2) x1 (nI (calmN S (cl x1)))).1)) := by
  refine k_bodyL (cc := cL_bribesWanted) (maxL := 4) (ret := (some .int)) (hh := [(0, 9, 12, 21)]) (by decide) rfl (Nat.le_of_ble_eq_true rfl) ?_
  intro p e s m args below meth c H ls F hr hlk hl hP hK hD hS hX hN het
  have F : CallFix p m c cL_bribesWanted 4 s args wsL_bribesWanted RL := F
  have hl : lv_has ls 4 [(0, .ref (a 13)), (1, .int x1), (2, .ref o)] := hl
  have hK1 : KK D [(cI, .int)] s := ⟨hK.1.sub (tys' := [(cI, .int)]) [0] rfl, hK.2⟩
  refine lv_aload_n F.1 F.2.1 dL_bribesWanted_0 rfl (lv_at hl 2 rfl) ?_
  refine lv_iconst (v := nI 0) F.1 F.2.1 dL_bribesWanted_1 (by decide) ?_
  refine lv_aload_n F.1 F.2.1 dL_bribesWanted_2 rfl (lv_at hl 0 rfl) ?_
  refine lv_iload_n F.1 F.2.1 dL_bribesWanted_3 rfl (lv_at hl 1 rfl) ?_
  refine t_callX (n := 1) (rest := [.int (nI 0), .ref o]) (wr := wOut cL o f) F (c_X3_bribesWanted l D cI hst a b S S2 x1 hI) gL_bribesWanted_X3_bribesWanted rfl (by decide +kernel) ⟨Nat.le_of_ble_eq_true rfl, Nat.le_of_ble_eq_true rfl⟩ rfl hl.1 rfl (Nat.le_of_ble_eq_true rfl) dL_bribesWanted_4 ⟨show 0 + 1 ≤ 1 by omega, show 0 + 6 * 1 ≤ 6 * 1 by omega⟩ hK1 hX hP hD hS wCo_ad (q0 := 0) (ci := 3) rfl rfl (fun E9 ce q9 H locs hE hP hS hce hcv hcl => ?_) (fun hE H locs hP hD hS => ?_)
  · rcases exq_s1 hE with ⟨hc9, rfl⟩
    · refine vx_catch (own := RL) (name := "java/lang/IndexOutOfBoundsException") F.2.2.2.1 [] ⟨0, 9, 12, 21⟩ [] (by rw [het]; rfl) (fun z hz => absurd hz List.not_mem_nil) (by decide) (by decide) (F.2.2.2.2 _ (List.mem_of_getElem? (i := 1) rfl)) (va_Nw.use rfl hX.2.2.2.2.2.1) hce hcv hcl ?_
      refine lv_astore_n (lv' := [(3, .ref q9), (0, .ref (a 13)), (1, .int x1), (2, .ref o)]) F.1 F.2.1 dL_bribesWanted_12 rfl hl (by decide) rfl (fun ls hl => ?_)
      refine lv_iconst (v := nI 1) F.1 F.2.1 dL_bribesWanted_13 (by decide) ?_
      exact k_retLH F hr hlk hP (by rw [show ouF f ((r1 (S 0 2) x1 (nI (calmN S (cl x1)))).1) ((r1 (S 0 2) x1 (nI (calmN S (cl x1)))).2) = f from if_neg (by rw [hc9]; decide)]) hS (by rw [hc9]) (show 0 + 1 ≤ 1 by omega) (show 0 + 6 * 1 ≤ 6 * 1 by omega) dL_bribesWanted_14
  · have h0 := exq_none hE (r1_le _ _ _)
    refine lv_i2l (v := ((r1 (S 0 2) x1 (nI (calmN S (cl x1)))).2).toInt64) F.1 F.2.1 dL_bribesWanted_7 rfl ?_
    refine k_last F hK.1 rfl hP hD hS dL_bribesWanted_8 (fun H locs hP hD hS => ?_)
    refine lv_goto (tgt := 15) F.1 F.2.1 dL_bribesWanted_9 (by decide) ?_
    refine lv_iconst (v := nI 0) F.1 F.2.1 dL_bribesWanted_15 (by decide) ?_
    exact k_retLH F hr hlk hP (by rw [show ouF f ((r1 (S 0 2) x1 (nI (calmN S (cl x1)))).1) ((r1 (S 0 2) x1 (nI (calmN S (cl x1)))).2) = _ from if_pos h0]) hS (by rw [h0]) (show 0 + 1 ≤ 1 by omega) (show 0 + 6 * 1 ≤ 6 * 1 by omega) dL_bribesWanted_16
set_option maxRecDepth 100000 in
set_option maxHeartbeats 4000000 in
theorem c_L_rankWanted (l : Launch) (D : va_G) (cI cL : ClassId) (hst : l.stackTraces = false) (a b : Nat → Nat) (o : Nat) (f : Nat → Int64) (S S2 : Nat → Nat → Nat) (x1 : Int32) (hI : Inv S) : LH l yL_rankWanted wsL_rankWanted 9 1 159 D [(cI, .int), (cL, .long)] [.ref (a 13), .int x1, .ref o] (wOut cL o f ++ (wCo cI a b S S2)) (wOut cL o (ouF f ((r1 (S 0 2) x1 (oI (rkN S (cl x1) 10))).1) ((r1 (S 0 2) x1 (oI (rkN S (cl x1) 10))).2)) ++ (wCo cI a b S S2)) (nI ((r1 (S 0 2) x1 (oI (rkN S (cl x1) 10))).1)) := by
  refine k_bodyL (cc := cL_rankWanted) (maxL := 4) (ret := (some .int)) (hh := [(0, 9, 12, 21)]) (by decide) rfl (Nat.le_of_ble_eq_true rfl) ?_
  intro p e s m args below meth c H ls F hr hlk hl hP hK hD hS hX hN het
  have F : CallFix p m c cL_rankWanted 4 s args wsL_rankWanted RL := F
  have hl : lv_has ls 4 [(0, .ref (a 13)), (1, .int x1), (2, .ref o)] := hl
  have hK1 : KK D [(cI, .int)] s := ⟨hK.1.sub (tys' := [(cI, .int)]) [0] rfl, hK.2⟩
  refine lv_aload_n F.1 F.2.1 dL_rankWanted_0 rfl (lv_at hl 2 rfl) ?_
  refine lv_iconst (v := nI 0) F.1 F.2.1 dL_rankWanted_1 (by decide) ?_
  refine lv_aload_n F.1 F.2.1 dL_rankWanted_2 rfl (lv_at hl 0 rfl) ?_
  refine lv_iload_n F.1 F.2.1 dL_rankWanted_3 rfl (lv_at hl 1 rfl) ?_
  refine t_callX (n := 1) (rest := [.int (nI 0), .ref o]) (wr := wOut cL o f) F (c_X3_rankWanted l D cI hst a b S S2 x1 hI) gL_rankWanted_X3_rankWanted rfl (by decide +kernel) ⟨Nat.le_of_ble_eq_true rfl, Nat.le_of_ble_eq_true rfl⟩ rfl hl.1 rfl (Nat.le_of_ble_eq_true rfl) dL_rankWanted_4 ⟨show 0 + 1 ≤ 1 by omega, show 0 + 6 * 1 ≤ 6 * 1 by omega⟩ hK1 hX hP hD hS wCo_ad (q0 := 0) (ci := 3) rfl rfl (fun E9 ce q9 H locs hE hP hS hce hcv hcl => ?_) (fun hE H locs hP hD hS => ?_)
  · rcases exq_s1 hE with ⟨hc9, rfl⟩
    · refine vx_catch (own := RL) (name := "java/lang/IndexOutOfBoundsException") F.2.2.2.1 [] ⟨0, 9, 12, 21⟩ [] (by rw [het]; rfl) (fun z hz => absurd hz List.not_mem_nil) (by decide) (by decide) (F.2.2.2.2 _ (List.mem_of_getElem? (i := 1) rfl)) (va_Nw.use rfl hX.2.2.2.2.2.1) hce hcv hcl ?_
      refine lv_astore_n (lv' := [(3, .ref q9), (0, .ref (a 13)), (1, .int x1), (2, .ref o)]) F.1 F.2.1 dL_rankWanted_12 rfl hl (by decide) rfl (fun ls hl => ?_)
      refine lv_iconst (v := nI 1) F.1 F.2.1 dL_rankWanted_13 (by decide) ?_
      exact k_retLH F hr hlk hP (by rw [show ouF f ((r1 (S 0 2) x1 (oI (rkN S (cl x1) 10))).1) ((r1 (S 0 2) x1 (oI (rkN S (cl x1) 10))).2) = f from if_neg (by rw [hc9]; decide)]) hS (by rw [hc9]) (show 0 + 1 ≤ 1 by omega) (show 0 + 6 * 1 ≤ 6 * 1 by omega) dL_rankWanted_14
  · have h0 := exq_none hE (r1_le _ _ _)
    refine lv_i2l (v := ((r1 (S 0 2) x1 (oI (rkN S (cl x1) 10))).2).toInt64) F.1 F.2.1 dL_rankWanted_7 rfl ?_
    refine k_last F hK.1 rfl hP hD hS dL_rankWanted_8 (fun H locs hP hD hS => ?_)
    refine lv_goto (tgt := 15) F.1 F.2.1 dL_rankWanted_9 (by decide) ?_
    refine lv_iconst (v := nI 0) F.1 F.2.1 dL_rankWanted_15 (by decide) ?_
    exact k_retLH F hr hlk hP (by rw [show ouF f ((r1 (S 0 2) x1 (oI (rkN S (cl x1) 10))).1) ((r1 (S 0 2) x1 (oI (rkN S (cl x1) 10))).2) = _ from if_pos h0]) hS (by rw [h0]) (show 0 + 1 ≤ 1 by omega) (show 0 + 6 * 1 ≤ 6 * 1 by omega) dL_rankWanted_16
set_option maxRecDepth 100000 in
set_option maxHeartbeats 4000000 in
theorem c_L_firstBar (l : Launch) (D : va_G) (cI cL : ClassId) (hst : l.stackTraces = false) (a b : Nat → Nat) (o : Nat) (f : Nat → Int64) (S S2 : Nat → Nat → Nat) (x1 x2 : Int32) (hI : Inv S) : LH l yL_firstBar wsL_firstBar 8 1 138 D [(cI, .int), (cL, .long)] [.ref (a 13), .int x1, .int x2, .ref o] (wOut cL o f ++ (wCo cI a b S S2)) (wOut cL o (ouF f ((rBar S x1 x2).1) ((rBar S x1 x2).2)) ++ (wCo cI a b S S2)) (nI ((rBar S x1 x2).1)) := by
  refine k_bodyL (cc := cL_firstBar) (maxL := 5) (ret := (some .int)) (hh := [(0, 10, 13, 13)]) (by decide) rfl (Nat.le_of_ble_eq_true rfl) ?_
  intro p e s m args below meth c H ls F hr hlk hl hP hK hD hS hX hN het
  have F : CallFix p m c cL_firstBar 5 s args wsL_firstBar RL := F
  have hl : lv_has ls 5 [(0, .ref (a 13)), (1, .int x1), (2, .int x2), (3, .ref o)] := hl
  have hK1 : KK D [(cI, .int)] s := ⟨hK.1.sub (tys' := [(cI, .int)]) [0] rfl, hK.2⟩
  refine lv_aload_n F.1 F.2.1 dL_firstBar_0 rfl (lv_at hl 3 rfl) ?_
  refine lv_iconst (v := nI 0) F.1 F.2.1 dL_firstBar_1 (by decide) ?_
  refine lv_aload_n F.1 F.2.1 dL_firstBar_2 rfl (lv_at hl 0 rfl) ?_
  refine lv_iload_n F.1 F.2.1 dL_firstBar_3 rfl (lv_at hl 1 rfl) ?_
  refine lv_iload_n F.1 F.2.1 dL_firstBar_4 rfl (lv_at hl 2 rfl) ?_
  refine t_callX (n := 2) (rest := [.int (nI 0), .ref o]) (wr := wOut cL o f) F (c_X3_firstBar l D cI hst a b S S2 x1 x2 hI) gL_firstBar_X3_firstBar rfl (by decide +kernel) ⟨Nat.le_of_ble_eq_true rfl, Nat.le_of_ble_eq_true rfl⟩ rfl hl.1 rfl (Nat.le_of_ble_eq_true rfl) dL_firstBar_5 ⟨show 0 + 1 ≤ 1 by omega, show 0 + 6 * 1 ≤ 6 * 1 by omega⟩ hK1 hX hP hD hS wCo_ad (q0 := 0) (ci := 3) rfl rfl (fun E9 ce q9 H locs hE hP hS hce hcv hcl => ?_) (fun hE H locs hP hD hS => ?_)
  · rcases exq_s1 hE with ⟨hc9, rfl⟩
    · refine vx_catch (own := RL) (name := "java/lang/IllegalArgumentException") F.2.2.2.1 [] ⟨0, 10, 13, 13⟩ [] (by rw [het]; rfl) (fun z hz => absurd hz List.not_mem_nil) (by decide) (by decide) (F.2.2.2.2 _ (List.mem_of_getElem? (i := 1) rfl)) (va_Nw.use rfl hX.2.2.2.2.2.2.1) hce hcv hcl ?_
      refine lv_astore (lv' := [(4, .ref q9), (0, .ref (a 13)), (1, .int x1), (2, .int x2), (3, .ref o)]) F.1 F.2.1 dL_firstBar_13 hl (by decide) rfl (fun ls hl => ?_)
      refine lv_iconst (v := nI 1) F.1 F.2.1 dL_firstBar_15 (by decide) ?_
      exact k_retLH F hr hlk hP (by rw [show ouF f ((rBar S x1 x2).1) ((rBar S x1 x2).2) = f from if_neg (by rw [hc9]; decide)]) hS (by rw [hc9]) (show 0 + 1 ≤ 1 by omega) (show 0 + 6 * 1 ≤ 6 * 1 by omega) dL_firstBar_16
  · have h0 := exq_none hE (rBar_le _ _ _)
    refine lv_i2l (v := ((rBar S x1 x2).2).toInt64) F.1 F.2.1 dL_firstBar_8 rfl ?_
    refine k_last F hK.1 rfl hP hD hS dL_firstBar_9 (fun H locs hP hD hS => ?_)
    refine lv_goto (tgt := 17) F.1 F.2.1 dL_firstBar_10 (by decide) ?_
    refine lv_iconst (v := nI 0) F.1 F.2.1 dL_firstBar_17 (by decide) ?_
    exact k_retLH F hr hlk hP (by rw [show ouF f ((rBar S x1 x2).1) ((rBar S x1 x2).2) = _ from if_pos h0]) hS (by rw [h0]) (show 0 + 1 ≤ 1 by omega) (show 0 + 6 * 1 ≤ 6 * 1 by omega) dL_firstBar_18
