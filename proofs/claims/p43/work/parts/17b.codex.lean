theorem nX3_beats_X0 : ∀ x ∈ wsX00, x ∈ wsX3_beats := fun _ h => List.mem_cons_of_mem _ (List.mem_append_right _ h)
theorem nX3_beats_X3 : ∀ x ∈ wsX30, x ∈ wsX3_beats := fun _ h => List.mem_cons_of_mem _ (List.mem_append_left _ (List.mem_append_right _ h))
set_option maxRecDepth 100000 in
set_option maxHeartbeats 4000000 in
theorem c_X3_beats (l : Launch) (D : va_G) (cI : ClassId) (a b : Nat → Nat) (S S2 : Nat → Nat → Nat) (hI : Inv S) : PI l yX3_beats wsX3_beats 0 0 D [(cI, .int)] [.ref (a 13)] (wCo cI a b S S2) (nI (S 0 3)) := by
  refine k_bodyP (cc := cX3_beats) (maxL := 1) (ret := (some .int)) (by decide) rfl (Nat.le_of_ble_eq_true rfl) ?_
  intro p e s m args below meth c H ls F hr hlk hl hP hK hS
  have F : CallFix p m c cX3_beats 1 s args wsX3_beats RX3 := F
  have hl : lv_has ls 1 [(0, .ref (a 13))] := hl
  have hi0 := hI.gates
  have hi1 := hI.geese
  have hi2 := hI.guests
  refine lv_aload_n F.1 F.2.1 dX3_beats_0 rfl (lv_at hl 0 rfl) ?_
  refine k_get (v := .ref (a 0)) F nX3_beats_X3 hK.1 hP 0 rfl rfl 0 (by decide) (List.mem_of_getElem? (i := 1) rfl) rfl dX3_beats_1 ?_
  refine k_get (v := .int (nI (S 0 3))) F nX3_beats_X0 hK.1 hP 1 rfl rfl 4 (by decide) (List.mem_of_getElem? (i := 2) rfl) rfl dX3_beats_4 ?_
  exact k_retP F hr hlk hS rfl rfl dX3_beats_7
theorem nX3_gates_X0 : ∀ x ∈ wsX00, x ∈ wsX3_gates := fun _ h => List.mem_cons_of_mem _ (List.mem_append_right _ h)
theorem nX3_gates_X3 : ∀ x ∈ wsX30, x ∈ wsX3_gates := fun _ h => List.mem_cons_of_mem _ (List.mem_append_left _ (List.mem_append_right _ h))
set_option maxRecDepth 100000 in
set_option maxHeartbeats 4000000 in
theorem c_X3_gates (l : Launch) (D : va_G) (cI : ClassId) (a b : Nat → Nat) (S S2 : Nat → Nat → Nat) (hI : Inv S) : PI l yX3_gates wsX3_gates 0 0 D [(cI, .int)] [.ref (a 13)] (wCo cI a b S S2) (nI (S 0 0)) := by
  refine k_bodyP (cc := cX3_gates) (maxL := 1) (ret := (some .int)) (by decide) rfl (Nat.le_of_ble_eq_true rfl) ?_
  intro p e s m args below meth c H ls F hr hlk hl hP hK hS
  have F : CallFix p m c cX3_gates 1 s args wsX3_gates RX3 := F
  have hl : lv_has ls 1 [(0, .ref (a 13))] := hl
  have hi0 := hI.gates
  have hi1 := hI.geese
  have hi2 := hI.guests
  refine lv_aload_n F.1 F.2.1 dX3_gates_0 rfl (lv_at hl 0 rfl) ?_
  refine k_get (v := .ref (a 0)) F nX3_gates_X3 hK.1 hP 0 rfl rfl 0 (by decide) (List.mem_of_getElem? (i := 1) rfl) rfl dX3_gates_1 ?_
  refine k_get (v := .int (nI (S 0 0))) F nX3_gates_X0 hK.1 hP 1 rfl rfl 0 (by decide) (List.mem_of_getElem? (i := 2) rfl) rfl dX3_gates_4 ?_
  exact k_retP F hr hlk hS rfl rfl dX3_gates_7
theorem nX3_geese_X0 : ∀ x ∈ wsX00, x ∈ wsX3_geese := fun _ h => List.mem_cons_of_mem _ (List.mem_append_left _ (List.mem_append_right _ h))
theorem nX3_geese_X1 : ∀ x ∈ wsX10, x ∈ wsX3_geese := fun _ h => List.mem_cons_of_mem _ (List.mem_append_right _ h)
theorem nX3_geese_X3 : ∀ x ∈ wsX30, x ∈ wsX3_geese := fun _ h => List.mem_cons_of_mem _ (List.mem_append_left _ (List.mem_append_left _ (List.mem_append_right _ h)))
set_option maxRecDepth 100000 in
set_option maxHeartbeats 4000000 in
theorem c_X3_geese (l : Launch) (D : va_G) (cI : ClassId) (a b : Nat → Nat) (S S2 : Nat → Nat → Nat) (hI : Inv S) : PI l yX3_geese wsX3_geese 0 0 D [(cI, .int)] [.ref (a 13)] (wCo cI a b S S2) (nI (S 0 1)) := by
  refine k_bodyP (cc := cX3_geese) (maxL := 1) (ret := (some .int)) (by decide) rfl (Nat.le_of_ble_eq_true rfl) ?_
  intro p e s m args below meth c H ls F hr hlk hl hP hK hS
  have F : CallFix p m c cX3_geese 1 s args wsX3_geese RX3 := F
  have hl : lv_has ls 1 [(0, .ref (a 13))] := hl
  have hi0 := hI.gates
  have hi1 := hI.geese
  have hi2 := hI.guests
  refine lv_aload_n F.1 F.2.1 dX3_geese_0 rfl (lv_at hl 0 rfl) ?_
  refine k_get (v := .ref (a 0)) F nX3_geese_X3 hK.1 hP 0 rfl rfl 0 (by decide) (List.mem_of_getElem? (i := 1) rfl) rfl dX3_geese_1 ?_
  refine k_get (v := .ref (a 2)) F nX3_geese_X0 hK.1 hP 1 rfl rfl 2 (by decide) (List.mem_of_getElem? (i := 2) rfl) rfl dX3_geese_4 ?_
  refine k_get (v := .int (nI (S 0 1))) F nX3_geese_X1 hK.1 hP 3 rfl rfl 0 (by decide) (List.mem_of_getElem? (i := 3) rfl) rfl dX3_geese_7 ?_
  exact k_retP F hr hlk hS rfl rfl dX3_geese_10
theorem nX3_visitors_X0 : ∀ x ∈ wsX00, x ∈ wsX3_visitors := fun _ h => List.mem_cons_of_mem _ (List.mem_append_left _ (List.mem_append_right _ h))
theorem nX3_visitors_X2 : ∀ x ∈ wsX20, x ∈ wsX3_visitors := fun _ h => List.mem_cons_of_mem _ (List.mem_append_right _ h)
theorem nX3_visitors_X3 : ∀ x ∈ wsX30, x ∈ wsX3_visitors := fun _ h => List.mem_cons_of_mem _ (List.mem_append_left _ (List.mem_append_left _ (List.mem_append_right _ h)))
set_option maxRecDepth 100000 in
set_option maxHeartbeats 4000000 in
theorem c_X3_visitors (l : Launch) (D : va_G) (cI : ClassId) (a b : Nat → Nat) (S S2 : Nat → Nat → Nat) (hI : Inv S) : PI l yX3_visitors wsX3_visitors 0 0 D [(cI, .int)] [.ref (a 13)] (wCo cI a b S S2) (nI (S 0 2)) := by
  refine k_bodyP (cc := cX3_visitors) (maxL := 1) (ret := (some .int)) (by decide) rfl (Nat.le_of_ble_eq_true rfl) ?_
  intro p e s m args below meth c H ls F hr hlk hl hP hK hS
  have F : CallFix p m c cX3_visitors 1 s args wsX3_visitors RX3 := F
  have hl : lv_has ls 1 [(0, .ref (a 13))] := hl
  have hi0 := hI.gates
  have hi1 := hI.geese
  have hi2 := hI.guests
  refine lv_aload_n F.1 F.2.1 dX3_visitors_0 rfl (lv_at hl 0 rfl) ?_
  refine k_get (v := .ref (a 0)) F nX3_visitors_X3 hK.1 hP 0 rfl rfl 0 (by decide) (List.mem_of_getElem? (i := 1) rfl) rfl dX3_visitors_1 ?_
  refine k_get (v := .ref (a 7)) F nX3_visitors_X0 hK.1 hP 1 rfl rfl 3 (by decide) (List.mem_of_getElem? (i := 2) rfl) rfl dX3_visitors_4 ?_
  refine k_get (v := .int (nI (S 0 2))) F nX3_visitors_X2 hK.1 hP 8 rfl rfl 0 (by decide) (List.mem_of_getElem? (i := 3) rfl) rfl dX3_visitors_7 ?_
  exact k_retP F hr hlk hS rfl rfl dX3_visitors_10
theorem nX3_inFarm_X3 : ∀ x ∈ wsX30, x ∈ wsX3_inFarm := fun _ h => List.mem_cons_of_mem _ (List.mem_append_left _ (List.mem_append_left _ (List.mem_append_right _ h)))
set_option maxRecDepth 100000 in
set_option maxHeartbeats 4000000 in
theorem c_X3_inFarm (l : Launch) (D : va_G) (cI : ClassId) (a b : Nat → Nat) (S S2 : Nat → Nat → Nat) (hI : Inv S) : PI l yX3_inFarm wsX3_inFarm 2 43 D [(cI, .int)] [.ref (a 13)] (wCo cI a b S S2) (nI (inN S (S 0 2))) := by
  refine k_bodyP (cc := cX3_inFarm) (maxL := 1) (ret := (some .int)) (by decide) rfl (Nat.le_of_ble_eq_true rfl) ?_
  intro p e s m args below meth c H ls F hr hlk hl hP hK hS
  have F : CallFix p m c cX3_inFarm 1 s args wsX3_inFarm RX3 := F
  have hl : lv_has ls 1 [(0, .ref (a 13))] := hl
  have hi0 := hI.gates
  have hi1 := hI.geese
  have hi2 := hI.guests
  refine lv_aload_n F.1 F.2.1 dX3_inFarm_0 rfl (lv_at hl 0 rfl) ?_
  refine k_get (v := .ref (a 0)) F nX3_inFarm_X3 hK.1 hP 0 rfl rfl 0 (by decide) (List.mem_of_getElem? (i := 1) rfl) rfl dX3_inFarm_1 ?_
  refine k_pV (n := 0) (rest := []) (v := nI (inN S (S 0 2))) F (c_X0_countInside l D cI a S hI) gX3_inFarm_X0_countInside rfl (by decide +kernel) ⟨Nat.le_of_ble_eq_true rfl, Nat.le_of_ble_eq_true rfl⟩ rfl hl.1 rfl (Nat.le_of_ble_eq_true rfl) dX3_inFarm_4 ⟨Nat.zero_le _, Nat.zero_le _⟩ hK hP hS [1, 2, 3, 4, 5, 6, 7, 8, 9, 10, 11, 12, 13] wCo_suba (q0 := 1) (ci := 0) rfl rfl (fun H locs hP hS => ?_)
  exact k_retP F hr hlk hS rfl rfl dX3_inFarm_7
theorem nX3_bribes_X0 : ∀ x ∈ wsX00, x ∈ wsX3_bribes := fun _ h => List.mem_cons_of_mem _ (List.mem_append_right _ h)
theorem nX3_bribes_X3 : ∀ x ∈ wsX30, x ∈ wsX3_bribes := fun _ h => List.mem_cons_of_mem _ (List.mem_append_left _ (List.mem_append_right _ h))
set_option maxRecDepth 100000 in
set_option maxHeartbeats 4000000 in
theorem c_X3_bribes (l : Launch) (D : va_G) (cI : ClassId) (a b : Nat → Nat) (S S2 : Nat → Nat → Nat) (hI : Inv S) : PI l yX3_bribes wsX3_bribes 0 0 D [(cI, .int)] [.ref (a 13)] (wCo cI a b S S2) (nI (S 0 4)) := by
  refine k_bodyP (cc := cX3_bribes) (maxL := 1) (ret := (some .int)) (by decide) rfl (Nat.le_of_ble_eq_true rfl) ?_
  intro p e s m args below meth c H ls F hr hlk hl hP hK hS
  have F : CallFix p m c cX3_bribes 1 s args wsX3_bribes RX3 := F
  have hl : lv_has ls 1 [(0, .ref (a 13))] := hl
  have hi0 := hI.gates
  have hi1 := hI.geese
  have hi2 := hI.guests
  refine lv_aload_n F.1 F.2.1 dX3_bribes_0 rfl (lv_at hl 0 rfl) ?_
  refine k_get (v := .ref (a 0)) F nX3_bribes_X3 hK.1 hP 0 rfl rfl 0 (by decide) (List.mem_of_getElem? (i := 1) rfl) rfl dX3_bribes_1 ?_
  refine k_get (v := .int (nI (S 0 4))) F nX3_bribes_X0 hK.1 hP 1 rfl rfl 5 (by decide) (List.mem_of_getElem? (i := 2) rfl) rfl dX3_bribes_4 ?_
  exact k_retP F hr hlk hS rfl rfl dX3_bribes_7
theorem nX3_retreats_X0 : ∀ x ∈ wsX00, x ∈ wsX3_retreats := fun _ h => List.mem_cons_of_mem _ (List.mem_append_right _ h)
theorem nX3_retreats_X3 : ∀ x ∈ wsX30, x ∈ wsX3_retreats := fun _ h => List.mem_cons_of_mem _ (List.mem_append_left _ (List.mem_append_right _ h))
set_option maxRecDepth 100000 in
set_option maxHeartbeats 4000000 in
theorem c_X3_retreats (l : Launch) (D : va_G) (cI : ClassId) (a b : Nat → Nat) (S S2 : Nat → Nat → Nat) (hI : Inv S) : PI l yX3_retreats wsX3_retreats 0 0 D [(cI, .int)] [.ref (a 13)] (wCo cI a b S S2) (nI (S 0 5)) := by
  refine k_bodyP (cc := cX3_retreats) (maxL := 1) (ret := (some .int)) (by decide) rfl (Nat.le_of_ble_eq_true rfl) ?_
  intro p e s m args below meth c H ls F hr hlk hl hP hK hS
  have F : CallFix p m c cX3_retreats 1 s args wsX3_retreats RX3 := F
  have hl : lv_has ls 1 [(0, .ref (a 13))] := hl
  have hi0 := hI.gates
  have hi1 := hI.geese
  have hi2 := hI.guests
  refine lv_aload_n F.1 F.2.1 dX3_retreats_0 rfl (lv_at hl 0 rfl) ?_
  refine k_get (v := .ref (a 0)) F nX3_retreats_X3 hK.1 hP 0 rfl rfl 0 (by decide) (List.mem_of_getElem? (i := 1) rfl) rfl dX3_retreats_1 ?_
  refine k_get (v := .int (nI (S 0 5))) F nX3_retreats_X0 hK.1 hP 1 rfl rfl 6 (by decide) (List.mem_of_getElem? (i := 2) rfl) rfl dX3_retreats_4 ?_
  exact k_retP F hr hlk hS rfl rfl dX3_retreats_7
theorem nX3_rankOf_X0 : ∀ x ∈ wsX00, x ∈ wsX3_rankOf := fun _ h => List.mem_cons_of_mem _ (List.mem_append_left _ (List.mem_append_right _ h))
theorem nX3_rankOf_X3 : ∀ x ∈ wsX30, x ∈ wsX3_rankOf := fun _ h => List.mem_cons_of_mem _ (List.mem_append_left _ (List.mem_append_left _ (List.mem_append_right _ h)))
set_option maxRecDepth 100000 in
set_option maxHeartbeats 4000000 in
theorem c_X3_rankOf (l : Launch) (D : va_G) (cI : ClassId) (hst : l.stackTraces = false) (a b : Nat → Nat) (S S2 : Nat → Nat → Nat) (x1 : Int32) (hI : Inv S) : TI l yX3_rankOf wsX3_rankOf 7 1 115 D [(cI, .int)] [.ref (a 13), .int x1] (wCo cI a b S S2) (wCo cI a b S S2) (exq ["java/lang/IndexOutOfBoundsException"] (r1 (S 0 0) x1 (nI (S 1 (cl x1)))).1) ((r1 (S 0 0) x1 (nI (S 1 (cl x1)))).2) := by
  refine k_bodyX (cc := cX3_rankOf) (maxL := 2) (ret := (some .int)) (by decide) rfl (Nat.le_of_ble_eq_true rfl) ?_
  intro p e s m args below meth c H ls F hr hlk hl hP hK hD hS hX ht
  have F : CallFix p m c cX3_rankOf 2 s args wsX3_rankOf RX3 := F
  have hl : lv_has ls 2 [(0, .ref (a 13)), (1, .int x1)] := hl
  have hi0 := hI.gates
  have hi1 := hI.geese
  have hi2 := hI.guests
  refine lv_aload_n F.1 F.2.1 dX3_rankOf_0 rfl (lv_at hl 0 rfl) ?_
  refine k_get (v := .ref (a 0)) F nX3_rankOf_X3 hK.1 hP 0 rfl rfl 0 (by decide) (List.mem_of_getElem? (i := 1) rfl) rfl dX3_rankOf_1 ?_
  refine lv_iload_n F.1 F.2.1 dX3_rankOf_4 rfl (lv_at hl 1 rfl) ?_
  refine k_pV (n := 1) (rest := []) (v := bI (0 ≤ x1 ∧ x1 < nI (S 0 0))) F (c_X0_hasGate l D cI a S x1) gX3_rankOf_X0_hasGate rfl (by decide +kernel) ⟨Nat.le_of_ble_eq_true rfl, Nat.le_of_ble_eq_true rfl⟩ rfl hl.1 rfl (Nat.le_of_ble_eq_true rfl) dX3_rankOf_5 ⟨show 0 ≤ 1 by omega, show 0 ≤ 6 by omega⟩ hK hP hS [1, 2, 3, 4, 5, 6, 7, 8, 9, 10, 11, 12, 13] wCo_suba (q0 := 1) (ci := 0) rfl rfl (fun H locs hP hS => ?_)
  refine t_demS (n := 1) (rest := []) F (c_X3_demandIndex l D cI hst (0 ≤ x1 ∧ x1 < nI (S 0 0))) gX3_rankOf_X3_demandIndex rfl (by decide +kernel) ⟨Nat.le_of_ble_eq_true rfl, Nat.le_of_ble_eq_true rfl⟩ rfl hl.1 rfl (Nat.le_of_ble_eq_true rfl) dX3_rankOf_8 ⟨show 0 + 1 ≤ 1 by omega, show 0 + 6 ≤ 6 by omega⟩ hK hX hP hS ht hlk (show 0 + 1 ≤ 1 by omega) (show 0 + 6 ≤ 6 by omega) (fun h8 => ?_) (fun h8 H locs hP hS => ?_)
  · skip
    have e9 : r1 (S 0 0) x1 (nI (S 1 (cl x1))) = (1, nI 0) := r1_n h8
    rw [e9]; rfl
  · skip
    obtain ⟨g1, hg1, rfl⟩ := lt_nI (by omega) h8
    refine lv_aload_n F.1 F.2.1 dX3_rankOf_11 rfl (lv_at hl 0 rfl) ?_
    refine k_get (v := .ref (a 0)) F nX3_rankOf_X3 hK.1 hP 0 rfl rfl 0 (by decide) (List.mem_of_getElem? (i := 1) rfl) rfl dX3_rankOf_12 ?_
    refine k_get (v := .ref (a 1)) F nX3_rankOf_X0 hK.1 hP 1 rfl rfl 1 (by decide) (List.mem_of_getElem? (i := 2) rfl) rfl dX3_rankOf_15 ?_
    refine lv_iload_n F.1 F.2.1 dX3_rankOf_18 rfl (lv_at hl 1 rfl) ?_
    refine k_iald (f := S 1) (n := 6) F hK.1 hP 2 0 rfl rfl (by omega) (by decide) dX3_rankOf_19 ?_
    have e9 : r1 (S 0 0) (nI g1) (nI (S 1 (cl (nI g1)))) = (0, nI (S 1 g1)) := by rw [cl_nI (show g1 < 2 ^ 31 by omega)]; exact r1_y h8
    exact t_retI F hr hlk hP rfl hS (by rw [e9]; rfl) (by rw [e9]) rfl (show 0 + 1 ≤ 1 by omega) (show 0 + 6 ≤ 6 by omega) dX3_rankOf_20
theorem nX3_awakeAt_X0 : ∀ x ∈ wsX00, x ∈ wsX3_awakeAt := fun _ h => List.mem_cons_of_mem _ (List.mem_append_left _ (List.mem_append_left _ (List.mem_append_right _ h)))
theorem nX3_awakeAt_X3 : ∀ x ∈ wsX30, x ∈ wsX3_awakeAt := fun _ h => List.mem_cons_of_mem _ (List.mem_append_left _ (List.mem_append_left _ (List.mem_append_left _ (List.mem_append_right _ h))))
set_option maxRecDepth 100000 in
set_option maxHeartbeats 4000000 in
theorem c_X3_awakeAt (l : Launch) (D : va_G) (cI : ClassId) (hst : l.stackTraces = false) (a b : Nat → Nat) (S S2 : Nat → Nat → Nat) (x1 : Int32) (hI : Inv S) : TI l yX3_awakeAt wsX3_awakeAt 7 1 115 D [(cI, .int)] [.ref (a 13), .int x1] (wCo cI a b S S2) (wCo cI a b S S2) (exq ["java/lang/IndexOutOfBoundsException"] (r1 (S 0 0) x1 (nI (cntN S (cl x1) (S 0 1)))).1) ((r1 (S 0 0) x1 (nI (cntN S (cl x1) (S 0 1)))).2) := by
  refine k_bodyX (cc := cX3_awakeAt) (maxL := 2) (ret := (some .int)) (by decide) rfl (Nat.le_of_ble_eq_true rfl) ?_
  intro p e s m args below meth c H ls F hr hlk hl hP hK hD hS hX ht
  have F : CallFix p m c cX3_awakeAt 2 s args wsX3_awakeAt RX3 := F
  have hl : lv_has ls 2 [(0, .ref (a 13)), (1, .int x1)] := hl
  have hi0 := hI.gates
  have hi1 := hI.geese
  have hi2 := hI.guests
  refine lv_aload_n F.1 F.2.1 dX3_awakeAt_0 rfl (lv_at hl 0 rfl) ?_
  refine k_get (v := .ref (a 0)) F nX3_awakeAt_X3 hK.1 hP 0 rfl rfl 0 (by decide) (List.mem_of_getElem? (i := 1) rfl) rfl dX3_awakeAt_1 ?_
  refine lv_iload_n F.1 F.2.1 dX3_awakeAt_4 rfl (lv_at hl 1 rfl) ?_
  refine k_pV (n := 1) (rest := []) (v := bI (0 ≤ x1 ∧ x1 < nI (S 0 0))) F (c_X0_hasGate l D cI a S x1) gX3_awakeAt_X0_hasGate rfl (by decide +kernel) ⟨Nat.le_of_ble_eq_true rfl, Nat.le_of_ble_eq_true rfl⟩ rfl hl.1 rfl (Nat.le_of_ble_eq_true rfl) dX3_awakeAt_5 ⟨show 0 ≤ 1 by omega, show 0 ≤ 6 by omega⟩ hK hP hS [1, 2, 3, 4, 5, 6, 7, 8, 9, 10, 11, 12, 13] wCo_suba (q0 := 1) (ci := 0) rfl rfl (fun H locs hP hS => ?_)
  refine t_demS (n := 1) (rest := []) F (c_X3_demandIndex l D cI hst (0 ≤ x1 ∧ x1 < nI (S 0 0))) gX3_awakeAt_X3_demandIndex rfl (by decide +kernel) ⟨Nat.le_of_ble_eq_true rfl, Nat.le_of_ble_eq_true rfl⟩ rfl hl.1 rfl (Nat.le_of_ble_eq_true rfl) dX3_awakeAt_8 ⟨show 0 + 1 ≤ 1 by omega, show 0 + 6 ≤ 6 by omega⟩ hK hX hP hS ht hlk (show 0 + 1 ≤ 1 by omega) (show 0 + 6 ≤ 6 by omega) (fun h8 => ?_) (fun h8 H locs hP hS => ?_)
  · skip
    have e9 : r1 (S 0 0) x1 (nI (cntN S (cl x1) (S 0 1))) = (1, nI 0) := r1_n h8
    rw [e9]; rfl
  · skip
    obtain ⟨g1, hg1, rfl⟩ := lt_nI (by omega) h8
    refine lv_aload_n F.1 F.2.1 dX3_awakeAt_11 rfl (lv_at hl 0 rfl) ?_
    refine k_get (v := .ref (a 0)) F nX3_awakeAt_X3 hK.1 hP 0 rfl rfl 0 (by decide) (List.mem_of_getElem? (i := 1) rfl) rfl dX3_awakeAt_12 ?_
    refine k_get (v := .ref (a 2)) F nX3_awakeAt_X0 hK.1 hP 1 rfl rfl 2 (by decide) (List.mem_of_getElem? (i := 2) rfl) rfl dX3_awakeAt_15 ?_
    refine lv_iload_n F.1 F.2.1 dX3_awakeAt_18 rfl (lv_at hl 1 rfl) ?_
    refine k_pV (n := 1) (rest := []) (v := nI (cntN S g1 (S 0 1))) F (c_X1_countAwake l D cI a S g1 hI.bd (by first | assumption | omega)) gX3_awakeAt_X1_countAwake rfl (by decide +kernel) ⟨Nat.le_of_ble_eq_true rfl, Nat.le_of_ble_eq_true rfl⟩ rfl hl.1 rfl (Nat.le_of_ble_eq_true rfl) dX3_awakeAt_19 ⟨show 0 + 1 ≤ 1 by omega, show 0 + 6 ≤ 6 by omega⟩ hK hP hS [3, 4, 5, 6, 7] rfl (q0 := 3) (ci := 1) rfl rfl (fun H locs hP hS => ?_)
    have e9 : r1 (S 0 0) (nI g1) (nI (cntN S (cl (nI g1)) (S 0 1))) = (0, nI (cntN S g1 (S 0 1))) := by rw [cl_nI (show g1 < 2 ^ 31 by omega)]; exact r1_y h8
    exact t_retI F hr hlk hP rfl hS (by rw [e9]; rfl) (by rw [e9]) rfl (show 0 + 1 ≤ 1 by omega) (show 0 + 6 ≤ 6 by omega) dX3_awakeAt_22
theorem nX3_hissOf_X3 : ∀ x ∈ wsX30, x ∈ wsX3_hissOf := fun _ h => List.mem_cons_of_mem _ (List.mem_append_left _ (List.mem_append_left _ (List.mem_append_left _ (List.mem_append_left _ (List.mem_append_right _ h)))))
set_option maxRecDepth 100000 in
set_option maxHeartbeats 4000000 in
theorem c_X3_hissOf (l : Launch) (D : va_G) (cI : ClassId) (hst : l.stackTraces = false) (a b : Nat → Nat) (S S2 : Nat → Nat → Nat) (x1 : Int32) (x2 : Int32) (hI : Inv S) : TI l yX3_hissOf wsX3_hissOf 7 2 115 D [(cI, .int)] [.ref (a 13), .int x1, .int x2] (wCo cI a b S S2) (wCo cI a b S S2) (exq ["java/lang/IndexOutOfBoundsException", "java/lang/IllegalArgumentException"] (rHiss S x1 x2).1) ((rHiss S x1 x2).2) := by
  refine k_bodyX (cc := cX3_hissOf) (maxL := 3) (ret := (some .int)) (by decide) rfl (Nat.le_of_ble_eq_true rfl) ?_
  intro p e s m args below meth c H ls F hr hlk hl hP hK hD hS hX ht
  have F : CallFix p m c cX3_hissOf 3 s args wsX3_hissOf RX3 := F
  have hl : lv_has ls 3 [(0, .ref (a 13)), (1, .int x1), (2, .int x2)] := hl
  have hi0 := hI.gates
  have hi1 := hI.geese
  have hi2 := hI.guests
  refine lv_aload_n F.1 F.2.1 dX3_hissOf_0 rfl (lv_at hl 0 rfl) ?_
  refine k_get (v := .ref (a 0)) F nX3_hissOf_X3 hK.1 hP 0 rfl rfl 0 (by decide) (List.mem_of_getElem? (i := 1) rfl) rfl dX3_hissOf_1 ?_
  refine lv_iload_n F.1 F.2.1 dX3_hissOf_4 rfl (lv_at hl 1 rfl) ?_
  refine k_pV (n := 1) (rest := []) (v := bI (0 ≤ x1 ∧ x1 < nI (S 0 0))) F (c_X0_hasGate l D cI a S x1) gX3_hissOf_X0_hasGate rfl (by decide +kernel) ⟨Nat.le_of_ble_eq_true rfl, Nat.le_of_ble_eq_true rfl⟩ rfl hl.1 rfl (Nat.le_of_ble_eq_true rfl) dX3_hissOf_5 ⟨show 0 ≤ 2 by omega, show 0 ≤ 12 by omega⟩ hK hP hS [1, 2, 3, 4, 5, 6, 7, 8, 9, 10, 11, 12, 13] wCo_suba (q0 := 1) (ci := 0) rfl rfl (fun H locs hP hS => ?_)
  refine t_demS (n := 1) (rest := []) F (c_X3_demandIndex l D cI hst (0 ≤ x1 ∧ x1 < nI (S 0 0))) gX3_hissOf_X3_demandIndex rfl (by decide +kernel) ⟨Nat.le_of_ble_eq_true rfl, Nat.le_of_ble_eq_true rfl⟩ rfl hl.1 rfl (Nat.le_of_ble_eq_true rfl) dX3_hissOf_8 ⟨show 0 + 1 ≤ 2 by omega, show 0 + 6 ≤ 12 by omega⟩ hK hX hP hS ht hlk (show 0 + 1 ≤ 2 by omega) (show 0 + 6 ≤ 12 by omega) (fun h8 => ?_) (fun h8 H locs hP hS => ?_)
  · skip
    have e9 : rHiss S x1 x2 = (1, nI 0) := by unfold rHiss; rw [if_neg h8] <;> rfl
    rw [e9]; rfl
  · skip
    refine lv_iload_n F.1 F.2.1 dX3_hissOf_11 rfl (lv_at hl 2 rfl) ?_
    refine k_pS (n := 1) (rest := []) (v := bI (nI 0 ≤ x2 ∧ x2 ≤ nI 9)) F (c_X3_isRank l D cI x2) gX3_hissOf_X3_isRank rfl (by decide +kernel) ⟨Nat.le_of_ble_eq_true rfl, Nat.le_of_ble_eq_true rfl⟩ rfl hl.1 rfl (Nat.le_of_ble_eq_true rfl) dX3_hissOf_12 ⟨show 0 + 1 ≤ 2 by omega, show 0 + 6 ≤ 12 by omega⟩ hK hP hS (fun H locs hP hS => ?_)
    refine t_demS (n := 1) (rest := []) F (c_X3_demandArgument l D cI hst (nI 0 ≤ x2 ∧ x2 ≤ nI 9)) gX3_hissOf_X3_demandArgument rfl (by decide +kernel) ⟨Nat.le_of_ble_eq_true rfl, Nat.le_of_ble_eq_true rfl⟩ rfl hl.1 rfl (Nat.le_of_ble_eq_true rfl) dX3_hissOf_15 ⟨show 0 + 1 + 1 ≤ 2 by omega, show 0 + 6 + 6 ≤ 12 by omega⟩ hK hX hP hS ht hlk (show 0 + 1 + 1 ≤ 2 by omega) (show 0 + 6 + 6 ≤ 12 by omega) (fun h15 => ?_) (fun h15 H locs hP hS => ?_)
    · skip
      have e9 : rHiss S x1 x2 = (2, nI 0) := by unfold rHiss; rw [if_pos h8, if_neg h15] <;> rfl
      rw [e9]; rfl
    · skip
      obtain ⟨g1, hg1, rfl⟩ := lt_nI (by omega) h8
      obtain ⟨g2, hg2, rfl⟩ := in_nI (by decide) h15 (by decide)
      refine lv_aload_n F.1 F.2.1 dX3_hissOf_18 rfl (lv_at hl 0 rfl) ?_
      refine k_get (v := .ref (a 0)) F nX3_hissOf_X3 hK.1 hP 0 rfl rfl 0 (by decide) (List.mem_of_getElem? (i := 1) rfl) rfl dX3_hissOf_19 ?_
      refine lv_iload_n F.1 F.2.1 dX3_hissOf_22 rfl (lv_at hl 1 rfl) ?_
      refine lv_iload_n F.1 F.2.1 dX3_hissOf_23 rfl (lv_at hl 2 rfl) ?_
      refine k_pV (n := 2) (rest := []) (v := nI (hisG S g1 g2)) F (c_X0_gateHiss l D cI a S g1 g2 hI (by first | assumption | omega) (by first | assumption | omega)) gX3_hissOf_X0_gateHiss rfl (by decide +kernel) ⟨Nat.le_of_ble_eq_true rfl, Nat.le_of_ble_eq_true rfl⟩ rfl hl.1 rfl (Nat.le_of_ble_eq_true rfl) dX3_hissOf_24 ⟨show 0 + 1 + 1 ≤ 2 by omega, show 0 + 6 + 6 ≤ 12 by omega⟩ hK hP hS [1, 2, 3, 4, 5, 6, 7, 8, 9, 10, 11, 12, 13] wCo_suba (q0 := 1) (ci := 0) rfl rfl (fun H locs hP hS => ?_)
      have e9 : rHiss S (nI g1) (nI g2) = (0, nI (hisG S g1 g2)) := by unfold rHiss; (try rw [cl_nI (show g1 < 2 ^ 31 by omega)]); (try rw [cl_nI (show g2 < 2 ^ 31 by omega)]); rw [if_pos h8, if_pos h15] <;> rfl
      exact t_retI F hr hlk hP rfl hS (by rw [e9]; rfl) (by rw [e9] <;> rfl) rfl (show 0 + 1 + 1 ≤ 2 by omega) (show 0 + 6 + 6 ≤ 12 by omega) dX3_hissOf_27
theorem nX3_gateOf_X0 : ∀ x ∈ wsX00, x ∈ wsX3_gateOf := fun _ h => List.mem_cons_of_mem _ (List.mem_append_left _ (List.mem_append_left _ (List.mem_append_right _ h)))
theorem nX3_gateOf_X1 : ∀ x ∈ wsX10, x ∈ wsX3_gateOf := fun _ h => List.mem_cons_of_mem _ (List.mem_append_left _ (List.mem_append_right _ h))
theorem nX3_gateOf_X3 : ∀ x ∈ wsX30, x ∈ wsX3_gateOf := fun _ h => List.mem_cons_of_mem _ (List.mem_append_left _ (List.mem_append_left _ (List.mem_append_left _ (List.mem_append_right _ h))))
set_option maxRecDepth 100000 in
set_option maxHeartbeats 4000000 in
theorem c_X3_gateOf (l : Launch) (D : va_G) (cI : ClassId) (hst : l.stackTraces = false) (a b : Nat → Nat) (S S2 : Nat → Nat → Nat) (x1 : Int32) (hI : Inv S) : TI l yX3_gateOf wsX3_gateOf 8 1 136 D [(cI, .int)] [.ref (a 13), .int x1] (wCo cI a b S S2) (wCo cI a b S S2) (exq ["java/lang/IndexOutOfBoundsException"] (r1 (S 0 1) x1 (nI (S 2 (cl x1)))).1) ((r1 (S 0 1) x1 (nI (S 2 (cl x1)))).2) := by
  refine k_bodyX (cc := cX3_gateOf) (maxL := 2) (ret := (some .int)) (by decide) rfl (Nat.le_of_ble_eq_true rfl) ?_
  intro p e s m args below meth c H ls F hr hlk hl hP hK hD hS hX ht
  have F : CallFix p m c cX3_gateOf 2 s args wsX3_gateOf RX3 := F
  have hl : lv_has ls 2 [(0, .ref (a 13)), (1, .int x1)] := hl
  have hi0 := hI.gates
  have hi1 := hI.geese
  have hi2 := hI.guests
  refine lv_aload_n F.1 F.2.1 dX3_gateOf_0 rfl (lv_at hl 0 rfl) ?_
  refine lv_iload_n F.1 F.2.1 dX3_gateOf_1 rfl (lv_at hl 1 rfl) ?_
  refine t_demV (n := 1) (rest := []) F (c_X3_demandGoose l D cI hst a b S S2 x1) gX3_gateOf_X3_demandGoose rfl (by decide +kernel) ⟨Nat.le_of_ble_eq_true rfl, Nat.le_of_ble_eq_true rfl⟩ rfl hl.1 rfl (Nat.le_of_ble_eq_true rfl) dX3_gateOf_2 ⟨show 0 + 1 ≤ 1 by omega, show 0 + 6 ≤ 6 by omega⟩ hK hX hP hD hS ht hlk (show 0 + 1 ≤ 1 by omega) (show 0 + 6 ≤ 6 by omega) (fun h2 => ?_) (q0 := 0) (ci := 3) rfl rfl (fun h2 H locs hP hS => ?_)
  · skip
    have e9 : r1 (S 0 1) x1 (nI (S 2 (cl x1))) = (1, nI 0) := r1_n h2
    rw [e9]; rfl
  · skip
    obtain ⟨g1, hg1, rfl⟩ := lt_nI (by omega) h2
    refine lv_aload_n F.1 F.2.1 dX3_gateOf_5 rfl (lv_at hl 0 rfl) ?_
    refine k_get (v := .ref (a 0)) F nX3_gateOf_X3 hK.1 hP 0 rfl rfl 0 (by decide) (List.mem_of_getElem? (i := 1) rfl) rfl dX3_gateOf_6 ?_
    refine k_get (v := .ref (a 2)) F nX3_gateOf_X0 hK.1 hP 1 rfl rfl 2 (by decide) (List.mem_of_getElem? (i := 2) rfl) rfl dX3_gateOf_9 ?_
    refine k_get (v := .ref (a 3)) F nX3_gateOf_X1 hK.1 hP 3 rfl rfl 1 (by decide) (List.mem_of_getElem? (i := 3) rfl) rfl dX3_gateOf_12 ?_
    refine lv_iload_n F.1 F.2.1 dX3_gateOf_15 rfl (lv_at hl 1 rfl) ?_
    refine k_iald (f := S 2) (n := 8) F hK.1 hP 4 0 rfl rfl (by omega) (by decide) dX3_gateOf_16 ?_
    have e9 : r1 (S 0 1) (nI g1) (nI (S 2 (cl (nI g1)))) = (0, nI (S 2 g1)) := by rw [cl_nI (show g1 < 2 ^ 31 by omega)]; exact r1_y h2
    exact t_retI F hr hlk hP rfl hS (by rw [e9]; rfl) (by rw [e9]) rfl (show 0 + 1 ≤ 1 by omega) (show 0 + 6 ≤ 6 by omega) dX3_gateOf_17
theorem nX3_temperOf_X0 : ∀ x ∈ wsX00, x ∈ wsX3_temperOf := fun _ h => List.mem_cons_of_mem _ (List.mem_append_left _ (List.mem_append_left _ (List.mem_append_right _ h)))
theorem nX3_temperOf_X1 : ∀ x ∈ wsX10, x ∈ wsX3_temperOf := fun _ h => List.mem_cons_of_mem _ (List.mem_append_left _ (List.mem_append_right _ h))
theorem nX3_temperOf_X3 : ∀ x ∈ wsX30, x ∈ wsX3_temperOf := fun _ h => List.mem_cons_of_mem _ (List.mem_append_left _ (List.mem_append_left _ (List.mem_append_left _ (List.mem_append_right _ h))))
set_option maxRecDepth 100000 in
set_option maxHeartbeats 4000000 in
theorem c_X3_temperOf (l : Launch) (D : va_G) (cI : ClassId) (hst : l.stackTraces = false) (a b : Nat → Nat) (S S2 : Nat → Nat → Nat) (x1 : Int32) (hI : Inv S) : TI l yX3_temperOf wsX3_temperOf 8 1 136 D [(cI, .int)] [.ref (a 13), .int x1] (wCo cI a b S S2) (wCo cI a b S S2) (exq ["java/lang/IndexOutOfBoundsException"] (r1 (S 0 1) x1 (nI (S 3 (cl x1)))).1) ((r1 (S 0 1) x1 (nI (S 3 (cl x1)))).2) := by
  refine k_bodyX (cc := cX3_temperOf) (maxL := 2) (ret := (some .int)) (by decide) rfl (Nat.le_of_ble_eq_true rfl) ?_
  intro p e s m args below meth c H ls F hr hlk hl hP hK hD hS hX ht
  have F : CallFix p m c cX3_temperOf 2 s args wsX3_temperOf RX3 := F
  have hl : lv_has ls 2 [(0, .ref (a 13)), (1, .int x1)] := hl
  have hi0 := hI.gates
  have hi1 := hI.geese
  have hi2 := hI.guests
  refine lv_aload_n F.1 F.2.1 dX3_temperOf_0 rfl (lv_at hl 0 rfl) ?_
  refine lv_iload_n F.1 F.2.1 dX3_temperOf_1 rfl (lv_at hl 1 rfl) ?_
  refine t_demV (n := 1) (rest := []) F (c_X3_demandGoose l D cI hst a b S S2 x1) gX3_temperOf_X3_demandGoose rfl (by decide +kernel) ⟨Nat.le_of_ble_eq_true rfl, Nat.le_of_ble_eq_true rfl⟩ rfl hl.1 rfl (Nat.le_of_ble_eq_true rfl) dX3_temperOf_2 ⟨show 0 + 1 ≤ 1 by omega, show 0 + 6 ≤ 6 by omega⟩ hK hX hP hD hS ht hlk (show 0 + 1 ≤ 1 by omega) (show 0 + 6 ≤ 6 by omega) (fun h2 => ?_) (q0 := 0) (ci := 3) rfl rfl (fun h2 H locs hP hS => ?_)
  · skip
    have e9 : r1 (S 0 1) x1 (nI (S 3 (cl x1))) = (1, nI 0) := r1_n h2
    rw [e9]; rfl
  · skip
    obtain ⟨g1, hg1, rfl⟩ := lt_nI (by omega) h2
    refine lv_aload_n F.1 F.2.1 dX3_temperOf_5 rfl (lv_at hl 0 rfl) ?_
    refine k_get (v := .ref (a 0)) F nX3_temperOf_X3 hK.1 hP 0 rfl rfl 0 (by decide) (List.mem_of_getElem? (i := 1) rfl) rfl dX3_temperOf_6 ?_
    refine k_get (v := .ref (a 2)) F nX3_temperOf_X0 hK.1 hP 1 rfl rfl 2 (by decide) (List.mem_of_getElem? (i := 2) rfl) rfl dX3_temperOf_9 ?_
    refine k_get (v := .ref (a 4)) F nX3_temperOf_X1 hK.1 hP 3 rfl rfl 2 (by decide) (List.mem_of_getElem? (i := 3) rfl) rfl dX3_temperOf_12 ?_
    refine lv_iload_n F.1 F.2.1 dX3_temperOf_15 rfl (lv_at hl 1 rfl) ?_
    refine k_iald (f := S 3) (n := 8) F hK.1 hP 5 0 rfl rfl (by omega) (by decide) dX3_temperOf_16 ?_
    have e9 : r1 (S 0 1) (nI g1) (nI (S 3 (cl (nI g1)))) = (0, nI (S 3 g1)) := by rw [cl_nI (show g1 < 2 ^ 31 by omega)]; exact r1_y h2
    exact t_retI F hr hlk hP rfl hS (by rw [e9]; rfl) (by rw [e9]) rfl (show 0 + 1 ≤ 1 by omega) (show 0 + 6 ≤ 6 by omega) dX3_temperOf_17
theorem nX3_calmFor_X0 : ∀ x ∈ wsX00, x ∈ wsX3_calmFor := fun _ h => List.mem_cons_of_mem _ (List.mem_append_left _ (List.mem_append_left _ (List.mem_append_right _ h)))
theorem nX3_calmFor_X1 : ∀ x ∈ wsX10, x ∈ wsX3_calmFor := fun _ h => List.mem_cons_of_mem _ (List.mem_append_left _ (List.mem_append_right _ h))
theorem nX3_calmFor_X3 : ∀ x ∈ wsX30, x ∈ wsX3_calmFor := fun _ h => List.mem_cons_of_mem _ (List.mem_append_left _ (List.mem_append_left _ (List.mem_append_left _ (List.mem_append_right _ h))))
set_option maxRecDepth 100000 in
set_option maxHeartbeats 4000000 in
theorem c_X3_calmFor (l : Launch) (D : va_G) (cI : ClassId) (hst : l.stackTraces = false) (a b : Nat → Nat) (S S2 : Nat → Nat → Nat) (x1 : Int32) (hI : Inv S) : TI l yX3_calmFor wsX3_calmFor 8 1 136 D [(cI, .int)] [.ref (a 13), .int x1] (wCo cI a b S S2) (wCo cI a b S S2) (exq ["java/lang/IndexOutOfBoundsException"] (r1 (S 0 1) x1 (nI (S 4 (cl x1)))).1) ((r1 (S 0 1) x1 (nI (S 4 (cl x1)))).2) := by
  refine k_bodyX (cc := cX3_calmFor) (maxL := 2) (ret := (some .int)) (by decide) rfl (Nat.le_of_ble_eq_true rfl) ?_
  intro p e s m args below meth c H ls F hr hlk hl hP hK hD hS hX ht
  have F : CallFix p m c cX3_calmFor 2 s args wsX3_calmFor RX3 := F
  have hl : lv_has ls 2 [(0, .ref (a 13)), (1, .int x1)] := hl
  have hi0 := hI.gates
  have hi1 := hI.geese
  have hi2 := hI.guests
  refine lv_aload_n F.1 F.2.1 dX3_calmFor_0 rfl (lv_at hl 0 rfl) ?_
  refine lv_iload_n F.1 F.2.1 dX3_calmFor_1 rfl (lv_at hl 1 rfl) ?_
  refine t_demV (n := 1) (rest := []) F (c_X3_demandGoose l D cI hst a b S S2 x1) gX3_calmFor_X3_demandGoose rfl (by decide +kernel) ⟨Nat.le_of_ble_eq_true rfl, Nat.le_of_ble_eq_true rfl⟩ rfl hl.1 rfl (Nat.le_of_ble_eq_true rfl) dX3_calmFor_2 ⟨show 0 + 1 ≤ 1 by omega, show 0 + 6 ≤ 6 by omega⟩ hK hX hP hD hS ht hlk (show 0 + 1 ≤ 1 by omega) (show 0 + 6 ≤ 6 by omega) (fun h2 => ?_) (q0 := 0) (ci := 3) rfl rfl (fun h2 H locs hP hS => ?_)
  · skip
    have e9 : r1 (S 0 1) x1 (nI (S 4 (cl x1))) = (1, nI 0) := r1_n h2
    rw [e9]; rfl
  · skip
    obtain ⟨g1, hg1, rfl⟩ := lt_nI (by omega) h2
    refine lv_aload_n F.1 F.2.1 dX3_calmFor_5 rfl (lv_at hl 0 rfl) ?_
    refine k_get (v := .ref (a 0)) F nX3_calmFor_X3 hK.1 hP 0 rfl rfl 0 (by decide) (List.mem_of_getElem? (i := 1) rfl) rfl dX3_calmFor_6 ?_
    refine k_get (v := .ref (a 2)) F nX3_calmFor_X0 hK.1 hP 1 rfl rfl 2 (by decide) (List.mem_of_getElem? (i := 2) rfl) rfl dX3_calmFor_9 ?_
    refine k_get (v := .ref (a 5)) F nX3_calmFor_X1 hK.1 hP 3 rfl rfl 3 (by decide) (List.mem_of_getElem? (i := 3) rfl) rfl dX3_calmFor_12 ?_
    refine lv_iload_n F.1 F.2.1 dX3_calmFor_15 rfl (lv_at hl 1 rfl) ?_
    refine k_iald (f := S 4) (n := 8) F hK.1 hP 6 0 rfl rfl (by omega) (by decide) dX3_calmFor_16 ?_
    have e9 : r1 (S 0 1) (nI g1) (nI (S 4 (cl (nI g1)))) = (0, nI (S 4 g1)) := by rw [cl_nI (show g1 < 2 ^ 31 by omega)]; exact r1_y h2
    exact t_retI F hr hlk hP rfl hS (by rw [e9]; rfl) (by rw [e9]) rfl (show 0 + 1 ≤ 1 by omega) (show 0 + 6 ≤ 6 by omega) dX3_calmFor_17
theorem nX3_eatenBy_X0 : ∀ x ∈ wsX00, x ∈ wsX3_eatenBy := fun _ h => List.mem_cons_of_mem _ (List.mem_append_left _ (List.mem_append_left _ (List.mem_append_right _ h)))
theorem nX3_eatenBy_X1 : ∀ x ∈ wsX10, x ∈ wsX3_eatenBy := fun _ h => List.mem_cons_of_mem _ (List.mem_append_left _ (List.mem_append_right _ h))
theorem nX3_eatenBy_X3 : ∀ x ∈ wsX30, x ∈ wsX3_eatenBy := fun _ h => List.mem_cons_of_mem _ (List.mem_append_left _ (List.mem_append_left _ (List.mem_append_left _ (List.mem_append_right _ h))))
set_option maxRecDepth 100000 in
set_option maxHeartbeats 4000000 in
theorem c_X3_eatenBy (l : Launch) (D : va_G) (cI : ClassId) (hst : l.stackTraces = false) (a b : Nat → Nat) (S S2 : Nat → Nat → Nat) (x1 : Int32) (hI : Inv S) : TI l yX3_eatenBy wsX3_eatenBy 8 1 136 D [(cI, .int)] [.ref (a 13), .int x1] (wCo cI a b S S2) (wCo cI a b S S2) (exq ["java/lang/IndexOutOfBoundsException"] (r1 (S 0 1) x1 (nI (S 5 (cl x1)))).1) ((r1 (S 0 1) x1 (nI (S 5 (cl x1)))).2) := by
  refine k_bodyX (cc := cX3_eatenBy) (maxL := 2) (ret := (some .int)) (by decide) rfl (Nat.le_of_ble_eq_true rfl) ?_
  intro p e s m args below meth c H ls F hr hlk hl hP hK hD hS hX ht
  have F : CallFix p m c cX3_eatenBy 2 s args wsX3_eatenBy RX3 := F
  have hl : lv_has ls 2 [(0, .ref (a 13)), (1, .int x1)] := hl
  have hi0 := hI.gates
  have hi1 := hI.geese
  have hi2 := hI.guests
  refine lv_aload_n F.1 F.2.1 dX3_eatenBy_0 rfl (lv_at hl 0 rfl) ?_
  refine lv_iload_n F.1 F.2.1 dX3_eatenBy_1 rfl (lv_at hl 1 rfl) ?_
  refine t_demV (n := 1) (rest := []) F (c_X3_demandGoose l D cI hst a b S S2 x1) gX3_eatenBy_X3_demandGoose rfl (by decide +kernel) ⟨Nat.le_of_ble_eq_true rfl, Nat.le_of_ble_eq_true rfl⟩ rfl hl.1 rfl (Nat.le_of_ble_eq_true rfl) dX3_eatenBy_2 ⟨show 0 + 1 ≤ 1 by omega, show 0 + 6 ≤ 6 by omega⟩ hK hX hP hD hS ht hlk (show 0 + 1 ≤ 1 by omega) (show 0 + 6 ≤ 6 by omega) (fun h2 => ?_) (q0 := 0) (ci := 3) rfl rfl (fun h2 H locs hP hS => ?_)
  · skip
    have e9 : r1 (S 0 1) x1 (nI (S 5 (cl x1))) = (1, nI 0) := r1_n h2
    rw [e9]; rfl
  · skip
    obtain ⟨g1, hg1, rfl⟩ := lt_nI (by omega) h2
    refine lv_aload_n F.1 F.2.1 dX3_eatenBy_5 rfl (lv_at hl 0 rfl) ?_
    refine k_get (v := .ref (a 0)) F nX3_eatenBy_X3 hK.1 hP 0 rfl rfl 0 (by decide) (List.mem_of_getElem? (i := 1) rfl) rfl dX3_eatenBy_6 ?_
    refine k_get (v := .ref (a 2)) F nX3_eatenBy_X0 hK.1 hP 1 rfl rfl 2 (by decide) (List.mem_of_getElem? (i := 2) rfl) rfl dX3_eatenBy_9 ?_
    refine k_get (v := .ref (a 6)) F nX3_eatenBy_X1 hK.1 hP 3 rfl rfl 4 (by decide) (List.mem_of_getElem? (i := 3) rfl) rfl dX3_eatenBy_12 ?_
    refine lv_iload_n F.1 F.2.1 dX3_eatenBy_15 rfl (lv_at hl 1 rfl) ?_
    refine k_iald (f := S 5) (n := 8) F hK.1 hP 7 0 rfl rfl (by omega) (by decide) dX3_eatenBy_16 ?_
    have e9 : r1 (S 0 1) (nI g1) (nI (S 5 (cl (nI g1)))) = (0, nI (S 5 g1)) := by rw [cl_nI (show g1 < 2 ^ 31 by omega)]; exact r1_y h2
    exact t_retI F hr hlk hP rfl hS (by rw [e9]; rfl) (by rw [e9]) rfl (show 0 + 1 ≤ 1 by omega) (show 0 + 6 ≤ 6 by omega) dX3_eatenBy_17
theorem nX3_passedBy_X0 : ∀ x ∈ wsX00, x ∈ wsX3_passedBy := fun _ h => List.mem_cons_of_mem _ (List.mem_append_left _ (List.mem_append_left _ (List.mem_append_right _ h)))
theorem nX3_passedBy_X2 : ∀ x ∈ wsX20, x ∈ wsX3_passedBy := fun _ h => List.mem_cons_of_mem _ (List.mem_append_left _ (List.mem_append_right _ h))
theorem nX3_passedBy_X3 : ∀ x ∈ wsX30, x ∈ wsX3_passedBy := fun _ h => List.mem_cons_of_mem _ (List.mem_append_left _ (List.mem_append_left _ (List.mem_append_left _ (List.mem_append_right _ h))))
set_option maxRecDepth 100000 in
set_option maxHeartbeats 4000000 in
theorem c_X3_passedBy (l : Launch) (D : va_G) (cI : ClassId) (hst : l.stackTraces = false) (a b : Nat → Nat) (S S2 : Nat → Nat → Nat) (x1 : Int32) (hI : Inv S) : TI l yX3_passedBy wsX3_passedBy 8 1 136 D [(cI, .int)] [.ref (a 13), .int x1] (wCo cI a b S S2) (wCo cI a b S S2) (exq ["java/lang/IndexOutOfBoundsException"] (r1 (S 0 2) x1 (nI (S 7 (cl x1)))).1) ((r1 (S 0 2) x1 (nI (S 7 (cl x1)))).2) := by
  refine k_bodyX (cc := cX3_passedBy) (maxL := 2) (ret := (some .int)) (by decide) rfl (Nat.le_of_ble_eq_true rfl) ?_
  intro p e s m args below meth c H ls F hr hlk hl hP hK hD hS hX ht
  have F : CallFix p m c cX3_passedBy 2 s args wsX3_passedBy RX3 := F
  have hl : lv_has ls 2 [(0, .ref (a 13)), (1, .int x1)] := hl
  have hi0 := hI.gates
  have hi1 := hI.geese
  have hi2 := hI.guests
  refine lv_aload_n F.1 F.2.1 dX3_passedBy_0 rfl (lv_at hl 0 rfl) ?_
  refine lv_iload_n F.1 F.2.1 dX3_passedBy_1 rfl (lv_at hl 1 rfl) ?_
  refine t_demV (n := 1) (rest := []) F (c_X3_demandVisitor l D cI hst a b S S2 x1) gX3_passedBy_X3_demandVisitor rfl (by decide +kernel) ⟨Nat.le_of_ble_eq_true rfl, Nat.le_of_ble_eq_true rfl⟩ rfl hl.1 rfl (Nat.le_of_ble_eq_true rfl) dX3_passedBy_2 ⟨show 0 + 1 ≤ 1 by omega, show 0 + 6 ≤ 6 by omega⟩ hK hX hP hD hS ht hlk (show 0 + 1 ≤ 1 by omega) (show 0 + 6 ≤ 6 by omega) (fun h2 => ?_) (q0 := 0) (ci := 3) rfl rfl (fun h2 H locs hP hS => ?_)
  · skip
    have e9 : r1 (S 0 2) x1 (nI (S 7 (cl x1))) = (1, nI 0) := r1_n h2
    rw [e9]; rfl
  · skip
    obtain ⟨g1, hg1, rfl⟩ := lt_nI (by omega) h2
    refine lv_aload_n F.1 F.2.1 dX3_passedBy_5 rfl (lv_at hl 0 rfl) ?_
    refine k_get (v := .ref (a 0)) F nX3_passedBy_X3 hK.1 hP 0 rfl rfl 0 (by decide) (List.mem_of_getElem? (i := 1) rfl) rfl dX3_passedBy_6 ?_
    refine k_get (v := .ref (a 7)) F nX3_passedBy_X0 hK.1 hP 1 rfl rfl 3 (by decide) (List.mem_of_getElem? (i := 2) rfl) rfl dX3_passedBy_9 ?_
    refine k_get (v := .ref (a 11)) F nX3_passedBy_X2 hK.1 hP 8 rfl rfl 4 (by decide) (List.mem_of_getElem? (i := 3) rfl) rfl dX3_passedBy_12 ?_
    refine lv_iload_n F.1 F.2.1 dX3_passedBy_15 rfl (lv_at hl 1 rfl) ?_
    refine k_iald (f := S 7) (n := 8) F hK.1 hP 12 0 rfl rfl (by omega) (by decide) dX3_passedBy_16 ?_
    have e9 : r1 (S 0 2) (nI g1) (nI (S 7 (cl (nI g1)))) = (0, nI (S 7 g1)) := by rw [cl_nI (show g1 < 2 ^ 31 by omega)]; exact r1_y h2
    exact t_retI F hr hlk hP rfl hS (by rw [e9]; rfl) (by rw [e9]) rfl (show 0 + 1 ≤ 1 by omega) (show 0 + 6 ≤ 6 by omega) dX3_passedBy_17
theorem nX3_cornsOf_X0 : ∀ x ∈ wsX00, x ∈ wsX3_cornsOf := fun _ h => List.mem_cons_of_mem _ (List.mem_append_left _ (List.mem_append_left _ (List.mem_append_right _ h)))
theorem nX3_cornsOf_X2 : ∀ x ∈ wsX20, x ∈ wsX3_cornsOf := fun _ h => List.mem_cons_of_mem _ (List.mem_append_left _ (List.mem_append_right _ h))
theorem nX3_cornsOf_X3 : ∀ x ∈ wsX30, x ∈ wsX3_cornsOf := fun _ h => List.mem_cons_of_mem _ (List.mem_append_left _ (List.mem_append_left _ (List.mem_append_left _ (List.mem_append_right _ h))))
set_option maxRecDepth 100000 in
set_option maxHeartbeats 4000000 in
theorem c_X3_cornsOf (l : Launch) (D : va_G) (cI : ClassId) (hst : l.stackTraces = false) (a b : Nat → Nat) (S S2 : Nat → Nat → Nat) (x1 : Int32) (hI : Inv S) : TI l yX3_cornsOf wsX3_cornsOf 8 1 136 D [(cI, .int)] [.ref (a 13), .int x1] (wCo cI a b S S2) (wCo cI a b S S2) (exq ["java/lang/IndexOutOfBoundsException"] (r1 (S 0 2) x1 (nI (S 8 (cl x1)))).1) ((r1 (S 0 2) x1 (nI (S 8 (cl x1)))).2) := by
  refine k_bodyX (cc := cX3_cornsOf) (maxL := 2) (ret := (some .int)) (by decide) rfl (Nat.le_of_ble_eq_true rfl) ?_
  intro p e s m args below meth c H ls F hr hlk hl hP hK hD hS hX ht
  have F : CallFix p m c cX3_cornsOf 2 s args wsX3_cornsOf RX3 := F
  have hl : lv_has ls 2 [(0, .ref (a 13)), (1, .int x1)] := hl
  have hi0 := hI.gates
  have hi1 := hI.geese
  have hi2 := hI.guests
  refine lv_aload_n F.1 F.2.1 dX3_cornsOf_0 rfl (lv_at hl 0 rfl) ?_
  refine lv_iload_n F.1 F.2.1 dX3_cornsOf_1 rfl (lv_at hl 1 rfl) ?_
  refine t_demV (n := 1) (rest := []) F (c_X3_demandVisitor l D cI hst a b S S2 x1) gX3_cornsOf_X3_demandVisitor rfl (by decide +kernel) ⟨Nat.le_of_ble_eq_true rfl, Nat.le_of_ble_eq_true rfl⟩ rfl hl.1 rfl (Nat.le_of_ble_eq_true rfl) dX3_cornsOf_2 ⟨show 0 + 1 ≤ 1 by omega, show 0 + 6 ≤ 6 by omega⟩ hK hX hP hD hS ht hlk (show 0 + 1 ≤ 1 by omega) (show 0 + 6 ≤ 6 by omega) (fun h2 => ?_) (q0 := 0) (ci := 3) rfl rfl (fun h2 H locs hP hS => ?_)
  · skip
    have e9 : r1 (S 0 2) x1 (nI (S 8 (cl x1))) = (1, nI 0) := r1_n h2
    rw [e9]; rfl
  · skip
    obtain ⟨g1, hg1, rfl⟩ := lt_nI (by omega) h2
    refine lv_aload_n F.1 F.2.1 dX3_cornsOf_5 rfl (lv_at hl 0 rfl) ?_
    refine k_get (v := .ref (a 0)) F nX3_cornsOf_X3 hK.1 hP 0 rfl rfl 0 (by decide) (List.mem_of_getElem? (i := 1) rfl) rfl dX3_cornsOf_6 ?_
    refine k_get (v := .ref (a 7)) F nX3_cornsOf_X0 hK.1 hP 1 rfl rfl 3 (by decide) (List.mem_of_getElem? (i := 2) rfl) rfl dX3_cornsOf_9 ?_
    refine k_get (v := .ref (a 10)) F nX3_cornsOf_X2 hK.1 hP 8 rfl rfl 3 (by decide) (List.mem_of_getElem? (i := 3) rfl) rfl dX3_cornsOf_12 ?_
    refine lv_iload_n F.1 F.2.1 dX3_cornsOf_15 rfl (lv_at hl 1 rfl) ?_
    refine k_iald (f := S 8) (n := 8) F hK.1 hP 11 0 rfl rfl (by omega) (by decide) dX3_cornsOf_16 ?_
    have e9 : r1 (S 0 2) (nI g1) (nI (S 8 (cl (nI g1)))) = (0, nI (S 8 g1)) := by rw [cl_nI (show g1 < 2 ^ 31 by omega)]; exact r1_y h2
    exact t_retI F hr hlk hP rfl hS (by rw [e9]; rfl) (by rw [e9]) rfl (show 0 + 1 ≤ 1 by omega) (show 0 + 6 ≤ 6 by omega) dX3_cornsOf_17
theorem nX3_nerveOf_X0 : ∀ x ∈ wsX00, x ∈ wsX3_nerveOf := fun _ h => List.mem_cons_of_mem _ (List.mem_append_left _ (List.mem_append_left _ (List.mem_append_right _ h)))
theorem nX3_nerveOf_X2 : ∀ x ∈ wsX20, x ∈ wsX3_nerveOf := fun _ h => List.mem_cons_of_mem _ (List.mem_append_left _ (List.mem_append_right _ h))
theorem nX3_nerveOf_X3 : ∀ x ∈ wsX30, x ∈ wsX3_nerveOf := fun _ h => List.mem_cons_of_mem _ (List.mem_append_left _ (List.mem_append_left _ (List.mem_append_left _ (List.mem_append_right _ h))))
set_option maxRecDepth 100000 in
set_option maxHeartbeats 4000000 in
theorem c_X3_nerveOf (l : Launch) (D : va_G) (cI : ClassId) (hst : l.stackTraces = false) (a b : Nat → Nat) (S S2 : Nat → Nat → Nat) (x1 : Int32) (hI : Inv S) : TI l yX3_nerveOf wsX3_nerveOf 8 1 136 D [(cI, .int)] [.ref (a 13), .int x1] (wCo cI a b S S2) (wCo cI a b S S2) (exq ["java/lang/IndexOutOfBoundsException"] (r1 (S 0 2) x1 (nI (S 9 (cl x1)))).1) ((r1 (S 0 2) x1 (nI (S 9 (cl x1)))).2) := by
  refine k_bodyX (cc := cX3_nerveOf) (maxL := 2) (ret := (some .int)) (by decide) rfl (Nat.le_of_ble_eq_true rfl) ?_
  intro p e s m args below meth c H ls F hr hlk hl hP hK hD hS hX ht
  have F : CallFix p m c cX3_nerveOf 2 s args wsX3_nerveOf RX3 := F
  have hl : lv_has ls 2 [(0, .ref (a 13)), (1, .int x1)] := hl
  have hi0 := hI.gates
  have hi1 := hI.geese
  have hi2 := hI.guests
  refine lv_aload_n F.1 F.2.1 dX3_nerveOf_0 rfl (lv_at hl 0 rfl) ?_
  refine lv_iload_n F.1 F.2.1 dX3_nerveOf_1 rfl (lv_at hl 1 rfl) ?_
  refine t_demV (n := 1) (rest := []) F (c_X3_demandVisitor l D cI hst a b S S2 x1) gX3_nerveOf_X3_demandVisitor rfl (by decide +kernel) ⟨Nat.le_of_ble_eq_true rfl, Nat.le_of_ble_eq_true rfl⟩ rfl hl.1 rfl (Nat.le_of_ble_eq_true rfl) dX3_nerveOf_2 ⟨show 0 + 1 ≤ 1 by omega, show 0 + 6 ≤ 6 by omega⟩ hK hX hP hD hS ht hlk (show 0 + 1 ≤ 1 by omega) (show 0 + 6 ≤ 6 by omega) (fun h2 => ?_) (q0 := 0) (ci := 3) rfl rfl (fun h2 H locs hP hS => ?_)
  · skip
    have e9 : r1 (S 0 2) x1 (nI (S 9 (cl x1))) = (1, nI 0) := r1_n h2
    rw [e9]; rfl
  · skip
    obtain ⟨g1, hg1, rfl⟩ := lt_nI (by omega) h2
    refine lv_aload_n F.1 F.2.1 dX3_nerveOf_5 rfl (lv_at hl 0 rfl) ?_
    refine k_get (v := .ref (a 0)) F nX3_nerveOf_X3 hK.1 hP 0 rfl rfl 0 (by decide) (List.mem_of_getElem? (i := 1) rfl) rfl dX3_nerveOf_6 ?_
    refine k_get (v := .ref (a 7)) F nX3_nerveOf_X0 hK.1 hP 1 rfl rfl 3 (by decide) (List.mem_of_getElem? (i := 2) rfl) rfl dX3_nerveOf_9 ?_
    refine k_get (v := .ref (a 9)) F nX3_nerveOf_X2 hK.1 hP 8 rfl rfl 2 (by decide) (List.mem_of_getElem? (i := 3) rfl) rfl dX3_nerveOf_12 ?_
    refine lv_iload_n F.1 F.2.1 dX3_nerveOf_15 rfl (lv_at hl 1 rfl) ?_
    refine k_iald (f := S 9) (n := 8) F hK.1 hP 10 0 rfl rfl (by omega) (by decide) dX3_nerveOf_16 ?_
    have e9 : r1 (S 0 2) (nI g1) (nI (S 9 (cl (nI g1)))) = (0, nI (S 9 g1)) := by rw [cl_nI (show g1 < 2 ^ 31 by omega)]; exact r1_y h2
    exact t_retI F hr hlk hP rfl hS (by rw [e9]; rfl) (by rw [e9]) rfl (show 0 + 1 ≤ 1 by omega) (show 0 + 6 ≤ 6 by omega) dX3_nerveOf_17
theorem nX3_retreatOf_X0 : ∀ x ∈ wsX00, x ∈ wsX3_retreatOf := fun _ h => List.mem_cons_of_mem _ (List.mem_append_left _ (List.mem_append_left _ (List.mem_append_right _ h)))
theorem nX3_retreatOf_X2 : ∀ x ∈ wsX20, x ∈ wsX3_retreatOf := fun _ h => List.mem_cons_of_mem _ (List.mem_append_left _ (List.mem_append_right _ h))
theorem nX3_retreatOf_X3 : ∀ x ∈ wsX30, x ∈ wsX3_retreatOf := fun _ h => List.mem_cons_of_mem _ (List.mem_append_left _ (List.mem_append_left _ (List.mem_append_left _ (List.mem_append_right _ h))))
set_option maxRecDepth 100000 in
set_option maxHeartbeats 4000000 in
theorem c_X3_retreatOf (l : Launch) (D : va_G) (cI : ClassId) (hst : l.stackTraces = false) (a b : Nat → Nat) (S S2 : Nat → Nat → Nat) (x1 : Int32) (hI : Inv S) : TI l yX3_retreatOf wsX3_retreatOf 8 1 136 D [(cI, .int)] [.ref (a 13), .int x1] (wCo cI a b S S2) (wCo cI a b S S2) (exq ["java/lang/IndexOutOfBoundsException"] (r1 (S 0 2) x1 (nI (S 10 (cl x1)))).1) ((r1 (S 0 2) x1 (nI (S 10 (cl x1)))).2) := by
  refine k_bodyX (cc := cX3_retreatOf) (maxL := 2) (ret := (some .int)) (by decide) rfl (Nat.le_of_ble_eq_true rfl) ?_
  intro p e s m args below meth c H ls F hr hlk hl hP hK hD hS hX ht
  have F : CallFix p m c cX3_retreatOf 2 s args wsX3_retreatOf RX3 := F
  have hl : lv_has ls 2 [(0, .ref (a 13)), (1, .int x1)] := hl
  have hi0 := hI.gates
  have hi1 := hI.geese
  have hi2 := hI.guests
  refine lv_aload_n F.1 F.2.1 dX3_retreatOf_0 rfl (lv_at hl 0 rfl) ?_
  refine lv_iload_n F.1 F.2.1 dX3_retreatOf_1 rfl (lv_at hl 1 rfl) ?_
  refine t_demV (n := 1) (rest := []) F (c_X3_demandVisitor l D cI hst a b S S2 x1) gX3_retreatOf_X3_demandVisitor rfl (by decide +kernel) ⟨Nat.le_of_ble_eq_true rfl, Nat.le_of_ble_eq_true rfl⟩ rfl hl.1 rfl (Nat.le_of_ble_eq_true rfl) dX3_retreatOf_2 ⟨show 0 + 1 ≤ 1 by omega, show 0 + 6 ≤ 6 by omega⟩ hK hX hP hD hS ht hlk (show 0 + 1 ≤ 1 by omega) (show 0 + 6 ≤ 6 by omega) (fun h2 => ?_) (q0 := 0) (ci := 3) rfl rfl (fun h2 H locs hP hS => ?_)
  · skip
    have e9 : r1 (S 0 2) x1 (nI (S 10 (cl x1))) = (1, nI 0) := r1_n h2
    rw [e9]; rfl
  · skip
    obtain ⟨g1, hg1, rfl⟩ := lt_nI (by omega) h2
    refine lv_aload_n F.1 F.2.1 dX3_retreatOf_5 rfl (lv_at hl 0 rfl) ?_
    refine k_get (v := .ref (a 0)) F nX3_retreatOf_X3 hK.1 hP 0 rfl rfl 0 (by decide) (List.mem_of_getElem? (i := 1) rfl) rfl dX3_retreatOf_6 ?_
    refine k_get (v := .ref (a 7)) F nX3_retreatOf_X0 hK.1 hP 1 rfl rfl 3 (by decide) (List.mem_of_getElem? (i := 2) rfl) rfl dX3_retreatOf_9 ?_
    refine k_get (v := .ref (a 12)) F nX3_retreatOf_X2 hK.1 hP 8 rfl rfl 5 (by decide) (List.mem_of_getElem? (i := 3) rfl) rfl dX3_retreatOf_12 ?_
    refine lv_iload_n F.1 F.2.1 dX3_retreatOf_15 rfl (lv_at hl 1 rfl) ?_
    refine k_iald (f := S 10) (n := 8) F hK.1 hP 13 0 rfl rfl (by omega) (by decide) dX3_retreatOf_16 ?_
    have e9 : r1 (S 0 2) (nI g1) (nI (S 10 (cl (nI g1)))) = (0, nI (S 10 g1)) := by rw [cl_nI (show g1 < 2 ^ 31 by omega)]; exact r1_y h2
    exact t_retI F hr hlk hP rfl hS (by rw [e9]; rfl) (by rw [e9]) rfl (show 0 + 1 ≤ 1 by omega) (show 0 + 6 ≤ 6 by omega) dX3_retreatOf_17
