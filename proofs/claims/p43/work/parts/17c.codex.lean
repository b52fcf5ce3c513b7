theorem nX3_isInFarm_X3 : ∀ x ∈ wsX30, x ∈ wsX3_isInFarm := fun _ h => List.mem_cons_of_mem _ (List.mem_append_left _ (List.mem_append_left _ (List.mem_append_left _ (List.mem_append_right _ h))))
set_option maxRecDepth 100000 in
set_option maxHeartbeats 4000000 in
theorem c_X3_isInFarm (l : Launch) (D : va_G) (cI : ClassId) (hst : l.stackTraces = false) (a b : Nat → Nat) (S S2 : Nat → Nat → Nat) (x1 : Int32) (hI : Inv S) : TI l yX3_isInFarm wsX3_isInFarm 8 1 136 D [(cI, .int)] [.ref (a 13), .int x1] (wCo cI a b S S2) (wCo cI a b S S2) (exq ["java/lang/IndexOutOfBoundsException"] (r1 (S 0 2) x1 (bI (S 0 0 ≤ S 7 (cl x1)))).1) ((r1 (S 0 2) x1 (bI (S 0 0 ≤ S 7 (cl x1)))).2) := by
  refine k_bodyX (cc := cX3_isInFarm) (maxL := 2) (ret := (some .boolean)) (by decide) rfl (Nat.le_of_ble_eq_true rfl) ?_
  intro p e s m args below meth c H ls F hr hlk hl hP hK hD hS hX ht
  have F : CallFix p m c cX3_isInFarm 2 s args wsX3_isInFarm RX3 := F
  have hl : lv_has ls 2 [(0, .ref (a 13)), (1, .int x1)] := hl
  have hi0 := hI.gates
  have hi1 := hI.geese
  have hi2 := hI.guests
  refine lv_aload_n F.1 F.2.1 dX3_isInFarm_0 rfl (lv_at hl 0 rfl) ?_
  refine lv_iload_n F.1 F.2.1 dX3_isInFarm_1 rfl (lv_at hl 1 rfl) ?_
  refine t_demV (n := 1) (rest := []) F (c_X3_demandVisitor l D cI hst a b S S2 x1) gX3_isInFarm_X3_demandVisitor rfl (by decide +kernel) ⟨Nat.le_of_ble_eq_true rfl, Nat.le_of_ble_eq_true rfl⟩ rfl hl.1 rfl (Nat.le_of_ble_eq_true rfl) dX3_isInFarm_2 ⟨show 0 + 1 ≤ 1 by omega, show 0 + 6 ≤ 6 by omega⟩ hK hX hP hD hS ht hlk (show 0 + 1 ≤ 1 by omega) (show 0 + 6 ≤ 6 by omega) (fun h2 => ?_) (q0 := 0) (ci := 3) rfl rfl (fun h2 H locs hP hS => ?_)
  · skip
    have e9 : r1 (S 0 2) x1 (bI (S 0 0 ≤ S 7 (cl x1))) = (1, nI 0) := r1_n h2
    rw [e9]; rfl
  · skip
    obtain ⟨g1, hg1, rfl⟩ := lt_nI (by omega) h2
    refine lv_aload_n F.1 F.2.1 dX3_isInFarm_5 rfl (lv_at hl 0 rfl) ?_
    refine k_get (v := .ref (a 0)) F nX3_isInFarm_X3 hK.1 hP 0 rfl rfl 0 (by decide) (List.mem_of_getElem? (i := 1) rfl) rfl dX3_isInFarm_6 ?_
    refine lv_iload_n F.1 F.2.1 dX3_isInFarm_9 rfl (lv_at hl 1 rfl) ?_
    refine k_pV (n := 1) (rest := []) (v := bI (S 0 0 ≤ S 7 g1)) F (c_X0_isBehindAll l D cI a S g1 hI (by first | assumption | omega)) gX3_isInFarm_X0_isBehindAll rfl (by decide +kernel) ⟨Nat.le_of_ble_eq_true rfl, Nat.le_of_ble_eq_true rfl⟩ rfl hl.1 rfl (Nat.le_of_ble_eq_true rfl) dX3_isInFarm_10 ⟨show 0 + 1 ≤ 1 by omega, show 0 + 6 ≤ 6 by omega⟩ hK hP hS [1, 2, 3, 4, 5, 6, 7, 8, 9, 10, 11, 12, 13] wCo_suba (q0 := 1) (ci := 0) rfl rfl (fun H locs hP hS => ?_)
    have e9 : r1 (S 0 2) (nI g1) (bI (S 0 0 ≤ S 7 (cl (nI g1)))) = (0, bI (S 0 0 ≤ S 7 g1)) := by rw [cl_nI (show g1 < 2 ^ 31 by omega)]; exact r1_y h2
    exact t_retI F hr hlk hP rfl hS (by rw [e9]; rfl) (by rw [e9]) narB (show 0 + 1 ≤ 1 by omega) (show 0 + 6 ≤ 6 by omega) dX3_isInFarm_13
theorem nX3_hissAt_X3 : ∀ x ∈ wsX30, x ∈ wsX3_hissAt := fun _ h => List.mem_cons_of_mem _ (List.mem_append_left _ (List.mem_append_left _ (List.mem_append_left _ (List.mem_append_left _ (List.mem_append_right _ h)))))
set_option maxRecDepth 100000 in
set_option maxHeartbeats 4000000 in
theorem c_X3_hissAt (l : Launch) (D : va_G) (cI : ClassId) (hst : l.stackTraces = false) (a b : Nat → Nat) (S S2 : Nat → Nat → Nat) (x1 : Int32) (hI : Inv S) : TI l yX3_hissAt wsX3_hissAt 8 1 136 D [(cI, .int)] [.ref (a 13), .int x1] (wCo cI a b S S2) (wCo cI a b S S2) (exq ["java/lang/IndexOutOfBoundsException"] (r1 (S 0 2) x1 (nI (hisG S (S 7 (cl x1)) (S 6 (cl x1))))).1) ((r1 (S 0 2) x1 (nI (hisG S (S 7 (cl x1)) (S 6 (cl x1))))).2) := by
  refine k_bodyX (cc := cX3_hissAt) (maxL := 2) (ret := (some .int)) (by decide) rfl (Nat.le_of_ble_eq_true rfl) ?_
  intro p e s m args below meth c H ls F hr hlk hl hP hK hD hS hX ht
  have F : CallFix p m c cX3_hissAt 2 s args wsX3_hissAt RX3 := F
  have hl : lv_has ls 2 [(0, .ref (a 13)), (1, .int x1)] := hl
  have hi0 := hI.gates
  have hi1 := hI.geese
  have hi2 := hI.guests
  refine lv_aload_n F.1 F.2.1 dX3_hissAt_0 rfl (lv_at hl 0 rfl) ?_
  refine lv_iload_n F.1 F.2.1 dX3_hissAt_1 rfl (lv_at hl 1 rfl) ?_
  refine t_demV (n := 1) (rest := []) F (c_X3_demandVisitor l D cI hst a b S S2 x1) gX3_hissAt_X3_demandVisitor rfl (by decide +kernel) ⟨Nat.le_of_ble_eq_true rfl, Nat.le_of_ble_eq_true rfl⟩ rfl hl.1 rfl (Nat.le_of_ble_eq_true rfl) dX3_hissAt_2 ⟨show 0 + 1 ≤ 1 by omega, show 0 + 6 ≤ 6 by omega⟩ hK hX hP hD hS ht hlk (show 0 + 1 ≤ 1 by omega) (show 0 + 6 ≤ 6 by omega) (fun h2 => ?_) (q0 := 0) (ci := 3) rfl rfl (fun h2 H locs hP hS => ?_)
  · skip
    have e9 : r1 (S 0 2) x1 (nI (hisG S (S 7 (cl x1)) (S 6 (cl x1)))) = (1, nI 0) := r1_n h2
    rw [e9]; rfl
  · skip
    obtain ⟨g1, hg1, rfl⟩ := lt_nI (by omega) h2
    refine lv_aload_n F.1 F.2.1 dX3_hissAt_5 rfl (lv_at hl 0 rfl) ?_
    refine k_get (v := .ref (a 0)) F nX3_hissAt_X3 hK.1 hP 0 rfl rfl 0 (by decide) (List.mem_of_getElem? (i := 1) rfl) rfl dX3_hissAt_6 ?_
    refine lv_iload_n F.1 F.2.1 dX3_hissAt_9 rfl (lv_at hl 1 rfl) ?_
    refine k_pV (n := 1) (rest := []) (v := nI (hisG S (S 7 g1) (S 6 g1))) F (c_X0_guestHiss l D cI a S g1 hI (by first | assumption | omega)) gX3_hissAt_X0_guestHiss rfl (by decide +kernel) ⟨Nat.le_of_ble_eq_true rfl, Nat.le_of_ble_eq_true rfl⟩ rfl hl.1 rfl (Nat.le_of_ble_eq_true rfl) dX3_hissAt_10 ⟨show 0 + 1 ≤ 1 by omega, show 0 + 6 ≤ 6 by omega⟩ hK hP hS [1, 2, 3, 4, 5, 6, 7, 8, 9, 10, 11, 12, 13] wCo_suba (q0 := 1) (ci := 0) rfl rfl (fun H locs hP hS => ?_)
    have e9 : r1 (S 0 2) (nI g1) (nI (hisG S (S 7 (cl (nI g1))) (S 6 (cl (nI g1))))) = (0, nI (hisG S (S 7 g1) (S 6 g1))) := by rw [cl_nI (show g1 < 2 ^ 31 by omega)]; exact r1_y h2
    exact t_retI F hr hlk hP rfl hS (by rw [e9]; rfl) (by rw [e9]) rfl (show 0 + 1 ≤ 1 by omega) (show 0 + 6 ≤ 6 by omega) dX3_hissAt_13
theorem nX3_gradeFor_X3 : ∀ x ∈ wsX30, x ∈ wsX3_gradeFor := fun _ h => List.mem_cons_of_mem _ (List.mem_append_left _ (List.mem_append_left _ (List.mem_append_left _ (List.mem_append_left _ (List.mem_append_right _ h)))))
set_option maxRecDepth 100000 in
set_option maxHeartbeats 4000000 in
theorem c_X3_gradeFor (l : Launch) (D : va_G) (cI : ClassId) (hst : l.stackTraces = false) (a b : Nat → Nat) (S S2 : Nat → Nat → Nat) (x1 : Int32) (hI : Inv S) : TI l yX3_gradeFor wsX3_gradeFor 8 1 136 D [(cI, .int)] [.ref (a 13), .int x1] (wCo cI a b S S2) (wCo cI a b S S2) (exq ["java/lang/IndexOutOfBoundsException"] (r1 (S 0 2) x1 (nI (grdN (hisG S (S 7 (cl x1)) (S 6 (cl x1)))))).1) ((r1 (S 0 2) x1 (nI (grdN (hisG S (S 7 (cl x1)) (S 6 (cl x1)))))).2) := by
  refine k_bodyX (cc := cX3_gradeFor) (maxL := 2) (ret := (some .int)) (by decide) rfl (Nat.le_of_ble_eq_true rfl) ?_
  intro p e s m args below meth c H ls F hr hlk hl hP hK hD hS hX ht
  have F : CallFix p m c cX3_gradeFor 2 s args wsX3_gradeFor RX3 := F
  have hl : lv_has ls 2 [(0, .ref (a 13)), (1, .int x1)] := hl
  have hi0 := hI.gates
  have hi1 := hI.geese
  have hi2 := hI.guests
  refine lv_aload_n F.1 F.2.1 dX3_gradeFor_0 rfl (lv_at hl 0 rfl) ?_
  refine lv_iload_n F.1 F.2.1 dX3_gradeFor_1 rfl (lv_at hl 1 rfl) ?_
  refine t_demV (n := 1) (rest := []) F (c_X3_demandVisitor l D cI hst a b S S2 x1) gX3_gradeFor_X3_demandVisitor rfl (by decide +kernel) ⟨Nat.le_of_ble_eq_true rfl, Nat.le_of_ble_eq_true rfl⟩ rfl hl.1 rfl (Nat.le_of_ble_eq_true rfl) dX3_gradeFor_2 ⟨show 0 + 1 ≤ 1 by omega, show 0 + 6 ≤ 6 by omega⟩ hK hX hP hD hS ht hlk (show 0 + 1 ≤ 1 by omega) (show 0 + 6 ≤ 6 by omega) (fun h2 => ?_) (q0 := 0) (ci := 3) rfl rfl (fun h2 H locs hP hS => ?_)
  · skip
    have e9 : r1 (S 0 2) x1 (nI (grdN (hisG S (S 7 (cl x1)) (S 6 (cl x1))))) = (1, nI 0) := r1_n h2
    rw [e9]; rfl
  · skip
    obtain ⟨g1, hg1, rfl⟩ := lt_nI (by omega) h2
    have hh9 := hisG_le hI (S 7 g1) (S 6 g1)
    refine lv_aload_n F.1 F.2.1 dX3_gradeFor_5 rfl (lv_at hl 0 rfl) ?_
    refine k_get (v := .ref (a 0)) F nX3_gradeFor_X3 hK.1 hP 0 rfl rfl 0 (by decide) (List.mem_of_getElem? (i := 1) rfl) rfl dX3_gradeFor_6 ?_
    refine lv_iload_n F.1 F.2.1 dX3_gradeFor_9 rfl (lv_at hl 1 rfl) ?_
    refine k_pV (n := 1) (rest := []) (v := nI (hisG S (S 7 g1) (S 6 g1))) F (c_X0_guestHiss l D cI a S g1 hI (by first | assumption | omega)) gX3_gradeFor_X0_guestHiss rfl (by decide +kernel) ⟨Nat.le_of_ble_eq_true rfl, Nat.le_of_ble_eq_true rfl⟩ rfl hl.1 rfl (Nat.le_of_ble_eq_true rfl) dX3_gradeFor_10 ⟨show 0 + 1 ≤ 1 by omega, show 0 + 6 ≤ 6 by omega⟩ hK hP hS [1, 2, 3, 4, 5, 6, 7, 8, 9, 10, 11, 12, 13] wCo_suba (q0 := 1) (ci := 0) rfl rfl (fun H locs hP hS => ?_)
    refine k_pS (n := 1) (rest := []) (v := nI (grdN (hisG S (S 7 g1) (S 6 g1)))) F (c_X3_gradeOfHiss l D cI (hisG S (S 7 g1) (S 6 g1)) (by first | assumption | omega)) gX3_gradeFor_X3_gradeOfHiss rfl (by decide +kernel) ⟨Nat.le_of_ble_eq_true rfl, Nat.le_of_ble_eq_true rfl⟩ rfl hl.1 rfl (Nat.le_of_ble_eq_true rfl) dX3_gradeFor_13 ⟨show 0 + 1 ≤ 1 by omega, show 0 + 6 ≤ 6 by omega⟩ hK hP hS (fun H locs hP hS => ?_)
    have e9 : r1 (S 0 2) (nI g1) (nI (grdN (hisG S (S 7 (cl (nI g1))) (S 6 (cl (nI g1)))))) = (0, nI (grdN (hisG S (S 7 g1) (S 6 g1)))) := by rw [cl_nI (show g1 < 2 ^ 31 by omega)]; exact r1_y h2
    exact t_retI F hr hlk hP rfl hS (by rw [e9]; rfl) (by rw [e9]) rfl (show 0 + 1 ≤ 1 by omega) (show 0 + 6 ≤ 6 by omega) dX3_gradeFor_16
theorem nX3_dares_X0 : ∀ x ∈ wsX00, x ∈ wsX3_dares := fun _ h => List.mem_cons_of_mem _ (List.mem_append_left _ (List.mem_append_left _ (List.mem_append_left _ (List.mem_append_right _ h))))
theorem nX3_dares_X2 : ∀ x ∈ wsX20, x ∈ wsX3_dares := fun _ h => List.mem_cons_of_mem _ (List.mem_append_left _ (List.mem_append_left _ (List.mem_append_right _ h)))
theorem nX3_dares_X3 : ∀ x ∈ wsX30, x ∈ wsX3_dares := fun _ h => List.mem_cons_of_mem _ (List.mem_append_left _ (List.mem_append_left _ (List.mem_append_left _ (List.mem_append_left _ (List.mem_append_right _ h)))))
set_option maxRecDepth 100000 in
set_option maxHeartbeats 4000000 in
theorem c_X3_dares (l : Launch) (D : va_G) (cI : ClassId) (hst : l.stackTraces = false) (a b : Nat → Nat) (S S2 : Nat → Nat → Nat) (x1 : Int32) (hI : Inv S) : TI l yX3_dares wsX3_dares 8 1 136 D [(cI, .int)] [.ref (a 13), .int x1] (wCo cI a b S S2) (wCo cI a b S S2) (exq ["java/lang/IndexOutOfBoundsException"] (r1 (S 0 2) x1 (bI (dareP S (cl x1)))).1) ((r1 (S 0 2) x1 (bI (dareP S (cl x1)))).2) := by
  refine k_bodyX (cc := cX3_dares) (maxL := 2) (ret := (some .boolean)) (by decide) rfl (Nat.le_of_ble_eq_true rfl) ?_
  intro p e s m args below meth c H ls F hr hlk hl hP hK hD hS hX ht
  have F : CallFix p m c cX3_dares 2 s args wsX3_dares RX3 := F
  have hl : lv_has ls 2 [(0, .ref (a 13)), (1, .int x1)] := hl
  have hi0 := hI.gates
  have hi1 := hI.geese
  have hi2 := hI.guests
  refine lv_aload_n F.1 F.2.1 dX3_dares_0 rfl (lv_at hl 0 rfl) ?_
  refine lv_iload_n F.1 F.2.1 dX3_dares_1 rfl (lv_at hl 1 rfl) ?_
  refine t_demV (n := 1) (rest := []) F (c_X3_demandVisitor l D cI hst a b S S2 x1) gX3_dares_X3_demandVisitor rfl (by decide +kernel) ⟨Nat.le_of_ble_eq_true rfl, Nat.le_of_ble_eq_true rfl⟩ rfl hl.1 rfl (Nat.le_of_ble_eq_true rfl) dX3_dares_2 ⟨show 0 + 1 ≤ 1 by omega, show 0 + 6 ≤ 6 by omega⟩ hK hX hP hD hS ht hlk (show 0 + 1 ≤ 1 by omega) (show 0 + 6 ≤ 6 by omega) (fun h2 => ?_) (q0 := 0) (ci := 3) rfl rfl (fun h2 H locs hP hS => ?_)
  · skip
    have e9 : r1 (S 0 2) x1 (bI (dareP S (cl x1))) = (1, nI 0) := r1_n h2
    rw [e9]; rfl
  · skip
    obtain ⟨g1, hg1, rfl⟩ := lt_nI (by omega) h2
    have hh9 := hisG_le hI (S 7 g1) (S 6 g1)
    have hb9 := hI.brave g1
    refine lv_aload_n F.1 F.2.1 dX3_dares_5 rfl (lv_at hl 0 rfl) ?_
    refine k_get (v := .ref (a 0)) F nX3_dares_X3 hK.1 hP 0 rfl rfl 0 (by decide) (List.mem_of_getElem? (i := 1) rfl) rfl dX3_dares_6 ?_
    refine lv_iload_n F.1 F.2.1 dX3_dares_9 rfl (lv_at hl 1 rfl) ?_
    refine k_pV (n := 1) (rest := []) (v := bI (S 0 0 ≤ S 7 g1)) F (c_X0_isBehindAll l D cI a S g1 hI (by first | assumption | omega)) gX3_dares_X0_isBehindAll rfl (by decide +kernel) ⟨Nat.le_of_ble_eq_true rfl, Nat.le_of_ble_eq_true rfl⟩ rfl hl.1 rfl (Nat.le_of_ble_eq_true rfl) dX3_dares_10 ⟨show 0 + 1 ≤ 1 by omega, show 0 + 6 ≤ 6 by omega⟩ hK hP hS [1, 2, 3, 4, 5, 6, 7, 8, 9, 10, 11, 12, 13] wCo_suba (q0 := 1) (ci := 0) rfl rfl (fun H locs hP hS => ?_)
    refine k_ifne_b (tgt := 43) F dX3_dares_13 (by decide) (fun h13 => ?_) (fun h13 => ?_)
    · skip
      refine lv_iconst (v := nI 0) F.1 F.2.1 dX3_dares_43 (by decide) ?_
      have e9 : r1 (S 0 2) (nI g1) (bI (dareP S (cl (nI g1)))) = (0, bI (dareP S g1)) := by rw [cl_nI (show g1 < 2 ^ 31 by omega)]; exact r1_y h2
      exact t_retI F hr hlk hP rfl hS (by rw [e9]; rfl) (by rw [e9]; exact fin0 (b := dareP S g1) (by first | exact fun q => q.1 h13 | exact fun q => absurd h36 (Nat.not_lt.mpr q.2))) (by first | rfl | (split <;> rfl)) (show 0 + 1 ≤ 1 by omega) (show 0 + 6 ≤ 6 by omega) dX3_dares_44
    · skip
      refine lv_aload_n F.1 F.2.1 dX3_dares_16 rfl (lv_at hl 0 rfl) ?_
      refine k_get (v := .ref (a 0)) F nX3_dares_X3 hK.1 hP 0 rfl rfl 0 (by decide) (List.mem_of_getElem? (i := 1) rfl) rfl dX3_dares_17 ?_
      refine lv_iload_n F.1 F.2.1 dX3_dares_20 rfl (lv_at hl 1 rfl) ?_
      refine k_pV (n := 1) (rest := []) (v := nI (hisG S (S 7 g1) (S 6 g1))) F (c_X0_guestHiss l D cI a S g1 hI (by first | assumption | omega)) gX3_dares_X0_guestHiss rfl (by decide +kernel) ⟨Nat.le_of_ble_eq_true rfl, Nat.le_of_ble_eq_true rfl⟩ rfl hl.1 rfl (Nat.le_of_ble_eq_true rfl) dX3_dares_21 ⟨show 0 + 1 ≤ 1 by omega, show 0 + 6 ≤ 6 by omega⟩ hK hP hS [1, 2, 3, 4, 5, 6, 7, 8, 9, 10, 11, 12, 13] wCo_suba (q0 := 1) (ci := 0) rfl rfl (fun H locs hP hS => ?_)
      refine lv_aload_n F.1 F.2.1 dX3_dares_24 rfl (lv_at hl 0 rfl) ?_
      refine k_get (v := .ref (a 0)) F nX3_dares_X3 hK.1 hP 0 rfl rfl 0 (by decide) (List.mem_of_getElem? (i := 1) rfl) rfl dX3_dares_25 ?_
      refine k_get (v := .ref (a 7)) F nX3_dares_X0 hK.1 hP 1 rfl rfl 3 (by decide) (List.mem_of_getElem? (i := 2) rfl) rfl dX3_dares_28 ?_
      refine k_get (v := .ref (a 9)) F nX3_dares_X2 hK.1 hP 8 rfl rfl 2 (by decide) (List.mem_of_getElem? (i := 3) rfl) rfl dX3_dares_31 ?_
      refine lv_iload_n F.1 F.2.1 dX3_dares_34 rfl (lv_at hl 1 rfl) ?_
      refine k_iald (f := S 9) (n := 8) F hK.1 hP 10 0 rfl rfl (by omega) (by decide) dX3_dares_35 ?_
      refine k_icmp_gt (tgt := 43) F (by omega) (by omega) dX3_dares_36 (by decide) (fun h36 => ?_) (fun h36 => ?_)
      · skip
        refine lv_iconst (v := nI 0) F.1 F.2.1 dX3_dares_43 (by decide) ?_
        have e9 : r1 (S 0 2) (nI g1) (bI (dareP S (cl (nI g1)))) = (0, bI (dareP S g1)) := by rw [cl_nI (show g1 < 2 ^ 31 by omega)]; exact r1_y h2
        exact t_retI F hr hlk hP rfl hS (by rw [e9]; rfl) (by rw [e9]; exact fin0 (b := dareP S g1) (by first | exact fun q => q.1 h13 | exact fun q => absurd h36 (Nat.not_lt.mpr q.2))) (by first | rfl | (split <;> rfl)) (show 0 + 1 ≤ 1 by omega) (show 0 + 6 ≤ 6 by omega) dX3_dares_44
      · skip
        refine lv_iconst (v := nI 1) F.1 F.2.1 dX3_dares_39 (by decide) ?_
        refine lv_goto (tgt := 44) F.1 F.2.1 dX3_dares_40 (by decide) ?_
        have e9 : r1 (S 0 2) (nI g1) (bI (dareP S (cl (nI g1)))) = (0, bI (dareP S g1)) := by rw [cl_nI (show g1 < 2 ^ 31 by omega)]; exact r1_y h2
        exact t_retI F hr hlk hP rfl hS (by rw [e9]; rfl) (by rw [e9]; exact fin1 (b := dareP S g1) ⟨h13, Nat.not_lt.mp h36⟩) (by first | rfl | (split <;> rfl)) (show 0 + 1 ≤ 1 by omega) (show 0 + 6 ≤ 6 by omega) dX3_dares_44
theorem nX3_loudestGate_X0 : ∀ x ∈ wsX00, x ∈ wsX3_loudestGate := fun _ h => List.mem_cons_of_mem _ (List.mem_append_left _ (List.mem_append_right _ h))
theorem nX3_loudestGate_X3 : ∀ x ∈ wsX30, x ∈ wsX3_loudestGate := fun _ h => List.mem_cons_of_mem _ (List.mem_append_left _ (List.mem_append_left _ (List.mem_append_right _ h)))
set_option maxRecDepth 100000 in
set_option maxHeartbeats 4000000 in
theorem c_X3_loudestGate (l : Launch) (D : va_G) (cI : ClassId) (a b : Nat → Nat) (S S2 : Nat → Nat → Nat) (hI : Inv S) : PI l yX3_loudestGate wsX3_loudestGate 3 68 D [(cI, .int)] [.ref (a 13)] (wCo cI a b S S2) (oI (ldN S (S 0 0)).1) := by
  refine k_bodyP (cc := cX3_loudestGate) (maxL := 5) (ret := (some .int)) (by decide) rfl (Nat.le_of_ble_eq_true rfl) ?_
  intro p e s m args below meth c H ls F hr hlk hl hP hK hS
  have F : CallFix p m c cX3_loudestGate 5 s args wsX3_loudestGate RX3 := F
  have hl : lv_has ls 5 [(0, .ref (a 13))] := hl
  have hi0 := hI.gates
  have hi1 := hI.geese
  have hi2 := hI.guests
  refine lv_iconst (v := (-1)) F.1 F.2.1 dX3_loudestGate_0 (by decide) ?_
  refine lv_istore_n (lv' := [(1, .int (-1)), (0, .ref (a 13))]) F.1 F.2.1 dX3_loudestGate_1 rfl hl (by decide) rfl (fun ls hl => ?_)
  refine lv_iconst (v := (-1)) F.1 F.2.1 dX3_loudestGate_2 (by decide) ?_
  refine lv_istore_n (lv' := [(2, .int (-1)), (1, .int (-1)), (0, .ref (a 13))]) F.1 F.2.1 dX3_loudestGate_3 rfl hl (by decide) rfl (fun ls hl => ?_)
  have hl : lv_has ls 5 [(2, .int (ldL S 0)), (1, .int (oI (ldN S 0).1)), (0, .ref (a 13))] := by rw [show oI (ldN S 0).1 = -1 from oI_0, show ldL S 0 = -1 from rfl]; exact hl
  refine lv_iconst (v := nI 0) F.1 F.2.1 dX3_loudestGate_4 (by decide) ?_
  refine lv_istore_n (lv' := [(3, .int (nI 0)), (2, .int (ldL S 0)), (1, .int (oI (ldN S 0).1)), (0, .ref (a 13))]) F.1 F.2.1 dX3_loudestGate_5 rfl hl (by decide) rfl (fun ls hl => ?_)
  have loop6 : ∀ (n : Nat) (i : Nat), i ≤ S 0 0 → S 0 0 + 1 ≤ i + n → ∀ (H : Heap) (locs : List Loc) (ls : Array Slot), va_P D vwCl (wCo cI a b S S2) H → va_S (fun _ => False) s.heap H locs → lv_has ls 5 [(0, .ref (a 13)), (1, .int (oI (ldN S i).1)), (2, .int (ldL S i)), (3, .int (nI i))] → W p l e (rmN 3 68) s m args below meth c H locs (0) (0) (QPI below args s (oI (ldN S (S 0 0)).1)) (F0 m 6 ls []) := by
    intro n
    induction n with
    | zero => intro i hi hn; exact absurd hn (by omega)
    | succ n ih6 =>
      intro i hi hn  H locs ls hP hS hl
      refine lv_iload_n F.1 F.2.1 dX3_loudestGate_6 rfl (lv_at hl 3 rfl) ?_
      refine lv_aload_n F.1 F.2.1 dX3_loudestGate_7 rfl (lv_at hl 0 rfl) ?_
      refine k_get (v := .ref (a 0)) F nX3_loudestGate_X3 hK.1 hP 0 rfl rfl 0 (by decide) (List.mem_of_getElem? (i := 1) rfl) rfl dX3_loudestGate_8 ?_
      refine k_get (v := .int (nI (S 0 0))) F nX3_loudestGate_X0 hK.1 hP 1 rfl rfl 0 (by decide) (List.mem_of_getElem? (i := 2) rfl) rfl dX3_loudestGate_11 ?_
      refine k_icmp_ge (tgt := 45) F (by omega) (by omega) dX3_loudestGate_14 (by decide) (fun h14 => ?_) (fun h14 => ?_)
      · skip
        refine lv_iload_n F.1 F.2.1 dX3_loudestGate_45 rfl (lv_at hl 1 rfl) ?_
        exact k_retP F hr hlk hS (by rw [show i = S 0 0 by omega]) rfl dX3_loudestGate_46
      · skip
        refine lv_aload_n F.1 F.2.1 dX3_loudestGate_17 rfl (lv_at hl 0 rfl) ?_
        refine k_get (v := .ref (a 0)) F nX3_loudestGate_X3 hK.1 hP 0 rfl rfl 0 (by decide) (List.mem_of_getElem? (i := 1) rfl) rfl dX3_loudestGate_18 ?_
        refine lv_iload_n F.1 F.2.1 dX3_loudestGate_21 rfl (lv_at hl 3 rfl) ?_
        refine lv_iconst (v := nI 0) F.1 F.2.1 dX3_loudestGate_22 (by decide) ?_
        refine k_pV (n := 2) (rest := []) (v := nI (hisG S i 0)) F (c_X0_gateHiss l D cI a S i 0 hI (by first | assumption | omega) (by first | assumption | omega)) gX3_loudestGate_X0_gateHiss rfl (by decide +kernel) ⟨Nat.le_of_ble_eq_true rfl, Nat.le_of_ble_eq_true rfl⟩ rfl hl.1 rfl (Nat.le_of_ble_eq_true rfl) dX3_loudestGate_23 ⟨Nat.zero_le _, Nat.zero_le _⟩ hK hP hS [1, 2, 3, 4, 5, 6, 7, 8, 9, 10, 11, 12, 13] wCo_suba (q0 := 1) (ci := 0) rfl rfl (fun H locs hP hS => ?_)
        have hh9 := hisG_le hI i 0
        rcases hb9 : (ldN S i).1 with _ | b9
        · skip
          rw [show ldL S i = -1 from if_pos hb9] at hl
          refine lv_istore (lv' := [(4, .int (nI (hisG S i 0))), (0, .ref (a 13)), (1, .int (oI (ldN S i).1)), (2, .int (-1)), (3, .int (nI i))]) F.1 F.2.1 dX3_loudestGate_26 hl (by decide) rfl (fun ls hl => ?_)
          refine lv_iload F.1 F.2.1 dX3_loudestGate_28 (lv_at hl 0 rfl) ?_
          refine lv_iload_n F.1 F.2.1 dX3_loudestGate_30 rfl (lv_at hl 3 rfl) ?_
          refine lv_icmp_le (tgt := 39) F.1 F.2.1 dX3_loudestGate_31 (by decide) (fun h31 => ?_) (fun h31 => ?_)
          · skip
            exact absurd h31 (nI_nle_m1 (by omega))
          · skip
            refine lv_iload F.1 F.2.1 dX3_loudestGate_34 (lv_at hl 0 rfl) ?_
            refine lv_istore_n (lv' := [(2, .int (nI (hisG S i 0))), (4, .int (nI (hisG S i 0))), (0, .ref (a 13)), (1, .int (oI (ldN S i).1)), (3, .int (nI i))]) F.1 F.2.1 dX3_loudestGate_36 rfl hl (by decide) rfl (fun ls hl => ?_)
            refine lv_iload_n F.1 F.2.1 dX3_loudestGate_37 rfl (lv_at hl 4 rfl) ?_
            refine lv_istore_n (lv' := [(1, .int (nI i)), (2, .int (nI (hisG S i 0))), (4, .int (nI (hisG S i 0))), (0, .ref (a 13)), (3, .int (nI i))]) F.1 F.2.1 dX3_loudestGate_38 rfl hl (by decide) rfl (fun ls hl => ?_)
            refine k_inc (k := 4) (lv' := [(3, .int (nI (i + 1))), (1, .int (nI i)), (2, .int (nI (hisG S i 0))), (4, .int (nI (hisG S i 0))), (0, .ref (a 13))]) F dX3_loudestGate_39 hl rfl (by decide) rfl (fun ls hl => ?_)
            refine lv_goto (tgt := 6) F.1 F.2.1 dX3_loudestGate_42 (by decide) ?_
            have e_1 : nI i = oI (ldN S (i + 1)).1 := (by rw [(show ldN S (i + 1) = (i + 1, hisG S i 0) from if_pos (by first | exact Or.inl hb9 | exact Or.inr (Nat.not_le.mp h31)))]; exact (oI_succ i).symm)
            rw [e_1] at hl
            have e_2 : nI (hisG S i 0) = ldL S (i + 1) := (by unfold ldL; rw [(show ldN S (i + 1) = (i + 1, hisG S i 0) from if_pos (by first | exact Or.inl hb9 | exact Or.inr (Nat.not_le.mp h31)))]; rfl)
            rw [e_2] at hl
            exact ih6 (i + 1) (by omega) (by omega)  _ _ _ hP hS (lv_sub hl [4, 1, 2, 0] rfl)
        · skip
          have hv1 := ldN_val S i b9 hb9
          have hm2 := hisG_le hI b9 0
          rw [show ldL S i = nI (ldN S i).2 from if_neg (by rw [hb9]; exact Nat.succ_ne_zero b9)] at hl
          have hv2 : (ldN S i).2 ≤ 144 := by rw [hv1.1]; exact hm2
          refine lv_istore (lv' := [(4, .int (nI (hisG S i 0))), (0, .ref (a 13)), (1, .int (oI (ldN S i).1)), (2, .int (nI ((ldN S i).2))), (3, .int (nI i))]) F.1 F.2.1 dX3_loudestGate_26 hl (by decide) rfl (fun ls hl => ?_)
          refine lv_iload F.1 F.2.1 dX3_loudestGate_28 (lv_at hl 0 rfl) ?_
          refine lv_iload_n F.1 F.2.1 dX3_loudestGate_30 rfl (lv_at hl 3 rfl) ?_
          refine k_icmp_le (tgt := 39) F (by omega) (by omega) dX3_loudestGate_31 (by decide) (fun h31 => ?_) (fun h31 => ?_)
          · skip
            refine k_inc (k := 4) (lv' := [(3, .int (nI (i + 1))), (4, .int (nI (hisG S i 0))), (0, .ref (a 13)), (1, .int (oI (ldN S i).1)), (2, .int (nI ((ldN S i).2)))]) F dX3_loudestGate_39 hl rfl (by decide) rfl (fun ls hl => ?_)
            refine lv_goto (tgt := 6) F.1 F.2.1 dX3_loudestGate_42 (by decide) ?_
            have e_3 : oI (ldN S i).1 = oI (ldN S (i + 1)).1 := (by rw [(show ldN S (i + 1) = ldN S i from if_neg (by rw [hb9]; omega))])
            rw [e_3] at hl
            have e_4 : nI ((ldN S i).2) = ldL S (i + 1) := (by unfold ldL; rw [(show ldN S (i + 1) = ldN S i from if_neg (by rw [hb9]; omega)), if_neg (by rw [hb9]; exact Nat.succ_ne_zero b9)])
            rw [e_4] at hl
            exact ih6 (i + 1) (by omega) (by omega)  _ _ _ hP hS (lv_sub hl [2, 3, 4, 0] rfl)
          · skip
            refine lv_iload F.1 F.2.1 dX3_loudestGate_34 (lv_at hl 0 rfl) ?_
            refine lv_istore_n (lv' := [(2, .int (nI (hisG S i 0))), (4, .int (nI (hisG S i 0))), (0, .ref (a 13)), (1, .int (oI (ldN S i).1)), (3, .int (nI i))]) F.1 F.2.1 dX3_loudestGate_36 rfl hl (by decide) rfl (fun ls hl => ?_)
            refine lv_iload_n F.1 F.2.1 dX3_loudestGate_37 rfl (lv_at hl 4 rfl) ?_
            refine lv_istore_n (lv' := [(1, .int (nI i)), (2, .int (nI (hisG S i 0))), (4, .int (nI (hisG S i 0))), (0, .ref (a 13)), (3, .int (nI i))]) F.1 F.2.1 dX3_loudestGate_38 rfl hl (by decide) rfl (fun ls hl => ?_)
            refine k_inc (k := 4) (lv' := [(3, .int (nI (i + 1))), (1, .int (nI i)), (2, .int (nI (hisG S i 0))), (4, .int (nI (hisG S i 0))), (0, .ref (a 13))]) F dX3_loudestGate_39 hl rfl (by decide) rfl (fun ls hl => ?_)
            refine lv_goto (tgt := 6) F.1 F.2.1 dX3_loudestGate_42 (by decide) ?_
            have e_5 : nI i = oI (ldN S (i + 1)).1 := (by rw [(show ldN S (i + 1) = (i + 1, hisG S i 0) from if_pos (by first | exact Or.inl hb9 | exact Or.inr (Nat.not_le.mp h31)))]; exact (oI_succ i).symm)
            rw [e_5] at hl
            have e_6 : nI (hisG S i 0) = ldL S (i + 1) := (by unfold ldL; rw [(show ldN S (i + 1) = (i + 1, hisG S i 0) from if_pos (by first | exact Or.inl hb9 | exact Or.inr (Nat.not_le.mp h31)))]; rfl)
            rw [e_6] at hl
            exact ih6 (i + 1) (by omega) (by omega)  _ _ _ hP hS (lv_sub hl [4, 1, 2, 0] rfl)
  exact loop6 ((S 0 0) + 1) 0 (by omega) (by omega)  _ _ _ hP hS (lv_sub hl [3, 2, 1, 0] rfl)
theorem nX3_meanTemper_X0 : ∀ x ∈ wsX00, x ∈ wsX3_meanTemper := fun _ h => List.mem_cons_of_mem _ (List.mem_append_left _ (List.mem_append_right _ h))
theorem nX3_meanTemper_X1 : ∀ x ∈ wsX10, x ∈ wsX3_meanTemper := fun _ h => List.mem_cons_of_mem _ (List.mem_append_right _ h)
theorem nX3_meanTemper_X3 : ∀ x ∈ wsX30, x ∈ wsX3_meanTemper := fun _ h => List.mem_cons_of_mem _ (List.mem_append_left _ (List.mem_append_left _ (List.mem_append_right _ h)))
set_option maxRecDepth 100000 in
set_option maxHeartbeats 4000000 in
theorem c_X3_meanTemper (l : Launch) (D : va_G) (cI : ClassId) (a b : Nat → Nat) (S S2 : Nat → Nat → Nat) (hI : Inv S) : PD l yX3_meanTemper wsX3_meanTemper 1 22 D [(cI, .int)] [.ref (a 13)] (wCo cI a b S S2) (meanD S) := by
  refine k_bodyP (cc := cX3_meanTemper) (maxL := 2) (ret := (some .double)) (by decide) rfl (Nat.le_of_ble_eq_true rfl) ?_
  intro p e s m args below meth c H ls F hr hlk hl hP hK hS
  have F : CallFix p m c cX3_meanTemper 2 s args wsX3_meanTemper RX3 := F
  have hl : lv_has ls 2 [(0, .ref (a 13))] := hl
  have hi0 := hI.gates
  have hi1 := hI.geese
  have hi2 := hI.guests
  refine lv_aload_n F.1 F.2.1 dX3_meanTemper_0 rfl (lv_at hl 0 rfl) ?_
  refine k_get (v := .ref (a 0)) F nX3_meanTemper_X3 hK.1 hP 0 rfl rfl 0 (by decide) (List.mem_of_getElem? (i := 1) rfl) rfl dX3_meanTemper_1 ?_
  refine k_get (v := .ref (a 2)) F nX3_meanTemper_X0 hK.1 hP 1 rfl rfl 2 (by decide) (List.mem_of_getElem? (i := 2) rfl) rfl dX3_meanTemper_4 ?_
  refine k_get (v := .int (nI (S 0 1))) F nX3_meanTemper_X1 hK.1 hP 3 rfl rfl 0 (by decide) (List.mem_of_getElem? (i := 3) rfl) rfl dX3_meanTemper_7 ?_
  refine lv_istore_n (lv' := [(1, .int (nI (S 0 1))), (0, .ref (a 13))]) F.1 F.2.1 dX3_meanTemper_10 rfl hl (by decide) rfl (fun ls hl => ?_)
  refine lv_iload_n F.1 F.2.1 dX3_meanTemper_11 rfl (lv_at hl 0 rfl) ?_
  refine k_if_ne (tgt := 17) F (by omega) dX3_meanTemper_12 (by decide) (fun h12 => ?_) (fun h12 => ?_)
  · skip
    refine lv_aload_n F.1 F.2.1 dX3_meanTemper_17 rfl (lv_at hl 1 rfl) ?_
    refine k_get (v := .ref (a 0)) F nX3_meanTemper_X3 hK.1 hP 0 rfl rfl 0 (by decide) (List.mem_of_getElem? (i := 1) rfl) rfl dX3_meanTemper_18 ?_
    refine k_get (v := .ref (a 2)) F nX3_meanTemper_X0 hK.1 hP 1 rfl rfl 2 (by decide) (List.mem_of_getElem? (i := 2) rfl) rfl dX3_meanTemper_21 ?_
    refine k_pV (n := 0) (rest := []) (v := nI (sumN S (S 0 1))) F (c_X1_sumOfTempers l D cI a S hI.bd) gX3_meanTemper_X1_sumOfTempers rfl (by decide +kernel) ⟨Nat.le_of_ble_eq_true rfl, Nat.le_of_ble_eq_true rfl⟩ rfl hl.1 rfl (Nat.le_of_ble_eq_true rfl) dX3_meanTemper_24 ⟨Nat.zero_le _, Nat.zero_le _⟩ hK hP hS [3, 4, 5, 6, 7] rfl (q0 := 3) (ci := 1) rfl rfl (fun H locs hP hS => ?_)
    refine lv_i2d F.1 F.2.1 dX3_meanTemper_27 ?_
    refine lv_iload_n F.1 F.2.1 dX3_meanTemper_28 rfl (lv_at hl 0 rfl) ?_
    refine lv_i2d F.1 F.2.1 dX3_meanTemper_29 ?_
    refine lv_ddiv F.1 F.2.1 dX3_meanTemper_30 (mean_ok (by have := sumN_le S hI.mood (S 0 1); omega) hi1 h12) ?_
    exact k_retD F hr hlk hS (by unfold meanD; rw [if_neg h12]) dX3_meanTemper_31
  · skip
    refine lv_dconst0 F.1 F.2.1 dX3_meanTemper_15 ?_
    exact k_retD F hr hlk hS (by unfold meanD; rw [if_pos h12]) dX3_meanTemper_16
