theorem nX3_isInFarm_X3 : ∀ x ∈ wsX30, x ∈ wsX3_isInFarm := fun _ h => List.mem_cons_of_mem _ (List.mem_append_left _ (List.mem_append_left _ (List.mem_append_left _ (List.mem_append_right _ h))))
set_option maxRecDepth 100000 in
set_option maxHeartbeats 4000000 in
theorem c_X3_isInFarm (l : Launch) (D : va_G) (cI : ClassId) (hst : l.stackTraces = false) (a b : Nat → Nat) (S S2 : Nat → Nat → Nat) (x1 : Int32) (hI : Inv S) : TI l yX3_isInFarm wsX3_isInFarm 8 1 136 D [(cI, .int)] [.ref (a 13), .int x1] (wCo cI a b S S2) (wCo cI a b S S2) (exq ["java/lang/IndexOutOfBoundsException"] (r1 (S 0 2) x1 (bI (S 0 0 ≤ S 7 (cl x1)))).1) ((r1 (S 0 2) x1 (bI (S 0 0 ≤ S 7 (cl x1)))).2) := by
  refine k_bodyX (cc := cX3_isInFarm) (maxL := 2) (ret := (some .boolean)) (by decide) rfl (Nat.le_of_ble_eq_true rfl) ?_
  intro p e s m args below meth c H ls F hr hlk hl hP hK hD hS hX ht
  have F : CallFix p m c cX3_isInFarm 2 s args wsX3_isInFarm RX3 := F
  have hl : lv_has ls 2 [(0, .ref (a 13)), (1, .int x1)] := hl
  have hi0 := hI.gates
  have hi1 := hI.geese
  have hi2 := hI.guests
  refine lv_aload_n F.1 F.2.1 dX3_isInFarm_0 rfl (lv_at hl 0 rfl) ?_
  refine lv_iload_n F.1 F.2.1 dX3_isInFarm_1 rfl (lv_at hl 1 rfl) ?_
  refine t_demV (n := 1) (rest := []) F (c_X3_demandVisitor l D cI hst a b S S2 x1) gX3_isInFarm_X3_demandVisitor rfl (by decide +kernel) ⟨Nat.le_of_ble_eq_true rfl, Nat.le_of_ble_eq_true rfl⟩ rfl hl.1 rfl (Nat.le_of_ble_eq_true rfl) dX3_isInFarm_2 ⟨show 0 + 1 ≤ 1 by omega, show 0 + 6 ≤ 6 by omega⟩ hK hX hP hD hS ht hlk (show 0 + 1 ≤ 1 by omega) (show 0 + 6 ≤ 6 by omega) (fun h2 => ?_) (q0 := 0) (ci := 3) rfl rfl (fun h2 H locs hP hS => ?_)
  · skip
    have e9 : r1 (S 0 2) x1 (bI (S 0 0 ≤ S 7 (cl x1))) = (1, nI 0) := r1_n h2
    rw [e9]; rfl
  · skip
    obtain ⟨g1, hg1, rfl⟩ := lt_nI (by omega) h2
    refine lv_aload_n F.1 F.2.1 dX3_isInFarm_5 rfl (lv_at hl 0 rfl) ?_
    refine k_get (v := .ref (a 0)) F nX3_isInFarm_X3 hK.1 hP 0 rfl rfl 0 (by decide) (List.mem_of_getElem? (i := 1) rfl) rfl dX3_isInFarm_6 ?_
    refine lv_iload_n F.1 F.2.1 dX3_isInFarm_9 rfl (lv_at hl 1 rfl) ?_
    refine k_pV (n := 1) (rest := []) (v := bI (S 0 0 ≤ S 7 g1)) F (c_X0_isBehindAll l D cI a S g1 hI (by first | assumption | omega)) gX3_isInFarm_X0_isBehindAll rfl (by decide +kernel) ⟨Nat.le_of_ble_eq_true rfl, Nat.le_of_ble_eq_true rfl⟩ rfl hl.1 rfl (Nat.le_of_ble_eq_true rfl) dX3_isInFarm_10 ⟨show 0 + 1 ≤ 1 by omega, show 0 + 6 ≤ 6 by omega⟩ hK hP hS [1, 2, 3, 4, 5, 6, 7, 8, 9, 10, 11, 12, 13] wCo_suba (q0 := 1) (ci := 0) rfl rfl (fun H locs hP hS => ?_)
    have e9 : r1 (S 0 2) (nI g1) (bI (S 0 0 ≤ S 7 (cl (nI g1)))) = (0, bI (S 0 0 ≤ S 7 g1)) := by rw [cl_nI (show g1 < 2 ^ 31 by omega)]; exact r1_y h2
    exact t_retI F hr hlk hP rfl hS (by rw [e9]; rfl) (by rw [e9]) narB (show 0 + 1 ≤ 1 by omega) (show 0 + 6 ≤ 6 by omega) dX3_isInFarm_13
theorem nX3_hissAt_X3 : ∀ x ∈ wsX30, x ∈ wsX3_hissAt := fun _ h => List.mem_cons_of_mem _ (List.mem_append_left _ (List.mem_append_left _ (List.mem_append_left _ (List.mem_append_left _ (List.mem_append_right _ h)))))
set_option maxRecDepth 100000 in
set_option maxHeartbeats 4000000 in
theorem c_X3_hissAt (l : Launch) (D : va_G) (cI : ClassId) (hst : l.stackTraces = false) (a b : Nat → Nat) (S S2 : Nat → Nat → Nat) (x1 : Int32) (hI : Inv S) : TI l yX3_hissAt wsX3_hissAt 8 1 136 D [(cI, .int)] [.ref (a 13), .int x1] (wCo cI a b S S2) (wCo cI a b S S2) (exq ["java/lang/IndexOutOfBoundsException"] (r1 (S 0 2) x1 (nI (hisG S (S 7 (cl x1)) (S 6 (cl x1))))).1) ((r1 (S 0 2) x1 (nI (hisG S (S 7 (cl x1)) (S 6 (cl x1))))).2) := by
  refine k_bodyX (cc := cX3_hissAt) (maxL := 2) (ret := (some .int)) (by decide) rfl (Nat.le_of_ble_eq_true rfl) ?_
  intro p e s m args below meth c H ls F hr hlk hl hP hK hD hS hX ht
  have F : CallFix p m c cX3_hissAt 2 s args wsX3_hissAt RX3 := F
  have hl : lv_has ls 2 [(0, .ref (a 13)), (1, .int x1)] := hl
  have hi0 := hI.gates
  have hi1 := hI.geese
  have hi2 := hI.guests
  refine lv_aload_n F.1 F.2.1 dX3_hissAt_0 rfl (lv_at hl 0 rfl) ?_
  refine lv_iload_n F.1 F.2.1 dX3_hissAt_1 rfl (lv_at hl 1 rfl) ?_
  refine t_demV (n := 1) (rest := []) F (c_X3_demandVisitor l D cI hst a b S S2 x1) gX3_hissAt_X3_demandVisitor rfl (by decide +kernel) ⟨Nat.le_of_ble_eq_true rfl, Nat.le_of_ble_eq_true rfl⟩ rfl hl.1 rfl (Nat.le_of_ble_eq_true rfl) dX3_hissAt_2 ⟨show 0 + 1 ≤ 1 by omega, show 0 + 6 ≤ 6 by omega⟩ hK hX hP hD hS ht hlk (show 0 + 1 ≤ 1 by omega) (show 0 + 6 ≤ 6 by omega) (fun h2 => ?_) (q0 := 0) (ci := 3) rfl rfl (fun h2 H locs hP hS => ?_)
  · skip
    have e9 : r1 (S 0 2) x1 (nI (hisG S (S 7 (cl x1)) (S 6 (cl x1)))) = (1, nI 0) := r1_n h2
    rw [e9]; rfl
  · skip
    obtain ⟨g1, hg1, rfl⟩ := lt_nI (by omega) h2
    refine lv_aload_n F.1 F.2.1 dX3_hissAt_5 rfl (lv_at hl 0 rfl) ?_
    refine k_get (v := .ref (a 0)) F nX3_hissAt_X3 hK.1 hP 0 rfl rfl 0 (by decide) (List.mem_of_getElem? (i := 1) rfl) rfl dX3_hissAt_6 ?_
    refine lv_iload_n F.1 F.2.1 dX3_hissAt_9 rfl (lv_at hl 1 rfl) ?_
    refine k_pV (n := 1) (rest := []) (v := nI (hisG S (S 7 g1) (S 6 g1))) F (c_X0_guestHiss l D cI a S g1 hI (by first | assumption | omega)) gX3_hissAt_X0_guestHiss rfl (by decide +kernel) ⟨Nat.le_of_ble_eq_true rfl, Nat.le_of_ble_eq_true rfl⟩ rfl hl.1 rfl (Nat.le_of_ble_eq_true rfl) dX3_hissAt_10 ⟨show 0 + 1 ≤ 1 by omega, show 0 + 6 ≤ 6 by omega⟩ hK hP hS [1, 2, 3, 4, 5, 6, 7, 8, 9, 10, 11, 12, 13] wCo_suba (q0 := 1) (ci := 0) rfl rfl (fun H locs hP hS => ?_)
    have e9 : r1 (S 0 2) (nI g1) (nI (hisG S (S 7 (cl (nI g1))) (S 6 (cl (nI g1))))) = (0, nI (hisG S (S 7 g1) (S 6 g1))) := by rw [cl_nI (show g1 < 2 ^ 31 by omega)]; exact r1_y h2
    exact t_retI F hr hlk hP rfl hS (by rw [e9]; rfl) (by rw [e9]) rfl (show 0 + 1 ≤ 1 by omega) (show 0 + 6 ≤ 6 by omega) dX3_hissAt_13
theorem nX3_gradeFor_X3 : ∀ x ∈ wsX30, x ∈ wsX3_gradeFor := fun _ h => List.mem_cons_of_mem _ (List.mem_append_left _ (List.mem_append_left _ (List.mem_append_left _ (List.mem_append_left _ (List.mem_append_right _ h)))))
set_option maxRecDepth 100000 in
set_option maxHeartbeats 4000000 in
theorem c_X3_gradeFor (l : Launch) (D : va_G) (cI : ClassId) (hst : l.stackTraces = false) (a b : Nat → Nat) (S S2 : Nat → Nat → Nat) (x1 : Int32) (hI : Inv S) : TI l yX3_gradeFor wsX3_gradeFor 8 1 136 D [(cI, .int)] [.ref (a 13), .int x1] (wCo cI a b S S2) (wCo cI a b S S2) (exq ["java/lang/IndexOutOfBoundsException"] (r1 (S 0 2) x1 (nI (grdN (hisG S (S 7 (cl x1)) (S 6 (cl x1)))))).1) ((r1 (S 0 2) x1 (nI (grdN (hisG S (S 7 (cl x1)) (S 6 (cl x1)))))).2) := by
  refine k_bodyX (cc := cX3_gradeFor) (maxL := 2) (ret := (some .int)) (by decide) rfl (Nat.le_of_ble_eq_true rfl) ?_
  intro p e s m args below meth c H ls F hr hlk hl hP hK hD hS hX ht
  have F : CallFix p m c cX3_gradeFor 2 s args wsX3_gradeFor RX3 := F
  have hl : lv_has ls 2 [(0, .ref (a 13)), (1, .int x1)] := hl
  have hi0 := hI.gates
  have hi1 := hI.geese
  have hi2 := hI.guests
  refine lv_aload_n F.1 F.2.1 dX3_gradeFor_0 rfl (lv_at hl 0 rfl) ?_
  refine lv_iload_n F.1 F.2.1 dX3_gradeFor_1 rfl (lv_at hl 1 rfl) ?_
  refine t_demV (n := 1) (rest := []) F (c_X3_demandVisitor l D cI hst a b S S2 x1) gX3_gradeFor_X3_demandVisitor rfl (by decide +kernel) ⟨Nat.le_of_ble_eq_true rfl, Nat.le_of_ble_eq_true rfl⟩ rfl hl.1 rfl (Nat.le_of_ble_eq_true rfl) dX3_gradeFor_2 ⟨show 0 + 1 ≤ 1 by omega, show 0 + 6 ≤ 6 by omega⟩ hK hX hP hD hS ht hlk (show 0 + 1 ≤ 1 by omega) (show 0 + 6 ≤ 6 by omega) (fun h2 => ?_) (q0 := 0) (ci := 3) rfl rfl (fun h2 H locs hP hS => ?_)
  · skip
    have e9 : r1 (S 0 2) x1 (nI (grdN (hisG S (S 7 (cl x1)) (S 6 (cl x1))))) = (1, nI 0) := r1_n h2
    rw [e9]; rfl
  · skip
    obtain ⟨g1, hg1, rfl⟩ := lt_nI (by omega) h2
    have hh9 := hisG_le hI (S 7 g1) (S 6 g1)
    refine lv_aload_n F.1 F.2.1 dX3_gradeFor_5 rfl (lv_at hl 0 rfl) ?_
    refine k_get (v := .ref (a 0)) F nX3_gradeFor_X3 hK.1 hP 0 rfl rfl 0 (by decide) (List.mem_of_getElem? (i := 1) rfl) rfl dX3_gradeFor_6 ?_
    refine lv_iload_n F.1 F.2.1 dX3_gradeFor_9 rfl (lv_at hl 1 rfl) ?_
    refine k_pV (n := 1) (rest := []) (v := nI (hisG S (S 7 g1) (S 6 g1))) F (c_X0_guestHiss l D cI a S g1 hI (by first | assumption | omega)) gX3_gradeFor_X0_guestHiss rfl (by decide +kernel) ⟨Nat.le_of_ble_eq_true rfl, Nat.le_of_ble_eq_true rfl⟩ rfl hl.1 rfl (Nat.le_of_ble_eq_true rfl) dX3_gradeFor_10 ⟨show 0 + 1 ≤ 1 by omega, show 0 + 6 ≤ 6 by omega⟩ hK hP hS [1, 2, 3, 4, 5, 6, 7, 8, 9, 10, 11, 12, 13] wCo_suba (q0 := 1) (ci := 0) rfl rfl (fun H locs hP hS => ?_)
    refine k_pS (n := 1) (rest := []) (v := nI (grdN (hisG S (S 7 g1) (S 6 g1)))) F (c_X3_gradeOfHiss l D cI (hisG S (S 7 g1) (S 6 g1)) (by first | assumption | omega)) gX3_gradeFor_X3_gradeOfHiss rfl (by decide +kernel) ⟨Nat.le_of_ble_eq_true rfl, Nat.le_of_ble_eq_true rfl⟩ rfl hl.1 rfl (Nat.le_of_ble_eq_true rfl) dX3_gradeFor_13 ⟨show 0 + 1 ≤ 1 by omega, show 0 + 6 ≤ 6 by omega⟩ hK hP hS (fun H locs hP hS => ?_)
    have e9 : r1 (S 0 2) (nI g1) (nI (grdN (hisG S (S 7 (cl (nI g1))) (S 6 (cl (nI g1)))))) = (0, nI (grdN (hisG S (S 7 g1) (S 6 g1)))) := by rw [cl_nI (show g1 < 2 ^ 31 by omega)]; exact r1_y h2
    exact t_retI F hr hlk hP rfl hS (by rw [e9]; rfl) (by rw [e9]) rfl (show 0 + 1 ≤ 1 by omega) (show 0 + 6 ≤ 6 by omega) dX3_gradeFor_16
theorem nX3_dares_X0 : ∀ x ∈ wsX00, x ∈ wsX3_dares := fun _ h => List.mem_cons_of_mem _ (List.mem_append_left _ (List.mem_append_left _ (List.mem_append_left _ (List.mem_append_right _ h))))
theorem nX3_dares_X2 : ∀ x ∈ wsX20, x ∈ wsX3_dares := fun _ h => List.mem_cons_of_mem _ (List.mem_append_left _ (List.mem_append_left _ (List.mem_append_right _ h)))
theorem nX3_dares_X3 : ∀ x ∈ wsX30, x ∈ wsX3_dares := fun _ h => List.mem_cons_of_mem _ (List.mem_append_left _ (List.mem_append_left _ (List.mem_append_left _ (List.mem_append_left _ (List.mem_append_right _ h)))))
set_option maxRecDepth 100000 in
set_option maxHeartbeats 4000000 in
theorem c_X3_dares (l : Launch) (D : va_G) (cI : ClassId) (hst : l.stackTraces = false) (a b : Nat → Nat) (S S2 : Nat → Nat → Nat) (x1 : Int32) (hI : Inv S) : TI l yX3_dares wsX3_dares 8 1 136 D [(cI, .int)] [.ref (a 13), .int x1] (wCo cI a b S S2) (wCo cI a b S S2) (exq ["java/lang/IndexOutOfBoundsException"] (r1 (S 0 2) x1 (bI (dareP S (cl x1)))).1) ((r1 (S 0 2) x1 (bI (dareP S (cl x1)))).2) := by
  refine k_bodyX (cc := cX3_dares) (maxL := 2) (ret := (some .boolean)) (by decide) rfl (Nat.le_of_ble_eq_true rfl) ?_
  intro p e s m args below meth c H ls F hr hlk hl hP hK hD hS hX ht
  have F : CallFix p m c cX3_dares 2 s args wsX3_dares RX3 := F
  have hl : lv_has ls 2 [(0, .ref (a 13)), (1, .int x1)] := hl
  have hi0 := hI.gates
  have hi1 := hI.geese
  have hi2 := hI.guests
  refine lv_aload_n F.1 F.2.1 dX3_dares_0 rfl (lv_at hl 0 rfl) ?_
  refine lv_iload_n F.1 F.2.1 dX3_dares_1 rfl (lv_at hl 1 rfl) ?_
  refine t_demV (n := 1) (rest := []) F (c_X3_demandVisitor l D cI hst a b S S2 x1) gX3_dares_X3_demandVisitor rfl (by decide +kernel) ⟨Nat.le_of_ble_eq_true rfl, Nat.le_of_ble_eq_true rfl⟩ rfl hl.1 rfl (Nat.le_of_ble_eq_true rfl) dX3_dares_2 ⟨show 0 + 1 ≤ 1 by omega, show 0 + 6 ≤ 6 by omega⟩ hK hX hP hD hS ht hlk (show 0 + 1 ≤ 1 by omega) (show 0 + 6 ≤ 6 by omega) (fun h2 => ?_) (q0 := 0) (ci := 3) rfl rfl (fun h2 H locs hP hS => ?_)
  · skip
    have e9 : r1 (S 0 2) x1 (bI (dareP S (cl x1))) = (1, nI 0) := r1_n h2
    rw [e9]; rfl
  · skip
    obtain ⟨g1, hg1, rfl⟩ := lt_nI (by omega) h2
    have hh9 := hisG_le hI (S 7 g1) (S 6 g1)
    have hb9 := hI.brave g1
    refine lv_aload_n F.1 F.2.1 dX3_dares_5 rfl (lv_at hl 0 rfl) ?_
    refine k_get (v := .ref (a 0)) F nX3_dares_X3 hK.1 hP 0 rfl rfl 0 (by decide) (List.mem_of_getElem? (i := 1) rfl) rfl dX3_dares_6 ?_
    refine lv_iload_n F.1 F.2.1 dX3_dares_9 rfl (lv_at hl 1 rfl) ?_
    refine k_pV (n := 1) (rest := []) (v := bI (S 0 0 ≤ S 7 g1)) F (c_X0_isBehindAll l D cI a S g1 hI (by first | assumption | omega)) gX3_dares_X0_isBehindAll rfl (by decide +kernel) ⟨Nat.le_of_ble_eq_true rfl, Nat.le_of_ble_eq_true rfl⟩ rfl hl.1 rfl (Nat.le_of_ble_eq_true rfl) dX3_dares_10 ⟨show 0 + 1 ≤ 1 by omega, show 0 + 6 ≤ 6 by omega⟩ hK hP hS [1, 2, 3, 4, 5, 6, 7, 8, 9, 10, 11, 12, 13] wCo_suba (q0 := 1) (ci := 0) rfl rfl (fun H locs hP hS => ?_)
    refine k_ifne_b (tgt := 43) F dX3_dares_13 (by decide) (fun h13 => ?_) (fun h13 => ?_)
    · skip
      refine lv_iconst (v := nI 0) F.1 F.2.1 dX3_dares_43 (by decide) ?_
      have e9 : r1 (S 0 2) (nI g1) (bI (dareP S (cl (nI g1)))) = (0, bI (dareP S g1)) := by rw [cl_nI (show g1 < 2 ^ 31 by omega)]; exact r1_y h2
      exact t_retI F hr hlk hP rfl hS (by rw [e9]; rfl) (by rw [e9]; exact fin0 (b := dareP S g1) (by first | exact fun q => q.1 h13 | exact fun q => absurd h36 (Nat.not_lt.mpr q.2))) (by first | rfl | (split <;> rfl)) (show 0 + 1 ≤ 1 by omega) (show 0 + 6 ≤ 6 by omega) dX3_dares_44
    · skip
      refine lv_aload_n F.1 F.2.1 dX3_dares_16 rfl (lv_at hl 0 rfl) ?_
      refine k_get (v := .ref (a 0)) F nX3_dares_X3 hK.1 hP 0 rfl rfl 0 (by decide) (List.mem_of_getElem? (i := 1) rfl) rfl dX3_dares_17 ?_
      refine lv_iload_n F.1 F.2.1 dX3_dares_20 rfl (lv_at hl 1 rfl) ?_
      refine k_pV (n := 1) (rest := []) (v := nI (hisG S (S 7 g1) (S 6 g1))) F (c_X0_guestHiss l D cI a S g1 hI (by first | assumption | omega)) gX3_dares_X0_guestHiss rfl (by decide +kernel) ⟨Nat.le_of_ble_eq_true rfl, Nat.le_of_ble_eq_true rfl⟩ rfl hl.1 rfl (Nat.le_of_ble_eq_true rfl) dX3_dares_21 ⟨show 0 + 1 ≤ 1 by omega, show 0 + 6 ≤ 6 by omega⟩ hK hP hS [1, 2, 3, 4, 5, 6, 7, 8, 9, 10, 11, 12, 13] wCo_suba (q0 := 1) (ci := 0) rfl rfl (fun H locs hP hS => ?_)
      refine lv_aload_n F.1 F.2.1 dX3_dares_24 rfl (lv_at hl 0 rfl) ?_
      refine k_get (v := .ref (a 0)) F nX3_dares_X3 hK.1 hP 0 rfl rfl 0 (by decide) (List.mem_of_getElem? (i := 1) rfl) rfl dX3_dares_25 ?_
      refine k_get (v := .ref (a 7)) F nX3_dares_X0 hK.1 hP 1 rfl rfl 3 (by decide) (List.mem_of_getElem? (i := 2) rfl) rfl dX3_dares_28 ?_
      refine k_get (v := .ref (a 9)) F nX3_dares_X2 hK.1 hP 8 rfl rfl 2 (by decide) (List.mem_of_getElem? (i := 3) rfl) rfl dX3_dares_31 ?_
      refine lv_iload_n F.1 F.2.1 dX3_dares_34 rfl (lv_at hl 1 rfl) ?_
      refine k_iald (f := S 9) (n := 8) F hK.1 hP 10 0 rfl rfl (by omega) (by decide) dX3_dares_35 ?_
      refine k_icmp_gt (tgt := 43) F (by omega) (by omega) dX3_dares_36 (by decide) (fun h36 => ?_) (fun h36 => ?_)
      · skip
        refine lv_iconst (v := nI 0) F.1 F.2.1 dX3_dares_43 (by decide) ?_
        have e9 : r1 (S 0 2) (nI g1) (bI (dareP S (cl (nI g1)))) = (0, bI (dareP S g1)) := by rw [cl_nI (show g1 < 2 ^ 31 by omega)]; exact r1_y h2
        exact t_retI F hr hlk hP rfl hS (by rw [e9]; rfl) (by rw [e9]; exact fin0 (b := dareP S g1) (by first | exact fun q => q.1 h13 | exact fun q => absurd h36 (Nat.not_lt.mpr q.2))) (by first | rfl | (split <;> rfl)) (show 0 + 1 ≤ 1 by omega) (show 0 + 6 ≤ 6 by omega) dX3_dares_44
      · skip
        refine lv_iconst (v := nI 1) F.1 F.2.1 dX3_dares_39 (by decide) ?_
        refine lv_goto (tgt := 44) F.1 F.2.1 dX3_dares_40 (by decide) ?_
        have e9 : r1 (S 0 2) (nI g1) (bI (dareP S (cl (nI g1)))) = (0, bI (dareP S g1)) := by rw [cl_nI (show g1 < 2 ^ 31 by omega)]; exact r1_y h2
        exact t_retI F hr hlk hP rfl hS (by rw [e9]; rfl) (by rw [e9]; exact fin1 (b := dareP S g1) ⟨h13, Nat.not_lt.mp h36⟩) (by first | rfl | (split <;> rfl)) (show 0 + 1 ≤ 1 by omega) (show 0 + 6 ≤ 6 by omega) dX3_dares_44
theorem nX3_beatsUntilIn_X3 : ∀ x ∈ wsX30, x ∈ wsX3_beatsUntilIn := fun _ h => List.mem_cons_of_mem _ (List.mem_append_left _ (List.mem_append_left _ (List.mem_append_left _ (List.mem_append_left _ (List.mem_append_right _ h)))))
set_option maxRecDepth 100000 in
set_option maxHeartbeats 4000000 in
theorem c_X3_beatsUntilIn (l : Launch) (D : va_G) (cI : ClassId) (hst : l.stackTraces = false) (a b : Nat → Nat) (S S2 : Nat → Nat → Nat) (x1 : Int32) (hI : Inv S) : TI l yX3_beatsUntilIn wsX3_beatsUntilIn 8 1 136 D [(cI, .int)] [.ref (a 13), .int x1] (wCo cI a b S S2) (wCo cI a b S (if okI (S 0 2) x1 then untS S (cl x1) else S2)) (exq ["java/lang/IndexOutOfBoundsException"] (r1 (S 0 2) x1 (arrI S (cl x1) 60)).1) ((r1 (S 0 2) x1 (arrI S (cl x1) 60)).2) := by
  refine k_bodyX (cc := cX3_beatsUntilIn) (maxL := 2) (ret := (some .int)) (by decide) rfl (Nat.le_of_ble_eq_true rfl) ?_
  intro p e s m args below meth c H ls F hr hlk hl hP hK hD hS hX ht
  have F : CallFix p m c cX3_beatsUntilIn 2 s args wsX3_beatsUntilIn RX3 := F
  have hl : lv_has ls 2 [(0, .ref (a 13)), (1, .int x1)] := hl
  have hi0 := hI.gates
  have hi1 := hI.geese
  have hi2 := hI.guests
  refine lv_aload_n F.1 F.2.1 dX3_beatsUntilIn_0 rfl (lv_at hl 0 rfl) ?_
  refine lv_iload_n F.1 F.2.1 dX3_beatsUntilIn_1 rfl (lv_at hl 1 rfl) ?_
  refine t_demV (n := 1) (rest := []) F (c_X3_demandVisitor l D cI hst a b S S2 x1) gX3_beatsUntilIn_X3_demandVisitor rfl (by decide +kernel) ⟨Nat.le_of_ble_eq_true rfl, Nat.le_of_ble_eq_true rfl⟩ rfl hl.1 rfl (Nat.le_of_ble_eq_true rfl) dX3_beatsUntilIn_2 ⟨show 0 + 1 ≤ 1 by omega, show 0 + 6 ≤ 6 by omega⟩ hK hX hP hD hS ht hlk (show 0 + 1 ≤ 1 by omega) (show 0 + 6 ≤ 6 by omega) (fun h2 => ?_) (q0 := 0) (ci := 3) rfl rfl (fun h2 H locs hP hS => ?_)
  · skip
    have e9 : r1 (S 0 2) x1 (arrI S (cl x1) 60) = (1, nI 0) := r1_n h2
    rw [e9]; rfl
  · skip
    obtain ⟨g1, hg1, rfl⟩ := lt_nI (by omega) h2
    refine lv_aload_n F.1 F.2.1 dX3_beatsUntilIn_5 rfl (lv_at hl 0 rfl) ?_
    refine k_get (v := .ref (b 0)) F nX3_beatsUntilIn_X3 hK.1 hP 0 rfl rfl 1 (by decide) (List.mem_of_getElem? (i := 1) rfl) rfl dX3_beatsUntilIn_6 ?_
    refine lv_aload_n F.1 F.2.1 dX3_beatsUntilIn_9 rfl (lv_at hl 0 rfl) ?_
    refine k_get (v := .ref (a 0)) F nX3_beatsUntilIn_X3 hK.1 hP 0 rfl rfl 0 (by decide) (List.mem_of_getElem? (i := 2) rfl) rfl dX3_beatsUntilIn_10 ?_
    refine k_mV (n := 1) (rest := []) F (c_X0_copyFrom l D cI a b S S2) gX3_beatsUntilIn_X0_copyFrom rfl (by decide +kernel) ⟨Nat.le_of_ble_eq_true rfl, Nat.le_of_ble_eq_true rfl⟩ rfl hl.1 rfl (Nat.le_of_ble_eq_true rfl) dX3_beatsUntilIn_13 ⟨show 0 + 1 ≤ 1 by omega, show 0 + 6 ≤ 6 by omega⟩ hK hP hD hS [14, 15, 16, 17, 18, 19, 20, 21, 22, 23, 24, 25, 26, 1, 2, 3, 4, 5, 6, 7, 8, 9, 10, 11, 12, 13] wCo_subf rfl rfl (wCo cI a b S S) wCo_msf wCo_ad (q0 := 14) (ci := 0) rfl rfl (fun H locs hP hD hS => ?_)
    refine lv_aload_n F.1 F.2.1 dX3_beatsUntilIn_16 rfl (lv_at hl 0 rfl) ?_
    refine k_get (v := .ref (b 0)) F nX3_beatsUntilIn_X3 hK.1 hP 0 rfl rfl 1 (by decide) (List.mem_of_getElem? (i := 1) rfl) rfl dX3_beatsUntilIn_17 ?_
    refine lv_iload_n F.1 F.2.1 dX3_beatsUntilIn_20 rfl (lv_at hl 1 rfl) ?_
    refine lv_bipush (v := nI 60) F.1 F.2.1 dX3_beatsUntilIn_21 (by decide) ?_
    refine k_mI (n := 2) (rest := []) (v := arrI S g1 60) F (c_X0_beatsToFarm l D cI b S g1 60 hI (by first | assumption | omega) (by first | assumption | omega)) gX3_beatsUntilIn_X0_beatsToFarm rfl (by decide +kernel) ⟨Nat.le_of_ble_eq_true rfl, Nat.le_of_ble_eq_true rfl⟩ rfl hl.1 rfl (Nat.le_of_ble_eq_true rfl) dX3_beatsUntilIn_23 ⟨show 0 + 1 ≤ 1 by omega, show 0 + 6 ≤ 6 by omega⟩ hK hP hD hS [14, 15, 16, 17, 18, 19, 20, 21, 22, 23, 24, 25, 26] wCo_subb rfl rfl (wCo cI a b S (beatsN S (waitN S g1 60))) wCo_msb wCo_ad (q0 := 14) (ci := 0) rfl rfl (fun H locs hP hD hS => ?_)
    have e9 : r1 (S 0 2) (nI g1) (arrI S (cl (nI g1)) 60) = (0, arrI S g1 60) := by rw [cl_nI (show g1 < 2 ^ 31 by omega)]; exact r1_y h2
    exact t_retI F hr hlk hP (congrArg (wCo cI a b S) (by rw [if_pos h2, cl_nI (show g1 < 2 ^ 31 by omega)]; rfl)) hS (by rw [e9]; rfl) (by rw [e9]) rfl (show 0 + 1 ≤ 1 by omega) (show 0 + 6 ≤ 6 by omega) dX3_beatsUntilIn_26
theorem nX3_inFarmAfter_X3 : ∀ x ∈ wsX30, x ∈ wsX3_inFarmAfter := fun _ h => List.mem_cons_of_mem _ (List.mem_append_left _ (List.mem_append_left _ (List.mem_append_left _ (List.mem_append_left _ (List.mem_append_right _ h)))))
set_option maxRecDepth 100000 in
set_option maxHeartbeats 4000000 in
theorem c_X3_inFarmAfter (l : Launch) (D : va_G) (cI : ClassId) (hst : l.stackTraces = false) (a b : Nat → Nat) (S S2 : Nat → Nat → Nat) (x1 : Int32) (hI : Inv S) : TI l yX3_inFarmAfter wsX3_inFarmAfter 7 1 135 D [(cI, .int)] [.ref (a 13), .int x1] (wCo cI a b S S2) (wCo cI a b S (if okR 1 60 x1 then beatsN S (cl x1) else S2)) (exq ["java/lang/IllegalArgumentException"] (rAfter S x1).1) ((rAfter S x1).2) := by
  refine k_bodyX (cc := cX3_inFarmAfter) (maxL := 2) (ret := (some .int)) (by decide) rfl (Nat.le_of_ble_eq_true rfl) ?_
  intro p e s m args below meth c H ls F hr hlk hl hP hK hD hS hX ht
  have F : CallFix p m c cX3_inFarmAfter 2 s args wsX3_inFarmAfter RX3 := F
  have hl : lv_has ls 2 [(0, .ref (a 13)), (1, .int x1)] := hl
  have hi0 := hI.gates
  have hi1 := hI.geese
  have hi2 := hI.guests
  refine lv_iload_n F.1 F.2.1 dX3_inFarmAfter_0 rfl (lv_at hl 1 rfl) ?_
  refine k_pS (n := 1) (rest := []) (v := bI (nI 1 ≤ x1 ∧ x1 ≤ nI 60)) F (c_X3_isBeats l D cI x1) gX3_inFarmAfter_X3_isBeats rfl (by decide +kernel) ⟨Nat.le_of_ble_eq_true rfl, Nat.le_of_ble_eq_true rfl⟩ rfl hl.1 rfl (Nat.le_of_ble_eq_true rfl) dX3_inFarmAfter_1 ⟨show 0 ≤ 1 by omega, show 0 ≤ 6 by omega⟩ hK hP hS (fun H locs hP hS => ?_)
  refine t_demS (n := 1) (rest := []) F (c_X3_demandArgument l D cI hst (nI 1 ≤ x1 ∧ x1 ≤ nI 60)) gX3_inFarmAfter_X3_demandArgument rfl (by decide +kernel) ⟨Nat.le_of_ble_eq_true rfl, Nat.le_of_ble_eq_true rfl⟩ rfl hl.1 rfl (Nat.le_of_ble_eq_true rfl) dX3_inFarmAfter_4 ⟨show 0 + 1 ≤ 1 by omega, show 0 + 6 ≤ 6 by omega⟩ hK hX hP hS ht hlk (show 0 + 1 ≤ 1 by omega) (show 0 + 6 ≤ 6 by omega) (fun h4 => ?_) (fun h4 H locs hP hS => ?_)
  · skip
    have e9 : rAfter S x1 = (1, nI 0) := by unfold rAfter; rw [if_neg h4]
    rw [e9]; rfl
  · skip
    obtain ⟨g1, hg1, rfl⟩ := in_nI (by decide) h4 (by decide)
    refine lv_aload_n F.1 F.2.1 dX3_inFarmAfter_7 rfl (lv_at hl 0 rfl) ?_
    refine k_get (v := .ref (b 0)) F nX3_inFarmAfter_X3 hK.1 hP 0 rfl rfl 1 (by decide) (List.mem_of_getElem? (i := 1) rfl) rfl dX3_inFarmAfter_8 ?_
    refine lv_aload_n F.1 F.2.1 dX3_inFarmAfter_11 rfl (lv_at hl 0 rfl) ?_
    refine k_get (v := .ref (a 0)) F nX3_inFarmAfter_X3 hK.1 hP 0 rfl rfl 0 (by decide) (List.mem_of_getElem? (i := 2) rfl) rfl dX3_inFarmAfter_12 ?_
    refine k_mV (n := 1) (rest := []) F (c_X0_copyFrom l D cI a b S S2) gX3_inFarmAfter_X0_copyFrom rfl (by decide +kernel) ⟨Nat.le_of_ble_eq_true rfl, Nat.le_of_ble_eq_true rfl⟩ rfl hl.1 rfl (Nat.le_of_ble_eq_true rfl) dX3_inFarmAfter_15 ⟨show 0 + 1 ≤ 1 by omega, show 0 + 6 ≤ 6 by omega⟩ hK hP hD hS [14, 15, 16, 17, 18, 19, 20, 21, 22, 23, 24, 25, 26, 1, 2, 3, 4, 5, 6, 7, 8, 9, 10, 11, 12, 13] wCo_subf rfl rfl (wCo cI a b S S) wCo_msf wCo_ad (q0 := 14) (ci := 0) rfl rfl (fun H locs hP hD hS => ?_)
    refine lv_aload_n F.1 F.2.1 dX3_inFarmAfter_18 rfl (lv_at hl 0 rfl) ?_
    refine k_get (v := .ref (b 0)) F nX3_inFarmAfter_X3 hK.1 hP 0 rfl rfl 1 (by decide) (List.mem_of_getElem? (i := 1) rfl) rfl dX3_inFarmAfter_19 ?_
    refine lv_iload_n F.1 F.2.1 dX3_inFarmAfter_22 rfl (lv_at hl 1 rfl) ?_
    refine k_mV (n := 1) (rest := []) F (c_X0_runBeats l D cI b S g1 hI (by first | assumption | omega)) gX3_inFarmAfter_X0_runBeats rfl (by decide +kernel) ⟨Nat.le_of_ble_eq_true rfl, Nat.le_of_ble_eq_true rfl⟩ rfl hl.1 rfl (Nat.le_of_ble_eq_true rfl) dX3_inFarmAfter_23 ⟨show 0 + 1 ≤ 1 by omega, show 0 + 6 ≤ 6 by omega⟩ hK hP hD hS [14, 15, 16, 17, 18, 19, 20, 21, 22, 23, 24, 25, 26] wCo_subb rfl rfl (wCo cI a b S (beatsN S g1)) wCo_msb wCo_ad (q0 := 14) (ci := 0) rfl rfl (fun H locs hP hD hS => ?_)
    refine lv_aload_n F.1 F.2.1 dX3_inFarmAfter_26 rfl (lv_at hl 0 rfl) ?_
    refine k_get (v := .ref (b 0)) F nX3_inFarmAfter_X3 hK.1 hP 0 rfl rfl 1 (by decide) (List.mem_of_getElem? (i := 1) rfl) rfl dX3_inFarmAfter_27 ?_
    refine k_pV (n := 0) (rest := []) (v := nI (inN (beatsN S g1) ((beatsN S g1) 0 2))) F (c_X0_countInside l D cI b (beatsN S g1) (inv_beatsN hI _)) gX3_inFarmAfter_X0_countInside rfl (by decide +kernel) ⟨Nat.le_of_ble_eq_true rfl, Nat.le_of_ble_eq_true rfl⟩ rfl hl.1 rfl (Nat.le_of_ble_eq_true rfl) dX3_inFarmAfter_30 ⟨show 0 + 1 ≤ 1 by omega, show 0 + 6 ≤ 6 by omega⟩ hK hP hS [14, 15, 16, 17, 18, 19, 20, 21, 22, 23, 24, 25, 26] wCo_subb (q0 := 14) (ci := 0) rfl rfl (fun H locs hP hS => ?_)
    have e9 : rAfter S (nI g1) = (0, nI (inN (beatsN S g1) ((beatsN S g1) 0 2))) := by unfold rAfter; rw [cl_nI (show g1 < 2 ^ 31 by omega), if_pos h4]
    exact t_retI F hr hlk hP (congrArg (wCo cI a b S) (by rw [if_pos h4, cl_nI (show g1 < 2 ^ 31 by omega)])) hS (by rw [e9]; rfl) (by rw [e9]) rfl (show 0 + 1 ≤ 1 by omega) (show 0 + 6 ≤ 6 by omega) dX3_inFarmAfter_33
theorem nX3_cornsWanted_X0 : ∀ x ∈ wsX00, x ∈ wsX3_cornsWanted := fun _ h => List.mem_cons_of_mem _ (List.mem_append_left _ (List.mem_append_left _ (List.mem_append_left _ (List.mem_append_right _ h))))
theorem nX3_cornsWanted_X2 : ∀ x ∈ wsX20, x ∈ wsX3_cornsWanted := fun _ h => List.mem_cons_of_mem _ (List.mem_append_left _ (List.mem_append_left _ (List.mem_append_right _ h)))
theorem nX3_cornsWanted_X3 : ∀ x ∈ wsX30, x ∈ wsX3_cornsWanted := fun _ h => List.mem_cons_of_mem _ (List.mem_append_left _ (List.mem_append_left _ (List.mem_append_left _ (List.mem_append_left _ (List.mem_append_right _ h)))))
set_option maxRecDepth 100000 in
set_option maxHeartbeats 4000000 in
theorem c_X3_cornsWanted (l : Launch) (D : va_G) (cI : ClassId) (hst : l.stackTraces = false) (a b : Nat → Nat) (S S2 : Nat → Nat → Nat) (x1 : Int32) (hI : Inv S) : TI l yX3_cornsWanted wsX3_cornsWanted 8 1 136 D [(cI, .int)] [.ref (a 13), .int x1] (wCo cI a b S S2) (wCo cI a b S (if okI (S 0 2) x1 then cwT S S2 (cl x1) (cwE S (cl x1)) else S2)) (exq ["java/lang/IndexOutOfBoundsException"] (r1 (S 0 2) x1 (oI (cwN S (cl x1) 21))).1) ((r1 (S 0 2) x1 (oI (cwN S (cl x1) 21))).2) := by
  refine k_bodyX (cc := cX3_cornsWanted) (maxL := 3) (ret := (some .int)) (by decide) rfl (Nat.le_of_ble_eq_true rfl) ?_
  intro p e s m args below meth c H ls F hr hlk hl hP hK hD hS hX ht
  have F : CallFix p m c cX3_cornsWanted 3 s args wsX3_cornsWanted RX3 := F
  have hl : lv_has ls 3 [(0, .ref (a 13)), (1, .int x1)] := hl
  have hi0 := hI.gates
  have hi1 := hI.geese
  have hi2 := hI.guests
  refine lv_aload_n F.1 F.2.1 dX3_cornsWanted_0 rfl (lv_at hl 0 rfl) ?_
  refine lv_iload_n F.1 F.2.1 dX3_cornsWanted_1 rfl (lv_at hl 1 rfl) ?_
  refine t_demV (n := 1) (rest := []) F (c_X3_demandVisitor l D cI hst a b S S2 x1) gX3_cornsWanted_X3_demandVisitor rfl (by decide +kernel) ⟨Nat.le_of_ble_eq_true rfl, Nat.le_of_ble_eq_true rfl⟩ rfl hl.1 rfl (Nat.le_of_ble_eq_true rfl) dX3_cornsWanted_2 ⟨show 0 + 1 ≤ 1 by omega, show 0 + 6 ≤ 6 by omega⟩ hK hX hP hD hS ht hlk (show 0 + 1 ≤ 1 by omega) (show 0 + 6 ≤ 6 by omega) (fun h2 => ?_) (q0 := 0) (ci := 3) rfl rfl (fun h2 H locs hP hS => ?_)
  · skip
    have e9 : r1 (S 0 2) x1 (oI (cwN S (cl x1) 21)) = (1, nI 0) := r1_n h2
    rw [e9]; rfl
  · skip
    obtain ⟨g1, hg1, rfl⟩ := lt_nI (by omega) h2
    refine lv_iconst (v := nI 0) F.1 F.2.1 dX3_cornsWanted_5 (by decide) ?_
    refine lv_istore_n (lv' := [(2, .int (nI 0)), (0, .ref (a 13)), (1, .int (nI g1))]) F.1 F.2.1 dX3_cornsWanted_6 rfl hl (by decide) rfl (fun ls hl => ?_)
    have loop7 : ∀ (n : Nat) (i : Nat), i ≤ 21 → 21 + 1 ≤ i + n → (cwN S g1 i = 0) → ∀ (ce sl : Nat), ce ≤ 1 → sl ≤ 6 → ∀ (H : Heap) (locs : List Loc) (ls : Array Slot), va_P D vwCl (wCo cI a b S (cwT S S2 g1 i)) H → va_D (va_B (wCo cI a b S S2)) (wCo cI a b S (cwT S S2 g1 i)) → va_S (va_B (wCo cI a b S S2)) s.heap H locs → lv_has ls 3 [(0, .ref (a 13)), (1, .int (nI g1)), (2, .int (nI i))] → W p l e (rmG 8 1 6 136) s m args below meth c H locs (ce) (sl) (QTI below args s D 1 (wCo cI a b S S2) (wCo cI a b S (if okI (S 0 2) (nI g1) then cwT S S2 (cl (nI g1)) (cwE S (cl (nI g1))) else S2)) (exq ["java/lang/IndexOutOfBoundsException"] (r1 (S 0 2) (nI g1) (oI (cwN S (cl (nI g1)) 21))).1) ((r1 (S 0 2) (nI g1) (oI (cwN S (cl (nI g1)) 21))).2)) (F0 m 7 ls []) := by
      intro n
      induction n with
      | zero => intro i hi hn; exact absurd hn (by omega)
      | succ n ih7 =>
        intro i hi hn hz ce7 sl7 hce7 hsl7 H locs ls hP hD hS hl
        refine lv_iload_n F.1 F.2.1 dX3_cornsWanted_7 rfl (lv_at hl 2 rfl) ?_
        refine lv_bipush (v := nI 20) F.1 F.2.1 dX3_cornsWanted_8 (by decide) ?_
        refine k_icmp_gt (tgt := 59) F (by omega) (by omega) dX3_cornsWanted_10 (by decide) (fun h10 => ?_) (fun h10 => ?_)
        · skip
          refine lv_iconst (v := (-1)) F.1 F.2.1 dX3_cornsWanted_59 (by decide) ?_
          have e9 : r1 (S 0 2) (nI g1) (oI (cwN S (cl (nI g1)) 21)) = (0, oI (cwN S g1 21)) := by rw [cl_nI (show g1 < 2 ^ 31 by omega)]; exact r1_y h2
          exact t_retI F hr hlk hP (congrArg (wCo cI a b S) (by rw [if_pos h2, cl_nI (show g1 < 2 ^ 31 by omega), cwE_no (by rw [show (21 : Nat) = i by omega]; exact hz), show (21 : Nat) = i by omega])) hS (by rw [e9]; rfl) (by rw [e9]; exact (by rw [show (21 : Nat) = i by omega, hz]; exact oI_0.symm)) rfl (show ce7 ≤ 1 by omega) (show sl7 ≤ 6 by omega) dX3_cornsWanted_60
        · skip
          refine lv_aload_n F.1 F.2.1 dX3_cornsWanted_13 rfl (lv_at hl 0 rfl) ?_
          refine k_get (v := .ref (b 0)) F nX3_cornsWanted_X3 hK.1 hP 0 rfl rfl 1 (by decide) (List.mem_of_getElem? (i := 1) rfl) rfl dX3_cornsWanted_14 ?_
          refine lv_aload_n F.1 F.2.1 dX3_cornsWanted_17 rfl (lv_at hl 0 rfl) ?_
          refine k_get (v := .ref (a 0)) F nX3_cornsWanted_X3 hK.1 hP 0 rfl rfl 0 (by decide) (List.mem_of_getElem? (i := 2) rfl) rfl dX3_cornsWanted_18 ?_
          refine k_mV (n := 1) (rest := []) F (c_X0_copyFrom l D cI a b S (cwT S S2 g1 i)) gX3_cornsWanted_X0_copyFrom rfl (by decide +kernel) ⟨Nat.le_of_ble_eq_true rfl, Nat.le_of_ble_eq_true rfl⟩ rfl hl.1 rfl (Nat.le_of_ble_eq_true rfl) dX3_cornsWanted_21 ⟨show ce7 ≤ 1 by omega, show sl7 ≤ 6 by omega⟩ hK hP hD hS [14, 15, 16, 17, 18, 19, 20, 21, 22, 23, 24, 25, 26, 1, 2, 3, 4, 5, 6, 7, 8, 9, 10, 11, 12, 13] wCo_subf rfl rfl (wCo cI a b S S) wCo_msf wCo_ad (q0 := 14) (ci := 0) rfl rfl (fun H locs hP hD hS => ?_)
          refine lv_aload_n F.1 F.2.1 dX3_cornsWanted_24 rfl (lv_at hl 0 rfl) ?_
          refine k_get (v := .ref (b 0)) F nX3_cornsWanted_X3 hK.1 hP 0 rfl rfl 1 (by decide) (List.mem_of_getElem? (i := 1) rfl) rfl dX3_cornsWanted_25 ?_
          refine k_get (v := .ref (b 7)) F nX3_cornsWanted_X0 hK.1 hP 14 rfl rfl 3 (by decide) (List.mem_of_getElem? (i := 3) rfl) rfl dX3_cornsWanted_28 ?_
          refine k_get (v := .ref (b 10)) F nX3_cornsWanted_X2 hK.1 hP 21 rfl rfl 3 (by decide) (List.mem_of_getElem? (i := 4) rfl) rfl dX3_cornsWanted_31 ?_
          refine lv_iload_n F.1 F.2.1 dX3_cornsWanted_34 rfl (lv_at hl 1 rfl) ?_
          refine lv_iload_n F.1 F.2.1 dX3_cornsWanted_35 rfl (lv_at hl 2 rfl) ?_
          refine k_iast (f := S 8) (n := 8) (k := g1) (x := i) F hK.1 hP hD hS 24 0 rfl rfl (by omega) (by decide) dX3_cornsWanted_36 (wCo cI a b S (setf S 8 g1 i)) rfl (fun H locs hP hD hS => ?_)
          refine lv_aload_n F.1 F.2.1 dX3_cornsWanted_37 rfl (lv_at hl 0 rfl) ?_
          refine k_get (v := .ref (b 0)) F nX3_cornsWanted_X3 hK.1 hP 0 rfl rfl 1 (by decide) (List.mem_of_getElem? (i := 1) rfl) rfl dX3_cornsWanted_38 ?_
          refine lv_iload_n F.1 F.2.1 dX3_cornsWanted_41 rfl (lv_at hl 1 rfl) ?_
          refine lv_bipush (v := nI 40) F.1 F.2.1 dX3_cornsWanted_42 (by decide) ?_
          refine k_mI (n := 2) (rest := []) (v := arrI (setf S 8 g1 i) g1 40) F (c_X0_beatsToFarm l D cI b (setf S 8 g1 i) g1 40 (inv_corn hI g1 (by omega)) (by first | assumption | omega) (by first | assumption | omega)) gX3_cornsWanted_X0_beatsToFarm rfl (by decide +kernel) ⟨Nat.le_of_ble_eq_true rfl, Nat.le_of_ble_eq_true rfl⟩ rfl hl.1 rfl (Nat.le_of_ble_eq_true rfl) dX3_cornsWanted_44 ⟨show ce7 ≤ 1 by omega, show sl7 ≤ 6 by omega⟩ hK hP hD hS [14, 15, 16, 17, 18, 19, 20, 21, 22, 23, 24, 25, 26] wCo_subb rfl rfl (wCo cI a b S (beatsN (setf S 8 g1 i) (waitN (setf S 8 g1 i) g1 40))) wCo_msb wCo_ad (q0 := 14) (ci := 0) rfl rfl (fun H locs hP hD hS => ?_)
          refine lv_iconst (v := (-1)) F.1 F.2.1 dX3_cornsWanted_47 (by decide) ?_
          refine lv_icmp_eq (tgt := 53) F.1 F.2.1 dX3_cornsWanted_48 (by decide) (fun h48 => ?_) (fun h48 => ?_)
          · skip
            refine k_inc (k := 2) (lv' := [(2, .int (nI (i + 1))), (0, .ref (a 13)), (1, .int (nI g1))]) F dX3_cornsWanted_53 hl rfl (by decide) rfl (fun ls hl => ?_)
            refine lv_goto (tgt := 7) F.1 F.2.1 dX3_cornsWanted_56 (by decide) ?_
            have ew : (wCo cI a b S (beatsN (setf S 8 g1 i) (waitN (setf S 8 g1 i) g1 40))) = (wCo cI a b S (cwT S S2 g1 (i + 1))) := (congrArg (wCo cI a b S) cwT_s)
            have hP := P_eq ew hP
            have hD := D_eq ew hD
            exact ih7 (i + 1) (by omega) (by omega) (cw_no hz h48) _ _ (by omega) (by omega) _ _ _ hP hD hS (lv_sub hl [1, 2, 0] rfl)
          · skip
            refine lv_iload_n F.1 F.2.1 dX3_cornsWanted_51 rfl (lv_at hl 2 rfl) ?_
            have e9 : r1 (S 0 2) (nI g1) (oI (cwN S (cl (nI g1)) 21)) = (0, oI (cwN S g1 21)) := by rw [cl_nI (show g1 < 2 ^ 31 by omega)]; exact r1_y h2
            exact t_retI F hr hlk hP (congrArg (wCo cI a b S) (by rw [if_pos h2, cl_nI (show g1 < 2 ^ 31 by omega), cwE_hit hz h48 (by omega)]; rfl)) hS (by rw [e9]; rfl) (by rw [e9]; exact ((oI_succ i).symm.trans (congrArg oI (cw_hit2 hz h48 (by omega)).symm))) rfl (show ce7 ≤ 1 by omega) (show sl7 ≤ 6 by omega) dX3_cornsWanted_52
    have ew : (wCo cI a b S S2) = (wCo cI a b S (cwT S S2 g1 0)) := rfl
    have hP := P_eq ew hP
    have hD := D_eq ew hD
    exact loop7 (21 + 1) 0 (by omega) (by omega) rfl _ _ (by omega) (by omega) _ _ _ hP hD hS (lv_sub hl [1, 2, 0] rfl)
theorem nX3_bestToBribe_X0 : ∀ x ∈ wsX00, x ∈ wsX3_bestToBribe := fun _ h => List.mem_cons_of_mem _ (List.mem_append_left _ (List.mem_append_left _ (List.mem_append_left _ (List.mem_append_right _ h))))
theorem nX3_bestToBribe_X2 : ∀ x ∈ wsX20, x ∈ wsX3_bestToBribe := fun _ h => List.mem_cons_of_mem _ (List.mem_append_left _ (List.mem_append_left _ (List.mem_append_right _ h)))
theorem nX3_bestToBribe_X3 : ∀ x ∈ wsX30, x ∈ wsX3_bestToBribe := fun _ h => List.mem_cons_of_mem _ (List.mem_append_left _ (List.mem_append_left _ (List.mem_append_left _ (List.mem_append_left _ (List.mem_append_right _ h)))))
set_option maxRecDepth 100000 in
set_option maxHeartbeats 4000000 in
theorem c_X3_bestToBribe (l : Launch) (D : va_G) (cI : ClassId) (hst : l.stackTraces = false) (a b : Nat → Nat) (S S2 : Nat → Nat → Nat) (x1 : Int32) (hI : Inv S) : TI l yX3_bestToBribe wsX3_bestToBribe 8 1 136 D [(cI, .int)] [.ref (a 13), .int x1] (wCo cI a b S S2) (wCo cI a b S S2) (exq ["java/lang/IndexOutOfBoundsException"] (r1 (S 0 2) x1 (oI (frcN S (S 7 (cl x1)) (S 0 1)).1)).1) ((r1 (S 0 2) x1 (oI (frcN S (S 7 (cl x1)) (S 0 1)).1)).2) := by
  refine k_bodyX (cc := cX3_bestToBribe) (maxL := 2) (ret := (some .int)) (by decide) rfl (Nat.le_of_ble_eq_true rfl) ?_
  intro p e s m args below meth c H ls F hr hlk hl hP hK hD hS hX ht
  have F : CallFix p m c cX3_bestToBribe 2 s args wsX3_bestToBribe RX3 := F
  have hl : lv_has ls 2 [(0, .ref (a 13)), (1, .int x1)] := hl
  have hi0 := hI.gates
  have hi1 := hI.geese
  have hi2 := hI.guests
  refine lv_aload_n F.1 F.2.1 dX3_bestToBribe_0 rfl (lv_at hl 0 rfl) ?_
  refine lv_iload_n F.1 F.2.1 dX3_bestToBribe_1 rfl (lv_at hl 1 rfl) ?_
  refine t_demV (n := 1) (rest := []) F (c_X3_demandVisitor l D cI hst a b S S2 x1) gX3_bestToBribe_X3_demandVisitor rfl (by decide +kernel) ⟨Nat.le_of_ble_eq_true rfl, Nat.le_of_ble_eq_true rfl⟩ rfl hl.1 rfl (Nat.le_of_ble_eq_true rfl) dX3_bestToBribe_2 ⟨show 0 + 1 ≤ 1 by omega, show 0 + 6 ≤ 6 by omega⟩ hK hX hP hD hS ht hlk (show 0 + 1 ≤ 1 by omega) (show 0 + 6 ≤ 6 by omega) (fun h2 => ?_) (q0 := 0) (ci := 3) rfl rfl (fun h2 H locs hP hS => ?_)
  · skip
    have e9 : r1 (S 0 2) x1 (oI (frcN S (S 7 (cl x1)) (S 0 1)).1) = (1, nI 0) := r1_n h2
    rw [e9]; rfl
  · skip
    obtain ⟨g1, hg1, rfl⟩ := lt_nI (by omega) h2
    have hw9 := hI.went g1
    refine lv_aload_n F.1 F.2.1 dX3_bestToBribe_5 rfl (lv_at hl 0 rfl) ?_
    refine k_get (v := .ref (a 0)) F nX3_bestToBribe_X3 hK.1 hP 0 rfl rfl 0 (by decide) (List.mem_of_getElem? (i := 1) rfl) rfl dX3_bestToBribe_6 ?_
    refine k_get (v := .ref (a 2)) F nX3_bestToBribe_X0 hK.1 hP 1 rfl rfl 2 (by decide) (List.mem_of_getElem? (i := 2) rfl) rfl dX3_bestToBribe_9 ?_
    refine lv_aload_n F.1 F.2.1 dX3_bestToBribe_12 rfl (lv_at hl 0 rfl) ?_
    refine k_get (v := .ref (a 0)) F nX3_bestToBribe_X3 hK.1 hP 0 rfl rfl 0 (by decide) (List.mem_of_getElem? (i := 1) rfl) rfl dX3_bestToBribe_13 ?_
    refine k_get (v := .ref (a 7)) F nX3_bestToBribe_X0 hK.1 hP 1 rfl rfl 3 (by decide) (List.mem_of_getElem? (i := 3) rfl) rfl dX3_bestToBribe_16 ?_
    refine k_get (v := .ref (a 11)) F nX3_bestToBribe_X2 hK.1 hP 8 rfl rfl 4 (by decide) (List.mem_of_getElem? (i := 4) rfl) rfl dX3_bestToBribe_19 ?_
    refine lv_iload_n F.1 F.2.1 dX3_bestToBribe_22 rfl (lv_at hl 1 rfl) ?_
    refine k_iald (f := S 7) (n := 8) F hK.1 hP 12 0 rfl rfl (by omega) (by decide) dX3_bestToBribe_23 ?_
    refine k_pV (n := 1) (rest := []) (v := oI (frcN S (S 7 g1) (S 0 1)).1) F (c_X1_fiercestAwake l D cI a S (S 7 g1) hI.bd (by first | assumption | omega)) gX3_bestToBribe_X1_fiercestAwake rfl (by decide +kernel) ⟨Nat.le_of_ble_eq_true rfl, Nat.le_of_ble_eq_true rfl⟩ rfl hl.1 rfl (Nat.le_of_ble_eq_true rfl) dX3_bestToBribe_24 ⟨show 0 + 1 ≤ 1 by omega, show 0 + 6 ≤ 6 by omega⟩ hK hP hS [3, 4, 5, 6, 7] rfl (q0 := 3) (ci := 1) rfl rfl (fun H locs hP hS => ?_)
    have e9 : r1 (S 0 2) (nI g1) (oI (frcN S (S 7 (cl (nI g1))) (S 0 1)).1) = (0, oI (frcN S (S 7 g1) (S 0 1)).1) := by rw [cl_nI (show g1 < 2 ^ 31 by omega)]; exact r1_y h2
    exact t_retI F hr hlk hP rfl hS (by rw [e9]; rfl) (by rw [e9]) rfl (show 0 + 1 ≤ 1 by omega) (show 0 + 6 ≤ 6 by omega) dX3_bestToBribe_27
theorem nX3_bribesWanted_X3 : ∀ x ∈ wsX30, x ∈ wsX3_bribesWanted := fun _ h => List.mem_cons_of_mem _ (List.mem_append_left _ (List.mem_append_left _ (List.mem_append_left _ (List.mem_append_left _ (List.mem_append_right _ h)))))
set_option maxRecDepth 100000 in
set_option maxHeartbeats 4000000 in
theorem c_X3_bribesWanted (l : Launch) (D : va_G) (cI : ClassId) (hst : l.stackTraces = false) (a b : Nat → Nat) (S S2 : Nat → Nat → Nat) (x1 : Int32) (hI : Inv S) : TI l yX3_bribesWanted wsX3_bribesWanted 8 1 136 D [(cI, .int)] [.ref (a 13), .int x1] (wCo cI a b S S2) (wCo cI a b S S2) (exq ["java/lang/IndexOutOfBoundsException"] (r1 (S 0 2) x1 (nI (calmN S (cl x1)))).1) ((r1 (S 0 2) x1 (nI (calmN S (cl x1)))).2) := by
  refine k_bodyX (cc := cX3_bribesWanted) (maxL := 2) (ret := (some .int)) (by decide) rfl (Nat.le_of_ble_eq_true rfl) ?_
  intro p e s m args below meth c H ls F hr hlk hl hP hK hD hS hX ht
  have F : CallFix p m c cX3_bribesWanted 2 s args wsX3_bribesWanted RX3 := F
  have hl : lv_has ls 2 [(0, .ref (a 13)), (1, .int x1)] := hl
  have hi0 := hI.gates
  have hi1 := hI.geese
  have hi2 := hI.guests
  refine lv_aload_n F.1 F.2.1 dX3_bribesWanted_0 rfl (lv_at hl 0 rfl) ?_
  refine lv_iload_n F.1 F.2.1 dX3_bribesWanted_1 rfl (lv_at hl 1 rfl) ?_
  refine t_demV (n := 1) (rest := []) F (c_X3_demandVisitor l D cI hst a b S S2 x1) gX3_bribesWanted_X3_demandVisitor rfl (by decide +kernel) ⟨Nat.le_of_ble_eq_true rfl, Nat.le_of_ble_eq_true rfl⟩ rfl hl.1 rfl (Nat.le_of_ble_eq_true rfl) dX3_bribesWanted_2 ⟨show 0 + 1 ≤ 1 by omega, show 0 + 6 ≤ 6 by omega⟩ hK hX hP hD hS ht hlk (show 0 + 1 ≤ 1 by omega) (show 0 + 6 ≤ 6 by omega) (fun h2 => ?_) (q0 := 0) (ci := 3) rfl rfl (fun h2 H locs hP hS => ?_)
  · skip
    have e9 : r1 (S 0 2) x1 (nI (calmN S (cl x1))) = (1, nI 0) := r1_n h2
    rw [e9]; rfl
  · skip
    obtain ⟨g1, hg1, rfl⟩ := lt_nI (by omega) h2
    refine lv_aload_n F.1 F.2.1 dX3_bribesWanted_5 rfl (lv_at hl 0 rfl) ?_
    refine k_get (v := .ref (a 0)) F nX3_bribesWanted_X3 hK.1 hP 0 rfl rfl 0 (by decide) (List.mem_of_getElem? (i := 1) rfl) rfl dX3_bribesWanted_6 ?_
    refine lv_iload_n F.1 F.2.1 dX3_bribesWanted_9 rfl (lv_at hl 1 rfl) ?_
    refine k_pV (n := 1) (rest := []) (v := nI (calmN S g1)) F (c_X0_fewestToCalm l D cI a S g1 hI (by first | assumption | omega)) gX3_bribesWanted_X0_fewestToCalm rfl (by decide +kernel) ⟨Nat.le_of_ble_eq_true rfl, Nat.le_of_ble_eq_true rfl⟩ rfl hl.1 rfl (Nat.le_of_ble_eq_true rfl) dX3_bribesWanted_10 ⟨show 0 + 1 ≤ 1 by omega, show 0 + 6 ≤ 6 by omega⟩ hK hP hS [1, 2, 3, 4, 5, 6, 7, 8, 9, 10, 11, 12, 13] wCo_suba (q0 := 1) (ci := 0) rfl rfl (fun H locs hP hS => ?_)
    have e9 : r1 (S 0 2) (nI g1) (nI (calmN S (cl (nI g1)))) = (0, nI (calmN S g1)) := by rw [cl_nI (show g1 < 2 ^ 31 by omega)]; exact r1_y h2
    exact t_retI F hr hlk hP rfl hS (by rw [e9]; rfl) (by rw [e9]) rfl (show 0 + 1 ≤ 1 by omega) (show 0 + 6 ≤ 6 by omega) dX3_bribesWanted_13
theorem nX3_rankWanted_X0 : ∀ x ∈ wsX00, x ∈ wsX3_rankWanted := fun _ h => List.mem_cons_of_mem _ (List.mem_append_left _ (List.mem_append_left _ (List.mem_append_left _ (List.mem_append_right _ h))))
theorem nX3_rankWanted_X2 : ∀ x ∈ wsX20, x ∈ wsX3_rankWanted := fun _ h => List.mem_cons_of_mem _ (List.mem_append_left _ (List.mem_append_left _ (List.mem_append_right _ h)))
theorem nX3_rankWanted_X3 : ∀ x ∈ wsX30, x ∈ wsX3_rankWanted := fun _ h => List.mem_cons_of_mem _ (List.mem_append_left _ (List.mem_append_left _ (List.mem_append_left _ (List.mem_append_left _ (List.mem_append_right _ h)))))
set_option maxRecDepth 100000 in
set_option maxHeartbeats 4000000 in
theorem c_X3_rankWanted (l : Launch) (D : va_G) (cI : ClassId) (hst : l.stackTraces = false) (a b : Nat → Nat) (S S2 : Nat → Nat → Nat) (x1 : Int32) (hI : Inv S) : TI l yX3_rankWanted wsX3_rankWanted 8 1 136 D [(cI, .int)] [.ref (a 13), .int x1] (wCo cI a b S S2) (wCo cI a b S S2) (exq ["java/lang/IndexOutOfBoundsException"] (r1 (S 0 2) x1 (oI (rkN S (cl x1) 10))).1) ((r1 (S 0 2) x1 (oI (rkN S (cl x1) 10))).2) := by
  refine k_bodyX (cc := cX3_rankWanted) (maxL := 4) (ret := (some .int)) (by decide) rfl (Nat.le_of_ble_eq_true rfl) ?_
  intro p e s m args below meth c H ls F hr hlk hl hP hK hD hS hX ht
  have F : CallFix p m c cX3_rankWanted 4 s args wsX3_rankWanted RX3 := F
  have hl : lv_has ls 4 [(0, .ref (a 13)), (1, .int x1)] := hl
  have hi0 := hI.gates
  have hi1 := hI.geese
  have hi2 := hI.guests
  refine lv_aload_n F.1 F.2.1 dX3_rankWanted_0 rfl (lv_at hl 0 rfl) ?_
  refine lv_iload_n F.1 F.2.1 dX3_rankWanted_1 rfl (lv_at hl 1 rfl) ?_
  refine t_demV (n := 1) (rest := []) F (c_X3_demandVisitor l D cI hst a b S S2 x1) gX3_rankWanted_X3_demandVisitor rfl (by decide +kernel) ⟨Nat.le_of_ble_eq_true rfl, Nat.le_of_ble_eq_true rfl⟩ rfl hl.1 rfl (Nat.le_of_ble_eq_true rfl) dX3_rankWanted_2 ⟨show 0 + 1 ≤ 1 by omega, show 0 + 6 ≤ 6 by omega⟩ hK hX hP hD hS ht hlk (show 0 + 1 ≤ 1 by omega) (show 0 + 6 ≤ 6 by omega) (fun h2 => ?_) (q0 := 0) (ci := 3) rfl rfl (fun h2 H locs hP hS => ?_)
  · skip
    have e9 : r1 (S 0 2) x1 (oI (rkN S (cl x1) 10)) = (1, nI 0) := r1_n h2
    rw [e9]; rfl
  · skip
    obtain ⟨g1, hg1, rfl⟩ := lt_nI (by omega) h2
    have hw9 := hI.went g1
    have hb9 := hI.brave g1
    refine lv_aload_n F.1 F.2.1 dX3_rankWanted_5 rfl (lv_at hl 0 rfl) ?_
    refine k_get (v := .ref (a 0)) F nX3_rankWanted_X3 hK.1 hP 0 rfl rfl 0 (by decide) (List.mem_of_getElem? (i := 1) rfl) rfl dX3_rankWanted_6 ?_
    refine k_get (v := .ref (a 7)) F nX3_rankWanted_X0 hK.1 hP 1 rfl rfl 3 (by decide) (List.mem_of_getElem? (i := 2) rfl) rfl dX3_rankWanted_9 ?_
    refine k_get (v := .ref (a 11)) F nX3_rankWanted_X2 hK.1 hP 8 rfl rfl 4 (by decide) (List.mem_of_getElem? (i := 3) rfl) rfl dX3_rankWanted_12 ?_
    refine lv_iload_n F.1 F.2.1 dX3_rankWanted_15 rfl (lv_at hl 1 rfl) ?_
    refine k_iald (f := S 7) (n := 8) F hK.1 hP 12 0 rfl rfl (by omega) (by decide) dX3_rankWanted_16 ?_
    refine lv_istore_n (lv' := [(2, .int (nI (S 7 g1))), (0, .ref (a 13)), (1, .int (nI g1))]) F.1 F.2.1 dX3_rankWanted_17 rfl hl (by decide) rfl (fun ls hl => ?_)
    refine lv_iconst (v := nI 0) F.1 F.2.1 dX3_rankWanted_18 (by decide) ?_
    refine lv_istore_n (lv' := [(3, .int (nI 0)), (2, .int (nI (S 7 g1))), (0, .ref (a 13)), (1, .int (nI g1))]) F.1 F.2.1 dX3_rankWanted_19 rfl hl (by decide) rfl (fun ls hl => ?_)
    have loop20 : ∀ (n : Nat) (i : Nat), i ≤ 10 → 10 + 1 ≤ i + n → (rkN S g1 i = 0) → ∀ (ce sl : Nat), ce ≤ 1 → sl ≤ 6 → ∀ (H : Heap) (locs : List Loc) (ls : Array Slot), va_P D vwCl (wCo cI a b S S2) H → va_D (va_B (wCo cI a b S S2)) (wCo cI a b S S2) → va_S (va_B (wCo cI a b S S2)) s.heap H locs → lv_has ls 4 [(0, .ref (a 13)), (1, .int (nI g1)), (2, .int (nI (S 7 g1))), (3, .int (nI i))] → W p l e (rmG 8 1 6 136) s m args below meth c H locs (ce) (sl) (QTI below args s D 1 (wCo cI a b S S2) (wCo cI a b S S2) (exq ["java/lang/IndexOutOfBoundsException"] (r1 (S 0 2) (nI g1) (oI (rkN S (cl (nI g1)) 10))).1) ((r1 (S 0 2) (nI g1) (oI (rkN S (cl (nI g1)) 10))).2)) (F0 m 20 ls []) := by
      intro n
      induction n with
      | zero => intro i hi hn; exact absurd hn (by omega)
      | succ n ih20 =>
        intro i hi hn hz ce20 sl20 hce20 hsl20 H locs ls hP hD hS hl
        refine lv_iload_n F.1 F.2.1 dX3_rankWanted_20 rfl (lv_at hl 3 rfl) ?_
        refine lv_bipush (v := nI 9) F.1 F.2.1 dX3_rankWanted_21 (by decide) ?_
        refine k_icmp_gt (tgt := 58) F (by omega) (by omega) dX3_rankWanted_23 (by decide) (fun h23 => ?_) (fun h23 => ?_)
        · skip
          refine lv_iconst (v := (-1)) F.1 F.2.1 dX3_rankWanted_58 (by decide) ?_
          have e9 : r1 (S 0 2) (nI g1) (oI (rkN S (cl (nI g1)) 10)) = (0, oI (rkN S g1 10)) := by rw [cl_nI (show g1 < 2 ^ 31 by omega)]; exact r1_y h2
          exact t_retI F hr hlk hP rfl hS (by rw [e9]; rfl) (by rw [e9]; exact (by rw [show (10 : Nat) = i by omega, hz]; exact oI_0.symm)) rfl (show ce20 ≤ 1 by omega) (show sl20 ≤ 6 by omega) dX3_rankWanted_59
        · skip
          refine lv_aload_n F.1 F.2.1 dX3_rankWanted_26 rfl (lv_at hl 0 rfl) ?_
          refine k_get (v := .ref (a 0)) F nX3_rankWanted_X3 hK.1 hP 0 rfl rfl 0 (by decide) (List.mem_of_getElem? (i := 1) rfl) rfl dX3_rankWanted_27 ?_
          refine lv_iload_n F.1 F.2.1 dX3_rankWanted_30 rfl (lv_at hl 2 rfl) ?_
          refine lv_iload_n F.1 F.2.1 dX3_rankWanted_31 rfl (lv_at hl 3 rfl) ?_
          refine k_pV (n := 2) (rest := []) (v := nI (hisG S (S 7 g1) i)) F (c_X0_gateHiss l D cI a S (S 7 g1) i hI (by first | assumption | omega) (by first | assumption | omega)) gX3_rankWanted_X0_gateHiss rfl (by decide +kernel) ⟨Nat.le_of_ble_eq_true rfl, Nat.le_of_ble_eq_true rfl⟩ rfl hl.1 rfl (Nat.le_of_ble_eq_true rfl) dX3_rankWanted_32 ⟨show ce20 ≤ 1 by omega, show sl20 ≤ 6 by omega⟩ hK hP hS [1, 2, 3, 4, 5, 6, 7, 8, 9, 10, 11, 12, 13] wCo_suba (q0 := 1) (ci := 0) rfl rfl (fun H locs hP hS => ?_)
          refine lv_aload_n F.1 F.2.1 dX3_rankWanted_35 rfl (lv_at hl 0 rfl) ?_
          refine k_get (v := .ref (a 0)) F nX3_rankWanted_X3 hK.1 hP 0 rfl rfl 0 (by decide) (List.mem_of_getElem? (i := 1) rfl) rfl dX3_rankWanted_36 ?_
          refine k_get (v := .ref (a 7)) F nX3_rankWanted_X0 hK.1 hP 1 rfl rfl 3 (by decide) (List.mem_of_getElem? (i := 2) rfl) rfl dX3_rankWanted_39 ?_
          refine k_get (v := .ref (a 9)) F nX3_rankWanted_X2 hK.1 hP 8 rfl rfl 2 (by decide) (List.mem_of_getElem? (i := 4) rfl) rfl dX3_rankWanted_42 ?_
          refine lv_iload_n F.1 F.2.1 dX3_rankWanted_45 rfl (lv_at hl 1 rfl) ?_
          refine k_iald (f := S 9) (n := 8) F hK.1 hP 10 0 rfl rfl (by omega) (by decide) dX3_rankWanted_46 ?_
          have hh9 := hisG_le hI (S 7 g1) i
          refine k_icmp_gt (tgt := 52) F (by omega) (by omega) dX3_rankWanted_47 (by decide) (fun h47 => ?_) (fun h47 => ?_)
          · skip
            refine k_inc (k := 3) (lv' := [(3, .int (nI (i + 1))), (0, .ref (a 13)), (1, .int (nI g1)), (2, .int (nI (S 7 g1)))]) F dX3_rankWanted_52 hl rfl (by decide) rfl (fun ls hl => ?_)
            refine lv_goto (tgt := 20) F.1 F.2.1 dX3_rankWanted_55 (by decide) ?_
            exact ih20 (i + 1) (by omega) (by omega) (fst_no hz (Nat.not_le.mpr h47)) _ _ (by omega) (by omega) _ _ _ hP hD hS (lv_sub hl [1, 2, 3, 0] rfl)
          · skip
            refine lv_iload_n F.1 F.2.1 dX3_rankWanted_50 rfl (lv_at hl 3 rfl) ?_
            have e9 : r1 (S 0 2) (nI g1) (oI (rkN S (cl (nI g1)) 10)) = (0, oI (rkN S g1 10)) := by rw [cl_nI (show g1 < 2 ^ 31 by omega)]; exact r1_y h2
            exact t_retI F hr hlk hP rfl hS (by rw [e9]; rfl) (by rw [e9]; exact ((oI_succ i).symm.trans (congrArg oI (rk_hit hz (Nat.not_lt.mp h47) (by omega)).symm))) rfl (show ce20 ≤ 1 by omega) (show sl20 ≤ 6 by omega) dX3_rankWanted_51
    exact loop20 (10 + 1) 0 (by omega) (by omega) rfl _ _ (by omega) (by omega) _ _ _ hP hD hS (lv_sub hl [2, 3, 1, 0] rfl)
theorem nX3_firstBar_X0 : ∀ x ∈ wsX00, x ∈ wsX3_firstBar := fun _ h => List.mem_cons_of_mem _ (List.mem_append_left _ (List.mem_append_left _ (List.mem_append_right _ h)))
theorem nX3_firstBar_X3 : ∀ x ∈ wsX30, x ∈ wsX3_firstBar := fun _ h => List.mem_cons_of_mem _ (List.mem_append_left _ (List.mem_append_left _ (List.mem_append_left _ (List.mem_append_right _ h))))
set_option maxRecDepth 100000 in
set_option maxHeartbeats 4000000 in
theorem c_X3_firstBar (l : Launch) (D : va_G) (cI : ClassId) (hst : l.stackTraces = false) (a b : Nat → Nat) (S S2 : Nat → Nat → Nat) (x1 : Int32) (x2 : Int32) (hI : Inv S) : TI l yX3_firstBar wsX3_firstBar 7 1 115 D [(cI, .int)] [.ref (a 13), .int x1, .int x2] (wCo cI a b S S2) (wCo cI a b S S2) (exq ["java/lang/IllegalArgumentException"] (rBar S x1 x2).1) ((rBar S x1 x2).2) := by
  refine k_bodyX (cc := cX3_firstBar) (maxL := 4) (ret := (some .int)) (by decide) rfl (Nat.le_of_ble_eq_true rfl) ?_
  intro p e s m args below meth c H ls F hr hlk hl hP hK hD hS hX ht
  have F : CallFix p m c cX3_firstBar 4 s args wsX3_firstBar RX3 := F
  have hl : lv_has ls 4 [(0, .ref (a 13)), (1, .int x1), (2, .int x2)] := hl
  have hi0 := hI.gates
  have hi1 := hI.geese
  have hi2 := hI.guests
  refine lv_iload_n F.1 F.2.1 dX3_firstBar_0 rfl (lv_at hl 1 rfl) ?_
  refine k_pS (n := 1) (rest := []) (v := bI (nI 0 ≤ x1 ∧ x1 ≤ nI 9)) F (c_X3_isRank l D cI x1) gX3_firstBar_X3_isRank rfl (by decide +kernel) ⟨Nat.le_of_ble_eq_true rfl, Nat.le_of_ble_eq_true rfl⟩ rfl hl.1 rfl (Nat.le_of_ble_eq_true rfl) dX3_firstBar_1 ⟨show 0 ≤ 1 by omega, show 0 ≤ 6 by omega⟩ hK hP hS (fun H locs hP hS => ?_)
  refine k_ifeq_b (tgt := 18) F dX3_firstBar_4 (by decide) (fun h4 => ?_) (fun h4 => ?_)
  · skip
    refine lv_iconst (v := nI 0) F.1 F.2.1 dX3_firstBar_18 (by decide) ?_
    refine t_demS (n := 1) (rest := []) F (c_X3_demandArgument l D cI hst False) gX3_firstBar_X3_demandArgument rfl (by decide +kernel) ⟨Nat.le_of_ble_eq_true rfl, Nat.le_of_ble_eq_true rfl⟩ rfl hl.1 rfl (Nat.le_of_ble_eq_true rfl) dX3_firstBar_19 ⟨show 0 + 1 ≤ 1 by omega, show 0 + 6 ≤ 6 by omega⟩ hK hX hP hS ht hlk (show 0 + 1 ≤ 1 by omega) (show 0 + 6 ≤ 6 by omega) (fun h19 => ?_) (fun h19 H locs hP hS => ?_)
    · skip
      have e9 : rBar S x1 x2 = (1, nI 0) := by unfold rBar; rw [if_neg (fun q => h4 q.1)]
      rw [e9]; rfl
    · skip
      exact h19.elim
  · skip
    refine lv_iload_n F.1 F.2.1 dX3_firstBar_7 rfl (lv_at hl 2 rfl) ?_
    refine k_pS (n := 1) (rest := []) (v := bI (nI 0 ≤ x2 ∧ x2 ≤ nI 20)) F (c_X3_isNerve l D cI x2) gX3_firstBar_X3_isNerve rfl (by decide +kernel) ⟨Nat.le_of_ble_eq_true rfl, Nat.le_of_ble_eq_true rfl⟩ rfl hl.1 rfl (Nat.le_of_ble_eq_true rfl) dX3_firstBar_8 ⟨show 0 ≤ 1 by omega, show 0 ≤ 6 by omega⟩ hK hP hS (fun H locs hP hS => ?_)
    refine k_ifeq_b (tgt := 18) F dX3_firstBar_11 (by decide) (fun h11 => ?_) (fun h11 => ?_)
    · skip
      refine lv_iconst (v := nI 0) F.1 F.2.1 dX3_firstBar_18 (by decide) ?_
      refine t_demS (n := 1) (rest := []) F (c_X3_demandArgument l D cI hst False) gX3_firstBar_X3_demandArgument rfl (by decide +kernel) ⟨Nat.le_of_ble_eq_true rfl, Nat.le_of_ble_eq_true rfl⟩ rfl hl.1 rfl (Nat.le_of_ble_eq_true rfl) dX3_firstBar_19 ⟨show 0 + 1 ≤ 1 by omega, show 0 + 6 ≤ 6 by omega⟩ hK hX hP hS ht hlk (show 0 + 1 ≤ 1 by omega) (show 0 + 6 ≤ 6 by omega) (fun h19 => ?_) (fun h19 H locs hP hS => ?_)
      · skip
        have e9 : rBar S x1 x2 = (1, nI 0) := by unfold rBar; rw [if_neg (fun q => h11 q.2)]
        rw [e9]; rfl
      · skip
        exact h19.elim
    · skip
      refine lv_iconst (v := nI 1) F.1 F.2.1 dX3_firstBar_14 (by decide) ?_
      refine lv_goto (tgt := 19) F.1 F.2.1 dX3_firstBar_15 (by decide) ?_
      refine t_demS (n := 1) (rest := []) F (c_X3_demandArgument l D cI hst True) gX3_firstBar_X3_demandArgument rfl (by decide +kernel) ⟨Nat.le_of_ble_eq_true rfl, Nat.le_of_ble_eq_true rfl⟩ rfl hl.1 rfl (Nat.le_of_ble_eq_true rfl) dX3_firstBar_19 ⟨show 0 + 1 ≤ 1 by omega, show 0 + 6 ≤ 6 by omega⟩ hK hX hP hS ht hlk (show 0 + 1 ≤ 1 by omega) (show 0 + 6 ≤ 6 by omega) (fun h19 => ?_) (fun h19 H locs hP hS => ?_)
      · skip
        exact absurd trivial h19
      · skip
        obtain ⟨g1, hg1, rfl⟩ := in_nI (by decide) h4 (by decide)
        obtain ⟨g2, hg2, rfl⟩ := in_nI (by decide) h11 (by decide)
        refine lv_iconst (v := nI 0) F.1 F.2.1 dX3_firstBar_22 (by decide) ?_
        refine lv_istore_n (lv' := [(3, .int (nI 0)), (0, .ref (a 13)), (1, .int (nI g1)), (2, .int (nI g2))]) F.1 F.2.1 dX3_firstBar_23 rfl hl (by decide) rfl (fun ls hl => ?_)
        have loop24 : ∀ (n : Nat) (i : Nat), i ≤ S 0 0 → S 0 0 + 1 ≤ i + n → (fbN S g1 g2 i = 0) → ∀ (ce sl : Nat), ce ≤ 1 → sl ≤ 6 → ∀ (H : Heap) (locs : List Loc) (ls : Array Slot), va_P D vwCl (wCo cI a b S S2) H → va_D (va_B (wCo cI a b S S2)) (wCo cI a b S S2) → va_S (va_B (wCo cI a b S S2)) s.heap H locs → lv_has ls 4 [(0, .ref (a 13)), (1, .int (nI g1)), (2, .int (nI g2)), (3, .int (nI i))] → W p l e (rmG 7 1 6 115) s m args below meth c H locs (ce) (sl) (QTI below args s D 1 (wCo cI a b S S2) (wCo cI a b S S2) (exq ["java/lang/IllegalArgumentException"] (rBar S (nI g1) (nI g2)).1) ((rBar S (nI g1) (nI g2)).2)) (F0 m 24 ls []) := by
          intro n
          induction n with
          | zero => intro i hi hn; exact absurd hn (by omega)
          | succ n ih24 =>
            intro i hi hn hz ce24 sl24 hce24 hsl24 H locs ls hP hD hS hl
            refine lv_iload_n F.1 F.2.1 dX3_firstBar_24 rfl (lv_at hl 3 rfl) ?_
            refine lv_aload_n F.1 F.2.1 dX3_firstBar_25 rfl (lv_at hl 0 rfl) ?_
            refine k_get (v := .ref (a 0)) F nX3_firstBar_X3 hK.1 hP 0 rfl rfl 0 (by decide) (List.mem_of_getElem? (i := 1) rfl) rfl dX3_firstBar_26 ?_
            refine k_get (v := .int (nI (S 0 0))) F nX3_firstBar_X0 hK.1 hP 1 rfl rfl 0 (by decide) (List.mem_of_getElem? (i := 2) rfl) rfl dX3_firstBar_29 ?_
            refine k_icmp_ge (tgt := 56) F (by omega) (by omega) dX3_firstBar_32 (by decide) (fun h32 => ?_) (fun h32 => ?_)
            · skip
              refine lv_iconst (v := (-1)) F.1 F.2.1 dX3_firstBar_56 (by decide) ?_
              have e9 : rBar S (nI g1) (nI g2) = (0, oI (fbN S g1 g2 (S 0 0))) := by unfold rBar; rw [cl_nI (show g1 < 2 ^ 31 by omega), cl_nI (show g2 < 2 ^ 31 by omega), if_pos ⟨h4, h11⟩]
              exact t_retI F hr hlk hP rfl hS (by rw [e9]; rfl) (by rw [e9, show S 0 0 = i by omega, hz]; exact oI_0.symm) rfl (show ce24 ≤ 1 by omega) (show sl24 ≤ 6 by omega) dX3_firstBar_57
            · skip
              refine lv_aload_n F.1 F.2.1 dX3_firstBar_35 rfl (lv_at hl 0 rfl) ?_
              refine k_get (v := .ref (a 0)) F nX3_firstBar_X3 hK.1 hP 0 rfl rfl 0 (by decide) (List.mem_of_getElem? (i := 1) rfl) rfl dX3_firstBar_36 ?_
              refine lv_iload_n F.1 F.2.1 dX3_firstBar_39 rfl (lv_at hl 3 rfl) ?_
              refine lv_iload_n F.1 F.2.1 dX3_firstBar_40 rfl (lv_at hl 1 rfl) ?_
              refine k_pV (n := 2) (rest := []) (v := nI (hisG S i g1)) F (c_X0_gateHiss l D cI a S i g1 hI (by first | assumption | omega) (by first | assumption | omega)) gX3_firstBar_X0_gateHiss rfl (by decide +kernel) ⟨Nat.le_of_ble_eq_true rfl, Nat.le_of_ble_eq_true rfl⟩ rfl hl.1 rfl (Nat.le_of_ble_eq_true rfl) dX3_firstBar_41 ⟨show ce24 ≤ 1 by omega, show sl24 ≤ 6 by omega⟩ hK hP hS [1, 2, 3, 4, 5, 6, 7, 8, 9, 10, 11, 12, 13] wCo_suba (q0 := 1) (ci := 0) rfl rfl (fun H locs hP hS => ?_)
              have hh9 := hisG_le hI i g1
              refine lv_iload_n F.1 F.2.1 dX3_firstBar_44 rfl (lv_at hl 2 rfl) ?_
              refine k_icmp_le (tgt := 50) F (by omega) (by omega) dX3_firstBar_45 (by decide) (fun h45 => ?_) (fun h45 => ?_)
              · skip
                refine k_inc (k := 3) (lv' := [(3, .int (nI (i + 1))), (0, .ref (a 13)), (1, .int (nI g1)), (2, .int (nI g2))]) F dX3_firstBar_50 hl rfl (by decide) rfl (fun ls hl => ?_)
                refine lv_goto (tgt := 24) F.1 F.2.1 dX3_firstBar_53 (by decide) ?_
                exact ih24 (i + 1) (by omega) (by omega) (fst_no hz (Nat.not_lt.mpr h45)) _ _ (by omega) (by omega) _ _ _ hP hD hS (lv_sub hl [1, 2, 3, 0] rfl)
              · skip
                refine lv_iload_n F.1 F.2.1 dX3_firstBar_48 rfl (lv_at hl 3 rfl) ?_
                have e9 : rBar S (nI g1) (nI g2) = (0, oI (fbN S g1 g2 (S 0 0))) := by unfold rBar; rw [cl_nI (show g1 < 2 ^ 31 by omega), cl_nI (show g2 < 2 ^ 31 by omega), if_pos ⟨h4, h11⟩]
                exact t_retI F hr hlk hP rfl hS (by rw [e9]; rfl) (by rw [e9]; exact (oI_succ i).symm.trans (congrArg oI (fb_hit hz (Nat.not_le.mp h45) (by omega)).symm)) rfl (show ce24 ≤ 1 by omega) (show sl24 ≤ 6 by omega) dX3_firstBar_49
        exact loop24 ((S 0 0) + 1) 0 (by omega) (by omega) rfl _ _ (by omega) (by omega) _ _ _ hP hD hS (lv_sub hl [1, 2, 3, 0] rfl)
theorem nX3_loudestGate_X0 : ∀ x ∈ wsX00, x ∈ wsX3_loudestGate := fun _ h => List.mem_cons_of_mem _ (List.mem_append_left _ (List.mem_append_right _ h))
theorem nX3_loudestGate_X3 : ∀ x ∈ wsX30, x ∈ wsX3_loudestGate := fun _ h => List.mem_cons_of_mem _ (List.mem_append_left _ (List.mem_append_left _ (List.mem_append_right _ h)))
set_option maxRecDepth 100000 in
set_option maxHeartbeats 4000000 in
theorem c_X3_loudestGate (l : Launch) (D : va_G) (cI : ClassId) (a b : Nat → Nat) (S S2 : Nat → Nat → Nat) (hI : Inv S) : PI l yX3_loudestGate wsX3_loudestGate 3 68 D [(cI, .int)] [.ref (a 13)] (wCo cI a b S S2) (oI (ldN S (S 0 0)).1) := by
  refine k_bodyP (cc := cX3_loudestGate) (maxL := 5) (ret := (some .int)) (by decide) rfl (Nat.le_of_ble_eq_true rfl) ?_
  intro p e s m args below meth c H ls F hr hlk hl hP hK hS
  have F : CallFix p m c cX3_loudestGate 5 s args wsX3_loudestGate RX3 := F
  have hl : lv_has ls 5 [(0, .ref (a 13))] := hl
  have hi0 := hI.gates
  have hi1 := hI.geese
  have hi2 := hI.guests
  refine lv_iconst (v := (-1)) F.1 F.2.1 dX3_loudestGate_0 (by decide) ?_
  refine lv_istore_n (lv' := [(1, .int (-1)), (0, .ref (a 13))]) F.1 F.2.1 dX3_loudestGate_1 rfl hl (by decide) rfl (fun ls hl => ?_)
  refine lv_iconst (v := (-1)) F.1 F.2.1 dX3_loudestGate_2 (by decide) ?_
  refine lv_istore_n (lv' := [(2, .int (-1)), (1, .int (-1)), (0, .ref (a 13))]) F.1 F.2.1 dX3_loudestGate_3 rfl hl (by decide) rfl (fun ls hl => ?_)
  have hl : lv_has ls 5 [(2, .int (ldL S 0)), (1, .int (oI (ldN S 0).1)), (0, .ref (a 13))] := by rw [show oI (ldN S 0).1 = -1 from oI_0, show ldL S 0 = -1 from rfl]; exact hl
  refine lv_iconst (v := nI 0) F.1 F.2.1 dX3_loudestGate_4 (by decide) ?_
  refine lv_istore_n (lv' := [(3, .int (nI 0)), (2, .int (ldL S 0)), (1, .int (oI (ldN S 0).1)), (0, .ref (a 13))]) F.1 F.2.1 dX3_loudestGate_5 rfl hl (by decide) rfl (fun ls hl => ?_)
  have loop6 : ∀ (n : Nat) (i : Nat), i ≤ S 0 0 → S 0 0 + 1 ≤ i + n → ∀ (H : Heap) (locs : List Loc) (ls : Array Slot), va_P D vwCl (wCo cI a b S S2) H → va_S (fun _ => False) s.heap H locs → lv_has ls 5 [(0, .ref (a 13)), (1, .int (oI (ldN S i).1)), (2, .int (ldL S i)), (3, .int (nI i))] → W p l e (rmN 3 68) s m args below meth c H locs (0) (0) (QPI below args s (oI (ldN S (S 0 0)).1)) (F0 m 6 ls []) := by
    intro n
    induction n with
    | zero => intro i hi hn; exact absurd hn (by omega)
    | succ n ih6 =>
      intro i hi hn  H locs ls hP hS hl
      refine lv_iload_n F.1 F.2.1 dX3_loudestGate_6 rfl (lv_at hl 3 rfl) ?_
      refine lv_aload_n F.1 F.2.1 dX3_loudestGate_7 rfl (lv_at hl 0 rfl) ?_
      refine k_get (v := .ref (a 0)) F nX3_loudestGate_X3 hK.1 hP 0 rfl rfl 0 (by decide) (List.mem_of_getElem? (i := 1) rfl) rfl dX3_loudestGate_8 ?_
      refine k_get (v := .int (nI (S 0 0))) F nX3_loudestGate_X0 hK.1 hP 1 rfl rfl 0 (by decide) (List.mem_of_getElem? (i := 2) rfl) rfl dX3_loudestGate_11 ?_
      refine k_icmp_ge (tgt := 45) F (by omega) (by omega) dX3_loudestGate_14 (by decide) (fun h14 => ?_) (fun h14 => ?_)
      · skip
        refine lv_iload_n F.1 F.2.1 dX3_loudestGate_45 rfl (lv_at hl 1 rfl) ?_
        exact k_retP F hr hlk hS (by rw [show i = S 0 0 by omega]) rfl dX3_loudestGate_46
      · skip
        refine lv_aload_n F.1 F.2.1 dX3_loudestGate_17 rfl (lv_at hl 0 rfl) ?_
        refine k_get (v := .ref (a 0)) F nX3_loudestGate_X3 hK.1 hP 0 rfl rfl 0 (by decide) (List.mem_of_getElem? (i := 1) rfl) rfl dX3_loudestGate_18 ?_
        refine lv_iload_n F.1 F.2.1 dX3_loudestGate_21 rfl (lv_at hl 3 rfl) ?_
        refine lv_iconst (v := nI 0) F.1 F.2.1 dX3_loudestGate_22 (by decide) ?_
        refine k_pV (n := 2) (rest := []) (v := nI (hisG S i 0)) F (c_X0_gateHiss l D cI a S i 0 hI (by first | assumption | omega) (by first | assumption | omega)) gX3_loudestGate_X0_gateHiss rfl (by decide +kernel) ⟨Nat.le_of_ble_eq_true rfl, Nat.le_of_ble_eq_true rfl⟩ rfl hl.1 rfl (Nat.le_of_ble_eq_true rfl) dX3_loudestGate_23 ⟨Nat.zero_le _, Nat.zero_le _⟩ hK hP hS [1, 2, 3, 4, 5, 6, 7, 8, 9, 10, 11, 12, 13] wCo_suba (q0 := 1) (ci := 0) rfl rfl (fun H locs hP hS => ?_)
        have hh9 := hisG_le hI i 0
        rcases hb9 : (ldN S i).1 with _ | b9
        · skip
          rw [show ldL S i = -1 from if_pos hb9] at hl
          refine lv_istore (lv' := [(4, .int (nI (hisG S i 0))), (0, .ref (a 13)), (1, .int (oI (ldN S i).1)), (2, .int (-1)), (3, .int (nI i))]) F.1 F.2.1 dX3_loudestGate_26 hl (by decide) rfl (fun ls hl => ?_)
          refine lv_iload F.1 F.2.1 dX3_loudestGate_28 (lv_at hl 0 rfl) ?_
          refine lv_iload_n F.1 F.2.1 dX3_loudestGate_30 rfl (lv_at hl 3 rfl) ?_
          refine lv_icmp_le (tgt := 39) F.1 F.2.1 dX3_loudestGate_31 (by decide) (fun h31 => ?_) (fun h31 => ?_)
          · skip
            exact absurd h31 (nI_nle_m1 (by omega))
          · skip
            refine lv_iload F.1 F.2.1 dX3_loudestGate_34 (lv_at hl 0 rfl) ?_
            refine lv_istore_n (lv' := [(2, .int (nI (hisG S i 0))), (4, .int (nI (hisG S i 0))), (0, .ref (a 13)), (1, .int (oI (ldN S i).1)), (3, .int (nI i))]) F.1 F.2.1 dX3_loudestGate_36 rfl hl (by decide) rfl (fun ls hl => ?_)
            refine lv_iload_n F.1 F.2.1 dX3_loudestGate_37 rfl (lv_at hl 4 rfl) ?_
            refine lv_istore_n (lv' := [(1, .int (nI i)), (2, .int (nI (hisG S i 0))), (4, .int (nI (hisG S i 0))), (0, .ref (a 13)), (3, .int (nI i))]) F.1 F.2.1 dX3_loudestGate_38 rfl hl (by decide) rfl (fun ls hl => ?_)
            refine k_inc (k := 4) (lv' := [(3, .int (nI (i + 1))), (1, .int (nI i)), (2, .int (nI (hisG S i 0))), (4, .int (nI (hisG S i 0))), (0, .ref (a 13))]) F dX3_loudestGate_39 hl rfl (by decide) rfl (fun ls hl => ?_)
            refine lv_goto (tgt := 6) F.1 F.2.1 dX3_loudestGate_42 (by decide) ?_
            have e_1 : nI i = oI (ldN S (i + 1)).1 := (by rw [(show ldN S (i + 1) = (i + 1, hisG S i 0) from if_pos (by first | exact Or.inl hb9 | exact Or.inr (Nat.not_le.mp h31)))]; exact (oI_succ i).symm)
            rw [e_1] at hl
            have e_2 : nI (hisG S i 0) = ldL S (i + 1) := (by unfold ldL; rw [(show ldN S (i + 1) = (i + 1, hisG S i 0) from if_pos (by first | exact Or.inl hb9 | exact Or.inr (Nat.not_le.mp h31)))]; rfl)
            rw [e_2] at hl
            exact ih6 (i + 1) (by omega) (by omega)  _ _ _ hP hS (lv_sub hl [4, 1, 2, 0] rfl)
        · skip
          have hv1 := ldN_val S i b9 hb9
          have hm2 := hisG_le hI b9 0
          rw [show ldL S i = nI (ldN S i).2 from if_neg (by rw [hb9]; exact Nat.succ_ne_zero b9)] at hl
          have hv2 : (ldN S i).2 ≤ 144 := by rw [hv1.1]; exact hm2
          refine lv_istore (lv' := [(4, .int (nI (hisG S i 0))), (0, .ref (a 13)), (1, .int (oI (ldN S i).1)), (2, .int (nI ((ldN S i).2))), (3, .int (nI i))]) F.1 F.2.1 dX3_loudestGate_26 hl (by decide) rfl (fun ls hl => ?_)
          refine lv_iload F.1 F.2.1 dX3_loudestGate_28 (lv_at hl 0 rfl) ?_
          refine lv_iload_n F.1 F.2.1 dX3_loudestGate_30 rfl (lv_at hl 3 rfl) ?_
          refine k_icmp_le (tgt := 39) F (by omega) (by omega) dX3_loudestGate_31 (by decide) (fun h31 => ?_) (fun h31 => ?_)
          · skip
            refine k_inc (k := 4) (lv' := [(3, .int (nI (i + 1))), (4, .int (nI (hisG S i 0))), (0, .ref (a 13)), (1, .int (oI (ldN S i).1)), (2, .int (nI ((ldN S i).2)))]) F dX3_loudestGate_39 hl rfl (by decide) rfl (fun ls hl => ?_)
            refine lv_goto (tgt := 6) F.1 F.2.1 dX3_loudestGate_42 (by decide) ?_
            have e_3 : oI (ldN S i).1 = oI (ldN S (i + 1)).1 := (by rw [(show ldN S (i + 1) = ldN S i from if_neg (by rw [hb9]; omega))])
            rw [e_3] at hl
            have e_4 : nI ((ldN S i).2) = ldL S (i + 1) := (by unfold ldL; rw [(show ldN S (i + 1) = ldN S i from if_neg (by rw [hb9]; omega)), if_neg (by rw [hb9]; exact Nat.succ_ne_zero b9)])
            rw [e_4] at hl
            exact ih6 (i + 1) (by omega) (by omega)  _ _ _ hP hS (lv_sub hl [2, 3, 4, 0] rfl)
          · skip
            refine lv_iload F.1 F.2.1 dX3_loudestGate_34 (lv_at hl 0 rfl) ?_
            refine lv_istore_n (lv' := [(2, .int (nI (hisG S i 0))), (4, .int (nI (hisG S i 0))), (0, .ref (a 13)), (1, .int (oI (ldN S i).1)), (3, .int (nI i))]) F.1 F.2.1 dX3_loudestGate_36 rfl hl (by decide) rfl (fun ls hl => ?_)
            refine lv_iload_n F.1 F.2.1 dX3_loudestGate_37 rfl (lv_at hl 4 rfl) ?_
            refine lv_istore_n (lv' := [(1, .int (nI i)), (2, .int (nI (hisG S i 0))), (4, .int (nI (hisG S i 0))), (0, .ref (a 13)), (3, .int (nI i))]) F.1 F.2.1 dX3_loudestGate_38 rfl hl (by decide) rfl (fun ls hl => ?_)
            refine k_inc (k := 4) (lv' := [(3, .int (nI (i + 1))), (1, .int (nI i)), (2, .int (nI (hisG S i 0))), (4, .int (nI (hisG S i 0))), (0, .ref (a 13))]) F dX3_loudestGate_39 hl rfl (by decide) rfl (fun ls hl => ?_)
            refine lv_goto (tgt := 6) F.1 F.2.1 dX3_loudestGate_42 (by decide) ?_
            have e_5 : nI i = oI (ldN S (i + 1)).1 := (by rw [(show ldN S (i + 1) = (i + 1, hisG S i 0) from if_pos (by first | exact Or.inl hb9 | exact Or.inr (Nat.not_le.mp h31)))]; exact (oI_succ i).symm)
            rw [e_5] at hl
            have e_6 : nI (hisG S i 0) = ldL S (i + 1) := (by unfold ldL; rw [(show ldN S (i + 1) = (i + 1, hisG S i 0) from if_pos (by first | exact Or.inl hb9 | exact Or.inr (Nat.not_le.mp h31)))]; rfl)
            rw [e_6] at hl
            exact ih6 (i + 1) (by omega) (by omega)  _ _ _ hP hS (lv_sub hl [4, 1, 2, 0] rfl)
  exact loop6 ((S 0 0) + 1) 0 (by omega) (by omega)  _ _ _ hP hS (lv_sub hl [3, 2, 1, 0] rfl)
theorem nX3_meanTemper_X0 : ∀ x ∈ wsX00, x ∈ wsX3_meanTemper := fun _ h => List.mem_cons_of_mem _ (List.mem_append_left _ (List.mem_append_right _ h))
theorem nX3_meanTemper_X1 : ∀ x ∈ wsX10, x ∈ wsX3_meanTemper := fun _ h => List.mem_cons_of_mem _ (List.mem_append_right _ h)
theorem nX3_meanTemper_X3 : ∀ x ∈ wsX30, x ∈ wsX3_meanTemper := fun _ h => List.mem_cons_of_mem _ (List.mem_append_left _ (List.mem_append_left _ (List.mem_append_right _ h)))
set_option maxRecDepth 100000 in
set_option maxHeartbeats 4000000 in
theorem c_X3_meanTemper (l : Launch) (D : va_G) (cI : ClassId) (a b : Nat → Nat) (S S2 : Nat → Nat → Nat) (hI : Inv S) : PD l yX3_meanTemper wsX3_meanTemper 1 22 D [(cI, .int)] [.ref (a 13)] (wCo cI a b S S2) (meanD S) := by
  refine k_bodyP (cc := cX3_meanTemper) (maxL := 2) (ret := (some .double)) (by decide) rfl (Nat.le_of_ble_eq_true rfl) ?_
  intro p e s m args below meth c H ls F hr hlk hl hP hK hS
  have F : CallFix p m c cX3_meanTemper 2 s args wsX3_meanTemper RX3 := F
  have hl : lv_has ls 2 [(0, .ref (a 13))] := hl
  have hi0 := hI.gates
  have hi1 := hI.geese
  have hi2 := hI.guests
  refine lv_aload_n F.1 F.2.1 dX3_meanTemper_0 rfl (lv_at hl 0 rfl) ?_
  refine k_get (v := .ref (a 0)) F nX3_meanTemper_X3 hK.1 hP 0 rfl rfl 0 (by decide) (List.mem_of_getElem? (i := 1) rfl) rfl dX3_meanTemper_1 ?_
  refine k_get (v := .ref (a 2)) F nX3_meanTemper_X0 hK.1 hP 1 rfl rfl 2 (by decide) (List.mem_of_getElem? (i := 2) rfl) rfl dX3_meanTemper_4 ?_
  refine k_get (v := .int (nI (S 0 1))) F nX3_meanTemper_X1 hK.1 hP 3 rfl rfl 0 (by decide) (List.mem_of_getElem? (i := 3) rfl) rfl dX3_meanTemper_7 ?_
  refine lv_istore_n (lv' := [(1, .int (nI (S 0 1))), (0, .ref (a 13))]) F.1 F.2.1 dX3_meanTemper_10 rfl hl (by decide) rfl (fun ls hl => ?_)
  refine lv_iload_n F.1 F.2.1 dX3_meanTemper_11 rfl (lv_at hl 0 rfl) ?_
  refine k_if_ne (tgt := 17) F (by omega) dX3_meanTemper_12 (by decide) (fun h12 => ?_) (fun h12 => ?_)
  · skip
    refine lv_aload_n F.1 F.2.1 dX3_meanTemper_17 rfl (lv_at hl 1 rfl) ?_
    refine k_get (v := .ref (a 0)) F nX3_meanTemper_X3 hK.1 hP 0 rfl rfl 0 (by decide) (List.mem_of_getElem? (i := 1) rfl) rfl dX3_meanTemper_18 ?_
    refine k_get (v := .ref (a 2)) F nX3_meanTemper_X0 hK.1 hP 1 rfl rfl 2 (by decide) (List.mem_of_getElem? (i := 2) rfl) rfl dX3_meanTemper_21 ?_
    refine k_pV (n := 0) (rest := []) (v := nI (sumN S (S 0 1))) F (c_X1_sumOfTempers l D cI a S hI.bd) gX3_meanTemper_X1_sumOfTempers rfl (by decide +kernel) ⟨Nat.le_of_ble_eq_true rfl, Nat.le_of_ble_eq_true rfl⟩ rfl hl.1 rfl (Nat.le_of_ble_eq_true rfl) dX3_meanTemper_24 ⟨Nat.zero_le _, Nat.zero_le _⟩ hK hP hS [3, 4, 5, 6, 7] rfl (q0 := 3) (ci := 1) rfl rfl (fun H locs hP hS => ?_)
    refine lv_i2d F.1 F.2.1 dX3_meanTemper_27 ?_
    refine lv_iload_n F.1 F.2.1 dX3_meanTemper_28 rfl (lv_at hl 0 rfl) ?_
    refine lv_i2d F.1 F.2.1 dX3_meanTemper_29 ?_
    refine lv_ddiv F.1 F.2.1 dX3_meanTemper_30 (mean_ok (by have := sumN_le S hI.mood (S 0 1); omega) hi1 h12) ?_
    exact k_retD F hr hlk hS (by unfold meanD; rw [if_neg h12]) dX3_meanTemper_31
  · skip
    refine lv_dconst0 F.1 F.2.1 dX3_meanTemper_15 ?_
    exact k_retD F hr hlk hS (by unfold meanD; rw [if_pos h12]) dX3_meanTemper_16
