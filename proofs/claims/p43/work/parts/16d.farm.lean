set_option maxRecDepth 100000 in
set_option maxHeartbeats 4000000 in
theorem c_X3_gradeOfHiss (l : Launch) (D : va_G) (cI : ClassId)  (h : Nat) (hh : h < 2 ^ 31) : PI l yX3_gradeOfHiss wsX3_gradeOfHiss 0 0 D [(cI, .int)] [.int (nI h)] [] (nI (grdN h)) := by
  refine k_bodyP (cc := cX3_gradeOfHiss) (maxL := 1) (ret := (some .int)) (by decide) rfl (Nat.le_of_ble_eq_true rfl) ?_
  intro p e s m args below meth c H ls F hr hlk hl hP hK hS
  have F : CallFix p m c cX3_gradeOfHiss 1 s args wsX3_gradeOfHiss RX3 := F
  have hl : lv_has ls 1 [(0, .int (nI h))] := hl
  refine lv_iload_n F.1 F.2.1 dX3_gradeOfHiss_0 rfl (lv_at hl 0 rfl) ?_
  refine k_if_gt (tgt := 6) F (by omega) dX3_gradeOfHiss_1 (by decide) (fun h1 => ?_) (fun h1 => ?_)
  · skip
    refine lv_iload_n F.1 F.2.1 dX3_gradeOfHiss_6 rfl (lv_at hl 0 rfl) ?_
    refine lv_iconst (v := nI 5) F.1 F.2.1 dX3_gradeOfHiss_7 (by decide) ?_
    refine k_icmp_gt (tgt := 13) F (by omega) (by omega) dX3_gradeOfHiss_8 (by decide) (fun h8 => ?_) (fun h8 => ?_)
    · skip
      refine lv_iload_n F.1 F.2.1 dX3_gradeOfHiss_13 rfl (lv_at hl 0 rfl) ?_
      refine lv_bipush (v := nI 10) F.1 F.2.1 dX3_gradeOfHiss_14 (by decide) ?_
      refine k_icmp_gt (tgt := 21) F (by omega) (by omega) dX3_gradeOfHiss_16 (by decide) (fun h16 => ?_) (fun h16 => ?_)
      · skip
        refine lv_iload_n F.1 F.2.1 dX3_gradeOfHiss_21 rfl (lv_at hl 0 rfl) ?_
        refine lv_bipush (v := nI 20) F.1 F.2.1 dX3_gradeOfHiss_22 (by decide) ?_
        refine k_icmp_gt (tgt := 31) F (by omega) (by omega) dX3_gradeOfHiss_24 (by decide) (fun h24 => ?_) (fun h24 => ?_)
        · skip
          refine lv_iconst (v := nI 4) F.1 F.2.1 dX3_gradeOfHiss_31 (by decide) ?_
          exact k_retP F hr hlk hS (by congr 1; unfold grdN; (repeat' split) <;> omega) rfl dX3_gradeOfHiss_32
        · skip
          refine lv_iconst (v := nI 3) F.1 F.2.1 dX3_gradeOfHiss_27 (by decide) ?_
          refine lv_goto (tgt := 32) F.1 F.2.1 dX3_gradeOfHiss_28 (by decide) ?_
          exact k_retP F hr hlk hS (by congr 1; unfold grdN; (repeat' split) <;> omega) rfl dX3_gradeOfHiss_32
      · skip
        refine lv_iconst (v := nI 2) F.1 F.2.1 dX3_gradeOfHiss_19 (by decide) ?_
        exact k_retP F hr hlk hS (by congr 1; unfold grdN; (repeat' split) <;> omega) rfl dX3_gradeOfHiss_20
    · skip
      refine lv_iconst (v := nI 1) F.1 F.2.1 dX3_gradeOfHiss_11 (by decide) ?_
      exact k_retP F hr hlk hS (by congr 1; unfold grdN; (repeat' split) <;> omega) rfl dX3_gradeOfHiss_12
  · skip
    refine lv_iconst (v := nI 0) F.1 F.2.1 dX3_gradeOfHiss_4 (by decide) ?_
    exact k_retP F hr hlk hS (by congr 1; unfold grdN; (repeat' split) <;> omega) rfl dX3_gradeOfHiss_5
theorem nX0_hasGate_X0 : ∀ x ∈ wsX00, x ∈ wsX0_hasGate := fun _ h => List.mem_cons_of_mem _ (List.mem_append_right _ h)
set_option maxRecDepth 100000 in
set_option maxHeartbeats 4000000 in
theorem c_X0_hasGate (l : Launch) (D : va_G) (cI : ClassId) (a : Nat → Nat) (S : Nat → Nat → Nat) (g : Int32) : PI l yX0_hasGate wsX0_hasGate 0 0 D [(cI, .int)] [.ref (a 0), .int g] (wFa cI a S) (bI (0 ≤ g ∧ g < nI (S 0 0))) := by
  refine k_bodyP (cc := cX0_hasGate) (maxL := 2) (ret := (some .boolean)) (by decide) rfl (Nat.le_of_ble_eq_true rfl) ?_
  intro p e s m args below meth c H ls F hr hlk hl hP hK hS
  have F : CallFix p m c cX0_hasGate 2 s args wsX0_hasGate RX0 := F
  have hl : lv_has ls 2 [(0, .ref (a 0)), (1, .int g)] := hl
  refine lv_iload_n F.1 F.2.1 dX0_hasGate_0 rfl (lv_at hl 1 rfl) ?_
  refine lv_if_lt (tgt := 16) F.1 F.2.1 dX0_hasGate_1 (by decide) (fun h1 => ?_) (fun h1 => ?_)
  · skip
    refine lv_iconst (v := nI 0) F.1 F.2.1 dX0_hasGate_16 (by decide) ?_
    exact k_retP F hr hlk hS (fin0 (by first | exact fun q => absurd h1 (Int32.not_lt.mpr q.1) | exact fun q => absurd h9 (Int32.not_le.mpr q.2))) (by first | rfl | (split <;> rfl)) dX0_hasGate_17
  · skip
    refine lv_iload_n F.1 F.2.1 dX0_hasGate_4 rfl (lv_at hl 1 rfl) ?_
    refine lv_aload_n F.1 F.2.1 dX0_hasGate_5 rfl (lv_at hl 0 rfl) ?_
    refine k_get (v := .int (nI (S 0 0))) F nX0_hasGate_X0 hK.1 hP 0 rfl rfl 0 (by decide) (List.mem_of_getElem? (i := 1) rfl) rfl dX0_hasGate_6 ?_
    refine lv_icmp_ge (tgt := 16) F.1 F.2.1 dX0_hasGate_9 (by decide) (fun h9 => ?_) (fun h9 => ?_)
    · skip
      refine lv_iconst (v := nI 0) F.1 F.2.1 dX0_hasGate_16 (by decide) ?_
      exact k_retP F hr hlk hS (fin0 (by first | exact fun q => absurd h1 (Int32.not_lt.mpr q.1) | exact fun q => absurd h9 (Int32.not_le.mpr q.2))) (by first | rfl | (split <;> rfl)) dX0_hasGate_17
    · skip
      refine lv_iconst (v := nI 1) F.1 F.2.1 dX0_hasGate_12 (by decide) ?_
      refine lv_goto (tgt := 17) F.1 F.2.1 dX0_hasGate_13 (by decide) ?_
      exact k_retP F hr hlk hS (fin1 (by exact ⟨Int32.not_lt.mp h1, Int32.not_le.mp h9⟩)) (by first | rfl | (split <;> rfl)) dX0_hasGate_17
theorem nX0_putGate_X0 : ∀ x ∈ wsX00, x ∈ wsX0_putGate := fun _ h => List.mem_cons_of_mem _ (List.mem_append_right _ h)
set_option maxRecDepth 100000 in
set_option maxHeartbeats 4000000 in
theorem c_X0_putGate (l : Launch) (D : va_G) (cI : ClassId) (a : Nat → Nat) (S : Nat → Nat → Nat) (r : Nat) (hk : S 0 0 < 6) : MI l yX0_putGate wsX0_putGate 0 0 D [(cI, .int)] [.ref (a 0), .int (nI r)] (wFa cI a S) (wFa cI a (setf (setf S 1 (S 0 0) r) 0 0 (S 0 0 + 1))) (nI (S 0 0)) := by
  refine k_bodyM (cc := cX0_putGate) (maxL := 3) (ret := (some .int)) (by decide) rfl (Nat.le_of_ble_eq_true rfl) ?_
  intro p e s m args below meth c H ls F hr hlk hl hP hK hD hS
  have F : CallFix p m c cX0_putGate 3 s args wsX0_putGate RX0 := F
  have hl : lv_has ls 3 [(0, .ref (a 0)), (1, .int (nI r))] := hl
  refine lv_aload_n F.1 F.2.1 dX0_putGate_0 rfl (lv_at hl 0 rfl) ?_
  refine k_get (v := .int (nI (S 0 0))) F nX0_putGate_X0 hK.1 hP 0 rfl rfl 0 (by decide) (List.mem_of_getElem? (i := 1) rfl) rfl dX0_putGate_1 ?_
  refine lv_istore_n (lv' := [(2, .int (nI (S 0 0))), (0, .ref (a 0)), (1, .int (nI r))]) F.1 F.2.1 dX0_putGate_4 rfl hl (by decide) rfl (fun ls hl => ?_)
  refine lv_aload_n F.1 F.2.1 dX0_putGate_5 rfl (lv_at hl 1 rfl) ?_
  refine k_get (v := .ref (a 1)) F nX0_putGate_X0 hK.1 hP 0 rfl rfl 1 (by decide) (List.mem_of_getElem? (i := 2) rfl) rfl dX0_putGate_6 ?_
  refine lv_iload_n F.1 F.2.1 dX0_putGate_9 rfl (lv_at hl 0 rfl) ?_
  refine lv_iload_n F.1 F.2.1 dX0_putGate_10 rfl (lv_at hl 2 rfl) ?_
  refine k_iast (f := S 1) (n := 6) (k := (S 0 0)) (x := r) F hK.1 hP hD hS 1 0 rfl rfl (by omega) (by decide) dX0_putGate_11 (wFa cI a (setf S 1 (S 0 0) r)) rfl (fun H locs hP hD hS => ?_)
  refine lv_aload_n F.1 F.2.1 dX0_putGate_12 rfl (lv_at hl 1 rfl) ?_
  refine lv_dup F.1 F.2.1 dX0_putGate_13 rfl ?_
  refine k_get (v := .int (nI (S 0 0))) F nX0_putGate_X0 hK.1 hP 0 rfl rfl 0 (by decide) (List.mem_of_getElem? (i := 1) rfl) rfl dX0_putGate_14 ?_
  refine lv_iconst (v := nI 1) F.1 F.2.1 dX0_putGate_17 (by decide) ?_
  refine k_iadd F dX0_putGate_18 ?_
  refine k_put F nX0_putGate_X0 tyX0 tyX0_ok nmX0 hK.1 hP hD hS 0 rfl rfl 0 (by decide) (List.mem_of_getElem? (i := 1) rfl) rfl (by decide +kernel) (Nat.le_of_ble_eq_true rfl) dX0_putGate_19 (wFa cI a (setf (setf S 1 (S 0 0) r) 0 0 (S 0 0 + 1))) rfl (fun H locs hP hD hS => ?_)
  refine lv_iload_n F.1 F.2.1 dX0_putGate_22 rfl (lv_at hl 0 rfl) ?_
  exact k_retMI F hr hlk hP rfl hS (by first | rfl | (simp [*]; done) | omega) rfl dX0_putGate_23
theorem nX0_rankLack_X0 : ∀ x ∈ wsX00, x ∈ wsX0_rankLack := fun _ h => List.mem_cons_of_mem _ (List.mem_append_right _ h)
set_option maxRecDepth 100000 in
set_option maxHeartbeats 4000000 in
theorem c_X0_rankLack (l : Launch) (D : va_G) (cI : ClassId) (a : Nat → Nat) (S : Nat → Nat → Nat) (g : Nat) (r : Nat) (hI : Inv S) (hg : g < 2 ^ 31) (hr : r < 2 ^ 30) : PI l yX0_rankLack wsX0_rankLack 1 21 D [(cI, .int)] [.ref (a 0), .int (nI g), .int (nI r)] (wFa cI a S) (nI (lackN S g r)) := by
  refine k_bodyP (cc := cX0_rankLack) (maxL := 3) (ret := (some .int)) (by decide) rfl (Nat.le_of_ble_eq_true rfl) ?_
  intro p e s m args below meth c H ls F hr hlk hl hP hK hS
  have F : CallFix p m c cX0_rankLack 3 s args wsX0_rankLack RX0 := F
  have hl : lv_has ls 3 [(0, .ref (a 0)), (1, .int (nI g)), (2, .int (nI r))] := hl
  have hi0 := hI.gates
  have hi1 := hI.geese
  have hi2 := hI.guests
  refine lv_aload_n F.1 F.2.1 dX0_rankLack_0 rfl (lv_at hl 0 rfl) ?_
  refine lv_iload_n F.1 F.2.1 dX0_rankLack_1 rfl (lv_at hl 1 rfl) ?_
  refine k_pV (n := 1) (rest := []) (v := bI (0 ≤ nI g ∧ nI g < nI (S 0 0))) F (c_X0_hasGate l D cI a S (nI g)) gX0_rankLack_X0_hasGate rfl (by decide +kernel) ⟨Nat.le_of_ble_eq_true rfl, Nat.le_of_ble_eq_true rfl⟩ rfl hl.1 rfl (Nat.le_of_ble_eq_true rfl) dX0_rankLack_2 ⟨Nat.zero_le _, Nat.zero_le _⟩ hK hP hS [0, 1, 2, 3, 4, 5, 6, 7, 8, 9, 10, 11, 12] rfl (q0 := 0) (ci := 0) rfl rfl (fun H locs hP hS => ?_)
  refine k_ifeq_b (tgt := 23) F dX0_rankLack_5 (by decide) (fun h5 => ?_) (fun h5 => ?_)
  · skip
    refine lv_iconst (v := nI 0) F.1 F.2.1 dX0_rankLack_23 (by decide) ?_
    exact k_retP F hr hlk hS (by unfold lackN; rw [if_neg (fun q => h5 ⟨nI_pos' (by omega), nI_lt q (by omega)⟩)]) rfl dX0_rankLack_24
  · skip
    have hg9 : g < S 0 0 := (nI_ltI (by omega) (by omega)).mp h5.2
    refine lv_iconst (v := nI 0) F.1 F.2.1 dX0_rankLack_8 (by decide) ?_
    refine lv_aload_n F.1 F.2.1 dX0_rankLack_9 rfl (lv_at hl 0 rfl) ?_
    refine k_get (v := .ref (a 1)) F nX0_rankLack_X0 hK.1 hP 0 rfl rfl 1 (by decide) (List.mem_of_getElem? (i := 1) rfl) rfl dX0_rankLack_10 ?_
    refine lv_iload_n F.1 F.2.1 dX0_rankLack_13 rfl (lv_at hl 1 rfl) ?_
    refine k_iald (f := S 1) (n := 6) F hK.1 hP 1 0 rfl rfl (by omega) (by decide) dX0_rankLack_14 ?_
    have := hI.rank g
    refine lv_iload_n F.1 F.2.1 dX0_rankLack_15 rfl (lv_at hl 2 rfl) ?_
    refine lv_isub F.1 F.2.1 dX0_rankLack_16 ?_
    refine k_max0 F hl.1 (List.mem_of_getElem? (i := 2) rfl) (List.mem_of_getElem? (i := 3) rfl) (List.mem_of_getElem? (i := 4) rfl) (List.mem_of_getElem? (i := 5) rfl) (Nat.le_of_ble_eq_true rfl) (Nat.le_of_ble_eq_true rfl) ⟨Nat.zero_le _, Nat.zero_le _⟩ (by omega) (by omega) (by omega) dX0_rankLack_17 ?_
    refine lv_goto (tgt := 24) F.1 F.2.1 dX0_rankLack_20 (by decide) ?_
    exact k_retP F hr hlk hS (by unfold lackN; rw [if_pos hg9]) rfl dX0_rankLack_24
theorem nX0_gateHiss_X0 : ∀ x ∈ wsX00, x ∈ wsX0_gateHiss := fun _ h => List.mem_cons_of_mem _ (List.mem_append_left _ (List.mem_append_right _ h))
set_option maxRecDepth 100000 in
set_option maxHeartbeats 4000000 in
theorem c_X0_gateHiss (l : Launch) (D : va_G) (cI : ClassId) (a : Nat → Nat) (S : Nat → Nat → Nat) (g : Nat) (r : Nat) (hI : Inv S) (hg : g < 2 ^ 31) (hr : r < 2 ^ 30) : PI l yX0_gateHiss wsX0_gateHiss 2 46 D [(cI, .int)] [.ref (a 0), .int (nI g), .int (nI r)] (wFa cI a S) (nI (hisG S g r)) := by
  refine k_bodyP (cc := cX0_gateHiss) (maxL := 3) (ret := (some .int)) (by decide) rfl (Nat.le_of_ble_eq_true rfl) ?_
  intro p e s m args below meth c H ls F hr hlk hl hP hK hS
  have F : CallFix p m c cX0_gateHiss 3 s args wsX0_gateHiss RX0 := F
  have hl : lv_has ls 3 [(0, .ref (a 0)), (1, .int (nI g)), (2, .int (nI r))] := hl
  refine lv_aload_n F.1 F.2.1 dX0_gateHiss_0 rfl (lv_at hl 0 rfl) ?_
  refine k_get (v := .ref (a 2)) F nX0_gateHiss_X0 hK.1 hP 0 rfl rfl 2 (by decide) (List.mem_of_getElem? (i := 1) rfl) rfl dX0_gateHiss_1 ?_
  refine lv_iload_n F.1 F.2.1 dX0_gateHiss_4 rfl (lv_at hl 1 rfl) ?_
  refine lv_aload_n F.1 F.2.1 dX0_gateHiss_5 rfl (lv_at hl 0 rfl) ?_
  refine lv_iload_n F.1 F.2.1 dX0_gateHiss_6 rfl (lv_at hl 1 rfl) ?_
  refine lv_iload_n F.1 F.2.1 dX0_gateHiss_7 rfl (lv_at hl 2 rfl) ?_
  refine k_pV (n := 2) (rest := [.int (nI g), .ref (a 2)]) (v := nI (lackN S g r)) F (c_X0_rankLack l D cI a S g r hI (by first | assumption | omega) (by first | assumption | omega)) gX0_gateHiss_X0_rankLack rfl (by decide +kernel) ⟨Nat.le_of_ble_eq_true rfl, Nat.le_of_ble_eq_true rfl⟩ rfl hl.1 rfl (Nat.le_of_ble_eq_true rfl) dX0_gateHiss_8 ⟨Nat.zero_le _, Nat.zero_le _⟩ hK hP hS [0, 1, 2, 3, 4, 5, 6, 7, 8, 9, 10, 11, 12] rfl (q0 := 0) (ci := 0) rfl rfl (fun H locs hP hS => ?_)
  refine k_pV (n := 2) (rest := []) (v := nI (hisN S g (lackN S g r) (S 0 1))) F (c_X1_hissThere l D cI a S g (lackN S g r) hI.bd (by first | assumption | omega)) gX0_gateHiss_X1_hissThere rfl (by decide +kernel) ⟨Nat.le_of_ble_eq_true rfl, Nat.le_of_ble_eq_true rfl⟩ rfl hl.1 rfl (Nat.le_of_ble_eq_true rfl) dX0_gateHiss_11 ⟨Nat.zero_le _, Nat.zero_le _⟩ hK hP hS [2, 3, 4, 5, 6] rfl (q0 := 2) (ci := 1) rfl rfl (fun H locs hP hS => ?_)
  exact k_retP F hr hlk hS rfl rfl dX0_gateHiss_14
theorem nX0_guestHiss_X0 : ∀ x ∈ wsX00, x ∈ wsX0_guestHiss := fun _ h => List.mem_cons_of_mem _ (List.mem_append_left _ (List.mem_append_left _ (List.mem_append_right _ h)))
theorem nX0_guestHiss_X2 : ∀ x ∈ wsX20, x ∈ wsX0_guestHiss := fun _ h => List.mem_cons_of_mem _ (List.mem_append_left _ (List.mem_append_right _ h))
set_option maxRecDepth 100000 in
set_option maxHeartbeats 4000000 in
theorem c_X0_guestHiss (l : Launch) (D : va_G) (cI : ClassId) (a : Nat → Nat) (S : Nat → Nat → Nat) (v : Nat) (hI : Inv S) (hv : v < 8) : PI l yX0_guestHiss wsX0_guestHiss 3 68 D [(cI, .int)] [.ref (a 0), .int (nI v)] (wFa cI a S) (nI (hisG S (S 7 v) (S 6 v))) := by
  refine k_bodyP (cc := cX0_guestHiss) (maxL := 2) (ret := (some .int)) (by decide) rfl (Nat.le_of_ble_eq_true rfl) ?_
  intro p e s m args below meth c H ls F hr hlk hl hP hK hS
  have F : CallFix p m c cX0_guestHiss 2 s args wsX0_guestHiss RX0 := F
  have hl : lv_has ls 2 [(0, .ref (a 0)), (1, .int (nI v))] := hl
  have hi0 := hI.gates
  have hi1 := hI.geese
  have hi2 := hI.guests
  refine lv_aload_n F.1 F.2.1 dX0_guestHiss_0 rfl (lv_at hl 0 rfl) ?_
  refine lv_aload_n F.1 F.2.1 dX0_guestHiss_1 rfl (lv_at hl 0 rfl) ?_
  refine k_get (v := .ref (a 7)) F nX0_guestHiss_X0 hK.1 hP 0 rfl rfl 3 (by decide) (List.mem_of_getElem? (i := 1) rfl) rfl dX0_guestHiss_2 ?_
  refine k_get (v := .ref (a 11)) F nX0_guestHiss_X2 hK.1 hP 7 rfl rfl 4 (by decide) (List.mem_of_getElem? (i := 2) rfl) rfl dX0_guestHiss_5 ?_
  refine lv_iload_n F.1 F.2.1 dX0_guestHiss_8 rfl (lv_at hl 1 rfl) ?_
  refine k_iald (f := S 7) (n := 8) F hK.1 hP 11 0 rfl rfl (by omega) (by decide) dX0_guestHiss_9 ?_
  have := hI.went v
  refine lv_aload_n F.1 F.2.1 dX0_guestHiss_10 rfl (lv_at hl 0 rfl) ?_
  refine k_get (v := .ref (a 7)) F nX0_guestHiss_X0 hK.1 hP 0 rfl rfl 3 (by decide) (List.mem_of_getElem? (i := 1) rfl) rfl dX0_guestHiss_11 ?_
  refine k_get (v := .ref (a 8)) F nX0_guestHiss_X2 hK.1 hP 7 rfl rfl 1 (by decide) (List.mem_of_getElem? (i := 3) rfl) rfl dX0_guestHiss_14 ?_
  refine lv_iload_n F.1 F.2.1 dX0_guestHiss_17 rfl (lv_at hl 1 rfl) ?_
  refine k_iald (f := S 6) (n := 8) F hK.1 hP 8 0 rfl rfl (by omega) (by decide) dX0_guestHiss_18 ?_
  have := hI.own v
  refine k_pV (n := 2) (rest := []) (v := nI (hisG S (S 7 v) (S 6 v))) F (c_X0_gateHiss l D cI a S (S 7 v) (S 6 v) hI (by first | assumption | omega) (by first | assumption | omega)) gX0_guestHiss_X0_gateHiss rfl (by decide +kernel) ⟨Nat.le_of_ble_eq_true rfl, Nat.le_of_ble_eq_true rfl⟩ rfl hl.1 rfl (Nat.le_of_ble_eq_true rfl) dX0_guestHiss_19 ⟨Nat.zero_le _, Nat.zero_le _⟩ hK hP hS [0, 1, 2, 3, 4, 5, 6, 7, 8, 9, 10, 11, 12] rfl (q0 := 0) (ci := 0) rfl rfl (fun H locs hP hS => ?_)
  exact k_retP F hr hlk hS rfl rfl dX0_guestHiss_22
theorem nX0_isBehindAll_X0 : ∀ x ∈ wsX00, x ∈ wsX0_isBehindAll := fun _ h => List.mem_cons_of_mem _ (List.mem_append_left _ (List.mem_append_right _ h))
theorem nX0_isBehindAll_X2 : ∀ x ∈ wsX20, x ∈ wsX0_isBehindAll := fun _ h => List.mem_cons_of_mem _ (List.mem_append_right _ h)
set_option maxRecDepth 100000 in
set_option maxHeartbeats 4000000 in
theorem c_X0_isBehindAll (l : Launch) (D : va_G) (cI : ClassId) (a : Nat → Nat) (S : Nat → Nat → Nat) (v : Nat) (hI : Inv S) (hv : v < 8) : PI l yX0_isBehindAll wsX0_isBehindAll 0 0 D [(cI, .int)] [.ref (a 0), .int (nI v)] (wFa cI a S) (bI (S 0 0 ≤ S 7 v)) := by
  refine k_bodyP (cc := cX0_isBehindAll) (maxL := 2) (ret := (some .boolean)) (by decide) rfl (Nat.le_of_ble_eq_true rfl) ?_
  intro p e s m args below meth c H ls F hr hlk hl hP hK hS
  have F : CallFix p m c cX0_isBehindAll 2 s args wsX0_isBehindAll RX0 := F
  have hl : lv_has ls 2 [(0, .ref (a 0)), (1, .int (nI v))] := hl
  have hi0 := hI.gates
  have hi1 := hI.geese
  have hi2 := hI.guests
  refine lv_aload_n F.1 F.2.1 dX0_isBehindAll_0 rfl (lv_at hl 0 rfl) ?_
  refine k_get (v := .ref (a 7)) F nX0_isBehindAll_X0 hK.1 hP 0 rfl rfl 3 (by decide) (List.mem_of_getElem? (i := 1) rfl) rfl dX0_isBehindAll_1 ?_
  refine k_get (v := .ref (a 11)) F nX0_isBehindAll_X2 hK.1 hP 7 rfl rfl 4 (by decide) (List.mem_of_getElem? (i := 2) rfl) rfl dX0_isBehindAll_4 ?_
  refine lv_iload_n F.1 F.2.1 dX0_isBehindAll_7 rfl (lv_at hl 1 rfl) ?_
  refine k_iald (f := S 7) (n := 8) F hK.1 hP 11 0 rfl rfl (by omega) (by decide) dX0_isBehindAll_8 ?_
  have := hI.went v
  refine lv_aload_n F.1 F.2.1 dX0_isBehindAll_9 rfl (lv_at hl 0 rfl) ?_
  refine k_get (v := .int (nI (S 0 0))) F nX0_isBehindAll_X0 hK.1 hP 0 rfl rfl 0 (by decide) (List.mem_of_getElem? (i := 3) rfl) rfl dX0_isBehindAll_10 ?_
  refine k_icmp_lt (tgt := 20) F (by omega) (by omega) dX0_isBehindAll_13 (by decide) (fun h13 => ?_) (fun h13 => ?_)
  · skip
    refine lv_iconst (v := nI 0) F.1 F.2.1 dX0_isBehindAll_20 (by decide) ?_
    exact k_retP F hr hlk hS (fin0 (by omega)) (by first | rfl | (split <;> rfl)) dX0_isBehindAll_21
  · skip
    refine lv_iconst (v := nI 1) F.1 F.2.1 dX0_isBehindAll_16 (by decide) ?_
    refine lv_goto (tgt := 21) F.1 F.2.1 dX0_isBehindAll_17 (by decide) ?_
    exact k_retP F hr hlk hS (fin1 (by omega)) (by first | rfl | (split <;> rfl)) dX0_isBehindAll_21
theorem nX0_countInside_X0 : ∀ x ∈ wsX00, x ∈ wsX0_countInside := fun _ h => List.mem_cons_of_mem _ (List.mem_append_left _ (List.mem_append_right _ h))
theorem nX0_countInside_X2 : ∀ x ∈ wsX20, x ∈ wsX0_countInside := fun _ h => List.mem_cons_of_mem _ (List.mem_append_right _ h)
set_option maxRecDepth 100000 in
set_option maxHeartbeats 4000000 in
theorem c_X0_countInside (l : Launch) (D : va_G) (cI : ClassId) (a : Nat → Nat) (S : Nat → Nat → Nat) (hI : Inv S) : PI l yX0_countInside wsX0_countInside 1 21 D [(cI, .int)] [.ref (a 0)] (wFa cI a S) (nI (inN S (S 0 2))) := by
  refine k_bodyP (cc := cX0_countInside) (maxL := 3) (ret := (some .int)) (by decide) rfl (Nat.le_of_ble_eq_true rfl) ?_
  intro p e s m args below meth c H ls F hr hlk hl hP hK hS
  have F : CallFix p m c cX0_countInside 3 s args wsX0_countInside RX0 := F
  have hl : lv_has ls 3 [(0, .ref (a 0))] := hl
  have hi0 := hI.gates
  have hi1 := hI.geese
  have hi2 := hI.guests
  refine lv_iconst (v := nI 0) F.1 F.2.1 dX0_countInside_0 (by decide) ?_
  refine lv_istore_n (lv' := [(1, .int (nI 0)), (0, .ref (a 0))]) F.1 F.2.1 dX0_countInside_1 rfl hl (by decide) rfl (fun ls hl => ?_)
  refine lv_iconst (v := nI 0) F.1 F.2.1 dX0_countInside_2 (by decide) ?_
  refine lv_istore_n (lv' := [(2, .int (nI 0)), (1, .int (nI 0)), (0, .ref (a 0))]) F.1 F.2.1 dX0_countInside_3 rfl hl (by decide) rfl (fun ls hl => ?_)
  have loop4 : ∀ (n : Nat) (i : Nat), i ≤ S 0 2 → S 0 2 + 1 ≤ i + n → ∀ (H : Heap) (locs : List Loc) (ls : Array Slot), va_P D vwCl (wFa cI a S) H → va_S (fun _ => False) s.heap H locs → lv_has ls 3 [(0, .ref (a 0)), (1, .int (nI (inN S i))), (2, .int (nI i))] → W p l e (rmN 1 21) s m args below meth c H locs (0) (0) (QPI below args s (nI (inN S (S 0 2)))) (F0 m 4 ls []) := by
    intro n
    induction n with
    | zero => intro i hi hn; exact absurd hn (by omega)
    | succ n ih4 =>
      intro i hi hn  H locs ls hP hS hl
      refine lv_iload_n F.1 F.2.1 dX0_countInside_4 rfl (lv_at hl 2 rfl) ?_
      refine lv_aload_n F.1 F.2.1 dX0_countInside_5 rfl (lv_at hl 0 rfl) ?_
      refine k_get (v := .ref (a 7)) F nX0_countInside_X0 hK.1 hP 0 rfl rfl 3 (by decide) (List.mem_of_getElem? (i := 1) rfl) rfl dX0_countInside_6 ?_
      refine k_get (v := .int (nI (S 0 2))) F nX0_countInside_X2 hK.1 hP 7 rfl rfl 0 (by decide) (List.mem_of_getElem? (i := 2) rfl) rfl dX0_countInside_9 ?_
      refine k_icmp_ge (tgt := 32) F (by omega) (by omega) dX0_countInside_12 (by decide) (fun h12 => ?_) (fun h12 => ?_)
      · skip
        refine lv_iload_n F.1 F.2.1 dX0_countInside_32 rfl (lv_at hl 1 rfl) ?_
        exact k_retP F hr hlk hS (by rw [show i = S 0 2 by omega]) rfl dX0_countInside_33
      · skip
        refine lv_aload_n F.1 F.2.1 dX0_countInside_15 rfl (lv_at hl 0 rfl) ?_
        refine lv_iload_n F.1 F.2.1 dX0_countInside_16 rfl (lv_at hl 2 rfl) ?_
        refine k_pV (n := 1) (rest := []) (v := bI (S 0 0 ≤ S 7 i)) F (c_X0_isBehindAll l D cI a S i hI (by first | assumption | omega)) gX0_countInside_X0_isBehindAll rfl (by decide +kernel) ⟨Nat.le_of_ble_eq_true rfl, Nat.le_of_ble_eq_true rfl⟩ rfl hl.1 rfl (Nat.le_of_ble_eq_true rfl) dX0_countInside_17 ⟨Nat.zero_le _, Nat.zero_le _⟩ hK hP hS [0, 1, 2, 3, 4, 5, 6, 7, 8, 9, 10, 11, 12] rfl (q0 := 0) (ci := 0) rfl rfl (fun H locs hP hS => ?_)
        refine k_ifeq_b (tgt := 26) F dX0_countInside_20 (by decide) (fun h20 => ?_) (fun h20 => ?_)
        · skip
          refine k_inc (k := 2) (lv' := [(2, .int (nI (i + 1))), (0, .ref (a 0)), (1, .int (nI (inN S i)))]) F dX0_countInside_26 hl rfl (by decide) rfl (fun ls hl => ?_)
          refine lv_goto (tgt := 4) F.1 F.2.1 dX0_countInside_29 (by decide) ?_
          have e_1 : inN S i = inN S (i + 1) := by first | rfl | (simp [inN, *]; done)
          rw [e_1] at hl
          exact ih4 (i + 1) (by omega) (by omega)  _ _ _ hP hS (lv_sub hl [1, 2, 0] rfl)
        · skip
          refine k_inc (k := 1) (lv' := [(1, .int (nI (inN S i + 1))), (0, .ref (a 0)), (2, .int (nI i))]) F dX0_countInside_23 hl rfl (by decide) rfl (fun ls hl => ?_)
          refine k_inc (k := 2) (lv' := [(2, .int (nI (i + 1))), (1, .int (nI (inN S i + 1))), (0, .ref (a 0))]) F dX0_countInside_26 hl rfl (by decide) rfl (fun ls hl => ?_)
          refine lv_goto (tgt := 4) F.1 F.2.1 dX0_countInside_29 (by decide) ?_
          have e_2 : (inN S i + 1) = inN S (i + 1) := by first | rfl | (simp [inN, *]; done)
          rw [e_2] at hl
          exact ih4 (i + 1) (by omega) (by omega)  _ _ _ hP hS (lv_sub hl [2, 1, 0] rfl)
  have e_3 : 0 = inN S 0 := by first | rfl | (simp [inN, *]; done)
  rw [e_3] at hl
  exact loop4 ((S 0 2) + 1) 0 (by omega) (by omega)  _ _ _ hP hS (lv_sub hl [2, 1, 0] rfl)
theorem nX0_payGoose_X0 : ∀ x ∈ wsX00, x ∈ wsX0_payGoose := fun _ h => List.mem_cons_of_mem _ (List.mem_append_left _ (List.mem_append_left _ (List.mem_append_right _ h)))
theorem nX0_payGoose_X2 : ∀ x ∈ wsX20, x ∈ wsX0_payGoose := fun _ h => List.mem_cons_of_mem _ (List.mem_append_left _ (List.mem_append_right _ h))
set_option maxRecDepth 100000 in
set_option maxHeartbeats 4000000 in
theorem c_X0_payGoose (l : Launch) (D : va_G) (cI : ClassId) (a : Nat → Nat) (S : Nat → Nat → Nat) (v : Nat) (k : Nat) (hI : Inv S) (hv : v < 8) (hk : k < 8) (h1 : 1 ≤ S 8 v) (hm : 1 ≤ S 3 k) : MV l yX0_payGoose wsX0_payGoose 2 36 D [(cI, .int)] [.ref (a 0), .int (nI v), .int (nI k)] (wFa cI a S) (wFa cI a (payS S v k)) := by
  refine k_bodyM (cc := cX0_payGoose) (maxL := 3) (ret := none) (by decide) rfl (Nat.le_of_ble_eq_true rfl) ?_
  intro p e s m args below meth c H ls F hr hlk hl hP hK hD hS
  have F : CallFix p m c cX0_payGoose 3 s args wsX0_payGoose RX0 := F
  have hl : lv_has ls 3 [(0, .ref (a 0)), (1, .int (nI v)), (2, .int (nI k))] := hl
  have hi0 := hI.gates
  have hi1 := hI.geese
  have hi2 := hI.guests
  refine lv_aload_n F.1 F.2.1 dX0_payGoose_0 rfl (lv_at hl 0 rfl) ?_
  refine k_get (v := .ref (a 7)) F nX0_payGoose_X0 hK.1 hP 0 rfl rfl 3 (by decide) (List.mem_of_getElem? (i := 1) rfl) rfl dX0_payGoose_1 ?_
  refine k_get (v := .ref (a 10)) F nX0_payGoose_X2 hK.1 hP 7 rfl rfl 3 (by decide) (List.mem_of_getElem? (i := 2) rfl) rfl dX0_payGoose_4 ?_
  refine lv_iload_n F.1 F.2.1 dX0_payGoose_7 rfl (lv_at hl 1 rfl) ?_
  refine lv_dup2_11 F.1 F.2.1 dX0_payGoose_8 rfl rfl ?_
  refine k_iald (f := S 8) (n := 8) F hK.1 hP 10 0 rfl rfl (by omega) (by decide) dX0_payGoose_9 ?_
  have := hI.has v
  refine lv_iconst (v := nI 1) F.1 F.2.1 dX0_payGoose_10 (by decide) ?_
  refine k_isub F (by omega) dX0_payGoose_11 ?_
  refine k_iast (f := S 8) (n := 8) (k := v) (x := (S 8 v - 1)) F hK.1 hP hD hS 10 0 rfl rfl (by omega) (by decide) dX0_payGoose_12 (wFa cI a (setf S 8 v (S 8 v - 1))) rfl (fun H locs hP hD hS => ?_)
  refine lv_aload_n F.1 F.2.1 dX0_payGoose_13 rfl (lv_at hl 0 rfl) ?_
  refine k_get (v := .ref (a 2)) F nX0_payGoose_X0 hK.1 hP 0 rfl rfl 2 (by decide) (List.mem_of_getElem? (i := 3) rfl) rfl dX0_payGoose_14 ?_
  refine lv_iload_n F.1 F.2.1 dX0_payGoose_17 rfl (lv_at hl 2 rfl) ?_
  refine k_mV (n := 1) (rest := []) F (c_X1_feed l D cI a (setf S 8 v (S 8 v - 1)) k hI.bd (by first | assumption | omega) (by first | assumption | omega)) gX0_payGoose_X1_feed rfl (by decide +kernel) ⟨Nat.le_of_ble_eq_true rfl, Nat.le_of_ble_eq_true rfl⟩ rfl hl.1 rfl (Nat.le_of_ble_eq_true rfl) dX0_payGoose_18 ⟨Nat.zero_le _, Nat.zero_le _⟩ hK hP hD hS [2, 3, 4, 5, 6] rfl rfl rfl (wFa cI a (setf (setf (setf (setf S 8 v (S 8 v - 1)) 5 k (S 5 k + 1)) 4 k 3) 3 k (max 1 (S 3 k - 1)))) rfl rfl (q0 := 2) (ci := 1) rfl rfl (fun H locs hP hD hS => ?_)
  refine lv_aload_n F.1 F.2.1 dX0_payGoose_21 rfl (lv_at hl 0 rfl) ?_
  refine lv_dup F.1 F.2.1 dX0_payGoose_22 rfl ?_
  refine k_get (v := .int (nI (S 0 4))) F nX0_payGoose_X0 hK.1 hP 0 rfl rfl 5 (by decide) (List.mem_of_getElem? (i := 4) rfl) rfl dX0_payGoose_23 ?_
  refine lv_iconst (v := nI 1) F.1 F.2.1 dX0_payGoose_26 (by decide) ?_
  refine k_iadd F dX0_payGoose_27 ?_
  refine k_put F nX0_payGoose_X0 tyX0 tyX0_ok nmX0 hK.1 hP hD hS 0 rfl rfl 5 (by decide) (List.mem_of_getElem? (i := 4) rfl) rfl (by decide +kernel) (Nat.le_of_ble_eq_true rfl) dX0_payGoose_28 (wFa cI a (setf (setf (setf (setf (setf S 8 v (S 8 v - 1)) 5 k (S 5 k + 1)) 4 k 3) 3 k (max 1 (S 3 k - 1))) 0 4 (S 0 4 + 1))) rfl (fun H locs hP hD hS => ?_)
  exact k_retMV F hr hlk hP rfl hS dX0_payGoose_31
theorem nX0_moveGuest_X0 : ∀ x ∈ wsX00, x ∈ wsX0_moveGuest := fun _ h => List.mem_cons_of_mem _ (List.mem_append_left _ (List.mem_append_left _ (List.mem_append_right _ h)))
theorem nX0_moveGuest_X2 : ∀ x ∈ wsX20, x ∈ wsX0_moveGuest := fun _ h => List.mem_cons_of_mem _ (List.mem_append_left _ (List.mem_append_right _ h))
set_option maxRecDepth 100000 in
set_option maxHeartbeats 4000000 in
theorem c_X0_moveGuest (l : Launch) (D : va_G) (cI : ClassId) (a : Nat → Nat) (S : Nat → Nat → Nat) (v : Nat) (hI : Inv S) (hv : v < 8) (hnb : ¬ S 0 0 ≤ S 7 v) : MV l yX0_moveGuest wsX0_moveGuest 3 68 D [(cI, .int)] [.ref (a 0), .int (nI v)] (wFa cI a S) (wFa cI a (moveS S v)) := by
  refine k_bodyM (cc := cX0_moveGuest) (maxL := 5) (ret := none) (by decide) rfl (Nat.le_of_ble_eq_true rfl) ?_
  intro p e s m args below meth c H ls F hr hlk hl hP hK hD hS
  have F : CallFix p m c cX0_moveGuest 5 s args wsX0_moveGuest RX0 := F
  have hl : lv_has ls 5 [(0, .ref (a 0)), (1, .int (nI v))] := hl
  have hi0 := hI.gates
  have hi1 := hI.geese
  have hi2 := hI.guests
  have hh9 := hisG_le hI (S 7 v) (S 6 v)
  have hw9 := hI.went v
  have ho9 := hI.own v
  have hb9 := hI.brave v
  have hc9 := hI.has v
  refine lv_aload_n F.1 F.2.1 dX0_moveGuest_0 rfl (lv_at hl 0 rfl) ?_
  refine k_get (v := .ref (a 7)) F nX0_moveGuest_X0 hK.1 hP 0 rfl rfl 3 (by decide) (List.mem_of_getElem? (i := 1) rfl) rfl dX0_moveGuest_1 ?_
  refine k_get (v := .ref (a 12)) F nX0_moveGuest_X2 hK.1 hP 7 rfl rfl 5 (by decide) (List.mem_of_getElem? (i := 2) rfl) rfl dX0_moveGuest_4 ?_
  refine lv_iload_n F.1 F.2.1 dX0_moveGuest_7 rfl (lv_at hl 1 rfl) ?_
  refine k_iald (f := S 10) (n := 8) F hK.1 hP 12 0 rfl rfl (by omega) (by decide) dX0_moveGuest_8 ?_
  have := hI.back v
  refine k_if_le (tgt := 26) F (by omega) dX0_moveGuest_9 (by decide) (fun h9 => ?_) (fun h9 => ?_)
  · skip
    refine lv_aload_n F.1 F.2.1 dX0_moveGuest_26 rfl (lv_at hl 0 rfl) ?_
    refine k_get (v := .ref (a 7)) F nX0_moveGuest_X0 hK.1 hP 0 rfl rfl 3 (by decide) (List.mem_of_getElem? (i := 1) rfl) rfl dX0_moveGuest_27 ?_
    refine k_get (v := .ref (a 11)) F nX0_moveGuest_X2 hK.1 hP 7 rfl rfl 4 (by decide) (List.mem_of_getElem? (i := 3) rfl) rfl dX0_moveGuest_30 ?_
    refine lv_iload_n F.1 F.2.1 dX0_moveGuest_33 rfl (lv_at hl 1 rfl) ?_
    refine k_iald (f := S 7) (n := 8) F hK.1 hP 11 0 rfl rfl (by omega) (by decide) dX0_moveGuest_34 ?_
    have := hI.went v
    refine lv_istore_n (lv' := [(2, .int (nI (S 7 v))), (0, .ref (a 0)), (1, .int (nI v))]) F.1 F.2.1 dX0_moveGuest_35 rfl hl (by decide) rfl (fun ls hl => ?_)
    refine lv_aload_n F.1 F.2.1 dX0_moveGuest_36 rfl (lv_at hl 1 rfl) ?_
    refine lv_iload_n F.1 F.2.1 dX0_moveGuest_37 rfl (lv_at hl 0 rfl) ?_
    refine lv_aload_n F.1 F.2.1 dX0_moveGuest_38 rfl (lv_at hl 1 rfl) ?_
    refine k_get (v := .ref (a 7)) F nX0_moveGuest_X0 hK.1 hP 0 rfl rfl 3 (by decide) (List.mem_of_getElem? (i := 1) rfl) rfl dX0_moveGuest_39 ?_
    refine k_get (v := .ref (a 8)) F nX0_moveGuest_X2 hK.1 hP 7 rfl rfl 1 (by decide) (List.mem_of_getElem? (i := 4) rfl) rfl dX0_moveGuest_42 ?_
    refine lv_iload_n F.1 F.2.1 dX0_moveGuest_45 rfl (lv_at hl 2 rfl) ?_
    refine k_iald (f := S 6) (n := 8) F hK.1 hP 8 0 rfl rfl (by omega) (by decide) dX0_moveGuest_46 ?_
    have := hI.own v
    refine k_pV (n := 2) (rest := []) (v := nI (hisG S (S 7 v) (S 6 v))) F (c_X0_gateHiss l D cI a S (S 7 v) (S 6 v) hI (by first | assumption | omega) (by first | assumption | omega)) gX0_moveGuest_X0_gateHiss rfl (by decide +kernel) ⟨Nat.le_of_ble_eq_true rfl, Nat.le_of_ble_eq_true rfl⟩ rfl hl.1 rfl (Nat.le_of_ble_eq_true rfl) dX0_moveGuest_47 ⟨Nat.zero_le _, Nat.zero_le _⟩ hK hP hS [0, 1, 2, 3, 4, 5, 6, 7, 8, 9, 10, 11, 12] rfl (q0 := 0) (ci := 0) rfl rfl (fun H locs hP hS => ?_)
    refine lv_istore_n (lv' := [(3, .int (nI (hisG S (S 7 v) (S 6 v)))), (2, .int (nI (S 7 v))), (0, .ref (a 0)), (1, .int (nI v))]) F.1 F.2.1 dX0_moveGuest_50 rfl hl (by decide) rfl (fun ls hl => ?_)
    refine lv_iload_n F.1 F.2.1 dX0_moveGuest_51 rfl (lv_at hl 0 rfl) ?_
    refine lv_aload_n F.1 F.2.1 dX0_moveGuest_52 rfl (lv_at hl 2 rfl) ?_
    refine k_get (v := .ref (a 7)) F nX0_moveGuest_X0 hK.1 hP 0 rfl rfl 3 (by decide) (List.mem_of_getElem? (i := 1) rfl) rfl dX0_moveGuest_53 ?_
    refine k_get (v := .ref (a 9)) F nX0_moveGuest_X2 hK.1 hP 7 rfl rfl 2 (by decide) (List.mem_of_getElem? (i := 5) rfl) rfl dX0_moveGuest_56 ?_
    refine lv_iload_n F.1 F.2.1 dX0_moveGuest_59 rfl (lv_at hl 3 rfl) ?_
    refine k_iald (f := S 9) (n := 8) F hK.1 hP 9 0 rfl rfl (by omega) (by decide) dX0_moveGuest_60 ?_
    have := hI.brave v
    refine k_icmp_gt (tgt := 85) F (by omega) (by omega) dX0_moveGuest_61 (by decide) (fun h61 => ?_) (fun h61 => ?_)
    · skip
      refine lv_aload_n F.1 F.2.1 dX0_moveGuest_85 rfl (lv_at hl 2 rfl) ?_
      refine k_get (v := .ref (a 2)) F nX0_moveGuest_X0 hK.1 hP 0 rfl rfl 2 (by decide) (List.mem_of_getElem? (i := 6) rfl) rfl dX0_moveGuest_86 ?_
      refine lv_iload_n F.1 F.2.1 dX0_moveGuest_89 rfl (lv_at hl 1 rfl) ?_
      refine k_pV (n := 1) (rest := []) (v := oI (frcN S (S 7 v) (S 0 1)).1) F (c_X1_fiercestAwake l D cI a S (S 7 v) hI.bd (by first | assumption | omega)) gX0_moveGuest_X1_fiercestAwake rfl (by decide +kernel) ⟨Nat.le_of_ble_eq_true rfl, Nat.le_of_ble_eq_true rfl⟩ rfl hl.1 rfl (Nat.le_of_ble_eq_true rfl) dX0_moveGuest_90 ⟨Nat.zero_le _, Nat.zero_le _⟩ hK hP hS [2, 3, 4, 5, 6] rfl (q0 := 2) (ci := 1) rfl rfl (fun H locs hP hS => ?_)
      refine lv_istore (lv' := [(4, .int (oI (frcN S (S 7 v) (S 0 1)).1)), (3, .int (nI (hisG S (S 7 v) (S 6 v)))), (2, .int (nI (S 7 v))), (0, .ref (a 0)), (1, .int (nI v))]) F.1 F.2.1 dX0_moveGuest_93 hl (by decide) rfl (fun ls hl => ?_)
      obtain ⟨k, hk1, hk2, hk3, hk4⟩ := frc_get hI (t := S 7 v) (r := S 6 v) (by omega)
      have hk5 := hI.mood1 k hk2
      rw [hk1, oI_succ] at hl
      refine lv_aload_n F.1 F.2.1 dX0_moveGuest_95 rfl (lv_at hl 3 rfl) ?_
      refine k_get (v := .ref (a 7)) F nX0_moveGuest_X0 hK.1 hP 0 rfl rfl 3 (by decide) (List.mem_of_getElem? (i := 1) rfl) rfl dX0_moveGuest_96 ?_
      refine k_get (v := .ref (a 10)) F nX0_moveGuest_X2 hK.1 hP 7 rfl rfl 3 (by decide) (List.mem_of_getElem? (i := 7) rfl) rfl dX0_moveGuest_99 ?_
      refine lv_iload_n F.1 F.2.1 dX0_moveGuest_102 rfl (lv_at hl 4 rfl) ?_
      refine k_iald (f := S 8) (n := 8) F hK.1 hP 10 0 rfl rfl (by omega) (by decide) dX0_moveGuest_103 ?_
      have := hI.has v
      refine k_if_le (tgt := 129) F (by omega) dX0_moveGuest_104 (by decide) (fun h104 => ?_) (fun h104 => ?_)
      · skip
        refine lv_aload_n F.1 F.2.1 dX0_moveGuest_129 rfl (lv_at hl 3 rfl) ?_
        refine k_get (v := .ref (a 7)) F nX0_moveGuest_X0 hK.1 hP 0 rfl rfl 3 (by decide) (List.mem_of_getElem? (i := 1) rfl) rfl dX0_moveGuest_130 ?_
        refine lv_iload_n F.1 F.2.1 dX0_moveGuest_133 rfl (lv_at hl 4 rfl) ?_
        refine lv_iload_n F.1 F.2.1 dX0_moveGuest_134 rfl (lv_at hl 1 rfl) ?_
        refine k_pSN (n := 1) (rest := [.int (nI v), .ref (a 7)]) (v := nI (grdN (hisG S (S 7 v) (S 6 v)))) F (c_X3_gradeOfHiss l D cI (hisG S (S 7 v) (S 6 v)) (by first | assumption | omega)) gX0_moveGuest_X3_gradeOfHiss_n117 hK.2 (List.mem_of_getElem? (i := 68) rfl) (List.mem_of_getElem? (i := 67) rfl) rfl (by decide +kernel) ⟨Nat.le_of_ble_eq_true rfl, Nat.le_of_ble_eq_true rfl⟩ rfl hl.1 rfl (Nat.le_of_ble_eq_true rfl) dX0_moveGuest_135 ⟨Nat.zero_le _, Nat.zero_le _⟩ hK hP hS (fun H locs hP hS => ?_)
        refine k_mV (n := 2) (rest := []) F (c_X2_fallBack l D cI a S v (grdN (hisG S (S 7 v) (S 6 v))) (by first | assumption | omega) (by have := hI.went v; omega) (hI.brave v)) gX0_moveGuest_X2_fallBack rfl (by decide +kernel) ⟨Nat.le_of_ble_eq_true rfl, Nat.le_of_ble_eq_true rfl⟩ rfl hl.1 rfl (Nat.le_of_ble_eq_true rfl) dX0_moveGuest_138 ⟨Nat.zero_le _, Nat.zero_le _⟩ hK hP hD hS [7, 8, 9, 10, 11, 12] rfl rfl rfl (wFa cI a (setf (setf (setf S 10 v (grdN (hisG S (S 7 v) (S 6 v)))) 9 v (min 20 (S 9 v + 1))) 7 v (S 7 v - 1))) rfl rfl (q0 := 7) (ci := 2) rfl rfl (fun H locs hP hD hS => ?_)
        refine lv_aload_n F.1 F.2.1 dX0_moveGuest_141 rfl (lv_at hl 3 rfl) ?_
        refine lv_dup F.1 F.2.1 dX0_moveGuest_142 rfl ?_
        refine k_get (v := .int (nI (S 0 5))) F nX0_moveGuest_X0 hK.1 hP 0 rfl rfl 6 (by decide) (List.mem_of_getElem? (i := 8) rfl) rfl dX0_moveGuest_143 ?_
        refine lv_iconst (v := nI 1) F.1 F.2.1 dX0_moveGuest_146 (by decide) ?_
        refine k_iadd F dX0_moveGuest_147 ?_
        refine k_put F nX0_moveGuest_X0 tyX0 tyX0_ok nmX0 hK.1 hP hD hS 0 rfl rfl 6 (by decide) (List.mem_of_getElem? (i := 8) rfl) rfl (by decide +kernel) (Nat.le_of_ble_eq_true rfl) dX0_moveGuest_148 (wFa cI a (setf (setf (setf (setf S 10 v (grdN (hisG S (S 7 v) (S 6 v)))) 9 v (min 20 (S 9 v + 1))) 7 v (S 7 v - 1)) 0 5 (S 0 5 + 1))) rfl (fun H locs hP hD hS => ?_)
        exact k_retMV F hr hlk hP (congrArg (wFa cI a) (by first | exact moveS_r (by omega) | exact moveS_d (by omega) (by omega) | exact moveS_p (by omega) (by omega) (by omega) hk1 | exact moveS_f (by omega) (by omega) (by omega))) hS dX0_moveGuest_151
      · skip
        refine lv_aload_n F.1 F.2.1 dX0_moveGuest_107 rfl (lv_at hl 3 rfl) ?_
        refine k_get (v := .ref (a 2)) F nX0_moveGuest_X0 hK.1 hP 0 rfl rfl 2 (by decide) (List.mem_of_getElem? (i := 6) rfl) rfl dX0_moveGuest_108 ?_
        refine lv_iload F.1 F.2.1 dX0_moveGuest_111 (lv_at hl 0 rfl) ?_
        refine k_pV (n := 1) (rest := []) (v := bI (0 ≤ nI k ∧ nI k < nI (S 0 1))) F (c_X1_hasGoose l D cI a S (nI k)) gX0_moveGuest_X1_hasGoose rfl (by decide +kernel) ⟨Nat.le_of_ble_eq_true rfl, Nat.le_of_ble_eq_true rfl⟩ rfl hl.1 rfl (Nat.le_of_ble_eq_true rfl) dX0_moveGuest_113 ⟨Nat.zero_le _, Nat.zero_le _⟩ hK hP hS [2, 3, 4, 5, 6] rfl (q0 := 2) (ci := 1) rfl rfl (fun H locs hP hS => ?_)
        refine k_ifeq_b (tgt := 129) F dX0_moveGuest_116 (by decide) (fun h116 => ?_) (fun h116 => ?_)
        · skip
          exact absurd ⟨nI_pos' (by omega), nI_lt hk2 (by omega)⟩ h116
        · skip
          refine lv_aload_n F.1 F.2.1 dX0_moveGuest_119 rfl (lv_at hl 3 rfl) ?_
          refine lv_iload_n F.1 F.2.1 dX0_moveGuest_120 rfl (lv_at hl 4 rfl) ?_
          refine lv_iload F.1 F.2.1 dX0_moveGuest_121 (lv_at hl 0 rfl) ?_
          refine k_mV (n := 2) (rest := []) F (c_X0_payGoose l D cI a S v k hI (by first | assumption | omega) (by first | assumption | omega) (by first | assumption | omega) (by first | assumption | omega)) gX0_moveGuest_X0_payGoose rfl (by decide +kernel) ⟨Nat.le_of_ble_eq_true rfl, Nat.le_of_ble_eq_true rfl⟩ rfl hl.1 rfl (Nat.le_of_ble_eq_true rfl) dX0_moveGuest_123 ⟨Nat.zero_le _, Nat.zero_le _⟩ hK hP hD hS [0, 1, 2, 3, 4, 5, 6, 7, 8, 9, 10, 11, 12] rfl rfl rfl (wFa cI a (payS S v k)) rfl rfl (q0 := 0) (ci := 0) rfl rfl (fun H locs hP hD hS => ?_)
          refine lv_goto (tgt := 151) F.1 F.2.1 dX0_moveGuest_126 (by decide) ?_
          exact k_retMV F hr hlk hP (congrArg (wFa cI a) (by first | exact moveS_r (by omega) | exact moveS_d (by omega) (by omega) | exact moveS_p (by omega) (by omega) (by omega) hk1 | exact moveS_f (by omega) (by omega) (by omega))) hS dX0_moveGuest_151
    · skip
      refine lv_aload_n F.1 F.2.1 dX0_moveGuest_64 rfl (lv_at hl 2 rfl) ?_
      refine k_get (v := .ref (a 7)) F nX0_moveGuest_X0 hK.1 hP 0 rfl rfl 3 (by decide) (List.mem_of_getElem? (i := 1) rfl) rfl dX0_moveGuest_65 ?_
      refine k_get (v := .ref (a 11)) F nX0_moveGuest_X2 hK.1 hP 7 rfl rfl 4 (by decide) (List.mem_of_getElem? (i := 3) rfl) rfl dX0_moveGuest_68 ?_
      refine lv_iload_n F.1 F.2.1 dX0_moveGuest_71 rfl (lv_at hl 3 rfl) ?_
      refine lv_iload_n F.1 F.2.1 dX0_moveGuest_72 rfl (lv_at hl 1 rfl) ?_
      refine lv_iconst (v := nI 1) F.1 F.2.1 dX0_moveGuest_73 (by decide) ?_
      refine k_iadd F dX0_moveGuest_74 ?_
      refine k_iast (f := S 7) (n := 8) (k := v) (x := (S 7 v + 1)) F hK.1 hP hD hS 11 0 rfl rfl (by omega) (by decide) dX0_moveGuest_75 (wFa cI a (setf S 7 v (S 7 v + 1))) rfl (fun H locs hP hD hS => ?_)
      refine lv_aload_n F.1 F.2.1 dX0_moveGuest_76 rfl (lv_at hl 2 rfl) ?_
      refine k_get (v := .ref (a 2)) F nX0_moveGuest_X0 hK.1 hP 0 rfl rfl 2 (by decide) (List.mem_of_getElem? (i := 6) rfl) rfl dX0_moveGuest_77 ?_
      refine lv_iload_n F.1 F.2.1 dX0_moveGuest_80 rfl (lv_at hl 1 rfl) ?_
      refine k_mV (n := 1) (rest := []) F (c_X1_enrage l D cI a (setf S 7 v (S 7 v + 1)) (S 7 v) hI.bd (by first | assumption | omega)) gX0_moveGuest_X1_enrage rfl (by decide +kernel) ⟨Nat.le_of_ble_eq_true rfl, Nat.le_of_ble_eq_true rfl⟩ rfl hl.1 rfl (Nat.le_of_ble_eq_true rfl) dX0_moveGuest_81 ⟨Nat.zero_le _, Nat.zero_le _⟩ hK hP hD hS [2, 3, 4, 5, 6] rfl rfl rfl (wFa cI a (setF (setf S 7 v (S 7 v + 1)) 3 (enrN (setf S 7 v (S 7 v + 1)) (S 7 v) (S 0 1)))) rfl rfl (q0 := 2) (ci := 1) rfl rfl (fun H locs hP hD hS => ?_)
      exact k_retMV F hr hlk hP (congrArg (wFa cI a) (by first | exact moveS_r (by omega) | exact moveS_d (by omega) (by omega) | exact moveS_p (by omega) (by omega) (by omega) hk1 | exact moveS_f (by omega) (by omega) (by omega))) hS dX0_moveGuest_84
  · skip
    refine lv_aload_n F.1 F.2.1 dX0_moveGuest_12 rfl (lv_at hl 0 rfl) ?_
    refine k_get (v := .ref (a 7)) F nX0_moveGuest_X0 hK.1 hP 0 rfl rfl 3 (by decide) (List.mem_of_getElem? (i := 1) rfl) rfl dX0_moveGuest_13 ?_
    refine k_get (v := .ref (a 12)) F nX0_moveGuest_X2 hK.1 hP 7 rfl rfl 5 (by decide) (List.mem_of_getElem? (i := 2) rfl) rfl dX0_moveGuest_16 ?_
    refine lv_iload_n F.1 F.2.1 dX0_moveGuest_19 rfl (lv_at hl 1 rfl) ?_
    refine lv_dup2_11 F.1 F.2.1 dX0_moveGuest_20 rfl rfl ?_
    refine k_iald (f := S 10) (n := 8) F hK.1 hP 12 0 rfl rfl (by omega) (by decide) dX0_moveGuest_21 ?_
    have := hI.back v
    refine lv_iconst (v := nI 1) F.1 F.2.1 dX0_moveGuest_22 (by decide) ?_
    refine k_isub F (by omega) dX0_moveGuest_23 ?_
    refine k_iast (f := S 10) (n := 8) (k := v) (x := (S 10 v - 1)) F hK.1 hP hD hS 12 0 rfl rfl (by omega) (by decide) dX0_moveGuest_24 (wFa cI a (setf S 10 v (S 10 v - 1))) rfl (fun H locs hP hD hS => ?_)
    exact k_retMV F hr hlk hP (congrArg (wFa cI a) (by first | exact moveS_r (by omega) | exact moveS_d (by omega) (by omega) | exact moveS_p (by omega) (by omega) (by omega) hk1 | exact moveS_f (by omega) (by omega) (by omega))) hS dX0_moveGuest_25
theorem nX0_runBeat_X0 : ∀ x ∈ wsX00, x ∈ wsX0_runBeat := fun _ h => List.mem_cons_of_mem _ (List.mem_append_left _ (List.mem_append_left _ (List.mem_append_right _ h)))
theorem nX0_runBeat_X2 : ∀ x ∈ wsX20, x ∈ wsX0_runBeat := fun _ h => List.mem_cons_of_mem _ (List.mem_append_left _ (List.mem_append_right _ h))
set_option maxRecDepth 100000 in
set_option maxHeartbeats 4000000 in
theorem c_X0_runBeat (l : Launch) (D : va_G) (cI : ClassId) (a : Nat → Nat) (S : Nat → Nat → Nat) (hI : Inv S) : MV l yX0_runBeat wsX0_runBeat 4 92 D [(cI, .int)] [.ref (a 0)] (wFa cI a S) (wFa cI a (beatS S)) := by
  refine k_bodyM (cc := cX0_runBeat) (maxL := 2) (ret := none) (by decide) rfl (Nat.le_of_ble_eq_true rfl) ?_
  intro p e s m args below meth c H ls F hr hlk hl hP hK hD hS
  have F : CallFix p m c cX0_runBeat 2 s args wsX0_runBeat RX0 := F
  have hl : lv_has ls 2 [(0, .ref (a 0))] := hl
  have hi0 := hI.gates
  have hi1 := hI.geese
  have hi2 := hI.guests
  refine lv_aload_n F.1 F.2.1 dX0_runBeat_0 rfl (lv_at hl 0 rfl) ?_
  refine k_get (v := .ref (a 2)) F nX0_runBeat_X0 hK.1 hP 0 rfl rfl 2 (by decide) (List.mem_of_getElem? (i := 1) rfl) rfl dX0_runBeat_1 ?_
  refine k_mV (n := 0) (rest := []) F (c_X1_wakeByABeat l D cI a S hI.bd) gX0_runBeat_X1_wakeByABeat rfl (by decide +kernel) ⟨Nat.le_of_ble_eq_true rfl, Nat.le_of_ble_eq_true rfl⟩ rfl hl.1 rfl (Nat.le_of_ble_eq_true rfl) dX0_runBeat_4 ⟨Nat.zero_le _, Nat.zero_le _⟩ hK hP hD hS [2, 3, 4, 5, 6] rfl rfl rfl (wFa cI a (setF S 4 (wakN S (S 0 1)))) rfl rfl (q0 := 2) (ci := 1) rfl rfl (fun H locs hP hD hS => ?_)
  refine lv_iconst (v := nI 0) F.1 F.2.1 dX0_runBeat_7 (by decide) ?_
  refine lv_istore_n (lv' := [(1, .int (nI 0)), (0, .ref (a 0))]) F.1 F.2.1 dX0_runBeat_8 rfl hl (by decide) rfl (fun ls hl => ?_)
  have loop9 : ∀ (n : Nat) (i : Nat), i ≤ S 0 2 → S 0 2 + 1 ≤ i + n → ∀ (H : Heap) (locs : List Loc) (ls : Array Slot), va_P D vwCl (wFa cI a (movN (wakS S) i)) H → va_D (va_B (wFa cI a S)) (wFa cI a (movN (wakS S) i)) → va_S (va_B (wFa cI a S)) s.heap H locs → lv_has ls 2 [(0, .ref (a 0)), (1, .int (nI i))] → W p l e (rmN 4 92) s m args below meth c H locs (0) (0) (QMV below args s D (wFa cI a S) (wFa cI a (beatS S))) (F0 m 9 ls []) := by
    intro n
    induction n with
    | zero => intro i hi hn; exact absurd hn (by omega)
    | succ n ih9 =>
      intro i hi hn  H locs ls hP hD hS hl
      have hJ := inv_movN (inv_wakS hI) i
      have e2 : movN (wakS S) i 0 2 = S 0 2 := movN_sc (wakS S) 2 (by omega) i
      refine lv_iload_n F.1 F.2.1 dX0_runBeat_9 rfl (lv_at hl 1 rfl) ?_
      refine lv_aload_n F.1 F.2.1 dX0_runBeat_10 rfl (lv_at hl 0 rfl) ?_
      refine k_get (v := .ref (a 7)) F nX0_runBeat_X0 hK.1 hP 0 rfl rfl 3 (by decide) (List.mem_of_getElem? (i := 2) rfl) rfl dX0_runBeat_11 ?_
      refine k_get (v := .int (nI ((movN (wakS S) i) 0 2))) F nX0_runBeat_X2 hK.1 hP 7 rfl rfl 0 (by decide) (List.mem_of_getElem? (i := 3) rfl) rfl dX0_runBeat_14 ?_
      refine k_icmp_ge (tgt := 39) F (by omega) (by omega) dX0_runBeat_17 (by decide) (fun h17 => ?_) (fun h17 => ?_)
      · skip
        refine lv_aload_n F.1 F.2.1 dX0_runBeat_39 rfl (lv_at hl 0 rfl) ?_
        refine lv_dup F.1 F.2.1 dX0_runBeat_40 rfl ?_
        refine k_get (v := .int (nI ((movN (wakS S) i) 0 3))) F nX0_runBeat_X0 hK.1 hP 0 rfl rfl 4 (by decide) (List.mem_of_getElem? (i := 4) rfl) rfl dX0_runBeat_41 ?_
        refine lv_iconst (v := nI 1) F.1 F.2.1 dX0_runBeat_44 (by decide) ?_
        refine k_iadd F dX0_runBeat_45 ?_
        refine k_put F nX0_runBeat_X0 tyX0 tyX0_ok nmX0 hK.1 hP hD hS 0 rfl rfl 4 (by decide) (List.mem_of_getElem? (i := 4) rfl) rfl (by decide +kernel) (Nat.le_of_ble_eq_true rfl) dX0_runBeat_46 (wFa cI a (setf (movN (wakS S) i) 0 3 ((movN (wakS S) i) 0 3 + 1))) rfl (fun H locs hP hD hS => ?_)
        exact k_retMV F hr hlk hP (by rw [show i = S 0 2 by omega]; rfl) hS dX0_runBeat_49
      · skip
        refine lv_aload_n F.1 F.2.1 dX0_runBeat_20 rfl (lv_at hl 0 rfl) ?_
        refine lv_iload_n F.1 F.2.1 dX0_runBeat_21 rfl (lv_at hl 1 rfl) ?_
        refine k_pV (n := 1) (rest := []) (v := bI ((movN (wakS S) i) 0 0 ≤ (movN (wakS S) i) 7 i)) F (c_X0_isBehindAll l D cI a (movN (wakS S) i) i hJ (by first | assumption | omega)) gX0_runBeat_X0_isBehindAll rfl (by decide +kernel) ⟨Nat.le_of_ble_eq_true rfl, Nat.le_of_ble_eq_true rfl⟩ rfl hl.1 rfl (Nat.le_of_ble_eq_true rfl) dX0_runBeat_22 ⟨Nat.zero_le _, Nat.zero_le _⟩ hK hP hS [0, 1, 2, 3, 4, 5, 6, 7, 8, 9, 10, 11, 12] rfl (q0 := 0) (ci := 0) rfl rfl (fun H locs hP hS => ?_)
        refine k_ifne_b (tgt := 33) F dX0_runBeat_25 (by decide) (fun h25 => ?_) (fun h25 => ?_)
        · skip
          refine k_inc (k := 1) (lv' := [(1, .int (nI (i + 1))), (0, .ref (a 0))]) F dX0_runBeat_33 hl rfl (by decide) rfl (fun ls hl => ?_)
          refine lv_goto (tgt := 9) F.1 F.2.1 dX0_runBeat_36 (by decide) ?_
          have ew : (wFa cI a (movN (wakS S) i)) = (wFa cI a (movN (wakS S) (i + 1))) := by first | rfl | exact congrArg (wFa cI a) (movN_y h25) | exact congrArg (wFa cI a) (movN_n h25)
          rw [ew] at hP hD
          exact ih9 (i + 1) (by omega) (by omega)  _ _ _ hP hD hS (lv_sub hl [1, 0] rfl)
        · skip
          refine lv_aload_n F.1 F.2.1 dX0_runBeat_28 rfl (lv_at hl 0 rfl) ?_
          refine lv_iload_n F.1 F.2.1 dX0_runBeat_29 rfl (lv_at hl 1 rfl) ?_
          refine k_mV (n := 1) (rest := []) F (c_X0_moveGuest l D cI a (movN (wakS S) i) i hJ (by first | assumption | omega) (by first | assumption | omega)) gX0_runBeat_X0_moveGuest rfl (by decide +kernel) ⟨Nat.le_of_ble_eq_true rfl, Nat.le_of_ble_eq_true rfl⟩ rfl hl.1 rfl (Nat.le_of_ble_eq_true rfl) dX0_runBeat_30 ⟨Nat.zero_le _, Nat.zero_le _⟩ hK hP hD hS [0, 1, 2, 3, 4, 5, 6, 7, 8, 9, 10, 11, 12] rfl rfl rfl (wFa cI a (moveS (movN (wakS S) i) i)) rfl rfl (q0 := 0) (ci := 0) rfl rfl (fun H locs hP hD hS => ?_)
          refine k_inc (k := 1) (lv' := [(1, .int (nI (i + 1))), (0, .ref (a 0))]) F dX0_runBeat_33 hl rfl (by decide) rfl (fun ls hl => ?_)
          refine lv_goto (tgt := 9) F.1 F.2.1 dX0_runBeat_36 (by decide) ?_
          have ew : (wFa cI a (moveS (movN (wakS S) i) i)) = (wFa cI a (movN (wakS S) (i + 1))) := by first | rfl | exact congrArg (wFa cI a) (movN_y h25) | exact congrArg (wFa cI a) (movN_n h25)
          rw [ew] at hP hD
          exact ih9 (i + 1) (by omega) (by omega)  _ _ _ hP hD hS (lv_sub hl [1, 0] rfl)
  have ew : (wFa cI a (setF S 4 (wakN S (S 0 1)))) = (wFa cI a (movN (wakS S) 0)) := by first | rfl | exact congrArg (wFa cI a) (movN_y h25) | exact congrArg (wFa cI a) (movN_n h25)
  rw [ew] at hP hD
  exact loop9 ((S 0 2) + 1) 0 (by omega) (by omega)  _ _ _ hP hD hS (lv_sub hl [1, 0] rfl)
set_option maxRecDepth 100000 in
set_option maxHeartbeats 4000000 in
theorem c_X0_runBeats (l : Launch) (D : va_G) (cI : ClassId) (a : Nat → Nat) (S : Nat → Nat → Nat) (b : Nat) (hI : Inv S) (hq1 : b < 2 ^ 31) : MV l yX0_runBeats wsX0_runBeats 5 113 D [(cI, .int)] [.ref (a 0), .int (nI b)] (wFa cI a S) (wFa cI a (beatsN S b)) := by
  refine k_bodyM (cc := cX0_runBeats) (maxL := 3) (ret := none) (by decide) rfl (Nat.le_of_ble_eq_true rfl) ?_
  intro p e s m args below meth c H ls F hr hlk hl hP hK hD hS
  have F : CallFix p m c cX0_runBeats 3 s args wsX0_runBeats RX0 := F
  have hl : lv_has ls 3 [(0, .ref (a 0)), (1, .int (nI b))] := hl
  refine lv_iconst (v := nI 0) F.1 F.2.1 dX0_runBeats_0 (by decide) ?_
  refine lv_istore_n (lv' := [(2, .int (nI 0)), (0, .ref (a 0)), (1, .int (nI b))]) F.1 F.2.1 dX0_runBeats_1 rfl hl (by decide) rfl (fun ls hl => ?_)
  have loop2 : ∀ (n : Nat) (i : Nat), i ≤ b → b + 1 ≤ i + n → ∀ (H : Heap) (locs : List Loc) (ls : Array Slot), va_P D vwCl (wFa cI a (beatsN S i)) H → va_D (va_B (wFa cI a S)) (wFa cI a (beatsN S i)) → va_S (va_B (wFa cI a S)) s.heap H locs → lv_has ls 3 [(0, .ref (a 0)), (1, .int (nI b)), (2, .int (nI i))] → W p l e (rmN 5 113) s m args below meth c H locs (0) (0) (QMV below args s D (wFa cI a S) (wFa cI a (beatsN S b))) (F0 m 2 ls []) := by
    intro n
    induction n with
    | zero => intro i hi hn; exact absurd hn (by omega)
    | succ n ih2 =>
      intro i hi hn  H locs ls hP hD hS hl
      refine lv_iload_n F.1 F.2.1 dX0_runBeats_2 rfl (lv_at hl 2 rfl) ?_
      refine lv_iload_n F.1 F.2.1 dX0_runBeats_3 rfl (lv_at hl 1 rfl) ?_
      refine k_icmp_ge (tgt := 17) F (by omega) (by omega) dX0_runBeats_4 (by decide) (fun h4 => ?_) (fun h4 => ?_)
      · skip
        exact k_retMV F hr hlk hP (by rw [show i = b by omega]) hS dX0_runBeats_17
      · skip
        refine lv_aload_n F.1 F.2.1 dX0_runBeats_7 rfl (lv_at hl 0 rfl) ?_
        refine k_mV (n := 0) (rest := []) F (c_X0_runBeat l D cI a (beatsN S i) (inv_beatsN hI i)) gX0_runBeats_X0_runBeat rfl (by decide +kernel) ⟨Nat.le_of_ble_eq_true rfl, Nat.le_of_ble_eq_true rfl⟩ rfl hl.1 rfl (Nat.le_of_ble_eq_true rfl) dX0_runBeats_8 ⟨Nat.zero_le _, Nat.zero_le _⟩ hK hP hD hS [0, 1, 2, 3, 4, 5, 6, 7, 8, 9, 10, 11, 12] rfl rfl rfl (wFa cI a (beatS (beatsN S i))) rfl rfl (q0 := 0) (ci := 0) rfl rfl (fun H locs hP hD hS => ?_)
        refine k_inc (k := 2) (lv' := [(2, .int (nI (i + 1))), (0, .ref (a 0)), (1, .int (nI b))]) F dX0_runBeats_11 hl rfl (by decide) rfl (fun ls hl => ?_)
        refine lv_goto (tgt := 2) F.1 F.2.1 dX0_runBeats_14 (by decide) ?_
        have ew : (wFa cI a (beatS (beatsN S i))) = (wFa cI a (beatsN S (i + 1))) := rfl
        rw [ew] at hP hD
        exact ih2 (i + 1) (by omega) (by omega)  _ _ _ hP hD hS (lv_sub hl [1, 2, 0] rfl)
  have ew : (wFa cI a S) = (wFa cI a (beatsN S 0)) := rfl
  rw [ew] at hP hD
  exact loop2 (b + 1) 0 (by omega) (by omega)  _ _ _ hP hD hS (lv_sub hl [1, 2, 0] rfl)
