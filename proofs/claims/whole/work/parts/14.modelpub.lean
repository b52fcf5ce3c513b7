theorem setf_k (S : Nat → Nat → Nat) (f k v : Nat) : setf S f k v f k = v := by rw [setf_at, if_pos ⟨rfl, rfl⟩]
theorem pay_k (S : Nat → Nat → Nat) (v k : Nat) : payS S v k 3 k = max 1 (S 3 k - 1) := by
  show (if k = k then max 1 (S 3 k - 1) else S 3 k) = _
  rw [if_pos rfl]
theorem cw_le (S : Nat → Nat → Nat) (v n : Nat) : cwN S v n ≤ n := fst_le n
theorem cw_hit {S : Nat → Nat → Nat} {v i : Nat} (h : cwN S v i = 0) (hP : ¬ arrI (setf S 8 v i) v 40 = -1) : cwN S v (i + 1) = i + 1 := fst_hit1 h hP
theorem cw_no {S : Nat → Nat → Nat} {v i : Nat} (h : cwN S v i = 0) (hP : arrI (setf S 8 v i) v 40 = -1) : cwN S v (i + 1) = 0 := fst_no h (fun q => q hP)
theorem cw_stay {S : Nat → Nat → Nat} {v i m : Nat} (h : cwN S v i ≠ 0) (hm : i ≤ m) : cwN S v m = cwN S v i := by
  obtain ⟨k, rfl⟩ : ∃ k, m = i + k := ⟨m - i, by omega⟩
  exact fst_stay h k
theorem rk_hit {S : Nat → Nat → Nat} {v i m : Nat} (h : rkN S v i = 0) (hP : hisG S (S 7 v) i ≤ S 9 v) (hm : i < m) : rkN S v m = i + 1 := fst_hit h hP hm
theorem fb_hit {S : Nat → Nat → Nat} {r w i m : Nat} (h : fbN S r w i = 0) (hP : w < hisG S i r) (hm : i < m) : fbN S r w m = i + 1 := fst_hit h hP hm
theorem nX4_addGate_X4 : ∀ x ∈ wsX40, x ∈ wsX4_addGate := fun _ h => List.mem_cons_of_mem _ (List.mem_append_right _ h)
set_option maxRecDepth 100000 in
set_option maxHeartbeats 4000000 in
theorem c_X4_addGate (l : Launch) (D : va_G) (cI : ClassId) (u : Nat → Nat) (S : Nat → Nat → Nat) (th : Int32) (K : Nat → Nat) (x1 : Int32) (hI : Inv S) : MI l yX4_addGate wsX4_addGate 1 22 D [(cI, .int)] [.ref (u 0), .int x1] (wMo cI u S th K) (wMo cI u ((rAddGate S x1).2.2) (nI (rAddGate S x1).1) K) ((rAddGate S x1).2.1) := by
  refine k_bodyM (cc := cX4_addGate) (maxL := 2) (ret := (some .int)) (by decide) rfl (Nat.le_of_ble_eq_true rfl) ?_
  intro p e s m args below meth c H ls F hr hlk hl hP hK hD hS
  have F : CallFix p m c cX4_addGate 2 s args wsX4_addGate RX4 := F
  have hl : lv_has ls 2 [(0, .ref (u 0)), (1, .int x1)] := hl
  have hi0 := hI.gates
  have hi1 := hI.geese
  have hi2 := hI.guests
  refine lv_aload_n F.1 F.2.1 dX4_addGate_0 rfl (lv_at hl 0 rfl) ?_
  refine lv_iconst (v := nI 0) F.1 F.2.1 dX4_addGate_1 (by decide) ?_
  refine k_put F nX4_addGate_X4 tyX4 tyX4_ok nmX4 hK.1 hP hD hS 0 rfl rfl 0 (by decide) (List.mem_of_getElem? (i := 1) rfl) rfl (by decide +kernel) (Nat.le_of_ble_eq_true rfl) dX4_addGate_2 (wMo cI u S (nI 0) K) wMo_f0 (fun H locs hP hD hS => ?_)
  refine lv_iload_n F.1 F.2.1 dX4_addGate_5 rfl (lv_at hl 1 rfl) ?_
  refine lv_iconst (v := nI 0) F.1 F.2.1 dX4_addGate_6 (by decide) ?_
  refine lv_bipush (v := nI 9) F.1 F.2.1 dX4_addGate_7 (by decide) ?_
  refine k_pS (n := 3) (rest := []) (v := bI ((nI 0) ≤ x1 ∧ x1 ≤ (nI 9))) F (c_X4_isIn l D cI x1 (nI 0) (nI 9)) gX4_addGate_X4_isIn rfl (by decide +kernel) ⟨Nat.le_of_ble_eq_true rfl, Nat.le_of_ble_eq_true rfl⟩ rfl hl.1 rfl (Nat.le_of_ble_eq_true rfl) dX4_addGate_9 ⟨Nat.zero_le _, Nat.zero_le _⟩ hK hP hS (fun H locs hP hS => ?_)
  refine k_ifne_b (tgt := 21) F dX4_addGate_12 (by decide) (fun h12 => ?_) (fun h12 => ?_)
  · skip
    refine lv_aload_n F.1 F.2.1 dX4_addGate_21 rfl (lv_at hl 0 rfl) ?_
    refine k_get (v := .int (nI (S 0 0))) F nX4_addGate_X4 hK.1 hP 0 rfl rfl 1 (by decide) (List.mem_of_getElem? (i := 2) rfl) rfl dX4_addGate_22 ?_
    refine lv_bipush (v := nI 6) F.1 F.2.1 dX4_addGate_25 (by decide) ?_
    refine k_icmp_eq (tgt := 37) F (by omega) (by omega) dX4_addGate_27 (by decide) (fun h27 => ?_) (fun h27 => ?_)
    · skip
      refine lv_aload_n F.1 F.2.1 dX4_addGate_37 rfl (lv_at hl 0 rfl) ?_
      refine lv_iconst (v := nI 2) F.1 F.2.1 dX4_addGate_38 (by decide) ?_
      refine k_mI (n := 1) (rest := []) (v := nI 0) F (c_X4_fail l D cI u S (nI 0) K (nI 2)) gX4_addGate_X4_fail rfl (by decide +kernel) ⟨Nat.le_of_ble_eq_true rfl, Nat.le_of_ble_eq_true rfl⟩ rfl hl.1 rfl (Nat.le_of_ble_eq_true rfl) dX4_addGate_39 ⟨Nat.zero_le _, Nat.zero_le _⟩ hK hP hD hS [0, 1, 2, 3, 4, 5] rfl rfl rfl (wMo cI u S (nI 2) K) wMo_ms wMo_ad (q0 := 0) (ci := 4) rfl rfl (fun H locs hP hD hS => ?_)
      have e9 : rAddGate S x1 = (2, nI 0, S) := by unfold rAddGate; rw [if_pos h12, if_neg (show ¬ (S 0 0 ≠ 6 ∧ S 0 2 = 0) by omega)] <;> rfl
      exact k_retMI F hr hlk hP (by rw [e9] <;> rfl) hS (by rw [e9] <;> rfl) rfl dX4_addGate_42
    · skip
      refine lv_aload_n F.1 F.2.1 dX4_addGate_30 rfl (lv_at hl 0 rfl) ?_
      refine k_get (v := .int (nI (S 0 2))) F nX4_addGate_X4 hK.1 hP 0 rfl rfl 3 (by decide) (List.mem_of_getElem? (i := 3) rfl) rfl dX4_addGate_31 ?_
      refine k_if_le (tgt := 43) F (by omega) dX4_addGate_34 (by decide) (fun h34 => ?_) (fun h34 => ?_)
      · skip
        obtain ⟨g1, hg1, rfl⟩ := in_nI (by decide) h12 (by decide)
        refine lv_aload_n F.1 F.2.1 dX4_addGate_43 rfl (lv_at hl 0 rfl) ?_
        refine k_get (v := .ref (u 1)) F nX4_addGate_X4 hK.1 hP 0 rfl rfl 4 (by decide) (List.mem_of_getElem? (i := 4) rfl) rfl dX4_addGate_44 ?_
        refine lv_aload_n F.1 F.2.1 dX4_addGate_47 rfl (lv_at hl 0 rfl) ?_
        refine k_get (v := .int (nI (S 0 0))) F nX4_addGate_X4 hK.1 hP 0 rfl rfl 1 (by decide) (List.mem_of_getElem? (i := 2) rfl) rfl dX4_addGate_48 ?_
        refine lv_iload_n F.1 F.2.1 dX4_addGate_51 rfl (lv_at hl 1 rfl) ?_
        refine k_iast (f := S 1) (n := 6) (k := (S 0 0)) (x := g1) F hK.1 hP hD hS 1 0 rfl rfl (by omega) (by decide) dX4_addGate_52 (wMo cI u (setf S 1 (S 0 0) g1) (nI 0) K) wMo_a1 (fun H locs hP hD hS => ?_)
        refine lv_aload_n F.1 F.2.1 dX4_addGate_53 rfl (lv_at hl 0 rfl) ?_
        refine lv_dup F.1 F.2.1 dX4_addGate_54 rfl ?_
        refine k_get (v := .int (nI (S 0 0))) F nX4_addGate_X4 hK.1 hP 0 rfl rfl 1 (by decide) (List.mem_of_getElem? (i := 2) rfl) rfl dX4_addGate_55 ?_
        refine lv_iconst (v := nI 1) F.1 F.2.1 dX4_addGate_58 (by decide) ?_
        refine k_iadd F dX4_addGate_59 ?_
        refine k_put F nX4_addGate_X4 tyX4 tyX4_ok nmX4 hK.1 hP hD hS 0 rfl rfl 1 (by decide) (List.mem_of_getElem? (i := 2) rfl) rfl (by decide +kernel) (Nat.le_of_ble_eq_true rfl) dX4_addGate_60 (wMo cI u (setf (setf S 1 (S 0 0) g1) 0 0 (S 0 0 + 1)) (nI 0) K) wMo_f1 (fun H locs hP hD hS => ?_)
        refine lv_aload_n F.1 F.2.1 dX4_addGate_63 rfl (lv_at hl 0 rfl) ?_
        refine k_get (v := .int (nI (S 0 0 + 1))) F nX4_addGate_X4 hK.1 hP 0 rfl rfl 1 (by decide) (List.mem_of_getElem? (i := 2) rfl) rfl dX4_addGate_64 ?_
        refine lv_iconst (v := nI 1) F.1 F.2.1 dX4_addGate_67 (by decide) ?_
        refine k_isub F (by omega) dX4_addGate_68 ?_
        have e9 : rAddGate S (nI g1) = (0, nI ((S 0 0 + 1) - 1), (setf (setf S 1 (S 0 0) g1) 0 0 (S 0 0 + 1))) := by unfold rAddGate; (try rw [cl_nI (show g1 < 2 ^ 31 by omega)]); rw [if_pos h12, if_pos (show S 0 0 ≠ 6 ∧ S 0 2 = 0 by omega)] <;> rfl
        exact k_retMI F hr hlk hP (by rw [e9] <;> rfl) hS (by rw [e9] <;> rfl) rfl dX4_addGate_69
      · skip
        refine lv_aload_n F.1 F.2.1 dX4_addGate_37 rfl (lv_at hl 0 rfl) ?_
        refine lv_iconst (v := nI 2) F.1 F.2.1 dX4_addGate_38 (by decide) ?_
        refine k_mI (n := 1) (rest := []) (v := nI 0) F (c_X4_fail l D cI u S (nI 0) K (nI 2)) gX4_addGate_X4_fail rfl (by decide +kernel) ⟨Nat.le_of_ble_eq_true rfl, Nat.le_of_ble_eq_true rfl⟩ rfl hl.1 rfl (Nat.le_of_ble_eq_true rfl) dX4_addGate_39 ⟨Nat.zero_le _, Nat.zero_le _⟩ hK hP hD hS [0, 1, 2, 3, 4, 5] rfl rfl rfl (wMo cI u S (nI 2) K) wMo_ms wMo_ad (q0 := 0) (ci := 4) rfl rfl (fun H locs hP hD hS => ?_)
        have e9 : rAddGate S x1 = (2, nI 0, S) := by unfold rAddGate; rw [if_pos h12, if_neg (show ¬ (S 0 0 ≠ 6 ∧ S 0 2 = 0) by omega)] <;> rfl
        exact k_retMI F hr hlk hP (by rw [e9] <;> rfl) hS (by rw [e9] <;> rfl) rfl dX4_addGate_42
  · skip
    refine lv_aload_n F.1 F.2.1 dX4_addGate_15 rfl (lv_at hl 0 rfl) ?_
    refine lv_iconst (v := nI 1) F.1 F.2.1 dX4_addGate_16 (by decide) ?_
    refine k_mI (n := 1) (rest := []) (v := nI 0) F (c_X4_fail l D cI u S (nI 0) K (nI 1)) gX4_addGate_X4_fail rfl (by decide +kernel) ⟨Nat.le_of_ble_eq_true rfl, Nat.le_of_ble_eq_true rfl⟩ rfl hl.1 rfl (Nat.le_of_ble_eq_true rfl) dX4_addGate_17 ⟨Nat.zero_le _, Nat.zero_le _⟩ hK hP hD hS [0, 1, 2, 3, 4, 5] rfl rfl rfl (wMo cI u S (nI 1) K) wMo_ms wMo_ad (q0 := 0) (ci := 4) rfl rfl (fun H locs hP hD hS => ?_)
    have e9 : rAddGate S x1 = (1, nI 0, S) := by unfold rAddGate; rw [if_neg h12] <;> rfl
    exact k_retMI F hr hlk hP (by rw [e9] <;> rfl) hS (by rw [e9] <;> rfl) rfl dX4_addGate_20
theorem nX4_addGoose_X4 : ∀ x ∈ wsX40, x ∈ wsX4_addGoose := fun _ h => List.mem_cons_of_mem _ (List.mem_append_right _ h)
set_option maxRecDepth 100000 in
set_option maxHeartbeats 4000000 in
theorem c_X4_addGoose (l : Launch) (D : va_G) (cI : ClassId) (u : Nat → Nat) (S : Nat → Nat → Nat) (th : Int32) (K : Nat → Nat) (x1 : Int32) (x2 : Int32) (hI : Inv S) : MI l yX4_addGoose wsX4_addGoose 2 43 D [(cI, .int)] [.ref (u 0), .int x1, .int x2] (wMo cI u S th K) (wMo cI u ((rAddGoose S x1 x2).2.2) (nI (rAddGoose S x1 x2).1) K) ((rAddGoose S x1 x2).2.1) := by
  refine k_bodyM (cc := cX4_addGoose) (maxL := 3) (ret := (some .int)) (by decide) rfl (Nat.le_of_ble_eq_true rfl) ?_
  intro p e s m args below meth c H ls F hr hlk hl hP hK hD hS
  have F : CallFix p m c cX4_addGoose 3 s args wsX4_addGoose RX4 := F
  have hl : lv_has ls 3 [(0, .ref (u 0)), (1, .int x1), (2, .int x2)] := hl
  have hi0 := hI.gates
  have hi1 := hI.geese
  have hi2 := hI.guests
  refine lv_aload_n F.1 F.2.1 dX4_addGoose_0 rfl (lv_at hl 0 rfl) ?_
  refine lv_iconst (v := nI 0) F.1 F.2.1 dX4_addGoose_1 (by decide) ?_
  refine k_put F nX4_addGoose_X4 tyX4 tyX4_ok nmX4 hK.1 hP hD hS 0 rfl rfl 0 (by decide) (List.mem_of_getElem? (i := 1) rfl) rfl (by decide +kernel) (Nat.le_of_ble_eq_true rfl) dX4_addGoose_2 (wMo cI u S (nI 0) K) wMo_f0 (fun H locs hP hD hS => ?_)
  refine lv_aload_n F.1 F.2.1 dX4_addGoose_5 rfl (lv_at hl 0 rfl) ?_
  refine lv_iload_n F.1 F.2.1 dX4_addGoose_6 rfl (lv_at hl 1 rfl) ?_
  refine k_pV (n := 1) (rest := []) (v := bI (0 ≤ x1 ∧ x1 < nI (S 0 0))) F (c_X4_isGate l D cI u S (nI 0) K x1 (by first | assumption | omega)) gX4_addGoose_X4_isGate rfl (by decide +kernel) ⟨Nat.le_of_ble_eq_true rfl, Nat.le_of_ble_eq_true rfl⟩ rfl hl.1 rfl (Nat.le_of_ble_eq_true rfl) dX4_addGoose_7 ⟨Nat.zero_le _, Nat.zero_le _⟩ hK hP hS [0, 1, 2, 3, 4, 5] rfl (q0 := 0) (ci := 4) rfl rfl (fun H locs hP hS => ?_)
  refine k_ifne_b (tgt := 19) F dX4_addGoose_10 (by decide) (fun h10 => ?_) (fun h10 => ?_)
  · skip
    refine lv_iload_n F.1 F.2.1 dX4_addGoose_19 rfl (lv_at hl 2 rfl) ?_
    refine lv_iconst (v := nI 1) F.1 F.2.1 dX4_addGoose_20 (by decide) ?_
    refine lv_bipush (v := nI 9) F.1 F.2.1 dX4_addGoose_21 (by decide) ?_
    refine k_pS (n := 3) (rest := []) (v := bI ((nI 1) ≤ x2 ∧ x2 ≤ (nI 9))) F (c_X4_isIn l D cI x2 (nI 1) (nI 9)) gX4_addGoose_X4_isIn rfl (by decide +kernel) ⟨Nat.le_of_ble_eq_true rfl, Nat.le_of_ble_eq_true rfl⟩ rfl hl.1 rfl (Nat.le_of_ble_eq_true rfl) dX4_addGoose_23 ⟨Nat.zero_le _, Nat.zero_le _⟩ hK hP hS (fun H locs hP hS => ?_)
    refine k_ifne_b (tgt := 35) F dX4_addGoose_26 (by decide) (fun h26 => ?_) (fun h26 => ?_)
    · skip
      refine lv_aload_n F.1 F.2.1 dX4_addGoose_35 rfl (lv_at hl 0 rfl) ?_
      refine k_get (v := .int (nI (S 0 1))) F nX4_addGoose_X4 hK.1 hP 0 rfl rfl 2 (by decide) (List.mem_of_getElem? (i := 2) rfl) rfl dX4_addGoose_36 ?_
      refine lv_bipush (v := nI 8) F.1 F.2.1 dX4_addGoose_39 (by decide) ?_
      refine k_icmp_ne (tgt := 50) F (by omega) (by omega) dX4_addGoose_41 (by decide) (fun h41 => ?_) (fun h41 => ?_)
      · skip
        obtain ⟨g1, hg1, rfl⟩ := lt_nI (by omega) h10
        obtain ⟨g2, hg2, rfl⟩ := in_nI (by decide) h26 (by decide)
        refine lv_aload_n F.1 F.2.1 dX4_addGoose_50 rfl (lv_at hl 0 rfl) ?_
        refine k_get (v := .ref (u 2)) F nX4_addGoose_X4 hK.1 hP 0 rfl rfl 5 (by decide) (List.mem_of_getElem? (i := 3) rfl) rfl dX4_addGoose_51 ?_
        refine lv_aload_n F.1 F.2.1 dX4_addGoose_54 rfl (lv_at hl 0 rfl) ?_
        refine k_get (v := .int (nI (S 0 1))) F nX4_addGoose_X4 hK.1 hP 0 rfl rfl 2 (by decide) (List.mem_of_getElem? (i := 2) rfl) rfl dX4_addGoose_55 ?_
        refine lv_iload_n F.1 F.2.1 dX4_addGoose_58 rfl (lv_at hl 1 rfl) ?_
        refine k_iast (f := S 2) (n := 8) (k := (S 0 1)) (x := g1) F hK.1 hP hD hS 2 0 rfl rfl (by omega) (by decide) dX4_addGoose_59 (wMo cI u (setf S 2 (S 0 1) g1) (nI 0) K) wMo_a2 (fun H locs hP hD hS => ?_)
        refine lv_aload_n F.1 F.2.1 dX4_addGoose_60 rfl (lv_at hl 0 rfl) ?_
        refine lv_aload_n F.1 F.2.1 dX4_addGoose_61 rfl (lv_at hl 0 rfl) ?_
        refine k_get (v := .int (nI (S 0 1))) F nX4_addGoose_X4 hK.1 hP 0 rfl rfl 2 (by decide) (List.mem_of_getElem? (i := 2) rfl) rfl dX4_addGoose_62 ?_
        refine lv_iconst (v := nI 0) F.1 F.2.1 dX4_addGoose_65 (by decide) ?_
        refine lv_iload_n F.1 F.2.1 dX4_addGoose_66 rfl (lv_at hl 2 rfl) ?_
        refine k_mV (n := 3) (rest := []) F (c_X4_put l D cI u (setf S 2 (S 0 1) g1) (nI 0) K (S 0 1) 0 g2 (by first | assumption | omega) (by first | assumption | omega)) gX4_addGoose_X4_put rfl (by decide +kernel) ⟨Nat.le_of_ble_eq_true rfl, Nat.le_of_ble_eq_true rfl⟩ rfl hl.1 rfl (Nat.le_of_ble_eq_true rfl) dX4_addGoose_67 ⟨Nat.zero_le _, Nat.zero_le _⟩ hK hP hD hS [0, 1, 2, 3, 4, 5] rfl rfl rfl (wMo cI u (setf (setf S 2 (S 0 1) g1) 3 (S 0 1) g2) (nI 0) K) wMo_ms wMo_ad (q0 := 0) (ci := 4) rfl rfl (fun H locs hP hD hS => ?_)
        refine lv_aload_n F.1 F.2.1 dX4_addGoose_70 rfl (lv_at hl 0 rfl) ?_
        refine lv_dup F.1 F.2.1 dX4_addGoose_71 rfl ?_
        refine k_get (v := .int (nI (S 0 1))) F nX4_addGoose_X4 hK.1 hP 0 rfl rfl 2 (by decide) (List.mem_of_getElem? (i := 2) rfl) rfl dX4_addGoose_72 ?_
        refine lv_iconst (v := nI 1) F.1 F.2.1 dX4_addGoose_75 (by decide) ?_
        refine k_iadd F dX4_addGoose_76 ?_
        refine k_put F nX4_addGoose_X4 tyX4 tyX4_ok nmX4 hK.1 hP hD hS 0 rfl rfl 2 (by decide) (List.mem_of_getElem? (i := 2) rfl) rfl (by decide +kernel) (Nat.le_of_ble_eq_true rfl) dX4_addGoose_77 (wMo cI u (setf (setf (setf S 2 (S 0 1) g1) 3 (S 0 1) g2) 0 1 (S 0 1 + 1)) (nI 0) K) wMo_f2 (fun H locs hP hD hS => ?_)
        refine lv_aload_n F.1 F.2.1 dX4_addGoose_80 rfl (lv_at hl 0 rfl) ?_
        refine k_get (v := .int (nI (S 0 1 + 1))) F nX4_addGoose_X4 hK.1 hP 0 rfl rfl 2 (by decide) (List.mem_of_getElem? (i := 2) rfl) rfl dX4_addGoose_81 ?_
        refine lv_iconst (v := nI 1) F.1 F.2.1 dX4_addGoose_84 (by decide) ?_
        refine k_isub F (by omega) dX4_addGoose_85 ?_
        have e9 : rAddGoose S (nI g1) (nI g2) = (0, nI ((S 0 1 + 1) - 1), (setf (setf (setf S 2 (S 0 1) g1) 3 (S 0 1) g2) 0 1 (S 0 1 + 1))) := by unfold rAddGoose; (try rw [cl_nI (show g1 < 2 ^ 31 by omega)]); (try rw [cl_nI (show g2 < 2 ^ 31 by omega)]); rw [if_pos h10, if_pos h26, if_pos (show S 0 1 ≠ 8 by omega)] <;> rfl
        exact k_retMI F hr hlk hP (by rw [e9] <;> rfl) hS (by rw [e9] <;> rfl) rfl dX4_addGoose_86
      · skip
        refine lv_aload_n F.1 F.2.1 dX4_addGoose_44 rfl (lv_at hl 0 rfl) ?_
        refine lv_iconst (v := nI 3) F.1 F.2.1 dX4_addGoose_45 (by decide) ?_
        refine k_mI (n := 1) (rest := []) (v := nI 0) F (c_X4_fail l D cI u S (nI 0) K (nI 3)) gX4_addGoose_X4_fail rfl (by decide +kernel) ⟨Nat.le_of_ble_eq_true rfl, Nat.le_of_ble_eq_true rfl⟩ rfl hl.1 rfl (Nat.le_of_ble_eq_true rfl) dX4_addGoose_46 ⟨Nat.zero_le _, Nat.zero_le _⟩ hK hP hD hS [0, 1, 2, 3, 4, 5] rfl rfl rfl (wMo cI u S (nI 3) K) wMo_ms wMo_ad (q0 := 0) (ci := 4) rfl rfl (fun H locs hP hD hS => ?_)
        have e9 : rAddGoose S x1 x2 = (3, nI 0, S) := by unfold rAddGoose; rw [if_pos h10, if_pos h26, if_neg (show ¬ (S 0 1 ≠ 8) by omega)] <;> rfl
        exact k_retMI F hr hlk hP (by rw [e9] <;> rfl) hS (by rw [e9] <;> rfl) rfl dX4_addGoose_49
    · skip
      refine lv_aload_n F.1 F.2.1 dX4_addGoose_29 rfl (lv_at hl 0 rfl) ?_
      refine lv_iconst (v := nI 2) F.1 F.2.1 dX4_addGoose_30 (by decide) ?_
      refine k_mI (n := 1) (rest := []) (v := nI 0) F (c_X4_fail l D cI u S (nI 0) K (nI 2)) gX4_addGoose_X4_fail rfl (by decide +kernel) ⟨Nat.le_of_ble_eq_true rfl, Nat.le_of_ble_eq_true rfl⟩ rfl hl.1 rfl (Nat.le_of_ble_eq_true rfl) dX4_addGoose_31 ⟨Nat.zero_le _, Nat.zero_le _⟩ hK hP hD hS [0, 1, 2, 3, 4, 5] rfl rfl rfl (wMo cI u S (nI 2) K) wMo_ms wMo_ad (q0 := 0) (ci := 4) rfl rfl (fun H locs hP hD hS => ?_)
      have e9 : rAddGoose S x1 x2 = (2, nI 0, S) := by unfold rAddGoose; rw [if_pos h10, if_neg h26] <;> rfl
      exact k_retMI F hr hlk hP (by rw [e9] <;> rfl) hS (by rw [e9] <;> rfl) rfl dX4_addGoose_34
  · skip
    refine lv_aload_n F.1 F.2.1 dX4_addGoose_13 rfl (lv_at hl 0 rfl) ?_
    refine lv_iconst (v := nI 1) F.1 F.2.1 dX4_addGoose_14 (by decide) ?_
    refine k_mI (n := 1) (rest := []) (v := nI 0) F (c_X4_fail l D cI u S (nI 0) K (nI 1)) gX4_addGoose_X4_fail rfl (by decide +kernel) ⟨Nat.le_of_ble_eq_true rfl, Nat.le_of_ble_eq_true rfl⟩ rfl hl.1 rfl (Nat.le_of_ble_eq_true rfl) dX4_addGoose_15 ⟨Nat.zero_le _, Nat.zero_le _⟩ hK hP hD hS [0, 1, 2, 3, 4, 5] rfl rfl rfl (wMo cI u S (nI 1) K) wMo_ms wMo_ad (q0 := 0) (ci := 4) rfl rfl (fun H locs hP hD hS => ?_)
    have e9 : rAddGoose S x1 x2 = (1, nI 0, S) := by unfold rAddGoose; rw [if_neg h10] <;> rfl
    exact k_retMI F hr hlk hP (by rw [e9] <;> rfl) hS (by rw [e9] <;> rfl) rfl dX4_addGoose_18
theorem nX4_arrive_X4 : ∀ x ∈ wsX40, x ∈ wsX4_arrive := fun _ h => List.mem_cons_of_mem _ (List.mem_append_right _ h)
set_option maxRecDepth 100000 in
set_option maxHeartbeats 4000000 in
theorem c_X4_arrive (l : Launch) (D : va_G) (cI : ClassId) (u : Nat → Nat) (S : Nat → Nat → Nat) (th : Int32) (K : Nat → Nat) (x1 : Int32) (x2 : Int32) (x3 : Int32) (hI : Inv S) : MI l yX4_arrive wsX4_arrive 1 23 D [(cI, .int)] [.ref (u 0), .int x1, .int x2, .int x3] (wMo cI u S th K) (wMo cI u ((rArrive S x1 x2 x3).2.2) (nI (rArrive S x1 x2 x3).1) K) ((rArrive S x1 x2 x3).2.1) := by
  refine k_bodyM (cc := cX4_arrive) (maxL := 4) (ret := (some .int)) (by decide) rfl (Nat.le_of_ble_eq_true rfl) ?_
  intro p e s m args below meth c H ls F hr hlk hl hP hK hD hS
  have F : CallFix p m c cX4_arrive 4 s args wsX4_arrive RX4 := F
  have hl : lv_has ls 4 [(0, .ref (u 0)), (1, .int x1), (2, .int x2), (3, .int x3)] := hl
  have hi0 := hI.gates
  have hi1 := hI.geese
  have hi2 := hI.guests
  refine lv_aload_n F.1 F.2.1 dX4_arrive_0 rfl (lv_at hl 0 rfl) ?_
  refine lv_iconst (v := nI 0) F.1 F.2.1 dX4_arrive_1 (by decide) ?_
  refine k_put F nX4_arrive_X4 tyX4 tyX4_ok nmX4 hK.1 hP hD hS 0 rfl rfl 0 (by decide) (List.mem_of_getElem? (i := 1) rfl) rfl (by decide +kernel) (Nat.le_of_ble_eq_true rfl) dX4_arrive_2 (wMo cI u S (nI 0) K) wMo_f0 (fun H locs hP hD hS => ?_)
  refine lv_iload_n F.1 F.2.1 dX4_arrive_5 rfl (lv_at hl 1 rfl) ?_
  refine lv_iconst (v := nI 0) F.1 F.2.1 dX4_arrive_6 (by decide) ?_
  refine lv_bipush (v := nI 9) F.1 F.2.1 dX4_arrive_7 (by decide) ?_
  refine k_pS (n := 3) (rest := []) (v := bI ((nI 0) ≤ x1 ∧ x1 ≤ (nI 9))) F (c_X4_isIn l D cI x1 (nI 0) (nI 9)) gX4_arrive_X4_isIn rfl (by decide +kernel) ⟨Nat.le_of_ble_eq_true rfl, Nat.le_of_ble_eq_true rfl⟩ rfl hl.1 rfl (Nat.le_of_ble_eq_true rfl) dX4_arrive_9 ⟨Nat.zero_le _, Nat.zero_le _⟩ hK hP hS (fun H locs hP hS => ?_)
  refine k_ifeq_b (tgt := 35) F dX4_arrive_12 (by decide) (fun h12 => ?_) (fun h12 => ?_)
  · skip
    refine lv_aload_n F.1 F.2.1 dX4_arrive_35 rfl (lv_at hl 0 rfl) ?_
    refine lv_iconst (v := nI 1) F.1 F.2.1 dX4_arrive_36 (by decide) ?_
    refine k_mI (n := 1) (rest := []) (v := nI 0) F (c_X4_fail l D cI u S (nI 0) K (nI 1)) gX4_arrive_X4_fail rfl (by decide +kernel) ⟨Nat.le_of_ble_eq_true rfl, Nat.le_of_ble_eq_true rfl⟩ rfl hl.1 rfl (Nat.le_of_ble_eq_true rfl) dX4_arrive_37 ⟨Nat.zero_le _, Nat.zero_le _⟩ hK hP hD hS [0, 1, 2, 3, 4, 5] rfl rfl rfl (wMo cI u S (nI 1) K) wMo_ms wMo_ad (q0 := 0) (ci := 4) rfl rfl (fun H locs hP hD hS => ?_)
    have e9 : rArrive S x1 x2 x3 = (1, nI 0, S) := by unfold rArrive; rw [if_neg (fun q => h12 q.1)] <;> rfl
    exact k_retMI F hr hlk hP (by rw [e9] <;> rfl) hS (by rw [e9] <;> rfl) rfl dX4_arrive_40
  · skip
    refine lv_iload_n F.1 F.2.1 dX4_arrive_15 rfl (lv_at hl 2 rfl) ?_
    refine lv_iconst (v := nI 0) F.1 F.2.1 dX4_arrive_16 (by decide) ?_
    refine lv_bipush (v := nI 20) F.1 F.2.1 dX4_arrive_17 (by decide) ?_
    refine k_pS (n := 3) (rest := []) (v := bI ((nI 0) ≤ x2 ∧ x2 ≤ (nI 20))) F (c_X4_isIn l D cI x2 (nI 0) (nI 20)) gX4_arrive_X4_isIn rfl (by decide +kernel) ⟨Nat.le_of_ble_eq_true rfl, Nat.le_of_ble_eq_true rfl⟩ rfl hl.1 rfl (Nat.le_of_ble_eq_true rfl) dX4_arrive_19 ⟨Nat.zero_le _, Nat.zero_le _⟩ hK hP hS (fun H locs hP hS => ?_)
    refine k_ifeq_b (tgt := 35) F dX4_arrive_22 (by decide) (fun h22 => ?_) (fun h22 => ?_)
    · skip
      refine lv_aload_n F.1 F.2.1 dX4_arrive_35 rfl (lv_at hl 0 rfl) ?_
      refine lv_iconst (v := nI 1) F.1 F.2.1 dX4_arrive_36 (by decide) ?_
      refine k_mI (n := 1) (rest := []) (v := nI 0) F (c_X4_fail l D cI u S (nI 0) K (nI 1)) gX4_arrive_X4_fail rfl (by decide +kernel) ⟨Nat.le_of_ble_eq_true rfl, Nat.le_of_ble_eq_true rfl⟩ rfl hl.1 rfl (Nat.le_of_ble_eq_true rfl) dX4_arrive_37 ⟨Nat.zero_le _, Nat.zero_le _⟩ hK hP hD hS [0, 1, 2, 3, 4, 5] rfl rfl rfl (wMo cI u S (nI 1) K) wMo_ms wMo_ad (q0 := 0) (ci := 4) rfl rfl (fun H locs hP hD hS => ?_)
      have e9 : rArrive S x1 x2 x3 = (1, nI 0, S) := by unfold rArrive; rw [if_neg (fun q => h22 q.2.1)] <;> rfl
      exact k_retMI F hr hlk hP (by rw [e9] <;> rfl) hS (by rw [e9] <;> rfl) rfl dX4_arrive_40
    · skip
      refine lv_iload_n F.1 F.2.1 dX4_arrive_25 rfl (lv_at hl 3 rfl) ?_
      refine lv_iconst (v := nI 0) F.1 F.2.1 dX4_arrive_26 (by decide) ?_
      refine lv_bipush (v := nI 20) F.1 F.2.1 dX4_arrive_27 (by decide) ?_
      refine k_pS (n := 3) (rest := []) (v := bI ((nI 0) ≤ x3 ∧ x3 ≤ (nI 20))) F (c_X4_isIn l D cI x3 (nI 0) (nI 20)) gX4_arrive_X4_isIn rfl (by decide +kernel) ⟨Nat.le_of_ble_eq_true rfl, Nat.le_of_ble_eq_true rfl⟩ rfl hl.1 rfl (Nat.le_of_ble_eq_true rfl) dX4_arrive_29 ⟨Nat.zero_le _, Nat.zero_le _⟩ hK hP hS (fun H locs hP hS => ?_)
      refine k_ifne_b (tgt := 41) F dX4_arrive_32 (by decide) (fun h32 => ?_) (fun h32 => ?_)
      · skip
        refine lv_aload_n F.1 F.2.1 dX4_arrive_41 rfl (lv_at hl 0 rfl) ?_
        refine k_get (v := .int (nI (S 0 0))) F nX4_arrive_X4 hK.1 hP 0 rfl rfl 1 (by decide) (List.mem_of_getElem? (i := 2) rfl) rfl dX4_arrive_42 ?_
        refine k_if_eq (tgt := 57) F (by omega) dX4_arrive_45 (by decide) (fun h45 => ?_) (fun h45 => ?_)
        · skip
          refine lv_aload_n F.1 F.2.1 dX4_arrive_57 rfl (lv_at hl 0 rfl) ?_
          refine lv_iconst (v := nI 2) F.1 F.2.1 dX4_arrive_58 (by decide) ?_
          refine k_mI (n := 1) (rest := []) (v := nI 0) F (c_X4_fail l D cI u S (nI 0) K (nI 2)) gX4_arrive_X4_fail rfl (by decide +kernel) ⟨Nat.le_of_ble_eq_true rfl, Nat.le_of_ble_eq_true rfl⟩ rfl hl.1 rfl (Nat.le_of_ble_eq_true rfl) dX4_arrive_59 ⟨Nat.zero_le _, Nat.zero_le _⟩ hK hP hD hS [0, 1, 2, 3, 4, 5] rfl rfl rfl (wMo cI u S (nI 2) K) wMo_ms wMo_ad (q0 := 0) (ci := 4) rfl rfl (fun H locs hP hD hS => ?_)
          have e9 : rArrive S x1 x2 x3 = (2, nI 0, S) := by unfold rArrive; rw [if_pos ⟨h12, h22, h32⟩, if_neg (show ¬ (S 0 0 ≠ 0 ∧ S 0 2 ≠ 8) by omega)] <;> rfl
          exact k_retMI F hr hlk hP (by rw [e9] <;> rfl) hS (by rw [e9] <;> rfl) rfl dX4_arrive_62
        · skip
          refine lv_aload_n F.1 F.2.1 dX4_arrive_48 rfl (lv_at hl 0 rfl) ?_
          refine k_get (v := .int (nI (S 0 2))) F nX4_arrive_X4 hK.1 hP 0 rfl rfl 3 (by decide) (List.mem_of_getElem? (i := 3) rfl) rfl dX4_arrive_49 ?_
          refine lv_bipush (v := nI 8) F.1 F.2.1 dX4_arrive_52 (by decide) ?_
          refine k_icmp_ne (tgt := 63) F (by omega) (by omega) dX4_arrive_54 (by decide) (fun h54 => ?_) (fun h54 => ?_)
          · skip
            obtain ⟨g1, hg1, rfl⟩ := in_nI (by decide) h12 (by decide)
            obtain ⟨g2, hg2, rfl⟩ := in_nI (by decide) h22 (by decide)
            obtain ⟨g3, hg3, rfl⟩ := in_nI (by decide) h32 (by decide)
            refine lv_aload_n F.1 F.2.1 dX4_arrive_63 rfl (lv_at hl 0 rfl) ?_
            refine k_get (v := .ref (u 3)) F nX4_arrive_X4 hK.1 hP 0 rfl rfl 6 (by decide) (List.mem_of_getElem? (i := 4) rfl) rfl dX4_arrive_64 ?_
            refine lv_aload_n F.1 F.2.1 dX4_arrive_67 rfl (lv_at hl 0 rfl) ?_
            refine k_get (v := .int (nI (S 0 2))) F nX4_arrive_X4 hK.1 hP 0 rfl rfl 3 (by decide) (List.mem_of_getElem? (i := 3) rfl) rfl dX4_arrive_68 ?_
            refine lv_iload_n F.1 F.2.1 dX4_arrive_71 rfl (lv_at hl 1 rfl) ?_
            refine k_iast (f := S 6) (n := 8) (k := (S 0 2)) (x := g1) F hK.1 hP hD hS 3 0 rfl rfl (by omega) (by decide) dX4_arrive_72 (wMo cI u (setf S 6 (S 0 2) g1) (nI 0) K) wMo_a3 (fun H locs hP hD hS => ?_)
            refine lv_aload_n F.1 F.2.1 dX4_arrive_73 rfl (lv_at hl 0 rfl) ?_
            refine lv_aload_n F.1 F.2.1 dX4_arrive_74 rfl (lv_at hl 0 rfl) ?_
            refine k_get (v := .int (nI (S 0 2))) F nX4_arrive_X4 hK.1 hP 0 rfl rfl 3 (by decide) (List.mem_of_getElem? (i := 3) rfl) rfl dX4_arrive_75 ?_
            refine lv_iconst (v := nI 2) F.1 F.2.1 dX4_arrive_78 (by decide) ?_
            refine lv_iload_n F.1 F.2.1 dX4_arrive_79 rfl (lv_at hl 2 rfl) ?_
            refine k_mV (n := 3) (rest := []) F (c_X4_let l D cI u (setf S 6 (S 0 2) g1) (nI 0) K (S 0 2) 2 g2 (by first | assumption | omega) (by first | assumption | omega)) gX4_arrive_X4_let rfl (by decide +kernel) ⟨Nat.le_of_ble_eq_true rfl, Nat.le_of_ble_eq_true rfl⟩ rfl hl.1 rfl (Nat.le_of_ble_eq_true rfl) dX4_arrive_80 ⟨Nat.zero_le _, Nat.zero_le _⟩ hK hP hD hS [0, 1, 2, 3, 4, 5] rfl rfl rfl (wMo cI u (setf (setf S 6 (S 0 2) g1) 9 (S 0 2) g2) (nI 0) K) wMo_ms wMo_ad (q0 := 0) (ci := 4) rfl rfl (fun H locs hP hD hS => ?_)
            refine lv_aload_n F.1 F.2.1 dX4_arrive_83 rfl (lv_at hl 0 rfl) ?_
            refine lv_aload_n F.1 F.2.1 dX4_arrive_84 rfl (lv_at hl 0 rfl) ?_
            refine k_get (v := .int (nI (S 0 2))) F nX4_arrive_X4 hK.1 hP 0 rfl rfl 3 (by decide) (List.mem_of_getElem? (i := 3) rfl) rfl dX4_arrive_85 ?_
            refine lv_iconst (v := nI 1) F.1 F.2.1 dX4_arrive_88 (by decide) ?_
            refine lv_iload_n F.1 F.2.1 dX4_arrive_89 rfl (lv_at hl 3 rfl) ?_
            refine k_mV (n := 3) (rest := []) F (c_X4_let l D cI u (setf (setf S 6 (S 0 2) g1) 9 (S 0 2) g2) (nI 0) K (S 0 2) 1 g3 (by first | assumption | omega) (by first | assumption | omega)) gX4_arrive_X4_let rfl (by decide +kernel) ⟨Nat.le_of_ble_eq_true rfl, Nat.le_of_ble_eq_true rfl⟩ rfl hl.1 rfl (Nat.le_of_ble_eq_true rfl) dX4_arrive_90 ⟨Nat.zero_le _, Nat.zero_le _⟩ hK hP hD hS [0, 1, 2, 3, 4, 5] rfl rfl rfl (wMo cI u (setf (setf (setf S 6 (S 0 2) g1) 9 (S 0 2) g2) 8 (S 0 2) g3) (nI 0) K) wMo_ms wMo_ad (q0 := 0) (ci := 4) rfl rfl (fun H locs hP hD hS => ?_)
            refine lv_aload_n F.1 F.2.1 dX4_arrive_93 rfl (lv_at hl 0 rfl) ?_
            refine lv_dup F.1 F.2.1 dX4_arrive_94 rfl ?_
            refine k_get (v := .int (nI (S 0 2))) F nX4_arrive_X4 hK.1 hP 0 rfl rfl 3 (by decide) (List.mem_of_getElem? (i := 3) rfl) rfl dX4_arrive_95 ?_
            refine lv_iconst (v := nI 1) F.1 F.2.1 dX4_arrive_98 (by decide) ?_
            refine k_iadd F dX4_arrive_99 ?_
            refine k_put F nX4_arrive_X4 tyX4 tyX4_ok nmX4 hK.1 hP hD hS 0 rfl rfl 3 (by decide) (List.mem_of_getElem? (i := 3) rfl) rfl (by decide +kernel) (Nat.le_of_ble_eq_true rfl) dX4_arrive_100 (wMo cI u (setf (setf (setf (setf S 6 (S 0 2) g1) 9 (S 0 2) g2) 8 (S 0 2) g3) 0 2 (S 0 2 + 1)) (nI 0) K) wMo_f3 (fun H locs hP hD hS => ?_)
            refine lv_aload_n F.1 F.2.1 dX4_arrive_103 rfl (lv_at hl 0 rfl) ?_
            refine k_get (v := .int (nI (S 0 2 + 1))) F nX4_arrive_X4 hK.1 hP 0 rfl rfl 3 (by decide) (List.mem_of_getElem? (i := 3) rfl) rfl dX4_arrive_104 ?_
            refine lv_iconst (v := nI 1) F.1 F.2.1 dX4_arrive_107 (by decide) ?_
            refine k_isub F (by omega) dX4_arrive_108 ?_
            have e9 : rArrive S (nI g1) (nI g2) (nI g3) = (0, nI ((S 0 2 + 1) - 1), (setf (setf (setf (setf S 6 (S 0 2) g1) 9 (S 0 2) g2) 8 (S 0 2) g3) 0 2 (S 0 2 + 1))) := by unfold rArrive; (try rw [cl_nI (show g1 < 2 ^ 31 by omega)]); (try rw [cl_nI (show g2 < 2 ^ 31 by omega)]); (try rw [cl_nI (show g3 < 2 ^ 31 by omega)]); rw [if_pos ⟨h12, h22, h32⟩, if_pos (show S 0 0 ≠ 0 ∧ S 0 2 ≠ 8 by omega)] <;> rfl
            exact k_retMI F hr hlk hP (by rw [e9] <;> rfl) hS (by rw [e9] <;> rfl) rfl dX4_arrive_109
          · skip
            refine lv_aload_n F.1 F.2.1 dX4_arrive_57 rfl (lv_at hl 0 rfl) ?_
            refine lv_iconst (v := nI 2) F.1 F.2.1 dX4_arrive_58 (by decide) ?_
            refine k_mI (n := 1) (rest := []) (v := nI 0) F (c_X4_fail l D cI u S (nI 0) K (nI 2)) gX4_arrive_X4_fail rfl (by decide +kernel) ⟨Nat.le_of_ble_eq_true rfl, Nat.le_of_ble_eq_true rfl⟩ rfl hl.1 rfl (Nat.le_of_ble_eq_true rfl) dX4_arrive_59 ⟨Nat.zero_le _, Nat.zero_le _⟩ hK hP hD hS [0, 1, 2, 3, 4, 5] rfl rfl rfl (wMo cI u S (nI 2) K) wMo_ms wMo_ad (q0 := 0) (ci := 4) rfl rfl (fun H locs hP hD hS => ?_)
            have e9 : rArrive S x1 x2 x3 = (2, nI 0, S) := by unfold rArrive; rw [if_pos ⟨h12, h22, h32⟩, if_neg (show ¬ (S 0 0 ≠ 0 ∧ S 0 2 ≠ 8) by omega)] <;> rfl
            exact k_retMI F hr hlk hP (by rw [e9] <;> rfl) hS (by rw [e9] <;> rfl) rfl dX4_arrive_62
      · skip
        refine lv_aload_n F.1 F.2.1 dX4_arrive_35 rfl (lv_at hl 0 rfl) ?_
        refine lv_iconst (v := nI 1) F.1 F.2.1 dX4_arrive_36 (by decide) ?_
        refine k_mI (n := 1) (rest := []) (v := nI 0) F (c_X4_fail l D cI u S (nI 0) K (nI 1)) gX4_arrive_X4_fail rfl (by decide +kernel) ⟨Nat.le_of_ble_eq_true rfl, Nat.le_of_ble_eq_true rfl⟩ rfl hl.1 rfl (Nat.le_of_ble_eq_true rfl) dX4_arrive_37 ⟨Nat.zero_le _, Nat.zero_le _⟩ hK hP hD hS [0, 1, 2, 3, 4, 5] rfl rfl rfl (wMo cI u S (nI 1) K) wMo_ms wMo_ad (q0 := 0) (ci := 4) rfl rfl (fun H locs hP hD hS => ?_)
        have e9 : rArrive S x1 x2 x3 = (1, nI 0, S) := by unfold rArrive; rw [if_neg (fun q => h32 q.2.2)] <;> rfl
        exact k_retMI F hr hlk hP (by rw [e9] <;> rfl) hS (by rw [e9] <;> rfl) rfl dX4_arrive_40
theorem nX4_setRank_X4 : ∀ x ∈ wsX40, x ∈ wsX4_setRank := fun _ h => List.mem_cons_of_mem _ (List.mem_append_right _ h)
set_option maxRecDepth 100000 in
set_option maxHeartbeats 4000000 in
theorem c_X4_setRank (l : Launch) (D : va_G) (cI : ClassId) (u : Nat → Nat) (S : Nat → Nat → Nat) (th : Int32) (K : Nat → Nat) (x1 : Int32) (x2 : Int32) (hI : Inv S) : MI l yX4_setRank wsX4_setRank 2 43 D [(cI, .int)] [.ref (u 0), .int x1, .int x2] (wMo cI u S th K) (wMo cI u ((rSetRank S x1 x2).2.2) (nI (rSetRank S x1 x2).1) K) ((rSetRank S x1 x2).2.1) := by
  refine k_bodyM (cc := cX4_setRank) (maxL := 4) (ret := (some .int)) (by decide) rfl (Nat.le_of_ble_eq_true rfl) ?_
  intro p e s m args below meth c H ls F hr hlk hl hP hK hD hS
  have F : CallFix p m c cX4_setRank 4 s args wsX4_setRank RX4 := F
  have hl : lv_has ls 4 [(0, .ref (u 0)), (1, .int x1), (2, .int x2)] := hl
  have hi0 := hI.gates
  have hi1 := hI.geese
  have hi2 := hI.guests
  refine lv_aload_n F.1 F.2.1 dX4_setRank_0 rfl (lv_at hl 0 rfl) ?_
  refine lv_iconst (v := nI 0) F.1 F.2.1 dX4_setRank_1 (by decide) ?_
  refine k_put F nX4_setRank_X4 tyX4 tyX4_ok nmX4 hK.1 hP hD hS 0 rfl rfl 0 (by decide) (List.mem_of_getElem? (i := 1) rfl) rfl (by decide +kernel) (Nat.le_of_ble_eq_true rfl) dX4_setRank_2 (wMo cI u S (nI 0) K) wMo_f0 (fun H locs hP hD hS => ?_)
  refine lv_aload_n F.1 F.2.1 dX4_setRank_5 rfl (lv_at hl 0 rfl) ?_
  refine lv_iload_n F.1 F.2.1 dX4_setRank_6 rfl (lv_at hl 1 rfl) ?_
  refine k_pV (n := 1) (rest := []) (v := bI (0 ≤ x1 ∧ x1 < nI (S 0 0))) F (c_X4_isGate l D cI u S (nI 0) K x1 (by first | assumption | omega)) gX4_setRank_X4_isGate rfl (by decide +kernel) ⟨Nat.le_of_ble_eq_true rfl, Nat.le_of_ble_eq_true rfl⟩ rfl hl.1 rfl (Nat.le_of_ble_eq_true rfl) dX4_setRank_7 ⟨Nat.zero_le _, Nat.zero_le _⟩ hK hP hS [0, 1, 2, 3, 4, 5] rfl (q0 := 0) (ci := 4) rfl rfl (fun H locs hP hS => ?_)
  refine k_ifne_b (tgt := 19) F dX4_setRank_10 (by decide) (fun h10 => ?_) (fun h10 => ?_)
  · skip
    refine lv_iload_n F.1 F.2.1 dX4_setRank_19 rfl (lv_at hl 2 rfl) ?_
    refine lv_iconst (v := nI 0) F.1 F.2.1 dX4_setRank_20 (by decide) ?_
    refine lv_bipush (v := nI 9) F.1 F.2.1 dX4_setRank_21 (by decide) ?_
    refine k_pS (n := 3) (rest := []) (v := bI ((nI 0) ≤ x2 ∧ x2 ≤ (nI 9))) F (c_X4_isIn l D cI x2 (nI 0) (nI 9)) gX4_setRank_X4_isIn rfl (by decide +kernel) ⟨Nat.le_of_ble_eq_true rfl, Nat.le_of_ble_eq_true rfl⟩ rfl hl.1 rfl (Nat.le_of_ble_eq_true rfl) dX4_setRank_23 ⟨Nat.zero_le _, Nat.zero_le _⟩ hK hP hS (fun H locs hP hS => ?_)
    refine k_ifne_b (tgt := 35) F dX4_setRank_26 (by decide) (fun h26 => ?_) (fun h26 => ?_)
    · skip
      obtain ⟨g1, hg1, rfl⟩ := lt_nI (by omega) h10
      obtain ⟨g2, hg2, rfl⟩ := in_nI (by decide) h26 (by decide)
      refine lv_aload_n F.1 F.2.1 dX4_setRank_35 rfl (lv_at hl 0 rfl) ?_
      refine k_get (v := .ref (u 1)) F nX4_setRank_X4 hK.1 hP 0 rfl rfl 4 (by decide) (List.mem_of_getElem? (i := 2) rfl) rfl dX4_setRank_36 ?_
      refine lv_iload_n F.1 F.2.1 dX4_setRank_39 rfl (lv_at hl 1 rfl) ?_
      refine k_iald (f := S 1) (n := 6) F hK.1 hP 1 0 rfl rfl (by omega) (by decide) dX4_setRank_40 ?_
      refine lv_istore_n (lv' := [(3, .int (nI (S 1 g1))), (0, .ref (u 0)), (1, .int (nI g1)), (2, .int (nI g2))]) F.1 F.2.1 dX4_setRank_41 rfl hl (by decide) rfl (fun ls hl => ?_)
      refine lv_aload_n F.1 F.2.1 dX4_setRank_42 rfl (lv_at hl 1 rfl) ?_
      refine k_get (v := .ref (u 1)) F nX4_setRank_X4 hK.1 hP 0 rfl rfl 4 (by decide) (List.mem_of_getElem? (i := 2) rfl) rfl dX4_setRank_43 ?_
      refine lv_iload_n F.1 F.2.1 dX4_setRank_46 rfl (lv_at hl 2 rfl) ?_
      refine lv_iload_n F.1 F.2.1 dX4_setRank_47 rfl (lv_at hl 3 rfl) ?_
      refine k_iast (f := S 1) (n := 6) (k := g1) (x := g2) F hK.1 hP hD hS 1 0 rfl rfl (by omega) (by decide) dX4_setRank_48 (wMo cI u (setf S 1 g1 g2) (nI 0) K) wMo_a1 (fun H locs hP hD hS => ?_)
      refine lv_iload_n F.1 F.2.1 dX4_setRank_49 rfl (lv_at hl 0 rfl) ?_
      have e9 : rSetRank S (nI g1) (nI g2) = (0, nI (S 1 g1), (setf S 1 g1 g2)) := by unfold rSetRank; (try rw [cl_nI (show g1 < 2 ^ 31 by omega)]); (try rw [cl_nI (show g2 < 2 ^ 31 by omega)]); rw [if_pos h10, if_pos h26] <;> rfl
      exact k_retMI F hr hlk hP (by rw [e9] <;> rfl) hS (by rw [e9] <;> rfl) rfl dX4_setRank_50
    · skip
      refine lv_aload_n F.1 F.2.1 dX4_setRank_29 rfl (lv_at hl 0 rfl) ?_
      refine lv_iconst (v := nI 2) F.1 F.2.1 dX4_setRank_30 (by decide) ?_
      refine k_mI (n := 1) (rest := []) (v := nI 0) F (c_X4_fail l D cI u S (nI 0) K (nI 2)) gX4_setRank_X4_fail rfl (by decide +kernel) ⟨Nat.le_of_ble_eq_true rfl, Nat.le_of_ble_eq_true rfl⟩ rfl hl.1 rfl (Nat.le_of_ble_eq_true rfl) dX4_setRank_31 ⟨Nat.zero_le _, Nat.zero_le _⟩ hK hP hD hS [0, 1, 2, 3, 4, 5] rfl rfl rfl (wMo cI u S (nI 2) K) wMo_ms wMo_ad (q0 := 0) (ci := 4) rfl rfl (fun H locs hP hD hS => ?_)
      have e9 : rSetRank S x1 x2 = (2, nI 0, S) := by unfold rSetRank; rw [if_pos h10, if_neg h26] <;> rfl
      exact k_retMI F hr hlk hP (by rw [e9] <;> rfl) hS (by rw [e9] <;> rfl) rfl dX4_setRank_34
  · skip
    refine lv_aload_n F.1 F.2.1 dX4_setRank_13 rfl (lv_at hl 0 rfl) ?_
    refine lv_iconst (v := nI 1) F.1 F.2.1 dX4_setRank_14 (by decide) ?_
    refine k_mI (n := 1) (rest := []) (v := nI 0) F (c_X4_fail l D cI u S (nI 0) K (nI 1)) gX4_setRank_X4_fail rfl (by decide +kernel) ⟨Nat.le_of_ble_eq_true rfl, Nat.le_of_ble_eq_true rfl⟩ rfl hl.1 rfl (Nat.le_of_ble_eq_true rfl) dX4_setRank_15 ⟨Nat.zero_le _, Nat.zero_le _⟩ hK hP hD hS [0, 1, 2, 3, 4, 5] rfl rfl rfl (wMo cI u S (nI 1) K) wMo_ms wMo_ad (q0 := 0) (ci := 4) rfl rfl (fun H locs hP hD hS => ?_)
    have e9 : rSetRank S x1 x2 = (1, nI 0, S) := by unfold rSetRank; rw [if_neg h10] <;> rfl
    exact k_retMI F hr hlk hP (by rw [e9] <;> rfl) hS (by rw [e9] <;> rfl) rfl dX4_setRank_18
theorem nX4_lead_X4 : ∀ x ∈ wsX40, x ∈ wsX4_lead := fun _ h => List.mem_cons_of_mem _ (List.mem_append_right _ h)
set_option maxRecDepth 100000 in
set_option maxHeartbeats 4000000 in
theorem c_X4_lead (l : Launch) (D : va_G) (cI : ClassId) (u : Nat → Nat) (S : Nat → Nat → Nat) (th : Int32) (K : Nat → Nat) (x1 : Int32) (x2 : Int32) (hI : Inv S) : MI l yX4_lead wsX4_lead 2 43 D [(cI, .int)] [.ref (u 0), .int x1, .int x2] (wMo cI u S th K) (wMo cI u ((rLead S x1 x2).2.2) (nI (rLead S x1 x2).1) K) ((rLead S x1 x2).2.1) := by
  refine k_bodyM (cc := cX4_lead) (maxL := 4) (ret := (some .int)) (by decide) rfl (Nat.le_of_ble_eq_true rfl) ?_
  intro p e s m args below meth c H ls F hr hlk hl hP hK hD hS
  have F : CallFix p m c cX4_lead 4 s args wsX4_lead RX4 := F
  have hl : lv_has ls 4 [(0, .ref (u 0)), (1, .int x1), (2, .int x2)] := hl
  have hi0 := hI.gates
  have hi1 := hI.geese
  have hi2 := hI.guests
  refine lv_aload_n F.1 F.2.1 dX4_lead_0 rfl (lv_at hl 0 rfl) ?_
  refine lv_iconst (v := nI 0) F.1 F.2.1 dX4_lead_1 (by decide) ?_
  refine k_put F nX4_lead_X4 tyX4 tyX4_ok nmX4 hK.1 hP hD hS 0 rfl rfl 0 (by decide) (List.mem_of_getElem? (i := 1) rfl) rfl (by decide +kernel) (Nat.le_of_ble_eq_true rfl) dX4_lead_2 (wMo cI u S (nI 0) K) wMo_f0 (fun H locs hP hD hS => ?_)
  refine lv_aload_n F.1 F.2.1 dX4_lead_5 rfl (lv_at hl 0 rfl) ?_
  refine lv_iload_n F.1 F.2.1 dX4_lead_6 rfl (lv_at hl 1 rfl) ?_
  refine k_pV (n := 1) (rest := []) (v := bI (0 ≤ x1 ∧ x1 < nI (S 0 1))) F (c_X4_isGoose l D cI u S (nI 0) K x1 (by first | assumption | omega)) gX4_lead_X4_isGoose rfl (by decide +kernel) ⟨Nat.le_of_ble_eq_true rfl, Nat.le_of_ble_eq_true rfl⟩ rfl hl.1 rfl (Nat.le_of_ble_eq_true rfl) dX4_lead_7 ⟨Nat.zero_le _, Nat.zero_le _⟩ hK hP hS [0, 1, 2, 3, 4, 5] rfl (q0 := 0) (ci := 4) rfl rfl (fun H locs hP hS => ?_)
  refine k_ifeq_b (tgt := 21) F dX4_lead_10 (by decide) (fun h10 => ?_) (fun h10 => ?_)
  · skip
    refine lv_aload_n F.1 F.2.1 dX4_lead_21 rfl (lv_at hl 0 rfl) ?_
    refine lv_iconst (v := nI 1) F.1 F.2.1 dX4_lead_22 (by decide) ?_
    refine k_mI (n := 1) (rest := []) (v := nI 0) F (c_X4_fail l D cI u S (nI 0) K (nI 1)) gX4_lead_X4_fail rfl (by decide +kernel) ⟨Nat.le_of_ble_eq_true rfl, Nat.le_of_ble_eq_true rfl⟩ rfl hl.1 rfl (Nat.le_of_ble_eq_true rfl) dX4_lead_23 ⟨Nat.zero_le _, Nat.zero_le _⟩ hK hP hD hS [0, 1, 2, 3, 4, 5] rfl rfl rfl (wMo cI u S (nI 1) K) wMo_ms wMo_ad (q0 := 0) (ci := 4) rfl rfl (fun H locs hP hD hS => ?_)
    have e9 : rLead S x1 x2 = (1, nI 0, S) := by unfold rLead; rw [if_neg (fun q => h10 q.1)] <;> rfl
    exact k_retMI F hr hlk hP (by rw [e9] <;> rfl) hS (by rw [e9] <;> rfl) rfl dX4_lead_26
  · skip
    refine lv_aload_n F.1 F.2.1 dX4_lead_13 rfl (lv_at hl 0 rfl) ?_
    refine lv_iload_n F.1 F.2.1 dX4_lead_14 rfl (lv_at hl 2 rfl) ?_
    refine k_pV (n := 1) (rest := []) (v := bI (0 ≤ x2 ∧ x2 < nI (S 0 0))) F (c_X4_isGate l D cI u S (nI 0) K x2 (by first | assumption | omega)) gX4_lead_X4_isGate rfl (by decide +kernel) ⟨Nat.le_of_ble_eq_true rfl, Nat.le_of_ble_eq_true rfl⟩ rfl hl.1 rfl (Nat.le_of_ble_eq_true rfl) dX4_lead_15 ⟨Nat.zero_le _, Nat.zero_le _⟩ hK hP hS [0, 1, 2, 3, 4, 5] rfl (q0 := 0) (ci := 4) rfl rfl (fun H locs hP hS => ?_)
    refine k_ifne_b (tgt := 27) F dX4_lead_18 (by decide) (fun h18 => ?_) (fun h18 => ?_)
    · skip
      obtain ⟨g1, hg1, rfl⟩ := lt_nI (by omega) h10
      obtain ⟨g2, hg2, rfl⟩ := lt_nI (by omega) h18
      refine lv_aload_n F.1 F.2.1 dX4_lead_27 rfl (lv_at hl 0 rfl) ?_
      refine k_get (v := .ref (u 2)) F nX4_lead_X4 hK.1 hP 0 rfl rfl 5 (by decide) (List.mem_of_getElem? (i := 2) rfl) rfl dX4_lead_28 ?_
      refine lv_iload_n F.1 F.2.1 dX4_lead_31 rfl (lv_at hl 1 rfl) ?_
      refine k_iald (f := S 2) (n := 8) F hK.1 hP 2 0 rfl rfl (by omega) (by decide) dX4_lead_32 ?_
      refine lv_istore_n (lv' := [(3, .int (nI (S 2 g1))), (0, .ref (u 0)), (1, .int (nI g1)), (2, .int (nI g2))]) F.1 F.2.1 dX4_lead_33 rfl hl (by decide) rfl (fun ls hl => ?_)
      refine lv_aload_n F.1 F.2.1 dX4_lead_34 rfl (lv_at hl 1 rfl) ?_
      refine k_get (v := .ref (u 2)) F nX4_lead_X4 hK.1 hP 0 rfl rfl 5 (by decide) (List.mem_of_getElem? (i := 2) rfl) rfl dX4_lead_35 ?_
      refine lv_iload_n F.1 F.2.1 dX4_lead_38 rfl (lv_at hl 2 rfl) ?_
      refine lv_iload_n F.1 F.2.1 dX4_lead_39 rfl (lv_at hl 3 rfl) ?_
      refine k_iast (f := S 2) (n := 8) (k := g1) (x := g2) F hK.1 hP hD hS 2 0 rfl rfl (by omega) (by decide) dX4_lead_40 (wMo cI u (setf S 2 g1 g2) (nI 0) K) wMo_a2 (fun H locs hP hD hS => ?_)
      refine lv_iload_n F.1 F.2.1 dX4_lead_41 rfl (lv_at hl 0 rfl) ?_
      have e9 : rLead S (nI g1) (nI g2) = (0, nI (S 2 g1), (setf S 2 g1 g2)) := by unfold rLead; (try rw [cl_nI (show g1 < 2 ^ 31 by omega)]); (try rw [cl_nI (show g2 < 2 ^ 31 by omega)]); rw [if_pos ⟨h10, h18⟩] <;> rfl
      exact k_retMI F hr hlk hP (by rw [e9] <;> rfl) hS (by rw [e9] <;> rfl) rfl dX4_lead_42
    · skip
      refine lv_aload_n F.1 F.2.1 dX4_lead_21 rfl (lv_at hl 0 rfl) ?_
      refine lv_iconst (v := nI 1) F.1 F.2.1 dX4_lead_22 (by decide) ?_
      refine k_mI (n := 1) (rest := []) (v := nI 0) F (c_X4_fail l D cI u S (nI 0) K (nI 1)) gX4_lead_X4_fail rfl (by decide +kernel) ⟨Nat.le_of_ble_eq_true rfl, Nat.le_of_ble_eq_true rfl⟩ rfl hl.1 rfl (Nat.le_of_ble_eq_true rfl) dX4_lead_23 ⟨Nat.zero_le _, Nat.zero_le _⟩ hK hP hD hS [0, 1, 2, 3, 4, 5] rfl rfl rfl (wMo cI u S (nI 1) K) wMo_ms wMo_ad (q0 := 0) (ci := 4) rfl rfl (fun H locs hP hD hS => ?_)
      have e9 : rLead S x1 x2 = (1, nI 0, S) := by unfold rLead; rw [if_neg (fun q => h18 q.2)] <;> rfl
      exact k_retMI F hr hlk hP (by rw [e9] <;> rfl) hS (by rw [e9] <;> rfl) rfl dX4_lead_26
theorem nX4_giveCorns_X4 : ∀ x ∈ wsX40, x ∈ wsX4_giveCorns := fun _ h => List.mem_cons_of_mem _ (List.mem_append_right _ h)
set_option maxRecDepth 100000 in
set_option maxHeartbeats 4000000 in
theorem c_X4_giveCorns (l : Launch) (D : va_G) (cI : ClassId) (u : Nat → Nat) (S : Nat → Nat → Nat) (th : Int32) (K : Nat → Nat) (x1 : Int32) (x2 : Int32) (hI : Inv S) : MI l yX4_giveCorns wsX4_giveCorns 2 43 D [(cI, .int)] [.ref (u 0), .int x1, .int x2] (wMo cI u S th K) (wMo cI u ((rGive S x1 x2).2.2) (nI (rGive S x1 x2).1) K) ((rGive S x1 x2).2.1) := by
  refine k_bodyM (cc := cX4_giveCorns) (maxL := 3) (ret := (some .int)) (by decide) rfl (Nat.le_of_ble_eq_true rfl) ?_
  intro p e s m args below meth c H ls F hr hlk hl hP hK hD hS
  have F : CallFix p m c cX4_giveCorns 3 s args wsX4_giveCorns RX4 := F
  have hl : lv_has ls 3 [(0, .ref (u 0)), (1, .int x1), (2, .int x2)] := hl
  have hi0 := hI.gates
  have hi1 := hI.geese
  have hi2 := hI.guests
  refine lv_aload_n F.1 F.2.1 dX4_giveCorns_0 rfl (lv_at hl 0 rfl) ?_
  refine lv_iconst (v := nI 0) F.1 F.2.1 dX4_giveCorns_1 (by decide) ?_
  refine k_put F nX4_giveCorns_X4 tyX4 tyX4_ok nmX4 hK.1 hP hD hS 0 rfl rfl 0 (by decide) (List.mem_of_getElem? (i := 1) rfl) rfl (by decide +kernel) (Nat.le_of_ble_eq_true rfl) dX4_giveCorns_2 (wMo cI u S (nI 0) K) wMo_f0 (fun H locs hP hD hS => ?_)
  refine lv_aload_n F.1 F.2.1 dX4_giveCorns_5 rfl (lv_at hl 0 rfl) ?_
  refine lv_iload_n F.1 F.2.1 dX4_giveCorns_6 rfl (lv_at hl 1 rfl) ?_
  refine k_pV (n := 1) (rest := []) (v := bI (0 ≤ x1 ∧ x1 < nI (S 0 2))) F (c_X4_isVisitor l D cI u S (nI 0) K x1 (by first | assumption | omega)) gX4_giveCorns_X4_isVisitor rfl (by decide +kernel) ⟨Nat.le_of_ble_eq_true rfl, Nat.le_of_ble_eq_true rfl⟩ rfl hl.1 rfl (Nat.le_of_ble_eq_true rfl) dX4_giveCorns_7 ⟨Nat.zero_le _, Nat.zero_le _⟩ hK hP hS [0, 1, 2, 3, 4, 5] rfl (q0 := 0) (ci := 4) rfl rfl (fun H locs hP hS => ?_)
  refine k_ifne_b (tgt := 19) F dX4_giveCorns_10 (by decide) (fun h10 => ?_) (fun h10 => ?_)
  · skip
    refine lv_iload_n F.1 F.2.1 dX4_giveCorns_19 rfl (lv_at hl 2 rfl) ?_
    refine lv_iconst (v := nI 1) F.1 F.2.1 dX4_giveCorns_20 (by decide) ?_
    refine lv_bipush (v := nI 20) F.1 F.2.1 dX4_giveCorns_21 (by decide) ?_
    refine k_pS (n := 3) (rest := []) (v := bI ((nI 1) ≤ x2 ∧ x2 ≤ (nI 20))) F (c_X4_isIn l D cI x2 (nI 1) (nI 20)) gX4_giveCorns_X4_isIn rfl (by decide +kernel) ⟨Nat.le_of_ble_eq_true rfl, Nat.le_of_ble_eq_true rfl⟩ rfl hl.1 rfl (Nat.le_of_ble_eq_true rfl) dX4_giveCorns_23 ⟨Nat.zero_le _, Nat.zero_le _⟩ hK hP hS (fun H locs hP hS => ?_)
    refine k_ifne_b (tgt := 35) F dX4_giveCorns_26 (by decide) (fun h26 => ?_) (fun h26 => ?_)
    · skip
      obtain ⟨g1, hg1, rfl⟩ := lt_nI (by omega) h10
      obtain ⟨g2, hg2, rfl⟩ := in_nI (by decide) h26 (by decide)
      have hc9 := hI.has g1
      refine lv_aload_n F.1 F.2.1 dX4_giveCorns_35 rfl (lv_at hl 0 rfl) ?_
      refine lv_iload_n F.1 F.2.1 dX4_giveCorns_36 rfl (lv_at hl 1 rfl) ?_
      refine lv_iconst (v := nI 1) F.1 F.2.1 dX4_giveCorns_37 (by decide) ?_
      refine lv_bipush (v := nI 20) F.1 F.2.1 dX4_giveCorns_38 (by decide) ?_
      refine lv_aload_n F.1 F.2.1 dX4_giveCorns_40 rfl (lv_at hl 0 rfl) ?_
      refine lv_iload_n F.1 F.2.1 dX4_giveCorns_41 rfl (lv_at hl 1 rfl) ?_
      refine lv_iconst (v := nI 1) F.1 F.2.1 dX4_giveCorns_42 (by decide) ?_
      refine k_pV (n := 2) (rest := [.int (nI 20), .int (nI 1), .int (nI g1), .ref (u 0)]) (v := nI (S 8 g1)) F (c_X4_vi l D cI u S (nI 0) K g1 1 (by first | assumption | omega) (by first | assumption | omega)) gX4_giveCorns_X4_vi rfl (by decide +kernel) ⟨Nat.le_of_ble_eq_true rfl, Nat.le_of_ble_eq_true rfl⟩ rfl hl.1 rfl (Nat.le_of_ble_eq_true rfl) dX4_giveCorns_43 ⟨Nat.zero_le _, Nat.zero_le _⟩ hK hP hS [0, 1, 2, 3, 4, 5] rfl (q0 := 0) (ci := 4) rfl rfl (fun H locs hP hS => ?_)
      refine lv_iload_n F.1 F.2.1 dX4_giveCorns_46 rfl (lv_at hl 2 rfl) ?_
      refine k_iadd F dX4_giveCorns_47 ?_
      refine k_min F hl.1 (List.mem_of_getElem? (i := 2) rfl) (List.mem_of_getElem? (i := 3) rfl) (List.mem_of_getElem? (i := 4) rfl) (List.mem_of_getElem? (i := 5) rfl) (Nat.le_of_ble_eq_true rfl) (Nat.le_of_ble_eq_true rfl) ⟨Nat.zero_le _, Nat.zero_le _⟩ (by omega) (by omega) dX4_giveCorns_48 ?_
      refine k_mV (n := 3) (rest := []) F (c_X4_let l D cI u S (nI 0) K g1 1 (min 20 (S 8 g1 + g2)) (by first | assumption | omega) (by first | assumption | omega)) gX4_giveCorns_X4_let rfl (by decide +kernel) ⟨Nat.le_of_ble_eq_true rfl, Nat.le_of_ble_eq_true rfl⟩ rfl hl.1 rfl (Nat.le_of_ble_eq_true rfl) dX4_giveCorns_51 ⟨Nat.zero_le _, Nat.zero_le _⟩ hK hP hD hS [0, 1, 2, 3, 4, 5] rfl rfl rfl (wMo cI u (setf S 8 g1 (min 20 (S 8 g1 + g2))) (nI 0) K) wMo_ms wMo_ad (q0 := 0) (ci := 4) rfl rfl (fun H locs hP hD hS => ?_)
      refine lv_aload_n F.1 F.2.1 dX4_giveCorns_54 rfl (lv_at hl 0 rfl) ?_
      refine lv_iload_n F.1 F.2.1 dX4_giveCorns_55 rfl (lv_at hl 1 rfl) ?_
      refine lv_iconst (v := nI 1) F.1 F.2.1 dX4_giveCorns_56 (by decide) ?_
      refine k_pV (n := 2) (rest := []) (v := nI ((setf S 8 g1 (min 20 (S 8 g1 + g2))) 8 g1)) F (c_X4_vi l D cI u (setf S 8 g1 (min 20 (S 8 g1 + g2))) (nI 0) K g1 1 (by first | assumption | omega) (by first | assumption | omega)) gX4_giveCorns_X4_vi rfl (by decide +kernel) ⟨Nat.le_of_ble_eq_true rfl, Nat.le_of_ble_eq_true rfl⟩ rfl hl.1 rfl (Nat.le_of_ble_eq_true rfl) dX4_giveCorns_57 ⟨Nat.zero_le _, Nat.zero_le _⟩ hK hP hS [0, 1, 2, 3, 4, 5] rfl (q0 := 0) (ci := 4) rfl rfl (fun H locs hP hS => ?_)
      rw [setf_k]
      have e9 : rGive S (nI g1) (nI g2) = (0, nI (min 20 (S 8 g1 + g2)), (setf S 8 g1 (min 20 (S 8 g1 + g2)))) := by unfold rGive; (try rw [cl_nI (show g1 < 2 ^ 31 by omega)]); (try rw [cl_nI (show g2 < 2 ^ 31 by omega)]); rw [if_pos h10, if_pos h26] <;> rfl
      exact k_retMI F hr hlk hP (by rw [e9] <;> rfl) hS (by rw [e9] <;> rfl) rfl dX4_giveCorns_60
    · skip
      refine lv_aload_n F.1 F.2.1 dX4_giveCorns_29 rfl (lv_at hl 0 rfl) ?_
      refine lv_iconst (v := nI 2) F.1 F.2.1 dX4_giveCorns_30 (by decide) ?_
      refine k_mI (n := 1) (rest := []) (v := nI 0) F (c_X4_fail l D cI u S (nI 0) K (nI 2)) gX4_giveCorns_X4_fail rfl (by decide +kernel) ⟨Nat.le_of_ble_eq_true rfl, Nat.le_of_ble_eq_true rfl⟩ rfl hl.1 rfl (Nat.le_of_ble_eq_true rfl) dX4_giveCorns_31 ⟨Nat.zero_le _, Nat.zero_le _⟩ hK hP hD hS [0, 1, 2, 3, 4, 5] rfl rfl rfl (wMo cI u S (nI 2) K) wMo_ms wMo_ad (q0 := 0) (ci := 4) rfl rfl (fun H locs hP hD hS => ?_)
      have e9 : rGive S x1 x2 = (2, nI 0, S) := by unfold rGive; rw [if_pos h10, if_neg h26] <;> rfl
      exact k_retMI F hr hlk hP (by rw [e9] <;> rfl) hS (by rw [e9] <;> rfl) rfl dX4_giveCorns_34
  · skip
    refine lv_aload_n F.1 F.2.1 dX4_giveCorns_13 rfl (lv_at hl 0 rfl) ?_
    refine lv_iconst (v := nI 1) F.1 F.2.1 dX4_giveCorns_14 (by decide) ?_
    refine k_mI (n := 1) (rest := []) (v := nI 0) F (c_X4_fail l D cI u S (nI 0) K (nI 1)) gX4_giveCorns_X4_fail rfl (by decide +kernel) ⟨Nat.le_of_ble_eq_true rfl, Nat.le_of_ble_eq_true rfl⟩ rfl hl.1 rfl (Nat.le_of_ble_eq_true rfl) dX4_giveCorns_15 ⟨Nat.zero_le _, Nat.zero_le _⟩ hK hP hD hS [0, 1, 2, 3, 4, 5] rfl rfl rfl (wMo cI u S (nI 1) K) wMo_ms wMo_ad (q0 := 0) (ci := 4) rfl rfl (fun H locs hP hD hS => ?_)
    have e9 : rGive S x1 x2 = (1, nI 0, S) := by unfold rGive; rw [if_neg h10] <;> rfl
    exact k_retMI F hr hlk hP (by rw [e9] <;> rfl) hS (by rw [e9] <;> rfl) rfl dX4_giveCorns_18
theorem nX4_bribe_X4 : ∀ x ∈ wsX40, x ∈ wsX4_bribe := fun _ h => List.mem_cons_of_mem _ (List.mem_append_right _ h)
set_option maxRecDepth 100000 in
set_option maxHeartbeats 4000000 in
theorem c_X4_bribe (l : Launch) (D : va_G) (cI : ClassId) (u : Nat → Nat) (S : Nat → Nat → Nat) (th : Int32) (K : Nat → Nat) (x1 : Int32) (x2 : Int32) (hI : Inv S) : MI l yX4_bribe wsX4_bribe 2 45 D [(cI, .int)] [.ref (u 0), .int x1, .int x2] (wMo cI u S th K) (wMo cI u ((rBribe S x1 x2).2.2) (nI (rBribe S x1 x2).1) K) ((rBribe S x1 x2).2.1) := by
  refine k_bodyM (cc := cX4_bribe) (maxL := 3) (ret := (some .int)) (by decide) rfl (Nat.le_of_ble_eq_true rfl) ?_
  intro p e s m args below meth c H ls F hr hlk hl hP hK hD hS
  have F : CallFix p m c cX4_bribe 3 s args wsX4_bribe RX4 := F
  have hl : lv_has ls 3 [(0, .ref (u 0)), (1, .int x1), (2, .int x2)] := hl
  have hi0 := hI.gates
  have hi1 := hI.geese
  have hi2 := hI.guests
  refine lv_aload_n F.1 F.2.1 dX4_bribe_0 rfl (lv_at hl 0 rfl) ?_
  refine lv_iconst (v := nI 0) F.1 F.2.1 dX4_bribe_1 (by decide) ?_
  refine k_put F nX4_bribe_X4 tyX4 tyX4_ok nmX4 hK.1 hP hD hS 0 rfl rfl 0 (by decide) (List.mem_of_getElem? (i := 1) rfl) rfl (by decide +kernel) (Nat.le_of_ble_eq_true rfl) dX4_bribe_2 (wMo cI u S (nI 0) K) wMo_f0 (fun H locs hP hD hS => ?_)
  refine lv_aload_n F.1 F.2.1 dX4_bribe_5 rfl (lv_at hl 0 rfl) ?_
  refine lv_iload_n F.1 F.2.1 dX4_bribe_6 rfl (lv_at hl 1 rfl) ?_
  refine k_pV (n := 1) (rest := []) (v := bI (0 ≤ x1 ∧ x1 < nI (S 0 2))) F (c_X4_isVisitor l D cI u S (nI 0) K x1 (by first | assumption | omega)) gX4_bribe_X4_isVisitor rfl (by decide +kernel) ⟨Nat.le_of_ble_eq_true rfl, Nat.le_of_ble_eq_true rfl⟩ rfl hl.1 rfl (Nat.le_of_ble_eq_true rfl) dX4_bribe_7 ⟨Nat.zero_le _, Nat.zero_le _⟩ hK hP hS [0, 1, 2, 3, 4, 5] rfl (q0 := 0) (ci := 4) rfl rfl (fun H locs hP hS => ?_)
  refine k_ifeq_b (tgt := 21) F dX4_bribe_10 (by decide) (fun h10 => ?_) (fun h10 => ?_)
  · skip
    refine lv_aload_n F.1 F.2.1 dX4_bribe_21 rfl (lv_at hl 0 rfl) ?_
    refine lv_iconst (v := nI 1) F.1 F.2.1 dX4_bribe_22 (by decide) ?_
    refine k_mI (n := 1) (rest := []) (v := nI 0) F (c_X4_fail l D cI u S (nI 0) K (nI 1)) gX4_bribe_X4_fail rfl (by decide +kernel) ⟨Nat.le_of_ble_eq_true rfl, Nat.le_of_ble_eq_true rfl⟩ rfl hl.1 rfl (Nat.le_of_ble_eq_true rfl) dX4_bribe_23 ⟨Nat.zero_le _, Nat.zero_le _⟩ hK hP hD hS [0, 1, 2, 3, 4, 5] rfl rfl rfl (wMo cI u S (nI 1) K) wMo_ms wMo_ad (q0 := 0) (ci := 4) rfl rfl (fun H locs hP hD hS => ?_)
    have e9 : rBribe S x1 x2 = (1, nI 0, S) := by unfold rBribe; rw [if_neg (fun q => h10 q.1)] <;> rfl
    exact k_retMI F hr hlk hP (by rw [e9] <;> rfl) hS (by rw [e9] <;> rfl) rfl dX4_bribe_26
  · skip
    refine lv_aload_n F.1 F.2.1 dX4_bribe_13 rfl (lv_at hl 0 rfl) ?_
    refine lv_iload_n F.1 F.2.1 dX4_bribe_14 rfl (lv_at hl 2 rfl) ?_
    refine k_pV (n := 1) (rest := []) (v := bI (0 ≤ x2 ∧ x2 < nI (S 0 1))) F (c_X4_isGoose l D cI u S (nI 0) K x2 (by first | assumption | omega)) gX4_bribe_X4_isGoose rfl (by decide +kernel) ⟨Nat.le_of_ble_eq_true rfl, Nat.le_of_ble_eq_true rfl⟩ rfl hl.1 rfl (Nat.le_of_ble_eq_true rfl) dX4_bribe_15 ⟨Nat.zero_le _, Nat.zero_le _⟩ hK hP hS [0, 1, 2, 3, 4, 5] rfl (q0 := 0) (ci := 4) rfl rfl (fun H locs hP hS => ?_)
    refine k_ifne_b (tgt := 27) F dX4_bribe_18 (by decide) (fun h18 => ?_) (fun h18 => ?_)
    · skip
      obtain ⟨g1, hg1, rfl⟩ := lt_nI (by omega) h10
      obtain ⟨g2, hg2, rfl⟩ := lt_nI (by omega) h18
      have hc9 := hI.has g1
      have hk9 := hI.keep g2
      have hw9 := hI.went g1
      have hm9 := hI.mood1 g2 hg2
      refine lv_aload_n F.1 F.2.1 dX4_bribe_27 rfl (lv_at hl 0 rfl) ?_
      refine lv_iload_n F.1 F.2.1 dX4_bribe_28 rfl (lv_at hl 1 rfl) ?_
      refine lv_iconst (v := nI 1) F.1 F.2.1 dX4_bribe_29 (by decide) ?_
      refine k_pV (n := 2) (rest := []) (v := nI (S 8 g1)) F (c_X4_vi l D cI u S (nI 0) K g1 1 (by first | assumption | omega) (by first | assumption | omega)) gX4_bribe_X4_vi rfl (by decide +kernel) ⟨Nat.le_of_ble_eq_true rfl, Nat.le_of_ble_eq_true rfl⟩ rfl hl.1 rfl (Nat.le_of_ble_eq_true rfl) dX4_bribe_30 ⟨Nat.zero_le _, Nat.zero_le _⟩ hK hP hS [0, 1, 2, 3, 4, 5] rfl (q0 := 0) (ci := 4) rfl rfl (fun H locs hP hS => ?_)
      refine k_if_eq (tgt := 59) F (by omega) dX4_bribe_33 (by decide) (fun h33 => ?_) (fun h33 => ?_)
      · skip
        refine lv_aload_n F.1 F.2.1 dX4_bribe_59 rfl (lv_at hl 0 rfl) ?_
        refine lv_iconst (v := nI 2) F.1 F.2.1 dX4_bribe_60 (by decide) ?_
        refine k_mI (n := 1) (rest := []) (v := nI 0) F (c_X4_fail l D cI u S (nI 0) K (nI 2)) gX4_bribe_X4_fail rfl (by decide +kernel) ⟨Nat.le_of_ble_eq_true rfl, Nat.le_of_ble_eq_true rfl⟩ rfl hl.1 rfl (Nat.le_of_ble_eq_true rfl) dX4_bribe_61 ⟨Nat.zero_le _, Nat.zero_le _⟩ hK hP hD hS [0, 1, 2, 3, 4, 5] rfl rfl rfl (wMo cI u S (nI 2) K) wMo_ms wMo_ad (q0 := 0) (ci := 4) rfl rfl (fun H locs hP hD hS => ?_)
        have e9 : rBribe S (nI g1) (nI g2) = (2, nI 0, S) := by unfold rBribe; (try rw [cl_nI (show g1 < 2 ^ 31 by omega)]); (try rw [cl_nI (show g2 < 2 ^ 31 by omega)]); rw [if_pos ⟨h10, h18⟩, if_neg (show ¬ (0 < S 8 g1 ∧ ¬ S 0 0 ≤ S 7 g1 ∧ S 2 g2 = S 7 g1) by omega)] <;> rfl
        exact k_retMI F hr hlk hP (by rw [e9] <;> rfl) hS (by rw [e9] <;> rfl) rfl dX4_bribe_64
      · skip
        refine lv_aload_n F.1 F.2.1 dX4_bribe_36 rfl (lv_at hl 0 rfl) ?_
        refine lv_iload_n F.1 F.2.1 dX4_bribe_37 rfl (lv_at hl 1 rfl) ?_
        refine k_pV (n := 1) (rest := []) (v := bI (S 0 0 ≤ S 7 g1)) F (c_X4_isIn_ l D cI u S (nI 0) K g1 hI (by first | assumption | omega)) gX4_bribe_X4_isIn_ rfl (by decide +kernel) ⟨Nat.le_of_ble_eq_true rfl, Nat.le_of_ble_eq_true rfl⟩ rfl hl.1 rfl (Nat.le_of_ble_eq_true rfl) dX4_bribe_38 ⟨Nat.zero_le _, Nat.zero_le _⟩ hK hP hS [0, 1, 2, 3, 4, 5] rfl (q0 := 0) (ci := 4) rfl rfl (fun H locs hP hS => ?_)
        refine k_ifne_b (tgt := 59) F dX4_bribe_41 (by decide) (fun h41 => ?_) (fun h41 => ?_)
        · skip
          refine lv_aload_n F.1 F.2.1 dX4_bribe_59 rfl (lv_at hl 0 rfl) ?_
          refine lv_iconst (v := nI 2) F.1 F.2.1 dX4_bribe_60 (by decide) ?_
          refine k_mI (n := 1) (rest := []) (v := nI 0) F (c_X4_fail l D cI u S (nI 0) K (nI 2)) gX4_bribe_X4_fail rfl (by decide +kernel) ⟨Nat.le_of_ble_eq_true rfl, Nat.le_of_ble_eq_true rfl⟩ rfl hl.1 rfl (Nat.le_of_ble_eq_true rfl) dX4_bribe_61 ⟨Nat.zero_le _, Nat.zero_le _⟩ hK hP hD hS [0, 1, 2, 3, 4, 5] rfl rfl rfl (wMo cI u S (nI 2) K) wMo_ms wMo_ad (q0 := 0) (ci := 4) rfl rfl (fun H locs hP hD hS => ?_)
          have e9 : rBribe S (nI g1) (nI g2) = (2, nI 0, S) := by unfold rBribe; (try rw [cl_nI (show g1 < 2 ^ 31 by omega)]); (try rw [cl_nI (show g2 < 2 ^ 31 by omega)]); rw [if_pos ⟨h10, h18⟩, if_neg (show ¬ (0 < S 8 g1 ∧ ¬ S 0 0 ≤ S 7 g1 ∧ S 2 g2 = S 7 g1) by omega)] <;> rfl
          exact k_retMI F hr hlk hP (by rw [e9] <;> rfl) hS (by rw [e9] <;> rfl) rfl dX4_bribe_64
        · skip
          refine lv_aload_n F.1 F.2.1 dX4_bribe_44 rfl (lv_at hl 0 rfl) ?_
          refine k_get (v := .ref (u 2)) F nX4_bribe_X4 hK.1 hP 0 rfl rfl 5 (by decide) (List.mem_of_getElem? (i := 2) rfl) rfl dX4_bribe_45 ?_
          refine lv_iload_n F.1 F.2.1 dX4_bribe_48 rfl (lv_at hl 2 rfl) ?_
          refine k_iald (f := S 2) (n := 8) F hK.1 hP 2 0 rfl rfl (by omega) (by decide) dX4_bribe_49 ?_
          refine lv_aload_n F.1 F.2.1 dX4_bribe_50 rfl (lv_at hl 0 rfl) ?_
          refine lv_iload_n F.1 F.2.1 dX4_bribe_51 rfl (lv_at hl 1 rfl) ?_
          refine lv_iconst (v := nI 0) F.1 F.2.1 dX4_bribe_52 (by decide) ?_
          refine k_pV (n := 2) (rest := [.int (nI (S 2 g2))]) (v := nI (S 7 g1)) F (c_X4_vi l D cI u S (nI 0) K g1 0 (by first | assumption | omega) (by first | assumption | omega)) gX4_bribe_X4_vi rfl (by decide +kernel) ⟨Nat.le_of_ble_eq_true rfl, Nat.le_of_ble_eq_true rfl⟩ rfl hl.1 rfl (Nat.le_of_ble_eq_true rfl) dX4_bribe_53 ⟨Nat.zero_le _, Nat.zero_le _⟩ hK hP hS [0, 1, 2, 3, 4, 5] rfl (q0 := 0) (ci := 4) rfl rfl (fun H locs hP hS => ?_)
          refine k_icmp_eq (tgt := 65) F (by omega) (by omega) dX4_bribe_56 (by decide) (fun h56 => ?_) (fun h56 => ?_)
          · skip
            refine lv_aload_n F.1 F.2.1 dX4_bribe_65 rfl (lv_at hl 0 rfl) ?_
            refine lv_iload_n F.1 F.2.1 dX4_bribe_66 rfl (lv_at hl 1 rfl) ?_
            refine lv_iload_n F.1 F.2.1 dX4_bribe_67 rfl (lv_at hl 2 rfl) ?_
            refine k_mV (n := 2) (rest := []) F (c_X4_feed l D cI u S (nI 0) K g1 g2 hI (by first | assumption | omega) (by first | assumption | omega) (by first | assumption | omega) (by first | assumption | omega)) gX4_bribe_X4_feed rfl (by decide +kernel) ⟨Nat.le_of_ble_eq_true rfl, Nat.le_of_ble_eq_true rfl⟩ rfl hl.1 rfl (Nat.le_of_ble_eq_true rfl) dX4_bribe_68 ⟨Nat.zero_le _, Nat.zero_le _⟩ hK hP hD hS [0, 1, 2, 3, 4, 5] rfl rfl rfl (wMo cI u (payS S g1 g2) (nI 0) K) wMo_ms wMo_ad (q0 := 0) (ci := 4) rfl rfl (fun H locs hP hD hS => ?_)
            refine lv_aload_n F.1 F.2.1 dX4_bribe_71 rfl (lv_at hl 0 rfl) ?_
            refine lv_iload_n F.1 F.2.1 dX4_bribe_72 rfl (lv_at hl 2 rfl) ?_
            refine lv_iconst (v := nI 0) F.1 F.2.1 dX4_bribe_73 (by decide) ?_
            refine k_pV (n := 2) (rest := []) (v := nI ((payS S g1 g2) 3 g2)) F (c_X4_go l D cI u (payS S g1 g2) (nI 0) K g2 0 (by first | assumption | omega) (by first | assumption | omega)) gX4_bribe_X4_go rfl (by decide +kernel) ⟨Nat.le_of_ble_eq_true rfl, Nat.le_of_ble_eq_true rfl⟩ rfl hl.1 rfl (Nat.le_of_ble_eq_true rfl) dX4_bribe_74 ⟨Nat.zero_le _, Nat.zero_le _⟩ hK hP hS [0, 1, 2, 3, 4, 5] rfl (q0 := 0) (ci := 4) rfl rfl (fun H locs hP hS => ?_)
            rw [pay_k]
            have e9 : rBribe S (nI g1) (nI g2) = (0, nI (max 1 (S 3 g2 - 1)), payS S g1 g2) := by unfold rBribe; (try rw [cl_nI (show g1 < 2 ^ 31 by omega)]); (try rw [cl_nI (show g2 < 2 ^ 31 by omega)]); rw [if_pos ⟨h10, h18⟩, if_pos (show 0 < S 8 g1 ∧ ¬ S 0 0 ≤ S 7 g1 ∧ S 2 g2 = S 7 g1 by omega)] <;> rfl
            exact k_retMI F hr hlk hP (by rw [e9] <;> rfl) hS (by rw [e9] <;> rfl) rfl dX4_bribe_77
          · skip
            refine lv_aload_n F.1 F.2.1 dX4_bribe_59 rfl (lv_at hl 0 rfl) ?_
            refine lv_iconst (v := nI 2) F.1 F.2.1 dX4_bribe_60 (by decide) ?_
            refine k_mI (n := 1) (rest := []) (v := nI 0) F (c_X4_fail l D cI u S (nI 0) K (nI 2)) gX4_bribe_X4_fail rfl (by decide +kernel) ⟨Nat.le_of_ble_eq_true rfl, Nat.le_of_ble_eq_true rfl⟩ rfl hl.1 rfl (Nat.le_of_ble_eq_true rfl) dX4_bribe_61 ⟨Nat.zero_le _, Nat.zero_le _⟩ hK hP hD hS [0, 1, 2, 3, 4, 5] rfl rfl rfl (wMo cI u S (nI 2) K) wMo_ms wMo_ad (q0 := 0) (ci := 4) rfl rfl (fun H locs hP hD hS => ?_)
            have e9 : rBribe S (nI g1) (nI g2) = (2, nI 0, S) := by unfold rBribe; (try rw [cl_nI (show g1 < 2 ^ 31 by omega)]); (try rw [cl_nI (show g2 < 2 ^ 31 by omega)]); rw [if_pos ⟨h10, h18⟩, if_neg (show ¬ (0 < S 8 g1 ∧ ¬ S 0 0 ≤ S 7 g1 ∧ S 2 g2 = S 7 g1) by omega)] <;> rfl
            exact k_retMI F hr hlk hP (by rw [e9] <;> rfl) hS (by rw [e9] <;> rfl) rfl dX4_bribe_64
    · skip
      refine lv_aload_n F.1 F.2.1 dX4_bribe_21 rfl (lv_at hl 0 rfl) ?_
      refine lv_iconst (v := nI 1) F.1 F.2.1 dX4_bribe_22 (by decide) ?_
      refine k_mI (n := 1) (rest := []) (v := nI 0) F (c_X4_fail l D cI u S (nI 0) K (nI 1)) gX4_bribe_X4_fail rfl (by decide +kernel) ⟨Nat.le_of_ble_eq_true rfl, Nat.le_of_ble_eq_true rfl⟩ rfl hl.1 rfl (Nat.le_of_ble_eq_true rfl) dX4_bribe_23 ⟨Nat.zero_le _, Nat.zero_le _⟩ hK hP hD hS [0, 1, 2, 3, 4, 5] rfl rfl rfl (wMo cI u S (nI 1) K) wMo_ms wMo_ad (q0 := 0) (ci := 4) rfl rfl (fun H locs hP hD hS => ?_)
      have e9 : rBribe S x1 x2 = (1, nI 0, S) := by unfold rBribe; rw [if_neg (fun q => h18 q.2)] <;> rfl
      exact k_retMI F hr hlk hP (by rw [e9] <;> rfl) hS (by rw [e9] <;> rfl) rfl dX4_bribe_26
theorem nX4_passBeats_X4 : ∀ x ∈ wsX40, x ∈ wsX4_passBeats := fun _ h => List.mem_cons_of_mem _ (List.mem_append_right _ h)
set_option maxRecDepth 100000 in
set_option maxHeartbeats 4000000 in
theorem c_X4_passBeats (l : Launch) (D : va_G) (cI : ClassId) (u : Nat → Nat) (S : Nat → Nat → Nat) (th : Int32) (K : Nat → Nat) (x1 : Int32) (hI : Inv S) : MI l yX4_passBeats wsX4_passBeats 6 135 D [(cI, .int)] [.ref (u 0), .int x1] (wMo cI u S th K) (wMo cI u ((rPass S x1).2.2) (nI (rPass S x1).1) K) ((rPass S x1).2.1) := by
  refine k_bodyM (cc := cX4_passBeats) (maxL := 3) (ret := (some .int)) (by decide) rfl (Nat.le_of_ble_eq_true rfl) ?_
  intro p e s m args below meth c H ls F hr hlk hl hP hK hD hS
  have F : CallFix p m c cX4_passBeats 3 s args wsX4_passBeats RX4 := F
  have hl : lv_has ls 3 [(0, .ref (u 0)), (1, .int x1)] := hl
  have hi0 := hI.gates
  have hi1 := hI.geese
  have hi2 := hI.guests
  refine lv_aload_n F.1 F.2.1 dX4_passBeats_0 rfl (lv_at hl 0 rfl) ?_
  refine lv_iconst (v := nI 0) F.1 F.2.1 dX4_passBeats_1 (by decide) ?_
  refine k_put F nX4_passBeats_X4 tyX4 tyX4_ok nmX4 hK.1 hP hD hS 0 rfl rfl 0 (by decide) (List.mem_of_getElem? (i := 1) rfl) rfl (by decide +kernel) (Nat.le_of_ble_eq_true rfl) dX4_passBeats_2 (wMo cI u S (nI 0) K) wMo_f0 (fun H locs hP hD hS => ?_)
  refine lv_iload_n F.1 F.2.1 dX4_passBeats_5 rfl (lv_at hl 1 rfl) ?_
  refine lv_iconst (v := nI 1) F.1 F.2.1 dX4_passBeats_6 (by decide) ?_
  refine lv_bipush (v := nI 60) F.1 F.2.1 dX4_passBeats_7 (by decide) ?_
  refine k_pS (n := 3) (rest := []) (v := bI ((nI 1) ≤ x1 ∧ x1 ≤ (nI 60))) F (c_X4_isIn l D cI x1 (nI 1) (nI 60)) gX4_passBeats_X4_isIn rfl (by decide +kernel) ⟨Nat.le_of_ble_eq_true rfl, Nat.le_of_ble_eq_true rfl⟩ rfl hl.1 rfl (Nat.le_of_ble_eq_true rfl) dX4_passBeats_9 ⟨Nat.zero_le _, Nat.zero_le _⟩ hK hP hS (fun H locs hP hS => ?_)
  refine k_ifne_b (tgt := 21) F dX4_passBeats_12 (by decide) (fun h12 => ?_) (fun h12 => ?_)
  · skip
    obtain ⟨g1, hg1, rfl⟩ := in_nI (by decide) h12 (by decide)
    refine lv_aload_n F.1 F.2.1 dX4_passBeats_21 rfl (lv_at hl 0 rfl) ?_
    refine k_pV (n := 0) (rest := []) (v := nI (inN S (S 0 2))) F (c_X4_inside l D cI u S (nI 0) K (by first | exact hI | exact inv_beatsN hI _)) gX4_passBeats_X4_inside rfl (by decide +kernel) ⟨Nat.le_of_ble_eq_true rfl, Nat.le_of_ble_eq_true rfl⟩ rfl hl.1 rfl (Nat.le_of_ble_eq_true rfl) dX4_passBeats_22 ⟨Nat.zero_le _, Nat.zero_le _⟩ hK hP hS [0, 1, 2, 3, 4, 5] rfl (q0 := 0) (ci := 4) rfl rfl (fun H locs hP hS => ?_)
    refine lv_istore_n (lv' := [(2, .int (nI (inN S (S 0 2)))), (0, .ref (u 0)), (1, .int (nI g1))]) F.1 F.2.1 dX4_passBeats_25 rfl hl (by decide) rfl (fun ls hl => ?_)
    refine lv_aload_n F.1 F.2.1 dX4_passBeats_26 rfl (lv_at hl 1 rfl) ?_
    refine lv_iload_n F.1 F.2.1 dX4_passBeats_27 rfl (lv_at hl 2 rfl) ?_
    refine k_mV (n := 1) (rest := []) F (c_X4_beatsOn l D cI u S (nI 0) K g1 hI (by first | assumption | omega)) gX4_passBeats_X4_beatsOn rfl (by decide +kernel) ⟨Nat.le_of_ble_eq_true rfl, Nat.le_of_ble_eq_true rfl⟩ rfl hl.1 rfl (Nat.le_of_ble_eq_true rfl) dX4_passBeats_28 ⟨Nat.zero_le _, Nat.zero_le _⟩ hK hP hD hS [0, 1, 2, 3, 4, 5] rfl rfl rfl (wMo cI u (beatsN S g1) (nI 0) K) wMo_ms wMo_ad (q0 := 0) (ci := 4) rfl rfl (fun H locs hP hD hS => ?_)
    refine lv_aload_n F.1 F.2.1 dX4_passBeats_31 rfl (lv_at hl 1 rfl) ?_
    refine k_pV (n := 0) (rest := []) (v := nI (inN (beatsN S g1) ((beatsN S g1) 0 2))) F (c_X4_inside l D cI u (beatsN S g1) (nI 0) K (by first | exact hI | exact inv_beatsN hI _)) gX4_passBeats_X4_inside rfl (by decide +kernel) ⟨Nat.le_of_ble_eq_true rfl, Nat.le_of_ble_eq_true rfl⟩ rfl hl.1 rfl (Nat.le_of_ble_eq_true rfl) dX4_passBeats_32 ⟨Nat.zero_le _, Nat.zero_le _⟩ hK hP hS [0, 1, 2, 3, 4, 5] rfl (q0 := 0) (ci := 4) rfl rfl (fun H locs hP hS => ?_)
    refine lv_iload_n F.1 F.2.1 dX4_passBeats_35 rfl (lv_at hl 0 rfl) ?_
    refine lv_isub F.1 F.2.1 dX4_passBeats_36 ?_
    have e9 : rPass S (nI g1) = (0, (nI (inN (beatsN S g1) ((beatsN S g1) 0 2)) - nI (inN S (S 0 2))), beatsN S g1) := by unfold rPass; (try rw [cl_nI (show g1 < 2 ^ 31 by omega)]); rw [if_pos h12] <;> rfl
    exact k_retMI F hr hlk hP (by rw [e9] <;> rfl) hS (by rw [e9] <;> rfl) rfl dX4_passBeats_37
  · skip
    refine lv_aload_n F.1 F.2.1 dX4_passBeats_15 rfl (lv_at hl 0 rfl) ?_
    refine lv_iconst (v := nI 1) F.1 F.2.1 dX4_passBeats_16 (by decide) ?_
    refine k_mI (n := 1) (rest := []) (v := nI 0) F (c_X4_fail l D cI u S (nI 0) K (nI 1)) gX4_passBeats_X4_fail rfl (by decide +kernel) ⟨Nat.le_of_ble_eq_true rfl, Nat.le_of_ble_eq_true rfl⟩ rfl hl.1 rfl (Nat.le_of_ble_eq_true rfl) dX4_passBeats_17 ⟨Nat.zero_le _, Nat.zero_le _⟩ hK hP hD hS [0, 1, 2, 3, 4, 5] rfl rfl rfl (wMo cI u S (nI 1) K) wMo_ms wMo_ad (q0 := 0) (ci := 4) rfl rfl (fun H locs hP hD hS => ?_)
    have e9 : rPass S x1 = (1, nI 0, S) := by unfold rPass; rw [if_neg h12] <;> rfl
    exact k_retMI F hr hlk hP (by rw [e9] <;> rfl) hS (by rw [e9] <;> rfl) rfl dX4_passBeats_20
theorem nX4_beats_X4 : ∀ x ∈ wsX40, x ∈ wsX4_beats := fun _ h => List.mem_cons_of_mem _ (List.mem_append_right _ h)
set_option maxRecDepth 100000 in
set_option maxHeartbeats 4000000 in
theorem c_X4_beats (l : Launch) (D : va_G) (cI : ClassId) (u : Nat → Nat) (S : Nat → Nat → Nat) (th : Int32) (K : Nat → Nat) (hI : Inv S) : MI l yX4_beats wsX4_beats 1 21 D [(cI, .int)] [.ref (u 0)] (wMo cI u S th K) (wMo cI u S (nI 0) K) (nI (S 0 3)) := by
  refine k_bodyM (cc := cX4_beats) (maxL := 1) (ret := (some .int)) (by decide) rfl (Nat.le_of_ble_eq_true rfl) ?_
  intro p e s m args below meth c H ls F hr hlk hl hP hK hD hS
  have F : CallFix p m c cX4_beats 1 s args wsX4_beats RX4 := F
  have hl : lv_has ls 1 [(0, .ref (u 0))] := hl
  have hi0 := hI.gates
  have hi1 := hI.geese
  have hi2 := hI.guests
  refine lv_aload_n F.1 F.2.1 dX4_beats_0 rfl (lv_at hl 0 rfl) ?_
  refine lv_aload_n F.1 F.2.1 dX4_beats_1 rfl (lv_at hl 0 rfl) ?_
  refine k_get (v := .ref (u 4)) F nX4_beats_X4 hK.1 hP 0 rfl rfl 7 (by decide) (List.mem_of_getElem? (i := 1) rfl) rfl dX4_beats_2 ?_
  refine lv_iconst (v := nI 0) F.1 F.2.1 dX4_beats_5 (by decide) ?_
  refine k_iald (f := encN S) (n := 59) F hK.1 hP 4 0 rfl rfl (by omega) (by decide) dX4_beats_6 ?_
  refine k_mI (n := 1) (rest := []) (v := nI (S 0 3)) F (c_X4_told l D cI u S th K (nI (S 0 3))) gX4_beats_X4_told rfl (by decide +kernel) ⟨Nat.le_of_ble_eq_true rfl, Nat.le_of_ble_eq_true rfl⟩ rfl hl.1 rfl (Nat.le_of_ble_eq_true rfl) dX4_beats_7 ⟨Nat.zero_le _, Nat.zero_le _⟩ hK hP hD hS [0, 1, 2, 3, 4, 5] rfl rfl rfl (wMo cI u S (nI 0) K) wMo_ms wMo_ad (q0 := 0) (ci := 4) rfl rfl (fun H locs hP hD hS => ?_)
  exact k_retMI F hr hlk hP rfl hS rfl rfl dX4_beats_10
theorem nX4_gates_X4 : ∀ x ∈ wsX40, x ∈ wsX4_gates := fun _ h => List.mem_cons_of_mem _ (List.mem_append_right _ h)
set_option maxRecDepth 100000 in
set_option maxHeartbeats 4000000 in
theorem c_X4_gates (l : Launch) (D : va_G) (cI : ClassId) (u : Nat → Nat) (S : Nat → Nat → Nat) (th : Int32) (K : Nat → Nat) (hI : Inv S) : MI l yX4_gates wsX4_gates 1 21 D [(cI, .int)] [.ref (u 0)] (wMo cI u S th K) (wMo cI u S (nI 0) K) (nI (S 0 0)) := by
  refine k_bodyM (cc := cX4_gates) (maxL := 1) (ret := (some .int)) (by decide) rfl (Nat.le_of_ble_eq_true rfl) ?_
  intro p e s m args below meth c H ls F hr hlk hl hP hK hD hS
  have F : CallFix p m c cX4_gates 1 s args wsX4_gates RX4 := F
  have hl : lv_has ls 1 [(0, .ref (u 0))] := hl
  have hi0 := hI.gates
  have hi1 := hI.geese
  have hi2 := hI.guests
  refine lv_aload_n F.1 F.2.1 dX4_gates_0 rfl (lv_at hl 0 rfl) ?_
  refine lv_aload_n F.1 F.2.1 dX4_gates_1 rfl (lv_at hl 0 rfl) ?_
  refine k_get (v := .int (nI (S 0 0))) F nX4_gates_X4 hK.1 hP 0 rfl rfl 1 (by decide) (List.mem_of_getElem? (i := 1) rfl) rfl dX4_gates_2 ?_
  refine k_mI (n := 1) (rest := []) (v := nI (S 0 0)) F (c_X4_told l D cI u S th K (nI (S 0 0))) gX4_gates_X4_told rfl (by decide +kernel) ⟨Nat.le_of_ble_eq_true rfl, Nat.le_of_ble_eq_true rfl⟩ rfl hl.1 rfl (Nat.le_of_ble_eq_true rfl) dX4_gates_5 ⟨Nat.zero_le _, Nat.zero_le _⟩ hK hP hD hS [0, 1, 2, 3, 4, 5] rfl rfl rfl (wMo cI u S (nI 0) K) wMo_ms wMo_ad (q0 := 0) (ci := 4) rfl rfl (fun H locs hP hD hS => ?_)
  exact k_retMI F hr hlk hP rfl hS rfl rfl dX4_gates_8
theorem nX4_geese_X4 : ∀ x ∈ wsX40, x ∈ wsX4_geese := fun _ h => List.mem_cons_of_mem _ (List.mem_append_right _ h)
set_option maxRecDepth 100000 in
set_option maxHeartbeats 4000000 in
theorem c_X4_geese (l : Launch) (D : va_G) (cI : ClassId) (u : Nat → Nat) (S : Nat → Nat → Nat) (th : Int32) (K : Nat → Nat) (hI : Inv S) : MI l yX4_geese wsX4_geese 1 21 D [(cI, .int)] [.ref (u 0)] (wMo cI u S th K) (wMo cI u S (nI 0) K) (nI (S 0 1)) := by
  refine k_bodyM (cc := cX4_geese) (maxL := 1) (ret := (some .int)) (by decide) rfl (Nat.le_of_ble_eq_true rfl) ?_
  intro p e s m args below meth c H ls F hr hlk hl hP hK hD hS
  have F : CallFix p m c cX4_geese 1 s args wsX4_geese RX4 := F
  have hl : lv_has ls 1 [(0, .ref (u 0))] := hl
  have hi0 := hI.gates
  have hi1 := hI.geese
  have hi2 := hI.guests
  refine lv_aload_n F.1 F.2.1 dX4_geese_0 rfl (lv_at hl 0 rfl) ?_
  refine lv_aload_n F.1 F.2.1 dX4_geese_1 rfl (lv_at hl 0 rfl) ?_
  refine k_get (v := .int (nI (S 0 1))) F nX4_geese_X4 hK.1 hP 0 rfl rfl 2 (by decide) (List.mem_of_getElem? (i := 1) rfl) rfl dX4_geese_2 ?_
  refine k_mI (n := 1) (rest := []) (v := nI (S 0 1)) F (c_X4_told l D cI u S th K (nI (S 0 1))) gX4_geese_X4_told rfl (by decide +kernel) ⟨Nat.le_of_ble_eq_true rfl, Nat.le_of_ble_eq_true rfl⟩ rfl hl.1 rfl (Nat.le_of_ble_eq_true rfl) dX4_geese_5 ⟨Nat.zero_le _, Nat.zero_le _⟩ hK hP hD hS [0, 1, 2, 3, 4, 5] rfl rfl rfl (wMo cI u S (nI 0) K) wMo_ms wMo_ad (q0 := 0) (ci := 4) rfl rfl (fun H locs hP hD hS => ?_)
  exact k_retMI F hr hlk hP rfl hS rfl rfl dX4_geese_8
theorem nX4_visitors_X4 : ∀ x ∈ wsX40, x ∈ wsX4_visitors := fun _ h => List.mem_cons_of_mem _ (List.mem_append_right _ h)
set_option maxRecDepth 100000 in
set_option maxHeartbeats 4000000 in
theorem c_X4_visitors (l : Launch) (D : va_G) (cI : ClassId) (u : Nat → Nat) (S : Nat → Nat → Nat) (th : Int32) (K : Nat → Nat) (hI : Inv S) : MI l yX4_visitors wsX4_visitors 1 21 D [(cI, .int)] [.ref (u 0)] (wMo cI u S th K) (wMo cI u S (nI 0) K) (nI (S 0 2)) := by
  refine k_bodyM (cc := cX4_visitors) (maxL := 1) (ret := (some .int)) (by decide) rfl (Nat.le_of_ble_eq_true rfl) ?_
  intro p e s m args below meth c H ls F hr hlk hl hP hK hD hS
  have F : CallFix p m c cX4_visitors 1 s args wsX4_visitors RX4 := F
  have hl : lv_has ls 1 [(0, .ref (u 0))] := hl
  have hi0 := hI.gates
  have hi1 := hI.geese
  have hi2 := hI.guests
  refine lv_aload_n F.1 F.2.1 dX4_visitors_0 rfl (lv_at hl 0 rfl) ?_
  refine lv_aload_n F.1 F.2.1 dX4_visitors_1 rfl (lv_at hl 0 rfl) ?_
  refine k_get (v := .int (nI (S 0 2))) F nX4_visitors_X4 hK.1 hP 0 rfl rfl 3 (by decide) (List.mem_of_getElem? (i := 1) rfl) rfl dX4_visitors_2 ?_
  refine k_mI (n := 1) (rest := []) (v := nI (S 0 2)) F (c_X4_told l D cI u S th K (nI (S 0 2))) gX4_visitors_X4_told rfl (by decide +kernel) ⟨Nat.le_of_ble_eq_true rfl, Nat.le_of_ble_eq_true rfl⟩ rfl hl.1 rfl (Nat.le_of_ble_eq_true rfl) dX4_visitors_5 ⟨Nat.zero_le _, Nat.zero_le _⟩ hK hP hD hS [0, 1, 2, 3, 4, 5] rfl rfl rfl (wMo cI u S (nI 0) K) wMo_ms wMo_ad (q0 := 0) (ci := 4) rfl rfl (fun H locs hP hD hS => ?_)
  exact k_retMI F hr hlk hP rfl hS rfl rfl dX4_visitors_8
set_option maxRecDepth 100000 in
set_option maxHeartbeats 4000000 in
theorem c_X4_inFarm (l : Launch) (D : va_G) (cI : ClassId) (u : Nat → Nat) (S : Nat → Nat → Nat) (th : Int32) (K : Nat → Nat) (hI : Inv S) : MI l yX4_inFarm wsX4_inFarm 3 65 D [(cI, .int)] [.ref (u 0)] (wMo cI u S th K) (wMo cI u S (nI 0) K) (nI (inN S (S 0 2))) := by
  refine k_bodyM (cc := cX4_inFarm) (maxL := 1) (ret := (some .int)) (by decide) rfl (Nat.le_of_ble_eq_true rfl) ?_
  intro p e s m args below meth c H ls F hr hlk hl hP hK hD hS
  have F : CallFix p m c cX4_inFarm 1 s args wsX4_inFarm RX4 := F
  have hl : lv_has ls 1 [(0, .ref (u 0))] := hl
  have hi0 := hI.gates
  have hi1 := hI.geese
  have hi2 := hI.guests
  refine lv_aload_n F.1 F.2.1 dX4_inFarm_0 rfl (lv_at hl 0 rfl) ?_
  refine lv_aload_n F.1 F.2.1 dX4_inFarm_1 rfl (lv_at hl 0 rfl) ?_
  refine k_pV (n := 0) (rest := [.ref (u 0)]) (v := nI (inN S (S 0 2))) F (c_X4_inside l D cI u S th K hI) gX4_inFarm_X4_inside rfl (by decide +kernel) ⟨Nat.le_of_ble_eq_true rfl, Nat.le_of_ble_eq_true rfl⟩ rfl hl.1 rfl (Nat.le_of_ble_eq_true rfl) dX4_inFarm_2 ⟨Nat.zero_le _, Nat.zero_le _⟩ hK hP hS [0, 1, 2, 3, 4, 5] rfl (q0 := 0) (ci := 4) rfl rfl (fun H locs hP hS => ?_)
  refine k_mI (n := 1) (rest := []) (v := nI (inN S (S 0 2))) F (c_X4_told l D cI u S th K (nI (inN S (S 0 2)))) gX4_inFarm_X4_told rfl (by decide +kernel) ⟨Nat.le_of_ble_eq_true rfl, Nat.le_of_ble_eq_true rfl⟩ rfl hl.1 rfl (Nat.le_of_ble_eq_true rfl) dX4_inFarm_5 ⟨Nat.zero_le _, Nat.zero_le _⟩ hK hP hD hS [0, 1, 2, 3, 4, 5] rfl rfl rfl (wMo cI u S (nI 0) K) wMo_ms wMo_ad (q0 := 0) (ci := 4) rfl rfl (fun H locs hP hD hS => ?_)
  exact k_retMI F hr hlk hP rfl hS rfl rfl dX4_inFarm_8
theorem nX4_bribes_X4 : ∀ x ∈ wsX40, x ∈ wsX4_bribes := fun _ h => List.mem_cons_of_mem _ (List.mem_append_right _ h)
set_option maxRecDepth 100000 in
set_option maxHeartbeats 4000000 in
theorem c_X4_bribes (l : Launch) (D : va_G) (cI : ClassId) (u : Nat → Nat) (S : Nat → Nat → Nat) (th : Int32) (K : Nat → Nat) (hI : Inv S) : MI l yX4_bribes wsX4_bribes 1 21 D [(cI, .int)] [.ref (u 0)] (wMo cI u S th K) (wMo cI u S (nI 0) K) (nI (S 0 4)) := by
  refine k_bodyM (cc := cX4_bribes) (maxL := 1) (ret := (some .int)) (by decide) rfl (Nat.le_of_ble_eq_true rfl) ?_
  intro p e s m args below meth c H ls F hr hlk hl hP hK hD hS
  have F : CallFix p m c cX4_bribes 1 s args wsX4_bribes RX4 := F
  have hl : lv_has ls 1 [(0, .ref (u 0))] := hl
  have hi0 := hI.gates
  have hi1 := hI.geese
  have hi2 := hI.guests
  refine lv_aload_n F.1 F.2.1 dX4_bribes_0 rfl (lv_at hl 0 rfl) ?_
  refine lv_aload_n F.1 F.2.1 dX4_bribes_1 rfl (lv_at hl 0 rfl) ?_
  refine k_get (v := .ref (u 4)) F nX4_bribes_X4 hK.1 hP 0 rfl rfl 7 (by decide) (List.mem_of_getElem? (i := 1) rfl) rfl dX4_bribes_2 ?_
  refine lv_iconst (v := nI 1) F.1 F.2.1 dX4_bribes_5 (by decide) ?_
  refine k_iald (f := encN S) (n := 59) F hK.1 hP 4 0 rfl rfl (by omega) (by decide) dX4_bribes_6 ?_
  refine k_mI (n := 1) (rest := []) (v := nI (S 0 4)) F (c_X4_told l D cI u S th K (nI (S 0 4))) gX4_bribes_X4_told rfl (by decide +kernel) ⟨Nat.le_of_ble_eq_true rfl, Nat.le_of_ble_eq_true rfl⟩ rfl hl.1 rfl (Nat.le_of_ble_eq_true rfl) dX4_bribes_7 ⟨Nat.zero_le _, Nat.zero_le _⟩ hK hP hD hS [0, 1, 2, 3, 4, 5] rfl rfl rfl (wMo cI u S (nI 0) K) wMo_ms wMo_ad (q0 := 0) (ci := 4) rfl rfl (fun H locs hP hD hS => ?_)
  exact k_retMI F hr hlk hP rfl hS rfl rfl dX4_bribes_10
theorem nX4_retreats_X4 : ∀ x ∈ wsX40, x ∈ wsX4_retreats := fun _ h => List.mem_cons_of_mem _ (List.mem_append_right _ h)
set_option maxRecDepth 100000 in
set_option maxHeartbeats 4000000 in
theorem c_X4_retreats (l : Launch) (D : va_G) (cI : ClassId) (u : Nat → Nat) (S : Nat → Nat → Nat) (th : Int32) (K : Nat → Nat) (hI : Inv S) : MI l yX4_retreats wsX4_retreats 1 21 D [(cI, .int)] [.ref (u 0)] (wMo cI u S th K) (wMo cI u S (nI 0) K) (nI (S 0 5)) := by
  refine k_bodyM (cc := cX4_retreats) (maxL := 1) (ret := (some .int)) (by decide) rfl (Nat.le_of_ble_eq_true rfl) ?_
  intro p e s m args below meth c H ls F hr hlk hl hP hK hD hS
  have F : CallFix p m c cX4_retreats 1 s args wsX4_retreats RX4 := F
  have hl : lv_has ls 1 [(0, .ref (u 0))] := hl
  have hi0 := hI.gates
  have hi1 := hI.geese
  have hi2 := hI.guests
  refine lv_aload_n F.1 F.2.1 dX4_retreats_0 rfl (lv_at hl 0 rfl) ?_
  refine lv_aload_n F.1 F.2.1 dX4_retreats_1 rfl (lv_at hl 0 rfl) ?_
  refine k_get (v := .ref (u 4)) F nX4_retreats_X4 hK.1 hP 0 rfl rfl 7 (by decide) (List.mem_of_getElem? (i := 1) rfl) rfl dX4_retreats_2 ?_
  refine lv_iconst (v := nI 2) F.1 F.2.1 dX4_retreats_5 (by decide) ?_
  refine k_iald (f := encN S) (n := 59) F hK.1 hP 4 0 rfl rfl (by omega) (by decide) dX4_retreats_6 ?_
  refine k_mI (n := 1) (rest := []) (v := nI (S 0 5)) F (c_X4_told l D cI u S th K (nI (S 0 5))) gX4_retreats_X4_told rfl (by decide +kernel) ⟨Nat.le_of_ble_eq_true rfl, Nat.le_of_ble_eq_true rfl⟩ rfl hl.1 rfl (Nat.le_of_ble_eq_true rfl) dX4_retreats_7 ⟨Nat.zero_le _, Nat.zero_le _⟩ hK hP hD hS [0, 1, 2, 3, 4, 5] rfl rfl rfl (wMo cI u S (nI 0) K) wMo_ms wMo_ad (q0 := 0) (ci := 4) rfl rfl (fun H locs hP hD hS => ?_)
  exact k_retMI F hr hlk hP rfl hS rfl rfl dX4_retreats_10
theorem nX4_awake_X4 : ∀ x ∈ wsX40, x ∈ wsX4_awake := fun _ h => List.mem_cons_of_mem _ (List.mem_append_right _ h)
set_option maxRecDepth 100000 in
set_option maxHeartbeats 4000000 in
theorem c_X4_awake (l : Launch) (D : va_G) (cI : ClassId) (u : Nat → Nat) (S : Nat → Nat → Nat) (th : Int32) (K : Nat → Nat) (t : Nat) (hI : Inv S) (ht : t < 2 ^ 31) : PI l yX4_awake wsX4_awake 2 44 D [(cI, .int)] [.ref (u 0), .int (nI t)] (wMo cI u S th K) (nI (cntN S t (S 0 1))) := by
  refine k_bodyP (cc := cX4_awake) (maxL := 4) (ret := (some .int)) (by decide) rfl (Nat.le_of_ble_eq_true rfl) ?_
  intro p e s m args below meth c H ls F hr hlk hl hP hK hS
  have F : CallFix p m c cX4_awake 4 s args wsX4_awake RX4 := F
  have hl : lv_has ls 4 [(0, .ref (u 0)), (1, .int (nI t))] := hl
  have hi0 := hI.gates
  have hi1 := hI.geese
  have hi2 := hI.guests
  refine lv_iconst (v := nI 0) F.1 F.2.1 dX4_awake_0 (by decide) ?_
  refine lv_istore_n (lv' := [(2, .int (nI 0)), (0, .ref (u 0)), (1, .int (nI t))]) F.1 F.2.1 dX4_awake_1 rfl hl (by decide) rfl (fun ls hl => ?_)
  refine lv_iconst (v := nI 0) F.1 F.2.1 dX4_awake_2 (by decide) ?_
  refine lv_istore_n (lv' := [(3, .int (nI 0)), (2, .int (nI 0)), (0, .ref (u 0)), (1, .int (nI t))]) F.1 F.2.1 dX4_awake_3 rfl hl (by decide) rfl (fun ls hl => ?_)
  have loop4 : ∀ (n : Nat) (i : Nat), i ≤ S 0 1 → S 0 1 + 1 ≤ i + n → ∀ (H : Heap) (locs : List Loc) (ls : Array Slot), va_P D vwCl (wMo cI u S th K) H → va_S (fun _ => False) s.heap H locs → lv_has ls 4 [(0, .ref (u 0)), (1, .int (nI t)), (2, .int (nI (cntN S t i))), (3, .int (nI i))] → W p l e (rmN 2 44) s m args below meth c H locs 0 0 (QPI below args s (nI (cntN S t (S 0 1)))) (F0 m 4 ls []) := by
    intro n
    induction n with
    | zero => intro i hi hn; exact absurd hn (by omega)
    | succ n ih4 =>
      intro i hi hn  H locs ls hP hS hl
      refine lv_iload_n F.1 F.2.1 dX4_awake_4 rfl (lv_at hl 3 rfl) ?_
      refine lv_aload_n F.1 F.2.1 dX4_awake_5 rfl (lv_at hl 0 rfl) ?_
      refine k_get (v := .int (nI (S 0 1))) F nX4_awake_X4 hK.1 hP 0 rfl rfl 2 (by decide) (List.mem_of_getElem? (i := 1) rfl) rfl dX4_awake_6 ?_
      refine k_icmp_ge (tgt := 35) F (by omega) (by omega) dX4_awake_9 (by decide) (fun h9 => ?_) (fun h9 => ?_)
      · skip
        refine lv_iload_n F.1 F.2.1 dX4_awake_35 rfl (lv_at hl 2 rfl) ?_
        exact k_retP F hr hlk hS (by rw [show i = S 0 1 by omega]) rfl dX4_awake_36
      · skip
        refine lv_iload_n F.1 F.2.1 dX4_awake_12 rfl (lv_at hl 2 rfl) ?_
        refine lv_aload_n F.1 F.2.1 dX4_awake_13 rfl (lv_at hl 0 rfl) ?_
        refine lv_iload_n F.1 F.2.1 dX4_awake_14 rfl (lv_at hl 3 rfl) ?_
        refine lv_iload_n F.1 F.2.1 dX4_awake_15 rfl (lv_at hl 1 rfl) ?_
        refine k_pV (n := 2) (rest := [.int (nI (cntN S t i))]) (v := bI (S 2 i = t ∧ S 4 i = 0)) F (c_X4_isAwake l D cI u S th K i t hI.bd.k (by first | assumption | omega) (by first | assumption | omega)) gX4_awake_X4_isAwake rfl (by decide +kernel) ⟨Nat.le_of_ble_eq_true rfl, Nat.le_of_ble_eq_true rfl⟩ rfl hl.1 rfl (Nat.le_of_ble_eq_true rfl) dX4_awake_16 ⟨Nat.zero_le _, Nat.zero_le _⟩ hK hP hS [0, 1, 2, 3, 4, 5] rfl (q0 := 0) (ci := 4) rfl rfl (fun H locs hP hS => ?_)
        refine k_ifeq_b (tgt := 26) F dX4_awake_19 (by decide) (fun h19 => ?_) (fun h19 => ?_)
        · skip
          refine lv_iconst (v := nI 0) F.1 F.2.1 dX4_awake_26 (by decide) ?_
          refine k_iadd F dX4_awake_27 ?_
          refine lv_istore_n (lv' := [(2, .int (nI (cntN S t i + 0))), (0, .ref (u 0)), (1, .int (nI t)), (3, .int (nI i))]) F.1 F.2.1 dX4_awake_28 rfl hl (by decide) rfl (fun ls hl => ?_)
          refine k_inc (k := 3) (lv' := [(3, .int (nI (i + 1))), (2, .int (nI (cntN S t i + 0))), (0, .ref (u 0)), (1, .int (nI t))]) F dX4_awake_29 hl rfl (by decide) rfl (fun ls hl => ?_)
          refine lv_goto (tgt := 4) F.1 F.2.1 dX4_awake_32 (by decide) ?_
          have e_1 : (cntN S t i + 0) = cntN S t (i + 1) := by simp only [cntN]; rw [if_neg h19]; rfl
          rw [e_1] at hl
          exact ih4 (i + 1) (by omega) (by omega)  _ _ _ hP hS (lv_sub hl [2, 3, 1, 0] rfl)
        · skip
          refine lv_iconst (v := nI 1) F.1 F.2.1 dX4_awake_22 (by decide) ?_
          refine lv_goto (tgt := 27) F.1 F.2.1 dX4_awake_23 (by decide) ?_
          refine k_iadd F dX4_awake_27 ?_
          refine lv_istore_n (lv' := [(2, .int (nI (cntN S t i + 1))), (0, .ref (u 0)), (1, .int (nI t)), (3, .int (nI i))]) F.1 F.2.1 dX4_awake_28 rfl hl (by decide) rfl (fun ls hl => ?_)
          refine k_inc (k := 3) (lv' := [(3, .int (nI (i + 1))), (2, .int (nI (cntN S t i + 1))), (0, .ref (u 0)), (1, .int (nI t))]) F dX4_awake_29 hl rfl (by decide) rfl (fun ls hl => ?_)
          refine lv_goto (tgt := 4) F.1 F.2.1 dX4_awake_32 (by decide) ?_
          have e_2 : (cntN S t i + 1) = cntN S t (i + 1) := by simp only [cntN]; rw [if_pos h19]
          rw [e_2] at hl
          exact ih4 (i + 1) (by omega) (by omega)  _ _ _ hP hS (lv_sub hl [2, 3, 1, 0] rfl)
  have e_3 : 0 = cntN S t 0 := rfl
  rw [e_3] at hl
  exact loop4 ((S 0 1) + 1) 0 (by omega) (by omega)  _ _ _ hP hS (lv_sub hl [2, 3, 1, 0] rfl)
theorem nX4_rankOf_X4 : ∀ x ∈ wsX40, x ∈ wsX4_rankOf := fun _ h => List.mem_cons_of_mem _ (List.mem_append_right _ h)
set_option maxRecDepth 100000 in
set_option maxHeartbeats 4000000 in
theorem c_X4_rankOf (l : Launch) (D : va_G) (cI : ClassId) (u : Nat → Nat) (S : Nat → Nat → Nat) (th : Int32) (K : Nat → Nat) (x1 : Int32) (hI : Inv S) : MI l yX4_rankOf wsX4_rankOf 2 43 D [(cI, .int)] [.ref (u 0), .int x1] (wMo cI u S th K) (wMo cI u S (nI (r1 (S 0 0) x1 (nI (S 1 (cl x1)))).1) K) ((r1 (S 0 0) x1 (nI (S 1 (cl x1)))).2) := by
  refine k_bodyM (cc := cX4_rankOf) (maxL := 2) (ret := (some .int)) (by decide) rfl (Nat.le_of_ble_eq_true rfl) ?_
  intro p e s m args below meth c H ls F hr hlk hl hP hK hD hS
  have F : CallFix p m c cX4_rankOf 2 s args wsX4_rankOf RX4 := F
  have hl : lv_has ls 2 [(0, .ref (u 0)), (1, .int x1)] := hl
  have hi0 := hI.gates
  have hi1 := hI.geese
  have hi2 := hI.guests
  refine lv_aload_n F.1 F.2.1 dX4_rankOf_0 rfl (lv_at hl 0 rfl) ?_
  refine lv_iconst (v := nI 0) F.1 F.2.1 dX4_rankOf_1 (by decide) ?_
  refine k_put F nX4_rankOf_X4 tyX4 tyX4_ok nmX4 hK.1 hP hD hS 0 rfl rfl 0 (by decide) (List.mem_of_getElem? (i := 1) rfl) rfl (by decide +kernel) (Nat.le_of_ble_eq_true rfl) dX4_rankOf_2 (wMo cI u S (nI 0) K) wMo_f0 (fun H locs hP hD hS => ?_)
  refine lv_aload_n F.1 F.2.1 dX4_rankOf_5 rfl (lv_at hl 0 rfl) ?_
  refine lv_iload_n F.1 F.2.1 dX4_rankOf_6 rfl (lv_at hl 1 rfl) ?_
  refine k_pV (n := 1) (rest := []) (v := bI (0 ≤ x1 ∧ x1 < nI (S 0 0))) F (c_X4_isGate l D cI u S (nI 0) K x1 (by first | assumption | omega)) gX4_rankOf_X4_isGate rfl (by decide +kernel) ⟨Nat.le_of_ble_eq_true rfl, Nat.le_of_ble_eq_true rfl⟩ rfl hl.1 rfl (Nat.le_of_ble_eq_true rfl) dX4_rankOf_7 ⟨Nat.zero_le _, Nat.zero_le _⟩ hK hP hS [0, 1, 2, 3, 4, 5] rfl (q0 := 0) (ci := 4) rfl rfl (fun H locs hP hS => ?_)
  refine k_ifeq_b (tgt := 22) F dX4_rankOf_10 (by decide) (fun h10 => ?_) (fun h10 => ?_)
  · skip
    refine lv_aload_n F.1 F.2.1 dX4_rankOf_22 rfl (lv_at hl 0 rfl) ?_
    refine lv_iconst (v := nI 1) F.1 F.2.1 dX4_rankOf_23 (by decide) ?_
    refine k_mI (n := 1) (rest := []) (v := nI 0) F (c_X4_fail l D cI u S (nI 0) K (nI 1)) gX4_rankOf_X4_fail rfl (by decide +kernel) ⟨Nat.le_of_ble_eq_true rfl, Nat.le_of_ble_eq_true rfl⟩ rfl hl.1 rfl (Nat.le_of_ble_eq_true rfl) dX4_rankOf_24 ⟨Nat.zero_le _, Nat.zero_le _⟩ hK hP hD hS [0, 1, 2, 3, 4, 5] rfl rfl rfl (wMo cI u S (nI 1) K) wMo_ms wMo_ad (q0 := 0) (ci := 4) rfl rfl (fun H locs hP hD hS => ?_)
    have e9 : r1 (S 0 0) x1 (nI (S 1 (cl x1))) = (1, nI 0) := r1_n h10
    exact k_retMI F hr hlk hP (by rw [e9]) hS (by rw [e9]) rfl dX4_rankOf_27
  · skip
    obtain ⟨g1, hg1, rfl⟩ := lt_nI (by omega) h10
    refine lv_aload_n F.1 F.2.1 dX4_rankOf_13 rfl (lv_at hl 0 rfl) ?_
    refine k_get (v := .ref (u 1)) F nX4_rankOf_X4 hK.1 hP 0 rfl rfl 4 (by decide) (List.mem_of_getElem? (i := 2) rfl) rfl dX4_rankOf_14 ?_
    refine lv_iload_n F.1 F.2.1 dX4_rankOf_17 rfl (lv_at hl 1 rfl) ?_
    refine k_iald (f := S 1) (n := 6) F hK.1 hP 1 0 rfl rfl (by omega) (by decide) dX4_rankOf_18 ?_
    refine lv_goto (tgt := 27) F.1 F.2.1 dX4_rankOf_19 (by decide) ?_
    have e9 : r1 (S 0 0) (nI g1) (nI (S 1 (cl (nI g1)))) = (0, nI (S 1 g1)) := by rw [cl_nI (show g1 < 2 ^ 31 by omega)]; exact r1_y h10
    exact k_retMI F hr hlk hP (by rw [e9]) hS (by rw [e9]) rfl dX4_rankOf_27
theorem nX4_awakeAt_X4 : ∀ x ∈ wsX40, x ∈ wsX4_awakeAt := fun _ h => List.mem_cons_of_mem _ (List.mem_append_right _ h)
set_option maxRecDepth 100000 in
set_option maxHeartbeats 4000000 in
theorem c_X4_awakeAt (l : Launch) (D : va_G) (cI : ClassId) (u : Nat → Nat) (S : Nat → Nat → Nat) (th : Int32) (K : Nat → Nat) (x1 : Int32) (hI : Inv S) : MI l yX4_awakeAt wsX4_awakeAt 3 67 D [(cI, .int)] [.ref (u 0), .int x1] (wMo cI u S th K) (wMo cI u S (nI (r1 (S 0 0) x1 (nI (cntN S (cl x1) (S 0 1)))).1) K) ((r1 (S 0 0) x1 (nI (cntN S (cl x1) (S 0 1)))).2) := by
  refine k_bodyM (cc := cX4_awakeAt) (maxL := 2) (ret := (some .int)) (by decide) rfl (Nat.le_of_ble_eq_true rfl) ?_
  intro p e s m args below meth c H ls F hr hlk hl hP hK hD hS
  have F : CallFix p m c cX4_awakeAt 2 s args wsX4_awakeAt RX4 := F
  have hl : lv_has ls 2 [(0, .ref (u 0)), (1, .int x1)] := hl
  have hi0 := hI.gates
  have hi1 := hI.geese
  have hi2 := hI.guests
  refine lv_aload_n F.1 F.2.1 dX4_awakeAt_0 rfl (lv_at hl 0 rfl) ?_
  refine lv_iconst (v := nI 0) F.1 F.2.1 dX4_awakeAt_1 (by decide) ?_
  refine k_put F nX4_awakeAt_X4 tyX4 tyX4_ok nmX4 hK.1 hP hD hS 0 rfl rfl 0 (by decide) (List.mem_of_getElem? (i := 1) rfl) rfl (by decide +kernel) (Nat.le_of_ble_eq_true rfl) dX4_awakeAt_2 (wMo cI u S (nI 0) K) wMo_f0 (fun H locs hP hD hS => ?_)
  refine lv_aload_n F.1 F.2.1 dX4_awakeAt_5 rfl (lv_at hl 0 rfl) ?_
  refine lv_iload_n F.1 F.2.1 dX4_awakeAt_6 rfl (lv_at hl 1 rfl) ?_
  refine k_pV (n := 1) (rest := []) (v := bI (0 ≤ x1 ∧ x1 < nI (S 0 0))) F (c_X4_isGate l D cI u S (nI 0) K x1 (by first | assumption | omega)) gX4_awakeAt_X4_isGate rfl (by decide +kernel) ⟨Nat.le_of_ble_eq_true rfl, Nat.le_of_ble_eq_true rfl⟩ rfl hl.1 rfl (Nat.le_of_ble_eq_true rfl) dX4_awakeAt_7 ⟨Nat.zero_le _, Nat.zero_le _⟩ hK hP hS [0, 1, 2, 3, 4, 5] rfl (q0 := 0) (ci := 4) rfl rfl (fun H locs hP hS => ?_)
  refine k_ifeq_b (tgt := 21) F dX4_awakeAt_10 (by decide) (fun h10 => ?_) (fun h10 => ?_)
  · skip
    refine lv_aload_n F.1 F.2.1 dX4_awakeAt_21 rfl (lv_at hl 0 rfl) ?_
    refine lv_iconst (v := nI 1) F.1 F.2.1 dX4_awakeAt_22 (by decide) ?_
    refine k_mI (n := 1) (rest := []) (v := nI 0) F (c_X4_fail l D cI u S (nI 0) K (nI 1)) gX4_awakeAt_X4_fail rfl (by decide +kernel) ⟨Nat.le_of_ble_eq_true rfl, Nat.le_of_ble_eq_true rfl⟩ rfl hl.1 rfl (Nat.le_of_ble_eq_true rfl) dX4_awakeAt_23 ⟨Nat.zero_le _, Nat.zero_le _⟩ hK hP hD hS [0, 1, 2, 3, 4, 5] rfl rfl rfl (wMo cI u S (nI 1) K) wMo_ms wMo_ad (q0 := 0) (ci := 4) rfl rfl (fun H locs hP hD hS => ?_)
    have e9 : r1 (S 0 0) x1 (nI (cntN S (cl x1) (S 0 1))) = (1, nI 0) := r1_n h10
    exact k_retMI F hr hlk hP (by rw [e9]) hS (by rw [e9]) rfl dX4_awakeAt_26
  · skip
    obtain ⟨g1, hg1, rfl⟩ := lt_nI (by omega) h10
    refine lv_aload_n F.1 F.2.1 dX4_awakeAt_13 rfl (lv_at hl 0 rfl) ?_
    refine lv_iload_n F.1 F.2.1 dX4_awakeAt_14 rfl (lv_at hl 1 rfl) ?_
    refine k_pV (n := 1) (rest := []) (v := nI (cntN S g1 (S 0 1))) F (c_X4_awake l D cI u S (nI 0) K g1 hI (by first | assumption | omega)) gX4_awakeAt_X4_awake rfl (by decide +kernel) ⟨Nat.le_of_ble_eq_true rfl, Nat.le_of_ble_eq_true rfl⟩ rfl hl.1 rfl (Nat.le_of_ble_eq_true rfl) dX4_awakeAt_15 ⟨Nat.zero_le _, Nat.zero_le _⟩ hK hP hS [0, 1, 2, 3, 4, 5] rfl (q0 := 0) (ci := 4) rfl rfl (fun H locs hP hS => ?_)
    refine lv_goto (tgt := 26) F.1 F.2.1 dX4_awakeAt_18 (by decide) ?_
    have e9 : r1 (S 0 0) (nI g1) (nI (cntN S (cl (nI g1)) (S 0 1))) = (0, nI (cntN S g1 (S 0 1))) := by rw [cl_nI (show g1 < 2 ^ 31 by omega)]; exact r1_y h10
    exact k_retMI F hr hlk hP (by rw [e9]) hS (by rw [e9]) rfl dX4_awakeAt_26
theorem nX4_hissOf_X4 : ∀ x ∈ wsX40, x ∈ wsX4_hissOf := fun _ h => List.mem_cons_of_mem _ (List.mem_append_right _ h)
set_option maxRecDepth 100000 in
set_option maxHeartbeats 4000000 in
theorem c_X4_hissOf (l : Launch) (D : va_G) (cI : ClassId) (u : Nat → Nat) (S : Nat → Nat → Nat) (th : Int32) (K : Nat → Nat) (x1 : Int32) (x2 : Int32) (hI : Inv S) : MI l yX4_hissOf wsX4_hissOf 3 68 D [(cI, .int)] [.ref (u 0), .int x1, .int x2] (wMo cI u S th K) (wMo cI u S (nI (rHiss S x1 x2).1) K) ((rHiss S x1 x2).2) := by
  refine k_bodyM (cc := cX4_hissOf) (maxL := 3) (ret := (some .int)) (by decide) rfl (Nat.le_of_ble_eq_true rfl) ?_
  intro p e s m args below meth c H ls F hr hlk hl hP hK hD hS
  have F : CallFix p m c cX4_hissOf 3 s args wsX4_hissOf RX4 := F
  have hl : lv_has ls 3 [(0, .ref (u 0)), (1, .int x1), (2, .int x2)] := hl
  have hi0 := hI.gates
  have hi1 := hI.geese
  have hi2 := hI.guests
  refine lv_aload_n F.1 F.2.1 dX4_hissOf_0 rfl (lv_at hl 0 rfl) ?_
  refine lv_iconst (v := nI 0) F.1 F.2.1 dX4_hissOf_1 (by decide) ?_
  refine k_put F nX4_hissOf_X4 tyX4 tyX4_ok nmX4 hK.1 hP hD hS 0 rfl rfl 0 (by decide) (List.mem_of_getElem? (i := 1) rfl) rfl (by decide +kernel) (Nat.le_of_ble_eq_true rfl) dX4_hissOf_2 (wMo cI u S (nI 0) K) wMo_f0 (fun H locs hP hD hS => ?_)
  refine lv_aload_n F.1 F.2.1 dX4_hissOf_5 rfl (lv_at hl 0 rfl) ?_
  refine lv_iload_n F.1 F.2.1 dX4_hissOf_6 rfl (lv_at hl 1 rfl) ?_
  refine k_pV (n := 1) (rest := []) (v := bI (0 ≤ x1 ∧ x1 < nI (S 0 0))) F (c_X4_isGate l D cI u S (nI 0) K x1 (by first | assumption | omega)) gX4_hissOf_X4_isGate rfl (by decide +kernel) ⟨Nat.le_of_ble_eq_true rfl, Nat.le_of_ble_eq_true rfl⟩ rfl hl.1 rfl (Nat.le_of_ble_eq_true rfl) dX4_hissOf_7 ⟨Nat.zero_le _, Nat.zero_le _⟩ hK hP hS [0, 1, 2, 3, 4, 5] rfl (q0 := 0) (ci := 4) rfl rfl (fun H locs hP hS => ?_)
  refine k_ifne_b (tgt := 19) F dX4_hissOf_10 (by decide) (fun h10 => ?_) (fun h10 => ?_)
  · skip
    refine lv_iload_n F.1 F.2.1 dX4_hissOf_19 rfl (lv_at hl 2 rfl) ?_
    refine lv_iconst (v := nI 0) F.1 F.2.1 dX4_hissOf_20 (by decide) ?_
    refine lv_bipush (v := nI 9) F.1 F.2.1 dX4_hissOf_21 (by decide) ?_
    refine k_pS (n := 3) (rest := []) (v := bI ((nI 0) ≤ x2 ∧ x2 ≤ (nI 9))) F (c_X4_isIn l D cI x2 (nI 0) (nI 9)) gX4_hissOf_X4_isIn rfl (by decide +kernel) ⟨Nat.le_of_ble_eq_true rfl, Nat.le_of_ble_eq_true rfl⟩ rfl hl.1 rfl (Nat.le_of_ble_eq_true rfl) dX4_hissOf_23 ⟨Nat.zero_le _, Nat.zero_le _⟩ hK hP hS (fun H locs hP hS => ?_)
    refine k_ifeq_b (tgt := 38) F dX4_hissOf_26 (by decide) (fun h26 => ?_) (fun h26 => ?_)
    · skip
      refine lv_aload_n F.1 F.2.1 dX4_hissOf_38 rfl (lv_at hl 0 rfl) ?_
      refine lv_iconst (v := nI 2) F.1 F.2.1 dX4_hissOf_39 (by decide) ?_
      refine k_mI (n := 1) (rest := []) (v := nI 0) F (c_X4_fail l D cI u S (nI 0) K (nI 2)) gX4_hissOf_X4_fail rfl (by decide +kernel) ⟨Nat.le_of_ble_eq_true rfl, Nat.le_of_ble_eq_true rfl⟩ rfl hl.1 rfl (Nat.le_of_ble_eq_true rfl) dX4_hissOf_40 ⟨Nat.zero_le _, Nat.zero_le _⟩ hK hP hD hS [0, 1, 2, 3, 4, 5] rfl rfl rfl (wMo cI u S (nI 2) K) wMo_ms wMo_ad (q0 := 0) (ci := 4) rfl rfl (fun H locs hP hD hS => ?_)
      have e9 : rHiss S x1 x2 = (2, nI 0) := by unfold rHiss; rw [if_pos h10, if_neg h26] <;> rfl
      exact k_retMI F hr hlk hP (by rw [e9] <;> rfl) hS (by rw [e9] <;> rfl) rfl dX4_hissOf_43
    · skip
      obtain ⟨g1, hg1, rfl⟩ := lt_nI (by omega) h10
      obtain ⟨g2, hg2, rfl⟩ := in_nI (by decide) h26 (by decide)
      refine lv_aload_n F.1 F.2.1 dX4_hissOf_29 rfl (lv_at hl 0 rfl) ?_
      refine lv_iload_n F.1 F.2.1 dX4_hissOf_30 rfl (lv_at hl 1 rfl) ?_
      refine lv_iload_n F.1 F.2.1 dX4_hissOf_31 rfl (lv_at hl 2 rfl) ?_
      refine k_pV (n := 2) (rest := []) (v := nI (hisG S g1 g2)) F (c_X4_hiss l D cI u S (nI 0) K g1 g2 hI (by first | assumption | omega) (by first | assumption | omega)) gX4_hissOf_X4_hiss rfl (by decide +kernel) ⟨Nat.le_of_ble_eq_true rfl, Nat.le_of_ble_eq_true rfl⟩ rfl hl.1 rfl (Nat.le_of_ble_eq_true rfl) dX4_hissOf_32 ⟨Nat.zero_le _, Nat.zero_le _⟩ hK hP hS [0, 1, 2, 3, 4, 5] rfl (q0 := 0) (ci := 4) rfl rfl (fun H locs hP hS => ?_)
      refine lv_goto (tgt := 43) F.1 F.2.1 dX4_hissOf_35 (by decide) ?_
      have e9 : rHiss S (nI g1) (nI g2) = (0, nI (hisG S g1 g2)) := by unfold rHiss; (try rw [cl_nI (show g1 < 2 ^ 31 by omega)]); (try rw [cl_nI (show g2 < 2 ^ 31 by omega)]); rw [if_pos h10, if_pos h26] <;> rfl
      exact k_retMI F hr hlk hP (by rw [e9] <;> rfl) hS (by rw [e9] <;> rfl) rfl dX4_hissOf_43
  · skip
    refine lv_aload_n F.1 F.2.1 dX4_hissOf_13 rfl (lv_at hl 0 rfl) ?_
    refine lv_iconst (v := nI 1) F.1 F.2.1 dX4_hissOf_14 (by decide) ?_
    refine k_mI (n := 1) (rest := []) (v := nI 0) F (c_X4_fail l D cI u S (nI 0) K (nI 1)) gX4_hissOf_X4_fail rfl (by decide +kernel) ⟨Nat.le_of_ble_eq_true rfl, Nat.le_of_ble_eq_true rfl⟩ rfl hl.1 rfl (Nat.le_of_ble_eq_true rfl) dX4_hissOf_15 ⟨Nat.zero_le _, Nat.zero_le _⟩ hK hP hD hS [0, 1, 2, 3, 4, 5] rfl rfl rfl (wMo cI u S (nI 1) K) wMo_ms wMo_ad (q0 := 0) (ci := 4) rfl rfl (fun H locs hP hD hS => ?_)
    have e9 : rHiss S x1 x2 = (1, nI 0) := by unfold rHiss; rw [if_neg h10] <;> rfl
    exact k_retMI F hr hlk hP (by rw [e9] <;> rfl) hS (by rw [e9] <;> rfl) rfl dX4_hissOf_18
theorem nX4_loudest_X4 : ∀ x ∈ wsX40, x ∈ wsX4_loudest := fun _ h => List.mem_cons_of_mem _ (List.mem_append_right _ h)
set_option maxRecDepth 100000 in
set_option maxHeartbeats 4000000 in
theorem c_X4_loudest (l : Launch) (D : va_G) (cI : ClassId) (u : Nat → Nat) (S : Nat → Nat → Nat) (th : Int32) (K : Nat → Nat) (hI : Inv S) : PI l yX4_loudest wsX4_loudest 3 68 D [(cI, .int)] [.ref (u 0)] (wMo cI u S th K) (oI (ldN S (S 0 0)).1) := by
  refine k_bodyP (cc := cX4_loudest) (maxL := 3) (ret := (some .int)) (by decide) rfl (Nat.le_of_ble_eq_true rfl) ?_
  intro p e s m args below meth c H ls F hr hlk hl hP hK hS
  have F : CallFix p m c cX4_loudest 3 s args wsX4_loudest RX4 := F
  have hl : lv_has ls 3 [(0, .ref (u 0))] := hl
  have hi0 := hI.gates
  have hi1 := hI.geese
  have hi2 := hI.guests
  refine lv_iconst (v := (-1)) F.1 F.2.1 dX4_loudest_0 (by decide) ?_
  refine lv_istore_n (lv' := [(1, .int (-1)), (0, .ref (u 0))]) F.1 F.2.1 dX4_loudest_1 rfl hl (by decide) rfl (fun ls hl => ?_)
  refine lv_iconst (v := nI 0) F.1 F.2.1 dX4_loudest_2 (by decide) ?_
  refine lv_istore_n (lv' := [(2, .int (nI 0)), (1, .int (-1)), (0, .ref (u 0))]) F.1 F.2.1 dX4_loudest_3 rfl hl (by decide) rfl (fun ls hl => ?_)
  have loop4 : ∀ (n : Nat) (i : Nat), i ≤ S 0 0 → S 0 0 + 1 ≤ i + n → ∀ (H : Heap) (locs : List Loc) (ls : Array Slot), va_P D vwCl (wMo cI u S th K) H → va_S (fun _ => False) s.heap H locs → lv_has ls 3 [(0, .ref (u 0)), (1, .int (oI (ldN S i).1)), (2, .int (nI i))] → W p l e (rmN 3 68) s m args below meth c H locs 0 0 (QPI below args s (oI (ldN S (S 0 0)).1)) (F0 m 4 ls []) := by
    intro n
    induction n with
    | zero => intro i hi hn; exact absurd hn (by omega)
    | succ n ih4 =>
      intro i hi hn  H locs ls hP hS hl
      refine lv_iload_n F.1 F.2.1 dX4_loudest_4 rfl (lv_at hl 2 rfl) ?_
      refine lv_aload_n F.1 F.2.1 dX4_loudest_5 rfl (lv_at hl 0 rfl) ?_
      refine k_get (v := .int (nI (S 0 0))) F nX4_loudest_X4 hK.1 hP 0 rfl rfl 1 (by decide) (List.mem_of_getElem? (i := 1) rfl) rfl dX4_loudest_6 ?_
      refine k_icmp_ge (tgt := 40) F (by omega) (by omega) dX4_loudest_9 (by decide) (fun h9 => ?_) (fun h9 => ?_)
      · skip
        refine lv_iload_n F.1 F.2.1 dX4_loudest_40 rfl (lv_at hl 1 rfl) ?_
        exact k_retP F hr hlk hS (by rw [show i = S 0 0 by omega]) rfl dX4_loudest_41
      · skip
        rcases hb9 : (ldN S i).1 with _ | b
        · skip
          rw [hb9] at hl
          refine lv_iload_n F.1 F.2.1 dX4_loudest_12 rfl (lv_at hl 1 rfl) ?_
          refine lv_iconst (v := (-1)) F.1 F.2.1 dX4_loudest_13 (by decide) ?_
          refine lv_icmp_eq (tgt := 32) F.1 F.2.1 dX4_loudest_14 (by decide) (fun h14 => ?_) (fun h14 => ?_)
          · skip
            refine lv_iload_n F.1 F.2.1 dX4_loudest_32 rfl (lv_at hl 2 rfl) ?_
            refine lv_istore_n (lv' := [(1, .int (nI i)), (0, .ref (u 0)), (2, .int (nI i))]) F.1 F.2.1 dX4_loudest_33 rfl hl (by decide) rfl (fun ls hl => ?_)
            refine k_inc (k := 2) (lv' := [(2, .int (nI (i + 1))), (1, .int (nI i)), (0, .ref (u 0))]) F dX4_loudest_34 hl rfl (by decide) rfl (fun ls hl => ?_)
            refine lv_goto (tgt := 4) F.1 F.2.1 dX4_loudest_37 (by decide) ?_
            have e_1 : nI i = oI (ldN S (i + 1)).1 := by simp only [ldN]; rw [if_pos (Or.inl hb9)]; exact (oI_succ i).symm
            rw [e_1] at hl
            exact ih4 (i + 1) (by omega) (by omega)  _ _ _ hP hS (lv_sub hl [2, 1, 0] rfl)
          · skip
            exact absurd oI_0 h14
        · skip
          rw [hb9, oI_succ] at hl
          have hv1 := ldN_val S i b hb9
          have hm1 := hisG_le hI i 0
          have hm2 := hisG_le hI b 0
          refine lv_iload_n F.1 F.2.1 dX4_loudest_12 rfl (lv_at hl 1 rfl) ?_
          refine lv_iconst (v := (-1)) F.1 F.2.1 dX4_loudest_13 (by decide) ?_
          refine lv_icmp_eq (tgt := 32) F.1 F.2.1 dX4_loudest_14 (by decide) (fun h14 => ?_) (fun h14 => ?_)
          · skip
            exact absurd h14 (nI_ne_m1 (by omega))
          · skip
            refine lv_aload_n F.1 F.2.1 dX4_loudest_17 rfl (lv_at hl 0 rfl) ?_
            refine lv_iload_n F.1 F.2.1 dX4_loudest_18 rfl (lv_at hl 2 rfl) ?_
            refine lv_iconst (v := nI 0) F.1 F.2.1 dX4_loudest_19 (by decide) ?_
            refine k_pV (n := 2) (rest := []) (v := nI (hisG S i 0)) F (c_X4_hiss l D cI u S th K i 0 hI (by first | assumption | omega) (by first | assumption | omega)) gX4_loudest_X4_hiss rfl (by decide +kernel) ⟨Nat.le_of_ble_eq_true rfl, Nat.le_of_ble_eq_true rfl⟩ rfl hl.1 rfl (Nat.le_of_ble_eq_true rfl) dX4_loudest_20 ⟨Nat.zero_le _, Nat.zero_le _⟩ hK hP hS [0, 1, 2, 3, 4, 5] rfl (q0 := 0) (ci := 4) rfl rfl (fun H locs hP hS => ?_)
            refine lv_aload_n F.1 F.2.1 dX4_loudest_23 rfl (lv_at hl 0 rfl) ?_
            refine lv_iload_n F.1 F.2.1 dX4_loudest_24 rfl (lv_at hl 1 rfl) ?_
            refine lv_iconst (v := nI 0) F.1 F.2.1 dX4_loudest_25 (by decide) ?_
            refine k_pV (n := 2) (rest := [.int (nI (hisG S i 0))]) (v := nI (hisG S b 0)) F (c_X4_hiss l D cI u S th K b 0 hI (by first | assumption | omega) (by first | assumption | omega)) gX4_loudest_X4_hiss rfl (by decide +kernel) ⟨Nat.le_of_ble_eq_true rfl, Nat.le_of_ble_eq_true rfl⟩ rfl hl.1 rfl (Nat.le_of_ble_eq_true rfl) dX4_loudest_26 ⟨Nat.zero_le _, Nat.zero_le _⟩ hK hP hS [0, 1, 2, 3, 4, 5] rfl (q0 := 0) (ci := 4) rfl rfl (fun H locs hP hS => ?_)
            refine k_icmp_le (tgt := 34) F (by omega) (by omega) dX4_loudest_29 (by decide) (fun h29 => ?_) (fun h29 => ?_)
            · skip
              refine k_inc (k := 2) (lv' := [(2, .int (nI (i + 1))), (0, .ref (u 0)), (1, .int (nI b))]) F dX4_loudest_34 hl rfl (by decide) rfl (fun ls hl => ?_)
              refine lv_goto (tgt := 4) F.1 F.2.1 dX4_loudest_37 (by decide) ?_
              have e_2 : nI b = oI (ldN S (i + 1)).1 := by simp only [ldN]; rw [if_neg (by rw [hb9, hv1.1]; omega), hb9, oI_succ]
              rw [e_2] at hl
              exact ih4 (i + 1) (by omega) (by omega)  _ _ _ hP hS (lv_sub hl [1, 2, 0] rfl)
            · skip
              refine lv_iload_n F.1 F.2.1 dX4_loudest_32 rfl (lv_at hl 2 rfl) ?_
              refine lv_istore_n (lv' := [(1, .int (nI i)), (0, .ref (u 0)), (2, .int (nI i))]) F.1 F.2.1 dX4_loudest_33 rfl hl (by decide) rfl (fun ls hl => ?_)
              refine k_inc (k := 2) (lv' := [(2, .int (nI (i + 1))), (1, .int (nI i)), (0, .ref (u 0))]) F dX4_loudest_34 hl rfl (by decide) rfl (fun ls hl => ?_)
              refine lv_goto (tgt := 4) F.1 F.2.1 dX4_loudest_37 (by decide) ?_
              have e_3 : nI i = oI (ldN S (i + 1)).1 := by simp only [ldN]; rw [if_pos (Or.inr (by rw [hv1.1]; omega))]; exact (oI_succ i).symm
              rw [e_3] at hl
              exact ih4 (i + 1) (by omega) (by omega)  _ _ _ hP hS (lv_sub hl [2, 1, 0] rfl)
  have e_4 : (-1) = oI (ldN S 0).1 := oI_0.symm
  rw [e_4] at hl
  exact loop4 ((S 0 0) + 1) 0 (by omega) (by omega)  _ _ _ hP hS (lv_sub hl [2, 1, 0] rfl)
set_option maxRecDepth 100000 in
set_option maxHeartbeats 4000000 in
theorem c_X4_loudestGate (l : Launch) (D : va_G) (cI : ClassId) (u : Nat → Nat) (S : Nat → Nat → Nat) (th : Int32) (K : Nat → Nat) (hI : Inv S) : MI l yX4_loudestGate wsX4_loudestGate 4 90 D [(cI, .int)] [.ref (u 0)] (wMo cI u S th K) (wMo cI u S (nI 0) K) (oI (ldN S (S 0 0)).1) := by
  refine k_bodyM (cc := cX4_loudestGate) (maxL := 1) (ret := (some .int)) (by decide) rfl (Nat.le_of_ble_eq_true rfl) ?_
  intro p e s m args below meth c H ls F hr hlk hl hP hK hD hS
  have F : CallFix p m c cX4_loudestGate 1 s args wsX4_loudestGate RX4 := F
  have hl : lv_has ls 1 [(0, .ref (u 0))] := hl
  have hi0 := hI.gates
  have hi1 := hI.geese
  have hi2 := hI.guests
  refine lv_aload_n F.1 F.2.1 dX4_loudestGate_0 rfl (lv_at hl 0 rfl) ?_
  refine lv_aload_n F.1 F.2.1 dX4_loudestGate_1 rfl (lv_at hl 0 rfl) ?_
  refine k_pV (n := 0) (rest := [.ref (u 0)]) (v := oI (ldN S (S 0 0)).1) F (c_X4_loudest l D cI u S th K hI) gX4_loudestGate_X4_loudest rfl (by decide +kernel) ⟨Nat.le_of_ble_eq_true rfl, Nat.le_of_ble_eq_true rfl⟩ rfl hl.1 rfl (Nat.le_of_ble_eq_true rfl) dX4_loudestGate_2 ⟨Nat.zero_le _, Nat.zero_le _⟩ hK hP hS [0, 1, 2, 3, 4, 5] rfl (q0 := 0) (ci := 4) rfl rfl (fun H locs hP hS => ?_)
  refine k_mI (n := 1) (rest := []) (v := oI (ldN S (S 0 0)).1) F (c_X4_told l D cI u S th K (oI (ldN S (S 0 0)).1)) gX4_loudestGate_X4_told rfl (by decide +kernel) ⟨Nat.le_of_ble_eq_true rfl, Nat.le_of_ble_eq_true rfl⟩ rfl hl.1 rfl (Nat.le_of_ble_eq_true rfl) dX4_loudestGate_5 ⟨Nat.zero_le _, Nat.zero_le _⟩ hK hP hD hS [0, 1, 2, 3, 4, 5] rfl rfl rfl (wMo cI u S (nI 0) K) wMo_ms wMo_ad (q0 := 0) (ci := 4) rfl rfl (fun H locs hP hD hS => ?_)
  exact k_retMI F hr hlk hP rfl hS rfl rfl dX4_loudestGate_8
theorem nX4_gateOf_X4 : ∀ x ∈ wsX40, x ∈ wsX4_gateOf := fun _ h => List.mem_cons_of_mem _ (List.mem_append_right _ h)
set_option maxRecDepth 100000 in
set_option maxHeartbeats 4000000 in
theorem c_X4_gateOf (l : Launch) (D : va_G) (cI : ClassId) (u : Nat → Nat) (S : Nat → Nat → Nat) (th : Int32) (K : Nat → Nat) (x1 : Int32) (hI : Inv S) : MI l yX4_gateOf wsX4_gateOf 2 43 D [(cI, .int)] [.ref (u 0), .int x1] (wMo cI u S th K) (wMo cI u S (nI (r1 (S 0 1) x1 (nI (S 2 (cl x1)))).1) K) ((r1 (S 0 1) x1 (nI (S 2 (cl x1)))).2) := by
  refine k_bodyM (cc := cX4_gateOf) (maxL := 2) (ret := (some .int)) (by decide) rfl (Nat.le_of_ble_eq_true rfl) ?_
  intro p e s m args below meth c H ls F hr hlk hl hP hK hD hS
  have F : CallFix p m c cX4_gateOf 2 s args wsX4_gateOf RX4 := F
  have hl : lv_has ls 2 [(0, .ref (u 0)), (1, .int x1)] := hl
  have hi0 := hI.gates
  have hi1 := hI.geese
  have hi2 := hI.guests
  refine lv_aload_n F.1 F.2.1 dX4_gateOf_0 rfl (lv_at hl 0 rfl) ?_
  refine lv_iconst (v := nI 0) F.1 F.2.1 dX4_gateOf_1 (by decide) ?_
  refine k_put F nX4_gateOf_X4 tyX4 tyX4_ok nmX4 hK.1 hP hD hS 0 rfl rfl 0 (by decide) (List.mem_of_getElem? (i := 1) rfl) rfl (by decide +kernel) (Nat.le_of_ble_eq_true rfl) dX4_gateOf_2 (wMo cI u S (nI 0) K) wMo_f0 (fun H locs hP hD hS => ?_)
  refine lv_aload_n F.1 F.2.1 dX4_gateOf_5 rfl (lv_at hl 0 rfl) ?_
  refine lv_iload_n F.1 F.2.1 dX4_gateOf_6 rfl (lv_at hl 1 rfl) ?_
  refine k_pV (n := 1) (rest := []) (v := bI (0 ≤ x1 ∧ x1 < nI (S 0 1))) F (c_X4_isGoose l D cI u S (nI 0) K x1 (by first | assumption | omega)) gX4_gateOf_X4_isGoose rfl (by decide +kernel) ⟨Nat.le_of_ble_eq_true rfl, Nat.le_of_ble_eq_true rfl⟩ rfl hl.1 rfl (Nat.le_of_ble_eq_true rfl) dX4_gateOf_7 ⟨Nat.zero_le _, Nat.zero_le _⟩ hK hP hS [0, 1, 2, 3, 4, 5] rfl (q0 := 0) (ci := 4) rfl rfl (fun H locs hP hS => ?_)
  refine k_ifeq_b (tgt := 22) F dX4_gateOf_10 (by decide) (fun h10 => ?_) (fun h10 => ?_)
  · skip
    refine lv_aload_n F.1 F.2.1 dX4_gateOf_22 rfl (lv_at hl 0 rfl) ?_
    refine lv_iconst (v := nI 1) F.1 F.2.1 dX4_gateOf_23 (by decide) ?_
    refine k_mI (n := 1) (rest := []) (v := nI 0) F (c_X4_fail l D cI u S (nI 0) K (nI 1)) gX4_gateOf_X4_fail rfl (by decide +kernel) ⟨Nat.le_of_ble_eq_true rfl, Nat.le_of_ble_eq_true rfl⟩ rfl hl.1 rfl (Nat.le_of_ble_eq_true rfl) dX4_gateOf_24 ⟨Nat.zero_le _, Nat.zero_le _⟩ hK hP hD hS [0, 1, 2, 3, 4, 5] rfl rfl rfl (wMo cI u S (nI 1) K) wMo_ms wMo_ad (q0 := 0) (ci := 4) rfl rfl (fun H locs hP hD hS => ?_)
    have e9 : r1 (S 0 1) x1 (nI (S 2 (cl x1))) = (1, nI 0) := r1_n h10
    exact k_retMI F hr hlk hP (by rw [e9]) hS (by rw [e9]) rfl dX4_gateOf_27
  · skip
    obtain ⟨g1, hg1, rfl⟩ := lt_nI (by omega) h10
    refine lv_aload_n F.1 F.2.1 dX4_gateOf_13 rfl (lv_at hl 0 rfl) ?_
    refine k_get (v := .ref (u 2)) F nX4_gateOf_X4 hK.1 hP 0 rfl rfl 5 (by decide) (List.mem_of_getElem? (i := 2) rfl) rfl dX4_gateOf_14 ?_
    refine lv_iload_n F.1 F.2.1 dX4_gateOf_17 rfl (lv_at hl 1 rfl) ?_
    refine k_iald (f := S 2) (n := 8) F hK.1 hP 2 0 rfl rfl (by omega) (by decide) dX4_gateOf_18 ?_
    refine lv_goto (tgt := 27) F.1 F.2.1 dX4_gateOf_19 (by decide) ?_
    have e9 : r1 (S 0 1) (nI g1) (nI (S 2 (cl (nI g1)))) = (0, nI (S 2 g1)) := by rw [cl_nI (show g1 < 2 ^ 31 by omega)]; exact r1_y h10
    exact k_retMI F hr hlk hP (by rw [e9]) hS (by rw [e9]) rfl dX4_gateOf_27
theorem nX4_goose_X4 : ∀ x ∈ wsX40, x ∈ wsX4_goose := fun _ h => List.mem_cons_of_mem _ (List.mem_append_right _ h)
set_option maxRecDepth 100000 in
set_option maxHeartbeats 4000000 in
theorem c_X4_goose (l : Launch) (D : va_G) (cI : ClassId) (u : Nat → Nat) (S : Nat → Nat → Nat) (th : Int32) (K : Nat → Nat) (x1 : Int32) (w : Nat) (hI : Inv S) (hw : w < 3) : MI l yX4_goose wsX4_goose 2 43 D [(cI, .int)] [.ref (u 0), .int x1, .int (nI w)] (wMo cI u S th K) (wMo cI u S (nI (r1 (S 0 1) x1 (nI (S (3 + w) (cl x1)))).1) K) ((r1 (S 0 1) x1 (nI (S (3 + w) (cl x1)))).2) := by
  refine k_bodyM (cc := cX4_goose) (maxL := 3) (ret := (some .int)) (by decide) rfl (Nat.le_of_ble_eq_true rfl) ?_
  intro p e s m args below meth c H ls F hr hlk hl hP hK hD hS
  have F : CallFix p m c cX4_goose 3 s args wsX4_goose RX4 := F
  have hl : lv_has ls 3 [(0, .ref (u 0)), (1, .int x1), (2, .int (nI w))] := hl
  have hi0 := hI.gates
  have hi1 := hI.geese
  have hi2 := hI.guests
  refine lv_aload_n F.1 F.2.1 dX4_goose_0 rfl (lv_at hl 0 rfl) ?_
  refine lv_iconst (v := nI 0) F.1 F.2.1 dX4_goose_1 (by decide) ?_
  refine k_put F nX4_goose_X4 tyX4 tyX4_ok nmX4 hK.1 hP hD hS 0 rfl rfl 0 (by decide) (List.mem_of_getElem? (i := 1) rfl) rfl (by decide +kernel) (Nat.le_of_ble_eq_true rfl) dX4_goose_2 (wMo cI u S (nI 0) K) wMo_f0 (fun H locs hP hD hS => ?_)
  refine lv_aload_n F.1 F.2.1 dX4_goose_5 rfl (lv_at hl 0 rfl) ?_
  refine lv_iload_n F.1 F.2.1 dX4_goose_6 rfl (lv_at hl 1 rfl) ?_
  refine k_pV (n := 1) (rest := []) (v := bI (0 ≤ x1 ∧ x1 < nI (S 0 1))) F (c_X4_isGoose l D cI u S (nI 0) K x1 (by first | assumption | omega)) gX4_goose_X4_isGoose rfl (by decide +kernel) ⟨Nat.le_of_ble_eq_true rfl, Nat.le_of_ble_eq_true rfl⟩ rfl hl.1 rfl (Nat.le_of_ble_eq_true rfl) dX4_goose_7 ⟨Nat.zero_le _, Nat.zero_le _⟩ hK hP hS [0, 1, 2, 3, 4, 5] rfl (q0 := 0) (ci := 4) rfl rfl (fun H locs hP hS => ?_)
  refine k_ifeq_b (tgt := 22) F dX4_goose_10 (by decide) (fun h10 => ?_) (fun h10 => ?_)
  · skip
    refine lv_aload_n F.1 F.2.1 dX4_goose_22 rfl (lv_at hl 0 rfl) ?_
    refine lv_iconst (v := nI 1) F.1 F.2.1 dX4_goose_23 (by decide) ?_
    refine k_mI (n := 1) (rest := []) (v := nI 0) F (c_X4_fail l D cI u S (nI 0) K (nI 1)) gX4_goose_X4_fail rfl (by decide +kernel) ⟨Nat.le_of_ble_eq_true rfl, Nat.le_of_ble_eq_true rfl⟩ rfl hl.1 rfl (Nat.le_of_ble_eq_true rfl) dX4_goose_24 ⟨Nat.zero_le _, Nat.zero_le _⟩ hK hP hD hS [0, 1, 2, 3, 4, 5] rfl rfl rfl (wMo cI u S (nI 1) K) wMo_ms wMo_ad (q0 := 0) (ci := 4) rfl rfl (fun H locs hP hD hS => ?_)
    have e9 : r1 (S 0 1) x1 (nI (S (3 + w) (cl x1))) = (1, nI 0) := r1_n h10
    exact k_retMI F hr hlk hP (by rw [e9]) hS (by rw [e9]) rfl dX4_goose_27
  · skip
    obtain ⟨g1, hg1, rfl⟩ := lt_nI (by omega) h10
    refine lv_aload_n F.1 F.2.1 dX4_goose_13 rfl (lv_at hl 0 rfl) ?_
    refine lv_iload_n F.1 F.2.1 dX4_goose_14 rfl (lv_at hl 1 rfl) ?_
    refine lv_iload_n F.1 F.2.1 dX4_goose_15 rfl (lv_at hl 2 rfl) ?_
    refine k_pV (n := 2) (rest := []) (v := nI (S (3 + w) g1)) F (c_X4_go l D cI u S (nI 0) K g1 w (by first | assumption | omega) (by first | assumption | omega)) gX4_goose_X4_go rfl (by decide +kernel) ⟨Nat.le_of_ble_eq_true rfl, Nat.le_of_ble_eq_true rfl⟩ rfl hl.1 rfl (Nat.le_of_ble_eq_true rfl) dX4_goose_16 ⟨Nat.zero_le _, Nat.zero_le _⟩ hK hP hS [0, 1, 2, 3, 4, 5] rfl (q0 := 0) (ci := 4) rfl rfl (fun H locs hP hS => ?_)
    refine lv_goto (tgt := 27) F.1 F.2.1 dX4_goose_19 (by decide) ?_
    have e9 : r1 (S 0 1) (nI g1) (nI (S (3 + w) (cl (nI g1)))) = (0, nI (S (3 + w) g1)) := by rw [cl_nI (show g1 < 2 ^ 31 by omega)]; exact r1_y h10
    exact k_retMI F hr hlk hP (by rw [e9]) hS (by rw [e9]) rfl dX4_goose_27
theorem nX4_visitor_X4 : ∀ x ∈ wsX40, x ∈ wsX4_visitor := fun _ h => List.mem_cons_of_mem _ (List.mem_append_right _ h)
set_option maxRecDepth 100000 in
set_option maxHeartbeats 4000000 in
theorem c_X4_visitor (l : Launch) (D : va_G) (cI : ClassId) (u : Nat → Nat) (S : Nat → Nat → Nat) (th : Int32) (K : Nat → Nat) (x1 : Int32) (w : Nat) (hI : Inv S) (hw : w < 4) : MI l yX4_visitor wsX4_visitor 2 43 D [(cI, .int)] [.ref (u 0), .int x1, .int (nI w)] (wMo cI u S th K) (wMo cI u S (nI (r1 (S 0 2) x1 (nI (S (7 + w) (cl x1)))).1) K) ((r1 (S 0 2) x1 (nI (S (7 + w) (cl x1)))).2) := by
  refine k_bodyM (cc := cX4_visitor) (maxL := 3) (ret := (some .int)) (by decide) rfl (Nat.le_of_ble_eq_true rfl) ?_
  intro p e s m args below meth c H ls F hr hlk hl hP hK hD hS
  have F : CallFix p m c cX4_visitor 3 s args wsX4_visitor RX4 := F
  have hl : lv_has ls 3 [(0, .ref (u 0)), (1, .int x1), (2, .int (nI w))] := hl
  have hi0 := hI.gates
  have hi1 := hI.geese
  have hi2 := hI.guests
  refine lv_aload_n F.1 F.2.1 dX4_visitor_0 rfl (lv_at hl 0 rfl) ?_
  refine lv_iconst (v := nI 0) F.1 F.2.1 dX4_visitor_1 (by decide) ?_
  refine k_put F nX4_visitor_X4 tyX4 tyX4_ok nmX4 hK.1 hP hD hS 0 rfl rfl 0 (by decide) (List.mem_of_getElem? (i := 1) rfl) rfl (by decide +kernel) (Nat.le_of_ble_eq_true rfl) dX4_visitor_2 (wMo cI u S (nI 0) K) wMo_f0 (fun H locs hP hD hS => ?_)
  refine lv_aload_n F.1 F.2.1 dX4_visitor_5 rfl (lv_at hl 0 rfl) ?_
  refine lv_iload_n F.1 F.2.1 dX4_visitor_6 rfl (lv_at hl 1 rfl) ?_
  refine k_pV (n := 1) (rest := []) (v := bI (0 ≤ x1 ∧ x1 < nI (S 0 2))) F (c_X4_isVisitor l D cI u S (nI 0) K x1 (by first | assumption | omega)) gX4_visitor_X4_isVisitor rfl (by decide +kernel) ⟨Nat.le_of_ble_eq_true rfl, Nat.le_of_ble_eq_true rfl⟩ rfl hl.1 rfl (Nat.le_of_ble_eq_true rfl) dX4_visitor_7 ⟨Nat.zero_le _, Nat.zero_le _⟩ hK hP hS [0, 1, 2, 3, 4, 5] rfl (q0 := 0) (ci := 4) rfl rfl (fun H locs hP hS => ?_)
  refine k_ifeq_b (tgt := 22) F dX4_visitor_10 (by decide) (fun h10 => ?_) (fun h10 => ?_)
  · skip
    refine lv_aload_n F.1 F.2.1 dX4_visitor_22 rfl (lv_at hl 0 rfl) ?_
    refine lv_iconst (v := nI 1) F.1 F.2.1 dX4_visitor_23 (by decide) ?_
    refine k_mI (n := 1) (rest := []) (v := nI 0) F (c_X4_fail l D cI u S (nI 0) K (nI 1)) gX4_visitor_X4_fail rfl (by decide +kernel) ⟨Nat.le_of_ble_eq_true rfl, Nat.le_of_ble_eq_true rfl⟩ rfl hl.1 rfl (Nat.le_of_ble_eq_true rfl) dX4_visitor_24 ⟨Nat.zero_le _, Nat.zero_le _⟩ hK hP hD hS [0, 1, 2, 3, 4, 5] rfl rfl rfl (wMo cI u S (nI 1) K) wMo_ms wMo_ad (q0 := 0) (ci := 4) rfl rfl (fun H locs hP hD hS => ?_)
    have e9 : r1 (S 0 2) x1 (nI (S (7 + w) (cl x1))) = (1, nI 0) := r1_n h10
    exact k_retMI F hr hlk hP (by rw [e9]) hS (by rw [e9]) rfl dX4_visitor_27
  · skip
    obtain ⟨g1, hg1, rfl⟩ := lt_nI (by omega) h10
    refine lv_aload_n F.1 F.2.1 dX4_visitor_13 rfl (lv_at hl 0 rfl) ?_
    refine lv_iload_n F.1 F.2.1 dX4_visitor_14 rfl (lv_at hl 1 rfl) ?_
    refine lv_iload_n F.1 F.2.1 dX4_visitor_15 rfl (lv_at hl 2 rfl) ?_
    refine k_pV (n := 2) (rest := []) (v := nI (S (7 + w) g1)) F (c_X4_vi l D cI u S (nI 0) K g1 w (by first | assumption | omega) (by first | assumption | omega)) gX4_visitor_X4_vi rfl (by decide +kernel) ⟨Nat.le_of_ble_eq_true rfl, Nat.le_of_ble_eq_true rfl⟩ rfl hl.1 rfl (Nat.le_of_ble_eq_true rfl) dX4_visitor_16 ⟨Nat.zero_le _, Nat.zero_le _⟩ hK hP hS [0, 1, 2, 3, 4, 5] rfl (q0 := 0) (ci := 4) rfl rfl (fun H locs hP hS => ?_)
    refine lv_goto (tgt := 27) F.1 F.2.1 dX4_visitor_19 (by decide) ?_
    have e9 : r1 (S 0 2) (nI g1) (nI (S (7 + w) (cl (nI g1)))) = (0, nI (S (7 + w) g1)) := by rw [cl_nI (show g1 < 2 ^ 31 by omega)]; exact r1_y h10
    exact k_retMI F hr hlk hP (by rw [e9]) hS (by rw [e9]) rfl dX4_visitor_27
set_option maxRecDepth 100000 in
set_option maxHeartbeats 4000000 in
theorem c_X4_temperOf (l : Launch) (D : va_G) (cI : ClassId) (u : Nat → Nat) (S : Nat → Nat → Nat) (th : Int32) (K : Nat → Nat) (x1 : Int32) (hI : Inv S) : MI l yX4_temperOf wsX4_temperOf 3 65 D [(cI, .int)] [.ref (u 0), .int x1] (wMo cI u S th K) (wMo cI u S (nI (r1 (S 0 1) x1 (nI (S 3 (cl x1)))).1) K) ((r1 (S 0 1) x1 (nI (S 3 (cl x1)))).2) := by
  refine k_bodyM (cc := cX4_temperOf) (maxL := 2) (ret := (some .int)) (by decide) rfl (Nat.le_of_ble_eq_true rfl) ?_
  intro p e s m args below meth c H ls F hr hlk hl hP hK hD hS
  have F : CallFix p m c cX4_temperOf 2 s args wsX4_temperOf RX4 := F
  have hl : lv_has ls 2 [(0, .ref (u 0)), (1, .int x1)] := hl
  refine lv_aload_n F.1 F.2.1 dX4_temperOf_0 rfl (lv_at hl 0 rfl) ?_
  refine lv_iload_n F.1 F.2.1 dX4_temperOf_1 rfl (lv_at hl 1 rfl) ?_
  refine lv_iconst (v := nI 0) F.1 F.2.1 dX4_temperOf_2 (by decide) ?_
  refine k_mI (n := 2) (rest := []) (v := (r1 (S 0 1) x1 (nI (S 3 (cl x1)))).2) F (c_X4_goose l D cI u S th K x1 0 hI (by first | assumption | omega)) gX4_temperOf_X4_goose rfl (by decide +kernel) ⟨Nat.le_of_ble_eq_true rfl, Nat.le_of_ble_eq_true rfl⟩ rfl hl.1 rfl (Nat.le_of_ble_eq_true rfl) dX4_temperOf_3 ⟨Nat.zero_le _, Nat.zero_le _⟩ hK hP hD hS [0, 1, 2, 3, 4, 5] rfl rfl rfl (wMo cI u S (nI (r1 (S 0 1) x1 (nI (S 3 (cl x1)))).1) K) wMo_ms wMo_ad (q0 := 0) (ci := 4) rfl rfl (fun H locs hP hD hS => ?_)
  exact k_retMI F hr hlk hP rfl hS rfl rfl dX4_temperOf_6
set_option maxRecDepth 100000 in
set_option maxHeartbeats 4000000 in
theorem c_X4_calmFor (l : Launch) (D : va_G) (cI : ClassId) (u : Nat → Nat) (S : Nat → Nat → Nat) (th : Int32) (K : Nat → Nat) (x1 : Int32) (hI : Inv S) : MI l yX4_calmFor wsX4_calmFor 3 65 D [(cI, .int)] [.ref (u 0), .int x1] (wMo cI u S th K) (wMo cI u S (nI (r1 (S 0 1) x1 (nI (S 4 (cl x1)))).1) K) ((r1 (S 0 1) x1 (nI (S 4 (cl x1)))).2) := by
  refine k_bodyM (cc := cX4_calmFor) (maxL := 2) (ret := (some .int)) (by decide) rfl (Nat.le_of_ble_eq_true rfl) ?_
  intro p e s m args below meth c H ls F hr hlk hl hP hK hD hS
  have F : CallFix p m c cX4_calmFor 2 s args wsX4_calmFor RX4 := F
  have hl : lv_has ls 2 [(0, .ref (u 0)), (1, .int x1)] := hl
  refine lv_aload_n F.1 F.2.1 dX4_calmFor_0 rfl (lv_at hl 0 rfl) ?_
  refine lv_iload_n F.1 F.2.1 dX4_calmFor_1 rfl (lv_at hl 1 rfl) ?_
  refine lv_iconst (v := nI 1) F.1 F.2.1 dX4_calmFor_2 (by decide) ?_
  refine k_mI (n := 2) (rest := []) (v := (r1 (S 0 1) x1 (nI (S 4 (cl x1)))).2) F (c_X4_goose l D cI u S th K x1 1 hI (by first | assumption | omega)) gX4_calmFor_X4_goose rfl (by decide +kernel) ⟨Nat.le_of_ble_eq_true rfl, Nat.le_of_ble_eq_true rfl⟩ rfl hl.1 rfl (Nat.le_of_ble_eq_true rfl) dX4_calmFor_3 ⟨Nat.zero_le _, Nat.zero_le _⟩ hK hP hD hS [0, 1, 2, 3, 4, 5] rfl rfl rfl (wMo cI u S (nI (r1 (S 0 1) x1 (nI (S 4 (cl x1)))).1) K) wMo_ms wMo_ad (q0 := 0) (ci := 4) rfl rfl (fun H locs hP hD hS => ?_)
  exact k_retMI F hr hlk hP rfl hS rfl rfl dX4_calmFor_6
set_option maxRecDepth 100000 in
set_option maxHeartbeats 4000000 in
theorem c_X4_eatenBy (l : Launch) (D : va_G) (cI : ClassId) (u : Nat → Nat) (S : Nat → Nat → Nat) (th : Int32) (K : Nat → Nat) (x1 : Int32) (hI : Inv S) : MI l yX4_eatenBy wsX4_eatenBy 3 65 D [(cI, .int)] [.ref (u 0), .int x1] (wMo cI u S th K) (wMo cI u S (nI (r1 (S 0 1) x1 (nI (S 5 (cl x1)))).1) K) ((r1 (S 0 1) x1 (nI (S 5 (cl x1)))).2) := by
  refine k_bodyM (cc := cX4_eatenBy) (maxL := 2) (ret := (some .int)) (by decide) rfl (Nat.le_of_ble_eq_true rfl) ?_
  intro p e s m args below meth c H ls F hr hlk hl hP hK hD hS
  have F : CallFix p m c cX4_eatenBy 2 s args wsX4_eatenBy RX4 := F
  have hl : lv_has ls 2 [(0, .ref (u 0)), (1, .int x1)] := hl
  refine lv_aload_n F.1 F.2.1 dX4_eatenBy_0 rfl (lv_at hl 0 rfl) ?_
  refine lv_iload_n F.1 F.2.1 dX4_eatenBy_1 rfl (lv_at hl 1 rfl) ?_
  refine lv_iconst (v := nI 2) F.1 F.2.1 dX4_eatenBy_2 (by decide) ?_
  refine k_mI (n := 2) (rest := []) (v := (r1 (S 0 1) x1 (nI (S 5 (cl x1)))).2) F (c_X4_goose l D cI u S th K x1 2 hI (by first | assumption | omega)) gX4_eatenBy_X4_goose rfl (by decide +kernel) ⟨Nat.le_of_ble_eq_true rfl, Nat.le_of_ble_eq_true rfl⟩ rfl hl.1 rfl (Nat.le_of_ble_eq_true rfl) dX4_eatenBy_3 ⟨Nat.zero_le _, Nat.zero_le _⟩ hK hP hD hS [0, 1, 2, 3, 4, 5] rfl rfl rfl (wMo cI u S (nI (r1 (S 0 1) x1 (nI (S 5 (cl x1)))).1) K) wMo_ms wMo_ad (q0 := 0) (ci := 4) rfl rfl (fun H locs hP hD hS => ?_)
  exact k_retMI F hr hlk hP rfl hS rfl rfl dX4_eatenBy_6
set_option maxRecDepth 100000 in
set_option maxHeartbeats 4000000 in
theorem c_X4_passedBy (l : Launch) (D : va_G) (cI : ClassId) (u : Nat → Nat) (S : Nat → Nat → Nat) (th : Int32) (K : Nat → Nat) (x1 : Int32) (hI : Inv S) : MI l yX4_passedBy wsX4_passedBy 3 65 D [(cI, .int)] [.ref (u 0), .int x1] (wMo cI u S th K) (wMo cI u S (nI (r1 (S 0 2) x1 (nI (S 7 (cl x1)))).1) K) ((r1 (S 0 2) x1 (nI (S 7 (cl x1)))).2) := by
  refine k_bodyM (cc := cX4_passedBy) (maxL := 2) (ret := (some .int)) (by decide) rfl (Nat.le_of_ble_eq_true rfl) ?_
  intro p e s m args below meth c H ls F hr hlk hl hP hK hD hS
  have F : CallFix p m c cX4_passedBy 2 s args wsX4_passedBy RX4 := F
  have hl : lv_has ls 2 [(0, .ref (u 0)), (1, .int x1)] := hl
  refine lv_aload_n F.1 F.2.1 dX4_passedBy_0 rfl (lv_at hl 0 rfl) ?_
  refine lv_iload_n F.1 F.2.1 dX4_passedBy_1 rfl (lv_at hl 1 rfl) ?_
  refine lv_iconst (v := nI 0) F.1 F.2.1 dX4_passedBy_2 (by decide) ?_
  refine k_mI (n := 2) (rest := []) (v := (r1 (S 0 2) x1 (nI (S 7 (cl x1)))).2) F (c_X4_visitor l D cI u S th K x1 0 hI (by first | assumption | omega)) gX4_passedBy_X4_visitor rfl (by decide +kernel) ⟨Nat.le_of_ble_eq_true rfl, Nat.le_of_ble_eq_true rfl⟩ rfl hl.1 rfl (Nat.le_of_ble_eq_true rfl) dX4_passedBy_3 ⟨Nat.zero_le _, Nat.zero_le _⟩ hK hP hD hS [0, 1, 2, 3, 4, 5] rfl rfl rfl (wMo cI u S (nI (r1 (S 0 2) x1 (nI (S 7 (cl x1)))).1) K) wMo_ms wMo_ad (q0 := 0) (ci := 4) rfl rfl (fun H locs hP hD hS => ?_)
  exact k_retMI F hr hlk hP rfl hS rfl rfl dX4_passedBy_6
set_option maxRecDepth 100000 in
set_option maxHeartbeats 4000000 in
theorem c_X4_cornsOf (l : Launch) (D : va_G) (cI : ClassId) (u : Nat → Nat) (S : Nat → Nat → Nat) (th : Int32) (K : Nat → Nat) (x1 : Int32) (hI : Inv S) : MI l yX4_cornsOf wsX4_cornsOf 3 65 D [(cI, .int)] [.ref (u 0), .int x1] (wMo cI u S th K) (wMo cI u S (nI (r1 (S 0 2) x1 (nI (S 8 (cl x1)))).1) K) ((r1 (S 0 2) x1 (nI (S 8 (cl x1)))).2) := by
  refine k_bodyM (cc := cX4_cornsOf) (maxL := 2) (ret := (some .int)) (by decide) rfl (Nat.le_of_ble_eq_true rfl) ?_
  intro p e s m args below meth c H ls F hr hlk hl hP hK hD hS
  have F : CallFix p m c cX4_cornsOf 2 s args wsX4_cornsOf RX4 := F
  have hl : lv_has ls 2 [(0, .ref (u 0)), (1, .int x1)] := hl
  refine lv_aload_n F.1 F.2.1 dX4_cornsOf_0 rfl (lv_at hl 0 rfl) ?_
  refine lv_iload_n F.1 F.2.1 dX4_cornsOf_1 rfl (lv_at hl 1 rfl) ?_
  refine lv_iconst (v := nI 1) F.1 F.2.1 dX4_cornsOf_2 (by decide) ?_
  refine k_mI (n := 2) (rest := []) (v := (r1 (S 0 2) x1 (nI (S 8 (cl x1)))).2) F (c_X4_visitor l D cI u S th K x1 1 hI (by first | assumption | omega)) gX4_cornsOf_X4_visitor rfl (by decide +kernel) ⟨Nat.le_of_ble_eq_true rfl, Nat.le_of_ble_eq_true rfl⟩ rfl hl.1 rfl (Nat.le_of_ble_eq_true rfl) dX4_cornsOf_3 ⟨Nat.zero_le _, Nat.zero_le _⟩ hK hP hD hS [0, 1, 2, 3, 4, 5] rfl rfl rfl (wMo cI u S (nI (r1 (S 0 2) x1 (nI (S 8 (cl x1)))).1) K) wMo_ms wMo_ad (q0 := 0) (ci := 4) rfl rfl (fun H locs hP hD hS => ?_)
  exact k_retMI F hr hlk hP rfl hS rfl rfl dX4_cornsOf_6
set_option maxRecDepth 100000 in
set_option maxHeartbeats 4000000 in
theorem c_X4_nerveOf (l : Launch) (D : va_G) (cI : ClassId) (u : Nat → Nat) (S : Nat → Nat → Nat) (th : Int32) (K : Nat → Nat) (x1 : Int32) (hI : Inv S) : MI l yX4_nerveOf wsX4_nerveOf 3 65 D [(cI, .int)] [.ref (u 0), .int x1] (wMo cI u S th K) (wMo cI u S (nI (r1 (S 0 2) x1 (nI (S 9 (cl x1)))).1) K) ((r1 (S 0 2) x1 (nI (S 9 (cl x1)))).2) := by
  refine k_bodyM (cc := cX4_nerveOf) (maxL := 2) (ret := (some .int)) (by decide) rfl (Nat.le_of_ble_eq_true rfl) ?_
  intro p e s m args below meth c H ls F hr hlk hl hP hK hD hS
  have F : CallFix p m c cX4_nerveOf 2 s args wsX4_nerveOf RX4 := F
  have hl : lv_has ls 2 [(0, .ref (u 0)), (1, .int x1)] := hl
  refine lv_aload_n F.1 F.2.1 dX4_nerveOf_0 rfl (lv_at hl 0 rfl) ?_
  refine lv_iload_n F.1 F.2.1 dX4_nerveOf_1 rfl (lv_at hl 1 rfl) ?_
  refine lv_iconst (v := nI 2) F.1 F.2.1 dX4_nerveOf_2 (by decide) ?_
  refine k_mI (n := 2) (rest := []) (v := (r1 (S 0 2) x1 (nI (S 9 (cl x1)))).2) F (c_X4_visitor l D cI u S th K x1 2 hI (by first | assumption | omega)) gX4_nerveOf_X4_visitor rfl (by decide +kernel) ⟨Nat.le_of_ble_eq_true rfl, Nat.le_of_ble_eq_true rfl⟩ rfl hl.1 rfl (Nat.le_of_ble_eq_true rfl) dX4_nerveOf_3 ⟨Nat.zero_le _, Nat.zero_le _⟩ hK hP hD hS [0, 1, 2, 3, 4, 5] rfl rfl rfl (wMo cI u S (nI (r1 (S 0 2) x1 (nI (S 9 (cl x1)))).1) K) wMo_ms wMo_ad (q0 := 0) (ci := 4) rfl rfl (fun H locs hP hD hS => ?_)
  exact k_retMI F hr hlk hP rfl hS rfl rfl dX4_nerveOf_6
set_option maxRecDepth 100000 in
set_option maxHeartbeats 4000000 in
theorem c_X4_retreatOf (l : Launch) (D : va_G) (cI : ClassId) (u : Nat → Nat) (S : Nat → Nat → Nat) (th : Int32) (K : Nat → Nat) (x1 : Int32) (hI : Inv S) : MI l yX4_retreatOf wsX4_retreatOf 3 65 D [(cI, .int)] [.ref (u 0), .int x1] (wMo cI u S th K) (wMo cI u S (nI (r1 (S 0 2) x1 (nI (S 10 (cl x1)))).1) K) ((r1 (S 0 2) x1 (nI (S 10 (cl x1)))).2) := by
  refine k_bodyM (cc := cX4_retreatOf) (maxL := 2) (ret := (some .int)) (by decide) rfl (Nat.le_of_ble_eq_true rfl) ?_
  intro p e s m args below meth c H ls F hr hlk hl hP hK hD hS
  have F : CallFix p m c cX4_retreatOf 2 s args wsX4_retreatOf RX4 := F
  have hl : lv_has ls 2 [(0, .ref (u 0)), (1, .int x1)] := hl
  refine lv_aload_n F.1 F.2.1 dX4_retreatOf_0 rfl (lv_at hl 0 rfl) ?_
  refine lv_iload_n F.1 F.2.1 dX4_retreatOf_1 rfl (lv_at hl 1 rfl) ?_
  refine lv_iconst (v := nI 3) F.1 F.2.1 dX4_retreatOf_2 (by decide) ?_
  refine k_mI (n := 2) (rest := []) (v := (r1 (S 0 2) x1 (nI (S 10 (cl x1)))).2) F (c_X4_visitor l D cI u S th K x1 3 hI (by first | assumption | omega)) gX4_retreatOf_X4_visitor rfl (by decide +kernel) ⟨Nat.le_of_ble_eq_true rfl, Nat.le_of_ble_eq_true rfl⟩ rfl hl.1 rfl (Nat.le_of_ble_eq_true rfl) dX4_retreatOf_3 ⟨Nat.zero_le _, Nat.zero_le _⟩ hK hP hD hS [0, 1, 2, 3, 4, 5] rfl rfl rfl (wMo cI u S (nI (r1 (S 0 2) x1 (nI (S 10 (cl x1)))).1) K) wMo_ms wMo_ad (q0 := 0) (ci := 4) rfl rfl (fun H locs hP hD hS => ?_)
  exact k_retMI F hr hlk hP rfl hS rfl rfl dX4_retreatOf_6
theorem nX4_hissAt_X4 : ∀ x ∈ wsX40, x ∈ wsX4_hissAt := fun _ h => List.mem_cons_of_mem _ (List.mem_append_right _ h)
set_option maxRecDepth 100000 in
set_option maxHeartbeats 4000000 in
theorem c_X4_hissAt (l : Launch) (D : va_G) (cI : ClassId) (u : Nat → Nat) (S : Nat → Nat → Nat) (th : Int32) (K : Nat → Nat) (x1 : Int32) (hI : Inv S) : MI l yX4_hissAt wsX4_hissAt 4 89 D [(cI, .int)] [.ref (u 0), .int x1] (wMo cI u S th K) (wMo cI u S (nI (r1 (S 0 2) x1 (nI (hisG S (S 7 (cl x1)) (S 6 (cl x1))))).1) K) ((r1 (S 0 2) x1 (nI (hisG S (S 7 (cl x1)) (S 6 (cl x1))))).2) := by
  refine k_bodyM (cc := cX4_hissAt) (maxL := 2) (ret := (some .int)) (by decide) rfl (Nat.le_of_ble_eq_true rfl) ?_
  intro p e s m args below meth c H ls F hr hlk hl hP hK hD hS
  have F : CallFix p m c cX4_hissAt 2 s args wsX4_hissAt RX4 := F
  have hl : lv_has ls 2 [(0, .ref (u 0)), (1, .int x1)] := hl
  have hi0 := hI.gates
  have hi1 := hI.geese
  have hi2 := hI.guests
  refine lv_aload_n F.1 F.2.1 dX4_hissAt_0 rfl (lv_at hl 0 rfl) ?_
  refine lv_iconst (v := nI 0) F.1 F.2.1 dX4_hissAt_1 (by decide) ?_
  refine k_put F nX4_hissAt_X4 tyX4 tyX4_ok nmX4 hK.1 hP hD hS 0 rfl rfl 0 (by decide) (List.mem_of_getElem? (i := 1) rfl) rfl (by decide +kernel) (Nat.le_of_ble_eq_true rfl) dX4_hissAt_2 (wMo cI u S (nI 0) K) wMo_f0 (fun H locs hP hD hS => ?_)
  refine lv_aload_n F.1 F.2.1 dX4_hissAt_5 rfl (lv_at hl 0 rfl) ?_
  refine lv_iload_n F.1 F.2.1 dX4_hissAt_6 rfl (lv_at hl 1 rfl) ?_
  refine k_pV (n := 1) (rest := []) (v := bI (0 ≤ x1 ∧ x1 < nI (S 0 2))) F (c_X4_isVisitor l D cI u S (nI 0) K x1 (by first | assumption | omega)) gX4_hissAt_X4_isVisitor rfl (by decide +kernel) ⟨Nat.le_of_ble_eq_true rfl, Nat.le_of_ble_eq_true rfl⟩ rfl hl.1 rfl (Nat.le_of_ble_eq_true rfl) dX4_hissAt_7 ⟨Nat.zero_le _, Nat.zero_le _⟩ hK hP hS [0, 1, 2, 3, 4, 5] rfl (q0 := 0) (ci := 4) rfl rfl (fun H locs hP hS => ?_)
  refine k_ifeq_b (tgt := 21) F dX4_hissAt_10 (by decide) (fun h10 => ?_) (fun h10 => ?_)
  · skip
    refine lv_aload_n F.1 F.2.1 dX4_hissAt_21 rfl (lv_at hl 0 rfl) ?_
    refine lv_iconst (v := nI 1) F.1 F.2.1 dX4_hissAt_22 (by decide) ?_
    refine k_mI (n := 1) (rest := []) (v := nI 0) F (c_X4_fail l D cI u S (nI 0) K (nI 1)) gX4_hissAt_X4_fail rfl (by decide +kernel) ⟨Nat.le_of_ble_eq_true rfl, Nat.le_of_ble_eq_true rfl⟩ rfl hl.1 rfl (Nat.le_of_ble_eq_true rfl) dX4_hissAt_23 ⟨Nat.zero_le _, Nat.zero_le _⟩ hK hP hD hS [0, 1, 2, 3, 4, 5] rfl rfl rfl (wMo cI u S (nI 1) K) wMo_ms wMo_ad (q0 := 0) (ci := 4) rfl rfl (fun H locs hP hD hS => ?_)
    have e9 : r1 (S 0 2) x1 (nI (hisG S (S 7 (cl x1)) (S 6 (cl x1)))) = (1, nI 0) := r1_n h10
    exact k_retMI F hr hlk hP (by rw [e9]) hS (by rw [e9]) rfl dX4_hissAt_26
  · skip
    obtain ⟨g1, hg1, rfl⟩ := lt_nI (by omega) h10
    refine lv_aload_n F.1 F.2.1 dX4_hissAt_13 rfl (lv_at hl 0 rfl) ?_
    refine lv_iload_n F.1 F.2.1 dX4_hissAt_14 rfl (lv_at hl 1 rfl) ?_
    refine k_pV (n := 1) (rest := []) (v := nI (hisG S (S 7 g1) (S 6 g1))) F (c_X4_hissNow l D cI u S (nI 0) K g1 hI (by first | assumption | omega)) gX4_hissAt_X4_hissNow rfl (by decide +kernel) ⟨Nat.le_of_ble_eq_true rfl, Nat.le_of_ble_eq_true rfl⟩ rfl hl.1 rfl (Nat.le_of_ble_eq_true rfl) dX4_hissAt_15 ⟨Nat.zero_le _, Nat.zero_le _⟩ hK hP hS [0, 1, 2, 3, 4, 5] rfl (q0 := 0) (ci := 4) rfl rfl (fun H locs hP hS => ?_)
    refine lv_goto (tgt := 26) F.1 F.2.1 dX4_hissAt_18 (by decide) ?_
    have e9 : r1 (S 0 2) (nI g1) (nI (hisG S (S 7 (cl (nI g1))) (S 6 (cl (nI g1))))) = (0, nI (hisG S (S 7 g1) (S 6 g1))) := by rw [cl_nI (show g1 < 2 ^ 31 by omega)]; exact r1_y h10
    exact k_retMI F hr hlk hP (by rw [e9]) hS (by rw [e9]) rfl dX4_hissAt_26
theorem nX4_gradeFor_X4 : ∀ x ∈ wsX40, x ∈ wsX4_gradeFor := fun _ h => List.mem_cons_of_mem _ (List.mem_append_right _ h)
set_option maxRecDepth 100000 in
set_option maxHeartbeats 4000000 in
theorem c_X4_gradeFor (l : Launch) (D : va_G) (cI : ClassId) (u : Nat → Nat) (S : Nat → Nat → Nat) (th : Int32) (K : Nat → Nat) (x1 : Int32) (hI : Inv S) : MI l yX4_gradeFor wsX4_gradeFor 4 89 D [(cI, .int)] [.ref (u 0), .int x1] (wMo cI u S th K) (wMo cI u S (nI (r1 (S 0 2) x1 (nI (grdN (hisG S (S 7 (cl x1)) (S 6 (cl x1)))))).1) K) ((r1 (S 0 2) x1 (nI (grdN (hisG S (S 7 (cl x1)) (S 6 (cl x1)))))).2) := by
  refine k_bodyM (cc := cX4_gradeFor) (maxL := 2) (ret := (some .int)) (by decide) rfl (Nat.le_of_ble_eq_true rfl) ?_
  intro p e s m args below meth c H ls F hr hlk hl hP hK hD hS
  have F : CallFix p m c cX4_gradeFor 2 s args wsX4_gradeFor RX4 := F
  have hl : lv_has ls 2 [(0, .ref (u 0)), (1, .int x1)] := hl
  have hi0 := hI.gates
  have hi1 := hI.geese
  have hi2 := hI.guests
  refine lv_aload_n F.1 F.2.1 dX4_gradeFor_0 rfl (lv_at hl 0 rfl) ?_
  refine lv_iconst (v := nI 0) F.1 F.2.1 dX4_gradeFor_1 (by decide) ?_
  refine k_put F nX4_gradeFor_X4 tyX4 tyX4_ok nmX4 hK.1 hP hD hS 0 rfl rfl 0 (by decide) (List.mem_of_getElem? (i := 1) rfl) rfl (by decide +kernel) (Nat.le_of_ble_eq_true rfl) dX4_gradeFor_2 (wMo cI u S (nI 0) K) wMo_f0 (fun H locs hP hD hS => ?_)
  refine lv_aload_n F.1 F.2.1 dX4_gradeFor_5 rfl (lv_at hl 0 rfl) ?_
  refine lv_iload_n F.1 F.2.1 dX4_gradeFor_6 rfl (lv_at hl 1 rfl) ?_
  refine k_pV (n := 1) (rest := []) (v := bI (0 ≤ x1 ∧ x1 < nI (S 0 2))) F (c_X4_isVisitor l D cI u S (nI 0) K x1 (by first | assumption | omega)) gX4_gradeFor_X4_isVisitor rfl (by decide +kernel) ⟨Nat.le_of_ble_eq_true rfl, Nat.le_of_ble_eq_true rfl⟩ rfl hl.1 rfl (Nat.le_of_ble_eq_true rfl) dX4_gradeFor_7 ⟨Nat.zero_le _, Nat.zero_le _⟩ hK hP hS [0, 1, 2, 3, 4, 5] rfl (q0 := 0) (ci := 4) rfl rfl (fun H locs hP hS => ?_)
  refine k_ifeq_b (tgt := 24) F dX4_gradeFor_10 (by decide) (fun h10 => ?_) (fun h10 => ?_)
  · skip
    refine lv_aload_n F.1 F.2.1 dX4_gradeFor_24 rfl (lv_at hl 0 rfl) ?_
    refine lv_iconst (v := nI 1) F.1 F.2.1 dX4_gradeFor_25 (by decide) ?_
    refine k_mI (n := 1) (rest := []) (v := nI 0) F (c_X4_fail l D cI u S (nI 0) K (nI 1)) gX4_gradeFor_X4_fail rfl (by decide +kernel) ⟨Nat.le_of_ble_eq_true rfl, Nat.le_of_ble_eq_true rfl⟩ rfl hl.1 rfl (Nat.le_of_ble_eq_true rfl) dX4_gradeFor_26 ⟨Nat.zero_le _, Nat.zero_le _⟩ hK hP hD hS [0, 1, 2, 3, 4, 5] rfl rfl rfl (wMo cI u S (nI 1) K) wMo_ms wMo_ad (q0 := 0) (ci := 4) rfl rfl (fun H locs hP hD hS => ?_)
    have e9 : r1 (S 0 2) x1 (nI (grdN (hisG S (S 7 (cl x1)) (S 6 (cl x1))))) = (1, nI 0) := r1_n h10
    exact k_retMI F hr hlk hP (by rw [e9]) hS (by rw [e9]) rfl dX4_gradeFor_29
  · skip
    obtain ⟨g1, hg1, rfl⟩ := lt_nI (by omega) h10
    have hh9 := hisG_le hI (S 7 g1) (S 6 g1)
    refine lv_aload_n F.1 F.2.1 dX4_gradeFor_13 rfl (lv_at hl 0 rfl) ?_
    refine lv_iload_n F.1 F.2.1 dX4_gradeFor_14 rfl (lv_at hl 1 rfl) ?_
    refine k_pV (n := 1) (rest := []) (v := nI (hisG S (S 7 g1) (S 6 g1))) F (c_X4_hissNow l D cI u S (nI 0) K g1 hI (by first | assumption | omega)) gX4_gradeFor_X4_hissNow rfl (by decide +kernel) ⟨Nat.le_of_ble_eq_true rfl, Nat.le_of_ble_eq_true rfl⟩ rfl hl.1 rfl (Nat.le_of_ble_eq_true rfl) dX4_gradeFor_15 ⟨Nat.zero_le _, Nat.zero_le _⟩ hK hP hS [0, 1, 2, 3, 4, 5] rfl (q0 := 0) (ci := 4) rfl rfl (fun H locs hP hS => ?_)
    refine k_pS (n := 1) (rest := []) (v := nI (grdN (hisG S (S 7 g1) (S 6 g1)))) F (c_X4_grade l D cI (hisG S (S 7 g1) (S 6 g1)) (by first | assumption | omega)) gX4_gradeFor_X4_grade rfl (by decide +kernel) ⟨Nat.le_of_ble_eq_true rfl, Nat.le_of_ble_eq_true rfl⟩ rfl hl.1 rfl (Nat.le_of_ble_eq_true rfl) dX4_gradeFor_18 ⟨Nat.zero_le _, Nat.zero_le _⟩ hK hP hS (fun H locs hP hS => ?_)
    refine lv_goto (tgt := 29) F.1 F.2.1 dX4_gradeFor_21 (by decide) ?_
    have e9 : r1 (S 0 2) (nI g1) (nI (grdN (hisG S (S 7 (cl (nI g1))) (S 6 (cl (nI g1)))))) = (0, nI (grdN (hisG S (S 7 g1) (S 6 g1)))) := by rw [cl_nI (show g1 < 2 ^ 31 by omega)]; exact r1_y h10
    exact k_retMI F hr hlk hP (by rw [e9]) hS (by rw [e9]) rfl dX4_gradeFor_29
set_option maxRecDepth 100000 in
set_option maxHeartbeats 4000000 in
theorem c_X4_dare (l : Launch) (D : va_G) (cI : ClassId) (u : Nat → Nat) (S : Nat → Nat → Nat) (th : Int32) (K : Nat → Nat) (v : Nat) (hI : Inv S) (hv : v < 8) : PI l yX4_dare wsX4_dare 4 89 D [(cI, .int)] [.ref (u 0), .int (nI v)] (wMo cI u S th K) (bI (dareP S v)) := by
  refine k_bodyP (cc := cX4_dare) (maxL := 2) (ret := (some .boolean)) (by decide) rfl (Nat.le_of_ble_eq_true rfl) ?_
  intro p e s m args below meth c H ls F hr hlk hl hP hK hS
  have F : CallFix p m c cX4_dare 2 s args wsX4_dare RX4 := F
  have hl : lv_has ls 2 [(0, .ref (u 0)), (1, .int (nI v))] := hl
  have hi0 := hI.gates
  have hi1 := hI.geese
  have hi2 := hI.guests
  have hh9 := hisG_le hI (S 7 v) (S 6 v)
  have hb9 := hI.brave v
  refine lv_aload_n F.1 F.2.1 dX4_dare_0 rfl (lv_at hl 0 rfl) ?_
  refine lv_iload_n F.1 F.2.1 dX4_dare_1 rfl (lv_at hl 1 rfl) ?_
  refine k_pV (n := 1) (rest := []) (v := bI (S 0 0 ≤ S 7 v)) F (c_X4_isIn_ l D cI u S th K v hI (by first | assumption | omega)) gX4_dare_X4_isIn_ rfl (by decide +kernel) ⟨Nat.le_of_ble_eq_true rfl, Nat.le_of_ble_eq_true rfl⟩ rfl hl.1 rfl (Nat.le_of_ble_eq_true rfl) dX4_dare_2 ⟨Nat.zero_le _, Nat.zero_le _⟩ hK hP hS [0, 1, 2, 3, 4, 5] rfl (q0 := 0) (ci := 4) rfl rfl (fun H locs hP hS => ?_)
  refine k_ifne_b (tgt := 26) F dX4_dare_5 (by decide) (fun h5 => ?_) (fun h5 => ?_)
  · skip
    refine lv_iconst (v := nI 0) F.1 F.2.1 dX4_dare_26 (by decide) ?_
    exact k_retP F hr hlk hS (fin0 (by first | exact fun q => q.1 h5 | exact fun q => absurd h19 (Nat.not_lt.mpr q.2))) (by first | rfl | (split <;> rfl)) dX4_dare_27
  · skip
    refine lv_aload_n F.1 F.2.1 dX4_dare_8 rfl (lv_at hl 0 rfl) ?_
    refine lv_iload_n F.1 F.2.1 dX4_dare_9 rfl (lv_at hl 1 rfl) ?_
    refine k_pV (n := 1) (rest := []) (v := nI (hisG S (S 7 v) (S 6 v))) F (c_X4_hissNow l D cI u S th K v hI (by first | assumption | omega)) gX4_dare_X4_hissNow rfl (by decide +kernel) ⟨Nat.le_of_ble_eq_true rfl, Nat.le_of_ble_eq_true rfl⟩ rfl hl.1 rfl (Nat.le_of_ble_eq_true rfl) dX4_dare_10 ⟨Nat.zero_le _, Nat.zero_le _⟩ hK hP hS [0, 1, 2, 3, 4, 5] rfl (q0 := 0) (ci := 4) rfl rfl (fun H locs hP hS => ?_)
    refine lv_aload_n F.1 F.2.1 dX4_dare_13 rfl (lv_at hl 0 rfl) ?_
    refine lv_iload_n F.1 F.2.1 dX4_dare_14 rfl (lv_at hl 1 rfl) ?_
    refine lv_iconst (v := nI 2) F.1 F.2.1 dX4_dare_15 (by decide) ?_
    refine k_pV (n := 2) (rest := [.int (nI (hisG S (S 7 v) (S 6 v)))]) (v := nI (S 9 v)) F (c_X4_vi l D cI u S th K v 2 (by first | assumption | omega) (by first | assumption | omega)) gX4_dare_X4_vi rfl (by decide +kernel) ⟨Nat.le_of_ble_eq_true rfl, Nat.le_of_ble_eq_true rfl⟩ rfl hl.1 rfl (Nat.le_of_ble_eq_true rfl) dX4_dare_16 ⟨Nat.zero_le _, Nat.zero_le _⟩ hK hP hS [0, 1, 2, 3, 4, 5] rfl (q0 := 0) (ci := 4) rfl rfl (fun H locs hP hS => ?_)
    refine k_icmp_gt (tgt := 26) F (by omega) (by omega) dX4_dare_19 (by decide) (fun h19 => ?_) (fun h19 => ?_)
    · skip
      refine lv_iconst (v := nI 0) F.1 F.2.1 dX4_dare_26 (by decide) ?_
      exact k_retP F hr hlk hS (fin0 (by first | exact fun q => q.1 h5 | exact fun q => absurd h19 (Nat.not_lt.mpr q.2))) (by first | rfl | (split <;> rfl)) dX4_dare_27
    · skip
      refine lv_iconst (v := nI 1) F.1 F.2.1 dX4_dare_22 (by decide) ?_
      refine lv_goto (tgt := 27) F.1 F.2.1 dX4_dare_23 (by decide) ?_
      exact k_retP F hr hlk hS (fin1 (by exact ⟨h5, Nat.not_lt.mp h19⟩)) (by first | rfl | (split <;> rfl)) dX4_dare_27
theorem nX4_isInFarm_X4 : ∀ x ∈ wsX40, x ∈ wsX4_isInFarm := fun _ h => List.mem_cons_of_mem _ (List.mem_append_right _ h)
set_option maxRecDepth 100000 in
set_option maxHeartbeats 4000000 in
theorem c_X4_isInFarm (l : Launch) (D : va_G) (cI : ClassId) (u : Nat → Nat) (S : Nat → Nat → Nat) (th : Int32) (K : Nat → Nat) (x1 : Int32) (hI : Inv S) : MI l yX4_isInFarm wsX4_isInFarm 2 43 D [(cI, .int)] [.ref (u 0), .int x1] (wMo cI u S th K) (wMo cI u S (nI (r1 (S 0 2) x1 (bI (S 0 0 ≤ S 7 (cl x1)))).1) K) ((r1 (S 0 2) x1 (bI (S 0 0 ≤ S 7 (cl x1)))).2) := by
  refine k_bodyM (cc := cX4_isInFarm) (maxL := 2) (ret := (some .boolean)) (by decide) rfl (Nat.le_of_ble_eq_true rfl) ?_
  intro p e s m args below meth c H ls F hr hlk hl hP hK hD hS
  have F : CallFix p m c cX4_isInFarm 2 s args wsX4_isInFarm RX4 := F
  have hl : lv_has ls 2 [(0, .ref (u 0)), (1, .int x1)] := hl
  have hi0 := hI.gates
  have hi1 := hI.geese
  have hi2 := hI.guests
  refine lv_aload_n F.1 F.2.1 dX4_isInFarm_0 rfl (lv_at hl 0 rfl) ?_
  refine lv_aload_n F.1 F.2.1 dX4_isInFarm_1 rfl (lv_at hl 0 rfl) ?_
  refine lv_iload_n F.1 F.2.1 dX4_isInFarm_2 rfl (lv_at hl 1 rfl) ?_
  refine k_pV (n := 1) (rest := [.ref (u 0)]) (v := bI (0 ≤ x1 ∧ x1 < nI (S 0 2))) F (c_X4_isVisitor l D cI u S th K x1 (by first | assumption | omega)) gX4_isInFarm_X4_isVisitor rfl (by decide +kernel) ⟨Nat.le_of_ble_eq_true rfl, Nat.le_of_ble_eq_true rfl⟩ rfl hl.1 rfl (Nat.le_of_ble_eq_true rfl) dX4_isInFarm_3 ⟨Nat.zero_le _, Nat.zero_le _⟩ hK hP hS [0, 1, 2, 3, 4, 5] rfl (q0 := 0) (ci := 4) rfl rfl (fun H locs hP hS => ?_)
  refine k_ifeq_b (tgt := 13) F dX4_isInFarm_6 (by decide) (fun h6 => ?_) (fun h6 => ?_)
  · skip
    refine lv_iconst (v := nI 1) F.1 F.2.1 dX4_isInFarm_13 (by decide) ?_
    refine k_put F nX4_isInFarm_X4 tyX4 tyX4_ok nmX4 hK.1 hP hD hS 0 rfl rfl 0 (by decide) (List.mem_of_getElem? (i := 1) rfl) rfl (by decide +kernel) (Nat.le_of_ble_eq_true rfl) dX4_isInFarm_14 (wMo cI u S (nI 1) K) wMo_f0 (fun H locs hP hD hS => ?_)
    refine lv_aload_n F.1 F.2.1 dX4_isInFarm_17 rfl (lv_at hl 0 rfl) ?_
    refine k_get (v := .int (nI 1)) F nX4_isInFarm_X4 hK.1 hP 0 rfl rfl 0 (by decide) (List.mem_of_getElem? (i := 1) rfl) rfl dX4_isInFarm_18 ?_
    refine k_if_ne (tgt := 36) F (by omega) dX4_isInFarm_21 (by decide) (fun h21 => ?_) (fun h21 => ?_)
    · skip
      refine lv_iconst (v := nI 0) F.1 F.2.1 dX4_isInFarm_36 (by decide) ?_
      have e9 : r1 (S 0 2) x1 (bI (S 0 0 ≤ S 7 (cl x1))) = (1, nI 0) := r1_n h6
      exact k_retMI F hr hlk hP (by rw [e9]) hS (by rw [e9]) (by first | rfl | (split <;> rfl)) dX4_isInFarm_37
    · skip
      exact absurd h21 (by decide)
  · skip
    refine lv_iconst (v := nI 0) F.1 F.2.1 dX4_isInFarm_9 (by decide) ?_
    refine lv_goto (tgt := 14) F.1 F.2.1 dX4_isInFarm_10 (by decide) ?_
    refine k_put F nX4_isInFarm_X4 tyX4 tyX4_ok nmX4 hK.1 hP hD hS 0 rfl rfl 0 (by decide) (List.mem_of_getElem? (i := 1) rfl) rfl (by decide +kernel) (Nat.le_of_ble_eq_true rfl) dX4_isInFarm_14 (wMo cI u S (nI 0) K) wMo_f0 (fun H locs hP hD hS => ?_)
    refine lv_aload_n F.1 F.2.1 dX4_isInFarm_17 rfl (lv_at hl 0 rfl) ?_
    refine k_get (v := .int (nI 0)) F nX4_isInFarm_X4 hK.1 hP 0 rfl rfl 0 (by decide) (List.mem_of_getElem? (i := 1) rfl) rfl dX4_isInFarm_18 ?_
    refine k_if_ne (tgt := 36) F (by omega) dX4_isInFarm_21 (by decide) (fun h21 => ?_) (fun h21 => ?_)
    · skip
      exact absurd h21 (by decide)
    · skip
      obtain ⟨g1, hg1, rfl⟩ := lt_nI (by omega) h6
      refine lv_aload_n F.1 F.2.1 dX4_isInFarm_24 rfl (lv_at hl 0 rfl) ?_
      refine lv_iload_n F.1 F.2.1 dX4_isInFarm_25 rfl (lv_at hl 1 rfl) ?_
      refine k_pV (n := 1) (rest := []) (v := bI (S 0 0 ≤ S 7 g1)) F (c_X4_isIn_ l D cI u S (nI 0) K g1 hI (by first | assumption | omega)) gX4_isInFarm_X4_isIn_ rfl (by decide +kernel) ⟨Nat.le_of_ble_eq_true rfl, Nat.le_of_ble_eq_true rfl⟩ rfl hl.1 rfl (Nat.le_of_ble_eq_true rfl) dX4_isInFarm_26 ⟨Nat.zero_le _, Nat.zero_le _⟩ hK hP hS [0, 1, 2, 3, 4, 5] rfl (q0 := 0) (ci := 4) rfl rfl (fun H locs hP hS => ?_)
      refine k_ifeq_b (tgt := 36) F dX4_isInFarm_29 (by decide) (fun h29 => ?_) (fun h29 => ?_)
      · skip
        refine lv_iconst (v := nI 0) F.1 F.2.1 dX4_isInFarm_36 (by decide) ?_
        have e9 : r1 (S 0 2) (nI g1) (bI (S 0 0 ≤ S 7 (cl (nI g1)))) = (0, bI (S 0 0 ≤ S 7 g1)) := by rw [cl_nI (show g1 < 2 ^ 31 by omega)]; exact r1_y h6
        exact k_retMI F hr hlk hP (by rw [e9]) hS (by rw [e9]; exact fin0 h29) (by first | rfl | (split <;> rfl)) dX4_isInFarm_37
      · skip
        refine lv_iconst (v := nI 1) F.1 F.2.1 dX4_isInFarm_32 (by decide) ?_
        refine lv_goto (tgt := 37) F.1 F.2.1 dX4_isInFarm_33 (by decide) ?_
        have e9 : r1 (S 0 2) (nI g1) (bI (S 0 0 ≤ S 7 (cl (nI g1)))) = (0, bI (S 0 0 ≤ S 7 g1)) := by rw [cl_nI (show g1 < 2 ^ 31 by omega)]; exact r1_y h6
        exact k_retMI F hr hlk hP (by rw [e9]) hS (by rw [e9]; exact fin1 h29) (by first | rfl | (split <;> rfl)) dX4_isInFarm_37
theorem nX4_dares_X4 : ∀ x ∈ wsX40, x ∈ wsX4_dares := fun _ h => List.mem_cons_of_mem _ (List.mem_append_right _ h)
set_option maxRecDepth 100000 in
set_option maxHeartbeats 4000000 in
theorem c_X4_dares (l : Launch) (D : va_G) (cI : ClassId) (u : Nat → Nat) (S : Nat → Nat → Nat) (th : Int32) (K : Nat → Nat) (x1 : Int32) (hI : Inv S) : MI l yX4_dares wsX4_dares 5 110 D [(cI, .int)] [.ref (u 0), .int x1] (wMo cI u S th K) (wMo cI u S (nI (r1 (S 0 2) x1 (bI (dareP S (cl x1)))).1) K) ((r1 (S 0 2) x1 (bI (dareP S (cl x1)))).2) := by
  refine k_bodyM (cc := cX4_dares) (maxL := 2) (ret := (some .boolean)) (by decide) rfl (Nat.le_of_ble_eq_true rfl) ?_
  intro p e s m args below meth c H ls F hr hlk hl hP hK hD hS
  have F : CallFix p m c cX4_dares 2 s args wsX4_dares RX4 := F
  have hl : lv_has ls 2 [(0, .ref (u 0)), (1, .int x1)] := hl
  have hi0 := hI.gates
  have hi1 := hI.geese
  have hi2 := hI.guests
  refine lv_aload_n F.1 F.2.1 dX4_dares_0 rfl (lv_at hl 0 rfl) ?_
  refine lv_aload_n F.1 F.2.1 dX4_dares_1 rfl (lv_at hl 0 rfl) ?_
  refine lv_iload_n F.1 F.2.1 dX4_dares_2 rfl (lv_at hl 1 rfl) ?_
  refine k_pV (n := 1) (rest := [.ref (u 0)]) (v := bI (0 ≤ x1 ∧ x1 < nI (S 0 2))) F (c_X4_isVisitor l D cI u S th K x1 (by first | assumption | omega)) gX4_dares_X4_isVisitor rfl (by decide +kernel) ⟨Nat.le_of_ble_eq_true rfl, Nat.le_of_ble_eq_true rfl⟩ rfl hl.1 rfl (Nat.le_of_ble_eq_true rfl) dX4_dares_3 ⟨Nat.zero_le _, Nat.zero_le _⟩ hK hP hS [0, 1, 2, 3, 4, 5] rfl (q0 := 0) (ci := 4) rfl rfl (fun H locs hP hS => ?_)
  refine k_ifeq_b (tgt := 13) F dX4_dares_6 (by decide) (fun h6 => ?_) (fun h6 => ?_)
  · skip
    refine lv_iconst (v := nI 1) F.1 F.2.1 dX4_dares_13 (by decide) ?_
    refine k_put F nX4_dares_X4 tyX4 tyX4_ok nmX4 hK.1 hP hD hS 0 rfl rfl 0 (by decide) (List.mem_of_getElem? (i := 1) rfl) rfl (by decide +kernel) (Nat.le_of_ble_eq_true rfl) dX4_dares_14 (wMo cI u S (nI 1) K) wMo_f0 (fun H locs hP hD hS => ?_)
    refine lv_aload_n F.1 F.2.1 dX4_dares_17 rfl (lv_at hl 0 rfl) ?_
    refine k_get (v := .int (nI 1)) F nX4_dares_X4 hK.1 hP 0 rfl rfl 0 (by decide) (List.mem_of_getElem? (i := 1) rfl) rfl dX4_dares_18 ?_
    refine k_if_ne (tgt := 36) F (by omega) dX4_dares_21 (by decide) (fun h21 => ?_) (fun h21 => ?_)
    · skip
      refine lv_iconst (v := nI 0) F.1 F.2.1 dX4_dares_36 (by decide) ?_
      have e9 : r1 (S 0 2) x1 (bI (dareP S (cl x1))) = (1, nI 0) := r1_n h6
      exact k_retMI F hr hlk hP (by rw [e9]) hS (by rw [e9]) (by first | rfl | (split <;> rfl)) dX4_dares_37
    · skip
      exact absurd h21 (by decide)
  · skip
    refine lv_iconst (v := nI 0) F.1 F.2.1 dX4_dares_9 (by decide) ?_
    refine lv_goto (tgt := 14) F.1 F.2.1 dX4_dares_10 (by decide) ?_
    refine k_put F nX4_dares_X4 tyX4 tyX4_ok nmX4 hK.1 hP hD hS 0 rfl rfl 0 (by decide) (List.mem_of_getElem? (i := 1) rfl) rfl (by decide +kernel) (Nat.le_of_ble_eq_true rfl) dX4_dares_14 (wMo cI u S (nI 0) K) wMo_f0 (fun H locs hP hD hS => ?_)
    refine lv_aload_n F.1 F.2.1 dX4_dares_17 rfl (lv_at hl 0 rfl) ?_
    refine k_get (v := .int (nI 0)) F nX4_dares_X4 hK.1 hP 0 rfl rfl 0 (by decide) (List.mem_of_getElem? (i := 1) rfl) rfl dX4_dares_18 ?_
    refine k_if_ne (tgt := 36) F (by omega) dX4_dares_21 (by decide) (fun h21 => ?_) (fun h21 => ?_)
    · skip
      exact absurd h21 (by decide)
    · skip
      obtain ⟨g1, hg1, rfl⟩ := lt_nI (by omega) h6
      refine lv_aload_n F.1 F.2.1 dX4_dares_24 rfl (lv_at hl 0 rfl) ?_
      refine lv_iload_n F.1 F.2.1 dX4_dares_25 rfl (lv_at hl 1 rfl) ?_
      refine k_pV (n := 1) (rest := []) (v := bI (dareP S g1)) F (c_X4_dare l D cI u S (nI 0) K g1 hI (by first | assumption | omega)) gX4_dares_X4_dare rfl (by decide +kernel) ⟨Nat.le_of_ble_eq_true rfl, Nat.le_of_ble_eq_true rfl⟩ rfl hl.1 rfl (Nat.le_of_ble_eq_true rfl) dX4_dares_26 ⟨Nat.zero_le _, Nat.zero_le _⟩ hK hP hS [0, 1, 2, 3, 4, 5] rfl (q0 := 0) (ci := 4) rfl rfl (fun H locs hP hS => ?_)
      refine k_ifeq_b (tgt := 36) F dX4_dares_29 (by decide) (fun h29 => ?_) (fun h29 => ?_)
      · skip
        refine lv_iconst (v := nI 0) F.1 F.2.1 dX4_dares_36 (by decide) ?_
        have e9 : r1 (S 0 2) (nI g1) (bI (dareP S (cl (nI g1)))) = (0, bI (dareP S g1)) := by rw [cl_nI (show g1 < 2 ^ 31 by omega)]; exact r1_y h6
        exact k_retMI F hr hlk hP (by rw [e9]) hS (by rw [e9]; exact fin0 h29) (by first | rfl | (split <;> rfl)) dX4_dares_37
      · skip
        refine lv_iconst (v := nI 1) F.1 F.2.1 dX4_dares_32 (by decide) ?_
        refine lv_goto (tgt := 37) F.1 F.2.1 dX4_dares_33 (by decide) ?_
        have e9 : r1 (S 0 2) (nI g1) (bI (dareP S (cl (nI g1)))) = (0, bI (dareP S g1)) := by rw [cl_nI (show g1 < 2 ^ 31 by omega)]; exact r1_y h6
        exact k_retMI F hr hlk hP (by rw [e9]) hS (by rw [e9]; exact fin1 h29) (by first | rfl | (split <;> rfl)) dX4_dares_37
set_option maxRecDepth 100000 in
set_option maxHeartbeats 4000000 in
theorem c_X4_run (l : Launch) (D : va_G) (cI : ClassId) (u : Nat → Nat) (S : Nat → Nat → Nat) (th : Int32) (K : Nat → Nat) (v : Nat) (q : Nat) (hI : Inv S) (hv : v < 8) (hq : q < 2 ^ 30) : MI l yX4_run wsX4_run 5 113 D [(cI, .int)] [.ref (u 0), .int (nI v), .int (nI q)] (wMo cI u S th K) (wMo cI u (beatsN S (waitN S v (q + 1))) th K) (arrI S v q) := by
  refine k_bodyM (cc := cX4_run) (maxL := 4) (ret := (some .int)) (by decide) rfl (Nat.le_of_ble_eq_true rfl) ?_
  intro p e s m args below meth c H ls F hr hlk hl hP hK hD hS
  have F : CallFix p m c cX4_run 4 s args wsX4_run RX4 := F
  have hl : lv_has ls 4 [(0, .ref (u 0)), (1, .int (nI v)), (2, .int (nI q))] := hl
  have hi0 := hI.gates
  have hi1 := hI.geese
  have hi2 := hI.guests
  refine lv_iconst (v := nI 0) F.1 F.2.1 dX4_run_0 (by decide) ?_
  refine lv_istore_n (lv' := [(3, .int (nI 0)), (0, .ref (u 0)), (1, .int (nI v)), (2, .int (nI q))]) F.1 F.2.1 dX4_run_1 rfl hl (by decide) rfl (fun ls hl => ?_)
  have loop2 : ∀ (n : Nat) (i : Nat), i ≤ (q + 1) → (q + 1) + 1 ≤ i + n → (∀ j, j < i → ¬ beatsN S j 0 0 ≤ beatsN S j 7 v) → ∀ (H : Heap) (locs : List Loc) (ls : Array Slot), va_P D vwCl (wMo cI u (beatsN S i) th K) H → va_D (va_B (wMo cI u S th K)) (wMo cI u (beatsN S i) th K) → va_S (va_B (wMo cI u S th K)) s.heap H locs → lv_has ls 4 [(0, .ref (u 0)), (1, .int (nI v)), (2, .int (nI q)), (3, .int (nI i))] → W p l e (rmN 5 113) s m args below meth c H locs 0 0 (QMI below args s D (wMo cI u S th K) (wMo cI u (beatsN S (waitN S v (q + 1))) th K) (arrI S v q)) (F0 m 2 ls []) := by
    intro n
    induction n with
    | zero => intro i hi hn; exact absurd hn (by omega)
    | succ n ih2 =>
      intro i hi hn hw H locs ls hP hD hS hl
      refine lv_iload_n F.1 F.2.1 dX4_run_2 rfl (lv_at hl 3 rfl) ?_
      refine lv_iload_n F.1 F.2.1 dX4_run_3 rfl (lv_at hl 2 rfl) ?_
      refine k_icmp_gt (tgt := 25) F (by omega) (by omega) dX4_run_4 (by decide) (fun h4 => ?_) (fun h4 => ?_)
      · skip
        refine lv_iload_n F.1 F.2.1 dX4_run_25 rfl (lv_at hl 3 rfl) ?_
        refine lv_iload_n F.1 F.2.1 dX4_run_26 rfl (lv_at hl 2 rfl) ?_
        refine k_icmp_le (tgt := 34) F (by omega) (by omega) dX4_run_27 (by decide) (fun h27 => ?_) (fun h27 => ?_)
        · skip
          refine lv_iload_n F.1 F.2.1 dX4_run_34 rfl (lv_at hl 3 rfl) ?_
          exact k_retMI F hr hlk hP (by rw [(wait_eq2 hw hi (by first | exact Or.inr h12 | exact Or.inl (by omega)))]) hS (by rw [arr_run, (wait_eq2 hw hi (by first | exact Or.inr h12 | exact Or.inl (by omega))), if_neg (by omega)]) rfl dX4_run_35
        · skip
          refine lv_iconst (v := (-1)) F.1 F.2.1 dX4_run_30 (by decide) ?_
          refine lv_goto (tgt := 35) F.1 F.2.1 dX4_run_31 (by decide) ?_
          exact k_retMI F hr hlk hP (by rw [(wait_eq2 hw hi (by first | exact Or.inr h12 | exact Or.inl (by omega)))]) hS (by rw [arr_run, (wait_eq2 hw hi (by first | exact Or.inr h12 | exact Or.inl (by omega))), if_pos (by omega)]) rfl dX4_run_35
      · skip
        refine lv_aload_n F.1 F.2.1 dX4_run_7 rfl (lv_at hl 0 rfl) ?_
        refine lv_iload_n F.1 F.2.1 dX4_run_8 rfl (lv_at hl 1 rfl) ?_
        refine k_pV (n := 1) (rest := []) (v := bI ((beatsN S i) 0 0 ≤ (beatsN S i) 7 v)) F (c_X4_isIn_ l D cI u (beatsN S i) th K v (inv_beatsN hI i) (by first | assumption | omega)) gX4_run_X4_isIn_ rfl (by decide +kernel) ⟨Nat.le_of_ble_eq_true rfl, Nat.le_of_ble_eq_true rfl⟩ rfl hl.1 rfl (Nat.le_of_ble_eq_true rfl) dX4_run_9 ⟨Nat.zero_le _, Nat.zero_le _⟩ hK hP hS [0, 1, 2, 3, 4, 5] rfl (q0 := 0) (ci := 4) rfl rfl (fun H locs hP hS => ?_)
        refine k_ifne_b (tgt := 25) F dX4_run_12 (by decide) (fun h12 => ?_) (fun h12 => ?_)
        · skip
          refine lv_iload_n F.1 F.2.1 dX4_run_25 rfl (lv_at hl 3 rfl) ?_
          refine lv_iload_n F.1 F.2.1 dX4_run_26 rfl (lv_at hl 2 rfl) ?_
          refine k_icmp_le (tgt := 34) F (by omega) (by omega) dX4_run_27 (by decide) (fun h27 => ?_) (fun h27 => ?_)
          · skip
            refine lv_iload_n F.1 F.2.1 dX4_run_34 rfl (lv_at hl 3 rfl) ?_
            exact k_retMI F hr hlk hP (by rw [(wait_eq2 hw hi (by first | exact Or.inr h12 | exact Or.inl (by omega)))]) hS (by rw [arr_run, (wait_eq2 hw hi (by first | exact Or.inr h12 | exact Or.inl (by omega))), if_neg (by omega)]) rfl dX4_run_35
          · skip
            refine lv_iconst (v := (-1)) F.1 F.2.1 dX4_run_30 (by decide) ?_
            refine lv_goto (tgt := 35) F.1 F.2.1 dX4_run_31 (by decide) ?_
            exact k_retMI F hr hlk hP (by rw [(wait_eq2 hw hi (by first | exact Or.inr h12 | exact Or.inl (by omega)))]) hS (by rw [arr_run, (wait_eq2 hw hi (by first | exact Or.inr h12 | exact Or.inl (by omega))), if_pos (by omega)]) rfl dX4_run_35
        · skip
          refine lv_aload_n F.1 F.2.1 dX4_run_15 rfl (lv_at hl 0 rfl) ?_
          refine k_mV (n := 0) (rest := []) F (c_X4_beatOn l D cI u (beatsN S i) th K (inv_beatsN hI i)) gX4_run_X4_beatOn rfl (by decide +kernel) ⟨Nat.le_of_ble_eq_true rfl, Nat.le_of_ble_eq_true rfl⟩ rfl hl.1 rfl (Nat.le_of_ble_eq_true rfl) dX4_run_16 ⟨Nat.zero_le _, Nat.zero_le _⟩ hK hP hD hS [0, 1, 2, 3, 4, 5] rfl rfl rfl (wMo cI u (beatS (beatsN S i)) th K) wMo_ms wMo_ad (q0 := 0) (ci := 4) rfl rfl (fun H locs hP hD hS => ?_)
          refine k_inc (k := 3) (lv' := [(3, .int (nI (i + 1))), (0, .ref (u 0)), (1, .int (nI v)), (2, .int (nI q))]) F dX4_run_19 hl rfl (by decide) rfl (fun ls hl => ?_)
          refine lv_goto (tgt := 2) F.1 F.2.1 dX4_run_22 (by decide) ?_
          have ew : (wMo cI u (beatS (beatsN S i)) th K) = (wMo cI u (beatsN S (i + 1)) th K) := rfl
          have hP := P_eq ew hP
          have hD := D_eq ew hD
          exact ih2 (i + 1) (by omega) (by omega) (fun j h => if e : j = i then e ▸ h12 else hw j (by omega)) _ _ _ hP hD hS (lv_sub hl [1, 2, 3, 0] rfl)
  have ew : (wMo cI u S th K) = (wMo cI u (beatsN S 0) th K) := rfl
  have hP := P_eq ew hP
  have hD := D_eq ew hD
  exact loop2 ((q + 1) + 1) 0 (by omega) (by omega) (fun j h => absurd h (by omega)) _ _ _ hP hD hS (lv_sub hl [1, 2, 3, 0] rfl)
theorem nX4_keep_X4 : ∀ x ∈ wsX40, x ∈ wsX4_keep := fun _ h => List.mem_cons_of_mem _ (List.mem_append_right _ h)
set_option maxRecDepth 100000 in
set_option maxHeartbeats 4000000 in
theorem c_X4_keep (l : Launch) (D : va_G) (cI : ClassId) (u : Nat → Nat) (S : Nat → Nat → Nat) (th : Int32) (K : Nat → Nat) : MV l yX4_keep wsX4_keep 1 18 D [(cI, .int)] [.ref (u 0)] (wMo cI u S th K) (wMo cI u S th (encN S)) := by
  refine k_bodyM (cc := cX4_keep) (maxL := 1) (ret := none) (by decide) rfl (Nat.le_of_ble_eq_true rfl) ?_
  intro p e s m args below meth c H ls F hr hlk hl hP hK hD hS
  have F : CallFix p m c cX4_keep 1 s args wsX4_keep RX4 := F
  have hl : lv_has ls 1 [(0, .ref (u 0))] := hl
  refine lv_aload_n F.1 F.2.1 dX4_keep_0 rfl (lv_at hl 0 rfl) ?_
  refine k_get (v := .ref (u 4)) F nX4_keep_X4 hK.1 hP 0 rfl rfl 7 (by decide) (List.mem_of_getElem? (i := 1) rfl) rfl dX4_keep_1 ?_
  refine lv_iconst (v := nI 0) F.1 F.2.1 dX4_keep_4 (by decide) ?_
  refine lv_aload_n F.1 F.2.1 dX4_keep_5 rfl (lv_at hl 0 rfl) ?_
  refine k_get (v := .ref (u 5)) F nX4_keep_X4 hK.1 hP 0 rfl rfl 8 (by decide) (List.mem_of_getElem? (i := 2) rfl) rfl dX4_keep_6 ?_
  refine lv_iconst (v := nI 0) F.1 F.2.1 dX4_keep_9 (by decide) ?_
  refine lv_bipush (v := nI 59) F.1 F.2.1 dX4_keep_10 (by decide) ?_
  refine k_copy (n := 59) F hl.1 (List.mem_of_getElem? (i := 3) rfl) (List.mem_of_getElem? (i := 4) rfl) (List.mem_of_getElem? (i := 5) rfl) (List.mem_of_getElem? (i := 6) rfl) hK.1 hP hD hS 4 5 0 rfl rfl rfl (by decide) (Nat.le_of_ble_eq_true rfl) (Nat.le_of_ble_eq_true rfl) dX4_keep_12 (wMo cI u S th (encN S)) rfl (fun H locs hP hD hS => ?_)
  exact k_retMV F hr hlk hP rfl hS dX4_keep_15
theorem nX4_bringBack_X4 : ∀ x ∈ wsX40, x ∈ wsX4_bringBack := fun _ h => List.mem_cons_of_mem _ (List.mem_append_right _ h)
set_option maxRecDepth 100000 in
set_option maxHeartbeats 4000000 in
theorem c_X4_bringBack (l : Launch) (D : va_G) (cI : ClassId) (u : Nat → Nat) (S : Nat → Nat → Nat) (th : Int32) (S0 : Nat → Nat → Nat) (hs : sameN S S0) : MV l yX4_bringBack wsX4_bringBack 1 18 D [(cI, .int)] [.ref (u 0)] (wMo cI u S th (encN S0)) (wMo cI u S0 th (encN S0)) := by
  refine k_bodyM (cc := cX4_bringBack) (maxL := 1) (ret := none) (by decide) rfl (Nat.le_of_ble_eq_true rfl) ?_
  intro p e s m args below meth c H ls F hr hlk hl hP hK hD hS
  have F : CallFix p m c cX4_bringBack 1 s args wsX4_bringBack RX4 := F
  have hl : lv_has ls 1 [(0, .ref (u 0))] := hl
  refine lv_aload_n F.1 F.2.1 dX4_bringBack_0 rfl (lv_at hl 0 rfl) ?_
  refine k_get (v := .ref (u 5)) F nX4_bringBack_X4 hK.1 hP 0 rfl rfl 8 (by decide) (List.mem_of_getElem? (i := 1) rfl) rfl dX4_bringBack_1 ?_
  refine lv_iconst (v := nI 0) F.1 F.2.1 dX4_bringBack_4 (by decide) ?_
  refine lv_aload_n F.1 F.2.1 dX4_bringBack_5 rfl (lv_at hl 0 rfl) ?_
  refine k_get (v := .ref (u 4)) F nX4_bringBack_X4 hK.1 hP 0 rfl rfl 7 (by decide) (List.mem_of_getElem? (i := 2) rfl) rfl dX4_bringBack_6 ?_
  refine lv_iconst (v := nI 0) F.1 F.2.1 dX4_bringBack_9 (by decide) ?_
  refine lv_bipush (v := nI 59) F.1 F.2.1 dX4_bringBack_10 (by decide) ?_
  refine k_copy (n := 59) F hl.1 (List.mem_of_getElem? (i := 3) rfl) (List.mem_of_getElem? (i := 4) rfl) (List.mem_of_getElem? (i := 5) rfl) (List.mem_of_getElem? (i := 6) rfl) hK.1 hP hD hS 5 4 0 rfl rfl rfl (by decide) (Nat.le_of_ble_eq_true rfl) (Nat.le_of_ble_eq_true rfl) dX4_bringBack_12 (wMo cI u S0 th (encN S0)) (wMo_back cI u th hs) (fun H locs hP hD hS => ?_)
  exact k_retMV F hr hlk hP rfl hS dX4_bringBack_15
set_option maxRecDepth 100000 in
set_option maxHeartbeats 4000000 in
theorem c_X4_until (l : Launch) (D : va_G) (cI : ClassId) (u : Nat → Nat) (S : Nat → Nat → Nat) (th : Int32) (K : Nat → Nat) (v : Nat) (hI : Inv S) (hv : v < 8) : MI l yX4_until wsX4_until 6 136 D [(cI, .int)] [.ref (u 0), .int (nI v)] (wMo cI u S th K) (wMo cI u S th (encN S)) (arrI S v 60) := by
  refine k_bodyM (cc := cX4_until) (maxL := 3) (ret := (some .int)) (by decide) rfl (Nat.le_of_ble_eq_true rfl) ?_
  intro p e s m args below meth c H ls F hr hlk hl hP hK hD hS
  have F : CallFix p m c cX4_until 3 s args wsX4_until RX4 := F
  have hl : lv_has ls 3 [(0, .ref (u 0)), (1, .int (nI v))] := hl
  refine lv_aload_n F.1 F.2.1 dX4_until_0 rfl (lv_at hl 0 rfl) ?_
  refine k_mV (n := 0) (rest := []) F (c_X4_keep l D cI u S th K) gX4_until_X4_keep rfl (by decide +kernel) ⟨Nat.le_of_ble_eq_true rfl, Nat.le_of_ble_eq_true rfl⟩ rfl hl.1 rfl (Nat.le_of_ble_eq_true rfl) dX4_until_1 ⟨Nat.zero_le _, Nat.zero_le _⟩ hK hP hD hS [0, 1, 2, 3, 4, 5] rfl rfl rfl (wMo cI u S th (encN S)) wMo_ms wMo_ad (q0 := 0) (ci := 4) rfl rfl (fun H locs hP hD hS => ?_)
  refine lv_aload_n F.1 F.2.1 dX4_until_4 rfl (lv_at hl 0 rfl) ?_
  refine lv_iload_n F.1 F.2.1 dX4_until_5 rfl (lv_at hl 1 rfl) ?_
  refine lv_bipush (v := nI 60) F.1 F.2.1 dX4_until_6 (by decide) ?_
  refine k_mI (n := 2) (rest := []) (v := arrI S v 60) F (c_X4_run l D cI u S th (encN S) v 60 hI (by first | assumption | omega) (by first | assumption | omega)) gX4_until_X4_run rfl (by decide +kernel) ⟨Nat.le_of_ble_eq_true rfl, Nat.le_of_ble_eq_true rfl⟩ rfl hl.1 rfl (Nat.le_of_ble_eq_true rfl) dX4_until_8 ⟨Nat.zero_le _, Nat.zero_le _⟩ hK hP hD hS [0, 1, 2, 3, 4, 5] rfl rfl rfl (wMo cI u (beatsN S (waitN S v (60 + 1))) th (encN S)) wMo_ms wMo_ad (q0 := 0) (ci := 4) rfl rfl (fun H locs hP hD hS => ?_)
  refine lv_istore_n (lv' := [(2, .int (arrI S v 60)), (0, .ref (u 0)), (1, .int (nI v))]) F.1 F.2.1 dX4_until_11 rfl hl (by decide) rfl (fun ls hl => ?_)
  refine lv_aload_n F.1 F.2.1 dX4_until_12 rfl (lv_at hl 1 rfl) ?_
  refine k_mV (n := 0) (rest := []) F (c_X4_bringBack l D cI u (beatsN S (waitN S v (60 + 1))) th S (same_beatsN _ _)) gX4_until_X4_bringBack rfl (by decide +kernel) ⟨Nat.le_of_ble_eq_true rfl, Nat.le_of_ble_eq_true rfl⟩ rfl hl.1 rfl (Nat.le_of_ble_eq_true rfl) dX4_until_13 ⟨Nat.zero_le _, Nat.zero_le _⟩ hK hP hD hS [0, 1, 2, 3, 4, 5] rfl rfl rfl (wMo cI u S th (encN S)) wMo_ms wMo_ad (q0 := 0) (ci := 4) rfl rfl (fun H locs hP hD hS => ?_)
  refine lv_iload_n F.1 F.2.1 dX4_until_16 rfl (lv_at hl 0 rfl) ?_
  exact k_retMI F hr hlk hP rfl hS rfl rfl dX4_until_17
theorem nX4_beatsUntilIn_X4 : ∀ x ∈ wsX40, x ∈ wsX4_beatsUntilIn := fun _ h => List.mem_cons_of_mem _ (List.mem_append_right _ h)
set_option maxRecDepth 100000 in
set_option maxHeartbeats 4000000 in
theorem c_X4_beatsUntilIn (l : Launch) (D : va_G) (cI : ClassId) (u : Nat → Nat) (S : Nat → Nat → Nat) (th : Int32) (K : Nat → Nat) (x1 : Int32) (hI : Inv S) : MI l yX4_beatsUntilIn wsX4_beatsUntilIn 7 158 D [(cI, .int)] [.ref (u 0), .int x1] (wMo cI u S th K) (wMo cI u S (nI (r1 (S 0 2) x1 (arrI S (cl x1) 60)).1) (if okI (S 0 2) x1 then encN S else K)) ((r1 (S 0 2) x1 (arrI S (cl x1) 60)).2) := by
  refine k_bodyM (cc := cX4_beatsUntilIn) (maxL := 2) (ret := (some .int)) (by decide) rfl (Nat.le_of_ble_eq_true rfl) ?_
  intro p e s m args below meth c H ls F hr hlk hl hP hK hD hS
  have F : CallFix p m c cX4_beatsUntilIn 2 s args wsX4_beatsUntilIn RX4 := F
  have hl : lv_has ls 2 [(0, .ref (u 0)), (1, .int x1)] := hl
  have hi0 := hI.gates
  have hi1 := hI.geese
  have hi2 := hI.guests
  refine lv_aload_n F.1 F.2.1 dX4_beatsUntilIn_0 rfl (lv_at hl 0 rfl) ?_
  refine lv_iconst (v := nI 0) F.1 F.2.1 dX4_beatsUntilIn_1 (by decide) ?_
  refine k_put F nX4_beatsUntilIn_X4 tyX4 tyX4_ok nmX4 hK.1 hP hD hS 0 rfl rfl 0 (by decide) (List.mem_of_getElem? (i := 1) rfl) rfl (by decide +kernel) (Nat.le_of_ble_eq_true rfl) dX4_beatsUntilIn_2 (wMo cI u S (nI 0) K) wMo_f0 (fun H locs hP hD hS => ?_)
  refine lv_aload_n F.1 F.2.1 dX4_beatsUntilIn_5 rfl (lv_at hl 0 rfl) ?_
  refine lv_iload_n F.1 F.2.1 dX4_beatsUntilIn_6 rfl (lv_at hl 1 rfl) ?_
  refine k_pV (n := 1) (rest := []) (v := bI (0 ≤ x1 ∧ x1 < nI (S 0 2))) F (c_X4_isVisitor l D cI u S (nI 0) K x1 (by first | assumption | omega)) gX4_beatsUntilIn_X4_isVisitor rfl (by decide +kernel) ⟨Nat.le_of_ble_eq_true rfl, Nat.le_of_ble_eq_true rfl⟩ rfl hl.1 rfl (Nat.le_of_ble_eq_true rfl) dX4_beatsUntilIn_7 ⟨Nat.zero_le _, Nat.zero_le _⟩ hK hP hS [0, 1, 2, 3, 4, 5] rfl (q0 := 0) (ci := 4) rfl rfl (fun H locs hP hS => ?_)
  refine k_ifeq_b (tgt := 21) F dX4_beatsUntilIn_10 (by decide) (fun h10 => ?_) (fun h10 => ?_)
  · skip
    refine lv_aload_n F.1 F.2.1 dX4_beatsUntilIn_21 rfl (lv_at hl 0 rfl) ?_
    refine lv_iconst (v := nI 1) F.1 F.2.1 dX4_beatsUntilIn_22 (by decide) ?_
    refine k_mI (n := 1) (rest := []) (v := nI 0) F (c_X4_fail l D cI u S (nI 0) K (nI 1)) gX4_beatsUntilIn_X4_fail rfl (by decide +kernel) ⟨Nat.le_of_ble_eq_true rfl, Nat.le_of_ble_eq_true rfl⟩ rfl hl.1 rfl (Nat.le_of_ble_eq_true rfl) dX4_beatsUntilIn_23 ⟨Nat.zero_le _, Nat.zero_le _⟩ hK hP hD hS [0, 1, 2, 3, 4, 5] rfl rfl rfl (wMo cI u S (nI 1) K) wMo_ms wMo_ad (q0 := 0) (ci := 4) rfl rfl (fun H locs hP hD hS => ?_)
    have e9 : r1 (S 0 2) x1 (arrI S (cl x1) 60) = (1, nI 0) := r1_n h10
    exact k_retMI F hr hlk hP (by rw [e9, if_neg h10]) hS (by rw [e9]) rfl dX4_beatsUntilIn_26
  · skip
    obtain ⟨g1, hg1, rfl⟩ := lt_nI (by omega) h10
    refine lv_aload_n F.1 F.2.1 dX4_beatsUntilIn_13 rfl (lv_at hl 0 rfl) ?_
    refine lv_iload_n F.1 F.2.1 dX4_beatsUntilIn_14 rfl (lv_at hl 1 rfl) ?_
    refine k_mI (n := 1) (rest := []) (v := arrI S g1 60) F (c_X4_until l D cI u S (nI 0) K g1 hI (by first | assumption | omega)) gX4_beatsUntilIn_X4_until rfl (by decide +kernel) ⟨Nat.le_of_ble_eq_true rfl, Nat.le_of_ble_eq_true rfl⟩ rfl hl.1 rfl (Nat.le_of_ble_eq_true rfl) dX4_beatsUntilIn_15 ⟨Nat.zero_le _, Nat.zero_le _⟩ hK hP hD hS [0, 1, 2, 3, 4, 5] rfl rfl rfl (wMo cI u S (nI 0) (encN S)) wMo_ms wMo_ad (q0 := 0) (ci := 4) rfl rfl (fun H locs hP hD hS => ?_)
    refine lv_goto (tgt := 26) F.1 F.2.1 dX4_beatsUntilIn_18 (by decide) ?_
    have e9 : r1 (S 0 2) (nI g1) (arrI S (cl (nI g1)) 60) = (0, arrI S g1 60) := by rw [cl_nI (show g1 < 2 ^ 31 by omega)]; exact r1_y h10
    exact k_retMI F hr hlk hP (by rw [e9, if_pos h10]) hS (by rw [e9]) rfl dX4_beatsUntilIn_26
theorem nX4_inFarmAfter_X4 : ∀ x ∈ wsX40, x ∈ wsX4_inFarmAfter := fun _ h => List.mem_cons_of_mem _ (List.mem_append_right _ h)
set_option maxRecDepth 100000 in
set_option maxHeartbeats 4000000 in
theorem c_X4_inFarmAfter (l : Launch) (D : va_G) (cI : ClassId) (u : Nat → Nat) (S : Nat → Nat → Nat) (th : Int32) (K : Nat → Nat) (x1 : Int32) (hI : Inv S) : MI l yX4_inFarmAfter wsX4_inFarmAfter 6 135 D [(cI, .int)] [.ref (u 0), .int x1] (wMo cI u S th K) (wMo cI u S (nI (rAfter S x1).1) (if okR 1 60 x1 then encN S else K)) ((rAfter S x1).2) := by
  refine k_bodyM (cc := cX4_inFarmAfter) (maxL := 3) (ret := (some .int)) (by decide) rfl (Nat.le_of_ble_eq_true rfl) ?_
  intro p e s m args below meth c H ls F hr hlk hl hP hK hD hS
  have F : CallFix p m c cX4_inFarmAfter 3 s args wsX4_inFarmAfter RX4 := F
  have hl : lv_has ls 3 [(0, .ref (u 0)), (1, .int x1)] := hl
  have hi0 := hI.gates
  have hi1 := hI.geese
  have hi2 := hI.guests
  refine lv_aload_n F.1 F.2.1 dX4_inFarmAfter_0 rfl (lv_at hl 0 rfl) ?_
  refine lv_iconst (v := nI 0) F.1 F.2.1 dX4_inFarmAfter_1 (by decide) ?_
  refine k_put F nX4_inFarmAfter_X4 tyX4 tyX4_ok nmX4 hK.1 hP hD hS 0 rfl rfl 0 (by decide) (List.mem_of_getElem? (i := 1) rfl) rfl (by decide +kernel) (Nat.le_of_ble_eq_true rfl) dX4_inFarmAfter_2 (wMo cI u S (nI 0) K) wMo_f0 (fun H locs hP hD hS => ?_)
  refine lv_iload_n F.1 F.2.1 dX4_inFarmAfter_5 rfl (lv_at hl 1 rfl) ?_
  refine lv_iconst (v := nI 1) F.1 F.2.1 dX4_inFarmAfter_6 (by decide) ?_
  refine lv_bipush (v := nI 60) F.1 F.2.1 dX4_inFarmAfter_7 (by decide) ?_
  refine k_pS (n := 3) (rest := []) (v := bI ((nI 1) ≤ x1 ∧ x1 ≤ (nI 60))) F (c_X4_isIn l D cI x1 (nI 1) (nI 60)) gX4_inFarmAfter_X4_isIn rfl (by decide +kernel) ⟨Nat.le_of_ble_eq_true rfl, Nat.le_of_ble_eq_true rfl⟩ rfl hl.1 rfl (Nat.le_of_ble_eq_true rfl) dX4_inFarmAfter_9 ⟨Nat.zero_le _, Nat.zero_le _⟩ hK hP hS (fun H locs hP hS => ?_)
  refine k_ifne_b (tgt := 21) F dX4_inFarmAfter_12 (by decide) (fun h12 => ?_) (fun h12 => ?_)
  · skip
    obtain ⟨g1, hg1, rfl⟩ := in_nI (by decide) h12 (by decide)
    refine lv_aload_n F.1 F.2.1 dX4_inFarmAfter_21 rfl (lv_at hl 0 rfl) ?_
    refine k_mV (n := 0) (rest := []) F (c_X4_keep l D cI u S (nI 0) K) gX4_inFarmAfter_X4_keep rfl (by decide +kernel) ⟨Nat.le_of_ble_eq_true rfl, Nat.le_of_ble_eq_true rfl⟩ rfl hl.1 rfl (Nat.le_of_ble_eq_true rfl) dX4_inFarmAfter_22 ⟨Nat.zero_le _, Nat.zero_le _⟩ hK hP hD hS [0, 1, 2, 3, 4, 5] rfl rfl rfl (wMo cI u S (nI 0) (encN S)) wMo_ms wMo_ad (q0 := 0) (ci := 4) rfl rfl (fun H locs hP hD hS => ?_)
    refine lv_aload_n F.1 F.2.1 dX4_inFarmAfter_25 rfl (lv_at hl 0 rfl) ?_
    refine lv_iload_n F.1 F.2.1 dX4_inFarmAfter_26 rfl (lv_at hl 1 rfl) ?_
    refine k_mV (n := 1) (rest := []) F (c_X4_beatsOn l D cI u S (nI 0) (encN S) g1 hI (by first | assumption | omega)) gX4_inFarmAfter_X4_beatsOn rfl (by decide +kernel) ⟨Nat.le_of_ble_eq_true rfl, Nat.le_of_ble_eq_true rfl⟩ rfl hl.1 rfl (Nat.le_of_ble_eq_true rfl) dX4_inFarmAfter_27 ⟨Nat.zero_le _, Nat.zero_le _⟩ hK hP hD hS [0, 1, 2, 3, 4, 5] rfl rfl rfl (wMo cI u (beatsN S g1) (nI 0) (encN S)) wMo_ms wMo_ad (q0 := 0) (ci := 4) rfl rfl (fun H locs hP hD hS => ?_)
    refine lv_aload_n F.1 F.2.1 dX4_inFarmAfter_30 rfl (lv_at hl 0 rfl) ?_
    refine k_pV (n := 0) (rest := []) (v := nI (inN (beatsN S g1) ((beatsN S g1) 0 2))) F (c_X4_inside l D cI u (beatsN S g1) (nI 0) (encN S) (inv_beatsN hI _)) gX4_inFarmAfter_X4_inside rfl (by decide +kernel) ⟨Nat.le_of_ble_eq_true rfl, Nat.le_of_ble_eq_true rfl⟩ rfl hl.1 rfl (Nat.le_of_ble_eq_true rfl) dX4_inFarmAfter_31 ⟨Nat.zero_le _, Nat.zero_le _⟩ hK hP hS [0, 1, 2, 3, 4, 5] rfl (q0 := 0) (ci := 4) rfl rfl (fun H locs hP hS => ?_)
    refine lv_istore_n (lv' := [(2, .int (nI (inN (beatsN S g1) ((beatsN S g1) 0 2)))), (0, .ref (u 0)), (1, .int (nI g1))]) F.1 F.2.1 dX4_inFarmAfter_34 rfl hl (by decide) rfl (fun ls hl => ?_)
    refine lv_aload_n F.1 F.2.1 dX4_inFarmAfter_35 rfl (lv_at hl 1 rfl) ?_
    refine k_mV (n := 0) (rest := []) F (c_X4_bringBack l D cI u (beatsN S g1) (nI 0) S (same_beatsN _ _)) gX4_inFarmAfter_X4_bringBack rfl (by decide +kernel) ⟨Nat.le_of_ble_eq_true rfl, Nat.le_of_ble_eq_true rfl⟩ rfl hl.1 rfl (Nat.le_of_ble_eq_true rfl) dX4_inFarmAfter_36 ⟨Nat.zero_le _, Nat.zero_le _⟩ hK hP hD hS [0, 1, 2, 3, 4, 5] rfl rfl rfl (wMo cI u S (nI 0) (encN S)) wMo_ms wMo_ad (q0 := 0) (ci := 4) rfl rfl (fun H locs hP hD hS => ?_)
    refine lv_iload_n F.1 F.2.1 dX4_inFarmAfter_39 rfl (lv_at hl 0 rfl) ?_
    have e9 : rAfter S (nI g1) = (0, nI (inN (beatsN S g1) ((beatsN S g1) 0 2))) := by unfold rAfter; rw [cl_nI (show g1 < 2 ^ 31 by omega), if_pos h12]
    exact k_retMI F hr hlk hP (by rw [e9, if_pos h12]) hS (by rw [e9]) rfl dX4_inFarmAfter_40
  · skip
    refine lv_aload_n F.1 F.2.1 dX4_inFarmAfter_15 rfl (lv_at hl 0 rfl) ?_
    refine lv_iconst (v := nI 1) F.1 F.2.1 dX4_inFarmAfter_16 (by decide) ?_
    refine k_mI (n := 1) (rest := []) (v := nI 0) F (c_X4_fail l D cI u S (nI 0) K (nI 1)) gX4_inFarmAfter_X4_fail rfl (by decide +kernel) ⟨Nat.le_of_ble_eq_true rfl, Nat.le_of_ble_eq_true rfl⟩ rfl hl.1 rfl (Nat.le_of_ble_eq_true rfl) dX4_inFarmAfter_17 ⟨Nat.zero_le _, Nat.zero_le _⟩ hK hP hD hS [0, 1, 2, 3, 4, 5] rfl rfl rfl (wMo cI u S (nI 1) K) wMo_ms wMo_ad (q0 := 0) (ci := 4) rfl rfl (fun H locs hP hD hS => ?_)
    have e9 : rAfter S x1 = (1, nI 0) := by unfold rAfter; rw [if_neg h12]
    exact k_retMI F hr hlk hP (by rw [e9, if_neg h12]) hS (by rw [e9]) rfl dX4_inFarmAfter_20
theorem nX4_cornsWanted_X4 : ∀ x ∈ wsX40, x ∈ wsX4_cornsWanted := fun _ h => List.mem_cons_of_mem _ (List.mem_append_right _ h)
set_option maxRecDepth 100000 in
set_option maxHeartbeats 4000000 in
theorem c_X4_cornsWanted (l : Launch) (D : va_G) (cI : ClassId) (u : Nat → Nat) (S : Nat → Nat → Nat) (th : Int32) (K : Nat → Nat) (x1 : Int32) (hI : Inv S) : MI l yX4_cornsWanted wsX4_cornsWanted 6 136 D [(cI, .int)] [.ref (u 0), .int x1] (wMo cI u S th K) (wMo cI u S (nI (r1 (S 0 2) x1 (oI (cwN S (cl x1) 21))).1) (if okI (S 0 2) x1 then encN S else K)) ((r1 (S 0 2) x1 (oI (cwN S (cl x1) 21))).2) := by
  refine k_bodyM (cc := cX4_cornsWanted) (maxL := 4) (ret := (some .int)) (by decide) rfl (Nat.le_of_ble_eq_true rfl) ?_
  intro p e s m args below meth c H ls F hr hlk hl hP hK hD hS
  have F : CallFix p m c cX4_cornsWanted 4 s args wsX4_cornsWanted RX4 := F
  have hl : lv_has ls 4 [(0, .ref (u 0)), (1, .int x1)] := hl
  have hi0 := hI.gates
  have hi1 := hI.geese
  have hi2 := hI.guests
  refine lv_aload_n F.1 F.2.1 dX4_cornsWanted_0 rfl (lv_at hl 0 rfl) ?_
  refine lv_iconst (v := nI 0) F.1 F.2.1 dX4_cornsWanted_1 (by decide) ?_
  refine k_put F nX4_cornsWanted_X4 tyX4 tyX4_ok nmX4 hK.1 hP hD hS 0 rfl rfl 0 (by decide) (List.mem_of_getElem? (i := 1) rfl) rfl (by decide +kernel) (Nat.le_of_ble_eq_true rfl) dX4_cornsWanted_2 (wMo cI u S (nI 0) K) wMo_f0 (fun H locs hP hD hS => ?_)
  refine lv_aload_n F.1 F.2.1 dX4_cornsWanted_5 rfl (lv_at hl 0 rfl) ?_
  refine lv_iload_n F.1 F.2.1 dX4_cornsWanted_6 rfl (lv_at hl 1 rfl) ?_
  refine k_pV (n := 1) (rest := []) (v := bI (0 ≤ x1 ∧ x1 < nI (S 0 2))) F (c_X4_isVisitor l D cI u S (nI 0) K x1 (by first | assumption | omega)) gX4_cornsWanted_X4_isVisitor rfl (by decide +kernel) ⟨Nat.le_of_ble_eq_true rfl, Nat.le_of_ble_eq_true rfl⟩ rfl hl.1 rfl (Nat.le_of_ble_eq_true rfl) dX4_cornsWanted_7 ⟨Nat.zero_le _, Nat.zero_le _⟩ hK hP hS [0, 1, 2, 3, 4, 5] rfl (q0 := 0) (ci := 4) rfl rfl (fun H locs hP hS => ?_)
  refine k_ifne_b (tgt := 19) F dX4_cornsWanted_10 (by decide) (fun h10 => ?_) (fun h10 => ?_)
  · skip
    obtain ⟨g1, hg1, rfl⟩ := lt_nI (by omega) h10
    refine lv_aload_n F.1 F.2.1 dX4_cornsWanted_19 rfl (lv_at hl 0 rfl) ?_
    refine k_mV (n := 0) (rest := []) F (c_X4_keep l D cI u S (nI 0) K) gX4_cornsWanted_X4_keep rfl (by decide +kernel) ⟨Nat.le_of_ble_eq_true rfl, Nat.le_of_ble_eq_true rfl⟩ rfl hl.1 rfl (Nat.le_of_ble_eq_true rfl) dX4_cornsWanted_20 ⟨Nat.zero_le _, Nat.zero_le _⟩ hK hP hD hS [0, 1, 2, 3, 4, 5] rfl rfl rfl (wMo cI u S (nI 0) (encN S)) wMo_ms wMo_ad (q0 := 0) (ci := 4) rfl rfl (fun H locs hP hD hS => ?_)
    refine lv_iconst (v := (-1)) F.1 F.2.1 dX4_cornsWanted_23 (by decide) ?_
    refine lv_istore_n (lv' := [(2, .int (-1)), (0, .ref (u 0)), (1, .int (nI g1))]) F.1 F.2.1 dX4_cornsWanted_24 rfl hl (by decide) rfl (fun ls hl => ?_)
    refine lv_iconst (v := nI 0) F.1 F.2.1 dX4_cornsWanted_25 (by decide) ?_
    refine lv_istore_n (lv' := [(3, .int (nI 0)), (2, .int (-1)), (0, .ref (u 0)), (1, .int (nI g1))]) F.1 F.2.1 dX4_cornsWanted_26 rfl hl (by decide) rfl (fun ls hl => ?_)
    have loop27 : ∀ (n : Nat) (i : Nat), i ≤ 21 → 21 + 1 ≤ i + n → ∀ (H : Heap) (locs : List Loc) (ls : Array Slot), va_P D vwCl (wMo cI u S (nI 0) (encN S)) H → va_D (va_B (wMo cI u S th K)) (wMo cI u S (nI 0) (encN S)) → va_S (va_B (wMo cI u S th K)) s.heap H locs → lv_has ls 4 [(0, .ref (u 0)), (1, .int (nI g1)), (2, .int (oI (cwN S g1 i))), (3, .int (nI i))] → W p l e (rmN 6 136) s m args below meth c H locs 0 0 (QMI below args s D (wMo cI u S th K) (wMo cI u S (nI (r1 (S 0 2) (nI g1) (oI (cwN S (cl (nI g1)) 21))).1) (if okI (S 0 2) (nI g1) then encN S else K)) ((r1 (S 0 2) (nI g1) (oI (cwN S (cl (nI g1)) 21))).2)) (F0 m 27 ls []) := by
      intro n
      induction n with
      | zero => intro i hi hn; exact absurd hn (by omega)
      | succ n ih27 =>
        intro i hi hn  H locs ls hP hD hS hl
        refine lv_iload_n F.1 F.2.1 dX4_cornsWanted_27 rfl (lv_at hl 3 rfl) ?_
        refine lv_bipush (v := nI 20) F.1 F.2.1 dX4_cornsWanted_28 (by decide) ?_
        refine k_icmp_gt (tgt := 68) F (by omega) (by omega) dX4_cornsWanted_30 (by decide) (fun h30 => ?_) (fun h30 => ?_)
        · skip
          refine lv_iload_n F.1 F.2.1 dX4_cornsWanted_68 rfl (lv_at hl 2 rfl) ?_
          have e9 : r1 (S 0 2) (nI g1) (oI (cwN S (cl (nI g1)) 21)) = (0, (oI (cwN S g1 21))) := by rw [cl_nI (show g1 < 2 ^ 31 by omega)]; exact r1_y h10
          exact k_retMI F hr hlk hP (by rw [e9, if_pos h10]) hS (by rw [e9, show i = 21 by omega]) rfl dX4_cornsWanted_69
        · skip
          refine lv_iload_n F.1 F.2.1 dX4_cornsWanted_33 rfl (lv_at hl 2 rfl) ?_
          refine lv_iconst (v := (-1)) F.1 F.2.1 dX4_cornsWanted_34 (by decide) ?_
          refine lv_icmp_ne (tgt := 68) F.1 F.2.1 dX4_cornsWanted_35 (by decide) (fun h35 => ?_) (fun h35 => ?_)
          · skip
            refine lv_iload_n F.1 F.2.1 dX4_cornsWanted_68 rfl (lv_at hl 2 rfl) ?_
            have e9 : r1 (S 0 2) (nI g1) (oI (cwN S (cl (nI g1)) 21)) = (0, (oI (cwN S g1 21))) := by rw [cl_nI (show g1 < 2 ^ 31 by omega)]; exact r1_y h10
            exact k_retMI F hr hlk hP (by rw [e9, if_pos h10]) hS (by rw [e9]; exact congrArg oI (cw_stay (fun q => h35 (congrArg oI q)) (by omega)).symm) rfl dX4_cornsWanted_69
          · skip
            have h0 : cwN S g1 i = 0 := (oI_m1 (Nat.lt_of_le_of_lt (cw_le S g1 i) (by omega))).mp h35
            refine lv_aload_n F.1 F.2.1 dX4_cornsWanted_38 rfl (lv_at hl 0 rfl) ?_
            refine lv_iload_n F.1 F.2.1 dX4_cornsWanted_39 rfl (lv_at hl 1 rfl) ?_
            refine lv_iconst (v := nI 1) F.1 F.2.1 dX4_cornsWanted_40 (by decide) ?_
            refine lv_iload_n F.1 F.2.1 dX4_cornsWanted_41 rfl (lv_at hl 3 rfl) ?_
            refine k_mV (n := 3) (rest := []) F (c_X4_let l D cI u S (nI 0) (encN S) g1 1 i (by first | assumption | omega) (by first | assumption | omega)) gX4_cornsWanted_X4_let rfl (by decide +kernel) ⟨Nat.le_of_ble_eq_true rfl, Nat.le_of_ble_eq_true rfl⟩ rfl hl.1 rfl (Nat.le_of_ble_eq_true rfl) dX4_cornsWanted_42 ⟨Nat.zero_le _, Nat.zero_le _⟩ hK hP hD hS [0, 1, 2, 3, 4, 5] rfl rfl rfl (wMo cI u (setf S 8 g1 i) (nI 0) (encN S)) wMo_ms wMo_ad (q0 := 0) (ci := 4) rfl rfl (fun H locs hP hD hS => ?_)
            refine lv_aload_n F.1 F.2.1 dX4_cornsWanted_45 rfl (lv_at hl 0 rfl) ?_
            refine lv_iload_n F.1 F.2.1 dX4_cornsWanted_46 rfl (lv_at hl 1 rfl) ?_
            refine lv_bipush (v := nI 40) F.1 F.2.1 dX4_cornsWanted_47 (by decide) ?_
            refine k_mI (n := 2) (rest := []) (v := arrI (setf S 8 g1 i) g1 40) F (c_X4_run l D cI u (setf S 8 g1 i) (nI 0) (encN S) g1 40 (inv_corn hI g1 (by omega)) (by first | assumption | omega) (by first | assumption | omega)) gX4_cornsWanted_X4_run rfl (by decide +kernel) ⟨Nat.le_of_ble_eq_true rfl, Nat.le_of_ble_eq_true rfl⟩ rfl hl.1 rfl (Nat.le_of_ble_eq_true rfl) dX4_cornsWanted_49 ⟨Nat.zero_le _, Nat.zero_le _⟩ hK hP hD hS [0, 1, 2, 3, 4, 5] rfl rfl rfl (wMo cI u (beatsN (setf S 8 g1 i) (waitN (setf S 8 g1 i) g1 (40 + 1))) (nI 0) (encN S)) wMo_ms wMo_ad (q0 := 0) (ci := 4) rfl rfl (fun H locs hP hD hS => ?_)
            refine lv_iconst (v := (-1)) F.1 F.2.1 dX4_cornsWanted_52 (by decide) ?_
            refine lv_icmp_eq (tgt := 58) F.1 F.2.1 dX4_cornsWanted_53 (by decide) (fun h53 => ?_) (fun h53 => ?_)
            · skip
              refine lv_aload_n F.1 F.2.1 dX4_cornsWanted_58 rfl (lv_at hl 0 rfl) ?_
              refine k_mV (n := 0) (rest := []) F (c_X4_bringBack l D cI u (beatsN (setf S 8 g1 i) (waitN (setf S 8 g1 i) g1 (40 + 1))) (nI 0) S ((same_beatsN _ _).trans ⟨⟨rfl, rfl, rfl⟩, rfl, rfl, rfl⟩)) gX4_cornsWanted_X4_bringBack rfl (by decide +kernel) ⟨Nat.le_of_ble_eq_true rfl, Nat.le_of_ble_eq_true rfl⟩ rfl hl.1 rfl (Nat.le_of_ble_eq_true rfl) dX4_cornsWanted_59 ⟨Nat.zero_le _, Nat.zero_le _⟩ hK hP hD hS [0, 1, 2, 3, 4, 5] rfl rfl rfl (wMo cI u S (nI 0) (encN S)) wMo_ms wMo_ad (q0 := 0) (ci := 4) rfl rfl (fun H locs hP hD hS => ?_)
              refine k_inc (k := 3) (lv' := [(3, .int (nI (i + 1))), (0, .ref (u 0)), (1, .int (nI g1)), (2, .int (oI (cwN S g1 i)))]) F dX4_cornsWanted_62 hl rfl (by decide) rfl (fun ls hl => ?_)
              refine lv_goto (tgt := 27) F.1 F.2.1 dX4_cornsWanted_65 (by decide) ?_
              have e_1 : (oI (cwN S g1 i)) = (oI (cwN S g1 (i + 1))) := congrArg oI (h0.trans (cw_no h0 h53).symm)
              rw [e_1] at hl
              exact ih27 (i + 1) (by omega) (by omega)  _ _ _ hP hD hS (lv_sub hl [1, 2, 3, 0] rfl)
            · skip
              refine lv_iload_n F.1 F.2.1 dX4_cornsWanted_56 rfl (lv_at hl 3 rfl) ?_
              refine lv_istore_n (lv' := [(2, .int (nI i)), (0, .ref (u 0)), (1, .int (nI g1)), (3, .int (nI i))]) F.1 F.2.1 dX4_cornsWanted_57 rfl hl (by decide) rfl (fun ls hl => ?_)
              refine lv_aload_n F.1 F.2.1 dX4_cornsWanted_58 rfl (lv_at hl 1 rfl) ?_
              refine k_mV (n := 0) (rest := []) F (c_X4_bringBack l D cI u (beatsN (setf S 8 g1 i) (waitN (setf S 8 g1 i) g1 (40 + 1))) (nI 0) S ((same_beatsN _ _).trans ⟨⟨rfl, rfl, rfl⟩, rfl, rfl, rfl⟩)) gX4_cornsWanted_X4_bringBack rfl (by decide +kernel) ⟨Nat.le_of_ble_eq_true rfl, Nat.le_of_ble_eq_true rfl⟩ rfl hl.1 rfl (Nat.le_of_ble_eq_true rfl) dX4_cornsWanted_59 ⟨Nat.zero_le _, Nat.zero_le _⟩ hK hP hD hS [0, 1, 2, 3, 4, 5] rfl rfl rfl (wMo cI u S (nI 0) (encN S)) wMo_ms wMo_ad (q0 := 0) (ci := 4) rfl rfl (fun H locs hP hD hS => ?_)
              refine k_inc (k := 3) (lv' := [(3, .int (nI (i + 1))), (2, .int (nI i)), (0, .ref (u 0)), (1, .int (nI g1))]) F dX4_cornsWanted_62 hl rfl (by decide) rfl (fun ls hl => ?_)
              refine lv_goto (tgt := 27) F.1 F.2.1 dX4_cornsWanted_65 (by decide) ?_
              have e_2 : nI i = (oI (cwN S g1 (i + 1))) := (oI_succ i).symm.trans (congrArg oI (cw_hit h0 h53).symm)
              rw [e_2] at hl
              exact ih27 (i + 1) (by omega) (by omega)  _ _ _ hP hD hS (lv_sub hl [2, 3, 1, 0] rfl)
    have e_3 : (-1) = (oI (cwN S g1 0)) := oI_0.symm
    rw [e_3] at hl
    exact loop27 (21 + 1) 0 (by omega) (by omega)  _ _ _ hP hD hS (lv_sub hl [2, 3, 1, 0] rfl)
  · skip
    refine lv_aload_n F.1 F.2.1 dX4_cornsWanted_13 rfl (lv_at hl 0 rfl) ?_
    refine lv_iconst (v := nI 1) F.1 F.2.1 dX4_cornsWanted_14 (by decide) ?_
    refine k_mI (n := 1) (rest := []) (v := nI 0) F (c_X4_fail l D cI u S (nI 0) K (nI 1)) gX4_cornsWanted_X4_fail rfl (by decide +kernel) ⟨Nat.le_of_ble_eq_true rfl, Nat.le_of_ble_eq_true rfl⟩ rfl hl.1 rfl (Nat.le_of_ble_eq_true rfl) dX4_cornsWanted_15 ⟨Nat.zero_le _, Nat.zero_le _⟩ hK hP hD hS [0, 1, 2, 3, 4, 5] rfl rfl rfl (wMo cI u S (nI 1) K) wMo_ms wMo_ad (q0 := 0) (ci := 4) rfl rfl (fun H locs hP hD hS => ?_)
    have e9 : r1 (S 0 2) x1 (oI (cwN S (cl x1) 21)) = (1, nI 0) := r1_n h10
    exact k_retMI F hr hlk hP (by rw [e9, if_neg h10]) hS (by rw [e9]) rfl dX4_cornsWanted_18
set_option maxRecDepth 100000 in
set_option maxHeartbeats 4000000 in
theorem c_X4_toBribe (l : Launch) (D : va_G) (cI : ClassId) (u : Nat → Nat) (S : Nat → Nat → Nat) (th : Int32) (K : Nat → Nat) (v : Nat) (hI : Inv S) (hv : v < 8) : PI l yX4_toBribe wsX4_toBribe 3 67 D [(cI, .int)] [.ref (u 0), .int (nI v)] (wMo cI u S th K) (oI (frcN S (S 7 v) (S 0 1)).1) := by
  refine k_bodyP (cc := cX4_toBribe) (maxL := 2) (ret := (some .int)) (by decide) rfl (Nat.le_of_ble_eq_true rfl) ?_
  intro p e s m args below meth c H ls F hr hlk hl hP hK hS
  have F : CallFix p m c cX4_toBribe 2 s args wsX4_toBribe RX4 := F
  have hl : lv_has ls 2 [(0, .ref (u 0)), (1, .int (nI v))] := hl
  have hi0 := hI.gates
  have hi1 := hI.geese
  have hi2 := hI.guests
  have hw9 := hI.went v
  refine lv_aload_n F.1 F.2.1 dX4_toBribe_0 rfl (lv_at hl 0 rfl) ?_
  refine lv_iload_n F.1 F.2.1 dX4_toBribe_1 rfl (lv_at hl 1 rfl) ?_
  refine k_pV (n := 1) (rest := []) (v := bI (S 0 0 ≤ S 7 v)) F (c_X4_isIn_ l D cI u S th K v hI (by first | assumption | omega)) gX4_toBribe_X4_isIn_ rfl (by decide +kernel) ⟨Nat.le_of_ble_eq_true rfl, Nat.le_of_ble_eq_true rfl⟩ rfl hl.1 rfl (Nat.le_of_ble_eq_true rfl) dX4_toBribe_2 ⟨Nat.zero_le _, Nat.zero_le _⟩ hK hP hS [0, 1, 2, 3, 4, 5] rfl (q0 := 0) (ci := 4) rfl rfl (fun H locs hP hS => ?_)
  refine k_ifeq_b (tgt := 12) F dX4_toBribe_5 (by decide) (fun h5 => ?_) (fun h5 => ?_)
  · skip
    refine lv_aload_n F.1 F.2.1 dX4_toBribe_12 rfl (lv_at hl 0 rfl) ?_
    refine lv_aload_n F.1 F.2.1 dX4_toBribe_13 rfl (lv_at hl 0 rfl) ?_
    refine lv_iload_n F.1 F.2.1 dX4_toBribe_14 rfl (lv_at hl 1 rfl) ?_
    refine lv_iconst (v := nI 0) F.1 F.2.1 dX4_toBribe_15 (by decide) ?_
    refine k_pV (n := 2) (rest := [.ref (u 0)]) (v := nI (S 7 v)) F (c_X4_vi l D cI u S th K v 0 (by first | assumption | omega) (by first | assumption | omega)) gX4_toBribe_X4_vi rfl (by decide +kernel) ⟨Nat.le_of_ble_eq_true rfl, Nat.le_of_ble_eq_true rfl⟩ rfl hl.1 rfl (Nat.le_of_ble_eq_true rfl) dX4_toBribe_16 ⟨Nat.zero_le _, Nat.zero_le _⟩ hK hP hS [0, 1, 2, 3, 4, 5] rfl (q0 := 0) (ci := 4) rfl rfl (fun H locs hP hS => ?_)
    refine k_pV (n := 1) (rest := []) (v := oI (frcN S (S 7 v) (S 0 1)).1) F (c_X4_angriest l D cI u S th K (S 7 v) hI (by first | assumption | omega)) gX4_toBribe_X4_angriest rfl (by decide +kernel) ⟨Nat.le_of_ble_eq_true rfl, Nat.le_of_ble_eq_true rfl⟩ rfl hl.1 rfl (Nat.le_of_ble_eq_true rfl) dX4_toBribe_19 ⟨Nat.zero_le _, Nat.zero_le _⟩ hK hP hS [0, 1, 2, 3, 4, 5] rfl (q0 := 0) (ci := 4) rfl rfl (fun H locs hP hS => ?_)
    exact k_retP F hr hlk hS rfl rfl dX4_toBribe_22
  · skip
    refine lv_iconst (v := (-1)) F.1 F.2.1 dX4_toBribe_8 (by decide) ?_
    refine lv_goto (tgt := 22) F.1 F.2.1 dX4_toBribe_9 (by decide) ?_
    exact k_retP F hr hlk hS (by rw [frcN_farm hI h5]; exact oI_0.symm) rfl dX4_toBribe_22
theorem nX4_bestToBribe_X4 : ∀ x ∈ wsX40, x ∈ wsX4_bestToBribe := fun _ h => List.mem_cons_of_mem _ (List.mem_append_right _ h)
set_option maxRecDepth 100000 in
set_option maxHeartbeats 4000000 in
theorem c_X4_bestToBribe (l : Launch) (D : va_G) (cI : ClassId) (u : Nat → Nat) (S : Nat → Nat → Nat) (th : Int32) (K : Nat → Nat) (x1 : Int32) (hI : Inv S) : MI l yX4_bestToBribe wsX4_bestToBribe 4 88 D [(cI, .int)] [.ref (u 0), .int x1] (wMo cI u S th K) (wMo cI u S (nI (r1 (S 0 2) x1 (oI (frcN S (S 7 (cl x1)) (S 0 1)).1)).1) K) ((r1 (S 0 2) x1 (oI (frcN S (S 7 (cl x1)) (S 0 1)).1)).2) := by
  refine k_bodyM (cc := cX4_bestToBribe) (maxL := 2) (ret := (some .int)) (by decide) rfl (Nat.le_of_ble_eq_true rfl) ?_
  intro p e s m args below meth c H ls F hr hlk hl hP hK hD hS
  have F : CallFix p m c cX4_bestToBribe 2 s args wsX4_bestToBribe RX4 := F
  have hl : lv_has ls 2 [(0, .ref (u 0)), (1, .int x1)] := hl
  have hi0 := hI.gates
  have hi1 := hI.geese
  have hi2 := hI.guests
  refine lv_aload_n F.1 F.2.1 dX4_bestToBribe_0 rfl (lv_at hl 0 rfl) ?_
  refine lv_iconst (v := nI 0) F.1 F.2.1 dX4_bestToBribe_1 (by decide) ?_
  refine k_put F nX4_bestToBribe_X4 tyX4 tyX4_ok nmX4 hK.1 hP hD hS 0 rfl rfl 0 (by decide) (List.mem_of_getElem? (i := 1) rfl) rfl (by decide +kernel) (Nat.le_of_ble_eq_true rfl) dX4_bestToBribe_2 (wMo cI u S (nI 0) K) wMo_f0 (fun H locs hP hD hS => ?_)
  refine lv_aload_n F.1 F.2.1 dX4_bestToBribe_5 rfl (lv_at hl 0 rfl) ?_
  refine lv_iload_n F.1 F.2.1 dX4_bestToBribe_6 rfl (lv_at hl 1 rfl) ?_
  refine k_pV (n := 1) (rest := []) (v := bI (0 ≤ x1 ∧ x1 < nI (S 0 2))) F (c_X4_isVisitor l D cI u S (nI 0) K x1 (by first | assumption | omega)) gX4_bestToBribe_X4_isVisitor rfl (by decide +kernel) ⟨Nat.le_of_ble_eq_true rfl, Nat.le_of_ble_eq_true rfl⟩ rfl hl.1 rfl (Nat.le_of_ble_eq_true rfl) dX4_bestToBribe_7 ⟨Nat.zero_le _, Nat.zero_le _⟩ hK hP hS [0, 1, 2, 3, 4, 5] rfl (q0 := 0) (ci := 4) rfl rfl (fun H locs hP hS => ?_)
  refine k_ifeq_b (tgt := 21) F dX4_bestToBribe_10 (by decide) (fun h10 => ?_) (fun h10 => ?_)
  · skip
    refine lv_aload_n F.1 F.2.1 dX4_bestToBribe_21 rfl (lv_at hl 0 rfl) ?_
    refine lv_iconst (v := nI 1) F.1 F.2.1 dX4_bestToBribe_22 (by decide) ?_
    refine k_mI (n := 1) (rest := []) (v := nI 0) F (c_X4_fail l D cI u S (nI 0) K (nI 1)) gX4_bestToBribe_X4_fail rfl (by decide +kernel) ⟨Nat.le_of_ble_eq_true rfl, Nat.le_of_ble_eq_true rfl⟩ rfl hl.1 rfl (Nat.le_of_ble_eq_true rfl) dX4_bestToBribe_23 ⟨Nat.zero_le _, Nat.zero_le _⟩ hK hP hD hS [0, 1, 2, 3, 4, 5] rfl rfl rfl (wMo cI u S (nI 1) K) wMo_ms wMo_ad (q0 := 0) (ci := 4) rfl rfl (fun H locs hP hD hS => ?_)
    have e9 : r1 (S 0 2) x1 (oI (frcN S (S 7 (cl x1)) (S 0 1)).1) = (1, nI 0) := r1_n h10
    exact k_retMI F hr hlk hP (by rw [e9]) hS (by rw [e9]) rfl dX4_bestToBribe_26
  · skip
    obtain ⟨g1, hg1, rfl⟩ := lt_nI (by omega) h10
    refine lv_aload_n F.1 F.2.1 dX4_bestToBribe_13 rfl (lv_at hl 0 rfl) ?_
    refine lv_iload_n F.1 F.2.1 dX4_bestToBribe_14 rfl (lv_at hl 1 rfl) ?_
    refine k_pV (n := 1) (rest := []) (v := oI (frcN S (S 7 g1) (S 0 1)).1) F (c_X4_toBribe l D cI u S (nI 0) K g1 hI (by first | assumption | omega)) gX4_bestToBribe_X4_toBribe rfl (by decide +kernel) ⟨Nat.le_of_ble_eq_true rfl, Nat.le_of_ble_eq_true rfl⟩ rfl hl.1 rfl (Nat.le_of_ble_eq_true rfl) dX4_bestToBribe_15 ⟨Nat.zero_le _, Nat.zero_le _⟩ hK hP hS [0, 1, 2, 3, 4, 5] rfl (q0 := 0) (ci := 4) rfl rfl (fun H locs hP hS => ?_)
    refine lv_goto (tgt := 26) F.1 F.2.1 dX4_bestToBribe_18 (by decide) ?_
    have e9 : r1 (S 0 2) (nI g1) (oI (frcN S (S 7 (cl (nI g1))) (S 0 1)).1) = (0, (oI (frcN S (S 7 g1) (S 0 1)).1)) := by rw [cl_nI (show g1 < 2 ^ 31 by omega)]; exact r1_y h10
    exact k_retMI F hr hlk hP (by rw [e9]) hS (by rw [e9]) rfl dX4_bestToBribe_26
set_option maxRecDepth 100000 in
set_option maxHeartbeats 4000000 in
theorem c_X4_ranked (l : Launch) (D : va_G) (cI : ClassId) (u : Nat → Nat) (S : Nat → Nat → Nat) (th : Int32) (K : Nat → Nat) (v : Nat) (hI : Inv S) (hv : v < 8) : PI l yX4_ranked wsX4_ranked 3 68 D [(cI, .int)] [.ref (u 0), .int (nI v)] (wMo cI u S th K) (oI (rkN S v 10)) := by
  refine k_bodyP (cc := cX4_ranked) (maxL := 3) (ret := (some .int)) (by decide) rfl (Nat.le_of_ble_eq_true rfl) ?_
  intro p e s m args below meth c H ls F hr hlk hl hP hK hS
  have F : CallFix p m c cX4_ranked 3 s args wsX4_ranked RX4 := F
  have hl : lv_has ls 3 [(0, .ref (u 0)), (1, .int (nI v))] := hl
  have hi0 := hI.gates
  have hi1 := hI.geese
  have hi2 := hI.guests
  have hw9 := hI.went v
  have hb9 := hI.brave v
  refine lv_aload_n F.1 F.2.1 dX4_ranked_0 rfl (lv_at hl 0 rfl) ?_
  refine lv_iload_n F.1 F.2.1 dX4_ranked_1 rfl (lv_at hl 1 rfl) ?_
  refine k_pV (n := 1) (rest := []) (v := bI (S 0 0 ≤ S 7 v)) F (c_X4_isIn_ l D cI u S th K v hI (by first | assumption | omega)) gX4_ranked_X4_isIn_ rfl (by decide +kernel) ⟨Nat.le_of_ble_eq_true rfl, Nat.le_of_ble_eq_true rfl⟩ rfl hl.1 rfl (Nat.le_of_ble_eq_true rfl) dX4_ranked_2 ⟨Nat.zero_le _, Nat.zero_le _⟩ hK hP hS [0, 1, 2, 3, 4, 5] rfl (q0 := 0) (ci := 4) rfl rfl (fun H locs hP hS => ?_)
  refine k_ifeq_b (tgt := 10) F dX4_ranked_5 (by decide) (fun h5 => ?_) (fun h5 => ?_)
  · skip
    refine lv_iconst (v := nI 0) F.1 F.2.1 dX4_ranked_10 (by decide) ?_
    refine lv_istore_n (lv' := [(2, .int (nI 0)), (0, .ref (u 0)), (1, .int (nI v))]) F.1 F.2.1 dX4_ranked_11 rfl hl (by decide) rfl (fun ls hl => ?_)
    have loop12 : ∀ (n : Nat) (i : Nat), i ≤ 10 → 10 + 1 ≤ i + n → (rkN S v i = 0) → ∀ (H : Heap) (locs : List Loc) (ls : Array Slot), va_P D vwCl (wMo cI u S th K) H → va_S (fun _ => False) s.heap H locs → lv_has ls 3 [(0, .ref (u 0)), (1, .int (nI v)), (2, .int (nI i))] → W p l e (rmN 3 68) s m args below meth c H locs 0 0 (QPI below args s (oI (rkN S v 10))) (F0 m 12 ls []) := by
      intro n
      induction n with
      | zero => intro i hi hn; exact absurd hn (by omega)
      | succ n ih12 =>
        intro i hi hn hz H locs ls hP hS hl
        refine lv_iload_n F.1 F.2.1 dX4_ranked_12 rfl (lv_at hl 2 rfl) ?_
        refine lv_bipush (v := nI 9) F.1 F.2.1 dX4_ranked_13 (by decide) ?_
        refine k_icmp_gt (tgt := 46) F (by omega) (by omega) dX4_ranked_15 (by decide) (fun h15 => ?_) (fun h15 => ?_)
        · skip
          refine lv_iconst (v := (-1)) F.1 F.2.1 dX4_ranked_46 (by decide) ?_
          exact k_retP F hr hlk hS (by rw [show (10 : Nat) = i by omega, hz]; exact oI_0.symm) rfl dX4_ranked_47
        · skip
          refine lv_aload_n F.1 F.2.1 dX4_ranked_18 rfl (lv_at hl 0 rfl) ?_
          refine lv_aload_n F.1 F.2.1 dX4_ranked_19 rfl (lv_at hl 0 rfl) ?_
          refine lv_iload_n F.1 F.2.1 dX4_ranked_20 rfl (lv_at hl 1 rfl) ?_
          refine lv_iconst (v := nI 0) F.1 F.2.1 dX4_ranked_21 (by decide) ?_
          refine k_pV (n := 2) (rest := [.ref (u 0)]) (v := nI (S 7 v)) F (c_X4_vi l D cI u S th K v 0 (by first | assumption | omega) (by first | assumption | omega)) gX4_ranked_X4_vi rfl (by decide +kernel) ⟨Nat.le_of_ble_eq_true rfl, Nat.le_of_ble_eq_true rfl⟩ rfl hl.1 rfl (Nat.le_of_ble_eq_true rfl) dX4_ranked_22 ⟨Nat.zero_le _, Nat.zero_le _⟩ hK hP hS [0, 1, 2, 3, 4, 5] rfl (q0 := 0) (ci := 4) rfl rfl (fun H locs hP hS => ?_)
          refine lv_iload_n F.1 F.2.1 dX4_ranked_25 rfl (lv_at hl 2 rfl) ?_
          refine k_pV (n := 2) (rest := []) (v := nI (hisG S (S 7 v) i)) F (c_X4_hiss l D cI u S th K (S 7 v) i hI (by first | assumption | omega) (by first | assumption | omega)) gX4_ranked_X4_hiss rfl (by decide +kernel) ⟨Nat.le_of_ble_eq_true rfl, Nat.le_of_ble_eq_true rfl⟩ rfl hl.1 rfl (Nat.le_of_ble_eq_true rfl) dX4_ranked_26 ⟨Nat.zero_le _, Nat.zero_le _⟩ hK hP hS [0, 1, 2, 3, 4, 5] rfl (q0 := 0) (ci := 4) rfl rfl (fun H locs hP hS => ?_)
          refine lv_aload_n F.1 F.2.1 dX4_ranked_29 rfl (lv_at hl 0 rfl) ?_
          refine lv_iload_n F.1 F.2.1 dX4_ranked_30 rfl (lv_at hl 1 rfl) ?_
          refine lv_iconst (v := nI 2) F.1 F.2.1 dX4_ranked_31 (by decide) ?_
          refine k_pV (n := 2) (rest := [.int (nI (hisG S (S 7 v) i))]) (v := nI (S 9 v)) F (c_X4_vi l D cI u S th K v 2 (by first | assumption | omega) (by first | assumption | omega)) gX4_ranked_X4_vi rfl (by decide +kernel) ⟨Nat.le_of_ble_eq_true rfl, Nat.le_of_ble_eq_true rfl⟩ rfl hl.1 rfl (Nat.le_of_ble_eq_true rfl) dX4_ranked_32 ⟨Nat.zero_le _, Nat.zero_le _⟩ hK hP hS [0, 1, 2, 3, 4, 5] rfl (q0 := 0) (ci := 4) rfl rfl (fun H locs hP hS => ?_)
          have hh9 := hisG_le hI (S 7 v) i
          refine k_icmp_gt (tgt := 40) F (by omega) (by omega) dX4_ranked_35 (by decide) (fun h35 => ?_) (fun h35 => ?_)
          · skip
            refine k_inc (k := 2) (lv' := [(2, .int (nI (i + 1))), (0, .ref (u 0)), (1, .int (nI v))]) F dX4_ranked_40 hl rfl (by decide) rfl (fun ls hl => ?_)
            refine lv_goto (tgt := 12) F.1 F.2.1 dX4_ranked_43 (by decide) ?_
            exact ih12 (i + 1) (by omega) (by omega) (fst_no hz (Nat.not_le.mpr h35)) _ _ _ hP hS (lv_sub hl [1, 2, 0] rfl)
          · skip
            refine lv_iload_n F.1 F.2.1 dX4_ranked_38 rfl (lv_at hl 2 rfl) ?_
            exact k_retP F hr hlk hS ((oI_succ i).symm.trans (congrArg oI (rk_hit hz (Nat.not_lt.mp h35) (by omega)).symm)) rfl dX4_ranked_39
    exact loop12 (10 + 1) 0 (by omega) (by omega) rfl _ _ _ hP hS (lv_sub hl [1, 2, 0] rfl)
  · skip
    refine lv_iconst (v := nI 0) F.1 F.2.1 dX4_ranked_8 (by decide) ?_
    exact k_retP F hr hlk hS (by rw [rk_hit (i := 0) rfl (by rw [hisG_farm hI h5]; exact Nat.zero_le _) (by decide)]; exact (oI_succ 0).symm) rfl dX4_ranked_9
theorem nX4_rankWanted_X4 : ∀ x ∈ wsX40, x ∈ wsX4_rankWanted := fun _ h => List.mem_cons_of_mem _ (List.mem_append_right _ h)
set_option maxRecDepth 100000 in
set_option maxHeartbeats 4000000 in
theorem c_X4_rankWanted (l : Launch) (D : va_G) (cI : ClassId) (u : Nat → Nat) (S : Nat → Nat → Nat) (th : Int32) (K : Nat → Nat) (x1 : Int32) (hI : Inv S) : MI l yX4_rankWanted wsX4_rankWanted 4 90 D [(cI, .int)] [.ref (u 0), .int x1] (wMo cI u S th K) (wMo cI u S (nI (r1 (S 0 2) x1 (oI (rkN S (cl x1) 10))).1) K) ((r1 (S 0 2) x1 (oI (rkN S (cl x1) 10))).2) := by
  refine k_bodyM (cc := cX4_rankWanted) (maxL := 2) (ret := (some .int)) (by decide) rfl (Nat.le_of_ble_eq_true rfl) ?_
  intro p e s m args below meth c H ls F hr hlk hl hP hK hD hS
  have F : CallFix p m c cX4_rankWanted 2 s args wsX4_rankWanted RX4 := F
  have hl : lv_has ls 2 [(0, .ref (u 0)), (1, .int x1)] := hl
  have hi0 := hI.gates
  have hi1 := hI.geese
  have hi2 := hI.guests
  refine lv_aload_n F.1 F.2.1 dX4_rankWanted_0 rfl (lv_at hl 0 rfl) ?_
  refine lv_iconst (v := nI 0) F.1 F.2.1 dX4_rankWanted_1 (by decide) ?_
  refine k_put F nX4_rankWanted_X4 tyX4 tyX4_ok nmX4 hK.1 hP hD hS 0 rfl rfl 0 (by decide) (List.mem_of_getElem? (i := 1) rfl) rfl (by decide +kernel) (Nat.le_of_ble_eq_true rfl) dX4_rankWanted_2 (wMo cI u S (nI 0) K) wMo_f0 (fun H locs hP hD hS => ?_)
  refine lv_aload_n F.1 F.2.1 dX4_rankWanted_5 rfl (lv_at hl 0 rfl) ?_
  refine lv_iload_n F.1 F.2.1 dX4_rankWanted_6 rfl (lv_at hl 1 rfl) ?_
  refine k_pV (n := 1) (rest := []) (v := bI (0 ≤ x1 ∧ x1 < nI (S 0 2))) F (c_X4_isVisitor l D cI u S (nI 0) K x1 (by first | assumption | omega)) gX4_rankWanted_X4_isVisitor rfl (by decide +kernel) ⟨Nat.le_of_ble_eq_true rfl, Nat.le_of_ble_eq_true rfl⟩ rfl hl.1 rfl (Nat.le_of_ble_eq_true rfl) dX4_rankWanted_7 ⟨Nat.zero_le _, Nat.zero_le _⟩ hK hP hS [0, 1, 2, 3, 4, 5] rfl (q0 := 0) (ci := 4) rfl rfl (fun H locs hP hS => ?_)
  refine k_ifeq_b (tgt := 21) F dX4_rankWanted_10 (by decide) (fun h10 => ?_) (fun h10 => ?_)
  · skip
    refine lv_aload_n F.1 F.2.1 dX4_rankWanted_21 rfl (lv_at hl 0 rfl) ?_
    refine lv_iconst (v := nI 1) F.1 F.2.1 dX4_rankWanted_22 (by decide) ?_
    refine k_mI (n := 1) (rest := []) (v := nI 0) F (c_X4_fail l D cI u S (nI 0) K (nI 1)) gX4_rankWanted_X4_fail rfl (by decide +kernel) ⟨Nat.le_of_ble_eq_true rfl, Nat.le_of_ble_eq_true rfl⟩ rfl hl.1 rfl (Nat.le_of_ble_eq_true rfl) dX4_rankWanted_23 ⟨Nat.zero_le _, Nat.zero_le _⟩ hK hP hD hS [0, 1, 2, 3, 4, 5] rfl rfl rfl (wMo cI u S (nI 1) K) wMo_ms wMo_ad (q0 := 0) (ci := 4) rfl rfl (fun H locs hP hD hS => ?_)
    have e9 : r1 (S 0 2) x1 (oI (rkN S (cl x1) 10)) = (1, nI 0) := r1_n h10
    exact k_retMI F hr hlk hP (by rw [e9]) hS (by rw [e9]) rfl dX4_rankWanted_26
  · skip
    obtain ⟨g1, hg1, rfl⟩ := lt_nI (by omega) h10
    refine lv_aload_n F.1 F.2.1 dX4_rankWanted_13 rfl (lv_at hl 0 rfl) ?_
    refine lv_iload_n F.1 F.2.1 dX4_rankWanted_14 rfl (lv_at hl 1 rfl) ?_
    refine k_pV (n := 1) (rest := []) (v := oI (rkN S g1 10)) F (c_X4_ranked l D cI u S (nI 0) K g1 hI (by first | assumption | omega)) gX4_rankWanted_X4_ranked rfl (by decide +kernel) ⟨Nat.le_of_ble_eq_true rfl, Nat.le_of_ble_eq_true rfl⟩ rfl hl.1 rfl (Nat.le_of_ble_eq_true rfl) dX4_rankWanted_15 ⟨Nat.zero_le _, Nat.zero_le _⟩ hK hP hS [0, 1, 2, 3, 4, 5] rfl (q0 := 0) (ci := 4) rfl rfl (fun H locs hP hS => ?_)
    refine lv_goto (tgt := 26) F.1 F.2.1 dX4_rankWanted_18 (by decide) ?_
    have e9 : r1 (S 0 2) (nI g1) (oI (rkN S (cl (nI g1)) 10)) = (0, (oI (rkN S g1 10))) := by rw [cl_nI (show g1 < 2 ^ 31 by omega)]; exact r1_y h10
    exact k_retMI F hr hlk hP (by rw [e9]) hS (by rw [e9]) rfl dX4_rankWanted_26
theorem nX4_firstBar_X4 : ∀ x ∈ wsX40, x ∈ wsX4_firstBar := fun _ h => List.mem_cons_of_mem _ (List.mem_append_right _ h)
set_option maxRecDepth 100000 in
set_option maxHeartbeats 4000000 in
theorem c_X4_firstBar (l : Launch) (D : va_G) (cI : ClassId) (u : Nat → Nat) (S : Nat → Nat → Nat) (th : Int32) (K : Nat → Nat) (x1 : Int32) (x2 : Int32) (hI : Inv S) : MI l yX4_firstBar wsX4_firstBar 3 68 D [(cI, .int)] [.ref (u 0), .int x1, .int x2] (wMo cI u S th K) (wMo cI u S (nI (rBar S x1 x2).1) K) ((rBar S x1 x2).2) := by
  refine k_bodyM (cc := cX4_firstBar) (maxL := 4) (ret := (some .int)) (by decide) rfl (Nat.le_of_ble_eq_true rfl) ?_
  intro p e s m args below meth c H ls F hr hlk hl hP hK hD hS
  have F : CallFix p m c cX4_firstBar 4 s args wsX4_firstBar RX4 := F
  have hl : lv_has ls 4 [(0, .ref (u 0)), (1, .int x1), (2, .int x2)] := hl
  have hi0 := hI.gates
  have hi1 := hI.geese
  have hi2 := hI.guests
  refine lv_aload_n F.1 F.2.1 dX4_firstBar_0 rfl (lv_at hl 0 rfl) ?_
  refine lv_iconst (v := nI 0) F.1 F.2.1 dX4_firstBar_1 (by decide) ?_
  refine k_put F nX4_firstBar_X4 tyX4 tyX4_ok nmX4 hK.1 hP hD hS 0 rfl rfl 0 (by decide) (List.mem_of_getElem? (i := 1) rfl) rfl (by decide +kernel) (Nat.le_of_ble_eq_true rfl) dX4_firstBar_2 (wMo cI u S (nI 0) K) wMo_f0 (fun H locs hP hD hS => ?_)
  refine lv_iload_n F.1 F.2.1 dX4_firstBar_5 rfl (lv_at hl 1 rfl) ?_
  refine lv_iconst (v := nI 0) F.1 F.2.1 dX4_firstBar_6 (by decide) ?_
  refine lv_bipush (v := nI 9) F.1 F.2.1 dX4_firstBar_7 (by decide) ?_
  refine k_pS (n := 3) (rest := []) (v := bI ((nI 0) ≤ x1 ∧ x1 ≤ (nI 9))) F (c_X4_isIn l D cI x1 (nI 0) (nI 9)) gX4_firstBar_X4_isIn rfl (by decide +kernel) ⟨Nat.le_of_ble_eq_true rfl, Nat.le_of_ble_eq_true rfl⟩ rfl hl.1 rfl (Nat.le_of_ble_eq_true rfl) dX4_firstBar_9 ⟨Nat.zero_le _, Nat.zero_le _⟩ hK hP hS (fun H locs hP hS => ?_)
  refine k_ifeq_b (tgt := 25) F dX4_firstBar_12 (by decide) (fun h12 => ?_) (fun h12 => ?_)
  · skip
    refine lv_aload_n F.1 F.2.1 dX4_firstBar_25 rfl (lv_at hl 0 rfl) ?_
    refine lv_iconst (v := nI 1) F.1 F.2.1 dX4_firstBar_26 (by decide) ?_
    refine k_mI (n := 1) (rest := []) (v := nI 0) F (c_X4_fail l D cI u S (nI 0) K (nI 1)) gX4_firstBar_X4_fail rfl (by decide +kernel) ⟨Nat.le_of_ble_eq_true rfl, Nat.le_of_ble_eq_true rfl⟩ rfl hl.1 rfl (Nat.le_of_ble_eq_true rfl) dX4_firstBar_27 ⟨Nat.zero_le _, Nat.zero_le _⟩ hK hP hD hS [0, 1, 2, 3, 4, 5] rfl rfl rfl (wMo cI u S (nI 1) K) wMo_ms wMo_ad (q0 := 0) (ci := 4) rfl rfl (fun H locs hP hD hS => ?_)
    have e9 : rBar S x1 x2 = (1, nI 0) := by unfold rBar; rw [if_neg (fun q => h12 q.1)]
    exact k_retMI F hr hlk hP (by rw [e9]) hS (by rw [e9]) rfl dX4_firstBar_30
  · skip
    refine lv_iload_n F.1 F.2.1 dX4_firstBar_15 rfl (lv_at hl 2 rfl) ?_
    refine lv_iconst (v := nI 0) F.1 F.2.1 dX4_firstBar_16 (by decide) ?_
    refine lv_bipush (v := nI 20) F.1 F.2.1 dX4_firstBar_17 (by decide) ?_
    refine k_pS (n := 3) (rest := []) (v := bI ((nI 0) ≤ x2 ∧ x2 ≤ (nI 20))) F (c_X4_isIn l D cI x2 (nI 0) (nI 20)) gX4_firstBar_X4_isIn rfl (by decide +kernel) ⟨Nat.le_of_ble_eq_true rfl, Nat.le_of_ble_eq_true rfl⟩ rfl hl.1 rfl (Nat.le_of_ble_eq_true rfl) dX4_firstBar_19 ⟨Nat.zero_le _, Nat.zero_le _⟩ hK hP hS (fun H locs hP hS => ?_)
    refine k_ifne_b (tgt := 31) F dX4_firstBar_22 (by decide) (fun h22 => ?_) (fun h22 => ?_)
    · skip
      obtain ⟨g1, hg1, rfl⟩ := in_nI (by decide) h12 (by decide)
      obtain ⟨g2, hg2, rfl⟩ := in_nI (by decide) h22 (by decide)
      refine lv_iconst (v := nI 0) F.1 F.2.1 dX4_firstBar_31 (by decide) ?_
      refine lv_istore_n (lv' := [(3, .int (nI 0)), (0, .ref (u 0)), (1, .int (nI g1)), (2, .int (nI g2))]) F.1 F.2.1 dX4_firstBar_32 rfl hl (by decide) rfl (fun ls hl => ?_)
      have loop33 : ∀ (n : Nat) (i : Nat), i ≤ S 0 0 → S 0 0 + 1 ≤ i + n → (fbN S g1 g2 i = 0) → ∀ (H : Heap) (locs : List Loc) (ls : Array Slot), va_P D vwCl (wMo cI u S (nI 0) K) H → va_D (va_B (wMo cI u S th K)) (wMo cI u S (nI 0) K) → va_S (va_B (wMo cI u S th K)) s.heap H locs → lv_has ls 4 [(0, .ref (u 0)), (1, .int (nI g1)), (2, .int (nI g2)), (3, .int (nI i))] → W p l e (rmN 3 68) s m args below meth c H locs 0 0 (QMI below args s D (wMo cI u S th K) (wMo cI u S (nI (rBar S (nI g1) (nI g2)).1) K) ((rBar S (nI g1) (nI g2)).2)) (F0 m 33 ls []) := by
        intro n
        induction n with
        | zero => intro i hi hn; exact absurd hn (by omega)
        | succ n ih33 =>
          intro i hi hn hz H locs ls hP hD hS hl
          refine lv_iload_n F.1 F.2.1 dX4_firstBar_33 rfl (lv_at hl 3 rfl) ?_
          refine lv_aload_n F.1 F.2.1 dX4_firstBar_34 rfl (lv_at hl 0 rfl) ?_
          refine k_get (v := .int (nI (S 0 0))) F nX4_firstBar_X4 hK.1 hP 0 rfl rfl 1 (by decide) (List.mem_of_getElem? (i := 2) rfl) rfl dX4_firstBar_35 ?_
          refine k_icmp_ge (tgt := 59) F (by omega) (by omega) dX4_firstBar_38 (by decide) (fun h38 => ?_) (fun h38 => ?_)
          · skip
            refine lv_iconst (v := (-1)) F.1 F.2.1 dX4_firstBar_59 (by decide) ?_
            have e9 : rBar S (nI g1) (nI g2) = (0, oI (fbN S g1 g2 (S 0 0))) := by unfold rBar; rw [cl_nI (show g1 < 2 ^ 31 by omega), cl_nI (show g2 < 2 ^ 31 by omega), if_pos ⟨h12, h22⟩]
            exact k_retMI F hr hlk hP (by rw [e9]) hS (by rw [e9, show S 0 0 = i by omega, hz]; exact oI_0.symm) rfl dX4_firstBar_60
          · skip
            refine lv_aload_n F.1 F.2.1 dX4_firstBar_41 rfl (lv_at hl 0 rfl) ?_
            refine lv_iload_n F.1 F.2.1 dX4_firstBar_42 rfl (lv_at hl 3 rfl) ?_
            refine lv_iload_n F.1 F.2.1 dX4_firstBar_43 rfl (lv_at hl 1 rfl) ?_
            refine k_pV (n := 2) (rest := []) (v := nI (hisG S i g1)) F (c_X4_hiss l D cI u S (nI 0) K i g1 hI (by first | assumption | omega) (by first | assumption | omega)) gX4_firstBar_X4_hiss rfl (by decide +kernel) ⟨Nat.le_of_ble_eq_true rfl, Nat.le_of_ble_eq_true rfl⟩ rfl hl.1 rfl (Nat.le_of_ble_eq_true rfl) dX4_firstBar_44 ⟨Nat.zero_le _, Nat.zero_le _⟩ hK hP hS [0, 1, 2, 3, 4, 5] rfl (q0 := 0) (ci := 4) rfl rfl (fun H locs hP hS => ?_)
            refine lv_iload_n F.1 F.2.1 dX4_firstBar_47 rfl (lv_at hl 2 rfl) ?_
            have hh9 := hisG_le hI i g1
            refine k_icmp_le (tgt := 53) F (by omega) (by omega) dX4_firstBar_48 (by decide) (fun h48 => ?_) (fun h48 => ?_)
            · skip
              refine k_inc (k := 3) (lv' := [(3, .int (nI (i + 1))), (0, .ref (u 0)), (1, .int (nI g1)), (2, .int (nI g2))]) F dX4_firstBar_53 hl rfl (by decide) rfl (fun ls hl => ?_)
              refine lv_goto (tgt := 33) F.1 F.2.1 dX4_firstBar_56 (by decide) ?_
              exact ih33 (i + 1) (by omega) (by omega) (fst_no hz (Nat.not_lt.mpr h48)) _ _ _ hP hD hS (lv_sub hl [1, 2, 3, 0] rfl)
            · skip
              refine lv_iload_n F.1 F.2.1 dX4_firstBar_51 rfl (lv_at hl 3 rfl) ?_
              have e9 : rBar S (nI g1) (nI g2) = (0, oI (fbN S g1 g2 (S 0 0))) := by unfold rBar; rw [cl_nI (show g1 < 2 ^ 31 by omega), cl_nI (show g2 < 2 ^ 31 by omega), if_pos ⟨h12, h22⟩]
              exact k_retMI F hr hlk hP (by rw [e9]) hS (by rw [e9]; exact (oI_succ i).symm.trans (congrArg oI (fb_hit hz (Nat.not_le.mp h48) (by omega)).symm)) rfl dX4_firstBar_52
      exact loop33 ((S 0 0) + 1) 0 (by omega) (by omega) rfl _ _ _ hP hD hS (lv_sub hl [1, 2, 3, 0] rfl)
    · skip
      refine lv_aload_n F.1 F.2.1 dX4_firstBar_25 rfl (lv_at hl 0 rfl) ?_
      refine lv_iconst (v := nI 1) F.1 F.2.1 dX4_firstBar_26 (by decide) ?_
      refine k_mI (n := 1) (rest := []) (v := nI 0) F (c_X4_fail l D cI u S (nI 0) K (nI 1)) gX4_firstBar_X4_fail rfl (by decide +kernel) ⟨Nat.le_of_ble_eq_true rfl, Nat.le_of_ble_eq_true rfl⟩ rfl hl.1 rfl (Nat.le_of_ble_eq_true rfl) dX4_firstBar_27 ⟨Nat.zero_le _, Nat.zero_le _⟩ hK hP hD hS [0, 1, 2, 3, 4, 5] rfl rfl rfl (wMo cI u S (nI 1) K) wMo_ms wMo_ad (q0 := 0) (ci := 4) rfl rfl (fun H locs hP hD hS => ?_)
      have e9 : rBar S x1 x2 = (1, nI 0) := by unfold rBar; rw [if_neg (fun q => h22 q.2)]
      exact k_retMI F hr hlk hP (by rw [e9]) hS (by rw [e9]) rfl dX4_firstBar_30
theorem nX4_meanTemper_X4 : ∀ x ∈ wsX40, x ∈ wsX4_meanTemper := fun _ h => List.mem_cons_of_mem _ (List.mem_append_right _ h)
set_option maxRecDepth 100000 in
set_option maxHeartbeats 4000000 in
theorem c_X4_meanTemper (l : Launch) (D : va_G) (cI : ClassId) (u : Nat → Nat) (S : Nat → Nat → Nat) (th : Int32) (K : Nat → Nat) (hI : Inv S) : MD l yX4_meanTemper wsX4_meanTemper 1 22 D [(cI, .int)] [.ref (u 0)] (wMo cI u S th K) (wMo cI u S (nI 0) K) (meanD S) := by
  refine k_bodyM (cc := cX4_meanTemper) (maxL := 3) (ret := (some .double)) (by decide) rfl (Nat.le_of_ble_eq_true rfl) ?_
  intro p e s m args below meth c H ls F hr hlk hl hP hK hD hS
  have F : CallFix p m c cX4_meanTemper 3 s args wsX4_meanTemper RX4 := F
  have hl : lv_has ls 3 [(0, .ref (u 0))] := hl
  have hi0 := hI.gates
  have hi1 := hI.geese
  have hi2 := hI.guests
  refine lv_aload_n F.1 F.2.1 dX4_meanTemper_0 rfl (lv_at hl 0 rfl) ?_
  refine lv_iconst (v := nI 0) F.1 F.2.1 dX4_meanTemper_1 (by decide) ?_
  refine k_put F nX4_meanTemper_X4 tyX4 tyX4_ok nmX4 hK.1 hP hD hS 0 rfl rfl 0 (by decide) (List.mem_of_getElem? (i := 1) rfl) rfl (by decide +kernel) (Nat.le_of_ble_eq_true rfl) dX4_meanTemper_2 (wMo cI u S (nI 0) K) wMo_f0 (fun H locs hP hD hS => ?_)
  refine lv_iconst (v := nI 0) F.1 F.2.1 dX4_meanTemper_5 (by decide) ?_
  refine lv_istore_n (lv' := [(1, .int (nI 0)), (0, .ref (u 0))]) F.1 F.2.1 dX4_meanTemper_6 rfl hl (by decide) rfl (fun ls hl => ?_)
  refine lv_iconst (v := nI 0) F.1 F.2.1 dX4_meanTemper_7 (by decide) ?_
  refine lv_istore_n (lv' := [(2, .int (nI 0)), (1, .int (nI 0)), (0, .ref (u 0))]) F.1 F.2.1 dX4_meanTemper_8 rfl hl (by decide) rfl (fun ls hl => ?_)
  have loop9 : ∀ (n : Nat) (i : Nat), i ≤ S 0 1 → S 0 1 + 1 ≤ i + n → ∀ (H : Heap) (locs : List Loc) (ls : Array Slot), va_P D vwCl (wMo cI u S (nI 0) K) H → va_D (va_B (wMo cI u S th K)) (wMo cI u S (nI 0) K) → va_S (va_B (wMo cI u S th K)) s.heap H locs → lv_has ls 3 [(0, .ref (u 0)), (1, .int (nI (sumN S i))), (2, .int (nI i))] → W p l e (rmN 1 22) s m args below meth c H locs 0 0 (QMD below args s D (wMo cI u S th K) (wMo cI u S (nI 0) K) (meanD S)) (F0 m 9 ls []) := by
    intro n
    induction n with
    | zero => intro i hi hn; exact absurd hn (by omega)
    | succ n ih9 =>
      intro i hi hn  H locs ls hP hD hS hl
      refine lv_iload_n F.1 F.2.1 dX4_meanTemper_9 rfl (lv_at hl 2 rfl) ?_
      refine lv_aload_n F.1 F.2.1 dX4_meanTemper_10 rfl (lv_at hl 0 rfl) ?_
      refine k_get (v := .int (nI (S 0 1))) F nX4_meanTemper_X4 hK.1 hP 0 rfl rfl 2 (by decide) (List.mem_of_getElem? (i := 2) rfl) rfl dX4_meanTemper_11 ?_
      refine k_icmp_ge (tgt := 32) F (by omega) (by omega) dX4_meanTemper_14 (by decide) (fun h14 => ?_) (fun h14 => ?_)
      · skip
        refine lv_aload_n F.1 F.2.1 dX4_meanTemper_32 rfl (lv_at hl 0 rfl) ?_
        refine k_get (v := .int (nI (S 0 1))) F nX4_meanTemper_X4 hK.1 hP 0 rfl rfl 2 (by decide) (List.mem_of_getElem? (i := 2) rfl) rfl dX4_meanTemper_33 ?_
        refine k_if_ne (tgt := 43) F (by omega) dX4_meanTemper_36 (by decide) (fun h36 => ?_) (fun h36 => ?_)
        · skip
          refine lv_iload_n F.1 F.2.1 dX4_meanTemper_43 rfl (lv_at hl 1 rfl) ?_
          refine lv_i2d F.1 F.2.1 dX4_meanTemper_44 ?_
          refine lv_aload_n F.1 F.2.1 dX4_meanTemper_45 rfl (lv_at hl 0 rfl) ?_
          refine k_get (v := .int (nI (S 0 1))) F nX4_meanTemper_X4 hK.1 hP 0 rfl rfl 2 (by decide) (List.mem_of_getElem? (i := 2) rfl) rfl dX4_meanTemper_46 ?_
          refine lv_i2d F.1 F.2.1 dX4_meanTemper_49 ?_
          refine lv_ddiv F.1 F.2.1 dX4_meanTemper_50 (by rw [show i = S 0 1 by omega]; exact mean_ok (by have := sumN_le S hI.mood (S 0 1); omega) hi1 h36) ?_
          exact k_retMD F hr hlk hP rfl hS (by unfold meanD; rw [if_neg h36, show i = S 0 1 by omega]) dX4_meanTemper_51
        · skip
          refine lv_dconst0 F.1 F.2.1 dX4_meanTemper_39 ?_
          refine lv_goto (tgt := 51) F.1 F.2.1 dX4_meanTemper_40 (by decide) ?_
          exact k_retMD F hr hlk hP rfl hS (by unfold meanD; rw [if_pos h36]) dX4_meanTemper_51
      · skip
        refine lv_iload_n F.1 F.2.1 dX4_meanTemper_17 rfl (lv_at hl 1 rfl) ?_
        refine lv_aload_n F.1 F.2.1 dX4_meanTemper_18 rfl (lv_at hl 0 rfl) ?_
        refine lv_iload_n F.1 F.2.1 dX4_meanTemper_19 rfl (lv_at hl 2 rfl) ?_
        refine lv_iconst (v := nI 0) F.1 F.2.1 dX4_meanTemper_20 (by decide) ?_
        refine k_pV (n := 2) (rest := [.int (nI (sumN S i))]) (v := nI (S 3 i)) F (c_X4_go l D cI u S (nI 0) K i 0 (by first | assumption | omega) (by first | assumption | omega)) gX4_meanTemper_X4_go rfl (by decide +kernel) ⟨Nat.le_of_ble_eq_true rfl, Nat.le_of_ble_eq_true rfl⟩ rfl hl.1 rfl (Nat.le_of_ble_eq_true rfl) dX4_meanTemper_21 ⟨Nat.zero_le _, Nat.zero_le _⟩ hK hP hS [0, 1, 2, 3, 4, 5] rfl (q0 := 0) (ci := 4) rfl rfl (fun H locs hP hS => ?_)
        refine k_iadd F dX4_meanTemper_24 ?_
        refine lv_istore_n (lv' := [(1, .int (nI (sumN S i + S 3 i))), (0, .ref (u 0)), (2, .int (nI i))]) F.1 F.2.1 dX4_meanTemper_25 rfl hl (by decide) rfl (fun ls hl => ?_)
        refine k_inc (k := 2) (lv' := [(2, .int (nI (i + 1))), (1, .int (nI (sumN S i + S 3 i))), (0, .ref (u 0))]) F dX4_meanTemper_26 hl rfl (by decide) rfl (fun ls hl => ?_)
        refine lv_goto (tgt := 9) F.1 F.2.1 dX4_meanTemper_29 (by decide) ?_
        have e_1 : (sumN S i + S 3 i) = sumN S (i + 1) := by first | rfl | omega | (simp [*]; done)
        rw [e_1] at hl
        exact ih9 (i + 1) (by omega) (by omega)  _ _ _ hP hD hS (lv_sub hl [2, 1, 0] rfl)
  have e_2 : 0 = sumN S 0 := by first | rfl | omega | (simp [*]; done)
  rw [e_2] at hl
  exact loop9 ((S 0 1) + 1) 0 (by omega) (by omega)  _ _ _ hP hD hS (lv_sub hl [2, 1, 0] rfl)
