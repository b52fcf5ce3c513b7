/-! the words of the trial farm -/
def untS (S : Nat → Nat → Nat) (v : Nat) : Nat → Nat → Nat := beatsN S (waitN S v 60)
def untN (S S2 : Nat → Nat → Nat) : Nat → Nat → Nat → Nat
  | 0 => S2
  | i + 1 => untS S i
theorem untN_s {S S2 : Nat → Nat → Nat} {i : Nat} : untS S i = untN S S2 (i + 1) := rfl
def cwT (S S2 : Nat → Nat → Nat) (v : Nat) : Nat → Nat → Nat → Nat
  | 0 => S2
  | i + 1 => beatsN (setf S 8 v i) (waitN (setf S 8 v i) v 40)
theorem cwT_s {S S2 : Nat → Nat → Nat} {v i : Nat} : beatsN (setf S 8 v i) (waitN (setf S 8 v i) v 40) = cwT S S2 v (i + 1) := rfl
def cwE (S : Nat → Nat → Nat) (v : Nat) : Nat := if cwN S v 21 = 0 then 21 else cwN S v 21
theorem cw_hit2 {S : Nat → Nat → Nat} {v i m : Nat} (h : cwN S v i = 0) (hP : ¬ arrI (setf S 8 v i) v 40 = -1) (hm : i < m) : cwN S v m = i + 1 := fst_hit h hP hm
theorem cwE_hit {S : Nat → Nat → Nat} {v i : Nat} (h : cwN S v i = 0) (hP : ¬ arrI (setf S 8 v i) v 40 = -1) (hm : i < 21) : cwE S v = i + 1 := by
  unfold cwE
  rw [cw_hit2 h hP hm, if_neg (Nat.succ_ne_zero i)]
theorem cwE_no {S : Nat → Nat → Nat} {v : Nat} (h : cwN S v 21 = 0) : cwE S v = 21 := if_pos h
theorem bI_l1 {b : Prop} [Decidable b] (h : b) : (1 : Int64) = (bI b).toInt64 := by
  show _ = (if b then (1 : Int32) else 0).toInt64
  rw [if_pos h]
  first | rfl | decide
theorem bI_l0 {b : Prop} [Decidable b] (h : ¬ b) : (0 : Int64) = (bI b).toInt64 := by
  show _ = (if b then (1 : Int32) else 0).toInt64
  rw [if_neg h]
  first | rfl | decide
def ldL (S : Nat → Nat → Nat) (n : Nat) : Int32 := if (ldN S n).1 = 0 then -1 else nI (ldN S n).2
set_option maxRecDepth 100000 in
set_option maxHeartbeats 4000000 in
theorem c_X3_isWithin (l : Launch) (D : va_G) (cI : ClassId)  (x : Int32) (y : Int32) (z : Int32) : PI l yX3_isWithin wsX3_isWithin 0 0 D [(cI, .int)] [.int x, .int y, .int z] [] (bI (y ≤ x ∧ x ≤ z)) := by
  refine k_bodyP (cc := cX3_isWithin) (maxL := 3) (ret := (some .boolean)) (by decide) rfl (Nat.le_of_ble_eq_true rfl) ?_
  intro p e s m args below meth c H ls F hr hlk hl hP hK hS
  have F : CallFix p m c cX3_isWithin 3 s args wsX3_isWithin RX3 := F
  have hl : lv_has ls 3 [(0, .int x), (1, .int y), (2, .int z)] := hl
  refine lv_iload_n F.1 F.2.1 dX3_isWithin_0 rfl (lv_at hl 0 rfl) ?_
  refine lv_iload_n F.1 F.2.1 dX3_isWithin_1 rfl (lv_at hl 1 rfl) ?_
  refine lv_icmp_lt (tgt := 14) F.1 F.2.1 dX3_isWithin_2 (by decide) (fun h2 => ?_) (fun h2 => ?_)
  · skip
    refine lv_iconst (v := nI 0) F.1 F.2.1 dX3_isWithin_14 (by decide) ?_
    exact k_retP F hr hlk hS (fin0 (by first | exact fun q => absurd h2 (Int32.not_lt.mpr q.1) | exact fun q => absurd h7 (Int32.not_lt.mpr q.2))) (by first | rfl | (split <;> rfl)) dX3_isWithin_15
  · skip
    refine lv_iload_n F.1 F.2.1 dX3_isWithin_5 rfl (lv_at hl 0 rfl) ?_
    refine lv_iload_n F.1 F.2.1 dX3_isWithin_6 rfl (lv_at hl 2 rfl) ?_
    refine lv_icmp_gt (tgt := 14) F.1 F.2.1 dX3_isWithin_7 (by decide) (fun h7 => ?_) (fun h7 => ?_)
    · skip
      refine lv_iconst (v := nI 0) F.1 F.2.1 dX3_isWithin_14 (by decide) ?_
      exact k_retP F hr hlk hS (fin0 (by first | exact fun q => absurd h2 (Int32.not_lt.mpr q.1) | exact fun q => absurd h7 (Int32.not_lt.mpr q.2))) (by first | rfl | (split <;> rfl)) dX3_isWithin_15
    · skip
      refine lv_iconst (v := nI 1) F.1 F.2.1 dX3_isWithin_10 (by decide) ?_
      refine lv_goto (tgt := 15) F.1 F.2.1 dX3_isWithin_11 (by decide) ?_
      exact k_retP F hr hlk hS (fin1 (by exact ⟨Int32.not_lt.mp h2, Int32.not_lt.mp h7⟩)) (by first | rfl | (split <;> rfl)) dX3_isWithin_15
set_option maxRecDepth 100000 in
set_option maxHeartbeats 4000000 in
theorem c_X3_isRank (l : Launch) (D : va_G) (cI : ClassId)  (x : Int32) : PI l yX3_isRank wsX3_isRank 1 22 D [(cI, .int)] [.int x] [] (bI (nI 0 ≤ x ∧ x ≤ nI 9)) := by
  refine k_bodyP (cc := cX3_isRank) (maxL := 1) (ret := (some .boolean)) (by decide) rfl (Nat.le_of_ble_eq_true rfl) ?_
  intro p e s m args below meth c H ls F hr hlk hl hP hK hS
  have F : CallFix p m c cX3_isRank 1 s args wsX3_isRank RX3 := F
  have hl : lv_has ls 1 [(0, .int x)] := hl
  refine lv_iload_n F.1 F.2.1 dX3_isRank_0 rfl (lv_at hl 0 rfl) ?_
  refine lv_iconst (v := nI 0) F.1 F.2.1 dX3_isRank_1 (by decide) ?_
  refine lv_bipush (v := nI 9) F.1 F.2.1 dX3_isRank_2 (by decide) ?_
  refine k_pS (n := 3) (rest := []) (v := bI ((nI 0) ≤ x ∧ x ≤ (nI 9))) F (c_X3_isWithin l D cI x (nI 0) (nI 9)) gX3_isRank_X3_isWithin rfl (by decide +kernel) ⟨Nat.le_of_ble_eq_true rfl, Nat.le_of_ble_eq_true rfl⟩ rfl hl.1 rfl (Nat.le_of_ble_eq_true rfl) dX3_isRank_4 ⟨Nat.zero_le _, Nat.zero_le _⟩ hK hP hS (fun H locs hP hS => ?_)
  exact k_retP F hr hlk hS rfl narB dX3_isRank_7
set_option maxRecDepth 100000 in
set_option maxHeartbeats 4000000 in
theorem c_X3_isNerve (l : Launch) (D : va_G) (cI : ClassId)  (x : Int32) : PI l yX3_isNerve wsX3_isNerve 1 22 D [(cI, .int)] [.int x] [] (bI (nI 0 ≤ x ∧ x ≤ nI 20)) := by
  refine k_bodyP (cc := cX3_isNerve) (maxL := 1) (ret := (some .boolean)) (by decide) rfl (Nat.le_of_ble_eq_true rfl) ?_
  intro p e s m args below meth c H ls F hr hlk hl hP hK hS
  have F : CallFix p m c cX3_isNerve 1 s args wsX3_isNerve RX3 := F
  have hl : lv_has ls 1 [(0, .int x)] := hl
  refine lv_iload_n F.1 F.2.1 dX3_isNerve_0 rfl (lv_at hl 0 rfl) ?_
  refine lv_iconst (v := nI 0) F.1 F.2.1 dX3_isNerve_1 (by decide) ?_
  refine lv_bipush (v := nI 20) F.1 F.2.1 dX3_isNerve_2 (by decide) ?_
  refine k_pS (n := 3) (rest := []) (v := bI ((nI 0) ≤ x ∧ x ≤ (nI 20))) F (c_X3_isWithin l D cI x (nI 0) (nI 20)) gX3_isNerve_X3_isWithin rfl (by decide +kernel) ⟨Nat.le_of_ble_eq_true rfl, Nat.le_of_ble_eq_true rfl⟩ rfl hl.1 rfl (Nat.le_of_ble_eq_true rfl) dX3_isNerve_4 ⟨Nat.zero_le _, Nat.zero_le _⟩ hK hP hS (fun H locs hP hS => ?_)
  exact k_retP F hr hlk hS rfl narB dX3_isNerve_7
set_option maxRecDepth 100000 in
set_option maxHeartbeats 4000000 in
theorem c_X3_isBeats (l : Launch) (D : va_G) (cI : ClassId)  (x : Int32) : PI l yX3_isBeats wsX3_isBeats 1 22 D [(cI, .int)] [.int x] [] (bI (nI 1 ≤ x ∧ x ≤ nI 60)) := by
  refine k_bodyP (cc := cX3_isBeats) (maxL := 1) (ret := (some .boolean)) (by decide) rfl (Nat.le_of_ble_eq_true rfl) ?_
  intro p e s m args below meth c H ls F hr hlk hl hP hK hS
  have F : CallFix p m c cX3_isBeats 1 s args wsX3_isBeats RX3 := F
  have hl : lv_has ls 1 [(0, .int x)] := hl
  refine lv_iload_n F.1 F.2.1 dX3_isBeats_0 rfl (lv_at hl 0 rfl) ?_
  refine lv_iconst (v := nI 1) F.1 F.2.1 dX3_isBeats_1 (by decide) ?_
  refine lv_bipush (v := nI 60) F.1 F.2.1 dX3_isBeats_2 (by decide) ?_
  refine k_pS (n := 3) (rest := []) (v := bI ((nI 1) ≤ x ∧ x ≤ (nI 60))) F (c_X3_isWithin l D cI x (nI 1) (nI 60)) gX3_isBeats_X3_isWithin rfl (by decide +kernel) ⟨Nat.le_of_ble_eq_true rfl, Nat.le_of_ble_eq_true rfl⟩ rfl hl.1 rfl (Nat.le_of_ble_eq_true rfl) dX3_isBeats_4 ⟨Nat.zero_le _, Nat.zero_le _⟩ hK hP hS (fun H locs hP hS => ?_)
  exact k_retP F hr hlk hS rfl narB dX3_isBeats_7
theorem nX3_demandGoose_X0 : ∀ x ∈ wsX00, x ∈ wsX3_demandGoose := fun _ h => List.mem_cons_of_mem _ (List.mem_append_left _ (List.mem_append_left _ (List.mem_append_right _ h)))
theorem nX3_demandGoose_X3 : ∀ x ∈ wsX30, x ∈ wsX3_demandGoose := fun _ h => List.mem_cons_of_mem _ (List.mem_append_left _ (List.mem_append_left _ (List.mem_append_left _ (List.mem_append_right _ h))))
set_option maxRecDepth 100000 in
set_option maxHeartbeats 4000000 in
theorem c_X3_demandGoose (l : Launch) (D : va_G) (cI : ClassId) (hst : l.stackTraces = false) (a b : Nat → Nat) (S S2 : Nat → Nat → Nat) (x : Int32) : TD l yX3_demandGoose wsX3_demandGoose 7 115 D [(cI, .int)] [.ref (a 13), .int x] (wCo cI a b S S2) (okI (S 0 1) x) "java/lang/IndexOutOfBoundsException" := by
  refine k_bodyT (cc := cX3_demandGoose) (maxL := 2) (ret := none) (by decide) rfl (Nat.le_of_ble_eq_true rfl) ?_
  intro p e s m args below meth c ls F hr hlk hl hP hK hD hX ht
  have hS : va_S (fun _ => False) s.heap s.heap [] := va_S.rf
  have F : CallFix p m c cX3_demandGoose 2 s args wsX3_demandGoose RX3 := F
  have hl : lv_has ls 2 [(0, .ref (a 13)), (1, .int x)] := hl
  refine lv_aload_n F.1 F.2.1 dX3_demandGoose_0 rfl (lv_at hl 0 rfl) ?_
  refine k_get (v := .ref (a 0)) F nX3_demandGoose_X3 hK.1 hP 0 rfl rfl 0 (by decide) (List.mem_of_getElem? (i := 1) rfl) rfl dX3_demandGoose_1 ?_
  refine k_get (v := .ref (a 2)) F nX3_demandGoose_X0 hK.1 hP 1 rfl rfl 2 (by decide) (List.mem_of_getElem? (i := 2) rfl) rfl dX3_demandGoose_4 ?_
  refine lv_iload_n F.1 F.2.1 dX3_demandGoose_7 rfl (lv_at hl 1 rfl) ?_
  refine k_pV (n := 1) (rest := []) (v := bI (0 ≤ x ∧ x < nI (S 0 1))) F (c_X1_hasGoose l D cI a S x) gX3_demandGoose_X1_hasGoose rfl (by decide +kernel) ⟨Nat.le_of_ble_eq_true rfl, Nat.le_of_ble_eq_true rfl⟩ rfl hl.1 rfl (Nat.le_of_ble_eq_true rfl) dX3_demandGoose_8 ⟨show 0 ≤ 1 by omega, show 0 ≤ 6 by omega⟩ hK hP hS [3, 4, 5, 6, 7] rfl (q0 := 3) (ci := 1) rfl rfl (fun H locs hP hS => ?_)
  refine t_demD (n := 1) (rest := []) F (c_X3_demandIndex l D cI hst (0 ≤ x ∧ x < nI (S 0 1))) gX3_demandGoose_X3_demandIndex rfl (by decide +kernel) ⟨Nat.le_of_ble_eq_true rfl, Nat.le_of_ble_eq_true rfl⟩ rfl hl.1 rfl (Nat.le_of_ble_eq_true rfl) dX3_demandGoose_11 ⟨show 0 + 1 ≤ 1 by omega, show 0 + 6 ≤ 6 by omega⟩ hK hX hP hS ht hlk (show 0 + 1 ≤ 1 by omega) (show 0 + 6 ≤ 6 by omega) (fun h11 H locs hS => ?_)
  exact t_retV F hr hlk hS h11 (show 0 + 1 ≤ 1 by omega) (show 0 + 6 ≤ 6 by omega) dX3_demandGoose_14
theorem nX3_demandVisitor_X0 : ∀ x ∈ wsX00, x ∈ wsX3_demandVisitor := fun _ h => List.mem_cons_of_mem _ (List.mem_append_left _ (List.mem_append_left _ (List.mem_append_right _ h)))
theorem nX3_demandVisitor_X3 : ∀ x ∈ wsX30, x ∈ wsX3_demandVisitor := fun _ h => List.mem_cons_of_mem _ (List.mem_append_left _ (List.mem_append_left _ (List.mem_append_left _ (List.mem_append_right _ h))))
set_option maxRecDepth 100000 in
set_option maxHeartbeats 4000000 in
theorem c_X3_demandVisitor (l : Launch) (D : va_G) (cI : ClassId) (hst : l.stackTraces = false) (a b : Nat → Nat) (S S2 : Nat → Nat → Nat) (x : Int32) : TD l yX3_demandVisitor wsX3_demandVisitor 7 115 D [(cI, .int)] [.ref (a 13), .int x] (wCo cI a b S S2) (okI (S 0 2) x) "java/lang/IndexOutOfBoundsException" := by
  refine k_bodyT (cc := cX3_demandVisitor) (maxL := 2) (ret := none) (by decide) rfl (Nat.le_of_ble_eq_true rfl) ?_
  intro p e s m args below meth c ls F hr hlk hl hP hK hD hX ht
  have hS : va_S (fun _ => False) s.heap s.heap [] := va_S.rf
  have F : CallFix p m c cX3_demandVisitor 2 s args wsX3_demandVisitor RX3 := F
  have hl : lv_has ls 2 [(0, .ref (a 13)), (1, .int x)] := hl
  refine lv_aload_n F.1 F.2.1 dX3_demandVisitor_0 rfl (lv_at hl 0 rfl) ?_
  refine k_get (v := .ref (a 0)) F nX3_demandVisitor_X3 hK.1 hP 0 rfl rfl 0 (by decide) (List.mem_of_getElem? (i := 1) rfl) rfl dX3_demandVisitor_1 ?_
  refine k_get (v := .ref (a 7)) F nX3_demandVisitor_X0 hK.1 hP 1 rfl rfl 3 (by decide) (List.mem_of_getElem? (i := 2) rfl) rfl dX3_demandVisitor_4 ?_
  refine lv_iload_n F.1 F.2.1 dX3_demandVisitor_7 rfl (lv_at hl 1 rfl) ?_
  refine k_pV (n := 1) (rest := []) (v := bI (0 ≤ x ∧ x < nI (S 0 2))) F (c_X2_hasGuest l D cI a S x) gX3_demandVisitor_X2_hasGuest rfl (by decide +kernel) ⟨Nat.le_of_ble_eq_true rfl, Nat.le_of_ble_eq_true rfl⟩ rfl hl.1 rfl (Nat.le_of_ble_eq_true rfl) dX3_demandVisitor_8 ⟨show 0 ≤ 1 by omega, show 0 ≤ 6 by omega⟩ hK hP hS [8, 9, 10, 11, 12, 13] rfl (q0 := 8) (ci := 2) rfl rfl (fun H locs hP hS => ?_)
  refine t_demD (n := 1) (rest := []) F (c_X3_demandIndex l D cI hst (0 ≤ x ∧ x < nI (S 0 2))) gX3_demandVisitor_X3_demandIndex rfl (by decide +kernel) ⟨Nat.le_of_ble_eq_true rfl, Nat.le_of_ble_eq_true rfl⟩ rfl hl.1 rfl (Nat.le_of_ble_eq_true rfl) dX3_demandVisitor_11 ⟨show 0 + 1 ≤ 1 by omega, show 0 + 6 ≤ 6 by omega⟩ hK hX hP hS ht hlk (show 0 + 1 ≤ 1 by omega) (show 0 + 6 ≤ 6 by omega) (fun h11 H locs hS => ?_)
  exact t_retV F hr hlk hS h11 (show 0 + 1 ≤ 1 by omega) (show 0 + 6 ≤ 6 by omega) dX3_demandVisitor_14
theorem nX3_addGate_X0 : ∀ x ∈ wsX00, x ∈ wsX3_addGate := fun _ h => List.mem_cons_of_mem _ (List.mem_append_left _ (List.mem_append_left _ (List.mem_append_left _ (List.mem_append_right _ h))))
theorem nX3_addGate_X2 : ∀ x ∈ wsX20, x ∈ wsX3_addGate := fun _ h => List.mem_cons_of_mem _ (List.mem_append_left _ (List.mem_append_left _ (List.mem_append_right _ h)))
theorem nX3_addGate_X3 : ∀ x ∈ wsX30, x ∈ wsX3_addGate := fun _ h => List.mem_cons_of_mem _ (List.mem_append_left _ (List.mem_append_left _ (List.mem_append_left _ (List.mem_append_left _ (List.mem_append_right _ h)))))
set_option maxRecDepth 100000 in
set_option maxHeartbeats 4000000 in
theorem c_X3_addGate (l : Launch) (D : va_G) (cI : ClassId) (hst : l.stackTraces = false) (a b : Nat → Nat) (S S2 : Nat → Nat → Nat) (x1 : Int32) (hI : Inv S) : TI l yX3_addGate wsX3_addGate 7 2 115 D [(cI, .int)] [.ref (a 13), .int x1] (wCo cI a b S S2) (wCo cI a b ((rAddGate S x1).2.2) S2) (exq ["java/lang/IllegalArgumentException", "java/lang/IllegalStateException"] (rAddGate S x1).1) ((rAddGate S x1).2.1) := by
  refine k_bodyX (cc := cX3_addGate) (maxL := 2) (ret := (some .int)) (by decide) rfl (Nat.le_of_ble_eq_true rfl) ?_
  intro p e s m args below meth c H ls F hr hlk hl hP hK hD hS hX ht
  have F : CallFix p m c cX3_addGate 2 s args wsX3_addGate RX3 := F
  have hl : lv_has ls 2 [(0, .ref (a 13)), (1, .int x1)] := hl
  have hi0 := hI.gates
  have hi1 := hI.geese
  have hi2 := hI.guests
  refine lv_iload_n F.1 F.2.1 dX3_addGate_0 rfl (lv_at hl 1 rfl) ?_
  refine k_pS (n := 1) (rest := []) (v := bI (nI 0 ≤ x1 ∧ x1 ≤ nI 9)) F (c_X3_isRank l D cI x1) gX3_addGate_X3_isRank rfl (by decide +kernel) ⟨Nat.le_of_ble_eq_true rfl, Nat.le_of_ble_eq_true rfl⟩ rfl hl.1 rfl (Nat.le_of_ble_eq_true rfl) dX3_addGate_1 ⟨show 0 ≤ 2 by omega, show 0 ≤ 12 by omega⟩ hK hP hS (fun H locs hP hS => ?_)
  refine t_demS (n := 1) (rest := []) F (c_X3_demandArgument l D cI hst (nI 0 ≤ x1 ∧ x1 ≤ nI 9)) gX3_addGate_X3_demandArgument rfl (by decide +kernel) ⟨Nat.le_of_ble_eq_true rfl, Nat.le_of_ble_eq_true rfl⟩ rfl hl.1 rfl (Nat.le_of_ble_eq_true rfl) dX3_addGate_4 ⟨show 0 + 1 ≤ 2 by omega, show 0 + 6 ≤ 12 by omega⟩ hK hX hP hS ht hlk (show 0 + 1 ≤ 2 by omega) (show 0 + 6 ≤ 12 by omega) (fun h4 => ?_) (fun h4 H locs hP hS => ?_)
  · skip
    have e9 : rAddGate S x1 = (1, nI 0, S) := by unfold rAddGate; rw [if_neg h4] <;> rfl
    rw [e9]; rfl
  · skip
    obtain ⟨g1, hg1, rfl⟩ := in_nI (by decide) h4 (by decide)
    refine lv_aload_n F.1 F.2.1 dX3_addGate_7 rfl (lv_at hl 0 rfl) ?_
    refine k_get (v := .ref (a 0)) F nX3_addGate_X3 hK.1 hP 0 rfl rfl 0 (by decide) (List.mem_of_getElem? (i := 1) rfl) rfl dX3_addGate_8 ?_
    refine k_get (v := .int (nI (S 0 0))) F nX3_addGate_X0 hK.1 hP 1 rfl rfl 0 (by decide) (List.mem_of_getElem? (i := 2) rfl) rfl dX3_addGate_11 ?_
    refine lv_bipush (v := nI 6) F.1 F.2.1 dX3_addGate_14 (by decide) ?_
    refine k_icmp_ge (tgt := 36) F (by omega) (by omega) dX3_addGate_16 (by decide) (fun h16 => ?_) (fun h16 => ?_)
    · skip
      refine lv_iconst (v := nI 0) F.1 F.2.1 dX3_addGate_36 (by decide) ?_
      refine t_demS (n := 1) (rest := []) F (c_X3_demandState l D cI hst False) gX3_addGate_X3_demandState rfl (by decide +kernel) ⟨Nat.le_of_ble_eq_true rfl, Nat.le_of_ble_eq_true rfl⟩ rfl hl.1 rfl (Nat.le_of_ble_eq_true rfl) dX3_addGate_37 ⟨show 0 + 1 + 1 ≤ 2 by omega, show 0 + 6 + 6 ≤ 12 by omega⟩ hK hX hP hS ht hlk (show 0 + 1 + 1 ≤ 2 by omega) (show 0 + 6 + 6 ≤ 12 by omega) (fun h37 => ?_) (fun h37 H locs hP hS => ?_)
      · skip
        have e9 : rAddGate S (nI g1) = (2, nI 0, S) := by unfold rAddGate; (try rw [cl_nI (show g1 < 2 ^ 31 by omega)]); rw [if_pos h4, if_neg (show ¬ (S 0 0 ≠ 6 ∧ S 0 2 = 0) by omega)] <;> rfl
        rw [e9]; rfl
      · skip
        exact h37.elim
    · skip
      refine lv_aload_n F.1 F.2.1 dX3_addGate_19 rfl (lv_at hl 0 rfl) ?_
      refine k_get (v := .ref (a 0)) F nX3_addGate_X3 hK.1 hP 0 rfl rfl 0 (by decide) (List.mem_of_getElem? (i := 1) rfl) rfl dX3_addGate_20 ?_
      refine k_get (v := .ref (a 7)) F nX3_addGate_X0 hK.1 hP 1 rfl rfl 3 (by decide) (List.mem_of_getElem? (i := 3) rfl) rfl dX3_addGate_23 ?_
      refine k_get (v := .int (nI (S 0 2))) F nX3_addGate_X2 hK.1 hP 8 rfl rfl 0 (by decide) (List.mem_of_getElem? (i := 4) rfl) rfl dX3_addGate_26 ?_
      refine k_if_ne (tgt := 36) F (by omega) dX3_addGate_29 (by decide) (fun h29 => ?_) (fun h29 => ?_)
      · skip
        refine lv_iconst (v := nI 0) F.1 F.2.1 dX3_addGate_36 (by decide) ?_
        refine t_demS (n := 1) (rest := []) F (c_X3_demandState l D cI hst False) gX3_addGate_X3_demandState rfl (by decide +kernel) ⟨Nat.le_of_ble_eq_true rfl, Nat.le_of_ble_eq_true rfl⟩ rfl hl.1 rfl (Nat.le_of_ble_eq_true rfl) dX3_addGate_37 ⟨show 0 + 1 + 1 ≤ 2 by omega, show 0 + 6 + 6 ≤ 12 by omega⟩ hK hX hP hS ht hlk (show 0 + 1 + 1 ≤ 2 by omega) (show 0 + 6 + 6 ≤ 12 by omega) (fun h37 => ?_) (fun h37 H locs hP hS => ?_)
        · skip
          have e9 : rAddGate S (nI g1) = (2, nI 0, S) := by unfold rAddGate; (try rw [cl_nI (show g1 < 2 ^ 31 by omega)]); rw [if_pos h4, if_neg (show ¬ (S 0 0 ≠ 6 ∧ S 0 2 = 0) by omega)] <;> rfl
          rw [e9]; rfl
        · skip
          exact h37.elim
      · skip
        refine lv_iconst (v := nI 1) F.1 F.2.1 dX3_addGate_32 (by decide) ?_
        refine lv_goto (tgt := 37) F.1 F.2.1 dX3_addGate_33 (by decide) ?_
        refine t_demS (n := 1) (rest := []) F (c_X3_demandState l D cI hst True) gX3_addGate_X3_demandState rfl (by decide +kernel) ⟨Nat.le_of_ble_eq_true rfl, Nat.le_of_ble_eq_true rfl⟩ rfl hl.1 rfl (Nat.le_of_ble_eq_true rfl) dX3_addGate_37 ⟨show 0 + 1 + 1 ≤ 2 by omega, show 0 + 6 + 6 ≤ 12 by omega⟩ hK hX hP hS ht hlk (show 0 + 1 + 1 ≤ 2 by omega) (show 0 + 6 + 6 ≤ 12 by omega) (fun h37 => ?_) (fun h37 H locs hP hS => ?_)
        · skip
          exact absurd trivial h37
        · skip
          refine lv_aload_n F.1 F.2.1 dX3_addGate_40 rfl (lv_at hl 0 rfl) ?_
          refine k_get (v := .ref (a 0)) F nX3_addGate_X3 hK.1 hP 0 rfl rfl 0 (by decide) (List.mem_of_getElem? (i := 1) rfl) rfl dX3_addGate_41 ?_
          refine lv_iload_n F.1 F.2.1 dX3_addGate_44 rfl (lv_at hl 1 rfl) ?_
          refine k_mI (n := 1) (rest := []) (v := nI (S 0 0)) F (c_X0_putGate l D cI a S g1 (by first | assumption | omega)) gX3_addGate_X0_putGate rfl (by decide +kernel) ⟨Nat.le_of_ble_eq_true rfl, Nat.le_of_ble_eq_true rfl⟩ rfl hl.1 rfl (Nat.le_of_ble_eq_true rfl) dX3_addGate_45 ⟨show 0 + 1 + 1 ≤ 2 by omega, show 0 + 6 + 6 ≤ 12 by omega⟩ hK hP hD hS [1, 2, 3, 4, 5, 6, 7, 8, 9, 10, 11, 12, 13] wCo_suba rfl rfl (wCo cI a b (setf (setf S 1 (S 0 0) g1) 0 0 (S 0 0 + 1)) S2) wCo_msa wCo_ad (q0 := 1) (ci := 0) rfl rfl (fun H locs hP hD hS => ?_)
          have e9 : rAddGate S (nI g1) = (0, nI (S 0 0), (setf (setf S 1 (S 0 0) g1) 0 0 (S 0 0 + 1))) := by unfold rAddGate; (try rw [cl_nI (show g1 < 2 ^ 31 by omega)]); rw [if_pos h4, if_pos (show S 0 0 ≠ 6 ∧ S 0 2 = 0 by omega)] <;> rfl
          exact t_retI F hr hlk hP (by rw [e9] <;> rfl) hS (by rw [e9]; rfl) (by rw [e9] <;> rfl) rfl (show 0 + 1 + 1 ≤ 2 by omega) (show 0 + 6 + 6 ≤ 12 by omega) dX3_addGate_48
theorem nX3_addGoose_X0 : ∀ x ∈ wsX00, x ∈ wsX3_addGoose := fun _ h => List.mem_cons_of_mem _ (List.mem_append_left _ (List.mem_append_left _ (List.mem_append_left _ (List.mem_append_left _ (List.mem_append_right _ h)))))
theorem nX3_addGoose_X1 : ∀ x ∈ wsX10, x ∈ wsX3_addGoose := fun _ h => List.mem_cons_of_mem _ (List.mem_append_left _ (List.mem_append_left _ (List.mem_append_left _ (List.mem_append_right _ h))))
theorem nX3_addGoose_X3 : ∀ x ∈ wsX30, x ∈ wsX3_addGoose := fun _ h => List.mem_cons_of_mem _ (List.mem_append_left _ (List.mem_append_left _ (List.mem_append_left _ (List.mem_append_left _ (List.mem_append_left _ (List.mem_append_right _ h))))))
set_option maxRecDepth 100000 in
set_option maxHeartbeats 4000000 in
theorem c_X3_addGoose (l : Launch) (D : va_G) (cI : ClassId) (hst : l.stackTraces = false) (a b : Nat → Nat) (S S2 : Nat → Nat → Nat) (x1 : Int32) (x2 : Int32) (hI : Inv S) : TI l yX3_addGoose wsX3_addGoose 7 3 115 D [(cI, .int)] [.ref (a 13), .int x1, .int x2] (wCo cI a b S S2) (wCo cI a b ((rAddGoose S x1 x2).2.2) S2) (exq ["java/lang/IndexOutOfBoundsException", "java/lang/IllegalArgumentException", "java/lang/IllegalStateException"] (rAddGoose S x1 x2).1) ((rAddGoose S x1 x2).2.1) := by
  refine k_bodyX (cc := cX3_addGoose) (maxL := 3) (ret := (some .int)) (by decide) rfl (Nat.le_of_ble_eq_true rfl) ?_
  intro p e s m args below meth c H ls F hr hlk hl hP hK hD hS hX ht
  have F : CallFix p m c cX3_addGoose 3 s args wsX3_addGoose RX3 := F
  have hl : lv_has ls 3 [(0, .ref (a 13)), (1, .int x1), (2, .int x2)] := hl
  have hi0 := hI.gates
  have hi1 := hI.geese
  have hi2 := hI.guests
  refine lv_aload_n F.1 F.2.1 dX3_addGoose_0 rfl (lv_at hl 0 rfl) ?_
  refine k_get (v := .ref (a 0)) F nX3_addGoose_X3 hK.1 hP 0 rfl rfl 0 (by decide) (List.mem_of_getElem? (i := 1) rfl) rfl dX3_addGoose_1 ?_
  refine lv_iload_n F.1 F.2.1 dX3_addGoose_4 rfl (lv_at hl 1 rfl) ?_
  refine k_pV (n := 1) (rest := []) (v := bI (0 ≤ x1 ∧ x1 < nI (S 0 0))) F (c_X0_hasGate l D cI a S x1) gX3_addGoose_X0_hasGate rfl (by decide +kernel) ⟨Nat.le_of_ble_eq_true rfl, Nat.le_of_ble_eq_true rfl⟩ rfl hl.1 rfl (Nat.le_of_ble_eq_true rfl) dX3_addGoose_5 ⟨show 0 ≤ 3 by omega, show 0 ≤ 18 by omega⟩ hK hP hS [1, 2, 3, 4, 5, 6, 7, 8, 9, 10, 11, 12, 13] wCo_suba (q0 := 1) (ci := 0) rfl rfl (fun H locs hP hS => ?_)
  refine t_demS (n := 1) (rest := []) F (c_X3_demandIndex l D cI hst (0 ≤ x1 ∧ x1 < nI (S 0 0))) gX3_addGoose_X3_demandIndex rfl (by decide +kernel) ⟨Nat.le_of_ble_eq_true rfl, Nat.le_of_ble_eq_true rfl⟩ rfl hl.1 rfl (Nat.le_of_ble_eq_true rfl) dX3_addGoose_8 ⟨show 0 + 1 ≤ 3 by omega, show 0 + 6 ≤ 18 by omega⟩ hK hX hP hS ht hlk (show 0 + 1 ≤ 3 by omega) (show 0 + 6 ≤ 18 by omega) (fun h8 => ?_) (fun h8 H locs hP hS => ?_)
  · skip
    have e9 : rAddGoose S x1 x2 = (1, nI 0, S) := by unfold rAddGoose; rw [if_neg h8] <;> rfl
    rw [e9]; rfl
  · skip
    refine lv_iload_n F.1 F.2.1 dX3_addGoose_11 rfl (lv_at hl 2 rfl) ?_
    refine lv_iconst (v := nI 1) F.1 F.2.1 dX3_addGoose_12 (by decide) ?_
    refine lv_bipush (v := nI 9) F.1 F.2.1 dX3_addGoose_13 (by decide) ?_
    refine k_pS (n := 3) (rest := []) (v := bI ((nI 1) ≤ x2 ∧ x2 ≤ (nI 9))) F (c_X3_isWithin l D cI x2 (nI 1) (nI 9)) gX3_addGoose_X3_isWithin rfl (by decide +kernel) ⟨Nat.le_of_ble_eq_true rfl, Nat.le_of_ble_eq_true rfl⟩ rfl hl.1 rfl (Nat.le_of_ble_eq_true rfl) dX3_addGoose_15 ⟨show 0 + 1 ≤ 3 by omega, show 0 + 6 ≤ 18 by omega⟩ hK hP hS (fun H locs hP hS => ?_)
    refine t_demS (n := 1) (rest := []) F (c_X3_demandArgument l D cI hst ((nI 1) ≤ x2 ∧ x2 ≤ (nI 9))) gX3_addGoose_X3_demandArgument rfl (by decide +kernel) ⟨Nat.le_of_ble_eq_true rfl, Nat.le_of_ble_eq_true rfl⟩ rfl hl.1 rfl (Nat.le_of_ble_eq_true rfl) dX3_addGoose_18 ⟨show 0 + 1 + 1 ≤ 3 by omega, show 0 + 6 + 6 ≤ 18 by omega⟩ hK hX hP hS ht hlk (show 0 + 1 + 1 ≤ 3 by omega) (show 0 + 6 + 6 ≤ 18 by omega) (fun h18 => ?_) (fun h18 H locs hP hS => ?_)
    · skip
      have e9 : rAddGoose S x1 x2 = (2, nI 0, S) := by unfold rAddGoose; rw [if_pos h8, if_neg h18] <;> rfl
      rw [e9]; rfl
    · skip
      obtain ⟨g1, hg1, rfl⟩ := lt_nI (by omega) h8
      obtain ⟨g2, hg2, rfl⟩ := in_nI (by decide) h18 (by decide)
      refine lv_aload_n F.1 F.2.1 dX3_addGoose_21 rfl (lv_at hl 0 rfl) ?_
      refine k_get (v := .ref (a 0)) F nX3_addGoose_X3 hK.1 hP 0 rfl rfl 0 (by decide) (List.mem_of_getElem? (i := 1) rfl) rfl dX3_addGoose_22 ?_
      refine k_get (v := .ref (a 2)) F nX3_addGoose_X0 hK.1 hP 1 rfl rfl 2 (by decide) (List.mem_of_getElem? (i := 2) rfl) rfl dX3_addGoose_25 ?_
      refine k_get (v := .int (nI (S 0 1))) F nX3_addGoose_X1 hK.1 hP 3 rfl rfl 0 (by decide) (List.mem_of_getElem? (i := 3) rfl) rfl dX3_addGoose_28 ?_
      refine lv_bipush (v := nI 8) F.1 F.2.1 dX3_addGoose_31 (by decide) ?_
      refine k_icmp_ge (tgt := 40) F (by omega) (by omega) dX3_addGoose_33 (by decide) (fun h33 => ?_) (fun h33 => ?_)
      · skip
        refine lv_iconst (v := nI 0) F.1 F.2.1 dX3_addGoose_40 (by decide) ?_
        refine t_demS (n := 1) (rest := []) F (c_X3_demandState l D cI hst False) gX3_addGoose_X3_demandState rfl (by decide +kernel) ⟨Nat.le_of_ble_eq_true rfl, Nat.le_of_ble_eq_true rfl⟩ rfl hl.1 rfl (Nat.le_of_ble_eq_true rfl) dX3_addGoose_41 ⟨show 0 + 1 + 1 + 1 ≤ 3 by omega, show 0 + 6 + 6 + 6 ≤ 18 by omega⟩ hK hX hP hS ht hlk (show 0 + 1 + 1 + 1 ≤ 3 by omega) (show 0 + 6 + 6 + 6 ≤ 18 by omega) (fun h41 => ?_) (fun h41 H locs hP hS => ?_)
        · skip
          have e9 : rAddGoose S (nI g1) (nI g2) = (3, nI 0, S) := by unfold rAddGoose; (try rw [cl_nI (show g1 < 2 ^ 31 by omega)]); (try rw [cl_nI (show g2 < 2 ^ 31 by omega)]); rw [if_pos h8, if_pos h18, if_neg (show ¬ (S 0 1 ≠ 8) by omega)] <;> rfl
          rw [e9]; rfl
        · skip
          exact h41.elim
      · skip
        refine lv_iconst (v := nI 1) F.1 F.2.1 dX3_addGoose_36 (by decide) ?_
        refine lv_goto (tgt := 41) F.1 F.2.1 dX3_addGoose_37 (by decide) ?_
        refine t_demS (n := 1) (rest := []) F (c_X3_demandState l D cI hst True) gX3_addGoose_X3_demandState rfl (by decide +kernel) ⟨Nat.le_of_ble_eq_true rfl, Nat.le_of_ble_eq_true rfl⟩ rfl hl.1 rfl (Nat.le_of_ble_eq_true rfl) dX3_addGoose_41 ⟨show 0 + 1 + 1 + 1 ≤ 3 by omega, show 0 + 6 + 6 + 6 ≤ 18 by omega⟩ hK hX hP hS ht hlk (show 0 + 1 + 1 + 1 ≤ 3 by omega) (show 0 + 6 + 6 + 6 ≤ 18 by omega) (fun h41 => ?_) (fun h41 H locs hP hS => ?_)
        · skip
          exact absurd trivial h41
        · skip
          refine lv_aload_n F.1 F.2.1 dX3_addGoose_44 rfl (lv_at hl 0 rfl) ?_
          refine k_get (v := .ref (a 0)) F nX3_addGoose_X3 hK.1 hP 0 rfl rfl 0 (by decide) (List.mem_of_getElem? (i := 1) rfl) rfl dX3_addGoose_45 ?_
          refine k_get (v := .ref (a 2)) F nX3_addGoose_X0 hK.1 hP 1 rfl rfl 2 (by decide) (List.mem_of_getElem? (i := 2) rfl) rfl dX3_addGoose_48 ?_
          refine lv_iload_n F.1 F.2.1 dX3_addGoose_51 rfl (lv_at hl 1 rfl) ?_
          refine lv_iload_n F.1 F.2.1 dX3_addGoose_52 rfl (lv_at hl 2 rfl) ?_
          refine k_mI (n := 2) (rest := []) (v := nI (S 0 1)) F (c_X1_putGoose l D cI a S g1 g2 (by first | assumption | omega)) gX3_addGoose_X1_putGoose rfl (by decide +kernel) ⟨Nat.le_of_ble_eq_true rfl, Nat.le_of_ble_eq_true rfl⟩ rfl hl.1 rfl (Nat.le_of_ble_eq_true rfl) dX3_addGoose_53 ⟨show 0 + 1 + 1 + 1 ≤ 3 by omega, show 0 + 6 + 6 + 6 ≤ 18 by omega⟩ hK hP hD hS [3, 4, 5, 6, 7] rfl rfl rfl (wCo cI a b (setf (setf (setf S 2 (S 0 1) g1) 3 (S 0 1) g2) 0 1 (S 0 1 + 1)) S2) rfl wCo_ad (q0 := 3) (ci := 1) rfl rfl (fun H locs hP hD hS => ?_)
          have e9 : rAddGoose S (nI g1) (nI g2) = (0, nI (S 0 1), (setf (setf (setf S 2 (S 0 1) g1) 3 (S 0 1) g2) 0 1 (S 0 1 + 1))) := by unfold rAddGoose; (try rw [cl_nI (show g1 < 2 ^ 31 by omega)]); (try rw [cl_nI (show g2 < 2 ^ 31 by omega)]); rw [if_pos h8, if_pos h18, if_pos (show S 0 1 ≠ 8 by omega)] <;> rfl
          exact t_retI F hr hlk hP (by rw [e9] <;> rfl) hS (by rw [e9]; rfl) (by rw [e9] <;> rfl) rfl (show 0 + 1 + 1 + 1 ≤ 3 by omega) (show 0 + 6 + 6 + 6 ≤ 18 by omega) dX3_addGoose_56
theorem nX3_arrive_X0 : ∀ x ∈ wsX00, x ∈ wsX3_arrive := fun _ h => List.mem_cons_of_mem _ (List.mem_append_left _ (List.mem_append_left _ (List.mem_append_left _ (List.mem_append_right _ h))))
theorem nX3_arrive_X2 : ∀ x ∈ wsX20, x ∈ wsX3_arrive := fun _ h => List.mem_cons_of_mem _ (List.mem_append_left _ (List.mem_append_left _ (List.mem_append_right _ h)))
theorem nX3_arrive_X3 : ∀ x ∈ wsX30, x ∈ wsX3_arrive := fun _ h => List.mem_cons_of_mem _ (List.mem_append_left _ (List.mem_append_left _ (List.mem_append_left _ (List.mem_append_left _ (List.mem_append_right _ h)))))
set_option maxRecDepth 100000 in
set_option maxHeartbeats 4000000 in
theorem c_X3_arrive (l : Launch) (D : va_G) (cI : ClassId) (hst : l.stackTraces = false) (a b : Nat → Nat) (S S2 : Nat → Nat → Nat) (x1 : Int32) (x2 : Int32) (x3 : Int32) (hI : Inv S) : TI l yX3_arrive wsX3_arrive 7 2 115 D [(cI, .int)] [.ref (a 13), .int x1, .int x2, .int x3] (wCo cI a b S S2) (wCo cI a b ((rArrive S x1 x2 x3).2.2) S2) (exq ["java/lang/IllegalArgumentException", "java/lang/IllegalStateException"] (rArrive S x1 x2 x3).1) ((rArrive S x1 x2 x3).2.1) := by
  refine k_bodyX (cc := cX3_arrive) (maxL := 4) (ret := (some .int)) (by decide) rfl (Nat.le_of_ble_eq_true rfl) ?_
  intro p e s m args below meth c H ls F hr hlk hl hP hK hD hS hX ht
  have F : CallFix p m c cX3_arrive 4 s args wsX3_arrive RX3 := F
  have hl : lv_has ls 4 [(0, .ref (a 13)), (1, .int x1), (2, .int x2), (3, .int x3)] := hl
  have hi0 := hI.gates
  have hi1 := hI.geese
  have hi2 := hI.guests
  refine lv_iload_n F.1 F.2.1 dX3_arrive_0 rfl (lv_at hl 1 rfl) ?_
  refine k_pS (n := 1) (rest := []) (v := bI (nI 0 ≤ x1 ∧ x1 ≤ nI 9)) F (c_X3_isRank l D cI x1) gX3_arrive_X3_isRank rfl (by decide +kernel) ⟨Nat.le_of_ble_eq_true rfl, Nat.le_of_ble_eq_true rfl⟩ rfl hl.1 rfl (Nat.le_of_ble_eq_true rfl) dX3_arrive_1 ⟨show 0 ≤ 2 by omega, show 0 ≤ 12 by omega⟩ hK hP hS (fun H locs hP hS => ?_)
  refine k_ifeq_b (tgt := 28) F dX3_arrive_4 (by decide) (fun h4 => ?_) (fun h4 => ?_)
  · skip
    refine lv_iconst (v := nI 0) F.1 F.2.1 dX3_arrive_28 (by decide) ?_
    refine t_demS (n := 1) (rest := []) F (c_X3_demandArgument l D cI hst False) gX3_arrive_X3_demandArgument rfl (by decide +kernel) ⟨Nat.le_of_ble_eq_true rfl, Nat.le_of_ble_eq_true rfl⟩ rfl hl.1 rfl (Nat.le_of_ble_eq_true rfl) dX3_arrive_29 ⟨show 0 + 1 ≤ 2 by omega, show 0 + 6 ≤ 12 by omega⟩ hK hX hP hS ht hlk (show 0 + 1 ≤ 2 by omega) (show 0 + 6 ≤ 12 by omega) (fun h29 => ?_) (fun h29 H locs hP hS => ?_)
    · skip
      have e9 : rArrive S x1 x2 x3 = (1, nI 0, S) := by unfold rArrive; rw [if_neg (fun q => h4 q.1)] <;> rfl
      rw [e9]; rfl
    · skip
      exact h29.elim
  · skip
    refine lv_iload_n F.1 F.2.1 dX3_arrive_7 rfl (lv_at hl 2 rfl) ?_
    refine k_pS (n := 1) (rest := []) (v := bI (nI 0 ≤ x2 ∧ x2 ≤ nI 20)) F (c_X3_isNerve l D cI x2) gX3_arrive_X3_isNerve rfl (by decide +kernel) ⟨Nat.le_of_ble_eq_true rfl, Nat.le_of_ble_eq_true rfl⟩ rfl hl.1 rfl (Nat.le_of_ble_eq_true rfl) dX3_arrive_8 ⟨show 0 ≤ 2 by omega, show 0 ≤ 12 by omega⟩ hK hP hS (fun H locs hP hS => ?_)
    refine k_ifeq_b (tgt := 28) F dX3_arrive_11 (by decide) (fun h11 => ?_) (fun h11 => ?_)
    · skip
      refine lv_iconst (v := nI 0) F.1 F.2.1 dX3_arrive_28 (by decide) ?_
      refine t_demS (n := 1) (rest := []) F (c_X3_demandArgument l D cI hst False) gX3_arrive_X3_demandArgument rfl (by decide +kernel) ⟨Nat.le_of_ble_eq_true rfl, Nat.le_of_ble_eq_true rfl⟩ rfl hl.1 rfl (Nat.le_of_ble_eq_true rfl) dX3_arrive_29 ⟨show 0 + 1 ≤ 2 by omega, show 0 + 6 ≤ 12 by omega⟩ hK hX hP hS ht hlk (show 0 + 1 ≤ 2 by omega) (show 0 + 6 ≤ 12 by omega) (fun h29 => ?_) (fun h29 H locs hP hS => ?_)
      · skip
        have e9 : rArrive S x1 x2 x3 = (1, nI 0, S) := by unfold rArrive; rw [if_neg (fun q => h11 q.2.1)] <;> rfl
        rw [e9]; rfl
      · skip
        exact h29.elim
    · skip
      refine lv_iload_n F.1 F.2.1 dX3_arrive_14 rfl (lv_at hl 3 rfl) ?_
      refine lv_iconst (v := nI 0) F.1 F.2.1 dX3_arrive_15 (by decide) ?_
      refine lv_bipush (v := nI 20) F.1 F.2.1 dX3_arrive_16 (by decide) ?_
      refine k_pS (n := 3) (rest := []) (v := bI ((nI 0) ≤ x3 ∧ x3 ≤ (nI 20))) F (c_X3_isWithin l D cI x3 (nI 0) (nI 20)) gX3_arrive_X3_isWithin rfl (by decide +kernel) ⟨Nat.le_of_ble_eq_true rfl, Nat.le_of_ble_eq_true rfl⟩ rfl hl.1 rfl (Nat.le_of_ble_eq_true rfl) dX3_arrive_18 ⟨show 0 ≤ 2 by omega, show 0 ≤ 12 by omega⟩ hK hP hS (fun H locs hP hS => ?_)
      refine k_ifeq_b (tgt := 28) F dX3_arrive_21 (by decide) (fun h21 => ?_) (fun h21 => ?_)
      · skip
        refine lv_iconst (v := nI 0) F.1 F.2.1 dX3_arrive_28 (by decide) ?_
        refine t_demS (n := 1) (rest := []) F (c_X3_demandArgument l D cI hst False) gX3_arrive_X3_demandArgument rfl (by decide +kernel) ⟨Nat.le_of_ble_eq_true rfl, Nat.le_of_ble_eq_true rfl⟩ rfl hl.1 rfl (Nat.le_of_ble_eq_true rfl) dX3_arrive_29 ⟨show 0 + 1 ≤ 2 by omega, show 0 + 6 ≤ 12 by omega⟩ hK hX hP hS ht hlk (show 0 + 1 ≤ 2 by omega) (show 0 + 6 ≤ 12 by omega) (fun h29 => ?_) (fun h29 H locs hP hS => ?_)
        · skip
          have e9 : rArrive S x1 x2 x3 = (1, nI 0, S) := by unfold rArrive; rw [if_neg (fun q => h21 q.2.2)] <;> rfl
          rw [e9]; rfl
        · skip
          exact h29.elim
      · skip
        refine lv_iconst (v := nI 1) F.1 F.2.1 dX3_arrive_24 (by decide) ?_
        refine lv_goto (tgt := 29) F.1 F.2.1 dX3_arrive_25 (by decide) ?_
        refine t_demS (n := 1) (rest := []) F (c_X3_demandArgument l D cI hst True) gX3_arrive_X3_demandArgument rfl (by decide +kernel) ⟨Nat.le_of_ble_eq_true rfl, Nat.le_of_ble_eq_true rfl⟩ rfl hl.1 rfl (Nat.le_of_ble_eq_true rfl) dX3_arrive_29 ⟨show 0 + 1 ≤ 2 by omega, show 0 + 6 ≤ 12 by omega⟩ hK hX hP hS ht hlk (show 0 + 1 ≤ 2 by omega) (show 0 + 6 ≤ 12 by omega) (fun h29 => ?_) (fun h29 H locs hP hS => ?_)
        · skip
          exact absurd trivial h29
        · skip
          obtain ⟨g1, hg1, rfl⟩ := in_nI (by decide) h4 (by decide)
          obtain ⟨g2, hg2, rfl⟩ := in_nI (by decide) h11 (by decide)
          obtain ⟨g3, hg3, rfl⟩ := in_nI (by decide) h21 (by decide)
          refine lv_aload_n F.1 F.2.1 dX3_arrive_32 rfl (lv_at hl 0 rfl) ?_
          refine k_get (v := .ref (a 0)) F nX3_arrive_X3 hK.1 hP 0 rfl rfl 0 (by decide) (List.mem_of_getElem? (i := 1) rfl) rfl dX3_arrive_33 ?_
          refine k_get (v := .int (nI (S 0 0))) F nX3_arrive_X0 hK.1 hP 1 rfl rfl 0 (by decide) (List.mem_of_getElem? (i := 2) rfl) rfl dX3_arrive_36 ?_
          refine k_if_le (tgt := 61) F (by omega) dX3_arrive_39 (by decide) (fun h39 => ?_) (fun h39 => ?_)
          · skip
            refine lv_iconst (v := nI 0) F.1 F.2.1 dX3_arrive_61 (by decide) ?_
            refine t_demS (n := 1) (rest := []) F (c_X3_demandState l D cI hst False) gX3_arrive_X3_demandState rfl (by decide +kernel) ⟨Nat.le_of_ble_eq_true rfl, Nat.le_of_ble_eq_true rfl⟩ rfl hl.1 rfl (Nat.le_of_ble_eq_true rfl) dX3_arrive_62 ⟨show 0 + 1 + 1 ≤ 2 by omega, show 0 + 6 + 6 ≤ 12 by omega⟩ hK hX hP hS ht hlk (show 0 + 1 + 1 ≤ 2 by omega) (show 0 + 6 + 6 ≤ 12 by omega) (fun h62 => ?_) (fun h62 H locs hP hS => ?_)
            · skip
              have e9 : rArrive S (nI g1) (nI g2) (nI g3) = (2, nI 0, S) := by unfold rArrive; (try rw [cl_nI (show g1 < 2 ^ 31 by omega)]); (try rw [cl_nI (show g2 < 2 ^ 31 by omega)]); (try rw [cl_nI (show g3 < 2 ^ 31 by omega)]); rw [if_pos ⟨h4, h11, h21⟩, if_neg (show ¬ (S 0 0 ≠ 0 ∧ S 0 2 ≠ 8) by omega)] <;> rfl
              rw [e9]; rfl
            · skip
              exact h62.elim
          · skip
            refine lv_aload_n F.1 F.2.1 dX3_arrive_42 rfl (lv_at hl 0 rfl) ?_
            refine k_get (v := .ref (a 0)) F nX3_arrive_X3 hK.1 hP 0 rfl rfl 0 (by decide) (List.mem_of_getElem? (i := 1) rfl) rfl dX3_arrive_43 ?_
            refine k_get (v := .ref (a 7)) F nX3_arrive_X0 hK.1 hP 1 rfl rfl 3 (by decide) (List.mem_of_getElem? (i := 3) rfl) rfl dX3_arrive_46 ?_
            refine k_get (v := .int (nI (S 0 2))) F nX3_arrive_X2 hK.1 hP 8 rfl rfl 0 (by decide) (List.mem_of_getElem? (i := 4) rfl) rfl dX3_arrive_49 ?_
            refine lv_bipush (v := nI 8) F.1 F.2.1 dX3_arrive_52 (by decide) ?_
            refine k_icmp_ge (tgt := 61) F (by omega) (by omega) dX3_arrive_54 (by decide) (fun h54 => ?_) (fun h54 => ?_)
            · skip
              refine lv_iconst (v := nI 0) F.1 F.2.1 dX3_arrive_61 (by decide) ?_
              refine t_demS (n := 1) (rest := []) F (c_X3_demandState l D cI hst False) gX3_arrive_X3_demandState rfl (by decide +kernel) ⟨Nat.le_of_ble_eq_true rfl, Nat.le_of_ble_eq_true rfl⟩ rfl hl.1 rfl (Nat.le_of_ble_eq_true rfl) dX3_arrive_62 ⟨show 0 + 1 + 1 ≤ 2 by omega, show 0 + 6 + 6 ≤ 12 by omega⟩ hK hX hP hS ht hlk (show 0 + 1 + 1 ≤ 2 by omega) (show 0 + 6 + 6 ≤ 12 by omega) (fun h62 => ?_) (fun h62 H locs hP hS => ?_)
              · skip
                have e9 : rArrive S (nI g1) (nI g2) (nI g3) = (2, nI 0, S) := by unfold rArrive; (try rw [cl_nI (show g1 < 2 ^ 31 by omega)]); (try rw [cl_nI (show g2 < 2 ^ 31 by omega)]); (try rw [cl_nI (show g3 < 2 ^ 31 by omega)]); rw [if_pos ⟨h4, h11, h21⟩, if_neg (show ¬ (S 0 0 ≠ 0 ∧ S 0 2 ≠ 8) by omega)] <;> rfl
                rw [e9]; rfl
              · skip
                exact h62.elim
            · skip
              refine lv_iconst (v := nI 1) F.1 F.2.1 dX3_arrive_57 (by decide) ?_
              refine lv_goto (tgt := 62) F.1 F.2.1 dX3_arrive_58 (by decide) ?_
              refine t_demS (n := 1) (rest := []) F (c_X3_demandState l D cI hst True) gX3_arrive_X3_demandState rfl (by decide +kernel) ⟨Nat.le_of_ble_eq_true rfl, Nat.le_of_ble_eq_true rfl⟩ rfl hl.1 rfl (Nat.le_of_ble_eq_true rfl) dX3_arrive_62 ⟨show 0 + 1 + 1 ≤ 2 by omega, show 0 + 6 + 6 ≤ 12 by omega⟩ hK hX hP hS ht hlk (show 0 + 1 + 1 ≤ 2 by omega) (show 0 + 6 + 6 ≤ 12 by omega) (fun h62 => ?_) (fun h62 H locs hP hS => ?_)
              · skip
                exact absurd trivial h62
              · skip
                refine lv_aload_n F.1 F.2.1 dX3_arrive_65 rfl (lv_at hl 0 rfl) ?_
                refine k_get (v := .ref (a 0)) F nX3_arrive_X3 hK.1 hP 0 rfl rfl 0 (by decide) (List.mem_of_getElem? (i := 1) rfl) rfl dX3_arrive_66 ?_
                refine k_get (v := .ref (a 7)) F nX3_arrive_X0 hK.1 hP 1 rfl rfl 3 (by decide) (List.mem_of_getElem? (i := 3) rfl) rfl dX3_arrive_69 ?_
                refine lv_iload_n F.1 F.2.1 dX3_arrive_72 rfl (lv_at hl 1 rfl) ?_
                refine lv_iload_n F.1 F.2.1 dX3_arrive_73 rfl (lv_at hl 2 rfl) ?_
                refine lv_iload_n F.1 F.2.1 dX3_arrive_74 rfl (lv_at hl 3 rfl) ?_
                refine k_mI (n := 3) (rest := []) (v := nI (S 0 2)) F (c_X2_putGuest l D cI a S g1 g2 g3 (by first | assumption | omega)) gX3_arrive_X2_putGuest rfl (by decide +kernel) ⟨Nat.le_of_ble_eq_true rfl, Nat.le_of_ble_eq_true rfl⟩ rfl hl.1 rfl (Nat.le_of_ble_eq_true rfl) dX3_arrive_75 ⟨show 0 + 1 + 1 ≤ 2 by omega, show 0 + 6 + 6 ≤ 12 by omega⟩ hK hP hD hS [8, 9, 10, 11, 12, 13] rfl rfl rfl (wCo cI a b (setf (setf (setf (setf S 6 (S 0 2) g1) 9 (S 0 2) g2) 8 (S 0 2) g3) 0 2 (S 0 2 + 1)) S2) rfl wCo_ad (q0 := 8) (ci := 2) rfl rfl (fun H locs hP hD hS => ?_)
                have e9 : rArrive S (nI g1) (nI g2) (nI g3) = (0, nI (S 0 2), (setf (setf (setf (setf S 6 (S 0 2) g1) 9 (S 0 2) g2) 8 (S 0 2) g3) 0 2 (S 0 2 + 1))) := by unfold rArrive; (try rw [cl_nI (show g1 < 2 ^ 31 by omega)]); (try rw [cl_nI (show g2 < 2 ^ 31 by omega)]); (try rw [cl_nI (show g3 < 2 ^ 31 by omega)]); rw [if_pos ⟨h4, h11, h21⟩, if_pos (show S 0 0 ≠ 0 ∧ S 0 2 ≠ 8 by omega)] <;> rfl
                exact t_retI F hr hlk hP (by rw [e9] <;> rfl) hS (by rw [e9]; rfl) (by rw [e9] <;> rfl) rfl (show 0 + 1 + 1 ≤ 2 by omega) (show 0 + 6 + 6 ≤ 12 by omega) dX3_arrive_78
theorem nX3_setRank_X0 : ∀ x ∈ wsX00, x ∈ wsX3_setRank := fun _ h => List.mem_cons_of_mem _ (List.mem_append_left _ (List.mem_append_left _ (List.mem_append_right _ h)))
theorem nX3_setRank_X3 : ∀ x ∈ wsX30, x ∈ wsX3_setRank := fun _ h => List.mem_cons_of_mem _ (List.mem_append_left _ (List.mem_append_left _ (List.mem_append_left _ (List.mem_append_right _ h))))
set_option maxRecDepth 100000 in
set_option maxHeartbeats 4000000 in
theorem c_X3_setRank (l : Launch) (D : va_G) (cI : ClassId) (hst : l.stackTraces = false) (a b : Nat → Nat) (S S2 : Nat → Nat → Nat) (x1 : Int32) (x2 : Int32) (hI : Inv S) : TI l yX3_setRank wsX3_setRank 7 2 115 D [(cI, .int)] [.ref (a 13), .int x1, .int x2] (wCo cI a b S S2) (wCo cI a b ((rSetRank S x1 x2).2.2) S2) (exq ["java/lang/IndexOutOfBoundsException", "java/lang/IllegalArgumentException"] (rSetRank S x1 x2).1) ((rSetRank S x1 x2).2.1) := by
  refine k_bodyX (cc := cX3_setRank) (maxL := 4) (ret := (some .int)) (by decide) rfl (Nat.le_of_ble_eq_true rfl) ?_
  intro p e s m args below meth c H ls F hr hlk hl hP hK hD hS hX ht
  have F : CallFix p m c cX3_setRank 4 s args wsX3_setRank RX3 := F
  have hl : lv_has ls 4 [(0, .ref (a 13)), (1, .int x1), (2, .int x2)] := hl
  have hi0 := hI.gates
  have hi1 := hI.geese
  have hi2 := hI.guests
  refine lv_aload_n F.1 F.2.1 dX3_setRank_0 rfl (lv_at hl 0 rfl) ?_
  refine k_get (v := .ref (a 0)) F nX3_setRank_X3 hK.1 hP 0 rfl rfl 0 (by decide) (List.mem_of_getElem? (i := 1) rfl) rfl dX3_setRank_1 ?_
  refine lv_iload_n F.1 F.2.1 dX3_setRank_4 rfl (lv_at hl 1 rfl) ?_
  refine k_pV (n := 1) (rest := []) (v := bI (0 ≤ x1 ∧ x1 < nI (S 0 0))) F (c_X0_hasGate l D cI a S x1) gX3_setRank_X0_hasGate rfl (by decide +kernel) ⟨Nat.le_of_ble_eq_true rfl, Nat.le_of_ble_eq_true rfl⟩ rfl hl.1 rfl (Nat.le_of_ble_eq_true rfl) dX3_setRank_5 ⟨show 0 ≤ 2 by omega, show 0 ≤ 12 by omega⟩ hK hP hS [1, 2, 3, 4, 5, 6, 7, 8, 9, 10, 11, 12, 13] wCo_suba (q0 := 1) (ci := 0) rfl rfl (fun H locs hP hS => ?_)
  refine t_demS (n := 1) (rest := []) F (c_X3_demandIndex l D cI hst (0 ≤ x1 ∧ x1 < nI (S 0 0))) gX3_setRank_X3_demandIndex rfl (by decide +kernel) ⟨Nat.le_of_ble_eq_true rfl, Nat.le_of_ble_eq_true rfl⟩ rfl hl.1 rfl (Nat.le_of_ble_eq_true rfl) dX3_setRank_8 ⟨show 0 + 1 ≤ 2 by omega, show 0 + 6 ≤ 12 by omega⟩ hK hX hP hS ht hlk (show 0 + 1 ≤ 2 by omega) (show 0 + 6 ≤ 12 by omega) (fun h8 => ?_) (fun h8 H locs hP hS => ?_)
  · skip
    have e9 : rSetRank S x1 x2 = (1, nI 0, S) := by unfold rSetRank; rw [if_neg h8] <;> rfl
    rw [e9]; rfl
  · skip
    refine lv_iload_n F.1 F.2.1 dX3_setRank_11 rfl (lv_at hl 2 rfl) ?_
    refine k_pS (n := 1) (rest := []) (v := bI (nI 0 ≤ x2 ∧ x2 ≤ nI 9)) F (c_X3_isRank l D cI x2) gX3_setRank_X3_isRank rfl (by decide +kernel) ⟨Nat.le_of_ble_eq_true rfl, Nat.le_of_ble_eq_true rfl⟩ rfl hl.1 rfl (Nat.le_of_ble_eq_true rfl) dX3_setRank_12 ⟨show 0 + 1 ≤ 2 by omega, show 0 + 6 ≤ 12 by omega⟩ hK hP hS (fun H locs hP hS => ?_)
    refine t_demS (n := 1) (rest := []) F (c_X3_demandArgument l D cI hst (nI 0 ≤ x2 ∧ x2 ≤ nI 9)) gX3_setRank_X3_demandArgument rfl (by decide +kernel) ⟨Nat.le_of_ble_eq_true rfl, Nat.le_of_ble_eq_true rfl⟩ rfl hl.1 rfl (Nat.le_of_ble_eq_true rfl) dX3_setRank_15 ⟨show 0 + 1 + 1 ≤ 2 by omega, show 0 + 6 + 6 ≤ 12 by omega⟩ hK hX hP hS ht hlk (show 0 + 1 + 1 ≤ 2 by omega) (show 0 + 6 + 6 ≤ 12 by omega) (fun h15 => ?_) (fun h15 H locs hP hS => ?_)
    · skip
      have e9 : rSetRank S x1 x2 = (2, nI 0, S) := by unfold rSetRank; rw [if_pos h8, if_neg h15] <;> rfl
      rw [e9]; rfl
    · skip
      obtain ⟨g1, hg1, rfl⟩ := lt_nI (by omega) h8
      obtain ⟨g2, hg2, rfl⟩ := in_nI (by decide) h15 (by decide)
      refine lv_aload_n F.1 F.2.1 dX3_setRank_18 rfl (lv_at hl 0 rfl) ?_
      refine k_get (v := .ref (a 0)) F nX3_setRank_X3 hK.1 hP 0 rfl rfl 0 (by decide) (List.mem_of_getElem? (i := 1) rfl) rfl dX3_setRank_19 ?_
      refine k_get (v := .ref (a 1)) F nX3_setRank_X0 hK.1 hP 1 rfl rfl 1 (by decide) (List.mem_of_getElem? (i := 2) rfl) rfl dX3_setRank_22 ?_
      refine lv_iload_n F.1 F.2.1 dX3_setRank_25 rfl (lv_at hl 1 rfl) ?_
      refine k_iald (f := S 1) (n := 6) F hK.1 hP 2 0 rfl rfl (by omega) (by decide) dX3_setRank_26 ?_
      refine lv_istore_n (lv' := [(3, .int (nI (S 1 g1))), (0, .ref (a 13)), (1, .int (nI g1)), (2, .int (nI g2))]) F.1 F.2.1 dX3_setRank_27 rfl hl (by decide) rfl (fun ls hl => ?_)
      refine lv_aload_n F.1 F.2.1 dX3_setRank_28 rfl (lv_at hl 1 rfl) ?_
      refine k_get (v := .ref (a 0)) F nX3_setRank_X3 hK.1 hP 0 rfl rfl 0 (by decide) (List.mem_of_getElem? (i := 1) rfl) rfl dX3_setRank_29 ?_
      refine k_get (v := .ref (a 1)) F nX3_setRank_X0 hK.1 hP 1 rfl rfl 1 (by decide) (List.mem_of_getElem? (i := 2) rfl) rfl dX3_setRank_32 ?_
      refine lv_iload_n F.1 F.2.1 dX3_setRank_35 rfl (lv_at hl 2 rfl) ?_
      refine lv_iload_n F.1 F.2.1 dX3_setRank_36 rfl (lv_at hl 3 rfl) ?_
      refine k_iast (f := S 1) (n := 6) (k := g1) (x := g2) F hK.1 hP hD hS 2 0 rfl rfl (by omega) (by decide) dX3_setRank_37 (wCo cI a b (setf S 1 g1 g2) S2) rfl (fun H locs hP hD hS => ?_)
      refine lv_iload_n F.1 F.2.1 dX3_setRank_38 rfl (lv_at hl 0 rfl) ?_
      have e9 : rSetRank S (nI g1) (nI g2) = (0, nI (S 1 g1), (setf S 1 g1 g2)) := by unfold rSetRank; (try rw [cl_nI (show g1 < 2 ^ 31 by omega)]); (try rw [cl_nI (show g2 < 2 ^ 31 by omega)]); rw [if_pos h8, if_pos h15] <;> rfl
      exact t_retI F hr hlk hP (by rw [e9] <;> rfl) hS (by rw [e9]; rfl) (by rw [e9] <;> rfl) rfl (show 0 + 1 + 1 ≤ 2 by omega) (show 0 + 6 + 6 ≤ 12 by omega) dX3_setRank_39
theorem nX3_lead_X0 : ∀ x ∈ wsX00, x ∈ wsX3_lead := fun _ h => List.mem_cons_of_mem _ (List.mem_append_left _ (List.mem_append_left _ (List.mem_append_right _ h)))
theorem nX3_lead_X1 : ∀ x ∈ wsX10, x ∈ wsX3_lead := fun _ h => List.mem_cons_of_mem _ (List.mem_append_left _ (List.mem_append_right _ h))
theorem nX3_lead_X3 : ∀ x ∈ wsX30, x ∈ wsX3_lead := fun _ h => List.mem_cons_of_mem _ (List.mem_append_left _ (List.mem_append_left _ (List.mem_append_left _ (List.mem_append_right _ h))))
set_option maxRecDepth 100000 in
set_option maxHeartbeats 4000000 in
theorem c_X3_lead (l : Launch) (D : va_G) (cI : ClassId) (hst : l.stackTraces = false) (a b : Nat → Nat) (S S2 : Nat → Nat → Nat) (x1 : Int32) (x2 : Int32) (hI : Inv S) : TI l yX3_lead wsX3_lead 7 1 115 D [(cI, .int)] [.ref (a 13), .int x1, .int x2] (wCo cI a b S S2) (wCo cI a b ((rLead S x1 x2).2.2) S2) (exq ["java/lang/IndexOutOfBoundsException"] (rLead S x1 x2).1) ((rLead S x1 x2).2.1) := by
  refine k_bodyX (cc := cX3_lead) (maxL := 4) (ret := (some .int)) (by decide) rfl (Nat.le_of_ble_eq_true rfl) ?_
  intro p e s m args below meth c H ls F hr hlk hl hP hK hD hS hX ht
  have F : CallFix p m c cX3_lead 4 s args wsX3_lead RX3 := F
  have hl : lv_has ls 4 [(0, .ref (a 13)), (1, .int x1), (2, .int x2)] := hl
  have hi0 := hI.gates
  have hi1 := hI.geese
  have hi2 := hI.guests
  refine lv_aload_n F.1 F.2.1 dX3_lead_0 rfl (lv_at hl 0 rfl) ?_
  refine k_get (v := .ref (a 0)) F nX3_lead_X3 hK.1 hP 0 rfl rfl 0 (by decide) (List.mem_of_getElem? (i := 1) rfl) rfl dX3_lead_1 ?_
  refine k_get (v := .ref (a 2)) F nX3_lead_X0 hK.1 hP 1 rfl rfl 2 (by decide) (List.mem_of_getElem? (i := 2) rfl) rfl dX3_lead_4 ?_
  refine lv_iload_n F.1 F.2.1 dX3_lead_7 rfl (lv_at hl 1 rfl) ?_
  refine k_pV (n := 1) (rest := []) (v := bI (0 ≤ x1 ∧ x1 < nI (S 0 1))) F (c_X1_hasGoose l D cI a S x1) gX3_lead_X1_hasGoose rfl (by decide +kernel) ⟨Nat.le_of_ble_eq_true rfl, Nat.le_of_ble_eq_true rfl⟩ rfl hl.1 rfl (Nat.le_of_ble_eq_true rfl) dX3_lead_8 ⟨show 0 ≤ 1 by omega, show 0 ≤ 6 by omega⟩ hK hP hS [3, 4, 5, 6, 7] rfl (q0 := 3) (ci := 1) rfl rfl (fun H locs hP hS => ?_)
  refine k_ifeq_b (tgt := 29) F dX3_lead_11 (by decide) (fun h11 => ?_) (fun h11 => ?_)
  · skip
    refine lv_iconst (v := nI 0) F.1 F.2.1 dX3_lead_29 (by decide) ?_
    refine t_demS (n := 1) (rest := []) F (c_X3_demandIndex l D cI hst False) gX3_lead_X3_demandIndex rfl (by decide +kernel) ⟨Nat.le_of_ble_eq_true rfl, Nat.le_of_ble_eq_true rfl⟩ rfl hl.1 rfl (Nat.le_of_ble_eq_true rfl) dX3_lead_30 ⟨show 0 + 1 ≤ 1 by omega, show 0 + 6 ≤ 6 by omega⟩ hK hX hP hS ht hlk (show 0 + 1 ≤ 1 by omega) (show 0 + 6 ≤ 6 by omega) (fun h30 => ?_) (fun h30 H locs hP hS => ?_)
    · skip
      have e9 : rLead S x1 x2 = (1, nI 0, S) := by unfold rLead; rw [if_neg (fun q => h11 q.1)] <;> rfl
      rw [e9]; rfl
    · skip
      exact h30.elim
  · skip
    refine lv_aload_n F.1 F.2.1 dX3_lead_14 rfl (lv_at hl 0 rfl) ?_
    refine k_get (v := .ref (a 0)) F nX3_lead_X3 hK.1 hP 0 rfl rfl 0 (by decide) (List.mem_of_getElem? (i := 1) rfl) rfl dX3_lead_15 ?_
    refine lv_iload_n F.1 F.2.1 dX3_lead_18 rfl (lv_at hl 2 rfl) ?_
    refine k_pV (n := 1) (rest := []) (v := bI (0 ≤ x2 ∧ x2 < nI (S 0 0))) F (c_X0_hasGate l D cI a S x2) gX3_lead_X0_hasGate rfl (by decide +kernel) ⟨Nat.le_of_ble_eq_true rfl, Nat.le_of_ble_eq_true rfl⟩ rfl hl.1 rfl (Nat.le_of_ble_eq_true rfl) dX3_lead_19 ⟨show 0 ≤ 1 by omega, show 0 ≤ 6 by omega⟩ hK hP hS [1, 2, 3, 4, 5, 6, 7, 8, 9, 10, 11, 12, 13] wCo_suba (q0 := 1) (ci := 0) rfl rfl (fun H locs hP hS => ?_)
    refine k_ifeq_b (tgt := 29) F dX3_lead_22 (by decide) (fun h22 => ?_) (fun h22 => ?_)
    · skip
      refine lv_iconst (v := nI 0) F.1 F.2.1 dX3_lead_29 (by decide) ?_
      refine t_demS (n := 1) (rest := []) F (c_X3_demandIndex l D cI hst False) gX3_lead_X3_demandIndex rfl (by decide +kernel) ⟨Nat.le_of_ble_eq_true rfl, Nat.le_of_ble_eq_true rfl⟩ rfl hl.1 rfl (Nat.le_of_ble_eq_true rfl) dX3_lead_30 ⟨show 0 + 1 ≤ 1 by omega, show 0 + 6 ≤ 6 by omega⟩ hK hX hP hS ht hlk (show 0 + 1 ≤ 1 by omega) (show 0 + 6 ≤ 6 by omega) (fun h30 => ?_) (fun h30 H locs hP hS => ?_)
      · skip
        have e9 : rLead S x1 x2 = (1, nI 0, S) := by unfold rLead; rw [if_neg (fun q => h22 q.2)] <;> rfl
        rw [e9]; rfl
      · skip
        exact h30.elim
    · skip
      refine lv_iconst (v := nI 1) F.1 F.2.1 dX3_lead_25 (by decide) ?_
      refine lv_goto (tgt := 30) F.1 F.2.1 dX3_lead_26 (by decide) ?_
      refine t_demS (n := 1) (rest := []) F (c_X3_demandIndex l D cI hst True) gX3_lead_X3_demandIndex rfl (by decide +kernel) ⟨Nat.le_of_ble_eq_true rfl, Nat.le_of_ble_eq_true rfl⟩ rfl hl.1 rfl (Nat.le_of_ble_eq_true rfl) dX3_lead_30 ⟨show 0 + 1 ≤ 1 by omega, show 0 + 6 ≤ 6 by omega⟩ hK hX hP hS ht hlk (show 0 + 1 ≤ 1 by omega) (show 0 + 6 ≤ 6 by omega) (fun h30 => ?_) (fun h30 H locs hP hS => ?_)
      · skip
        exact absurd trivial h30
      · skip
        obtain ⟨g1, hg1, rfl⟩ := lt_nI (by omega) h11
        obtain ⟨g2, hg2, rfl⟩ := lt_nI (by omega) h22
        refine lv_aload_n F.1 F.2.1 dX3_lead_33 rfl (lv_at hl 0 rfl) ?_
        refine k_get (v := .ref (a 0)) F nX3_lead_X3 hK.1 hP 0 rfl rfl 0 (by decide) (List.mem_of_getElem? (i := 1) rfl) rfl dX3_lead_34 ?_
        refine k_get (v := .ref (a 2)) F nX3_lead_X0 hK.1 hP 1 rfl rfl 2 (by decide) (List.mem_of_getElem? (i := 2) rfl) rfl dX3_lead_37 ?_
        refine k_get (v := .ref (a 3)) F nX3_lead_X1 hK.1 hP 3 rfl rfl 1 (by decide) (List.mem_of_getElem? (i := 3) rfl) rfl dX3_lead_40 ?_
        refine lv_iload_n F.1 F.2.1 dX3_lead_43 rfl (lv_at hl 1 rfl) ?_
        refine k_iald (f := S 2) (n := 8) F hK.1 hP 4 0 rfl rfl (by omega) (by decide) dX3_lead_44 ?_
        refine lv_istore_n (lv' := [(3, .int (nI (S 2 g1))), (0, .ref (a 13)), (1, .int (nI g1)), (2, .int (nI g2))]) F.1 F.2.1 dX3_lead_45 rfl hl (by decide) rfl (fun ls hl => ?_)
        refine lv_aload_n F.1 F.2.1 dX3_lead_46 rfl (lv_at hl 1 rfl) ?_
        refine k_get (v := .ref (a 0)) F nX3_lead_X3 hK.1 hP 0 rfl rfl 0 (by decide) (List.mem_of_getElem? (i := 1) rfl) rfl dX3_lead_47 ?_
        refine k_get (v := .ref (a 2)) F nX3_lead_X0 hK.1 hP 1 rfl rfl 2 (by decide) (List.mem_of_getElem? (i := 2) rfl) rfl dX3_lead_50 ?_
        refine k_get (v := .ref (a 3)) F nX3_lead_X1 hK.1 hP 3 rfl rfl 1 (by decide) (List.mem_of_getElem? (i := 3) rfl) rfl dX3_lead_53 ?_
        refine lv_iload_n F.1 F.2.1 dX3_lead_56 rfl (lv_at hl 2 rfl) ?_
        refine lv_iload_n F.1 F.2.1 dX3_lead_57 rfl (lv_at hl 3 rfl) ?_
        refine k_iast (f := S 2) (n := 8) (k := g1) (x := g2) F hK.1 hP hD hS 4 0 rfl rfl (by omega) (by decide) dX3_lead_58 (wCo cI a b (setf S 2 g1 g2) S2) rfl (fun H locs hP hD hS => ?_)
        refine lv_iload_n F.1 F.2.1 dX3_lead_59 rfl (lv_at hl 0 rfl) ?_
        have e9 : rLead S (nI g1) (nI g2) = (0, nI (S 2 g1), (setf S 2 g1 g2)) := by unfold rLead; (try rw [cl_nI (show g1 < 2 ^ 31 by omega)]); (try rw [cl_nI (show g2 < 2 ^ 31 by omega)]); rw [if_pos ⟨h11, h22⟩] <;> rfl
        exact t_retI F hr hlk hP (by rw [e9] <;> rfl) hS (by rw [e9]; rfl) (by rw [e9] <;> rfl) rfl (show 0 + 1 ≤ 1 by omega) (show 0 + 6 ≤ 6 by omega) dX3_lead_60
theorem nX3_giveCorns_X0 : ∀ x ∈ wsX00, x ∈ wsX3_giveCorns := fun _ h => List.mem_cons_of_mem _ (List.mem_append_left _ (List.mem_append_left _ (List.mem_append_left _ (List.mem_append_right _ h))))
theorem nX3_giveCorns_X2 : ∀ x ∈ wsX20, x ∈ wsX3_giveCorns := fun _ h => List.mem_cons_of_mem _ (List.mem_append_left _ (List.mem_append_left _ (List.mem_append_right _ h)))
theorem nX3_giveCorns_X3 : ∀ x ∈ wsX30, x ∈ wsX3_giveCorns := fun _ h => List.mem_cons_of_mem _ (List.mem_append_left _ (List.mem_append_left _ (List.mem_append_left _ (List.mem_append_left _ (List.mem_append_right _ h)))))
set_option maxRecDepth 100000 in
set_option maxHeartbeats 4000000 in
theorem c_X3_giveCorns (l : Launch) (D : va_G) (cI : ClassId) (hst : l.stackTraces = false) (a b : Nat → Nat) (S S2 : Nat → Nat → Nat) (x1 : Int32) (x2 : Int32) (hI : Inv S) : TI l yX3_giveCorns wsX3_giveCorns 8 2 136 D [(cI, .int)] [.ref (a 13), .int x1, .int x2] (wCo cI a b S S2) (wCo cI a b ((rGive S x1 x2).2.2) S2) (exq ["java/lang/IndexOutOfBoundsException", "java/lang/IllegalArgumentException"] (rGive S x1 x2).1) ((rGive S x1 x2).2.1) := by
  refine k_bodyX (cc := cX3_giveCorns) (maxL := 4) (ret := (some .int)) (by decide) rfl (Nat.le_of_ble_eq_true rfl) ?_
  intro p e s m args below meth c H ls F hr hlk hl hP hK hD hS hX ht
  have F : CallFix p m c cX3_giveCorns 4 s args wsX3_giveCorns RX3 := F
  have hl : lv_has ls 4 [(0, .ref (a 13)), (1, .int x1), (2, .int x2)] := hl
  have hi0 := hI.gates
  have hi1 := hI.geese
  have hi2 := hI.guests
  refine lv_aload_n F.1 F.2.1 dX3_giveCorns_0 rfl (lv_at hl 0 rfl) ?_
  refine lv_iload_n F.1 F.2.1 dX3_giveCorns_1 rfl (lv_at hl 1 rfl) ?_
  refine t_demV (n := 1) (rest := []) F (c_X3_demandVisitor l D cI hst a b S S2 x1) gX3_giveCorns_X3_demandVisitor rfl (by decide +kernel) ⟨Nat.le_of_ble_eq_true rfl, Nat.le_of_ble_eq_true rfl⟩ rfl hl.1 rfl (Nat.le_of_ble_eq_true rfl) dX3_giveCorns_2 ⟨show 0 + 1 ≤ 2 by omega, show 0 + 6 ≤ 12 by omega⟩ hK hX hP hD hS ht hlk (show 0 + 1 ≤ 2 by omega) (show 0 + 6 ≤ 12 by omega) (fun h2 => ?_) (q0 := 0) (ci := 3) rfl rfl (fun h2 H locs hP hS => ?_)
  · skip
    have e9 : rGive S x1 x2 = (1, nI 0, S) := by unfold rGive; rw [if_neg h2] <;> rfl
    rw [e9]; rfl
  · skip
    refine lv_iload_n F.1 F.2.1 dX3_giveCorns_5 rfl (lv_at hl 2 rfl) ?_
    refine lv_iconst (v := nI 1) F.1 F.2.1 dX3_giveCorns_6 (by decide) ?_
    refine lv_bipush (v := nI 20) F.1 F.2.1 dX3_giveCorns_7 (by decide) ?_
    refine k_pS (n := 3) (rest := []) (v := bI ((nI 1) ≤ x2 ∧ x2 ≤ (nI 20))) F (c_X3_isWithin l D cI x2 (nI 1) (nI 20)) gX3_giveCorns_X3_isWithin rfl (by decide +kernel) ⟨Nat.le_of_ble_eq_true rfl, Nat.le_of_ble_eq_true rfl⟩ rfl hl.1 rfl (Nat.le_of_ble_eq_true rfl) dX3_giveCorns_9 ⟨show 0 + 1 ≤ 2 by omega, show 0 + 6 ≤ 12 by omega⟩ hK hP hS (fun H locs hP hS => ?_)
    refine t_demS (n := 1) (rest := []) F (c_X3_demandArgument l D cI hst ((nI 1) ≤ x2 ∧ x2 ≤ (nI 20))) gX3_giveCorns_X3_demandArgument rfl (by decide +kernel) ⟨Nat.le_of_ble_eq_true rfl, Nat.le_of_ble_eq_true rfl⟩ rfl hl.1 rfl (Nat.le_of_ble_eq_true rfl) dX3_giveCorns_12 ⟨show 0 + 1 + 1 ≤ 2 by omega, show 0 + 6 + 6 ≤ 12 by omega⟩ hK hX hP hS ht hlk (show 0 + 1 + 1 ≤ 2 by omega) (show 0 + 6 + 6 ≤ 12 by omega) (fun h12 => ?_) (fun h12 H locs hP hS => ?_)
    · skip
      have e9 : rGive S x1 x2 = (2, nI 0, S) := by unfold rGive; rw [if_pos h2, if_neg h12] <;> rfl
      rw [e9]; rfl
    · skip
      obtain ⟨g1, hg1, rfl⟩ := lt_nI (by omega) h2
      obtain ⟨g2, hg2, rfl⟩ := in_nI (by decide) h12 (by decide)
      have hc9 := hI.has g1
      refine lv_bipush (v := nI 20) F.1 F.2.1 dX3_giveCorns_15 (by decide) ?_
      refine lv_aload_n F.1 F.2.1 dX3_giveCorns_17 rfl (lv_at hl 0 rfl) ?_
      refine k_get (v := .ref (a 0)) F nX3_giveCorns_X3 hK.1 hP 0 rfl rfl 0 (by decide) (List.mem_of_getElem? (i := 1) rfl) rfl dX3_giveCorns_18 ?_
      refine k_get (v := .ref (a 7)) F nX3_giveCorns_X0 hK.1 hP 1 rfl rfl 3 (by decide) (List.mem_of_getElem? (i := 2) rfl) rfl dX3_giveCorns_21 ?_
      refine k_get (v := .ref (a 10)) F nX3_giveCorns_X2 hK.1 hP 8 rfl rfl 3 (by decide) (List.mem_of_getElem? (i := 3) rfl) rfl dX3_giveCorns_24 ?_
      refine lv_iload_n F.1 F.2.1 dX3_giveCorns_27 rfl (lv_at hl 1 rfl) ?_
      refine k_iald (f := S 8) (n := 8) F hK.1 hP 11 0 rfl rfl (by omega) (by decide) dX3_giveCorns_28 ?_
      refine lv_iload_n F.1 F.2.1 dX3_giveCorns_29 rfl (lv_at hl 2 rfl) ?_
      refine k_iadd F dX3_giveCorns_30 ?_
      refine k_min F hl.1 (List.mem_of_getElem? (i := 4) rfl) (List.mem_of_getElem? (i := 5) rfl) (List.mem_of_getElem? (i := 6) rfl) (List.mem_of_getElem? (i := 7) rfl) (Nat.le_of_ble_eq_true rfl) (Nat.le_of_ble_eq_true rfl) ⟨show 0 + 1 + 1 ≤ 2 by omega, show 0 + 6 + 6 ≤ 12 by omega⟩ (by omega) (by omega) dX3_giveCorns_31 ?_
      refine lv_istore_n (lv' := [(3, .int (nI (min 20 (S 8 g1 + g2)))), (0, .ref (a 13)), (1, .int (nI g1)), (2, .int (nI g2))]) F.1 F.2.1 dX3_giveCorns_34 rfl hl (by decide) rfl (fun ls hl => ?_)
      refine lv_aload_n F.1 F.2.1 dX3_giveCorns_35 rfl (lv_at hl 1 rfl) ?_
      refine k_get (v := .ref (a 0)) F nX3_giveCorns_X3 hK.1 hP 0 rfl rfl 0 (by decide) (List.mem_of_getElem? (i := 1) rfl) rfl dX3_giveCorns_36 ?_
      refine k_get (v := .ref (a 7)) F nX3_giveCorns_X0 hK.1 hP 1 rfl rfl 3 (by decide) (List.mem_of_getElem? (i := 2) rfl) rfl dX3_giveCorns_39 ?_
      refine k_get (v := .ref (a 10)) F nX3_giveCorns_X2 hK.1 hP 8 rfl rfl 3 (by decide) (List.mem_of_getElem? (i := 3) rfl) rfl dX3_giveCorns_42 ?_
      refine lv_iload_n F.1 F.2.1 dX3_giveCorns_45 rfl (lv_at hl 2 rfl) ?_
      refine lv_iload_n F.1 F.2.1 dX3_giveCorns_46 rfl (lv_at hl 0 rfl) ?_
      refine k_iast (f := S 8) (n := 8) (k := g1) (x := (min 20 (S 8 g1 + g2))) F hK.1 hP hD hS 11 0 rfl rfl (by omega) (by decide) dX3_giveCorns_47 (wCo cI a b (setf S 8 g1 (min 20 (S 8 g1 + g2))) S2) rfl (fun H locs hP hD hS => ?_)
      refine lv_iload_n F.1 F.2.1 dX3_giveCorns_48 rfl (lv_at hl 0 rfl) ?_
      have e9 : rGive S (nI g1) (nI g2) = (0, nI (min 20 (S 8 g1 + g2)), (setf S 8 g1 (min 20 (S 8 g1 + g2)))) := by unfold rGive; (try rw [cl_nI (show g1 < 2 ^ 31 by omega)]); (try rw [cl_nI (show g2 < 2 ^ 31 by omega)]); rw [if_pos h2, if_pos h12] <;> rfl
      exact t_retI F hr hlk hP (by rw [e9] <;> rfl) hS (by rw [e9]; rfl) (by rw [e9] <;> rfl) rfl (show 0 + 1 + 1 ≤ 2 by omega) (show 0 + 6 + 6 ≤ 12 by omega) dX3_giveCorns_49
theorem nX3_bribe_X0 : ∀ x ∈ wsX00, x ∈ wsX3_bribe := fun _ h => List.mem_cons_of_mem _ (List.mem_append_left _ (List.mem_append_left _ (List.mem_append_left _ (List.mem_append_left _ (List.mem_append_right _ h)))))
theorem nX3_bribe_X1 : ∀ x ∈ wsX10, x ∈ wsX3_bribe := fun _ h => List.mem_cons_of_mem _ (List.mem_append_left _ (List.mem_append_left _ (List.mem_append_right _ h)))
theorem nX3_bribe_X2 : ∀ x ∈ wsX20, x ∈ wsX3_bribe := fun _ h => List.mem_cons_of_mem _ (List.mem_append_left _ (List.mem_append_left _ (List.mem_append_left _ (List.mem_append_right _ h))))
theorem nX3_bribe_X3 : ∀ x ∈ wsX30, x ∈ wsX3_bribe := fun _ h => List.mem_cons_of_mem _ (List.mem_append_left _ (List.mem_append_left _ (List.mem_append_left _ (List.mem_append_left _ (List.mem_append_left _ (List.mem_append_right _ h))))))
set_option maxRecDepth 100000 in
set_option maxHeartbeats 4000000 in
theorem c_X3_bribe (l : Launch) (D : va_G) (cI : ClassId) (hst : l.stackTraces = false) (a b : Nat → Nat) (S S2 : Nat → Nat → Nat) (x1 : Int32) (x2 : Int32) (hI : Inv S) : TI l yX3_bribe wsX3_bribe 8 3 136 D [(cI, .int)] [.ref (a 13), .int x1, .int x2] (wCo cI a b S S2) (wCo cI a b ((rBribe S x1 x2).2.2) S2) (exq ["java/lang/IndexOutOfBoundsException", "java/lang/IllegalStateException"] (rBribe S x1 x2).1) ((rBribe S x1 x2).2.1) := by
  refine k_bodyX (cc := cX3_bribe) (maxL := 3) (ret := (some .int)) (by decide) rfl (Nat.le_of_ble_eq_true rfl) ?_
  intro p e s m args below meth c H ls F hr hlk hl hP hK hD hS hX ht
  have F : CallFix p m c cX3_bribe 3 s args wsX3_bribe RX3 := F
  have hl : lv_has ls 3 [(0, .ref (a 13)), (1, .int x1), (2, .int x2)] := hl
  have hi0 := hI.gates
  have hi1 := hI.geese
  have hi2 := hI.guests
  refine lv_aload_n F.1 F.2.1 dX3_bribe_0 rfl (lv_at hl 0 rfl) ?_
  refine lv_iload_n F.1 F.2.1 dX3_bribe_1 rfl (lv_at hl 1 rfl) ?_
  refine t_demV (n := 1) (rest := []) F (c_X3_demandVisitor l D cI hst a b S S2 x1) gX3_bribe_X3_demandVisitor rfl (by decide +kernel) ⟨Nat.le_of_ble_eq_true rfl, Nat.le_of_ble_eq_true rfl⟩ rfl hl.1 rfl (Nat.le_of_ble_eq_true rfl) dX3_bribe_2 ⟨show 0 + 1 ≤ 3 by omega, show 0 + 6 ≤ 18 by omega⟩ hK hX hP hD hS ht hlk (show 0 + 1 ≤ 3 by omega) (show 0 + 6 ≤ 18 by omega) (fun h2 => ?_) (q0 := 0) (ci := 3) rfl rfl (fun h2 H locs hP hS => ?_)
  · skip
    have e9 : rBribe S x1 x2 = (1, nI 0, S) := by unfold rBribe; rw [if_neg (fun q => h2 q.1)] <;> rfl
    rw [e9]; rfl
  · skip
    refine lv_aload_n F.1 F.2.1 dX3_bribe_5 rfl (lv_at hl 0 rfl) ?_
    refine lv_iload_n F.1 F.2.1 dX3_bribe_6 rfl (lv_at hl 2 rfl) ?_
    refine t_demV (n := 1) (rest := []) F (c_X3_demandGoose l D cI hst a b S S2 x2) gX3_bribe_X3_demandGoose rfl (by decide +kernel) ⟨Nat.le_of_ble_eq_true rfl, Nat.le_of_ble_eq_true rfl⟩ rfl hl.1 rfl (Nat.le_of_ble_eq_true rfl) dX3_bribe_7 ⟨show 0 + 1 + 1 ≤ 3 by omega, show 0 + 6 + 6 ≤ 18 by omega⟩ hK hX hP hD hS ht hlk (show 0 + 1 + 1 ≤ 3 by omega) (show 0 + 6 + 6 ≤ 18 by omega) (fun h7 => ?_) (q0 := 0) (ci := 3) rfl rfl (fun h7 H locs hP hS => ?_)
    · skip
      have e9 : rBribe S x1 x2 = (1, nI 0, S) := by unfold rBribe; rw [if_neg (fun q => h7 q.2)] <;> rfl
      rw [e9]; rfl
    · skip
      obtain ⟨g1, hg1, rfl⟩ := lt_nI (by omega) h2
      obtain ⟨g2, hg2, rfl⟩ := lt_nI (by omega) h7
      have hc9 := hI.has g1
      have hk9 := hI.keep g2
      have hw9 := hI.went g1
      have hm9 := hI.mood1 g2 hg2
      refine lv_aload_n F.1 F.2.1 dX3_bribe_10 rfl (lv_at hl 0 rfl) ?_
      refine k_get (v := .ref (a 0)) F nX3_bribe_X3 hK.1 hP 0 rfl rfl 0 (by decide) (List.mem_of_getElem? (i := 1) rfl) rfl dX3_bribe_11 ?_
      refine k_get (v := .ref (a 7)) F nX3_bribe_X0 hK.1 hP 1 rfl rfl 3 (by decide) (List.mem_of_getElem? (i := 2) rfl) rfl dX3_bribe_14 ?_
      refine k_get (v := .ref (a 10)) F nX3_bribe_X2 hK.1 hP 8 rfl rfl 3 (by decide) (List.mem_of_getElem? (i := 3) rfl) rfl dX3_bribe_17 ?_
      refine lv_iload_n F.1 F.2.1 dX3_bribe_20 rfl (lv_at hl 1 rfl) ?_
      refine k_iald (f := S 8) (n := 8) F hK.1 hP 11 0 rfl rfl (by omega) (by decide) dX3_bribe_21 ?_
      refine k_if_le (tgt := 67) F (by omega) dX3_bribe_22 (by decide) (fun h22 => ?_) (fun h22 => ?_)
      · skip
        refine lv_iconst (v := nI 0) F.1 F.2.1 dX3_bribe_67 (by decide) ?_
        refine t_demS (n := 1) (rest := []) F (c_X3_demandState l D cI hst False) gX3_bribe_X3_demandState rfl (by decide +kernel) ⟨Nat.le_of_ble_eq_true rfl, Nat.le_of_ble_eq_true rfl⟩ rfl hl.1 rfl (Nat.le_of_ble_eq_true rfl) dX3_bribe_68 ⟨show 0 + 1 + 1 + 1 ≤ 3 by omega, show 0 + 6 + 6 + 6 ≤ 18 by omega⟩ hK hX hP hS ht hlk (show 0 + 1 + 1 + 1 ≤ 3 by omega) (show 0 + 6 + 6 + 6 ≤ 18 by omega) (fun h68 => ?_) (fun h68 H locs hP hS => ?_)
        · skip
          have e9 : rBribe S (nI g1) (nI g2) = (2, nI 0, S) := by unfold rBribe; (try rw [cl_nI (show g1 < 2 ^ 31 by omega)]); (try rw [cl_nI (show g2 < 2 ^ 31 by omega)]); rw [if_pos ⟨h2, h7⟩, if_neg (show ¬ (0 < S 8 g1 ∧ ¬ S 0 0 ≤ S 7 g1 ∧ S 2 g2 = S 7 g1) by omega)] <;> rfl
          rw [e9]; rfl
        · skip
          exact h68.elim
      · skip
        refine lv_aload_n F.1 F.2.1 dX3_bribe_25 rfl (lv_at hl 0 rfl) ?_
        refine k_get (v := .ref (a 0)) F nX3_bribe_X3 hK.1 hP 0 rfl rfl 0 (by decide) (List.mem_of_getElem? (i := 1) rfl) rfl dX3_bribe_26 ?_
        refine lv_iload_n F.1 F.2.1 dX3_bribe_29 rfl (lv_at hl 1 rfl) ?_
        refine k_pV (n := 1) (rest := []) (v := bI (S 0 0 ≤ S 7 g1)) F (c_X0_isBehindAll l D cI a S g1 hI (by first | assumption | omega)) gX3_bribe_X0_isBehindAll rfl (by decide +kernel) ⟨Nat.le_of_ble_eq_true rfl, Nat.le_of_ble_eq_true rfl⟩ rfl hl.1 rfl (Nat.le_of_ble_eq_true rfl) dX3_bribe_30 ⟨show 0 + 1 + 1 ≤ 3 by omega, show 0 + 6 + 6 ≤ 18 by omega⟩ hK hP hS [1, 2, 3, 4, 5, 6, 7, 8, 9, 10, 11, 12, 13] wCo_suba (q0 := 1) (ci := 0) rfl rfl (fun H locs hP hS => ?_)
        refine k_ifne_b (tgt := 67) F dX3_bribe_33 (by decide) (fun h33 => ?_) (fun h33 => ?_)
        · skip
          refine lv_iconst (v := nI 0) F.1 F.2.1 dX3_bribe_67 (by decide) ?_
          refine t_demS (n := 1) (rest := []) F (c_X3_demandState l D cI hst False) gX3_bribe_X3_demandState rfl (by decide +kernel) ⟨Nat.le_of_ble_eq_true rfl, Nat.le_of_ble_eq_true rfl⟩ rfl hl.1 rfl (Nat.le_of_ble_eq_true rfl) dX3_bribe_68 ⟨show 0 + 1 + 1 + 1 ≤ 3 by omega, show 0 + 6 + 6 + 6 ≤ 18 by omega⟩ hK hX hP hS ht hlk (show 0 + 1 + 1 + 1 ≤ 3 by omega) (show 0 + 6 + 6 + 6 ≤ 18 by omega) (fun h68 => ?_) (fun h68 H locs hP hS => ?_)
          · skip
            have e9 : rBribe S (nI g1) (nI g2) = (2, nI 0, S) := by unfold rBribe; (try rw [cl_nI (show g1 < 2 ^ 31 by omega)]); (try rw [cl_nI (show g2 < 2 ^ 31 by omega)]); rw [if_pos ⟨h2, h7⟩, if_neg (show ¬ (0 < S 8 g1 ∧ ¬ S 0 0 ≤ S 7 g1 ∧ S 2 g2 = S 7 g1) by omega)] <;> rfl
            rw [e9]; rfl
          · skip
            exact h68.elim
        · skip
          refine lv_aload_n F.1 F.2.1 dX3_bribe_36 rfl (lv_at hl 0 rfl) ?_
          refine k_get (v := .ref (a 0)) F nX3_bribe_X3 hK.1 hP 0 rfl rfl 0 (by decide) (List.mem_of_getElem? (i := 1) rfl) rfl dX3_bribe_37 ?_
          refine k_get (v := .ref (a 2)) F nX3_bribe_X0 hK.1 hP 1 rfl rfl 2 (by decide) (List.mem_of_getElem? (i := 4) rfl) rfl dX3_bribe_40 ?_
          refine k_get (v := .ref (a 3)) F nX3_bribe_X1 hK.1 hP 3 rfl rfl 1 (by decide) (List.mem_of_getElem? (i := 5) rfl) rfl dX3_bribe_43 ?_
          refine lv_iload_n F.1 F.2.1 dX3_bribe_46 rfl (lv_at hl 2 rfl) ?_
          refine k_iald (f := S 2) (n := 8) F hK.1 hP 4 0 rfl rfl (by omega) (by decide) dX3_bribe_47 ?_
          refine lv_aload_n F.1 F.2.1 dX3_bribe_48 rfl (lv_at hl 0 rfl) ?_
          refine k_get (v := .ref (a 0)) F nX3_bribe_X3 hK.1 hP 0 rfl rfl 0 (by decide) (List.mem_of_getElem? (i := 1) rfl) rfl dX3_bribe_49 ?_
          refine k_get (v := .ref (a 7)) F nX3_bribe_X0 hK.1 hP 1 rfl rfl 3 (by decide) (List.mem_of_getElem? (i := 2) rfl) rfl dX3_bribe_52 ?_
          refine k_get (v := .ref (a 11)) F nX3_bribe_X2 hK.1 hP 8 rfl rfl 4 (by decide) (List.mem_of_getElem? (i := 6) rfl) rfl dX3_bribe_55 ?_
          refine lv_iload_n F.1 F.2.1 dX3_bribe_58 rfl (lv_at hl 1 rfl) ?_
          refine k_iald (f := S 7) (n := 8) F hK.1 hP 12 0 rfl rfl (by omega) (by decide) dX3_bribe_59 ?_
          refine k_icmp_ne (tgt := 67) F (by omega) (by omega) dX3_bribe_60 (by decide) (fun h60 => ?_) (fun h60 => ?_)
          · skip
            refine lv_iconst (v := nI 0) F.1 F.2.1 dX3_bribe_67 (by decide) ?_
            refine t_demS (n := 1) (rest := []) F (c_X3_demandState l D cI hst False) gX3_bribe_X3_demandState rfl (by decide +kernel) ⟨Nat.le_of_ble_eq_true rfl, Nat.le_of_ble_eq_true rfl⟩ rfl hl.1 rfl (Nat.le_of_ble_eq_true rfl) dX3_bribe_68 ⟨show 0 + 1 + 1 + 1 ≤ 3 by omega, show 0 + 6 + 6 + 6 ≤ 18 by omega⟩ hK hX hP hS ht hlk (show 0 + 1 + 1 + 1 ≤ 3 by omega) (show 0 + 6 + 6 + 6 ≤ 18 by omega) (fun h68 => ?_) (fun h68 H locs hP hS => ?_)
            · skip
              have e9 : rBribe S (nI g1) (nI g2) = (2, nI 0, S) := by unfold rBribe; (try rw [cl_nI (show g1 < 2 ^ 31 by omega)]); (try rw [cl_nI (show g2 < 2 ^ 31 by omega)]); rw [if_pos ⟨h2, h7⟩, if_neg (show ¬ (0 < S 8 g1 ∧ ¬ S 0 0 ≤ S 7 g1 ∧ S 2 g2 = S 7 g1) by omega)] <;> rfl
              rw [e9]; rfl
            · skip
              exact h68.elim
          · skip
            refine lv_iconst (v := nI 1) F.1 F.2.1 dX3_bribe_63 (by decide) ?_
            refine lv_goto (tgt := 68) F.1 F.2.1 dX3_bribe_64 (by decide) ?_
            refine t_demS (n := 1) (rest := []) F (c_X3_demandState l D cI hst True) gX3_bribe_X3_demandState rfl (by decide +kernel) ⟨Nat.le_of_ble_eq_true rfl, Nat.le_of_ble_eq_true rfl⟩ rfl hl.1 rfl (Nat.le_of_ble_eq_true rfl) dX3_bribe_68 ⟨show 0 + 1 + 1 + 1 ≤ 3 by omega, show 0 + 6 + 6 + 6 ≤ 18 by omega⟩ hK hX hP hS ht hlk (show 0 + 1 + 1 + 1 ≤ 3 by omega) (show 0 + 6 + 6 + 6 ≤ 18 by omega) (fun h68 => ?_) (fun h68 H locs hP hS => ?_)
            · skip
              exact absurd trivial h68
            · skip
              refine lv_aload_n F.1 F.2.1 dX3_bribe_71 rfl (lv_at hl 0 rfl) ?_
              refine k_get (v := .ref (a 0)) F nX3_bribe_X3 hK.1 hP 0 rfl rfl 0 (by decide) (List.mem_of_getElem? (i := 1) rfl) rfl dX3_bribe_72 ?_
              refine lv_iload_n F.1 F.2.1 dX3_bribe_75 rfl (lv_at hl 1 rfl) ?_
              refine lv_iload_n F.1 F.2.1 dX3_bribe_76 rfl (lv_at hl 2 rfl) ?_
              refine k_mV (n := 2) (rest := []) F (c_X0_payGoose l D cI a S g1 g2 hI (by first | assumption | omega) (by first | assumption | omega) (by first | assumption | omega) (by first | assumption | omega)) gX3_bribe_X0_payGoose rfl (by decide +kernel) ⟨Nat.le_of_ble_eq_true rfl, Nat.le_of_ble_eq_true rfl⟩ rfl hl.1 rfl (Nat.le_of_ble_eq_true rfl) dX3_bribe_77 ⟨show 0 + 1 + 1 + 1 ≤ 3 by omega, show 0 + 6 + 6 + 6 ≤ 18 by omega⟩ hK hP hD hS [1, 2, 3, 4, 5, 6, 7, 8, 9, 10, 11, 12, 13] wCo_suba rfl rfl (wCo cI a b (payS S g1 g2) S2) wCo_msa wCo_ad (q0 := 1) (ci := 0) rfl rfl (fun H locs hP hD hS => ?_)
              refine lv_aload_n F.1 F.2.1 dX3_bribe_80 rfl (lv_at hl 0 rfl) ?_
              refine k_get (v := .ref (a 0)) F nX3_bribe_X3 hK.1 hP 0 rfl rfl 0 (by decide) (List.mem_of_getElem? (i := 1) rfl) rfl dX3_bribe_81 ?_
              refine k_get (v := .ref (a 2)) F nX3_bribe_X0 hK.1 hP 1 rfl rfl 2 (by decide) (List.mem_of_getElem? (i := 4) rfl) rfl dX3_bribe_84 ?_
              refine k_get (v := .ref (a 4)) F nX3_bribe_X1 hK.1 hP 3 rfl rfl 2 (by decide) (List.mem_of_getElem? (i := 7) rfl) rfl dX3_bribe_87 ?_
              refine lv_iload_n F.1 F.2.1 dX3_bribe_90 rfl (lv_at hl 2 rfl) ?_
              refine k_iald (f := (payS S g1 g2) 3) (n := 8) F hK.1 hP 5 0 rfl rfl (by omega) (by decide) dX3_bribe_91 ?_
              rw [pay_k]
              have e9 : rBribe S (nI g1) (nI g2) = (0, nI (max 1 (S 3 g2 - 1)), payS S g1 g2) := by unfold rBribe; (try rw [cl_nI (show g1 < 2 ^ 31 by omega)]); (try rw [cl_nI (show g2 < 2 ^ 31 by omega)]); rw [if_pos ⟨h2, h7⟩, if_pos (show 0 < S 8 g1 ∧ ¬ S 0 0 ≤ S 7 g1 ∧ S 2 g2 = S 7 g1 by omega)] <;> rfl
              exact t_retI F hr hlk hP (by rw [e9] <;> rfl) hS (by rw [e9]; rfl) (by rw [e9] <;> rfl) rfl (show 0 + 1 + 1 + 1 ≤ 3 by omega) (show 0 + 6 + 6 + 6 ≤ 18 by omega) dX3_bribe_92
theorem nX3_passBeats_X3 : ∀ x ∈ wsX30, x ∈ wsX3_passBeats := fun _ h => List.mem_cons_of_mem _ (List.mem_append_left _ (List.mem_append_left _ (List.mem_append_left _ (List.mem_append_left _ (List.mem_append_right _ h)))))
set_option maxRecDepth 100000 in
set_option maxHeartbeats 4000000 in
theorem c_X3_passBeats (l : Launch) (D : va_G) (cI : ClassId) (hst : l.stackTraces = false) (a b : Nat → Nat) (S S2 : Nat → Nat → Nat) (x1 : Int32) (hI : Inv S) : TI l yX3_passBeats wsX3_passBeats 7 1 135 D [(cI, .int)] [.ref (a 13), .int x1] (wCo cI a b S S2) (wCo cI a b ((rPass S x1).2.2) S2) (exq ["java/lang/IllegalArgumentException"] (rPass S x1).1) ((rPass S x1).2.1) := by
  refine k_bodyX (cc := cX3_passBeats) (maxL := 3) (ret := (some .int)) (by decide) rfl (Nat.le_of_ble_eq_true rfl) ?_
  intro p e s m args below meth c H ls F hr hlk hl hP hK hD hS hX ht
  have F : CallFix p m c cX3_passBeats 3 s args wsX3_passBeats RX3 := F
  have hl : lv_has ls 3 [(0, .ref (a 13)), (1, .int x1)] := hl
  have hi0 := hI.gates
  have hi1 := hI.geese
  have hi2 := hI.guests
  refine lv_iload_n F.1 F.2.1 dX3_passBeats_0 rfl (lv_at hl 1 rfl) ?_
  refine k_pS (n := 1) (rest := []) (v := bI (nI 1 ≤ x1 ∧ x1 ≤ nI 60)) F (c_X3_isBeats l D cI x1) gX3_passBeats_X3_isBeats rfl (by decide +kernel) ⟨Nat.le_of_ble_eq_true rfl, Nat.le_of_ble_eq_true rfl⟩ rfl hl.1 rfl (Nat.le_of_ble_eq_true rfl) dX3_passBeats_1 ⟨show 0 ≤ 1 by omega, show 0 ≤ 6 by omega⟩ hK hP hS (fun H locs hP hS => ?_)
  refine t_demS (n := 1) (rest := []) F (c_X3_demandArgument l D cI hst (nI 1 ≤ x1 ∧ x1 ≤ nI 60)) gX3_passBeats_X3_demandArgument rfl (by decide +kernel) ⟨Nat.le_of_ble_eq_true rfl, Nat.le_of_ble_eq_true rfl⟩ rfl hl.1 rfl (Nat.le_of_ble_eq_true rfl) dX3_passBeats_4 ⟨show 0 + 1 ≤ 1 by omega, show 0 + 6 ≤ 6 by omega⟩ hK hX hP hS ht hlk (show 0 + 1 ≤ 1 by omega) (show 0 + 6 ≤ 6 by omega) (fun h4 => ?_) (fun h4 H locs hP hS => ?_)
  · skip
    have e9 : rPass S x1 = (1, nI 0, S) := by unfold rPass; rw [if_neg h4] <;> rfl
    rw [e9]; rfl
  · skip
    obtain ⟨g1, hg1, rfl⟩ := in_nI (by decide) h4 (by decide)
    refine lv_aload_n F.1 F.2.1 dX3_passBeats_7 rfl (lv_at hl 0 rfl) ?_
    refine k_get (v := .ref (a 0)) F nX3_passBeats_X3 hK.1 hP 0 rfl rfl 0 (by decide) (List.mem_of_getElem? (i := 1) rfl) rfl dX3_passBeats_8 ?_
    refine k_pV (n := 0) (rest := []) (v := nI (inN S (S 0 2))) F (c_X0_countInside l D cI a S (by first | exact hI | exact inv_beatsN hI _)) gX3_passBeats_X0_countInside rfl (by decide +kernel) ⟨Nat.le_of_ble_eq_true rfl, Nat.le_of_ble_eq_true rfl⟩ rfl hl.1 rfl (Nat.le_of_ble_eq_true rfl) dX3_passBeats_11 ⟨show 0 + 1 ≤ 1 by omega, show 0 + 6 ≤ 6 by omega⟩ hK hP hS [1, 2, 3, 4, 5, 6, 7, 8, 9, 10, 11, 12, 13] wCo_suba (q0 := 1) (ci := 0) rfl rfl (fun H locs hP hS => ?_)
    refine lv_istore_n (lv' := [(2, .int (nI (inN S (S 0 2)))), (0, .ref (a 13)), (1, .int (nI g1))]) F.1 F.2.1 dX3_passBeats_14 rfl hl (by decide) rfl (fun ls hl => ?_)
    refine lv_aload_n F.1 F.2.1 dX3_passBeats_15 rfl (lv_at hl 1 rfl) ?_
    refine k_get (v := .ref (a 0)) F nX3_passBeats_X3 hK.1 hP 0 rfl rfl 0 (by decide) (List.mem_of_getElem? (i := 1) rfl) rfl dX3_passBeats_16 ?_
    refine lv_iload_n F.1 F.2.1 dX3_passBeats_19 rfl (lv_at hl 2 rfl) ?_
    refine k_mV (n := 1) (rest := []) F (c_X0_runBeats l D cI a S g1 hI (by first | assumption | omega)) gX3_passBeats_X0_runBeats rfl (by decide +kernel) ⟨Nat.le_of_ble_eq_true rfl, Nat.le_of_ble_eq_true rfl⟩ rfl hl.1 rfl (Nat.le_of_ble_eq_true rfl) dX3_passBeats_20 ⟨show 0 + 1 ≤ 1 by omega, show 0 + 6 ≤ 6 by omega⟩ hK hP hD hS [1, 2, 3, 4, 5, 6, 7, 8, 9, 10, 11, 12, 13] wCo_suba rfl rfl (wCo cI a b (beatsN S g1) S2) wCo_msa wCo_ad (q0 := 1) (ci := 0) rfl rfl (fun H locs hP hD hS => ?_)
    refine lv_aload_n F.1 F.2.1 dX3_passBeats_23 rfl (lv_at hl 1 rfl) ?_
    refine k_get (v := .ref (a 0)) F nX3_passBeats_X3 hK.1 hP 0 rfl rfl 0 (by decide) (List.mem_of_getElem? (i := 1) rfl) rfl dX3_passBeats_24 ?_
    refine k_pV (n := 0) (rest := []) (v := nI (inN (beatsN S g1) ((beatsN S g1) 0 2))) F (c_X0_countInside l D cI a (beatsN S g1) (by first | exact hI | exact inv_beatsN hI _)) gX3_passBeats_X0_countInside rfl (by decide +kernel) ⟨Nat.le_of_ble_eq_true rfl, Nat.le_of_ble_eq_true rfl⟩ rfl hl.1 rfl (Nat.le_of_ble_eq_true rfl) dX3_passBeats_27 ⟨show 0 + 1 ≤ 1 by omega, show 0 + 6 ≤ 6 by omega⟩ hK hP hS [1, 2, 3, 4, 5, 6, 7, 8, 9, 10, 11, 12, 13] wCo_suba (q0 := 1) (ci := 0) rfl rfl (fun H locs hP hS => ?_)
    refine lv_iload_n F.1 F.2.1 dX3_passBeats_30 rfl (lv_at hl 0 rfl) ?_
    refine lv_isub F.1 F.2.1 dX3_passBeats_31 ?_
    have e9 : rPass S (nI g1) = (0, (nI (inN (beatsN S g1) ((beatsN S g1) 0 2)) - nI (inN S (S 0 2))), beatsN S g1) := by unfold rPass; (try rw [cl_nI (show g1 < 2 ^ 31 by omega)]); rw [if_pos h4] <;> rfl
    exact t_retI F hr hlk hP (by rw [e9] <;> rfl) hS (by rw [e9]; rfl) (by rw [e9] <;> rfl) rfl (show 0 + 1 ≤ 1 by omega) (show 0 + 6 ≤ 6 by omega) dX3_passBeats_32
