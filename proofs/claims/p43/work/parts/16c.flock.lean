theorem nX1_hasGoose_X1 : ∀ x ∈ wsX10, x ∈ wsX1_hasGoose := fun _ h => List.mem_cons_of_mem _ (List.mem_append_right _ h)
set_option maxRecDepth 100000 in
set_option maxHeartbeats 4000000 in
theorem c_X1_hasGoose (l : Launch) (D : va_G) (cI : ClassId) (a : Nat → Nat) (S : Nat → Nat → Nat) (g : Int32) : PI l yX1_hasGoose wsX1_hasGoose 0 0 D [(cI, .int)] [.ref (a 2), .int g] (wFl cI a S) (bI (0 ≤ g ∧ g < nI (S 0 1))) := by
  refine k_bodyP (cc := cX1_hasGoose) (maxL := 2) (ret := (some .boolean)) (by decide) rfl (Nat.le_of_ble_eq_true rfl) ?_
  intro p e s m args below meth c H ls F hr hlk hl hP hK hS
  have F : CallFix p m c cX1_hasGoose 2 s args wsX1_hasGoose RX1 := F
  have hl : lv_has ls 2 [(0, .ref (a 2)), (1, .int g)] := hl
  refine lv_iload_n F.1 F.2.1 dX1_hasGoose_0 rfl (lv_at hl 1 rfl) ?_
  refine lv_if_lt (tgt := 16) F.1 F.2.1 dX1_hasGoose_1 (by decide) (fun h1 => ?_) (fun h1 => ?_)
  · skip
    refine lv_iconst (v := nI 0) F.1 F.2.1 dX1_hasGoose_16 (by decide) ?_
    exact k_retP F hr hlk hS (fin0 (by first | exact fun q => absurd h1 (Int32.not_lt.mpr q.1) | exact fun q => absurd h9 (Int32.not_le.mpr q.2))) (by first | rfl | (split <;> rfl)) dX1_hasGoose_17
  · skip
    refine lv_iload_n F.1 F.2.1 dX1_hasGoose_4 rfl (lv_at hl 1 rfl) ?_
    refine lv_aload_n F.1 F.2.1 dX1_hasGoose_5 rfl (lv_at hl 0 rfl) ?_
    refine k_get (v := .int (nI (S 0 1))) F nX1_hasGoose_X1 hK.1 hP 0 rfl rfl 0 (by decide) (List.mem_of_getElem? (i := 1) rfl) rfl dX1_hasGoose_6 ?_
    refine lv_icmp_ge (tgt := 16) F.1 F.2.1 dX1_hasGoose_9 (by decide) (fun h9 => ?_) (fun h9 => ?_)
    · skip
      refine lv_iconst (v := nI 0) F.1 F.2.1 dX1_hasGoose_16 (by decide) ?_
      exact k_retP F hr hlk hS (fin0 (by first | exact fun q => absurd h1 (Int32.not_lt.mpr q.1) | exact fun q => absurd h9 (Int32.not_le.mpr q.2))) (by first | rfl | (split <;> rfl)) dX1_hasGoose_17
    · skip
      refine lv_iconst (v := nI 1) F.1 F.2.1 dX1_hasGoose_12 (by decide) ?_
      refine lv_goto (tgt := 17) F.1 F.2.1 dX1_hasGoose_13 (by decide) ?_
      exact k_retP F hr hlk hS (fin1 (by exact ⟨Int32.not_lt.mp h1, Int32.not_le.mp h9⟩)) (by first | rfl | (split <;> rfl)) dX1_hasGoose_17
theorem nX1_isAwakeThere_X1 : ∀ x ∈ wsX10, x ∈ wsX1_isAwakeThere := fun _ h => List.mem_cons_of_mem _ (List.mem_append_right _ h)
set_option maxRecDepth 100000 in
set_option maxHeartbeats 4000000 in
theorem c_X1_isAwakeThere (l : Launch) (D : va_G) (cI : ClassId) (a : Nat → Nat) (S : Nat → Nat → Nat) (k : Nat) (t : Nat) (hb : Bk S) (hk : k < 8) (ht : t < 2 ^ 31) : PI l yX1_isAwakeThere wsX1_isAwakeThere 0 0 D [(cI, .int)] [.ref (a 2), .int (nI k), .int (nI t)] (wFl cI a S) (bI (S 2 k = t ∧ S 4 k = 0)) := by
  refine k_bodyP (cc := cX1_isAwakeThere) (maxL := 3) (ret := (some .boolean)) (by decide) rfl (Nat.le_of_ble_eq_true rfl) ?_
  intro p e s m args below meth c H ls F hr hlk hl hP hK hS
  have F : CallFix p m c cX1_isAwakeThere 3 s args wsX1_isAwakeThere RX1 := F
  have hl : lv_has ls 3 [(0, .ref (a 2)), (1, .int (nI k)), (2, .int (nI t))] := hl
  refine lv_aload_n F.1 F.2.1 dX1_isAwakeThere_0 rfl (lv_at hl 0 rfl) ?_
  refine k_get (v := .ref (a 3)) F nX1_isAwakeThere_X1 hK.1 hP 0 rfl rfl 1 (by decide) (List.mem_of_getElem? (i := 1) rfl) rfl dX1_isAwakeThere_1 ?_
  refine lv_iload_n F.1 F.2.1 dX1_isAwakeThere_4 rfl (lv_at hl 1 rfl) ?_
  refine k_iald (f := S 2) (n := 8) F hK.1 hP 1 0 rfl rfl (by omega) (by decide) dX1_isAwakeThere_5 ?_
  have := (hb k).1
  refine lv_iload_n F.1 F.2.1 dX1_isAwakeThere_6 rfl (lv_at hl 2 rfl) ?_
  refine k_icmp_ne (tgt := 23) F (by omega) (by omega) dX1_isAwakeThere_7 (by decide) (fun h7 => ?_) (fun h7 => ?_)
  · skip
    refine lv_iconst (v := nI 0) F.1 F.2.1 dX1_isAwakeThere_23 (by decide) ?_
    exact k_retP F hr hlk hS (fin0 (by omega)) (by first | rfl | (split <;> rfl)) dX1_isAwakeThere_24
  · skip
    refine lv_aload_n F.1 F.2.1 dX1_isAwakeThere_10 rfl (lv_at hl 0 rfl) ?_
    refine k_get (v := .ref (a 5)) F nX1_isAwakeThere_X1 hK.1 hP 0 rfl rfl 3 (by decide) (List.mem_of_getElem? (i := 2) rfl) rfl dX1_isAwakeThere_11 ?_
    refine lv_iload_n F.1 F.2.1 dX1_isAwakeThere_14 rfl (lv_at hl 1 rfl) ?_
    refine k_iald (f := S 4) (n := 8) F hK.1 hP 3 0 rfl rfl (by omega) (by decide) dX1_isAwakeThere_15 ?_
    have := (hb k).2
    refine k_if_ne (tgt := 23) F (by omega) dX1_isAwakeThere_16 (by decide) (fun h16 => ?_) (fun h16 => ?_)
    · skip
      refine lv_iconst (v := nI 0) F.1 F.2.1 dX1_isAwakeThere_23 (by decide) ?_
      exact k_retP F hr hlk hS (fin0 (by omega)) (by first | rfl | (split <;> rfl)) dX1_isAwakeThere_24
    · skip
      refine lv_iconst (v := nI 1) F.1 F.2.1 dX1_isAwakeThere_19 (by decide) ?_
      refine lv_goto (tgt := 24) F.1 F.2.1 dX1_isAwakeThere_20 (by decide) ?_
      exact k_retP F hr hlk hS (fin1 (by omega)) (by first | rfl | (split <;> rfl)) dX1_isAwakeThere_24
theorem nX1_countAwake_X1 : ∀ x ∈ wsX10, x ∈ wsX1_countAwake := fun _ h => List.mem_cons_of_mem _ (List.mem_append_right _ h)
set_option maxRecDepth 100000 in
set_option maxHeartbeats 4000000 in
theorem c_X1_countAwake (l : Launch) (D : va_G) (cI : ClassId) (a : Nat → Nat) (S : Nat → Nat → Nat) (t : Nat) (hb : Bd S) (ht : t < 2 ^ 31) : PI l yX1_countAwake wsX1_countAwake 1 22 D [(cI, .int)] [.ref (a 2), .int (nI t)] (wFl cI a S) (nI (cntN S t (S 0 1))) := by
  refine k_bodyP (cc := cX1_countAwake) (maxL := 4) (ret := (some .int)) (by decide) rfl (Nat.le_of_ble_eq_true rfl) ?_
  intro p e s m args below meth c H ls F hr hlk hl hP hK hS
  have F : CallFix p m c cX1_countAwake 4 s args wsX1_countAwake RX1 := F
  have hl : lv_has ls 4 [(0, .ref (a 2)), (1, .int (nI t))] := hl
  have hn := hb.1
  refine lv_iconst (v := nI 0) F.1 F.2.1 dX1_countAwake_0 (by decide) ?_
  refine lv_istore_n (lv' := [(2, .int (nI 0)), (0, .ref (a 2)), (1, .int (nI t))]) F.1 F.2.1 dX1_countAwake_1 rfl hl (by decide) rfl (fun ls hl => ?_)
  refine lv_iconst (v := nI 0) F.1 F.2.1 dX1_countAwake_2 (by decide) ?_
  refine lv_istore_n (lv' := [(3, .int (nI 0)), (2, .int (nI 0)), (0, .ref (a 2)), (1, .int (nI t))]) F.1 F.2.1 dX1_countAwake_3 rfl hl (by decide) rfl (fun ls hl => ?_)
  have loop4 : ∀ (n : Nat) (i : Nat), i ≤ S 0 1 → S 0 1 + 1 ≤ i + n → ∀ (H : Heap) (locs : List Loc) (ls : Array Slot), va_P D vwCl (wFl cI a S) H → va_S (fun _ => False) s.heap H locs → lv_has ls 4 [(0, .ref (a 2)), (1, .int (nI t)), (2, .int (nI (cntN S t i))), (3, .int (nI i))] → W p l e (rmN 1 22) s m args below meth c H locs (0) (0) (QPI below args s (nI (cntN S t (S 0 1)))) (F0 m 4 ls []) := by
    intro n
    induction n with
    | zero => intro i hi hn; exact absurd hn (by omega)
    | succ n ih4 =>
      intro i hi hn  H locs ls hP hS hl
      refine lv_iload_n F.1 F.2.1 dX1_countAwake_4 rfl (lv_at hl 3 rfl) ?_
      refine lv_aload_n F.1 F.2.1 dX1_countAwake_5 rfl (lv_at hl 0 rfl) ?_
      refine k_get (v := .int (nI (S 0 1))) F nX1_countAwake_X1 hK.1 hP 0 rfl rfl 0 (by decide) (List.mem_of_getElem? (i := 1) rfl) rfl dX1_countAwake_6 ?_
      refine k_icmp_ge (tgt := 30) F (by omega) (by omega) dX1_countAwake_9 (by decide) (fun h9 => ?_) (fun h9 => ?_)
      · skip
        refine lv_iload_n F.1 F.2.1 dX1_countAwake_30 rfl (lv_at hl 2 rfl) ?_
        exact k_retP F hr hlk hS (by rw [show i = S 0 1 by omega]) rfl dX1_countAwake_31
      · skip
        refine lv_aload_n F.1 F.2.1 dX1_countAwake_12 rfl (lv_at hl 0 rfl) ?_
        refine lv_iload_n F.1 F.2.1 dX1_countAwake_13 rfl (lv_at hl 3 rfl) ?_
        refine lv_iload_n F.1 F.2.1 dX1_countAwake_14 rfl (lv_at hl 1 rfl) ?_
        refine k_pV (n := 2) (rest := []) (v := bI (S 2 i = t ∧ S 4 i = 0)) F (c_X1_isAwakeThere l D cI a S i t hb.k (by first | assumption | omega) (by first | assumption | omega)) gX1_countAwake_X1_isAwakeThere rfl (by decide +kernel) ⟨Nat.le_of_ble_eq_true rfl, Nat.le_of_ble_eq_true rfl⟩ rfl hl.1 rfl (Nat.le_of_ble_eq_true rfl) dX1_countAwake_15 ⟨Nat.zero_le _, Nat.zero_le _⟩ hK hP hS [0, 1, 2, 3, 4] rfl (q0 := 0) (ci := 1) rfl rfl (fun H locs hP hS => ?_)
        refine k_ifeq_b (tgt := 24) F dX1_countAwake_18 (by decide) (fun h18 => ?_) (fun h18 => ?_)
        · skip
          refine k_inc (k := 3) (lv' := [(3, .int (nI (i + 1))), (0, .ref (a 2)), (1, .int (nI t)), (2, .int (nI (cntN S t i)))]) F dX1_countAwake_24 hl rfl (by decide) rfl (fun ls hl => ?_)
          refine lv_goto (tgt := 4) F.1 F.2.1 dX1_countAwake_27 (by decide) ?_
          have e_1 : cntN S t i = cntN S t (i + 1) := by first | rfl | (simp [cntN, *]; done)
          rw [e_1] at hl
          exact ih4 (i + 1) (by omega) (by omega)  _ _ _ hP hS (lv_sub hl [1, 2, 3, 0] rfl)
        · skip
          refine k_inc (k := 2) (lv' := [(2, .int (nI (cntN S t i + 1))), (0, .ref (a 2)), (1, .int (nI t)), (3, .int (nI i))]) F dX1_countAwake_21 hl rfl (by decide) rfl (fun ls hl => ?_)
          refine k_inc (k := 3) (lv' := [(3, .int (nI (i + 1))), (2, .int (nI (cntN S t i + 1))), (0, .ref (a 2)), (1, .int (nI t))]) F dX1_countAwake_24 hl rfl (by decide) rfl (fun ls hl => ?_)
          refine lv_goto (tgt := 4) F.1 F.2.1 dX1_countAwake_27 (by decide) ?_
          have e_2 : (cntN S t i + 1) = cntN S t (i + 1) := by first | rfl | (simp [cntN, *]; done)
          rw [e_2] at hl
          exact ih4 (i + 1) (by omega) (by omega)  _ _ _ hP hS (lv_sub hl [2, 3, 1, 0] rfl)
  have e_3 : 0 = cntN S t 0 := by first | rfl | (simp [cntN, *]; done)
  rw [e_3] at hl
  exact loop4 ((S 0 1) + 1) 0 (by omega) (by omega)  _ _ _ hP hS (lv_sub hl [2, 3, 1, 0] rfl)
theorem nX1_hissThere_X1 : ∀ x ∈ wsX10, x ∈ wsX1_hissThere := fun _ h => List.mem_cons_of_mem _ (List.mem_append_right _ h)
set_option maxRecDepth 100000 in
set_option maxHeartbeats 4000000 in
theorem c_X1_hissThere (l : Launch) (D : va_G) (cI : ClassId) (a : Nat → Nat) (S : Nat → Nat → Nat) (t : Nat) (x : Nat) (hb : Bd S) (ht : t < 2 ^ 31) : PI l yX1_hissThere wsX1_hissThere 1 22 D [(cI, .int)] [.ref (a 2), .int (nI t), .int (nI x)] (wFl cI a S) (nI (hisN S t x (S 0 1))) := by
  refine k_bodyP (cc := cX1_hissThere) (maxL := 5) (ret := (some .int)) (by decide) rfl (Nat.le_of_ble_eq_true rfl) ?_
  intro p e s m args below meth c H ls F hr hlk hl hP hK hS
  have F : CallFix p m c cX1_hissThere 5 s args wsX1_hissThere RX1 := F
  have hl : lv_has ls 5 [(0, .ref (a 2)), (1, .int (nI t)), (2, .int (nI x))] := hl
  have hn := hb.1
  refine lv_iconst (v := nI 0) F.1 F.2.1 dX1_hissThere_0 (by decide) ?_
  refine lv_istore_n (lv' := [(3, .int (nI 0)), (0, .ref (a 2)), (1, .int (nI t)), (2, .int (nI x))]) F.1 F.2.1 dX1_hissThere_1 rfl hl (by decide) rfl (fun ls hl => ?_)
  refine lv_iconst (v := nI 0) F.1 F.2.1 dX1_hissThere_2 (by decide) ?_
  refine lv_istore (lv' := [(4, .int (nI 0)), (3, .int (nI 0)), (0, .ref (a 2)), (1, .int (nI t)), (2, .int (nI x))]) F.1 F.2.1 dX1_hissThere_3 hl (by decide) rfl (fun ls hl => ?_)
  have loop5 : ∀ (n : Nat) (i : Nat), i ≤ S 0 1 → S 0 1 + 1 ≤ i + n → ∀ (H : Heap) (locs : List Loc) (ls : Array Slot), va_P D vwCl (wFl cI a S) H → va_S (fun _ => False) s.heap H locs → lv_has ls 5 [(0, .ref (a 2)), (1, .int (nI t)), (2, .int (nI x)), (3, .int (nI (hisN S t x i))), (4, .int (nI i))] → W p l e (rmN 1 22) s m args below meth c H locs (0) (0) (QPI below args s (nI (hisN S t x (S 0 1)))) (F0 m 5 ls []) := by
    intro n
    induction n with
    | zero => intro i hi hn; exact absurd hn (by omega)
    | succ n ih5 =>
      intro i hi hn  H locs ls hP hS hl
      refine lv_iload F.1 F.2.1 dX1_hissThere_5 (lv_at hl 4 rfl) ?_
      refine lv_aload_n F.1 F.2.1 dX1_hissThere_7 rfl (lv_at hl 0 rfl) ?_
      refine k_get (v := .int (nI (S 0 1))) F nX1_hissThere_X1 hK.1 hP 0 rfl rfl 0 (by decide) (List.mem_of_getElem? (i := 1) rfl) rfl dX1_hissThere_8 ?_
      refine k_icmp_ge (tgt := 42) F (by omega) (by omega) dX1_hissThere_11 (by decide) (fun h11 => ?_) (fun h11 => ?_)
      · skip
        refine lv_iload_n F.1 F.2.1 dX1_hissThere_42 rfl (lv_at hl 3 rfl) ?_
        exact k_retP F hr hlk hS (by rw [show i = S 0 1 by omega]) rfl dX1_hissThere_43
      · skip
        refine lv_aload_n F.1 F.2.1 dX1_hissThere_14 rfl (lv_at hl 0 rfl) ?_
        refine lv_iload F.1 F.2.1 dX1_hissThere_15 (lv_at hl 4 rfl) ?_
        refine lv_iload_n F.1 F.2.1 dX1_hissThere_17 rfl (lv_at hl 1 rfl) ?_
        refine k_pV (n := 2) (rest := []) (v := bI (S 2 i = t ∧ S 4 i = 0)) F (c_X1_isAwakeThere l D cI a S i t hb.k (by first | assumption | omega) (by first | assumption | omega)) gX1_hissThere_X1_isAwakeThere rfl (by decide +kernel) ⟨Nat.le_of_ble_eq_true rfl, Nat.le_of_ble_eq_true rfl⟩ rfl hl.1 rfl (Nat.le_of_ble_eq_true rfl) dX1_hissThere_18 ⟨Nat.zero_le _, Nat.zero_le _⟩ hK hP hS [0, 1, 2, 3, 4] rfl (q0 := 0) (ci := 1) rfl rfl (fun H locs hP hS => ?_)
        refine k_ifeq_b (tgt := 36) F dX1_hissThere_21 (by decide) (fun h21 => ?_) (fun h21 => ?_)
        · skip
          refine k_inc (k := 4) (lv' := [(4, .int (nI (i + 1))), (0, .ref (a 2)), (1, .int (nI t)), (2, .int (nI x)), (3, .int (nI (hisN S t x i)))]) F dX1_hissThere_36 hl rfl (by decide) rfl (fun ls hl => ?_)
          refine lv_goto (tgt := 5) F.1 F.2.1 dX1_hissThere_39 (by decide) ?_
          have e_1 : hisN S t x i = hisN S t x (i + 1) := by first | rfl | (simp [hisN, *]; done)
          rw [e_1] at hl
          exact ih5 (i + 1) (by omega) (by omega)  _ _ _ hP hS (lv_sub hl [1, 2, 3, 4, 0] rfl)
        · skip
          refine lv_iload_n F.1 F.2.1 dX1_hissThere_24 rfl (lv_at hl 3 rfl) ?_
          refine lv_aload_n F.1 F.2.1 dX1_hissThere_25 rfl (lv_at hl 0 rfl) ?_
          refine k_get (v := .ref (a 4)) F nX1_hissThere_X1 hK.1 hP 0 rfl rfl 2 (by decide) (List.mem_of_getElem? (i := 2) rfl) rfl dX1_hissThere_26 ?_
          refine lv_iload F.1 F.2.1 dX1_hissThere_29 (lv_at hl 4 rfl) ?_
          refine k_iald (f := S 3) (n := 8) F hK.1 hP 2 0 rfl rfl (by omega) (by decide) dX1_hissThere_31 ?_
          refine lv_iload_n F.1 F.2.1 dX1_hissThere_32 rfl (lv_at hl 2 rfl) ?_
          refine k_iadd F dX1_hissThere_33 ?_
          refine k_iadd F dX1_hissThere_34 ?_
          refine lv_istore_n (lv' := [(3, .int (nI (hisN S t x i + (S 3 i + x)))), (0, .ref (a 2)), (1, .int (nI t)), (2, .int (nI x)), (4, .int (nI i))]) F.1 F.2.1 dX1_hissThere_35 rfl hl (by decide) rfl (fun ls hl => ?_)
          refine k_inc (k := 4) (lv' := [(4, .int (nI (i + 1))), (3, .int (nI (hisN S t x i + (S 3 i + x)))), (0, .ref (a 2)), (1, .int (nI t)), (2, .int (nI x))]) F dX1_hissThere_36 hl rfl (by decide) rfl (fun ls hl => ?_)
          refine lv_goto (tgt := 5) F.1 F.2.1 dX1_hissThere_39 (by decide) ?_
          have e_2 : (hisN S t x i + (S 3 i + x)) = hisN S t x (i + 1) := by first | rfl | (simp [hisN, *]; done)
          rw [e_2] at hl
          exact ih5 (i + 1) (by omega) (by omega)  _ _ _ hP hS (lv_sub hl [2, 3, 4, 1, 0] rfl)
  have e_3 : 0 = hisN S t x 0 := by first | rfl | (simp [hisN, *]; done)
  rw [e_3] at hl
  exact loop5 ((S 0 1) + 1) 0 (by omega) (by omega)  _ _ _ hP hS (lv_sub hl [2, 3, 4, 1, 0] rfl)
theorem nX1_fiercestAwake_X1 : ∀ x ∈ wsX10, x ∈ wsX1_fiercestAwake := fun _ h => List.mem_cons_of_mem _ (List.mem_append_right _ h)
set_option maxRecDepth 100000 in
set_option maxHeartbeats 4000000 in
theorem c_X1_fiercestAwake (l : Launch) (D : va_G) (cI : ClassId) (a : Nat → Nat) (S : Nat → Nat → Nat) (t : Nat) (hb : Bd S) (ht : t < 2 ^ 31) : PI l yX1_fiercestAwake wsX1_fiercestAwake 1 22 D [(cI, .int)] [.ref (a 2), .int (nI t)] (wFl cI a S) (oI (frcN S t (S 0 1)).1) := by
  refine k_bodyP (cc := cX1_fiercestAwake) (maxL := 5) (ret := (some .int)) (by decide) rfl (Nat.le_of_ble_eq_true rfl) ?_
  intro p e s m args below meth c H ls F hr hlk hl hP hK hS
  have F : CallFix p m c cX1_fiercestAwake 5 s args wsX1_fiercestAwake RX1 := F
  have hl : lv_has ls 5 [(0, .ref (a 2)), (1, .int (nI t))] := hl
  have hn := hb.1
  refine lv_iconst (v := (-1)) F.1 F.2.1 dX1_fiercestAwake_0 (by decide) ?_
  refine lv_istore_n (lv' := [(2, .int (-1)), (0, .ref (a 2)), (1, .int (nI t))]) F.1 F.2.1 dX1_fiercestAwake_1 rfl hl (by decide) rfl (fun ls hl => ?_)
  refine lv_iconst (v := nI 0) F.1 F.2.1 dX1_fiercestAwake_2 (by decide) ?_
  refine lv_istore_n (lv' := [(3, .int (nI 0)), (2, .int (-1)), (0, .ref (a 2)), (1, .int (nI t))]) F.1 F.2.1 dX1_fiercestAwake_3 rfl hl (by decide) rfl (fun ls hl => ?_)
  refine lv_iconst (v := nI 0) F.1 F.2.1 dX1_fiercestAwake_4 (by decide) ?_
  refine lv_istore (lv' := [(4, .int (nI 0)), (3, .int (nI 0)), (2, .int (-1)), (0, .ref (a 2)), (1, .int (nI t))]) F.1 F.2.1 dX1_fiercestAwake_5 hl (by decide) rfl (fun ls hl => ?_)
  have loop7 : ∀ (n : Nat) (i : Nat), i ≤ S 0 1 → S 0 1 + 1 ≤ i + n → ∀ (H : Heap) (locs : List Loc) (ls : Array Slot), va_P D vwCl (wFl cI a S) H → va_S (fun _ => False) s.heap H locs → lv_has ls 5 [(0, .ref (a 2)), (1, .int (nI t)), (2, .int (oI (frcN S t i).1)), (3, .int (nI ((frcN S t i).2))), (4, .int (nI i))] → W p l e (rmN 1 22) s m args below meth c H locs (0) (0) (QPI below args s (oI (frcN S t (S 0 1)).1)) (F0 m 7 ls []) := by
    intro n
    induction n with
    | zero => intro i hi hn; exact absurd hn (by omega)
    | succ n ih7 =>
      intro i hi hn  H locs ls hP hS hl
      have hf9 := (frcN_le S (fun j => (hb.2 j).2.1) t i).1
      refine lv_iload F.1 F.2.1 dX1_fiercestAwake_7 (lv_at hl 4 rfl) ?_
      refine lv_aload_n F.1 F.2.1 dX1_fiercestAwake_9 rfl (lv_at hl 0 rfl) ?_
      refine k_get (v := .int (nI (S 0 1))) F nX1_fiercestAwake_X1 hK.1 hP 0 rfl rfl 0 (by decide) (List.mem_of_getElem? (i := 1) rfl) rfl dX1_fiercestAwake_10 ?_
      refine k_icmp_ge (tgt := 54) F (by omega) (by omega) dX1_fiercestAwake_13 (by decide) (fun h13 => ?_) (fun h13 => ?_)
      · skip
        refine lv_iload_n F.1 F.2.1 dX1_fiercestAwake_54 rfl (lv_at hl 2 rfl) ?_
        exact k_retP F hr hlk hS (by rw [show i = S 0 1 by omega]) rfl dX1_fiercestAwake_55
      · skip
        refine lv_aload_n F.1 F.2.1 dX1_fiercestAwake_16 rfl (lv_at hl 0 rfl) ?_
        refine lv_iload F.1 F.2.1 dX1_fiercestAwake_17 (lv_at hl 4 rfl) ?_
        refine lv_iload_n F.1 F.2.1 dX1_fiercestAwake_19 rfl (lv_at hl 1 rfl) ?_
        refine k_pV (n := 2) (rest := []) (v := bI (S 2 i = t ∧ S 4 i = 0)) F (c_X1_isAwakeThere l D cI a S i t hb.k (by first | assumption | omega) (by first | assumption | omega)) gX1_fiercestAwake_X1_isAwakeThere rfl (by decide +kernel) ⟨Nat.le_of_ble_eq_true rfl, Nat.le_of_ble_eq_true rfl⟩ rfl hl.1 rfl (Nat.le_of_ble_eq_true rfl) dX1_fiercestAwake_20 ⟨Nat.zero_le _, Nat.zero_le _⟩ hK hP hS [0, 1, 2, 3, 4] rfl (q0 := 0) (ci := 1) rfl rfl (fun H locs hP hS => ?_)
        refine k_ifeq_b (tgt := 48) F dX1_fiercestAwake_23 (by decide) (fun h23 => ?_) (fun h23 => ?_)
        · skip
          refine k_inc (k := 4) (lv' := [(4, .int (nI (i + 1))), (0, .ref (a 2)), (1, .int (nI t)), (2, .int (oI (frcN S t i).1)), (3, .int (nI ((frcN S t i).2)))]) F dX1_fiercestAwake_48 hl rfl (by decide) rfl (fun ls hl => ?_)
          refine lv_goto (tgt := 7) F.1 F.2.1 dX1_fiercestAwake_51 (by decide) ?_
          have e_1 : oI (frcN S t i).1 = oI (frcN S t (i + 1)).1 := by first | rfl | decide | (simp only [frcN]; rw [if_pos (And.intro h23 (Nat.not_le.mp h34))]; done) | (simp only [frcN]; rw [if_pos (And.intro h23 (Nat.not_le.mp h34))]; exact (oI_succ _).symm) | (simp only [frcN]; rw [if_neg (fun q => h23 q.1)]) | (simp only [frcN]; rw [if_neg (fun q => Nat.not_lt.mpr h34 q.2)])
          rw [e_1] at hl
          have e_2 : (frcN S t i).2 = (frcN S t (i + 1)).2 := by first | rfl | decide | (simp only [frcN]; rw [if_pos (And.intro h23 (Nat.not_le.mp h34))]; done) | (simp only [frcN]; rw [if_pos (And.intro h23 (Nat.not_le.mp h34))]; exact (oI_succ _).symm) | (simp only [frcN]; rw [if_neg (fun q => h23 q.1)]) | (simp only [frcN]; rw [if_neg (fun q => Nat.not_lt.mpr h34 q.2)])
          rw [e_2] at hl
          exact ih7 (i + 1) (by omega) (by omega)  _ _ _ hP hS (lv_sub hl [1, 2, 3, 4, 0] rfl)
        · skip
          refine lv_aload_n F.1 F.2.1 dX1_fiercestAwake_26 rfl (lv_at hl 0 rfl) ?_
          refine k_get (v := .ref (a 4)) F nX1_fiercestAwake_X1 hK.1 hP 0 rfl rfl 2 (by decide) (List.mem_of_getElem? (i := 2) rfl) rfl dX1_fiercestAwake_27 ?_
          refine lv_iload F.1 F.2.1 dX1_fiercestAwake_30 (lv_at hl 4 rfl) ?_
          refine k_iald (f := S 3) (n := 8) F hK.1 hP 2 0 rfl rfl (by omega) (by decide) dX1_fiercestAwake_32 ?_
          have := (hb.2 i).2.1
          refine lv_iload_n F.1 F.2.1 dX1_fiercestAwake_33 rfl (lv_at hl 3 rfl) ?_
          refine k_icmp_le (tgt := 48) F (by omega) (by omega) dX1_fiercestAwake_34 (by decide) (fun h34 => ?_) (fun h34 => ?_)
          · skip
            refine k_inc (k := 4) (lv' := [(4, .int (nI (i + 1))), (0, .ref (a 2)), (1, .int (nI t)), (2, .int (oI (frcN S t i).1)), (3, .int (nI ((frcN S t i).2)))]) F dX1_fiercestAwake_48 hl rfl (by decide) rfl (fun ls hl => ?_)
            refine lv_goto (tgt := 7) F.1 F.2.1 dX1_fiercestAwake_51 (by decide) ?_
            have e_3 : oI (frcN S t i).1 = oI (frcN S t (i + 1)).1 := by first | rfl | decide | (simp only [frcN]; rw [if_pos (And.intro h23 (Nat.not_le.mp h34))]; done) | (simp only [frcN]; rw [if_pos (And.intro h23 (Nat.not_le.mp h34))]; exact (oI_succ _).symm) | (simp only [frcN]; rw [if_neg (fun q => h23 q.1)]) | (simp only [frcN]; rw [if_neg (fun q => Nat.not_lt.mpr h34 q.2)])
            rw [e_3] at hl
            have e_4 : (frcN S t i).2 = (frcN S t (i + 1)).2 := by first | rfl | decide | (simp only [frcN]; rw [if_pos (And.intro h23 (Nat.not_le.mp h34))]; done) | (simp only [frcN]; rw [if_pos (And.intro h23 (Nat.not_le.mp h34))]; exact (oI_succ _).symm) | (simp only [frcN]; rw [if_neg (fun q => h23 q.1)]) | (simp only [frcN]; rw [if_neg (fun q => Nat.not_lt.mpr h34 q.2)])
            rw [e_4] at hl
            exact ih7 (i + 1) (by omega) (by omega)  _ _ _ hP hS (lv_sub hl [1, 2, 3, 4, 0] rfl)
          · skip
            refine lv_aload_n F.1 F.2.1 dX1_fiercestAwake_37 rfl (lv_at hl 0 rfl) ?_
            refine k_get (v := .ref (a 4)) F nX1_fiercestAwake_X1 hK.1 hP 0 rfl rfl 2 (by decide) (List.mem_of_getElem? (i := 2) rfl) rfl dX1_fiercestAwake_38 ?_
            refine lv_iload F.1 F.2.1 dX1_fiercestAwake_41 (lv_at hl 4 rfl) ?_
            refine k_iald (f := S 3) (n := 8) F hK.1 hP 2 0 rfl rfl (by omega) (by decide) dX1_fiercestAwake_43 ?_
            have := (hb.2 i).2.1
            refine lv_istore_n (lv' := [(3, .int (nI (S 3 i))), (0, .ref (a 2)), (1, .int (nI t)), (2, .int (oI (frcN S t i).1)), (4, .int (nI i))]) F.1 F.2.1 dX1_fiercestAwake_44 rfl hl (by decide) rfl (fun ls hl => ?_)
            refine lv_iload F.1 F.2.1 dX1_fiercestAwake_45 (lv_at hl 4 rfl) ?_
            refine lv_istore_n (lv' := [(2, .int (nI i)), (3, .int (nI (S 3 i))), (0, .ref (a 2)), (1, .int (nI t)), (4, .int (nI i))]) F.1 F.2.1 dX1_fiercestAwake_47 rfl hl (by decide) rfl (fun ls hl => ?_)
            refine k_inc (k := 4) (lv' := [(4, .int (nI (i + 1))), (2, .int (nI i)), (3, .int (nI (S 3 i))), (0, .ref (a 2)), (1, .int (nI t))]) F dX1_fiercestAwake_48 hl rfl (by decide) rfl (fun ls hl => ?_)
            refine lv_goto (tgt := 7) F.1 F.2.1 dX1_fiercestAwake_51 (by decide) ?_
            have e_5 : nI i = oI (frcN S t (i + 1)).1 := by first | rfl | decide | (simp only [frcN]; rw [if_pos (And.intro h23 (Nat.not_le.mp h34))]; done) | (simp only [frcN]; rw [if_pos (And.intro h23 (Nat.not_le.mp h34))]; exact (oI_succ _).symm) | (simp only [frcN]; rw [if_neg (fun q => h23 q.1)]) | (simp only [frcN]; rw [if_neg (fun q => Nat.not_lt.mpr h34 q.2)])
            rw [e_5] at hl
            have e_6 : S 3 i = (frcN S t (i + 1)).2 := by first | rfl | decide | (simp only [frcN]; rw [if_pos (And.intro h23 (Nat.not_le.mp h34))]; done) | (simp only [frcN]; rw [if_pos (And.intro h23 (Nat.not_le.mp h34))]; exact (oI_succ _).symm) | (simp only [frcN]; rw [if_neg (fun q => h23 q.1)]) | (simp only [frcN]; rw [if_neg (fun q => Nat.not_lt.mpr h34 q.2)])
            rw [e_6] at hl
            exact ih7 (i + 1) (by omega) (by omega)  _ _ _ hP hS (lv_sub hl [3, 4, 1, 2, 0] rfl)
  have e_7 : (-1) = oI (frcN S t 0).1 := by first | rfl | decide | (simp only [frcN]; rw [if_pos (And.intro h23 (Nat.not_le.mp h34))]; done) | (simp only [frcN]; rw [if_pos (And.intro h23 (Nat.not_le.mp h34))]; exact (oI_succ _).symm) | (simp only [frcN]; rw [if_neg (fun q => h23 q.1)]) | (simp only [frcN]; rw [if_neg (fun q => Nat.not_lt.mpr h34 q.2)])
  rw [e_7] at hl
  have e_8 : 0 = (frcN S t 0).2 := by first | rfl | decide | (simp only [frcN]; rw [if_pos (And.intro h23 (Nat.not_le.mp h34))]; done) | (simp only [frcN]; rw [if_pos (And.intro h23 (Nat.not_le.mp h34))]; exact (oI_succ _).symm) | (simp only [frcN]; rw [if_neg (fun q => h23 q.1)]) | (simp only [frcN]; rw [if_neg (fun q => Nat.not_lt.mpr h34 q.2)])
  rw [e_8] at hl
  exact loop7 ((S 0 1) + 1) 0 (by omega) (by omega)  _ _ _ hP hS (lv_sub hl [3, 4, 2, 1, 0] rfl)
theorem nX1_feed_X1 : ∀ x ∈ wsX10, x ∈ wsX1_feed := fun _ h => List.mem_cons_of_mem _ (List.mem_append_right _ h)
set_option maxRecDepth 100000 in
set_option maxHeartbeats 4000000 in
theorem c_X1_feed (l : Launch) (D : va_G) (cI : ClassId) (a : Nat → Nat) (S : Nat → Nat → Nat) (k : Nat) (hb : Bd S) (hk : k < 8) (hm : 1 ≤ S 3 k) : MV l yX1_feed wsX1_feed 1 15 D [(cI, .int)] [.ref (a 2), .int (nI k)] (wFl cI a S) (wFl cI a (setf (setf (setf S 5 k (S 5 k + 1)) 4 k 3) 3 k (max 1 (S 3 k - 1)))) := by
  refine k_bodyM (cc := cX1_feed) (maxL := 2) (ret := none) (by decide) rfl (Nat.le_of_ble_eq_true rfl) ?_
  intro p e s m args below meth c H ls F hr hlk hl hP hK hD hS
  have F : CallFix p m c cX1_feed 2 s args wsX1_feed RX1 := F
  have hl : lv_has ls 2 [(0, .ref (a 2)), (1, .int (nI k))] := hl
  refine lv_aload_n F.1 F.2.1 dX1_feed_0 rfl (lv_at hl 0 rfl) ?_
  refine k_get (v := .ref (a 6)) F nX1_feed_X1 hK.1 hP 0 rfl rfl 4 (by decide) (List.mem_of_getElem? (i := 1) rfl) rfl dX1_feed_1 ?_
  refine lv_iload_n F.1 F.2.1 dX1_feed_4 rfl (lv_at hl 1 rfl) ?_
  refine lv_dup2_11 F.1 F.2.1 dX1_feed_5 rfl rfl ?_
  refine k_iald (f := S 5) (n := 8) F hK.1 hP 4 0 rfl rfl (by omega) (by decide) dX1_feed_6 ?_
  refine lv_iconst (v := nI 1) F.1 F.2.1 dX1_feed_7 (by decide) ?_
  refine k_iadd F dX1_feed_8 ?_
  refine k_iast (f := S 5) (n := 8) (k := k) (x := (S 5 k + 1)) F hK.1 hP hD hS 4 0 rfl rfl (by omega) (by decide) dX1_feed_9 (wFl cI a (setf S 5 k (S 5 k + 1))) rfl (fun H locs hP hD hS => ?_)
  refine lv_aload_n F.1 F.2.1 dX1_feed_10 rfl (lv_at hl 0 rfl) ?_
  refine k_get (v := .ref (a 5)) F nX1_feed_X1 hK.1 hP 0 rfl rfl 3 (by decide) (List.mem_of_getElem? (i := 2) rfl) rfl dX1_feed_11 ?_
  refine lv_iload_n F.1 F.2.1 dX1_feed_14 rfl (lv_at hl 1 rfl) ?_
  refine lv_iconst (v := nI 3) F.1 F.2.1 dX1_feed_15 (by decide) ?_
  refine k_iast (f := S 4) (n := 8) (k := k) (x := 3) F hK.1 hP hD hS 3 0 rfl rfl (by omega) (by decide) dX1_feed_16 (wFl cI a (setf (setf S 5 k (S 5 k + 1)) 4 k 3)) rfl (fun H locs hP hD hS => ?_)
  refine lv_aload_n F.1 F.2.1 dX1_feed_17 rfl (lv_at hl 0 rfl) ?_
  refine k_get (v := .ref (a 4)) F nX1_feed_X1 hK.1 hP 0 rfl rfl 2 (by decide) (List.mem_of_getElem? (i := 3) rfl) rfl dX1_feed_18 ?_
  refine lv_iload_n F.1 F.2.1 dX1_feed_21 rfl (lv_at hl 1 rfl) ?_
  refine lv_iconst (v := nI 1) F.1 F.2.1 dX1_feed_22 (by decide) ?_
  refine lv_aload_n F.1 F.2.1 dX1_feed_23 rfl (lv_at hl 0 rfl) ?_
  refine k_get (v := .ref (a 4)) F nX1_feed_X1 hK.1 hP 0 rfl rfl 2 (by decide) (List.mem_of_getElem? (i := 3) rfl) rfl dX1_feed_24 ?_
  refine lv_iload_n F.1 F.2.1 dX1_feed_27 rfl (lv_at hl 1 rfl) ?_
  refine k_iald (f := S 3) (n := 8) F hK.1 hP 2 0 rfl rfl (by omega) (by decide) dX1_feed_28 ?_
  have := (hb.2 k).2.1
  refine lv_iconst (v := nI 1) F.1 F.2.1 dX1_feed_29 (by decide) ?_
  refine k_isub F (by omega) dX1_feed_30 ?_
  refine k_max F hl.1 (List.mem_of_getElem? (i := 4) rfl) (List.mem_of_getElem? (i := 5) rfl) (List.mem_of_getElem? (i := 6) rfl) (List.mem_of_getElem? (i := 7) rfl) (Nat.le_of_ble_eq_true rfl) (Nat.le_of_ble_eq_true rfl) ⟨Nat.zero_le _, Nat.zero_le _⟩ (by omega) (by omega) dX1_feed_31 ?_
  refine k_iast (f := S 3) (n := 8) (k := k) (x := (max 1 (S 3 k - 1))) F hK.1 hP hD hS 2 0 rfl rfl (by omega) (by decide) dX1_feed_34 (wFl cI a (setf (setf (setf S 5 k (S 5 k + 1)) 4 k 3) 3 k (max 1 (S 3 k - 1)))) rfl (fun H locs hP hD hS => ?_)
  exact k_retMV F hr hlk hP rfl hS dX1_feed_35
theorem nX1_enrage_X1 : ∀ x ∈ wsX10, x ∈ wsX1_enrage := fun _ h => List.mem_cons_of_mem _ (List.mem_append_right _ h)
set_option maxRecDepth 100000 in
set_option maxHeartbeats 4000000 in
theorem c_X1_enrage (l : Launch) (D : va_G) (cI : ClassId) (a : Nat → Nat) (S : Nat → Nat → Nat) (t : Nat) (hb : Bd S) (ht : t < 2 ^ 31) : MV l yX1_enrage wsX1_enrage 1 22 D [(cI, .int)] [.ref (a 2), .int (nI t)] (wFl cI a S) (wFl cI a (setF S 3 (enrN S t (S 0 1)))) := by
  refine k_bodyM (cc := cX1_enrage) (maxL := 3) (ret := none) (by decide) rfl (Nat.le_of_ble_eq_true rfl) ?_
  intro p e s m args below meth c H ls F hr hlk hl hP hK hD hS
  have F : CallFix p m c cX1_enrage 3 s args wsX1_enrage RX1 := F
  have hl : lv_has ls 3 [(0, .ref (a 2)), (1, .int (nI t))] := hl
  have hn := hb.1
  refine lv_iconst (v := nI 0) F.1 F.2.1 dX1_enrage_0 (by decide) ?_
  refine lv_istore_n (lv' := [(2, .int (nI 0)), (0, .ref (a 2)), (1, .int (nI t))]) F.1 F.2.1 dX1_enrage_1 rfl hl (by decide) rfl (fun ls hl => ?_)
  have loop2 : ∀ (n : Nat) (i : Nat), i ≤ S 0 1 → S 0 1 + 1 ≤ i + n → ∀ (H : Heap) (locs : List Loc) (ls : Array Slot), va_P D vwCl (wFl cI a (setF S 3 (enrN S t i))) H → va_D (va_B (wFl cI a S)) (wFl cI a (setF S 3 (enrN S t i))) → va_S (va_B (wFl cI a S)) s.heap H locs → lv_has ls 3 [(0, .ref (a 2)), (1, .int (nI t)), (2, .int (nI i))] → W p l e (rmN 1 22) s m args below meth c H locs (0) (0) (QMV below args s D (wFl cI a S) (wFl cI a (setF S 3 (enrN S t (S 0 1))))) (F0 m 2 ls []) := by
    intro n
    induction n with
    | zero => intro i hi hn; exact absurd hn (by omega)
    | succ n ih2 =>
      intro i hi hn  H locs ls hP hD hS hl
      refine lv_iload_n F.1 F.2.1 dX1_enrage_2 rfl (lv_at hl 2 rfl) ?_
      refine lv_aload_n F.1 F.2.1 dX1_enrage_3 rfl (lv_at hl 0 rfl) ?_
      refine k_get (v := .int (nI (S 0 1))) F nX1_enrage_X1 hK.1 hP 0 rfl rfl 0 (by decide) (List.mem_of_getElem? (i := 1) rfl) rfl dX1_enrage_4 ?_
      refine k_icmp_ge (tgt := 44) F (by omega) (by omega) dX1_enrage_7 (by decide) (fun h7 => ?_) (fun h7 => ?_)
      · skip
        exact k_retMV F hr hlk hP (by rw [show i = S 0 1 by omega]) hS dX1_enrage_44
      · skip
        refine lv_aload_n F.1 F.2.1 dX1_enrage_10 rfl (lv_at hl 0 rfl) ?_
        refine lv_iload_n F.1 F.2.1 dX1_enrage_11 rfl (lv_at hl 2 rfl) ?_
        refine lv_iload_n F.1 F.2.1 dX1_enrage_12 rfl (lv_at hl 1 rfl) ?_
        refine k_pV (n := 2) (rest := []) (v := bI (S 2 i = t ∧ S 4 i = 0)) F (c_X1_isAwakeThere l D cI a (setF S 3 (enrN S t i)) i t hb.k (by first | assumption | omega) (by first | assumption | omega)) gX1_enrage_X1_isAwakeThere rfl (by decide +kernel) ⟨Nat.le_of_ble_eq_true rfl, Nat.le_of_ble_eq_true rfl⟩ rfl hl.1 rfl (Nat.le_of_ble_eq_true rfl) dX1_enrage_13 ⟨Nat.zero_le _, Nat.zero_le _⟩ hK hP hS [0, 1, 2, 3, 4] rfl (q0 := 0) (ci := 1) rfl rfl (fun H locs hP hS => ?_)
        refine k_ifeq_b (tgt := 38) F dX1_enrage_16 (by decide) (fun h16 => ?_) (fun h16 => ?_)
        · skip
          refine k_inc (k := 2) (lv' := [(2, .int (nI (i + 1))), (0, .ref (a 2)), (1, .int (nI t))]) F dX1_enrage_38 hl rfl (by decide) rfl (fun ls hl => ?_)
          refine lv_goto (tgt := 2) F.1 F.2.1 dX1_enrage_41 (by decide) ?_
          have ew : (wFl cI a (setF S 3 (enrN S t i))) = (wFl cI a (setF S 3 (enrN S t (i + 1)))) := by first | rw [enrN_0] | rw [enrN_at, enrN_y h16] | rw [enrN_n h16]
          rw [ew] at hP hD
          exact ih2 (i + 1) (by omega) (by omega)  _ _ _ hP hD hS (lv_sub hl [1, 2, 0] rfl)
        · skip
          refine lv_aload_n F.1 F.2.1 dX1_enrage_19 rfl (lv_at hl 0 rfl) ?_
          refine k_get (v := .ref (a 4)) F nX1_enrage_X1 hK.1 hP 0 rfl rfl 2 (by decide) (List.mem_of_getElem? (i := 2) rfl) rfl dX1_enrage_20 ?_
          refine lv_iload_n F.1 F.2.1 dX1_enrage_23 rfl (lv_at hl 2 rfl) ?_
          refine lv_bipush (v := nI 9) F.1 F.2.1 dX1_enrage_24 (by decide) ?_
          refine lv_aload_n F.1 F.2.1 dX1_enrage_26 rfl (lv_at hl 0 rfl) ?_
          refine k_get (v := .ref (a 4)) F nX1_enrage_X1 hK.1 hP 0 rfl rfl 2 (by decide) (List.mem_of_getElem? (i := 2) rfl) rfl dX1_enrage_27 ?_
          refine lv_iload_n F.1 F.2.1 dX1_enrage_30 rfl (lv_at hl 2 rfl) ?_
          refine k_iald (f := (enrN S t i)) (n := 8) F hK.1 hP 2 0 rfl rfl (by omega) (by decide) dX1_enrage_31 ?_
          have hv9 : (enrN S t i) i ≤ 9 := by rw [enrN_at]; exact (hb.2 i).2.1
          refine lv_iconst (v := nI 1) F.1 F.2.1 dX1_enrage_32 (by decide) ?_
          refine k_iadd F dX1_enrage_33 ?_
          refine k_min F hl.1 (List.mem_of_getElem? (i := 3) rfl) (List.mem_of_getElem? (i := 4) rfl) (List.mem_of_getElem? (i := 5) rfl) (List.mem_of_getElem? (i := 6) rfl) (Nat.le_of_ble_eq_true rfl) (Nat.le_of_ble_eq_true rfl) ⟨Nat.zero_le _, Nat.zero_le _⟩ (by omega) (by omega) dX1_enrage_34 ?_
          refine k_iast (f := (enrN S t i)) (n := 8) (k := i) (x := (min 9 ((enrN S t i) i + 1))) F hK.1 hP hD hS 2 0 rfl rfl (by omega) (by decide) dX1_enrage_37 (wFl cI a (setf (setF S 3 (enrN S t i)) 3 i (min 9 ((enrN S t i) i + 1)))) rfl (fun H locs hP hD hS => ?_)
          refine k_inc (k := 2) (lv' := [(2, .int (nI (i + 1))), (0, .ref (a 2)), (1, .int (nI t))]) F dX1_enrage_38 hl rfl (by decide) rfl (fun ls hl => ?_)
          refine lv_goto (tgt := 2) F.1 F.2.1 dX1_enrage_41 (by decide) ?_
          have ew : (wFl cI a (setf (setF S 3 (enrN S t i)) 3 i (min 9 ((enrN S t i) i + 1)))) = (wFl cI a (setF S 3 (enrN S t (i + 1)))) := by first | rw [enrN_0] | rw [enrN_at, enrN_y h16] | rw [enrN_n h16]
          rw [ew] at hP hD
          exact ih2 (i + 1) (by omega) (by omega)  _ _ _ hP hD hS (lv_sub hl [1, 2, 0] rfl)
  have ew : (wFl cI a S) = (wFl cI a (setF S 3 (enrN S t 0))) := by first | rw [enrN_0] | rw [enrN_at, enrN_y h16] | rw [enrN_n h16]
  rw [ew] at hP hD
  exact loop2 ((S 0 1) + 1) 0 (by omega) (by omega)  _ _ _ hP hD hS (lv_sub hl [1, 2, 0] rfl)
theorem nX1_wakeByABeat_X1 : ∀ x ∈ wsX10, x ∈ wsX1_wakeByABeat := fun _ h => List.mem_cons_of_mem _ (List.mem_append_right _ h)
set_option maxRecDepth 100000 in
set_option maxHeartbeats 4000000 in
theorem c_X1_wakeByABeat (l : Launch) (D : va_G) (cI : ClassId) (a : Nat → Nat) (S : Nat → Nat → Nat) (hb : Bd S) : MV l yX1_wakeByABeat wsX1_wakeByABeat 0 0 D [(cI, .int)] [.ref (a 2)] (wFl cI a S) (wFl cI a (setF S 4 (wakN S (S 0 1)))) := by
  refine k_bodyM (cc := cX1_wakeByABeat) (maxL := 2) (ret := none) (by decide) rfl (Nat.le_of_ble_eq_true rfl) ?_
  intro p e s m args below meth c H ls F hr hlk hl hP hK hD hS
  have F : CallFix p m c cX1_wakeByABeat 2 s args wsX1_wakeByABeat RX1 := F
  have hl : lv_has ls 2 [(0, .ref (a 2))] := hl
  have hn := hb.1
  refine lv_iconst (v := nI 0) F.1 F.2.1 dX1_wakeByABeat_0 (by decide) ?_
  refine lv_istore_n (lv' := [(1, .int (nI 0)), (0, .ref (a 2))]) F.1 F.2.1 dX1_wakeByABeat_1 rfl hl (by decide) rfl (fun ls hl => ?_)
  have loop2 : ∀ (n : Nat) (i : Nat), i ≤ S 0 1 → S 0 1 + 1 ≤ i + n → ∀ (H : Heap) (locs : List Loc) (ls : Array Slot), va_P D vwCl (wFl cI a (setF S 4 (wakN S i))) H → va_D (va_B (wFl cI a S)) (wFl cI a (setF S 4 (wakN S i))) → va_S (va_B (wFl cI a S)) s.heap H locs → lv_has ls 2 [(0, .ref (a 2)), (1, .int (nI i))] → W p l e (rmN 0 0) s m args below meth c H locs (0) (0) (QMV below args s D (wFl cI a S) (wFl cI a (setF S 4 (wakN S (S 0 1))))) (F0 m 2 ls []) := by
    intro n
    induction n with
    | zero => intro i hi hn; exact absurd hn (by omega)
    | succ n ih2 =>
      intro i hi hn  H locs ls hP hD hS hl
      refine lv_iload_n F.1 F.2.1 dX1_wakeByABeat_2 rfl (lv_at hl 1 rfl) ?_
      refine lv_aload_n F.1 F.2.1 dX1_wakeByABeat_3 rfl (lv_at hl 0 rfl) ?_
      refine k_get (v := .int (nI (S 0 1))) F nX1_wakeByABeat_X1 hK.1 hP 0 rfl rfl 0 (by decide) (List.mem_of_getElem? (i := 1) rfl) rfl dX1_wakeByABeat_4 ?_
      refine k_icmp_ge (tgt := 35) F (by omega) (by omega) dX1_wakeByABeat_7 (by decide) (fun h7 => ?_) (fun h7 => ?_)
      · skip
        exact k_retMV F hr hlk hP (by rw [show i = S 0 1 by omega]) hS dX1_wakeByABeat_35
      · skip
        refine lv_aload_n F.1 F.2.1 dX1_wakeByABeat_10 rfl (lv_at hl 0 rfl) ?_
        refine k_get (v := .ref (a 5)) F nX1_wakeByABeat_X1 hK.1 hP 0 rfl rfl 3 (by decide) (List.mem_of_getElem? (i := 2) rfl) rfl dX1_wakeByABeat_11 ?_
        refine lv_iload_n F.1 F.2.1 dX1_wakeByABeat_14 rfl (lv_at hl 1 rfl) ?_
        refine k_iald (f := (wakN S i)) (n := 8) F hK.1 hP 3 0 rfl rfl (by omega) (by decide) dX1_wakeByABeat_15 ?_
        have hv9 : (wakN S i) i ≤ 3 := by rw [wakN_at]; exact (hb.2 i).2.2
        refine k_if_le (tgt := 29) F (by omega) dX1_wakeByABeat_16 (by decide) (fun h16 => ?_) (fun h16 => ?_)
        · skip
          refine k_inc (k := 1) (lv' := [(1, .int (nI (i + 1))), (0, .ref (a 2))]) F dX1_wakeByABeat_29 hl rfl (by decide) rfl (fun ls hl => ?_)
          refine lv_goto (tgt := 2) F.1 F.2.1 dX1_wakeByABeat_32 (by decide) ?_
          have ew : (wFl cI a (setF S 4 (wakN S i))) = (wFl cI a (setF S 4 (wakN S (i + 1)))) := by first | rw [wakN_0] | rw [wakN_at, wakN_y] | rw [wakN_n ((wakN_at S i).symm.trans h16)]
          rw [ew] at hP hD
          exact ih2 (i + 1) (by omega) (by omega)  _ _ _ hP hD hS (lv_sub hl [1, 0] rfl)
        · skip
          refine lv_aload_n F.1 F.2.1 dX1_wakeByABeat_19 rfl (lv_at hl 0 rfl) ?_
          refine k_get (v := .ref (a 5)) F nX1_wakeByABeat_X1 hK.1 hP 0 rfl rfl 3 (by decide) (List.mem_of_getElem? (i := 2) rfl) rfl dX1_wakeByABeat_20 ?_
          refine lv_iload_n F.1 F.2.1 dX1_wakeByABeat_23 rfl (lv_at hl 1 rfl) ?_
          refine lv_dup2_11 F.1 F.2.1 dX1_wakeByABeat_24 rfl rfl ?_
          refine k_iald (f := (wakN S i)) (n := 8) F hK.1 hP 3 0 rfl rfl (by omega) (by decide) dX1_wakeByABeat_25 ?_
          have hv9 : (wakN S i) i ≤ 3 := by rw [wakN_at]; exact (hb.2 i).2.2
          refine lv_iconst (v := nI 1) F.1 F.2.1 dX1_wakeByABeat_26 (by decide) ?_
          refine k_isub F (by omega) dX1_wakeByABeat_27 ?_
          refine k_iast (f := (wakN S i)) (n := 8) (k := i) (x := ((wakN S i) i - 1)) F hK.1 hP hD hS 3 0 rfl rfl (by omega) (by decide) dX1_wakeByABeat_28 (wFl cI a (setf (setF S 4 (wakN S i)) 4 i ((wakN S i) i - 1))) rfl (fun H locs hP hD hS => ?_)
          refine k_inc (k := 1) (lv' := [(1, .int (nI (i + 1))), (0, .ref (a 2))]) F dX1_wakeByABeat_29 hl rfl (by decide) rfl (fun ls hl => ?_)
          refine lv_goto (tgt := 2) F.1 F.2.1 dX1_wakeByABeat_32 (by decide) ?_
          have ew : (wFl cI a (setf (setF S 4 (wakN S i)) 4 i ((wakN S i) i - 1))) = (wFl cI a (setF S 4 (wakN S (i + 1)))) := by first | rw [wakN_0] | rw [wakN_at, wakN_y] | rw [wakN_n ((wakN_at S i).symm.trans h16)]
          rw [ew] at hP hD
          exact ih2 (i + 1) (by omega) (by omega)  _ _ _ hP hD hS (lv_sub hl [1, 0] rfl)
  have ew : (wFl cI a S) = (wFl cI a (setF S 4 (wakN S 0))) := by first | rw [wakN_0] | rw [wakN_at, wakN_y] | rw [wakN_n ((wakN_at S i).symm.trans h16)]
  rw [ew] at hP hD
  exact loop2 ((S 0 1) + 1) 0 (by omega) (by omega)  _ _ _ hP hD hS (lv_sub hl [1, 0] rfl)
theorem nX1_sumOfTempers_X1 : ∀ x ∈ wsX10, x ∈ wsX1_sumOfTempers := fun _ h => List.mem_cons_of_mem _ (List.mem_append_right _ h)
set_option maxRecDepth 100000 in
set_option maxHeartbeats 4000000 in
theorem c_X1_sumOfTempers (l : Launch) (D : va_G) (cI : ClassId) (a : Nat → Nat) (S : Nat → Nat → Nat) (hb : Bd S) : PI l yX1_sumOfTempers wsX1_sumOfTempers 0 0 D [(cI, .int)] [.ref (a 2)] (wFl cI a S) (nI (sumN S (S 0 1))) := by
  refine k_bodyP (cc := cX1_sumOfTempers) (maxL := 3) (ret := (some .int)) (by decide) rfl (Nat.le_of_ble_eq_true rfl) ?_
  intro p e s m args below meth c H ls F hr hlk hl hP hK hS
  have F : CallFix p m c cX1_sumOfTempers 3 s args wsX1_sumOfTempers RX1 := F
  have hl : lv_has ls 3 [(0, .ref (a 2))] := hl
  have hn := hb.1
  refine lv_iconst (v := nI 0) F.1 F.2.1 dX1_sumOfTempers_0 (by decide) ?_
  refine lv_istore_n (lv' := [(1, .int (nI 0)), (0, .ref (a 2))]) F.1 F.2.1 dX1_sumOfTempers_1 rfl hl (by decide) rfl (fun ls hl => ?_)
  refine lv_iconst (v := nI 0) F.1 F.2.1 dX1_sumOfTempers_2 (by decide) ?_
  refine lv_istore_n (lv' := [(2, .int (nI 0)), (1, .int (nI 0)), (0, .ref (a 2))]) F.1 F.2.1 dX1_sumOfTempers_3 rfl hl (by decide) rfl (fun ls hl => ?_)
  have loop4 : ∀ (n : Nat) (i : Nat), i ≤ S 0 1 → S 0 1 + 1 ≤ i + n → ∀ (H : Heap) (locs : List Loc) (ls : Array Slot), va_P D vwCl (wFl cI a S) H → va_S (fun _ => False) s.heap H locs → lv_has ls 3 [(0, .ref (a 2)), (1, .int (nI (sumN S i))), (2, .int (nI i))] → W p l e (rmN 0 0) s m args below meth c H locs (0) (0) (QPI below args s (nI (sumN S (S 0 1)))) (F0 m 4 ls []) := by
    intro n
    induction n with
    | zero => intro i hi hn; exact absurd hn (by omega)
    | succ n ih4 =>
      intro i hi hn  H locs ls hP hS hl
      refine lv_iload_n F.1 F.2.1 dX1_sumOfTempers_4 rfl (lv_at hl 2 rfl) ?_
      refine lv_aload_n F.1 F.2.1 dX1_sumOfTempers_5 rfl (lv_at hl 0 rfl) ?_
      refine k_get (v := .int (nI (S 0 1))) F nX1_sumOfTempers_X1 hK.1 hP 0 rfl rfl 0 (by decide) (List.mem_of_getElem? (i := 1) rfl) rfl dX1_sumOfTempers_6 ?_
      refine k_icmp_ge (tgt := 27) F (by omega) (by omega) dX1_sumOfTempers_9 (by decide) (fun h9 => ?_) (fun h9 => ?_)
      · skip
        refine lv_iload_n F.1 F.2.1 dX1_sumOfTempers_27 rfl (lv_at hl 1 rfl) ?_
        exact k_retP F hr hlk hS (by rw [show i = S 0 1 by omega]) rfl dX1_sumOfTempers_28
      · skip
        refine lv_iload_n F.1 F.2.1 dX1_sumOfTempers_12 rfl (lv_at hl 1 rfl) ?_
        refine lv_aload_n F.1 F.2.1 dX1_sumOfTempers_13 rfl (lv_at hl 0 rfl) ?_
        refine k_get (v := .ref (a 4)) F nX1_sumOfTempers_X1 hK.1 hP 0 rfl rfl 2 (by decide) (List.mem_of_getElem? (i := 2) rfl) rfl dX1_sumOfTempers_14 ?_
        refine lv_iload_n F.1 F.2.1 dX1_sumOfTempers_17 rfl (lv_at hl 2 rfl) ?_
        refine k_iald (f := S 3) (n := 8) F hK.1 hP 2 0 rfl rfl (by omega) (by decide) dX1_sumOfTempers_18 ?_
        refine k_iadd F dX1_sumOfTempers_19 ?_
        refine lv_istore_n (lv' := [(1, .int (nI (sumN S i + S 3 i))), (0, .ref (a 2)), (2, .int (nI i))]) F.1 F.2.1 dX1_sumOfTempers_20 rfl hl (by decide) rfl (fun ls hl => ?_)
        refine k_inc (k := 2) (lv' := [(2, .int (nI (i + 1))), (1, .int (nI (sumN S i + S 3 i))), (0, .ref (a 2))]) F dX1_sumOfTempers_21 hl rfl (by decide) rfl (fun ls hl => ?_)
        refine lv_goto (tgt := 4) F.1 F.2.1 dX1_sumOfTempers_24 (by decide) ?_
        have e_1 : (sumN S i + S 3 i) = sumN S (i + 1) := by first | rfl | omega | (simp [*]; done)
        rw [e_1] at hl
        exact ih4 (i + 1) (by omega) (by omega)  _ _ _ hP hS (lv_sub hl [2, 1, 0] rfl)
  have e_2 : 0 = sumN S 0 := by first | rfl | omega | (simp [*]; done)
  rw [e_2] at hl
  exact loop4 ((S 0 1) + 1) 0 (by omega) (by omega)  _ _ _ hP hS (lv_sub hl [2, 1, 0] rfl)
theorem nX1_putGoose_X1 : ∀ x ∈ wsX10, x ∈ wsX1_putGoose := fun _ h => List.mem_cons_of_mem _ (List.mem_append_right _ h)
set_option maxRecDepth 100000 in
set_option maxHeartbeats 4000000 in
theorem c_X1_putGoose (l : Launch) (D : va_G) (cI : ClassId) (a : Nat → Nat) (S : Nat → Nat → Nat) (g : Nat) (x : Nat) (hk : S 0 1 < 8) : MI l yX1_putGoose wsX1_putGoose 0 0 D [(cI, .int)] [.ref (a 2), .int (nI g), .int (nI x)] (wFl cI a S) (wFl cI a (setf (setf (setf S 2 (S 0 1) g) 3 (S 0 1) x) 0 1 (S 0 1 + 1))) (nI (S 0 1)) := by
  refine k_bodyM (cc := cX1_putGoose) (maxL := 4) (ret := (some .int)) (by decide) rfl (Nat.le_of_ble_eq_true rfl) ?_
  intro p e s m args below meth c H ls F hr hlk hl hP hK hD hS
  have F : CallFix p m c cX1_putGoose 4 s args wsX1_putGoose RX1 := F
  have hl : lv_has ls 4 [(0, .ref (a 2)), (1, .int (nI g)), (2, .int (nI x))] := hl
  refine lv_aload_n F.1 F.2.1 dX1_putGoose_0 rfl (lv_at hl 0 rfl) ?_
  refine k_get (v := .int (nI (S 0 1))) F nX1_putGoose_X1 hK.1 hP 0 rfl rfl 0 (by decide) (List.mem_of_getElem? (i := 1) rfl) rfl dX1_putGoose_1 ?_
  refine lv_istore_n (lv' := [(3, .int (nI (S 0 1))), (0, .ref (a 2)), (1, .int (nI g)), (2, .int (nI x))]) F.1 F.2.1 dX1_putGoose_4 rfl hl (by decide) rfl (fun ls hl => ?_)
  refine lv_aload_n F.1 F.2.1 dX1_putGoose_5 rfl (lv_at hl 1 rfl) ?_
  refine k_get (v := .ref (a 3)) F nX1_putGoose_X1 hK.1 hP 0 rfl rfl 1 (by decide) (List.mem_of_getElem? (i := 2) rfl) rfl dX1_putGoose_6 ?_
  refine lv_iload_n F.1 F.2.1 dX1_putGoose_9 rfl (lv_at hl 0 rfl) ?_
  refine lv_iload_n F.1 F.2.1 dX1_putGoose_10 rfl (lv_at hl 2 rfl) ?_
  refine k_iast (f := S 2) (n := 8) (k := (S 0 1)) (x := g) F hK.1 hP hD hS 1 0 rfl rfl (by omega) (by decide) dX1_putGoose_11 (wFl cI a (setf S 2 (S 0 1) g)) rfl (fun H locs hP hD hS => ?_)
  refine lv_aload_n F.1 F.2.1 dX1_putGoose_12 rfl (lv_at hl 1 rfl) ?_
  refine k_get (v := .ref (a 4)) F nX1_putGoose_X1 hK.1 hP 0 rfl rfl 2 (by decide) (List.mem_of_getElem? (i := 3) rfl) rfl dX1_putGoose_13 ?_
  refine lv_iload_n F.1 F.2.1 dX1_putGoose_16 rfl (lv_at hl 0 rfl) ?_
  refine lv_iload_n F.1 F.2.1 dX1_putGoose_17 rfl (lv_at hl 3 rfl) ?_
  refine k_iast (f := S 3) (n := 8) (k := (S 0 1)) (x := x) F hK.1 hP hD hS 2 0 rfl rfl (by omega) (by decide) dX1_putGoose_18 (wFl cI a (setf (setf S 2 (S 0 1) g) 3 (S 0 1) x)) rfl (fun H locs hP hD hS => ?_)
  refine lv_aload_n F.1 F.2.1 dX1_putGoose_19 rfl (lv_at hl 1 rfl) ?_
  refine lv_dup F.1 F.2.1 dX1_putGoose_20 rfl ?_
  refine k_get (v := .int (nI (S 0 1))) F nX1_putGoose_X1 hK.1 hP 0 rfl rfl 0 (by decide) (List.mem_of_getElem? (i := 1) rfl) rfl dX1_putGoose_21 ?_
  refine lv_iconst (v := nI 1) F.1 F.2.1 dX1_putGoose_24 (by decide) ?_
  refine k_iadd F dX1_putGoose_25 ?_
  refine k_put F nX1_putGoose_X1 tyX1 tyX1_ok nmX1 hK.1 hP hD hS 0 rfl rfl 0 (by decide) (List.mem_of_getElem? (i := 1) rfl) rfl (by decide +kernel) (Nat.le_of_ble_eq_true rfl) dX1_putGoose_26 (wFl cI a (setf (setf (setf S 2 (S 0 1) g) 3 (S 0 1) x) 0 1 (S 0 1 + 1))) rfl (fun H locs hP hD hS => ?_)
  refine lv_iload_n F.1 F.2.1 dX1_putGoose_29 rfl (lv_at hl 0 rfl) ?_
  exact k_retMI F hr hlk hP rfl hS (by first | rfl | (simp [*]; done) | omega) rfl dX1_putGoose_30
theorem nX2_hasGuest_X2 : ∀ x ∈ wsX20, x ∈ wsX2_hasGuest := fun _ h => List.mem_cons_of_mem _ (List.mem_append_right _ h)
set_option maxRecDepth 100000 in
set_option maxHeartbeats 4000000 in
theorem c_X2_hasGuest (l : Launch) (D : va_G) (cI : ClassId) (a : Nat → Nat) (S : Nat → Nat → Nat) (g : Int32) : PI l yX2_hasGuest wsX2_hasGuest 0 0 D [(cI, .int)] [.ref (a 7), .int g] (wGu cI a S) (bI (0 ≤ g ∧ g < nI (S 0 2))) := by
  refine k_bodyP (cc := cX2_hasGuest) (maxL := 2) (ret := (some .boolean)) (by decide) rfl (Nat.le_of_ble_eq_true rfl) ?_
  intro p e s m args below meth c H ls F hr hlk hl hP hK hS
  have F : CallFix p m c cX2_hasGuest 2 s args wsX2_hasGuest RX2 := F
  have hl : lv_has ls 2 [(0, .ref (a 7)), (1, .int g)] := hl
  refine lv_iload_n F.1 F.2.1 dX2_hasGuest_0 rfl (lv_at hl 1 rfl) ?_
  refine lv_if_lt (tgt := 16) F.1 F.2.1 dX2_hasGuest_1 (by decide) (fun h1 => ?_) (fun h1 => ?_)
  · skip
    refine lv_iconst (v := nI 0) F.1 F.2.1 dX2_hasGuest_16 (by decide) ?_
    exact k_retP F hr hlk hS (fin0 (by first | exact fun q => absurd h1 (Int32.not_lt.mpr q.1) | exact fun q => absurd h9 (Int32.not_le.mpr q.2))) (by first | rfl | (split <;> rfl)) dX2_hasGuest_17
  · skip
    refine lv_iload_n F.1 F.2.1 dX2_hasGuest_4 rfl (lv_at hl 1 rfl) ?_
    refine lv_aload_n F.1 F.2.1 dX2_hasGuest_5 rfl (lv_at hl 0 rfl) ?_
    refine k_get (v := .int (nI (S 0 2))) F nX2_hasGuest_X2 hK.1 hP 0 rfl rfl 0 (by decide) (List.mem_of_getElem? (i := 1) rfl) rfl dX2_hasGuest_6 ?_
    refine lv_icmp_ge (tgt := 16) F.1 F.2.1 dX2_hasGuest_9 (by decide) (fun h9 => ?_) (fun h9 => ?_)
    · skip
      refine lv_iconst (v := nI 0) F.1 F.2.1 dX2_hasGuest_16 (by decide) ?_
      exact k_retP F hr hlk hS (fin0 (by first | exact fun q => absurd h1 (Int32.not_lt.mpr q.1) | exact fun q => absurd h9 (Int32.not_le.mpr q.2))) (by first | rfl | (split <;> rfl)) dX2_hasGuest_17
    · skip
      refine lv_iconst (v := nI 1) F.1 F.2.1 dX2_hasGuest_12 (by decide) ?_
      refine lv_goto (tgt := 17) F.1 F.2.1 dX2_hasGuest_13 (by decide) ?_
      exact k_retP F hr hlk hS (fin1 (by exact ⟨Int32.not_lt.mp h1, Int32.not_le.mp h9⟩)) (by first | rfl | (split <;> rfl)) dX2_hasGuest_17
theorem nX2_putGuest_X2 : ∀ x ∈ wsX20, x ∈ wsX2_putGuest := fun _ h => List.mem_cons_of_mem _ (List.mem_append_right _ h)
set_option maxRecDepth 100000 in
set_option maxHeartbeats 4000000 in
theorem c_X2_putGuest (l : Launch) (D : va_G) (cI : ClassId) (a : Nat → Nat) (S : Nat → Nat → Nat) (r : Nat) (v : Nat) (x : Nat) (hk : S 0 2 < 8) : MI l yX2_putGuest wsX2_putGuest 0 0 D [(cI, .int)] [.ref (a 7), .int (nI r), .int (nI v), .int (nI x)] (wGu cI a S) (wGu cI a (setf (setf (setf (setf S 6 (S 0 2) r) 9 (S 0 2) v) 8 (S 0 2) x) 0 2 (S 0 2 + 1))) (nI (S 0 2)) := by
  refine k_bodyM (cc := cX2_putGuest) (maxL := 5) (ret := (some .int)) (by decide) rfl (Nat.le_of_ble_eq_true rfl) ?_
  intro p e s m args below meth c H ls F hr hlk hl hP hK hD hS
  have F : CallFix p m c cX2_putGuest 5 s args wsX2_putGuest RX2 := F
  have hl : lv_has ls 5 [(0, .ref (a 7)), (1, .int (nI r)), (2, .int (nI v)), (3, .int (nI x))] := hl
  refine lv_aload_n F.1 F.2.1 dX2_putGuest_0 rfl (lv_at hl 0 rfl) ?_
  refine k_get (v := .int (nI (S 0 2))) F nX2_putGuest_X2 hK.1 hP 0 rfl rfl 0 (by decide) (List.mem_of_getElem? (i := 1) rfl) rfl dX2_putGuest_1 ?_
  refine lv_istore (lv' := [(4, .int (nI (S 0 2))), (0, .ref (a 7)), (1, .int (nI r)), (2, .int (nI v)), (3, .int (nI x))]) F.1 F.2.1 dX2_putGuest_4 hl (by decide) rfl (fun ls hl => ?_)
  refine lv_aload_n F.1 F.2.1 dX2_putGuest_6 rfl (lv_at hl 1 rfl) ?_
  refine k_get (v := .ref (a 8)) F nX2_putGuest_X2 hK.1 hP 0 rfl rfl 1 (by decide) (List.mem_of_getElem? (i := 2) rfl) rfl dX2_putGuest_7 ?_
  refine lv_iload F.1 F.2.1 dX2_putGuest_10 (lv_at hl 0 rfl) ?_
  refine lv_iload_n F.1 F.2.1 dX2_putGuest_12 rfl (lv_at hl 2 rfl) ?_
  refine k_iast (f := S 6) (n := 8) (k := (S 0 2)) (x := r) F hK.1 hP hD hS 1 0 rfl rfl (by omega) (by decide) dX2_putGuest_13 (wGu cI a (setf S 6 (S 0 2) r)) rfl (fun H locs hP hD hS => ?_)
  refine lv_aload_n F.1 F.2.1 dX2_putGuest_14 rfl (lv_at hl 1 rfl) ?_
  refine k_get (v := .ref (a 9)) F nX2_putGuest_X2 hK.1 hP 0 rfl rfl 2 (by decide) (List.mem_of_getElem? (i := 3) rfl) rfl dX2_putGuest_15 ?_
  refine lv_iload F.1 F.2.1 dX2_putGuest_18 (lv_at hl 0 rfl) ?_
  refine lv_iload_n F.1 F.2.1 dX2_putGuest_20 rfl (lv_at hl 3 rfl) ?_
  refine k_iast (f := S 9) (n := 8) (k := (S 0 2)) (x := v) F hK.1 hP hD hS 2 0 rfl rfl (by omega) (by decide) dX2_putGuest_21 (wGu cI a (setf (setf S 6 (S 0 2) r) 9 (S 0 2) v)) rfl (fun H locs hP hD hS => ?_)
  refine lv_aload_n F.1 F.2.1 dX2_putGuest_22 rfl (lv_at hl 1 rfl) ?_
  refine k_get (v := .ref (a 10)) F nX2_putGuest_X2 hK.1 hP 0 rfl rfl 3 (by decide) (List.mem_of_getElem? (i := 4) rfl) rfl dX2_putGuest_23 ?_
  refine lv_iload F.1 F.2.1 dX2_putGuest_26 (lv_at hl 0 rfl) ?_
  refine lv_iload_n F.1 F.2.1 dX2_putGuest_28 rfl (lv_at hl 4 rfl) ?_
  refine k_iast (f := S 8) (n := 8) (k := (S 0 2)) (x := x) F hK.1 hP hD hS 3 0 rfl rfl (by omega) (by decide) dX2_putGuest_29 (wGu cI a (setf (setf (setf S 6 (S 0 2) r) 9 (S 0 2) v) 8 (S 0 2) x)) rfl (fun H locs hP hD hS => ?_)
  refine lv_aload_n F.1 F.2.1 dX2_putGuest_30 rfl (lv_at hl 1 rfl) ?_
  refine lv_dup F.1 F.2.1 dX2_putGuest_31 rfl ?_
  refine k_get (v := .int (nI (S 0 2))) F nX2_putGuest_X2 hK.1 hP 0 rfl rfl 0 (by decide) (List.mem_of_getElem? (i := 1) rfl) rfl dX2_putGuest_32 ?_
  refine lv_iconst (v := nI 1) F.1 F.2.1 dX2_putGuest_35 (by decide) ?_
  refine k_iadd F dX2_putGuest_36 ?_
  refine k_put F nX2_putGuest_X2 tyX2 tyX2_ok nmX2 hK.1 hP hD hS 0 rfl rfl 0 (by decide) (List.mem_of_getElem? (i := 1) rfl) rfl (by decide +kernel) (Nat.le_of_ble_eq_true rfl) dX2_putGuest_37 (wGu cI a (setf (setf (setf (setf S 6 (S 0 2) r) 9 (S 0 2) v) 8 (S 0 2) x) 0 2 (S 0 2 + 1))) rfl (fun H locs hP hD hS => ?_)
  refine lv_iload F.1 F.2.1 dX2_putGuest_40 (lv_at hl 0 rfl) ?_
  exact k_retMI F hr hlk hP rfl hS (by first | rfl | (simp [*]; done) | omega) rfl dX2_putGuest_42
theorem nX2_fallBack_X2 : ∀ x ∈ wsX20, x ∈ wsX2_fallBack := fun _ h => List.mem_cons_of_mem _ (List.mem_append_right _ h)
set_option maxRecDepth 100000 in
set_option maxHeartbeats 4000000 in
theorem c_X2_fallBack (l : Launch) (D : va_G) (cI : ClassId) (a : Nat → Nat) (S : Nat → Nat → Nat) (g : Nat) (x : Nat) (hk : g < 8) (hb7 : S 7 g ≤ 6) (hb9 : S 9 g ≤ 20) : MV l yX2_fallBack wsX2_fallBack 1 15 D [(cI, .int)] [.ref (a 7), .int (nI g), .int (nI x)] (wGu cI a S) (wGu cI a (setf (setf (setf S 10 g x) 9 g (min 20 (S 9 g + 1))) 7 g (S 7 g - 1))) := by
  refine k_bodyM (cc := cX2_fallBack) (maxL := 3) (ret := none) (by decide) rfl (Nat.le_of_ble_eq_true rfl) ?_
  intro p e s m args below meth c H ls F hr hlk hl hP hK hD hS
  have F : CallFix p m c cX2_fallBack 3 s args wsX2_fallBack RX2 := F
  have hl : lv_has ls 3 [(0, .ref (a 7)), (1, .int (nI g)), (2, .int (nI x))] := hl
  refine lv_aload_n F.1 F.2.1 dX2_fallBack_0 rfl (lv_at hl 0 rfl) ?_
  refine k_get (v := .ref (a 12)) F nX2_fallBack_X2 hK.1 hP 0 rfl rfl 5 (by decide) (List.mem_of_getElem? (i := 1) rfl) rfl dX2_fallBack_1 ?_
  refine lv_iload_n F.1 F.2.1 dX2_fallBack_4 rfl (lv_at hl 1 rfl) ?_
  refine lv_iload_n F.1 F.2.1 dX2_fallBack_5 rfl (lv_at hl 2 rfl) ?_
  refine k_iast (f := S 10) (n := 8) (k := g) (x := x) F hK.1 hP hD hS 5 0 rfl rfl (by omega) (by decide) dX2_fallBack_6 (wGu cI a (setf S 10 g x)) rfl (fun H locs hP hD hS => ?_)
  refine lv_aload_n F.1 F.2.1 dX2_fallBack_7 rfl (lv_at hl 0 rfl) ?_
  refine k_get (v := .ref (a 9)) F nX2_fallBack_X2 hK.1 hP 0 rfl rfl 2 (by decide) (List.mem_of_getElem? (i := 2) rfl) rfl dX2_fallBack_8 ?_
  refine lv_iload_n F.1 F.2.1 dX2_fallBack_11 rfl (lv_at hl 1 rfl) ?_
  refine lv_bipush (v := nI 20) F.1 F.2.1 dX2_fallBack_12 (by decide) ?_
  refine lv_aload_n F.1 F.2.1 dX2_fallBack_14 rfl (lv_at hl 0 rfl) ?_
  refine k_get (v := .ref (a 9)) F nX2_fallBack_X2 hK.1 hP 0 rfl rfl 2 (by decide) (List.mem_of_getElem? (i := 2) rfl) rfl dX2_fallBack_15 ?_
  refine lv_iload_n F.1 F.2.1 dX2_fallBack_18 rfl (lv_at hl 1 rfl) ?_
  refine k_iald (f := S 9) (n := 8) F hK.1 hP 2 0 rfl rfl (by omega) (by decide) dX2_fallBack_19 ?_
  refine lv_iconst (v := nI 1) F.1 F.2.1 dX2_fallBack_20 (by decide) ?_
  refine k_iadd F dX2_fallBack_21 ?_
  refine k_min F hl.1 (List.mem_of_getElem? (i := 3) rfl) (List.mem_of_getElem? (i := 4) rfl) (List.mem_of_getElem? (i := 5) rfl) (List.mem_of_getElem? (i := 6) rfl) (Nat.le_of_ble_eq_true rfl) (Nat.le_of_ble_eq_true rfl) ⟨Nat.zero_le _, Nat.zero_le _⟩ (by omega) (by omega) dX2_fallBack_22 ?_
  refine k_iast (f := S 9) (n := 8) (k := g) (x := (min 20 (S 9 g + 1))) F hK.1 hP hD hS 2 0 rfl rfl (by omega) (by decide) dX2_fallBack_25 (wGu cI a (setf (setf S 10 g x) 9 g (min 20 (S 9 g + 1)))) rfl (fun H locs hP hD hS => ?_)
  refine lv_aload_n F.1 F.2.1 dX2_fallBack_26 rfl (lv_at hl 0 rfl) ?_
  refine k_get (v := .ref (a 11)) F nX2_fallBack_X2 hK.1 hP 0 rfl rfl 4 (by decide) (List.mem_of_getElem? (i := 7) rfl) rfl dX2_fallBack_27 ?_
  refine lv_iload_n F.1 F.2.1 dX2_fallBack_30 rfl (lv_at hl 1 rfl) ?_
  refine k_iald (f := S 7) (n := 8) F hK.1 hP 4 0 rfl rfl (by omega) (by decide) dX2_fallBack_31 ?_
  refine k_if_le (tgt := 45) F (by omega) dX2_fallBack_32 (by decide) (fun h32 => ?_) (fun h32 => ?_)
  · skip
    exact k_retMV F hr hlk hP (by first | rfl | exact congrArg (wGu cI a) (setf_same _ _ _ _ (by show S 7 g = S 7 g - 1; omega)).symm) hS dX2_fallBack_45
  · skip
    refine lv_aload_n F.1 F.2.1 dX2_fallBack_35 rfl (lv_at hl 0 rfl) ?_
    refine k_get (v := .ref (a 11)) F nX2_fallBack_X2 hK.1 hP 0 rfl rfl 4 (by decide) (List.mem_of_getElem? (i := 7) rfl) rfl dX2_fallBack_36 ?_
    refine lv_iload_n F.1 F.2.1 dX2_fallBack_39 rfl (lv_at hl 1 rfl) ?_
    refine lv_dup2_11 F.1 F.2.1 dX2_fallBack_40 rfl rfl ?_
    refine k_iald (f := S 7) (n := 8) F hK.1 hP 4 0 rfl rfl (by omega) (by decide) dX2_fallBack_41 ?_
    refine lv_iconst (v := nI 1) F.1 F.2.1 dX2_fallBack_42 (by decide) ?_
    refine k_isub F (by omega) dX2_fallBack_43 ?_
    refine k_iast (f := S 7) (n := 8) (k := g) (x := (S 7 g - 1)) F hK.1 hP hD hS 4 0 rfl rfl (by omega) (by decide) dX2_fallBack_44 (wGu cI a (setf (setf (setf S 10 g x) 9 g (min 20 (S 9 g + 1))) 7 g (S 7 g - 1))) rfl (fun H locs hP hD hS => ?_)
    exact k_retMV F hr hlk hP (by first | rfl | exact congrArg (wGu cI a) (setf_same _ _ _ _ (by show S 7 g = S 7 g - 1; omega)).symm) hS dX2_fallBack_45
