theorem wMo_ms {cI : ClassId} {u : Nat → Nat} {S S' : Nat → Nat → Nat} {th th' : Int32} {K K' : Nat → Nat} : mset (wMo cI u S th K) [0, 1, 2, 3, 4, 5] (wMo cI u S' th' K') = wMo cI u S' th' K' := rfl
theorem wMo_ad {cI : ClassId} {u : Nat → Nat} {S S' : Nat → Nat → Nat} {th th' : Int32} {K K' : Nat → Nat} : (wMo cI u S' th' K').map (·.1) = (wMo cI u S th K).map (·.1) := rfl
theorem enc_f {S : Nat → Nat → Nat} {f k v : Nat} (h : (f = 1 ∨ f = 2 ∨ f = 6) ∨ (f = 0 ∧ k < 3)) : encN (setf S f k v) = encN S := by
  funext j
  unfold encN
  by_cases h1 : j < 3
  · rw [if_pos h1, if_pos h1, setf_at, if_neg (by omega)]
  · rw [if_neg h1, if_neg h1]
    by_cases h2 : j < 27
    · rw [if_pos h2, if_pos h2, setf_at, if_neg (by omega)]
    · rw [if_neg h2, if_neg h2, setf_at, if_neg (by omega)]
theorem wMo_of {cI : ClassId} {u : Nat → Nat} {S : Nat → Nat → Nat} {th : Int32} {K : Nat → Nat} {f k v : Nat} (h : (f = 1 ∨ f = 2 ∨ f = 6) ∨ (f = 0 ∧ k < 3)) : wMo cI u (setf S f k v) th K = (wMo cI u (setf S f k v) th K).set 4 (u 4, .inl (cI, 59, .inl (row (encN S)))) := by
  show [_, _, _, _, _, _] = [_, _, _, _, _, _]
  rw [enc_f h]
theorem wMo_a1 {cI : ClassId} {u : Nat → Nat} {S : Nat → Nat → Nat} {th : Int32} {K : Nat → Nat} {k v : Nat} : (wMo cI u S th K).set 1 (u 1, .inl (cI, 6, .inl (row (updN (S 1) k v)))) = wMo cI u (setf S 1 k v) th K := by rw [wMo_of (by omega)]; rfl
theorem wMo_a2 {cI : ClassId} {u : Nat → Nat} {S : Nat → Nat → Nat} {th : Int32} {K : Nat → Nat} {k v : Nat} : (wMo cI u S th K).set 2 (u 2, .inl (cI, 8, .inl (row (updN (S 2) k v)))) = wMo cI u (setf S 2 k v) th K := by rw [wMo_of (by omega)]; rfl
theorem wMo_a3 {cI : ClassId} {u : Nat → Nat} {S : Nat → Nat → Nat} {th : Int32} {K : Nat → Nat} {k v : Nat} : (wMo cI u S th K).set 3 (u 3, .inl (cI, 8, .inl (row (updN (S 6) k v)))) = wMo cI u (setf S 6 k v) th K := by rw [wMo_of (by omega)]; rfl
theorem wMo_f0 {cI : ClassId} {u : Nat → Nat} {S : Nat → Nat → Nat} {th th' : Int32} {K : Nat → Nat} : (wMo cI u S th K).set 0 (u 0, .inr (4, [.int th', .int (nI (S 0 0)), .int (nI (S 0 1)), .int (nI (S 0 2)), .ref (u 1), .ref (u 2), .ref (u 3), .ref (u 4), .ref (u 5)])) = wMo cI u S th' K := rfl
theorem wMo_f1 {cI : ClassId} {u : Nat → Nat} {S : Nat → Nat → Nat} {th : Int32} {K : Nat → Nat} {v : Nat} : (wMo cI u S th K).set 0 (u 0, .inr (4, [.int th, .int (nI v), .int (nI (S 0 1)), .int (nI (S 0 2)), .ref (u 1), .ref (u 2), .ref (u 3), .ref (u 4), .ref (u 5)])) = wMo cI u (setf S 0 0 v) th K := by rw [wMo_of (by omega)]; rfl
theorem wMo_f2 {cI : ClassId} {u : Nat → Nat} {S : Nat → Nat → Nat} {th : Int32} {K : Nat → Nat} {v : Nat} : (wMo cI u S th K).set 0 (u 0, .inr (4, [.int th, .int (nI (S 0 0)), .int (nI v), .int (nI (S 0 2)), .ref (u 1), .ref (u 2), .ref (u 3), .ref (u 4), .ref (u 5)])) = wMo cI u (setf S 0 1 v) th K := by rw [wMo_of (by omega)]; rfl
theorem wMo_f3 {cI : ClassId} {u : Nat → Nat} {S : Nat → Nat → Nat} {th : Int32} {K : Nat → Nat} {v : Nat} : (wMo cI u S th K).set 0 (u 0, .inr (4, [.int th, .int (nI (S 0 0)), .int (nI (S 0 1)), .int (nI v), .ref (u 1), .ref (u 2), .ref (u 3), .ref (u 4), .ref (u 5)])) = wMo cI u (setf S 0 2 v) th K := by rw [wMo_of (by omega)]; rfl
theorem P_eq {D : va_G} {cl : List vw_C} {w w' : va_W} {H : Heap} (e : w = w') (h : va_P D cl w H) : va_P D cl w' H := e ▸ h
theorem D_eq {A : Nat → Prop} {w w' : va_W} (e : w = w') (h : va_D A w) : va_D A w' := e ▸ h
theorem nI_ne_m1 {b : Nat} (hb : b < 2 ^ 31) : ¬ nI b = -1 := by
  intro h
  have h1 := congrArg Int32.toInt h
  rw [nI_toInt hb] at h1
  have h2 : (-1 : Int32).toInt = -1 := by decide
  rw [h2] at h1
  omega
theorem frcN_val (S : Nat → Nat → Nat) (t : Nat) : ∀ n, ((frcN S t n).1 = 0 → (frcN S t n).2 = 0) ∧ ∀ b, (frcN S t n).1 = b + 1 → (frcN S t n).2 = S 3 b ∧ b < n
  | 0 => ⟨fun _ => rfl, fun b h => absurd h (by simp [frcN])⟩
  | n + 1 => by
    have ih := frcN_val S t n
    unfold frcN
    split
    · exact ⟨fun h => absurd h (by simp), fun b h => by
        have : n = b := by simpa using h
        subst this
        exact ⟨rfl, by omega⟩⟩
    · exact ⟨ih.1, fun b h => ⟨(ih.2 b h).1, by have := (ih.2 b h).2; omega⟩⟩
theorem mv_of {S X : Nat → Nat → Nat} {v : Nat} (h : ¬ S 0 0 ≤ S 7 v) (e : X = moveS S v) : X = mvS S v := by
  unfold mvS
  rw [if_neg h]
  exact e
theorem enrN_y2 (S : Nat → Nat → Nat) {t i x : Nat} (e : x = S 3 i) (h : awk S i t) : setf (setF S 3 (enrN S t i)) 3 i (min 9 (x + 1)) = setF S 3 (enrN S t (i + 1)) := by rw [e]; exact enrN_y h
theorem wakN_y2 (S : Nat → Nat → Nat) (i : Nat) : setf (setF S 4 (wakN S i)) 4 i (wakN S i i - 1) = setF S 4 (wakN S (i + 1)) := by rw [wakN_at]; exact wakN_y S i
set_option maxRecDepth 100000 in
set_option maxHeartbeats 4000000 in
theorem c_X4_isIn (l : Launch) (D : va_G) (cI : ClassId)  (x : Int32) (y : Int32) (z : Int32) : PI l yX4_isIn wsX4_isIn 0 0 D [(cI, .int)] [.int x, .int y, .int z] [] (bI (y ≤ x ∧ x ≤ z)) := by
  refine k_bodyP (cc := cX4_isIn) (maxL := 3) (ret := (some .boolean)) (by decide) rfl (Nat.le_of_ble_eq_true rfl) ?_
  intro p e s m args below meth c H ls F hr hlk hl hP hK hS
  have F : CallFix p m c cX4_isIn 3 s args wsX4_isIn RX4 := F
  have hl : lv_has ls 3 [(0, .int x), (1, .int y), (2, .int z)] := hl
  refine lv_iload_n F.1 F.2.1 dX4_isIn_0 rfl (lv_at hl 0 rfl) ?_
  refine lv_iload_n F.1 F.2.1 dX4_isIn_1 rfl (lv_at hl 1 rfl) ?_
  refine lv_icmp_lt (tgt := 14) F.1 F.2.1 dX4_isIn_2 (by decide) (fun h2 => ?_) (fun h2 => ?_)
  · skip
    refine lv_iconst (v := nI 0) F.1 F.2.1 dX4_isIn_14 (by decide) ?_
    exact k_retP F hr hlk hS (fin0 (by first | exact fun q => absurd h2 (Int32.not_lt.mpr q.1) | exact fun q => absurd h7 (Int32.not_lt.mpr q.2))) (by first | rfl | (split <;> rfl)) dX4_isIn_15
  · skip
    refine lv_iload_n F.1 F.2.1 dX4_isIn_5 rfl (lv_at hl 0 rfl) ?_
    refine lv_iload_n F.1 F.2.1 dX4_isIn_6 rfl (lv_at hl 2 rfl) ?_
    refine lv_icmp_gt (tgt := 14) F.1 F.2.1 dX4_isIn_7 (by decide) (fun h7 => ?_) (fun h7 => ?_)
    · skip
      refine lv_iconst (v := nI 0) F.1 F.2.1 dX4_isIn_14 (by decide) ?_
      exact k_retP F hr hlk hS (fin0 (by first | exact fun q => absurd h2 (Int32.not_lt.mpr q.1) | exact fun q => absurd h7 (Int32.not_lt.mpr q.2))) (by first | rfl | (split <;> rfl)) dX4_isIn_15
    · skip
      refine lv_iconst (v := nI 1) F.1 F.2.1 dX4_isIn_10 (by decide) ?_
      refine lv_goto (tgt := 15) F.1 F.2.1 dX4_isIn_11 (by decide) ?_
      exact k_retP F hr hlk hS (fin1 (by exact ⟨Int32.not_lt.mp h2, Int32.not_lt.mp h7⟩)) (by first | rfl | (split <;> rfl)) dX4_isIn_15
set_option maxRecDepth 100000 in
set_option maxHeartbeats 4000000 in
theorem c_X4_grade (l : Launch) (D : va_G) (cI : ClassId)  (h : Nat) (hh : h < 2 ^ 31) : PI l yX4_grade wsX4_grade 0 0 D [(cI, .int)] [.int (nI h)] [] (nI (grdN h)) := by
  refine k_bodyP (cc := cX4_grade) (maxL := 1) (ret := (some .int)) (by decide) rfl (Nat.le_of_ble_eq_true rfl) ?_
  intro p e s m args below meth c H ls F hr hlk hl hP hK hS
  have F : CallFix p m c cX4_grade 1 s args wsX4_grade RX4 := F
  have hl : lv_has ls 1 [(0, .int (nI h))] := hl
  refine lv_iload_n F.1 F.2.1 dX4_grade_0 rfl (lv_at hl 0 rfl) ?_
  refine k_if_ne (tgt := 8) F (by omega) dX4_grade_1 (by decide) (fun h1 => ?_) (fun h1 => ?_)
  · skip
    refine lv_iload_n F.1 F.2.1 dX4_grade_8 rfl (lv_at hl 0 rfl) ?_
    refine lv_iconst (v := nI 5) F.1 F.2.1 dX4_grade_9 (by decide) ?_
    refine k_icmp_gt (tgt := 17) F (by omega) (by omega) dX4_grade_10 (by decide) (fun h10 => ?_) (fun h10 => ?_)
    · skip
      refine lv_iload_n F.1 F.2.1 dX4_grade_17 rfl (lv_at hl 0 rfl) ?_
      refine lv_bipush (v := nI 10) F.1 F.2.1 dX4_grade_18 (by decide) ?_
      refine k_icmp_gt (tgt := 27) F (by omega) (by omega) dX4_grade_20 (by decide) (fun h20 => ?_) (fun h20 => ?_)
      · skip
        refine lv_iload_n F.1 F.2.1 dX4_grade_27 rfl (lv_at hl 0 rfl) ?_
        refine lv_bipush (v := nI 20) F.1 F.2.1 dX4_grade_28 (by decide) ?_
        refine k_icmp_gt (tgt := 37) F (by omega) (by omega) dX4_grade_30 (by decide) (fun h30 => ?_) (fun h30 => ?_)
        · skip
          refine lv_iconst (v := nI 4) F.1 F.2.1 dX4_grade_37 (by decide) ?_
          exact k_retP F hr hlk hS (by congr 1; unfold grdN; (repeat' split) <;> omega) rfl dX4_grade_38
        · skip
          refine lv_iconst (v := nI 3) F.1 F.2.1 dX4_grade_33 (by decide) ?_
          refine lv_goto (tgt := 38) F.1 F.2.1 dX4_grade_34 (by decide) ?_
          exact k_retP F hr hlk hS (by congr 1; unfold grdN; (repeat' split) <;> omega) rfl dX4_grade_38
      · skip
        refine lv_iconst (v := nI 2) F.1 F.2.1 dX4_grade_23 (by decide) ?_
        refine lv_goto (tgt := 38) F.1 F.2.1 dX4_grade_24 (by decide) ?_
        exact k_retP F hr hlk hS (by congr 1; unfold grdN; (repeat' split) <;> omega) rfl dX4_grade_38
    · skip
      refine lv_iconst (v := nI 1) F.1 F.2.1 dX4_grade_13 (by decide) ?_
      refine lv_goto (tgt := 38) F.1 F.2.1 dX4_grade_14 (by decide) ?_
      exact k_retP F hr hlk hS (by congr 1; unfold grdN; (repeat' split) <;> omega) rfl dX4_grade_38
  · skip
    refine lv_iconst (v := nI 0) F.1 F.2.1 dX4_grade_4 (by decide) ?_
    refine lv_goto (tgt := 38) F.1 F.2.1 dX4_grade_5 (by decide) ?_
    exact k_retP F hr hlk hS (by congr 1; unfold grdN; (repeat' split) <;> omega) rfl dX4_grade_38
theorem nX4_thrown_X4 : ∀ x ∈ wsX40, x ∈ wsX4_thrown := fun _ h => List.mem_cons_of_mem _ (List.mem_append_right _ h)
set_option maxRecDepth 100000 in
set_option maxHeartbeats 4000000 in
theorem c_X4_thrown (l : Launch) (D : va_G) (cI : ClassId) (u : Nat → Nat) (S : Nat → Nat → Nat) (th : Int32) (K : Nat → Nat) : PI l yX4_thrown wsX4_thrown 0 0 D [(cI, .int)] [.ref (u 0)] (wMo cI u S th K) th := by
  refine k_bodyP (cc := cX4_thrown) (maxL := 1) (ret := (some .int)) (by decide) rfl (Nat.le_of_ble_eq_true rfl) ?_
  intro p e s m args below meth c H ls F hr hlk hl hP hK hS
  have F : CallFix p m c cX4_thrown 1 s args wsX4_thrown RX4 := F
  have hl : lv_has ls 1 [(0, .ref (u 0))] := hl
  refine lv_aload_n F.1 F.2.1 dX4_thrown_0 rfl (lv_at hl 0 rfl) ?_
  refine k_get (v := .int th) F nX4_thrown_X4 hK.1 hP 0 rfl rfl 0 (by decide) (List.mem_of_getElem? (i := 1) rfl) rfl dX4_thrown_1 ?_
  exact k_retP F hr hlk hS rfl rfl dX4_thrown_4
theorem nX4_fail_X4 : ∀ x ∈ wsX40, x ∈ wsX4_fail := fun _ h => List.mem_cons_of_mem _ (List.mem_append_right _ h)
set_option maxRecDepth 100000 in
set_option maxHeartbeats 4000000 in
theorem c_X4_fail (l : Launch) (D : va_G) (cI : ClassId) (u : Nat → Nat) (S : Nat → Nat → Nat) (th : Int32) (K : Nat → Nat) (x : Int32) : MI l yX4_fail wsX4_fail 0 0 D [(cI, .int)] [.ref (u 0), .int x] (wMo cI u S th K) (wMo cI u S x K) (nI 0) := by
  refine k_bodyM (cc := cX4_fail) (maxL := 2) (ret := (some .int)) (by decide) rfl (Nat.le_of_ble_eq_true rfl) ?_
  intro p e s m args below meth c H ls F hr hlk hl hP hK hD hS
  have F : CallFix p m c cX4_fail 2 s args wsX4_fail RX4 := F
  have hl : lv_has ls 2 [(0, .ref (u 0)), (1, .int x)] := hl
  refine lv_aload_n F.1 F.2.1 dX4_fail_0 rfl (lv_at hl 0 rfl) ?_
  refine lv_iload_n F.1 F.2.1 dX4_fail_1 rfl (lv_at hl 1 rfl) ?_
  refine k_put F nX4_fail_X4 tyX4 tyX4_ok nmX4 hK.1 hP hD hS 0 rfl rfl 0 (by decide) (List.mem_of_getElem? (i := 1) rfl) rfl (by decide +kernel) (Nat.le_of_ble_eq_true rfl) dX4_fail_2 (wMo cI u S x K) wMo_f0 (fun H locs hP hD hS => ?_)
  refine lv_iconst (v := nI 0) F.1 F.2.1 dX4_fail_5 (by decide) ?_
  exact k_retMI F hr hlk hP rfl hS (by first | rfl | (simp [*]; done) | omega) rfl dX4_fail_6
theorem nX4_told_X4 : ∀ x ∈ wsX40, x ∈ wsX4_told := fun _ h => List.mem_cons_of_mem _ (List.mem_append_right _ h)
set_option maxRecDepth 100000 in
set_option maxHeartbeats 4000000 in
theorem c_X4_told (l : Launch) (D : va_G) (cI : ClassId) (u : Nat → Nat) (S : Nat → Nat → Nat) (th : Int32) (K : Nat → Nat) (x : Int32) : MI l yX4_told wsX4_told 0 0 D [(cI, .int)] [.ref (u 0), .int x] (wMo cI u S th K) (wMo cI u S (nI 0) K) x := by
  refine k_bodyM (cc := cX4_told) (maxL := 2) (ret := (some .int)) (by decide) rfl (Nat.le_of_ble_eq_true rfl) ?_
  intro p e s m args below meth c H ls F hr hlk hl hP hK hD hS
  have F : CallFix p m c cX4_told 2 s args wsX4_told RX4 := F
  have hl : lv_has ls 2 [(0, .ref (u 0)), (1, .int x)] := hl
  refine lv_aload_n F.1 F.2.1 dX4_told_0 rfl (lv_at hl 0 rfl) ?_
  refine lv_iconst (v := nI 0) F.1 F.2.1 dX4_told_1 (by decide) ?_
  refine k_put F nX4_told_X4 tyX4 tyX4_ok nmX4 hK.1 hP hD hS 0 rfl rfl 0 (by decide) (List.mem_of_getElem? (i := 1) rfl) rfl (by decide +kernel) (Nat.le_of_ble_eq_true rfl) dX4_told_2 (wMo cI u S (nI 0) K) wMo_f0 (fun H locs hP hD hS => ?_)
  refine lv_iload_n F.1 F.2.1 dX4_told_5 rfl (lv_at hl 1 rfl) ?_
  exact k_retMI F hr hlk hP rfl hS rfl rfl dX4_told_6
theorem nX4_isGate_X4 : ∀ x ∈ wsX40, x ∈ wsX4_isGate := fun _ h => List.mem_cons_of_mem _ (List.mem_append_right _ h)
set_option maxRecDepth 100000 in
set_option maxHeartbeats 4000000 in
theorem c_X4_isGate (l : Launch) (D : va_G) (cI : ClassId) (u : Nat → Nat) (S : Nat → Nat → Nat) (th : Int32) (K : Nat → Nat) (g : Int32) (hn : S 0 0 ≤ 8) : PI l yX4_isGate wsX4_isGate 1 22 D [(cI, .int)] [.ref (u 0), .int g] (wMo cI u S th K) (bI (0 ≤ g ∧ g < nI (S 0 0))) := by
  refine k_bodyP (cc := cX4_isGate) (maxL := 2) (ret := (some .boolean)) (by decide) rfl (Nat.le_of_ble_eq_true rfl) ?_
  intro p e s m args below meth c H ls F hr hlk hl hP hK hS
  have F : CallFix p m c cX4_isGate 2 s args wsX4_isGate RX4 := F
  have hl : lv_has ls 2 [(0, .ref (u 0)), (1, .int g)] := hl
  refine lv_iload_n F.1 F.2.1 dX4_isGate_0 rfl (lv_at hl 1 rfl) ?_
  refine lv_iconst (v := nI 0) F.1 F.2.1 dX4_isGate_1 (by decide) ?_
  refine lv_aload_n F.1 F.2.1 dX4_isGate_2 rfl (lv_at hl 0 rfl) ?_
  refine k_get (v := .int (nI (S 0 0))) F nX4_isGate_X4 hK.1 hP 0 rfl rfl 1 (by decide) (List.mem_of_getElem? (i := 1) rfl) rfl dX4_isGate_3 ?_
  refine lv_iconst (v := nI 1) F.1 F.2.1 dX4_isGate_6 (by decide) ?_
  refine lv_isub F.1 F.2.1 dX4_isGate_7 ?_
  refine k_pS (n := 3) (rest := []) (v := bI ((nI 0) ≤ g ∧ g ≤ (nI (S 0 0) - nI 1))) F (c_X4_isIn l D cI g (nI 0) (nI (S 0 0) - nI 1)) gX4_isGate_X4_isIn rfl (by decide +kernel) ⟨Nat.le_of_ble_eq_true rfl, Nat.le_of_ble_eq_true rfl⟩ rfl hl.1 rfl (Nat.le_of_ble_eq_true rfl) dX4_isGate_8 ⟨Nat.zero_le _, Nat.zero_le _⟩ hK hP hS (fun H locs hP hS => ?_)
  exact k_retP F hr hlk hS (bI_congr (isin_iff (by omega))) narB dX4_isGate_11
theorem nX4_isGoose_X4 : ∀ x ∈ wsX40, x ∈ wsX4_isGoose := fun _ h => List.mem_cons_of_mem _ (List.mem_append_right _ h)
set_option maxRecDepth 100000 in
set_option maxHeartbeats 4000000 in
theorem c_X4_isGoose (l : Launch) (D : va_G) (cI : ClassId) (u : Nat → Nat) (S : Nat → Nat → Nat) (th : Int32) (K : Nat → Nat) (g : Int32) (hn : S 0 1 ≤ 8) : PI l yX4_isGoose wsX4_isGoose 1 22 D [(cI, .int)] [.ref (u 0), .int g] (wMo cI u S th K) (bI (0 ≤ g ∧ g < nI (S 0 1))) := by
  refine k_bodyP (cc := cX4_isGoose) (maxL := 2) (ret := (some .boolean)) (by decide) rfl (Nat.le_of_ble_eq_true rfl) ?_
  intro p e s m args below meth c H ls F hr hlk hl hP hK hS
  have F : CallFix p m c cX4_isGoose 2 s args wsX4_isGoose RX4 := F
  have hl : lv_has ls 2 [(0, .ref (u 0)), (1, .int g)] := hl
  refine lv_iload_n F.1 F.2.1 dX4_isGoose_0 rfl (lv_at hl 1 rfl) ?_
  refine lv_iconst (v := nI 0) F.1 F.2.1 dX4_isGoose_1 (by decide) ?_
  refine lv_aload_n F.1 F.2.1 dX4_isGoose_2 rfl (lv_at hl 0 rfl) ?_
  refine k_get (v := .int (nI (S 0 1))) F nX4_isGoose_X4 hK.1 hP 0 rfl rfl 2 (by decide) (List.mem_of_getElem? (i := 1) rfl) rfl dX4_isGoose_3 ?_
  refine lv_iconst (v := nI 1) F.1 F.2.1 dX4_isGoose_6 (by decide) ?_
  refine lv_isub F.1 F.2.1 dX4_isGoose_7 ?_
  refine k_pS (n := 3) (rest := []) (v := bI ((nI 0) ≤ g ∧ g ≤ (nI (S 0 1) - nI 1))) F (c_X4_isIn l D cI g (nI 0) (nI (S 0 1) - nI 1)) gX4_isGoose_X4_isIn rfl (by decide +kernel) ⟨Nat.le_of_ble_eq_true rfl, Nat.le_of_ble_eq_true rfl⟩ rfl hl.1 rfl (Nat.le_of_ble_eq_true rfl) dX4_isGoose_8 ⟨Nat.zero_le _, Nat.zero_le _⟩ hK hP hS (fun H locs hP hS => ?_)
  exact k_retP F hr hlk hS (bI_congr (isin_iff (by omega))) narB dX4_isGoose_11
theorem nX4_isVisitor_X4 : ∀ x ∈ wsX40, x ∈ wsX4_isVisitor := fun _ h => List.mem_cons_of_mem _ (List.mem_append_right _ h)
set_option maxRecDepth 100000 in
set_option maxHeartbeats 4000000 in
theorem c_X4_isVisitor (l : Launch) (D : va_G) (cI : ClassId) (u : Nat → Nat) (S : Nat → Nat → Nat) (th : Int32) (K : Nat → Nat) (g : Int32) (hn : S 0 2 ≤ 8) : PI l yX4_isVisitor wsX4_isVisitor 1 22 D [(cI, .int)] [.ref (u 0), .int g] (wMo cI u S th K) (bI (0 ≤ g ∧ g < nI (S 0 2))) := by
  refine k_bodyP (cc := cX4_isVisitor) (maxL := 2) (ret := (some .boolean)) (by decide) rfl (Nat.le_of_ble_eq_true rfl) ?_
  intro p e s m args below meth c H ls F hr hlk hl hP hK hS
  have F : CallFix p m c cX4_isVisitor 2 s args wsX4_isVisitor RX4 := F
  have hl : lv_has ls 2 [(0, .ref (u 0)), (1, .int g)] := hl
  refine lv_iload_n F.1 F.2.1 dX4_isVisitor_0 rfl (lv_at hl 1 rfl) ?_
  refine lv_iconst (v := nI 0) F.1 F.2.1 dX4_isVisitor_1 (by decide) ?_
  refine lv_aload_n F.1 F.2.1 dX4_isVisitor_2 rfl (lv_at hl 0 rfl) ?_
  refine k_get (v := .int (nI (S 0 2))) F nX4_isVisitor_X4 hK.1 hP 0 rfl rfl 3 (by decide) (List.mem_of_getElem? (i := 1) rfl) rfl dX4_isVisitor_3 ?_
  refine lv_iconst (v := nI 1) F.1 F.2.1 dX4_isVisitor_6 (by decide) ?_
  refine lv_isub F.1 F.2.1 dX4_isVisitor_7 ?_
  refine k_pS (n := 3) (rest := []) (v := bI ((nI 0) ≤ g ∧ g ≤ (nI (S 0 2) - nI 1))) F (c_X4_isIn l D cI g (nI 0) (nI (S 0 2) - nI 1)) gX4_isVisitor_X4_isIn rfl (by decide +kernel) ⟨Nat.le_of_ble_eq_true rfl, Nat.le_of_ble_eq_true rfl⟩ rfl hl.1 rfl (Nat.le_of_ble_eq_true rfl) dX4_isVisitor_8 ⟨Nat.zero_le _, Nat.zero_le _⟩ hK hP hS (fun H locs hP hS => ?_)
  exact k_retP F hr hlk hS (bI_congr (isin_iff (by omega))) narB dX4_isVisitor_11
theorem nX4_go_X4 : ∀ x ∈ wsX40, x ∈ wsX4_go := fun _ h => List.mem_cons_of_mem _ (List.mem_append_right _ h)
set_option maxRecDepth 100000 in
set_option maxHeartbeats 4000000 in
theorem c_X4_go (l : Launch) (D : va_G) (cI : ClassId) (u : Nat → Nat) (S : Nat → Nat → Nat) (th : Int32) (K : Nat → Nat) (k : Nat) (w : Nat) (hk : k < 8) (hw : w < 3) : PI l yX4_go wsX4_go 0 0 D [(cI, .int)] [.ref (u 0), .int (nI k), .int (nI w)] (wMo cI u S th K) (nI (S (3 + w) k)) := by
  refine k_bodyP (cc := cX4_go) (maxL := 3) (ret := (some .int)) (by decide) rfl (Nat.le_of_ble_eq_true rfl) ?_
  intro p e s m args below meth c H ls F hr hlk hl hP hK hS
  have F : CallFix p m c cX4_go 3 s args wsX4_go RX4 := F
  have hl : lv_has ls 3 [(0, .ref (u 0)), (1, .int (nI k)), (2, .int (nI w))] := hl
  refine lv_aload_n F.1 F.2.1 dX4_go_0 rfl (lv_at hl 0 rfl) ?_
  refine k_get (v := .ref (u 4)) F nX4_go_X4 hK.1 hP 0 rfl rfl 7 (by decide) (List.mem_of_getElem? (i := 1) rfl) rfl dX4_go_1 ?_
  refine lv_iconst (v := nI 3) F.1 F.2.1 dX4_go_4 (by decide) ?_
  refine lv_iconst (v := nI 3) F.1 F.2.1 dX4_go_5 (by decide) ?_
  refine lv_iload_n F.1 F.2.1 dX4_go_6 rfl (lv_at hl 1 rfl) ?_
  refine k_imul F dX4_go_7 ?_
  refine k_iadd F dX4_go_8 ?_
  refine lv_iload_n F.1 F.2.1 dX4_go_9 rfl (lv_at hl 2 rfl) ?_
  refine k_iadd F dX4_go_10 ?_
  refine k_iald (f := encN S) (n := 59) F hK.1 hP 4 0 rfl rfl (by omega) (by decide) dX4_go_11 ?_
  exact k_retP F hr hlk hS (by rw [encN_go S hk hw]) rfl dX4_go_12
theorem nX4_vi_X4 : ∀ x ∈ wsX40, x ∈ wsX4_vi := fun _ h => List.mem_cons_of_mem _ (List.mem_append_right _ h)
set_option maxRecDepth 100000 in
set_option maxHeartbeats 4000000 in
theorem c_X4_vi (l : Launch) (D : va_G) (cI : ClassId) (u : Nat → Nat) (S : Nat → Nat → Nat) (th : Int32) (K : Nat → Nat) (v : Nat) (w : Nat) (hv : v < 8) (hw : w < 4) : PI l yX4_vi wsX4_vi 0 0 D [(cI, .int)] [.ref (u 0), .int (nI v), .int (nI w)] (wMo cI u S th K) (nI (S (7 + w) v)) := by
  refine k_bodyP (cc := cX4_vi) (maxL := 3) (ret := (some .int)) (by decide) rfl (Nat.le_of_ble_eq_true rfl) ?_
  intro p e s m args below meth c H ls F hr hlk hl hP hK hS
  have F : CallFix p m c cX4_vi 3 s args wsX4_vi RX4 := F
  have hl : lv_has ls 3 [(0, .ref (u 0)), (1, .int (nI v)), (2, .int (nI w))] := hl
  refine lv_aload_n F.1 F.2.1 dX4_vi_0 rfl (lv_at hl 0 rfl) ?_
  refine k_get (v := .ref (u 4)) F nX4_vi_X4 hK.1 hP 0 rfl rfl 7 (by decide) (List.mem_of_getElem? (i := 1) rfl) rfl dX4_vi_1 ?_
  refine lv_bipush (v := nI 27) F.1 F.2.1 dX4_vi_4 (by decide) ?_
  refine lv_iconst (v := nI 4) F.1 F.2.1 dX4_vi_6 (by decide) ?_
  refine lv_iload_n F.1 F.2.1 dX4_vi_7 rfl (lv_at hl 1 rfl) ?_
  refine k_imul F dX4_vi_8 ?_
  refine k_iadd F dX4_vi_9 ?_
  refine lv_iload_n F.1 F.2.1 dX4_vi_10 rfl (lv_at hl 2 rfl) ?_
  refine k_iadd F dX4_vi_11 ?_
  refine k_iald (f := encN S) (n := 59) F hK.1 hP 4 0 rfl rfl (by omega) (by decide) dX4_vi_12 ?_
  exact k_retP F hr hlk hS (by rw [encN_vi S hv hw]) rfl dX4_vi_13
theorem nX4_put_X4 : ∀ x ∈ wsX40, x ∈ wsX4_put := fun _ h => List.mem_cons_of_mem _ (List.mem_append_right _ h)
set_option maxRecDepth 100000 in
set_option maxHeartbeats 4000000 in
theorem c_X4_put (l : Launch) (D : va_G) (cI : ClassId) (u : Nat → Nat) (S : Nat → Nat → Nat) (th : Int32) (K : Nat → Nat) (k : Nat) (w : Nat) (x : Nat) (hk : k < 8) (hw : w < 3) : MV l yX4_put wsX4_put 0 0 D [(cI, .int)] [.ref (u 0), .int (nI k), .int (nI w), .int (nI x)] (wMo cI u S th K) (wMo cI u (setf S (3 + w) k x) th K) := by
  refine k_bodyM (cc := cX4_put) (maxL := 4) (ret := none) (by decide) rfl (Nat.le_of_ble_eq_true rfl) ?_
  intro p e s m args below meth c H ls F hr hlk hl hP hK hD hS
  have F : CallFix p m c cX4_put 4 s args wsX4_put RX4 := F
  have hl : lv_has ls 4 [(0, .ref (u 0)), (1, .int (nI k)), (2, .int (nI w)), (3, .int (nI x))] := hl
  refine lv_aload_n F.1 F.2.1 dX4_put_0 rfl (lv_at hl 0 rfl) ?_
  refine k_get (v := .ref (u 4)) F nX4_put_X4 hK.1 hP 0 rfl rfl 7 (by decide) (List.mem_of_getElem? (i := 1) rfl) rfl dX4_put_1 ?_
  refine lv_iconst (v := nI 3) F.1 F.2.1 dX4_put_4 (by decide) ?_
  refine lv_iconst (v := nI 3) F.1 F.2.1 dX4_put_5 (by decide) ?_
  refine lv_iload_n F.1 F.2.1 dX4_put_6 rfl (lv_at hl 1 rfl) ?_
  refine k_imul F dX4_put_7 ?_
  refine k_iadd F dX4_put_8 ?_
  refine lv_iload_n F.1 F.2.1 dX4_put_9 rfl (lv_at hl 2 rfl) ?_
  refine k_iadd F dX4_put_10 ?_
  refine lv_iload_n F.1 F.2.1 dX4_put_11 rfl (lv_at hl 3 rfl) ?_
  refine k_iast (f := encN S) (n := 59) (k := ((3 + (3 * k)) + w)) (x := x) F hK.1 hP hD hS 4 0 rfl rfl (by omega) (by decide) dX4_put_12 (wMo cI u (setf S (3 + w) k x) th K) (wMo_put cI u S th K hk hw) (fun H locs hP hD hS => ?_)
  exact k_retMV F hr hlk hP rfl hS dX4_put_13
theorem nX4_let_X4 : ∀ x ∈ wsX40, x ∈ wsX4_let := fun _ h => List.mem_cons_of_mem _ (List.mem_append_right _ h)
set_option maxRecDepth 100000 in
set_option maxHeartbeats 4000000 in
theorem c_X4_let (l : Launch) (D : va_G) (cI : ClassId) (u : Nat → Nat) (S : Nat → Nat → Nat) (th : Int32) (K : Nat → Nat) (v : Nat) (w : Nat) (x : Nat) (hv : v < 8) (hw : w < 4) : MV l yX4_let wsX4_let 0 0 D [(cI, .int)] [.ref (u 0), .int (nI v), .int (nI w), .int (nI x)] (wMo cI u S th K) (wMo cI u (setf S (7 + w) v x) th K) := by
  refine k_bodyM (cc := cX4_let) (maxL := 4) (ret := none) (by decide) rfl (Nat.le_of_ble_eq_true rfl) ?_
  intro p e s m args below meth c H ls F hr hlk hl hP hK hD hS
  have F : CallFix p m c cX4_let 4 s args wsX4_let RX4 := F
  have hl : lv_has ls 4 [(0, .ref (u 0)), (1, .int (nI v)), (2, .int (nI w)), (3, .int (nI x))] := hl
  refine lv_aload_n F.1 F.2.1 dX4_let_0 rfl (lv_at hl 0 rfl) ?_
  refine k_get (v := .ref (u 4)) F nX4_let_X4 hK.1 hP 0 rfl rfl 7 (by decide) (List.mem_of_getElem? (i := 1) rfl) rfl dX4_let_1 ?_
  refine lv_bipush (v := nI 27) F.1 F.2.1 dX4_let_4 (by decide) ?_
  refine lv_iconst (v := nI 4) F.1 F.2.1 dX4_let_6 (by decide) ?_
  refine lv_iload_n F.1 F.2.1 dX4_let_7 rfl (lv_at hl 1 rfl) ?_
  refine k_imul F dX4_let_8 ?_
  refine k_iadd F dX4_let_9 ?_
  refine lv_iload_n F.1 F.2.1 dX4_let_10 rfl (lv_at hl 2 rfl) ?_
  refine k_iadd F dX4_let_11 ?_
  refine lv_iload_n F.1 F.2.1 dX4_let_12 rfl (lv_at hl 3 rfl) ?_
  refine k_iast (f := encN S) (n := 59) (k := ((27 + (4 * v)) + w)) (x := x) F hK.1 hP hD hS 4 0 rfl rfl (by omega) (by decide) dX4_let_13 (wMo cI u (setf S (7 + w) v x) th K) (wMo_let cI u S th K hv hw) (fun H locs hP hD hS => ?_)
  exact k_retMV F hr hlk hP rfl hS dX4_let_14
theorem nX4_isAwake_X4 : ∀ x ∈ wsX40, x ∈ wsX4_isAwake := fun _ h => List.mem_cons_of_mem _ (List.mem_append_right _ h)
set_option maxRecDepth 100000 in
set_option maxHeartbeats 4000000 in
theorem c_X4_isAwake (l : Launch) (D : va_G) (cI : ClassId) (u : Nat → Nat) (S : Nat → Nat → Nat) (th : Int32) (K : Nat → Nat) (k : Nat) (t : Nat) (hb : Bk S) (hk : k < 8) (ht : t < 2 ^ 31) : PI l yX4_isAwake wsX4_isAwake 1 22 D [(cI, .int)] [.ref (u 0), .int (nI k), .int (nI t)] (wMo cI u S th K) (bI (S 2 k = t ∧ S 4 k = 0)) := by
  refine k_bodyP (cc := cX4_isAwake) (maxL := 3) (ret := (some .boolean)) (by decide) rfl (Nat.le_of_ble_eq_true rfl) ?_
  intro p e s m args below meth c H ls F hr hlk hl hP hK hS
  have F : CallFix p m c cX4_isAwake 3 s args wsX4_isAwake RX4 := F
  have hl : lv_has ls 3 [(0, .ref (u 0)), (1, .int (nI k)), (2, .int (nI t))] := hl
  have hb2 := (hb k).1
  have hb4 := (hb k).2
  refine lv_aload_n F.1 F.2.1 dX4_isAwake_0 rfl (lv_at hl 0 rfl) ?_
  refine k_get (v := .ref (u 2)) F nX4_isAwake_X4 hK.1 hP 0 rfl rfl 5 (by decide) (List.mem_of_getElem? (i := 1) rfl) rfl dX4_isAwake_1 ?_
  refine lv_iload_n F.1 F.2.1 dX4_isAwake_4 rfl (lv_at hl 1 rfl) ?_
  refine k_iald (f := S 2) (n := 8) F hK.1 hP 2 0 rfl rfl (by omega) (by decide) dX4_isAwake_5 ?_
  refine lv_iload_n F.1 F.2.1 dX4_isAwake_6 rfl (lv_at hl 2 rfl) ?_
  refine k_icmp_ne (tgt := 23) F (by omega) (by omega) dX4_isAwake_7 (by decide) (fun h7 => ?_) (fun h7 => ?_)
  · skip
    refine lv_iconst (v := nI 0) F.1 F.2.1 dX4_isAwake_23 (by decide) ?_
    exact k_retP F hr hlk hS (fin0 (by omega)) (by first | rfl | (split <;> rfl)) dX4_isAwake_24
  · skip
    refine lv_aload_n F.1 F.2.1 dX4_isAwake_10 rfl (lv_at hl 0 rfl) ?_
    refine lv_iload_n F.1 F.2.1 dX4_isAwake_11 rfl (lv_at hl 1 rfl) ?_
    refine lv_iconst (v := nI 1) F.1 F.2.1 dX4_isAwake_12 (by decide) ?_
    refine k_pV (n := 2) (rest := []) (v := nI (S 4 k)) F (c_X4_go l D cI u S th K k 1 (by first | assumption | omega) (by first | assumption | omega)) gX4_isAwake_X4_go rfl (by decide +kernel) ⟨Nat.le_of_ble_eq_true rfl, Nat.le_of_ble_eq_true rfl⟩ rfl hl.1 rfl (Nat.le_of_ble_eq_true rfl) dX4_isAwake_13 ⟨Nat.zero_le _, Nat.zero_le _⟩ hK hP hS [0, 1, 2, 3, 4, 5] rfl (q0 := 0) (ci := 4) rfl rfl (fun H locs hP hS => ?_)
    refine k_if_ne (tgt := 23) F (by omega) dX4_isAwake_16 (by decide) (fun h16 => ?_) (fun h16 => ?_)
    · skip
      refine lv_iconst (v := nI 0) F.1 F.2.1 dX4_isAwake_23 (by decide) ?_
      exact k_retP F hr hlk hS (fin0 (by omega)) (by first | rfl | (split <;> rfl)) dX4_isAwake_24
    · skip
      refine lv_iconst (v := nI 1) F.1 F.2.1 dX4_isAwake_19 (by decide) ?_
      refine lv_goto (tgt := 24) F.1 F.2.1 dX4_isAwake_20 (by decide) ?_
      exact k_retP F hr hlk hS (fin1 (by omega)) (by first | rfl | (split <;> rfl)) dX4_isAwake_24
theorem nX4_more_X4 : ∀ x ∈ wsX40, x ∈ wsX4_more := fun _ h => List.mem_cons_of_mem _ (List.mem_append_right _ h)
set_option maxRecDepth 100000 in
set_option maxHeartbeats 4000000 in
theorem c_X4_more (l : Launch) (D : va_G) (cI : ClassId) (u : Nat → Nat) (S : Nat → Nat → Nat) (th : Int32) (K : Nat → Nat) (g : Nat) (r : Nat) (hI : Inv S) (hg : g < S 0 0) (hr1 : r < 2 ^ 30) : PI l yX4_more wsX4_more 1 13 D [(cI, .int)] [.ref (u 0), .int (nI g), .int (nI r)] (wMo cI u S th K) (nI (lackN S g r)) := by
  refine k_bodyP (cc := cX4_more) (maxL := 3) (ret := (some .int)) (by decide) rfl (Nat.le_of_ble_eq_true rfl) ?_
  intro p e s m args below meth c H ls F hr hlk hl hP hK hS
  have F : CallFix p m c cX4_more 3 s args wsX4_more RX4 := F
  have hl : lv_has ls 3 [(0, .ref (u 0)), (1, .int (nI g)), (2, .int (nI r))] := hl
  have hi0 := hI.gates
  have hi1 := hI.geese
  have hi2 := hI.guests
  have hb1 := hI.rank g
  refine lv_iconst (v := nI 0) F.1 F.2.1 dX4_more_0 (by decide) ?_
  refine lv_aload_n F.1 F.2.1 dX4_more_1 rfl (lv_at hl 0 rfl) ?_
  refine k_get (v := .ref (u 1)) F nX4_more_X4 hK.1 hP 0 rfl rfl 4 (by decide) (List.mem_of_getElem? (i := 1) rfl) rfl dX4_more_2 ?_
  refine lv_iload_n F.1 F.2.1 dX4_more_5 rfl (lv_at hl 1 rfl) ?_
  refine k_iald (f := S 1) (n := 6) F hK.1 hP 1 0 rfl rfl (by omega) (by decide) dX4_more_6 ?_
  refine lv_iload_n F.1 F.2.1 dX4_more_7 rfl (lv_at hl 2 rfl) ?_
  refine lv_isub F.1 F.2.1 dX4_more_8 ?_
  refine k_max0 F hl.1 (List.mem_of_getElem? (i := 2) rfl) (List.mem_of_getElem? (i := 3) rfl) (List.mem_of_getElem? (i := 4) rfl) (List.mem_of_getElem? (i := 5) rfl) (Nat.le_of_ble_eq_true rfl) (Nat.le_of_ble_eq_true rfl) ⟨Nat.zero_le _, Nat.zero_le _⟩ (by omega) (by omega) (by omega) dX4_more_9 ?_
  exact k_retP F hr hlk hS (by unfold lackN; rw [if_pos hg]) rfl dX4_more_12
theorem nX4_hiss_X4 : ∀ x ∈ wsX40, x ∈ wsX4_hiss := fun _ h => List.mem_cons_of_mem _ (List.mem_append_right _ h)
set_option maxRecDepth 100000 in
set_option maxHeartbeats 4000000 in
theorem c_X4_hiss (l : Launch) (D : va_G) (cI : ClassId) (u : Nat → Nat) (S : Nat → Nat → Nat) (th : Int32) (K : Nat → Nat) (g : Nat) (r : Nat) (hI : Inv S) (hg : g < S 0 0) (hr1 : r < 2 ^ 30) : PI l yX4_hiss wsX4_hiss 2 44 D [(cI, .int)] [.ref (u 0), .int (nI g), .int (nI r)] (wMo cI u S th K) (nI (hisG S g r)) := by
  refine k_bodyP (cc := cX4_hiss) (maxL := 5) (ret := (some .int)) (by decide) rfl (Nat.le_of_ble_eq_true rfl) ?_
  intro p e s m args below meth c H ls F hr hlk hl hP hK hS
  have F : CallFix p m c cX4_hiss 5 s args wsX4_hiss RX4 := F
  have hl : lv_has ls 5 [(0, .ref (u 0)), (1, .int (nI g)), (2, .int (nI r))] := hl
  have hi0 := hI.gates
  have hi1 := hI.geese
  have hi2 := hI.guests
  refine lv_iconst (v := nI 0) F.1 F.2.1 dX4_hiss_0 (by decide) ?_
  refine lv_istore_n (lv' := [(3, .int (nI 0)), (0, .ref (u 0)), (1, .int (nI g)), (2, .int (nI r))]) F.1 F.2.1 dX4_hiss_1 rfl hl (by decide) rfl (fun ls hl => ?_)
  refine lv_iconst (v := nI 0) F.1 F.2.1 dX4_hiss_2 (by decide) ?_
  refine lv_istore (lv' := [(4, .int (nI 0)), (3, .int (nI 0)), (0, .ref (u 0)), (1, .int (nI g)), (2, .int (nI r))]) F.1 F.2.1 dX4_hiss_3 hl (by decide) rfl (fun ls hl => ?_)
  have loop5 : ∀ (n : Nat) (i : Nat), i ≤ S 0 1 → S 0 1 + 1 ≤ i + n → ∀ (H : Heap) (locs : List Loc) (ls : Array Slot), va_P D vwCl (wMo cI u S th K) H → va_S (fun _ => False) s.heap H locs → lv_has ls 5 [(0, .ref (u 0)), (1, .int (nI g)), (2, .int (nI r)), (3, .int (nI (hisN S g (lackN S g r) i))), (4, .int (nI i))] → W p l e (rmN 2 44) s m args below meth c H locs 0 0 (QPI below args s (nI (hisG S g r))) (F0 m 5 ls []) := by
    intro n
    induction n with
    | zero => intro i hi hn; exact absurd hn (by omega)
    | succ n ih5 =>
      intro i hi hn  H locs ls hP hS hl
      refine lv_iload F.1 F.2.1 dX4_hiss_5 (lv_at hl 4 rfl) ?_
      refine lv_aload_n F.1 F.2.1 dX4_hiss_7 rfl (lv_at hl 0 rfl) ?_
      refine k_get (v := .int (nI (S 0 1))) F nX4_hiss_X4 hK.1 hP 0 rfl rfl 2 (by decide) (List.mem_of_getElem? (i := 1) rfl) rfl dX4_hiss_8 ?_
      refine k_icmp_ge (tgt := 47) F (by omega) (by omega) dX4_hiss_11 (by decide) (fun h11 => ?_) (fun h11 => ?_)
      · skip
        refine lv_iload_n F.1 F.2.1 dX4_hiss_47 rfl (lv_at hl 3 rfl) ?_
        exact k_retP F hr hlk hS (by rw [show i = S 0 1 by omega]; rfl) rfl dX4_hiss_48
      · skip
        refine lv_aload_n F.1 F.2.1 dX4_hiss_14 rfl (lv_at hl 0 rfl) ?_
        refine lv_iload F.1 F.2.1 dX4_hiss_15 (lv_at hl 4 rfl) ?_
        refine lv_iload_n F.1 F.2.1 dX4_hiss_17 rfl (lv_at hl 1 rfl) ?_
        refine k_pV (n := 2) (rest := []) (v := bI (S 2 i = g ∧ S 4 i = 0)) F (c_X4_isAwake l D cI u S th K i g hI.bd.k (by first | assumption | omega) (by first | assumption | omega)) gX4_hiss_X4_isAwake rfl (by decide +kernel) ⟨Nat.le_of_ble_eq_true rfl, Nat.le_of_ble_eq_true rfl⟩ rfl hl.1 rfl (Nat.le_of_ble_eq_true rfl) dX4_hiss_18 ⟨Nat.zero_le _, Nat.zero_le _⟩ hK hP hS [0, 1, 2, 3, 4, 5] rfl (q0 := 0) (ci := 4) rfl rfl (fun H locs hP hS => ?_)
        refine k_ifeq_b (tgt := 41) F dX4_hiss_21 (by decide) (fun h21 => ?_) (fun h21 => ?_)
        · skip
          refine k_inc (k := 4) (lv' := [(4, .int (nI (i + 1))), (0, .ref (u 0)), (1, .int (nI g)), (2, .int (nI r)), (3, .int (nI (hisN S g (lackN S g r) i)))]) F dX4_hiss_41 hl rfl (by decide) rfl (fun ls hl => ?_)
          refine lv_goto (tgt := 5) F.1 F.2.1 dX4_hiss_44 (by decide) ?_
          have e_1 : hisN S g (lackN S g r) i = hisN S g (lackN S g r) (i + 1) := by simp only [hisN]; rw [if_neg h21]
          rw [e_1] at hl
          exact ih5 (i + 1) (by omega) (by omega)  _ _ _ hP hS (lv_sub hl [1, 2, 3, 4, 0] rfl)
        · skip
          refine lv_iload_n F.1 F.2.1 dX4_hiss_24 rfl (lv_at hl 3 rfl) ?_
          refine lv_aload_n F.1 F.2.1 dX4_hiss_25 rfl (lv_at hl 0 rfl) ?_
          refine lv_iload F.1 F.2.1 dX4_hiss_26 (lv_at hl 4 rfl) ?_
          refine lv_iconst (v := nI 0) F.1 F.2.1 dX4_hiss_28 (by decide) ?_
          refine k_pV (n := 2) (rest := [.int (nI (hisN S g (lackN S g r) i))]) (v := nI (S 3 i)) F (c_X4_go l D cI u S th K i 0 (by first | assumption | omega) (by first | assumption | omega)) gX4_hiss_X4_go rfl (by decide +kernel) ⟨Nat.le_of_ble_eq_true rfl, Nat.le_of_ble_eq_true rfl⟩ rfl hl.1 rfl (Nat.le_of_ble_eq_true rfl) dX4_hiss_29 ⟨Nat.zero_le _, Nat.zero_le _⟩ hK hP hS [0, 1, 2, 3, 4, 5] rfl (q0 := 0) (ci := 4) rfl rfl (fun H locs hP hS => ?_)
          refine lv_aload_n F.1 F.2.1 dX4_hiss_32 rfl (lv_at hl 0 rfl) ?_
          refine lv_iload_n F.1 F.2.1 dX4_hiss_33 rfl (lv_at hl 1 rfl) ?_
          refine lv_iload_n F.1 F.2.1 dX4_hiss_34 rfl (lv_at hl 2 rfl) ?_
          refine k_pV (n := 2) (rest := [.int (nI (S 3 i)), .int (nI (hisN S g (lackN S g r) i))]) (v := nI (lackN S g r)) F (c_X4_more l D cI u S th K g r hI (by first | assumption | omega) (by first | assumption | omega)) gX4_hiss_X4_more rfl (by decide +kernel) ⟨Nat.le_of_ble_eq_true rfl, Nat.le_of_ble_eq_true rfl⟩ rfl hl.1 rfl (Nat.le_of_ble_eq_true rfl) dX4_hiss_35 ⟨Nat.zero_le _, Nat.zero_le _⟩ hK hP hS [0, 1, 2, 3, 4, 5] rfl (q0 := 0) (ci := 4) rfl rfl (fun H locs hP hS => ?_)
          refine k_iadd F dX4_hiss_38 ?_
          refine k_iadd F dX4_hiss_39 ?_
          refine lv_istore_n (lv' := [(3, .int (nI (hisN S g (lackN S g r) i + (S 3 i + lackN S g r)))), (0, .ref (u 0)), (1, .int (nI g)), (2, .int (nI r)), (4, .int (nI i))]) F.1 F.2.1 dX4_hiss_40 rfl hl (by decide) rfl (fun ls hl => ?_)
          refine k_inc (k := 4) (lv' := [(4, .int (nI (i + 1))), (3, .int (nI (hisN S g (lackN S g r) i + (S 3 i + lackN S g r)))), (0, .ref (u 0)), (1, .int (nI g)), (2, .int (nI r))]) F dX4_hiss_41 hl rfl (by decide) rfl (fun ls hl => ?_)
          refine lv_goto (tgt := 5) F.1 F.2.1 dX4_hiss_44 (by decide) ?_
          have e_2 : (hisN S g (lackN S g r) i + (S 3 i + lackN S g r)) = hisN S g (lackN S g r) (i + 1) := by simp only [hisN]; rw [if_pos h21]
          rw [e_2] at hl
          exact ih5 (i + 1) (by omega) (by omega)  _ _ _ hP hS (lv_sub hl [2, 3, 4, 1, 0] rfl)
  have e_3 : 0 = hisN S g (lackN S g r) 0 := rfl
  rw [e_3] at hl
  exact loop5 ((S 0 1) + 1) 0 (by omega) (by omega)  _ _ _ hP hS (lv_sub hl [2, 3, 4, 1, 0] rfl)
theorem nX4_isIn__X4 : ∀ x ∈ wsX40, x ∈ wsX4_isIn_ := fun _ h => List.mem_cons_of_mem _ (List.mem_append_right _ h)
set_option maxRecDepth 100000 in
set_option maxHeartbeats 4000000 in
theorem c_X4_isIn_ (l : Launch) (D : va_G) (cI : ClassId) (u : Nat → Nat) (S : Nat → Nat → Nat) (th : Int32) (K : Nat → Nat) (v : Nat) (hI : Inv S) (hv : v < 8) : PI l yX4_isIn_ wsX4_isIn_ 1 22 D [(cI, .int)] [.ref (u 0), .int (nI v)] (wMo cI u S th K) (bI (S 0 0 ≤ S 7 v)) := by
  refine k_bodyP (cc := cX4_isIn_) (maxL := 2) (ret := (some .boolean)) (by decide) rfl (Nat.le_of_ble_eq_true rfl) ?_
  intro p e s m args below meth c H ls F hr hlk hl hP hK hS
  have F : CallFix p m c cX4_isIn_ 2 s args wsX4_isIn_ RX4 := F
  have hl : lv_has ls 2 [(0, .ref (u 0)), (1, .int (nI v))] := hl
  have hi0 := hI.gates
  have hi1 := hI.geese
  have hi2 := hI.guests
  have hw9 := hI.went v
  refine lv_aload_n F.1 F.2.1 dX4_isIn__0 rfl (lv_at hl 0 rfl) ?_
  refine lv_iload_n F.1 F.2.1 dX4_isIn__1 rfl (lv_at hl 1 rfl) ?_
  refine lv_iconst (v := nI 0) F.1 F.2.1 dX4_isIn__2 (by decide) ?_
  refine k_pV (n := 2) (rest := []) (v := nI (S 7 v)) F (c_X4_vi l D cI u S th K v 0 (by first | assumption | omega) (by first | assumption | omega)) gX4_isIn__X4_vi rfl (by decide +kernel) ⟨Nat.le_of_ble_eq_true rfl, Nat.le_of_ble_eq_true rfl⟩ rfl hl.1 rfl (Nat.le_of_ble_eq_true rfl) dX4_isIn__3 ⟨Nat.zero_le _, Nat.zero_le _⟩ hK hP hS [0, 1, 2, 3, 4, 5] rfl (q0 := 0) (ci := 4) rfl rfl (fun H locs hP hS => ?_)
  refine lv_aload_n F.1 F.2.1 dX4_isIn__6 rfl (lv_at hl 0 rfl) ?_
  refine k_get (v := .int (nI (S 0 0))) F nX4_isIn__X4 hK.1 hP 0 rfl rfl 1 (by decide) (List.mem_of_getElem? (i := 1) rfl) rfl dX4_isIn__7 ?_
  refine k_icmp_ne (tgt := 17) F (by omega) (by omega) dX4_isIn__10 (by decide) (fun h10 => ?_) (fun h10 => ?_)
  · skip
    refine lv_iconst (v := nI 0) F.1 F.2.1 dX4_isIn__17 (by decide) ?_
    exact k_retP F hr hlk hS (fin0 (by omega)) (by first | rfl | (split <;> rfl)) dX4_isIn__18
  · skip
    refine lv_iconst (v := nI 1) F.1 F.2.1 dX4_isIn__13 (by decide) ?_
    refine lv_goto (tgt := 18) F.1 F.2.1 dX4_isIn__14 (by decide) ?_
    exact k_retP F hr hlk hS (fin1 (by omega)) (by first | rfl | (split <;> rfl)) dX4_isIn__18
theorem nX4_hissNow_X4 : ∀ x ∈ wsX40, x ∈ wsX4_hissNow := fun _ h => List.mem_cons_of_mem _ (List.mem_append_right _ h)
set_option maxRecDepth 100000 in
set_option maxHeartbeats 4000000 in
theorem c_X4_hissNow (l : Launch) (D : va_G) (cI : ClassId) (u : Nat → Nat) (S : Nat → Nat → Nat) (th : Int32) (K : Nat → Nat) (v : Nat) (hI : Inv S) (hv : v < 8) : PI l yX4_hissNow wsX4_hissNow 3 68 D [(cI, .int)] [.ref (u 0), .int (nI v)] (wMo cI u S th K) (nI (hisG S (S 7 v) (S 6 v))) := by
  refine k_bodyP (cc := cX4_hissNow) (maxL := 2) (ret := (some .int)) (by decide) rfl (Nat.le_of_ble_eq_true rfl) ?_
  intro p e s m args below meth c H ls F hr hlk hl hP hK hS
  have F : CallFix p m c cX4_hissNow 2 s args wsX4_hissNow RX4 := F
  have hl : lv_has ls 2 [(0, .ref (u 0)), (1, .int (nI v))] := hl
  have hi0 := hI.gates
  have hi1 := hI.geese
  have hi2 := hI.guests
  have hw9 := hI.went v
  have ho9 := hI.own v
  refine lv_aload_n F.1 F.2.1 dX4_hissNow_0 rfl (lv_at hl 0 rfl) ?_
  refine lv_iload_n F.1 F.2.1 dX4_hissNow_1 rfl (lv_at hl 1 rfl) ?_
  refine k_pV (n := 1) (rest := []) (v := bI (S 0 0 ≤ S 7 v)) F (c_X4_isIn_ l D cI u S th K v hI (by first | assumption | omega)) gX4_hissNow_X4_isIn_ rfl (by decide +kernel) ⟨Nat.le_of_ble_eq_true rfl, Nat.le_of_ble_eq_true rfl⟩ rfl hl.1 rfl (Nat.le_of_ble_eq_true rfl) dX4_hissNow_2 ⟨Nat.zero_le _, Nat.zero_le _⟩ hK hP hS [0, 1, 2, 3, 4, 5] rfl (q0 := 0) (ci := 4) rfl rfl (fun H locs hP hS => ?_)
  refine k_ifeq_b (tgt := 12) F dX4_hissNow_5 (by decide) (fun h5 => ?_) (fun h5 => ?_)
  · skip
    refine lv_aload_n F.1 F.2.1 dX4_hissNow_12 rfl (lv_at hl 0 rfl) ?_
    refine lv_aload_n F.1 F.2.1 dX4_hissNow_13 rfl (lv_at hl 0 rfl) ?_
    refine lv_iload_n F.1 F.2.1 dX4_hissNow_14 rfl (lv_at hl 1 rfl) ?_
    refine lv_iconst (v := nI 0) F.1 F.2.1 dX4_hissNow_15 (by decide) ?_
    refine k_pV (n := 2) (rest := [.ref (u 0)]) (v := nI (S 7 v)) F (c_X4_vi l D cI u S th K v 0 (by first | assumption | omega) (by first | assumption | omega)) gX4_hissNow_X4_vi rfl (by decide +kernel) ⟨Nat.le_of_ble_eq_true rfl, Nat.le_of_ble_eq_true rfl⟩ rfl hl.1 rfl (Nat.le_of_ble_eq_true rfl) dX4_hissNow_16 ⟨Nat.zero_le _, Nat.zero_le _⟩ hK hP hS [0, 1, 2, 3, 4, 5] rfl (q0 := 0) (ci := 4) rfl rfl (fun H locs hP hS => ?_)
    refine lv_aload_n F.1 F.2.1 dX4_hissNow_19 rfl (lv_at hl 0 rfl) ?_
    refine k_get (v := .ref (u 3)) F nX4_hissNow_X4 hK.1 hP 0 rfl rfl 6 (by decide) (List.mem_of_getElem? (i := 1) rfl) rfl dX4_hissNow_20 ?_
    refine lv_iload_n F.1 F.2.1 dX4_hissNow_23 rfl (lv_at hl 1 rfl) ?_
    refine k_iald (f := S 6) (n := 8) F hK.1 hP 3 0 rfl rfl (by omega) (by decide) dX4_hissNow_24 ?_
    refine k_pV (n := 2) (rest := []) (v := nI (hisG S (S 7 v) (S 6 v))) F (c_X4_hiss l D cI u S th K (S 7 v) (S 6 v) hI (by first | assumption | omega) (by first | assumption | omega)) gX4_hissNow_X4_hiss rfl (by decide +kernel) ⟨Nat.le_of_ble_eq_true rfl, Nat.le_of_ble_eq_true rfl⟩ rfl hl.1 rfl (Nat.le_of_ble_eq_true rfl) dX4_hissNow_25 ⟨Nat.zero_le _, Nat.zero_le _⟩ hK hP hS [0, 1, 2, 3, 4, 5] rfl (q0 := 0) (ci := 4) rfl rfl (fun H locs hP hS => ?_)
    exact k_retP F hr hlk hS rfl rfl dX4_hissNow_28
  · skip
    refine lv_iconst (v := nI 0) F.1 F.2.1 dX4_hissNow_8 (by decide) ?_
    refine lv_goto (tgt := 28) F.1 F.2.1 dX4_hissNow_9 (by decide) ?_
    exact k_retP F hr hlk hS (by rw [hisG_farm hI h5]) rfl dX4_hissNow_28
theorem nX4_angriest_X4 : ∀ x ∈ wsX40, x ∈ wsX4_angriest := fun _ h => List.mem_cons_of_mem _ (List.mem_append_right _ h)
set_option maxRecDepth 100000 in
set_option maxHeartbeats 4000000 in
theorem c_X4_angriest (l : Launch) (D : va_G) (cI : ClassId) (u : Nat → Nat) (S : Nat → Nat → Nat) (th : Int32) (K : Nat → Nat) (t : Nat) (hI : Inv S) (ht : t < 2 ^ 31) : PI l yX4_angriest wsX4_angriest 2 44 D [(cI, .int)] [.ref (u 0), .int (nI t)] (wMo cI u S th K) (oI (frcN S t (S 0 1)).1) := by
  refine k_bodyP (cc := cX4_angriest) (maxL := 4) (ret := (some .int)) (by decide) rfl (Nat.le_of_ble_eq_true rfl) ?_
  intro p e s m args below meth c H ls F hr hlk hl hP hK hS
  have F : CallFix p m c cX4_angriest 4 s args wsX4_angriest RX4 := F
  have hl : lv_has ls 4 [(0, .ref (u 0)), (1, .int (nI t))] := hl
  have hi0 := hI.gates
  have hi1 := hI.geese
  have hi2 := hI.guests
  refine lv_iconst (v := (-1)) F.1 F.2.1 dX4_angriest_0 (by decide) ?_
  refine lv_istore_n (lv' := [(2, .int (-1)), (0, .ref (u 0)), (1, .int (nI t))]) F.1 F.2.1 dX4_angriest_1 rfl hl (by decide) rfl (fun ls hl => ?_)
  refine lv_iconst (v := nI 0) F.1 F.2.1 dX4_angriest_2 (by decide) ?_
  refine lv_istore_n (lv' := [(3, .int (nI 0)), (2, .int (-1)), (0, .ref (u 0)), (1, .int (nI t))]) F.1 F.2.1 dX4_angriest_3 rfl hl (by decide) rfl (fun ls hl => ?_)
  have loop4 : ∀ (n : Nat) (i : Nat), i ≤ S 0 1 → S 0 1 + 1 ≤ i + n → ∀ (H : Heap) (locs : List Loc) (ls : Array Slot), va_P D vwCl (wMo cI u S th K) H → va_S (fun _ => False) s.heap H locs → lv_has ls 4 [(0, .ref (u 0)), (1, .int (nI t)), (2, .int (oI (frcN S t i).1)), (3, .int (nI i))] → W p l e (rmN 2 44) s m args below meth c H locs 0 0 (QPI below args s (oI (frcN S t (S 0 1)).1)) (F0 m 4 ls []) := by
    intro n
    induction n with
    | zero => intro i hi hn; exact absurd hn (by omega)
    | succ n ih4 =>
      intro i hi hn  H locs ls hP hS hl
      refine lv_iload_n F.1 F.2.1 dX4_angriest_4 rfl (lv_at hl 3 rfl) ?_
      refine lv_aload_n F.1 F.2.1 dX4_angriest_5 rfl (lv_at hl 0 rfl) ?_
      refine k_get (v := .int (nI (S 0 1))) F nX4_angriest_X4 hK.1 hP 0 rfl rfl 2 (by decide) (List.mem_of_getElem? (i := 1) rfl) rfl dX4_angriest_6 ?_
      refine k_icmp_ge (tgt := 49) F (by omega) (by omega) dX4_angriest_9 (by decide) (fun h9 => ?_) (fun h9 => ?_)
      · skip
        refine lv_iload_n F.1 F.2.1 dX4_angriest_49 rfl (lv_at hl 2 rfl) ?_
        exact k_retP F hr hlk hS (by rw [show i = S 0 1 by omega]) rfl dX4_angriest_50
      · skip
        refine lv_aload_n F.1 F.2.1 dX4_angriest_12 rfl (lv_at hl 0 rfl) ?_
        refine lv_iload_n F.1 F.2.1 dX4_angriest_13 rfl (lv_at hl 3 rfl) ?_
        refine lv_iload_n F.1 F.2.1 dX4_angriest_14 rfl (lv_at hl 1 rfl) ?_
        refine k_pV (n := 2) (rest := []) (v := bI (S 2 i = t ∧ S 4 i = 0)) F (c_X4_isAwake l D cI u S th K i t hI.bd.k (by first | assumption | omega) (by first | assumption | omega)) gX4_angriest_X4_isAwake rfl (by decide +kernel) ⟨Nat.le_of_ble_eq_true rfl, Nat.le_of_ble_eq_true rfl⟩ rfl hl.1 rfl (Nat.le_of_ble_eq_true rfl) dX4_angriest_15 ⟨Nat.zero_le _, Nat.zero_le _⟩ hK hP hS [0, 1, 2, 3, 4, 5] rfl (q0 := 0) (ci := 4) rfl rfl (fun H locs hP hS => ?_)
        refine k_ifeq_b (tgt := 43) F dX4_angriest_18 (by decide) (fun h18 => ?_) (fun h18 => ?_)
        · skip
          refine k_inc (k := 3) (lv' := [(3, .int (nI (i + 1))), (0, .ref (u 0)), (1, .int (nI t)), (2, .int (oI (frcN S t i).1))]) F dX4_angriest_43 hl rfl (by decide) rfl (fun ls hl => ?_)
          refine lv_goto (tgt := 4) F.1 F.2.1 dX4_angriest_46 (by decide) ?_
          have e_1 : oI (frcN S t i).1 = oI (frcN S t (i + 1)).1 := by simp only [frcN]; rw [if_neg (fun q => h18 q.1)]
          rw [e_1] at hl
          exact ih4 (i + 1) (by omega) (by omega)  _ _ _ hP hS (lv_sub hl [1, 2, 3, 0] rfl)
        · skip
          rcases hb9 : (frcN S t i).1 with _ | b
          · skip
            rw [hb9] at hl
            have hv1 := (frcN_val S t i).1 hb9
            refine lv_iload_n F.1 F.2.1 dX4_angriest_21 rfl (lv_at hl 2 rfl) ?_
            refine lv_iconst (v := (-1)) F.1 F.2.1 dX4_angriest_22 (by decide) ?_
            refine lv_icmp_eq (tgt := 41) F.1 F.2.1 dX4_angriest_23 (by decide) (fun h23 => ?_) (fun h23 => ?_)
            · skip
              refine lv_iload_n F.1 F.2.1 dX4_angriest_41 rfl (lv_at hl 3 rfl) ?_
              refine lv_istore_n (lv' := [(2, .int (nI i)), (0, .ref (u 0)), (1, .int (nI t)), (3, .int (nI i))]) F.1 F.2.1 dX4_angriest_42 rfl hl (by decide) rfl (fun ls hl => ?_)
              refine k_inc (k := 3) (lv' := [(3, .int (nI (i + 1))), (2, .int (nI i)), (0, .ref (u 0)), (1, .int (nI t))]) F dX4_angriest_43 hl rfl (by decide) rfl (fun ls hl => ?_)
              refine lv_goto (tgt := 4) F.1 F.2.1 dX4_angriest_46 (by decide) ?_
              have e_2 : nI i = oI (frcN S t (i + 1)).1 := by simp only [frcN]; rw [if_pos (And.intro h18 (by rw [hv1]; exact hI.mood1 i (by omega)))]; exact (oI_succ i).symm
              rw [e_2] at hl
              exact ih4 (i + 1) (by omega) (by omega)  _ _ _ hP hS (lv_sub hl [2, 3, 1, 0] rfl)
            · skip
              exact absurd oI_0 h23
          · skip
            rw [hb9, oI_succ] at hl
            have hv1 := (frcN_val S t i).2 b hb9
            have hm1 := hI.mood i
            have hm2 := hI.mood b
            refine lv_iload_n F.1 F.2.1 dX4_angriest_21 rfl (lv_at hl 2 rfl) ?_
            refine lv_iconst (v := (-1)) F.1 F.2.1 dX4_angriest_22 (by decide) ?_
            refine lv_icmp_eq (tgt := 41) F.1 F.2.1 dX4_angriest_23 (by decide) (fun h23 => ?_) (fun h23 => ?_)
            · skip
              exact absurd h23 (nI_ne_m1 (by omega))
            · skip
              refine lv_aload_n F.1 F.2.1 dX4_angriest_26 rfl (lv_at hl 0 rfl) ?_
              refine lv_iload_n F.1 F.2.1 dX4_angriest_27 rfl (lv_at hl 3 rfl) ?_
              refine lv_iconst (v := nI 0) F.1 F.2.1 dX4_angriest_28 (by decide) ?_
              refine k_pV (n := 2) (rest := []) (v := nI (S 3 i)) F (c_X4_go l D cI u S th K i 0 (by first | assumption | omega) (by first | assumption | omega)) gX4_angriest_X4_go rfl (by decide +kernel) ⟨Nat.le_of_ble_eq_true rfl, Nat.le_of_ble_eq_true rfl⟩ rfl hl.1 rfl (Nat.le_of_ble_eq_true rfl) dX4_angriest_29 ⟨Nat.zero_le _, Nat.zero_le _⟩ hK hP hS [0, 1, 2, 3, 4, 5] rfl (q0 := 0) (ci := 4) rfl rfl (fun H locs hP hS => ?_)
              refine lv_aload_n F.1 F.2.1 dX4_angriest_32 rfl (lv_at hl 0 rfl) ?_
              refine lv_iload_n F.1 F.2.1 dX4_angriest_33 rfl (lv_at hl 2 rfl) ?_
              refine lv_iconst (v := nI 0) F.1 F.2.1 dX4_angriest_34 (by decide) ?_
              refine k_pV (n := 2) (rest := [.int (nI (S 3 i))]) (v := nI (S 3 b)) F (c_X4_go l D cI u S th K b 0 (by first | assumption | omega) (by first | assumption | omega)) gX4_angriest_X4_go rfl (by decide +kernel) ⟨Nat.le_of_ble_eq_true rfl, Nat.le_of_ble_eq_true rfl⟩ rfl hl.1 rfl (Nat.le_of_ble_eq_true rfl) dX4_angriest_35 ⟨Nat.zero_le _, Nat.zero_le _⟩ hK hP hS [0, 1, 2, 3, 4, 5] rfl (q0 := 0) (ci := 4) rfl rfl (fun H locs hP hS => ?_)
              refine k_icmp_le (tgt := 43) F (by omega) (by omega) dX4_angriest_38 (by decide) (fun h38 => ?_) (fun h38 => ?_)
              · skip
                refine k_inc (k := 3) (lv' := [(3, .int (nI (i + 1))), (0, .ref (u 0)), (1, .int (nI t)), (2, .int (nI b))]) F dX4_angriest_43 hl rfl (by decide) rfl (fun ls hl => ?_)
                refine lv_goto (tgt := 4) F.1 F.2.1 dX4_angriest_46 (by decide) ?_
                have e_3 : nI b = oI (frcN S t (i + 1)).1 := by simp only [frcN]; rw [if_neg (fun q => by have := q.2; omega), hb9, oI_succ]
                rw [e_3] at hl
                exact ih4 (i + 1) (by omega) (by omega)  _ _ _ hP hS (lv_sub hl [1, 2, 3, 0] rfl)
              · skip
                refine lv_iload_n F.1 F.2.1 dX4_angriest_41 rfl (lv_at hl 3 rfl) ?_
                refine lv_istore_n (lv' := [(2, .int (nI i)), (0, .ref (u 0)), (1, .int (nI t)), (3, .int (nI i))]) F.1 F.2.1 dX4_angriest_42 rfl hl (by decide) rfl (fun ls hl => ?_)
                refine k_inc (k := 3) (lv' := [(3, .int (nI (i + 1))), (2, .int (nI i)), (0, .ref (u 0)), (1, .int (nI t))]) F dX4_angriest_43 hl rfl (by decide) rfl (fun ls hl => ?_)
                refine lv_goto (tgt := 4) F.1 F.2.1 dX4_angriest_46 (by decide) ?_
                have e_4 : nI i = oI (frcN S t (i + 1)).1 := by simp only [frcN]; rw [if_pos (And.intro h18 (by rw [hv1.1]; omega))]; exact (oI_succ i).symm
                rw [e_4] at hl
                exact ih4 (i + 1) (by omega) (by omega)  _ _ _ hP hS (lv_sub hl [2, 3, 1, 0] rfl)
  have e_5 : (-1) = oI (frcN S t 0).1 := oI_0.symm
  rw [e_5] at hl
  exact loop4 ((S 0 1) + 1) 0 (by omega) (by omega)  _ _ _ hP hS (lv_sub hl [2, 3, 1, 0] rfl)
theorem nX4_feed_X4 : ∀ x ∈ wsX40, x ∈ wsX4_feed := fun _ h => List.mem_cons_of_mem _ (List.mem_append_right _ h)
set_option maxRecDepth 100000 in
set_option maxHeartbeats 4000000 in
theorem c_X4_feed (l : Launch) (D : va_G) (cI : ClassId) (u : Nat → Nat) (S : Nat → Nat → Nat) (th : Int32) (K : Nat → Nat) (v : Nat) (k : Nat) (hI : Inv S) (hv : v < 8) (hk : k < 8) (h1 : 1 ≤ S 8 v) (hm : 1 ≤ S 3 k) : MV l yX4_feed wsX4_feed 1 23 D [(cI, .int)] [.ref (u 0), .int (nI v), .int (nI k)] (wMo cI u S th K) (wMo cI u (payS S v k) th K) := by
  refine k_bodyM (cc := cX4_feed) (maxL := 3) (ret := none) (by decide) rfl (Nat.le_of_ble_eq_true rfl) ?_
  intro p e s m args below meth c H ls F hr hlk hl hP hK hD hS
  have F : CallFix p m c cX4_feed 3 s args wsX4_feed RX4 := F
  have hl : lv_has ls 3 [(0, .ref (u 0)), (1, .int (nI v)), (2, .int (nI k))] := hl
  have hi0 := hI.gates
  have hi1 := hI.geese
  have hi2 := hI.guests
  have hm9 := hI.mood k
  refine lv_aload_n F.1 F.2.1 dX4_feed_0 rfl (lv_at hl 0 rfl) ?_
  refine lv_iload_n F.1 F.2.1 dX4_feed_1 rfl (lv_at hl 1 rfl) ?_
  refine lv_iconst (v := nI 1) F.1 F.2.1 dX4_feed_2 (by decide) ?_
  refine lv_aload_n F.1 F.2.1 dX4_feed_3 rfl (lv_at hl 0 rfl) ?_
  refine lv_iload_n F.1 F.2.1 dX4_feed_4 rfl (lv_at hl 1 rfl) ?_
  refine lv_iconst (v := nI 1) F.1 F.2.1 dX4_feed_5 (by decide) ?_
  refine k_pV (n := 2) (rest := [.int (nI 1), .int (nI v), .ref (u 0)]) (v := nI (S 8 v)) F (c_X4_vi l D cI u S th K v 1 (by first | assumption | omega) (by first | assumption | omega)) gX4_feed_X4_vi rfl (by decide +kernel) ⟨Nat.le_of_ble_eq_true rfl, Nat.le_of_ble_eq_true rfl⟩ rfl hl.1 rfl (Nat.le_of_ble_eq_true rfl) dX4_feed_6 ⟨Nat.zero_le _, Nat.zero_le _⟩ hK hP hS [0, 1, 2, 3, 4, 5] rfl (q0 := 0) (ci := 4) rfl rfl (fun H locs hP hS => ?_)
  refine lv_iconst (v := nI 1) F.1 F.2.1 dX4_feed_9 (by decide) ?_
  refine k_isub F (by omega) dX4_feed_10 ?_
  refine k_mV (n := 3) (rest := []) F (c_X4_let l D cI u S th K v 1 (S 8 v - 1) (by first | assumption | omega) (by first | assumption | omega)) gX4_feed_X4_let rfl (by decide +kernel) ⟨Nat.le_of_ble_eq_true rfl, Nat.le_of_ble_eq_true rfl⟩ rfl hl.1 rfl (Nat.le_of_ble_eq_true rfl) dX4_feed_11 ⟨Nat.zero_le _, Nat.zero_le _⟩ hK hP hD hS [0, 1, 2, 3, 4, 5] rfl rfl rfl (wMo cI u (setf S 8 v (S 8 v - 1)) th K) wMo_ms wMo_ad (q0 := 0) (ci := 4) rfl rfl (fun H locs hP hD hS => ?_)
  refine lv_aload_n F.1 F.2.1 dX4_feed_14 rfl (lv_at hl 0 rfl) ?_
  refine lv_iload_n F.1 F.2.1 dX4_feed_15 rfl (lv_at hl 2 rfl) ?_
  refine lv_iconst (v := nI 1) F.1 F.2.1 dX4_feed_16 (by decide) ?_
  refine lv_iconst (v := nI 3) F.1 F.2.1 dX4_feed_17 (by decide) ?_
  refine k_mV (n := 3) (rest := []) F (c_X4_put l D cI u (setf S 8 v (S 8 v - 1)) th K k 1 3 (by first | assumption | omega) (by first | assumption | omega)) gX4_feed_X4_put rfl (by decide +kernel) ⟨Nat.le_of_ble_eq_true rfl, Nat.le_of_ble_eq_true rfl⟩ rfl hl.1 rfl (Nat.le_of_ble_eq_true rfl) dX4_feed_18 ⟨Nat.zero_le _, Nat.zero_le _⟩ hK hP hD hS [0, 1, 2, 3, 4, 5] rfl rfl rfl (wMo cI u (setf (setf S 8 v (S 8 v - 1)) 4 k 3) th K) wMo_ms wMo_ad (q0 := 0) (ci := 4) rfl rfl (fun H locs hP hD hS => ?_)
  refine lv_aload_n F.1 F.2.1 dX4_feed_21 rfl (lv_at hl 0 rfl) ?_
  refine lv_iload_n F.1 F.2.1 dX4_feed_22 rfl (lv_at hl 2 rfl) ?_
  refine lv_iconst (v := nI 0) F.1 F.2.1 dX4_feed_23 (by decide) ?_
  refine lv_iconst (v := nI 1) F.1 F.2.1 dX4_feed_24 (by decide) ?_
  refine lv_aload_n F.1 F.2.1 dX4_feed_25 rfl (lv_at hl 0 rfl) ?_
  refine lv_iload_n F.1 F.2.1 dX4_feed_26 rfl (lv_at hl 2 rfl) ?_
  refine lv_iconst (v := nI 0) F.1 F.2.1 dX4_feed_27 (by decide) ?_
  refine k_pV (n := 2) (rest := [.int (nI 1), .int (nI 0), .int (nI k), .ref (u 0)]) (v := nI (S 3 k)) F (c_X4_go l D cI u (setf (setf S 8 v (S 8 v - 1)) 4 k 3) th K k 0 (by first | assumption | omega) (by first | assumption | omega)) gX4_feed_X4_go rfl (by decide +kernel) ⟨Nat.le_of_ble_eq_true rfl, Nat.le_of_ble_eq_true rfl⟩ rfl hl.1 rfl (Nat.le_of_ble_eq_true rfl) dX4_feed_28 ⟨Nat.zero_le _, Nat.zero_le _⟩ hK hP hS [0, 1, 2, 3, 4, 5] rfl (q0 := 0) (ci := 4) rfl rfl (fun H locs hP hS => ?_)
  refine lv_iconst (v := nI 1) F.1 F.2.1 dX4_feed_31 (by decide) ?_
  refine k_isub F (by omega) dX4_feed_32 ?_
  refine k_max F hl.1 (List.mem_of_getElem? (i := 1) rfl) (List.mem_of_getElem? (i := 2) rfl) (List.mem_of_getElem? (i := 3) rfl) (List.mem_of_getElem? (i := 4) rfl) (Nat.le_of_ble_eq_true rfl) (Nat.le_of_ble_eq_true rfl) ⟨Nat.zero_le _, Nat.zero_le _⟩ (by omega) (by omega) dX4_feed_33 ?_
  refine k_mV (n := 3) (rest := []) F (c_X4_put l D cI u (setf (setf S 8 v (S 8 v - 1)) 4 k 3) th K k 0 (max 1 (S 3 k - 1)) (by first | assumption | omega) (by first | assumption | omega)) gX4_feed_X4_put rfl (by decide +kernel) ⟨Nat.le_of_ble_eq_true rfl, Nat.le_of_ble_eq_true rfl⟩ rfl hl.1 rfl (Nat.le_of_ble_eq_true rfl) dX4_feed_36 ⟨Nat.zero_le _, Nat.zero_le _⟩ hK hP hD hS [0, 1, 2, 3, 4, 5] rfl rfl rfl (wMo cI u (setf (setf (setf S 8 v (S 8 v - 1)) 4 k 3) 3 k (max 1 (S 3 k - 1))) th K) wMo_ms wMo_ad (q0 := 0) (ci := 4) rfl rfl (fun H locs hP hD hS => ?_)
  refine lv_aload_n F.1 F.2.1 dX4_feed_39 rfl (lv_at hl 0 rfl) ?_
  refine lv_iload_n F.1 F.2.1 dX4_feed_40 rfl (lv_at hl 2 rfl) ?_
  refine lv_iconst (v := nI 2) F.1 F.2.1 dX4_feed_41 (by decide) ?_
  refine lv_aload_n F.1 F.2.1 dX4_feed_42 rfl (lv_at hl 0 rfl) ?_
  refine lv_iload_n F.1 F.2.1 dX4_feed_43 rfl (lv_at hl 2 rfl) ?_
  refine lv_iconst (v := nI 2) F.1 F.2.1 dX4_feed_44 (by decide) ?_
  refine k_pV (n := 2) (rest := [.int (nI 2), .int (nI k), .ref (u 0)]) (v := nI (S 5 k)) F (c_X4_go l D cI u (setf (setf (setf S 8 v (S 8 v - 1)) 4 k 3) 3 k (max 1 (S 3 k - 1))) th K k 2 (by first | assumption | omega) (by first | assumption | omega)) gX4_feed_X4_go rfl (by decide +kernel) ⟨Nat.le_of_ble_eq_true rfl, Nat.le_of_ble_eq_true rfl⟩ rfl hl.1 rfl (Nat.le_of_ble_eq_true rfl) dX4_feed_45 ⟨Nat.zero_le _, Nat.zero_le _⟩ hK hP hS [0, 1, 2, 3, 4, 5] rfl (q0 := 0) (ci := 4) rfl rfl (fun H locs hP hS => ?_)
  refine lv_iconst (v := nI 1) F.1 F.2.1 dX4_feed_48 (by decide) ?_
  refine k_iadd F dX4_feed_49 ?_
  refine k_mV (n := 3) (rest := []) F (c_X4_put l D cI u (setf (setf (setf S 8 v (S 8 v - 1)) 4 k 3) 3 k (max 1 (S 3 k - 1))) th K k 2 (S 5 k + 1) (by first | assumption | omega) (by first | assumption | omega)) gX4_feed_X4_put rfl (by decide +kernel) ⟨Nat.le_of_ble_eq_true rfl, Nat.le_of_ble_eq_true rfl⟩ rfl hl.1 rfl (Nat.le_of_ble_eq_true rfl) dX4_feed_50 ⟨Nat.zero_le _, Nat.zero_le _⟩ hK hP hD hS [0, 1, 2, 3, 4, 5] rfl rfl rfl (wMo cI u (setf (setf (setf (setf S 8 v (S 8 v - 1)) 4 k 3) 3 k (max 1 (S 3 k - 1))) 5 k (S 5 k + 1)) th K) wMo_ms wMo_ad (q0 := 0) (ci := 4) rfl rfl (fun H locs hP hD hS => ?_)
  refine lv_aload_n F.1 F.2.1 dX4_feed_53 rfl (lv_at hl 0 rfl) ?_
  refine k_get (v := .ref (u 4)) F nX4_feed_X4 hK.1 hP 0 rfl rfl 7 (by decide) (List.mem_of_getElem? (i := 5) rfl) rfl dX4_feed_54 ?_
  refine lv_iconst (v := nI 1) F.1 F.2.1 dX4_feed_57 (by decide) ?_
  refine lv_dup2_11 F.1 F.2.1 dX4_feed_58 rfl rfl ?_
  refine k_iald (f := encN (setf (setf (setf (setf S 8 v (S 8 v - 1)) 4 k 3) 3 k (max 1 (S 3 k - 1))) 5 k (S 5 k + 1))) (n := 59) F hK.1 hP 4 0 rfl rfl (by omega) (by decide) dX4_feed_59 ?_
  refine lv_iconst (v := nI 1) F.1 F.2.1 dX4_feed_60 (by decide) ?_
  refine k_iadd F dX4_feed_61 ?_
  refine k_iast (f := encN (setf (setf (setf (setf S 8 v (S 8 v - 1)) 4 k 3) 3 k (max 1 (S 3 k - 1))) 5 k (S 5 k + 1))) (n := 59) (k := 1) (x := (S 0 4 + 1)) F hK.1 hP hD hS 4 0 rfl rfl (by omega) (by decide) dX4_feed_62 (wMo cI u (setf (setf (setf (setf (setf S 8 v (S 8 v - 1)) 4 k 3) 3 k (max 1 (S 3 k - 1))) 5 k (S 5 k + 1)) 0 4 (S 0 4 + 1)) th K) (wMo_sc cI u (setf (setf (setf (setf S 8 v (S 8 v - 1)) 4 k 3) 3 k (max 1 (S 3 k - 1))) 5 k (S 5 k + 1)) th K (by decide)) (fun H locs hP hD hS => ?_)
  exact k_retMV F hr hlk hP (congrArg (fun z => wMo cI u z th K) (pay_ref S v k)) hS dX4_feed_63
theorem nX4_move_X4 : ∀ x ∈ wsX40, x ∈ wsX4_move := fun _ h => List.mem_cons_of_mem _ (List.mem_append_right _ h)
set_option maxRecDepth 100000 in
set_option maxHeartbeats 4000000 in
theorem c_X4_move (l : Launch) (D : va_G) (cI : ClassId) (u : Nat → Nat) (S : Nat → Nat → Nat) (th : Int32) (K : Nat → Nat) (v : Nat) (hI : Inv S) (hv : v < 8) : MV l yX4_move wsX4_move 3 68 D [(cI, .int)] [.ref (u 0), .int (nI v)] (wMo cI u S th K) (wMo cI u (mvS S v) th K) := by
  refine k_bodyM (cc := cX4_move) (maxL := 5) (ret := none) (by decide) rfl (Nat.le_of_ble_eq_true rfl) ?_
  intro p e s m args below meth c H ls F hr hlk hl hP hK hD hS
  have F : CallFix p m c cX4_move 5 s args wsX4_move RX4 := F
  have hl : lv_has ls 5 [(0, .ref (u 0)), (1, .int (nI v))] := hl
  have hi0 := hI.gates
  have hi1 := hI.geese
  have hi2 := hI.guests
  have hh9 := hisG_le hI (S 7 v) (S 6 v)
  have hw9 := hI.went v
  have ho9 := hI.own v
  have hb9 := hI.brave v
  have hc9 := hI.has v
  have hr9 := hI.back v
  refine lv_aload_n F.1 F.2.1 dX4_move_0 rfl (lv_at hl 0 rfl) ?_
  refine lv_iload_n F.1 F.2.1 dX4_move_1 rfl (lv_at hl 1 rfl) ?_
  refine k_pV (n := 1) (rest := []) (v := bI (S 0 0 ≤ S 7 v)) F (c_X4_isIn_ l D cI u S th K v hI (by first | assumption | omega)) gX4_move_X4_isIn_ rfl (by decide +kernel) ⟨Nat.le_of_ble_eq_true rfl, Nat.le_of_ble_eq_true rfl⟩ rfl hl.1 rfl (Nat.le_of_ble_eq_true rfl) dX4_move_2 ⟨Nat.zero_le _, Nat.zero_le _⟩ hK hP hS [0, 1, 2, 3, 4, 5] rfl (q0 := 0) (ci := 4) rfl rfl (fun H locs hP hS => ?_)
  refine k_ifeq_b (tgt := 9) F dX4_move_5 (by decide) (fun h5 => ?_) (fun h5 => ?_)
  · skip
    refine lv_aload_n F.1 F.2.1 dX4_move_9 rfl (lv_at hl 0 rfl) ?_
    refine lv_iload_n F.1 F.2.1 dX4_move_10 rfl (lv_at hl 1 rfl) ?_
    refine lv_iconst (v := nI 3) F.1 F.2.1 dX4_move_11 (by decide) ?_
    refine k_pV (n := 2) (rest := []) (v := nI (S 10 v)) F (c_X4_vi l D cI u S th K v 3 (by first | assumption | omega) (by first | assumption | omega)) gX4_move_X4_vi rfl (by decide +kernel) ⟨Nat.le_of_ble_eq_true rfl, Nat.le_of_ble_eq_true rfl⟩ rfl hl.1 rfl (Nat.le_of_ble_eq_true rfl) dX4_move_12 ⟨Nat.zero_le _, Nat.zero_le _⟩ hK hP hS [0, 1, 2, 3, 4, 5] rfl (q0 := 0) (ci := 4) rfl rfl (fun H locs hP hS => ?_)
    refine k_if_le (tgt := 33) F (by omega) dX4_move_15 (by decide) (fun h15 => ?_) (fun h15 => ?_)
    · skip
      refine lv_aload_n F.1 F.2.1 dX4_move_33 rfl (lv_at hl 0 rfl) ?_
      refine lv_iload_n F.1 F.2.1 dX4_move_34 rfl (lv_at hl 1 rfl) ?_
      refine lv_iconst (v := nI 0) F.1 F.2.1 dX4_move_35 (by decide) ?_
      refine k_pV (n := 2) (rest := []) (v := nI (S 7 v)) F (c_X4_vi l D cI u S th K v 0 (by first | assumption | omega) (by first | assumption | omega)) gX4_move_X4_vi rfl (by decide +kernel) ⟨Nat.le_of_ble_eq_true rfl, Nat.le_of_ble_eq_true rfl⟩ rfl hl.1 rfl (Nat.le_of_ble_eq_true rfl) dX4_move_36 ⟨Nat.zero_le _, Nat.zero_le _⟩ hK hP hS [0, 1, 2, 3, 4, 5] rfl (q0 := 0) (ci := 4) rfl rfl (fun H locs hP hS => ?_)
      refine lv_istore_n (lv' := [(2, .int (nI (S 7 v))), (0, .ref (u 0)), (1, .int (nI v))]) F.1 F.2.1 dX4_move_39 rfl hl (by decide) rfl (fun ls hl => ?_)
      refine lv_aload_n F.1 F.2.1 dX4_move_40 rfl (lv_at hl 1 rfl) ?_
      refine lv_iload_n F.1 F.2.1 dX4_move_41 rfl (lv_at hl 0 rfl) ?_
      refine lv_aload_n F.1 F.2.1 dX4_move_42 rfl (lv_at hl 1 rfl) ?_
      refine k_get (v := .ref (u 3)) F nX4_move_X4 hK.1 hP 0 rfl rfl 6 (by decide) (List.mem_of_getElem? (i := 1) rfl) rfl dX4_move_43 ?_
      refine lv_iload_n F.1 F.2.1 dX4_move_46 rfl (lv_at hl 2 rfl) ?_
      refine k_iald (f := S 6) (n := 8) F hK.1 hP 3 0 rfl rfl (by omega) (by decide) dX4_move_47 ?_
      refine k_pV (n := 2) (rest := []) (v := nI (hisG S (S 7 v) (S 6 v))) F (c_X4_hiss l D cI u S th K (S 7 v) (S 6 v) hI (by first | assumption | omega) (by first | assumption | omega)) gX4_move_X4_hiss rfl (by decide +kernel) ⟨Nat.le_of_ble_eq_true rfl, Nat.le_of_ble_eq_true rfl⟩ rfl hl.1 rfl (Nat.le_of_ble_eq_true rfl) dX4_move_48 ⟨Nat.zero_le _, Nat.zero_le _⟩ hK hP hS [0, 1, 2, 3, 4, 5] rfl (q0 := 0) (ci := 4) rfl rfl (fun H locs hP hS => ?_)
      refine lv_istore_n (lv' := [(3, .int (nI (hisG S (S 7 v) (S 6 v)))), (2, .int (nI (S 7 v))), (0, .ref (u 0)), (1, .int (nI v))]) F.1 F.2.1 dX4_move_51 rfl hl (by decide) rfl (fun ls hl => ?_)
      refine lv_iload_n F.1 F.2.1 dX4_move_52 rfl (lv_at hl 0 rfl) ?_
      refine lv_aload_n F.1 F.2.1 dX4_move_53 rfl (lv_at hl 2 rfl) ?_
      refine lv_iload_n F.1 F.2.1 dX4_move_54 rfl (lv_at hl 3 rfl) ?_
      refine lv_iconst (v := nI 2) F.1 F.2.1 dX4_move_55 (by decide) ?_
      refine k_pV (n := 2) (rest := [.int (nI (hisG S (S 7 v) (S 6 v)))]) (v := nI (S 9 v)) F (c_X4_vi l D cI u S th K v 2 (by first | assumption | omega) (by first | assumption | omega)) gX4_move_X4_vi rfl (by decide +kernel) ⟨Nat.le_of_ble_eq_true rfl, Nat.le_of_ble_eq_true rfl⟩ rfl hl.1 rfl (Nat.le_of_ble_eq_true rfl) dX4_move_56 ⟨Nat.zero_le _, Nat.zero_le _⟩ hK hP hS [0, 1, 2, 3, 4, 5] rfl (q0 := 0) (ci := 4) rfl rfl (fun H locs hP hS => ?_)
      refine k_icmp_gt (tgt := 123) F (by omega) (by omega) dX4_move_59 (by decide) (fun h59 => ?_) (fun h59 => ?_)
      · skip
        refine lv_aload_n F.1 F.2.1 dX4_move_123 rfl (lv_at hl 2 rfl) ?_
        refine lv_iload_n F.1 F.2.1 dX4_move_124 rfl (lv_at hl 3 rfl) ?_
        refine lv_iconst (v := nI 1) F.1 F.2.1 dX4_move_125 (by decide) ?_
        refine k_pV (n := 2) (rest := []) (v := nI (S 8 v)) F (c_X4_vi l D cI u S th K v 1 (by first | assumption | omega) (by first | assumption | omega)) gX4_move_X4_vi rfl (by decide +kernel) ⟨Nat.le_of_ble_eq_true rfl, Nat.le_of_ble_eq_true rfl⟩ rfl hl.1 rfl (Nat.le_of_ble_eq_true rfl) dX4_move_126 ⟨Nat.zero_le _, Nat.zero_le _⟩ hK hP hS [0, 1, 2, 3, 4, 5] rfl (q0 := 0) (ci := 4) rfl rfl (fun H locs hP hS => ?_)
        refine k_if_le (tgt := 145) F (by omega) dX4_move_129 (by decide) (fun h129 => ?_) (fun h129 => ?_)
        · skip
          refine lv_aload_n F.1 F.2.1 dX4_move_145 rfl (lv_at hl 2 rfl) ?_
          refine lv_iload_n F.1 F.2.1 dX4_move_146 rfl (lv_at hl 3 rfl) ?_
          refine lv_iconst (v := nI 3) F.1 F.2.1 dX4_move_147 (by decide) ?_
          refine lv_iload_n F.1 F.2.1 dX4_move_148 rfl (lv_at hl 0 rfl) ?_
          refine k_pS (n := 1) (rest := [.int (nI 3), .int (nI v), .ref (u 0)]) (v := nI (grdN (hisG S (S 7 v) (S 6 v)))) F (c_X4_grade l D cI (hisG S (S 7 v) (S 6 v)) (by first | assumption | omega)) gX4_move_X4_grade rfl (by decide +kernel) ⟨Nat.le_of_ble_eq_true rfl, Nat.le_of_ble_eq_true rfl⟩ rfl hl.1 rfl (Nat.le_of_ble_eq_true rfl) dX4_move_149 ⟨Nat.zero_le _, Nat.zero_le _⟩ hK hP hS (fun H locs hP hS => ?_)
          refine k_mV (n := 3) (rest := []) F (c_X4_let l D cI u S th K v 3 (grdN (hisG S (S 7 v) (S 6 v))) (by first | assumption | omega) (by first | assumption | omega)) gX4_move_X4_let rfl (by decide +kernel) ⟨Nat.le_of_ble_eq_true rfl, Nat.le_of_ble_eq_true rfl⟩ rfl hl.1 rfl (Nat.le_of_ble_eq_true rfl) dX4_move_152 ⟨Nat.zero_le _, Nat.zero_le _⟩ hK hP hD hS [0, 1, 2, 3, 4, 5] rfl rfl rfl (wMo cI u (setf S 10 v (grdN (hisG S (S 7 v) (S 6 v)))) th K) wMo_ms wMo_ad (q0 := 0) (ci := 4) rfl rfl (fun H locs hP hD hS => ?_)
          refine lv_aload_n F.1 F.2.1 dX4_move_155 rfl (lv_at hl 2 rfl) ?_
          refine lv_iload_n F.1 F.2.1 dX4_move_156 rfl (lv_at hl 3 rfl) ?_
          refine lv_iconst (v := nI 2) F.1 F.2.1 dX4_move_157 (by decide) ?_
          refine lv_bipush (v := nI 20) F.1 F.2.1 dX4_move_158 (by decide) ?_
          refine lv_aload_n F.1 F.2.1 dX4_move_160 rfl (lv_at hl 2 rfl) ?_
          refine lv_iload_n F.1 F.2.1 dX4_move_161 rfl (lv_at hl 3 rfl) ?_
          refine lv_iconst (v := nI 2) F.1 F.2.1 dX4_move_162 (by decide) ?_
          refine k_pV (n := 2) (rest := [.int (nI 20), .int (nI 2), .int (nI v), .ref (u 0)]) (v := nI (S 9 v)) F (c_X4_vi l D cI u (setf S 10 v (grdN (hisG S (S 7 v) (S 6 v)))) th K v 2 (by first | assumption | omega) (by first | assumption | omega)) gX4_move_X4_vi rfl (by decide +kernel) ⟨Nat.le_of_ble_eq_true rfl, Nat.le_of_ble_eq_true rfl⟩ rfl hl.1 rfl (Nat.le_of_ble_eq_true rfl) dX4_move_163 ⟨Nat.zero_le _, Nat.zero_le _⟩ hK hP hS [0, 1, 2, 3, 4, 5] rfl (q0 := 0) (ci := 4) rfl rfl (fun H locs hP hS => ?_)
          refine lv_iconst (v := nI 1) F.1 F.2.1 dX4_move_166 (by decide) ?_
          refine k_iadd F dX4_move_167 ?_
          refine k_min F hl.1 (List.mem_of_getElem? (i := 3) rfl) (List.mem_of_getElem? (i := 4) rfl) (List.mem_of_getElem? (i := 5) rfl) (List.mem_of_getElem? (i := 6) rfl) (Nat.le_of_ble_eq_true rfl) (Nat.le_of_ble_eq_true rfl) ⟨Nat.zero_le _, Nat.zero_le _⟩ (by omega) (by omega) dX4_move_168 ?_
          refine k_mV (n := 3) (rest := []) F (c_X4_let l D cI u (setf S 10 v (grdN (hisG S (S 7 v) (S 6 v)))) th K v 2 (min 20 (S 9 v + 1)) (by first | assumption | omega) (by first | assumption | omega)) gX4_move_X4_let rfl (by decide +kernel) ⟨Nat.le_of_ble_eq_true rfl, Nat.le_of_ble_eq_true rfl⟩ rfl hl.1 rfl (Nat.le_of_ble_eq_true rfl) dX4_move_171 ⟨Nat.zero_le _, Nat.zero_le _⟩ hK hP hD hS [0, 1, 2, 3, 4, 5] rfl rfl rfl (wMo cI u (setf (setf S 10 v (grdN (hisG S (S 7 v) (S 6 v)))) 9 v (min 20 (S 9 v + 1))) th K) wMo_ms wMo_ad (q0 := 0) (ci := 4) rfl rfl (fun H locs hP hD hS => ?_)
          refine lv_aload_n F.1 F.2.1 dX4_move_174 rfl (lv_at hl 2 rfl) ?_
          refine lv_iload_n F.1 F.2.1 dX4_move_175 rfl (lv_at hl 3 rfl) ?_
          refine lv_iconst (v := nI 0) F.1 F.2.1 dX4_move_176 (by decide) ?_
          refine lv_iconst (v := nI 0) F.1 F.2.1 dX4_move_177 (by decide) ?_
          refine lv_iload_n F.1 F.2.1 dX4_move_178 rfl (lv_at hl 1 rfl) ?_
          refine lv_iconst (v := nI 1) F.1 F.2.1 dX4_move_179 (by decide) ?_
          refine lv_isub F.1 F.2.1 dX4_move_180 ?_
          refine k_max0 F hl.1 (List.mem_of_getElem? (i := 7) rfl) (List.mem_of_getElem? (i := 8) rfl) (List.mem_of_getElem? (i := 5) rfl) (List.mem_of_getElem? (i := 9) rfl) (Nat.le_of_ble_eq_true rfl) (Nat.le_of_ble_eq_true rfl) ⟨Nat.zero_le _, Nat.zero_le _⟩ (by omega) (by omega) (by omega) dX4_move_181 ?_
          rw [Nat.zero_max]
          refine k_mV (n := 3) (rest := []) F (c_X4_let l D cI u (setf (setf S 10 v (grdN (hisG S (S 7 v) (S 6 v)))) 9 v (min 20 (S 9 v + 1))) th K v 0 (S 7 v - 1) (by first | assumption | omega) (by first | assumption | omega)) gX4_move_X4_let rfl (by decide +kernel) ⟨Nat.le_of_ble_eq_true rfl, Nat.le_of_ble_eq_true rfl⟩ rfl hl.1 rfl (Nat.le_of_ble_eq_true rfl) dX4_move_184 ⟨Nat.zero_le _, Nat.zero_le _⟩ hK hP hD hS [0, 1, 2, 3, 4, 5] rfl rfl rfl (wMo cI u (setf (setf (setf S 10 v (grdN (hisG S (S 7 v) (S 6 v)))) 9 v (min 20 (S 9 v + 1))) 7 v (S 7 v - 1)) th K) wMo_ms wMo_ad (q0 := 0) (ci := 4) rfl rfl (fun H locs hP hD hS => ?_)
          refine lv_aload_n F.1 F.2.1 dX4_move_187 rfl (lv_at hl 2 rfl) ?_
          refine k_get (v := .ref (u 4)) F nX4_move_X4 hK.1 hP 0 rfl rfl 7 (by decide) (List.mem_of_getElem? (i := 10) rfl) rfl dX4_move_188 ?_
          refine lv_iconst (v := nI 2) F.1 F.2.1 dX4_move_191 (by decide) ?_
          refine lv_dup2_11 F.1 F.2.1 dX4_move_192 rfl rfl ?_
          refine k_iald (f := encN (setf (setf (setf S 10 v (grdN (hisG S (S 7 v) (S 6 v)))) 9 v (min 20 (S 9 v + 1))) 7 v (S 7 v - 1))) (n := 59) F hK.1 hP 4 0 rfl rfl (by omega) (by decide) dX4_move_193 ?_
          refine lv_iconst (v := nI 1) F.1 F.2.1 dX4_move_194 (by decide) ?_
          refine k_iadd F dX4_move_195 ?_
          refine k_iast (f := encN (setf (setf (setf S 10 v (grdN (hisG S (S 7 v) (S 6 v)))) 9 v (min 20 (S 9 v + 1))) 7 v (S 7 v - 1))) (n := 59) (k := 2) (x := (S 0 5 + 1)) F hK.1 hP hD hS 4 0 rfl rfl (by omega) (by decide) dX4_move_196 (wMo cI u (setf (setf (setf (setf S 10 v (grdN (hisG S (S 7 v) (S 6 v)))) 9 v (min 20 (S 9 v + 1))) 7 v (S 7 v - 1)) 0 5 (S 0 5 + 1)) th K) (wMo_sc cI u (setf (setf (setf S 10 v (grdN (hisG S (S 7 v) (S 6 v)))) 9 v (min 20 (S 9 v + 1))) 7 v (S 7 v - 1)) th K (by decide)) (fun H locs hP hD hS => ?_)
          exact k_retMV F hr hlk hP (congrArg (fun z => wMo cI u z th K) (by first | exact mv_of (by omega) (moveS_r (by omega)) | exact mv_of (by omega) (moveS_p (by omega) (by omega) (by omega) hk1) | exact mv_of (by omega) (moveS_f (by omega) (by omega) (by omega)))) hS dX4_move_197
        · skip
          refine lv_aload_n F.1 F.2.1 dX4_move_132 rfl (lv_at hl 2 rfl) ?_
          refine lv_iload_n F.1 F.2.1 dX4_move_133 rfl (lv_at hl 3 rfl) ?_
          refine lv_aload_n F.1 F.2.1 dX4_move_134 rfl (lv_at hl 2 rfl) ?_
          refine lv_iload_n F.1 F.2.1 dX4_move_135 rfl (lv_at hl 1 rfl) ?_
          refine k_pV (n := 1) (rest := [.int (nI v), .ref (u 0)]) (v := oI (frcN S (S 7 v) (S 0 1)).1) F (c_X4_angriest l D cI u S th K (S 7 v) hI (by first | assumption | omega)) gX4_move_X4_angriest rfl (by decide +kernel) ⟨Nat.le_of_ble_eq_true rfl, Nat.le_of_ble_eq_true rfl⟩ rfl hl.1 rfl (Nat.le_of_ble_eq_true rfl) dX4_move_136 ⟨Nat.zero_le _, Nat.zero_le _⟩ hK hP hS [0, 1, 2, 3, 4, 5] rfl (q0 := 0) (ci := 4) rfl rfl (fun H locs hP hS => ?_)
          obtain ⟨k, hk1, hk2, hk3, hk4⟩ := frc_get hI (t := S 7 v) (r := S 6 v) (by omega)
          have hk5 := hI.mood1 k hk2
          rw [hk1, oI_succ]
          refine k_mV (n := 2) (rest := []) F (c_X4_feed l D cI u S th K v k hI (by first | assumption | omega) (by first | assumption | omega) (by first | assumption | omega) (by first | assumption | omega)) gX4_move_X4_feed rfl (by decide +kernel) ⟨Nat.le_of_ble_eq_true rfl, Nat.le_of_ble_eq_true rfl⟩ rfl hl.1 rfl (Nat.le_of_ble_eq_true rfl) dX4_move_139 ⟨Nat.zero_le _, Nat.zero_le _⟩ hK hP hD hS [0, 1, 2, 3, 4, 5] rfl rfl rfl (wMo cI u (payS S v k) th K) wMo_ms wMo_ad (q0 := 0) (ci := 4) rfl rfl (fun H locs hP hD hS => ?_)
          refine lv_goto (tgt := 197) F.1 F.2.1 dX4_move_142 (by decide) ?_
          exact k_retMV F hr hlk hP (congrArg (fun z => wMo cI u z th K) (by first | exact mv_of (by omega) (moveS_r (by omega)) | exact mv_of (by omega) (moveS_p (by omega) (by omega) (by omega) hk1) | exact mv_of (by omega) (moveS_f (by omega) (by omega) (by omega)))) hS dX4_move_197
      · skip
        refine lv_aload_n F.1 F.2.1 dX4_move_62 rfl (lv_at hl 2 rfl) ?_
        refine lv_iload_n F.1 F.2.1 dX4_move_63 rfl (lv_at hl 3 rfl) ?_
        refine lv_iconst (v := nI 0) F.1 F.2.1 dX4_move_64 (by decide) ?_
        refine lv_iload_n F.1 F.2.1 dX4_move_65 rfl (lv_at hl 1 rfl) ?_
        refine lv_iconst (v := nI 1) F.1 F.2.1 dX4_move_66 (by decide) ?_
        refine k_iadd F dX4_move_67 ?_
        refine k_mV (n := 3) (rest := []) F (c_X4_let l D cI u S th K v 0 (S 7 v + 1) (by first | assumption | omega) (by first | assumption | omega)) gX4_move_X4_let rfl (by decide +kernel) ⟨Nat.le_of_ble_eq_true rfl, Nat.le_of_ble_eq_true rfl⟩ rfl hl.1 rfl (Nat.le_of_ble_eq_true rfl) dX4_move_68 ⟨Nat.zero_le _, Nat.zero_le _⟩ hK hP hD hS [0, 1, 2, 3, 4, 5] rfl rfl rfl (wMo cI u (setf S 7 v (S 7 v + 1)) th K) wMo_ms wMo_ad (q0 := 0) (ci := 4) rfl rfl (fun H locs hP hD hS => ?_)
        refine lv_iconst (v := nI 0) F.1 F.2.1 dX4_move_71 (by decide) ?_
        refine lv_istore (lv' := [(4, .int (nI 0)), (3, .int (nI (hisG S (S 7 v) (S 6 v)))), (2, .int (nI (S 7 v))), (0, .ref (u 0)), (1, .int (nI v))]) F.1 F.2.1 dX4_move_72 hl (by decide) rfl (fun ls hl => ?_)
        have loop74 : ∀ (n : Nat) (i : Nat), i ≤ S 0 1 → S 0 1 + 1 ≤ i + n → ∀ (H : Heap) (locs : List Loc) (ls : Array Slot), va_P D vwCl (wMo cI u (setF (setf S 7 v (S 7 v + 1)) 3 (enrN S (S 7 v) i)) th K) H → va_D (va_B (wMo cI u S th K)) (wMo cI u (setF (setf S 7 v (S 7 v + 1)) 3 (enrN S (S 7 v) i)) th K) → va_S (va_B (wMo cI u S th K)) s.heap H locs → lv_has ls 5 [(0, .ref (u 0)), (1, .int (nI v)), (2, .int (nI (S 7 v))), (3, .int (nI (hisG S (S 7 v) (S 6 v)))), (4, .int (nI i))] → W p l e (rmN 3 68) s m args below meth c H locs 0 0 (QMV below args s D (wMo cI u S th K) (wMo cI u (mvS S v) th K)) (F0 m 74 ls []) := by
          intro n
          induction n with
          | zero => intro i hi hn; exact absurd hn (by omega)
          | succ n ih74 =>
            intro i hi hn  H locs ls hP hD hS hl
            refine lv_iload F.1 F.2.1 dX4_move_74 (lv_at hl 4 rfl) ?_
            refine lv_aload_n F.1 F.2.1 dX4_move_76 rfl (lv_at hl 0 rfl) ?_
            refine k_get (v := .int (nI (S 0 1))) F nX4_move_X4 hK.1 hP 0 rfl rfl 2 (by decide) (List.mem_of_getElem? (i := 2) rfl) rfl dX4_move_77 ?_
            refine k_icmp_ge (tgt := 120) F (by omega) (by omega) dX4_move_80 (by decide) (fun h80 => ?_) (fun h80 => ?_)
            · skip
              refine lv_goto (tgt := 197) F.1 F.2.1 dX4_move_120 (by decide) ?_
              exact k_retMV F hr hlk hP (congrArg (fun z => wMo cI u z th K) (by rw [show i = S 0 1 by omega]; exact mv_of (by omega) (moveS_d (by omega) (by omega)))) hS dX4_move_197
            · skip
              refine lv_aload_n F.1 F.2.1 dX4_move_83 rfl (lv_at hl 0 rfl) ?_
              refine lv_iload F.1 F.2.1 dX4_move_84 (lv_at hl 4 rfl) ?_
              refine lv_iload_n F.1 F.2.1 dX4_move_86 rfl (lv_at hl 2 rfl) ?_
              refine k_pV (n := 2) (rest := []) (v := bI (S 2 i = (S 7 v) ∧ S 4 i = 0)) F (c_X4_isAwake l D cI u (setF (setf S 7 v (S 7 v + 1)) 3 (enrN S (S 7 v) i)) th K i (S 7 v) hI.bd.k (by first | assumption | omega) (by first | assumption | omega)) gX4_move_X4_isAwake rfl (by decide +kernel) ⟨Nat.le_of_ble_eq_true rfl, Nat.le_of_ble_eq_true rfl⟩ rfl hl.1 rfl (Nat.le_of_ble_eq_true rfl) dX4_move_87 ⟨Nat.zero_le _, Nat.zero_le _⟩ hK hP hS [0, 1, 2, 3, 4, 5] rfl (q0 := 0) (ci := 4) rfl rfl (fun H locs hP hS => ?_)
              refine k_ifeq_b (tgt := 114) F dX4_move_90 (by decide) (fun h90 => ?_) (fun h90 => ?_)
              · skip
                refine k_inc (k := 4) (lv' := [(4, .int (nI (i + 1))), (0, .ref (u 0)), (1, .int (nI v)), (2, .int (nI (S 7 v))), (3, .int (nI (hisG S (S 7 v) (S 6 v))))]) F dX4_move_114 hl rfl (by decide) rfl (fun ls hl => ?_)
                refine lv_goto (tgt := 74) F.1 F.2.1 dX4_move_117 (by decide) ?_
                have ew : (wMo cI u (setF (setf S 7 v (S 7 v + 1)) 3 (enrN S (S 7 v) i)) th K) = (wMo cI u (setF (setf S 7 v (S 7 v + 1)) 3 (enrN S (S 7 v) (i + 1))) th K) := congrArg (fun z => wMo cI u z th K) (enrN_n (S := (setf S 7 v (S 7 v + 1))) h90)
                have hP := P_eq ew hP
                have hD := D_eq ew hD
                exact ih74 (i + 1) (by omega) (by omega)  _ _ _ hP hD hS (lv_sub hl [1, 2, 3, 4, 0] rfl)
              · skip
                refine lv_aload_n F.1 F.2.1 dX4_move_93 rfl (lv_at hl 0 rfl) ?_
                refine lv_iload F.1 F.2.1 dX4_move_94 (lv_at hl 4 rfl) ?_
                refine lv_iconst (v := nI 0) F.1 F.2.1 dX4_move_96 (by decide) ?_
                refine lv_bipush (v := nI 9) F.1 F.2.1 dX4_move_97 (by decide) ?_
                refine lv_aload_n F.1 F.2.1 dX4_move_99 rfl (lv_at hl 0 rfl) ?_
                refine lv_iload F.1 F.2.1 dX4_move_100 (lv_at hl 4 rfl) ?_
                refine lv_iconst (v := nI 0) F.1 F.2.1 dX4_move_102 (by decide) ?_
                refine k_pV (n := 2) (rest := [.int (nI 9), .int (nI 0), .int (nI i), .ref (u 0)]) (v := nI ((enrN S (S 7 v) i) i)) F (c_X4_go l D cI u (setF (setf S 7 v (S 7 v + 1)) 3 (enrN S (S 7 v) i)) th K i 0 (by first | assumption | omega) (by first | assumption | omega)) gX4_move_X4_go rfl (by decide +kernel) ⟨Nat.le_of_ble_eq_true rfl, Nat.le_of_ble_eq_true rfl⟩ rfl hl.1 rfl (Nat.le_of_ble_eq_true rfl) dX4_move_103 ⟨Nat.zero_le _, Nat.zero_le _⟩ hK hP hS [0, 1, 2, 3, 4, 5] rfl (q0 := 0) (ci := 4) rfl rfl (fun H locs hP hS => ?_)
                have hv9 : enrN S (S 7 v) i i ≤ 9 := by rw [enrN_at]; exact hI.mood i
                refine lv_iconst (v := nI 1) F.1 F.2.1 dX4_move_106 (by decide) ?_
                refine k_iadd F dX4_move_107 ?_
                refine k_min F hl.1 (List.mem_of_getElem? (i := 3) rfl) (List.mem_of_getElem? (i := 4) rfl) (List.mem_of_getElem? (i := 5) rfl) (List.mem_of_getElem? (i := 6) rfl) (Nat.le_of_ble_eq_true rfl) (Nat.le_of_ble_eq_true rfl) ⟨Nat.zero_le _, Nat.zero_le _⟩ (by omega) (by omega) dX4_move_108 ?_
                refine k_mV (n := 3) (rest := []) F (c_X4_put l D cI u (setF (setf S 7 v (S 7 v + 1)) 3 (enrN S (S 7 v) i)) th K i 0 (min 9 ((enrN S (S 7 v) i) i + 1)) (by first | assumption | omega) (by first | assumption | omega)) gX4_move_X4_put rfl (by decide +kernel) ⟨Nat.le_of_ble_eq_true rfl, Nat.le_of_ble_eq_true rfl⟩ rfl hl.1 rfl (Nat.le_of_ble_eq_true rfl) dX4_move_111 ⟨Nat.zero_le _, Nat.zero_le _⟩ hK hP hD hS [0, 1, 2, 3, 4, 5] rfl rfl rfl (wMo cI u (setf (setF (setf S 7 v (S 7 v + 1)) 3 (enrN S (S 7 v) i)) 3 i (min 9 ((enrN S (S 7 v) i) i + 1))) th K) wMo_ms wMo_ad (q0 := 0) (ci := 4) rfl rfl (fun H locs hP hD hS => ?_)
                refine k_inc (k := 4) (lv' := [(4, .int (nI (i + 1))), (0, .ref (u 0)), (1, .int (nI v)), (2, .int (nI (S 7 v))), (3, .int (nI (hisG S (S 7 v) (S 6 v))))]) F dX4_move_114 hl rfl (by decide) rfl (fun ls hl => ?_)
                refine lv_goto (tgt := 74) F.1 F.2.1 dX4_move_117 (by decide) ?_
                have ew : (wMo cI u (setf (setF (setf S 7 v (S 7 v + 1)) 3 (enrN S (S 7 v) i)) 3 i (min 9 ((enrN S (S 7 v) i) i + 1))) th K) = (wMo cI u (setF (setf S 7 v (S 7 v + 1)) 3 (enrN S (S 7 v) (i + 1))) th K) := congrArg (fun z => wMo cI u z th K) (enrN_y2 (setf S 7 v (S 7 v + 1)) (enrN_at S (S 7 v) i) h90)
                have hP := P_eq ew hP
                have hD := D_eq ew hD
                exact ih74 (i + 1) (by omega) (by omega)  _ _ _ hP hD hS (lv_sub hl [1, 2, 3, 4, 0] rfl)
        have ew : (wMo cI u (setf S 7 v (S 7 v + 1)) th K) = (wMo cI u (setF (setf S 7 v (S 7 v + 1)) 3 (enrN S (S 7 v) 0)) th K) := congrArg (fun z => wMo cI u z th K) ((enrN_0 (setf S 7 v (S 7 v + 1)) (S 7 v)).symm)
        have hP := P_eq ew hP
        have hD := D_eq ew hD
        exact loop74 ((S 0 1) + 1) 0 (by omega) (by omega)  _ _ _ hP hD hS (lv_sub hl [3, 4, 2, 1, 0] rfl)
    · skip
      refine lv_aload_n F.1 F.2.1 dX4_move_18 rfl (lv_at hl 0 rfl) ?_
      refine lv_iload_n F.1 F.2.1 dX4_move_19 rfl (lv_at hl 1 rfl) ?_
      refine lv_iconst (v := nI 3) F.1 F.2.1 dX4_move_20 (by decide) ?_
      refine lv_aload_n F.1 F.2.1 dX4_move_21 rfl (lv_at hl 0 rfl) ?_
      refine lv_iload_n F.1 F.2.1 dX4_move_22 rfl (lv_at hl 1 rfl) ?_
      refine lv_iconst (v := nI 3) F.1 F.2.1 dX4_move_23 (by decide) ?_
      refine k_pV (n := 2) (rest := [.int (nI 3), .int (nI v), .ref (u 0)]) (v := nI (S 10 v)) F (c_X4_vi l D cI u S th K v 3 (by first | assumption | omega) (by first | assumption | omega)) gX4_move_X4_vi rfl (by decide +kernel) ⟨Nat.le_of_ble_eq_true rfl, Nat.le_of_ble_eq_true rfl⟩ rfl hl.1 rfl (Nat.le_of_ble_eq_true rfl) dX4_move_24 ⟨Nat.zero_le _, Nat.zero_le _⟩ hK hP hS [0, 1, 2, 3, 4, 5] rfl (q0 := 0) (ci := 4) rfl rfl (fun H locs hP hS => ?_)
      refine lv_iconst (v := nI 1) F.1 F.2.1 dX4_move_27 (by decide) ?_
      refine k_isub F (by omega) dX4_move_28 ?_
      refine k_mV (n := 3) (rest := []) F (c_X4_let l D cI u S th K v 3 (S 10 v - 1) (by first | assumption | omega) (by first | assumption | omega)) gX4_move_X4_let rfl (by decide +kernel) ⟨Nat.le_of_ble_eq_true rfl, Nat.le_of_ble_eq_true rfl⟩ rfl hl.1 rfl (Nat.le_of_ble_eq_true rfl) dX4_move_29 ⟨Nat.zero_le _, Nat.zero_le _⟩ hK hP hD hS [0, 1, 2, 3, 4, 5] rfl rfl rfl (wMo cI u (setf S 10 v (S 10 v - 1)) th K) wMo_ms wMo_ad (q0 := 0) (ci := 4) rfl rfl (fun H locs hP hD hS => ?_)
      exact k_retMV F hr hlk hP (congrArg (fun z => wMo cI u z th K) (by first | exact mv_of (by omega) (moveS_r (by omega)) | exact mv_of (by omega) (moveS_p (by omega) (by omega) (by omega) hk1) | exact mv_of (by omega) (moveS_f (by omega) (by omega) (by omega)))) hS dX4_move_32
  · skip
    exact k_retMV F hr hlk hP (congrArg (fun z => wMo cI u z th K) (by exact (if_pos (by omega)).symm)) hS dX4_move_8
theorem nX4_beatOn_X4 : ∀ x ∈ wsX40, x ∈ wsX4_beatOn := fun _ h => List.mem_cons_of_mem _ (List.mem_append_right _ h)
set_option maxRecDepth 100000 in
set_option maxHeartbeats 4000000 in
theorem c_X4_beatOn (l : Launch) (D : va_G) (cI : ClassId) (u : Nat → Nat) (S : Nat → Nat → Nat) (th : Int32) (K : Nat → Nat) (hI : Inv S) : MV l yX4_beatOn wsX4_beatOn 4 92 D [(cI, .int)] [.ref (u 0)] (wMo cI u S th K) (wMo cI u (beatS S) th K) := by
  refine k_bodyM (cc := cX4_beatOn) (maxL := 2) (ret := none) (by decide) rfl (Nat.le_of_ble_eq_true rfl) ?_
  intro p e s m args below meth c H ls F hr hlk hl hP hK hD hS
  have F : CallFix p m c cX4_beatOn 2 s args wsX4_beatOn RX4 := F
  have hl : lv_has ls 2 [(0, .ref (u 0))] := hl
  have hi0 := hI.gates
  have hi1 := hI.geese
  have hi2 := hI.guests
  refine lv_iconst (v := nI 0) F.1 F.2.1 dX4_beatOn_0 (by decide) ?_
  refine lv_istore_n (lv' := [(1, .int (nI 0)), (0, .ref (u 0))]) F.1 F.2.1 dX4_beatOn_1 rfl hl (by decide) rfl (fun ls hl => ?_)
  have loop2 : ∀ (n : Nat) (i : Nat), i ≤ S 0 1 → S 0 1 + 1 ≤ i + n → ∀ (H : Heap) (locs : List Loc) (ls : Array Slot), va_P D vwCl (wMo cI u (setF S 4 (wakN S i)) th K) H → va_D (va_B (wMo cI u S th K)) (wMo cI u (setF S 4 (wakN S i)) th K) → va_S (va_B (wMo cI u S th K)) s.heap H locs → lv_has ls 2 [(0, .ref (u 0)), (1, .int (nI i))] → W p l e (rmN 4 92) s m args below meth c H locs 0 0 (QMV below args s D (wMo cI u S th K) (wMo cI u (beatS S) th K)) (F0 m 2 ls []) := by
    intro n
    induction n with
    | zero => intro i hi hn; exact absurd hn (by omega)
    | succ n ih2 =>
      intro i hi hn  H locs ls hP hD hS hl
      refine lv_iload_n F.1 F.2.1 dX4_beatOn_2 rfl (lv_at hl 1 rfl) ?_
      refine lv_aload_n F.1 F.2.1 dX4_beatOn_3 rfl (lv_at hl 0 rfl) ?_
      refine k_get (v := .int (nI (S 0 1))) F nX4_beatOn_X4 hK.1 hP 0 rfl rfl 2 (by decide) (List.mem_of_getElem? (i := 1) rfl) rfl dX4_beatOn_4 ?_
      refine k_icmp_ge (tgt := 39) F (by omega) (by omega) dX4_beatOn_7 (by decide) (fun h7 => ?_) (fun h7 => ?_)
      · skip
        refine lv_iconst (v := nI 0) F.1 F.2.1 dX4_beatOn_39 (by decide) ?_
        refine lv_istore_n (lv' := [(1, .int (nI 0)), (0, .ref (u 0))]) F.1 F.2.1 dX4_beatOn_40 rfl hl (by decide) rfl (fun ls hl => ?_)
        have loop41 : ∀ (n : Nat) (j : Nat), j ≤ S 0 2 → S 0 2 + 1 ≤ j + n → ∀ (H : Heap) (locs : List Loc) (ls : Array Slot), va_P D vwCl (wMo cI u (movN (wakS S) j) th K) H → va_D (va_B (wMo cI u S th K)) (wMo cI u (movN (wakS S) j) th K) → va_S (va_B (wMo cI u S th K)) s.heap H locs → lv_has ls 2 [(0, .ref (u 0)), (1, .int (nI j))] → W p l e (rmN 4 92) s m args below meth c H locs 0 0 (QMV below args s D (wMo cI u S th K) (wMo cI u (beatS S) th K)) (F0 m 41 ls []) := by
          intro n
          induction n with
          | zero => intro j hi hn; exact absurd hn (by omega)
          | succ n ih41 =>
            intro j hi hn  H locs ls hP hD hS hl
            have hJ := inv_movN (inv_wakS hI) j
            have e2 : movN (wakS S) j 0 2 = S 0 2 := movN_sc (wakS S) 2 (by omega) j
            refine lv_iload_n F.1 F.2.1 dX4_beatOn_41 rfl (lv_at hl 1 rfl) ?_
            refine lv_aload_n F.1 F.2.1 dX4_beatOn_42 rfl (lv_at hl 0 rfl) ?_
            refine k_get (v := .int (nI ((movN (wakS S) j) 0 2))) F nX4_beatOn_X4 hK.1 hP 0 rfl rfl 3 (by decide) (List.mem_of_getElem? (i := 2) rfl) rfl dX4_beatOn_43 ?_
            refine k_icmp_ge (tgt := 60) F (by omega) (by omega) dX4_beatOn_46 (by decide) (fun h46 => ?_) (fun h46 => ?_)
            · skip
              refine lv_aload_n F.1 F.2.1 dX4_beatOn_60 rfl (lv_at hl 0 rfl) ?_
              refine k_get (v := .ref (u 4)) F nX4_beatOn_X4 hK.1 hP 0 rfl rfl 7 (by decide) (List.mem_of_getElem? (i := 3) rfl) rfl dX4_beatOn_61 ?_
              refine lv_iconst (v := nI 0) F.1 F.2.1 dX4_beatOn_64 (by decide) ?_
              refine lv_dup2_11 F.1 F.2.1 dX4_beatOn_65 rfl rfl ?_
              refine k_iald (f := encN (movN (wakS S) j)) (n := 59) F hK.1 hP 4 0 rfl rfl (by omega) (by decide) dX4_beatOn_66 ?_
              refine lv_iconst (v := nI 1) F.1 F.2.1 dX4_beatOn_67 (by decide) ?_
              refine k_iadd F dX4_beatOn_68 ?_
              refine k_iast (f := encN (movN (wakS S) j)) (n := 59) (k := 0) (x := ((movN (wakS S) j) 0 3 + 1)) F hK.1 hP hD hS 4 0 rfl rfl (by omega) (by decide) dX4_beatOn_69 (wMo cI u (setf (movN (wakS S) j) 0 3 ((movN (wakS S) j) 0 3 + 1)) th K) (wMo_sc cI u (movN (wakS S) j) th K (by decide)) (fun H locs hP hD hS => ?_)
              exact k_retMV F hr hlk hP (by rw [show j = S 0 2 by omega]; rfl) hS dX4_beatOn_70
            · skip
              refine lv_aload_n F.1 F.2.1 dX4_beatOn_49 rfl (lv_at hl 0 rfl) ?_
              refine lv_iload_n F.1 F.2.1 dX4_beatOn_50 rfl (lv_at hl 1 rfl) ?_
              refine k_mV (n := 1) (rest := []) F (c_X4_move l D cI u (movN (wakS S) j) th K j hJ (by first | assumption | omega)) gX4_beatOn_X4_move rfl (by decide +kernel) ⟨Nat.le_of_ble_eq_true rfl, Nat.le_of_ble_eq_true rfl⟩ rfl hl.1 rfl (Nat.le_of_ble_eq_true rfl) dX4_beatOn_51 ⟨Nat.zero_le _, Nat.zero_le _⟩ hK hP hD hS [0, 1, 2, 3, 4, 5] rfl rfl rfl (wMo cI u (mvS (movN (wakS S) j) j) th K) wMo_ms wMo_ad (q0 := 0) (ci := 4) rfl rfl (fun H locs hP hD hS => ?_)
              refine k_inc (k := 1) (lv' := [(1, .int (nI (j + 1))), (0, .ref (u 0))]) F dX4_beatOn_54 hl rfl (by decide) rfl (fun ls hl => ?_)
              refine lv_goto (tgt := 41) F.1 F.2.1 dX4_beatOn_57 (by decide) ?_
              have ew : (wMo cI u (mvS (movN (wakS S) j) j) th K) = (wMo cI u (movN (wakS S) (j + 1)) th K) := rfl
              have hP := P_eq ew hP
              have hD := D_eq ew hD
              exact ih41 (j + 1) (by omega) (by omega)  _ _ _ hP hD hS (lv_sub hl [1, 0] rfl)
        have ew : (wMo cI u (setF S 4 (wakN S i)) th K) = (wMo cI u (movN (wakS S) 0) th K) := by rw [show i = S 0 1 by omega]; rfl
        have hP := P_eq ew hP
        have hD := D_eq ew hD
        exact loop41 ((S 0 2) + 1) 0 (by omega) (by omega)  _ _ _ hP hD hS (lv_sub hl [1, 0] rfl)
      · skip
        refine lv_aload_n F.1 F.2.1 dX4_beatOn_10 rfl (lv_at hl 0 rfl) ?_
        refine lv_iload_n F.1 F.2.1 dX4_beatOn_11 rfl (lv_at hl 1 rfl) ?_
        refine lv_iconst (v := nI 1) F.1 F.2.1 dX4_beatOn_12 (by decide) ?_
        refine k_pV (n := 2) (rest := []) (v := nI ((wakN S i) i)) F (c_X4_go l D cI u (setF S 4 (wakN S i)) th K i 1 (by first | assumption | omega) (by first | assumption | omega)) gX4_beatOn_X4_go rfl (by decide +kernel) ⟨Nat.le_of_ble_eq_true rfl, Nat.le_of_ble_eq_true rfl⟩ rfl hl.1 rfl (Nat.le_of_ble_eq_true rfl) dX4_beatOn_13 ⟨Nat.zero_le _, Nat.zero_le _⟩ hK hP hS [0, 1, 2, 3, 4, 5] rfl (q0 := 0) (ci := 4) rfl rfl (fun H locs hP hS => ?_)
        have hv9 : wakN S i i ≤ 3 := by rw [wakN_at]; exact hI.rest i
        refine k_if_le (tgt := 33) F (by omega) dX4_beatOn_16 (by decide) (fun h16 => ?_) (fun h16 => ?_)
        · skip
          refine k_inc (k := 1) (lv' := [(1, .int (nI (i + 1))), (0, .ref (u 0))]) F dX4_beatOn_33 hl rfl (by decide) rfl (fun ls hl => ?_)
          refine lv_goto (tgt := 2) F.1 F.2.1 dX4_beatOn_36 (by decide) ?_
          have ew : (wMo cI u (setF S 4 (wakN S i)) th K) = (wMo cI u (setF S 4 (wakN S (i + 1))) th K) := congrArg (fun z => wMo cI u z th K) (wakN_n ((wakN_at S i).symm.trans h16))
          have hP := P_eq ew hP
          have hD := D_eq ew hD
          exact ih2 (i + 1) (by omega) (by omega)  _ _ _ hP hD hS (lv_sub hl [1, 0] rfl)
        · skip
          refine lv_aload_n F.1 F.2.1 dX4_beatOn_19 rfl (lv_at hl 0 rfl) ?_
          refine lv_iload_n F.1 F.2.1 dX4_beatOn_20 rfl (lv_at hl 1 rfl) ?_
          refine lv_iconst (v := nI 1) F.1 F.2.1 dX4_beatOn_21 (by decide) ?_
          refine lv_aload_n F.1 F.2.1 dX4_beatOn_22 rfl (lv_at hl 0 rfl) ?_
          refine lv_iload_n F.1 F.2.1 dX4_beatOn_23 rfl (lv_at hl 1 rfl) ?_
          refine lv_iconst (v := nI 1) F.1 F.2.1 dX4_beatOn_24 (by decide) ?_
          refine k_pV (n := 2) (rest := [.int (nI 1), .int (nI i), .ref (u 0)]) (v := nI ((wakN S i) i)) F (c_X4_go l D cI u (setF S 4 (wakN S i)) th K i 1 (by first | assumption | omega) (by first | assumption | omega)) gX4_beatOn_X4_go rfl (by decide +kernel) ⟨Nat.le_of_ble_eq_true rfl, Nat.le_of_ble_eq_true rfl⟩ rfl hl.1 rfl (Nat.le_of_ble_eq_true rfl) dX4_beatOn_25 ⟨Nat.zero_le _, Nat.zero_le _⟩ hK hP hS [0, 1, 2, 3, 4, 5] rfl (q0 := 0) (ci := 4) rfl rfl (fun H locs hP hS => ?_)
          refine lv_iconst (v := nI 1) F.1 F.2.1 dX4_beatOn_28 (by decide) ?_
          refine k_isub F (by omega) dX4_beatOn_29 ?_
          refine k_mV (n := 3) (rest := []) F (c_X4_put l D cI u (setF S 4 (wakN S i)) th K i 1 ((wakN S i) i - 1) (by first | assumption | omega) (by first | assumption | omega)) gX4_beatOn_X4_put rfl (by decide +kernel) ⟨Nat.le_of_ble_eq_true rfl, Nat.le_of_ble_eq_true rfl⟩ rfl hl.1 rfl (Nat.le_of_ble_eq_true rfl) dX4_beatOn_30 ⟨Nat.zero_le _, Nat.zero_le _⟩ hK hP hD hS [0, 1, 2, 3, 4, 5] rfl rfl rfl (wMo cI u (setf (setF S 4 (wakN S i)) 4 i ((wakN S i) i - 1)) th K) wMo_ms wMo_ad (q0 := 0) (ci := 4) rfl rfl (fun H locs hP hD hS => ?_)
          refine k_inc (k := 1) (lv' := [(1, .int (nI (i + 1))), (0, .ref (u 0))]) F dX4_beatOn_33 hl rfl (by decide) rfl (fun ls hl => ?_)
          refine lv_goto (tgt := 2) F.1 F.2.1 dX4_beatOn_36 (by decide) ?_
          have ew : (wMo cI u (setf (setF S 4 (wakN S i)) 4 i ((wakN S i) i - 1)) th K) = (wMo cI u (setF S 4 (wakN S (i + 1))) th K) := congrArg (fun z => wMo cI u z th K) (wakN_y2 S i)
          have hP := P_eq ew hP
          have hD := D_eq ew hD
          exact ih2 (i + 1) (by omega) (by omega)  _ _ _ hP hD hS (lv_sub hl [1, 0] rfl)
  have ew : (wMo cI u S th K) = (wMo cI u (setF S 4 (wakN S 0)) th K) := congrArg (fun z => wMo cI u z th K) ((wakN_0 S).symm)
  have hP := P_eq ew hP
  have hD := D_eq ew hD
  exact loop2 ((S 0 1) + 1) 0 (by omega) (by omega)  _ _ _ hP hD hS (lv_sub hl [1, 0] rfl)
set_option maxRecDepth 100000 in
set_option maxHeartbeats 4000000 in
theorem c_X4_beatsOn (l : Launch) (D : va_G) (cI : ClassId) (u : Nat → Nat) (S : Nat → Nat → Nat) (th : Int32) (K : Nat → Nat) (b : Nat) (hI : Inv S) (hq1 : b < 2 ^ 31) : MV l yX4_beatsOn wsX4_beatsOn 5 113 D [(cI, .int)] [.ref (u 0), .int (nI b)] (wMo cI u S th K) (wMo cI u (beatsN S b) th K) := by
  refine k_bodyM (cc := cX4_beatsOn) (maxL := 3) (ret := none) (by decide) rfl (Nat.le_of_ble_eq_true rfl) ?_
  intro p e s m args below meth c H ls F hr hlk hl hP hK hD hS
  have F : CallFix p m c cX4_beatsOn 3 s args wsX4_beatsOn RX4 := F
  have hl : lv_has ls 3 [(0, .ref (u 0)), (1, .int (nI b))] := hl
  refine lv_iconst (v := nI 0) F.1 F.2.1 dX4_beatsOn_0 (by decide) ?_
  refine lv_istore_n (lv' := [(2, .int (nI 0)), (0, .ref (u 0)), (1, .int (nI b))]) F.1 F.2.1 dX4_beatsOn_1 rfl hl (by decide) rfl (fun ls hl => ?_)
  have loop2 : ∀ (n : Nat) (i : Nat), i ≤ b → b + 1 ≤ i + n → ∀ (H : Heap) (locs : List Loc) (ls : Array Slot), va_P D vwCl (wMo cI u (beatsN S i) th K) H → va_D (va_B (wMo cI u S th K)) (wMo cI u (beatsN S i) th K) → va_S (va_B (wMo cI u S th K)) s.heap H locs → lv_has ls 3 [(0, .ref (u 0)), (1, .int (nI b)), (2, .int (nI i))] → W p l e (rmN 5 113) s m args below meth c H locs 0 0 (QMV below args s D (wMo cI u S th K) (wMo cI u (beatsN S b) th K)) (F0 m 2 ls []) := by
    intro n
    induction n with
    | zero => intro i hi hn; exact absurd hn (by omega)
    | succ n ih2 =>
      intro i hi hn  H locs ls hP hD hS hl
      refine lv_iload_n F.1 F.2.1 dX4_beatsOn_2 rfl (lv_at hl 2 rfl) ?_
      refine lv_iload_n F.1 F.2.1 dX4_beatsOn_3 rfl (lv_at hl 1 rfl) ?_
      refine k_icmp_ge (tgt := 17) F (by omega) (by omega) dX4_beatsOn_4 (by decide) (fun h4 => ?_) (fun h4 => ?_)
      · skip
        exact k_retMV F hr hlk hP (by rw [show i = b by omega]) hS dX4_beatsOn_17
      · skip
        refine lv_aload_n F.1 F.2.1 dX4_beatsOn_7 rfl (lv_at hl 0 rfl) ?_
        refine k_mV (n := 0) (rest := []) F (c_X4_beatOn l D cI u (beatsN S i) th K (inv_beatsN hI i)) gX4_beatsOn_X4_beatOn rfl (by decide +kernel) ⟨Nat.le_of_ble_eq_true rfl, Nat.le_of_ble_eq_true rfl⟩ rfl hl.1 rfl (Nat.le_of_ble_eq_true rfl) dX4_beatsOn_8 ⟨Nat.zero_le _, Nat.zero_le _⟩ hK hP hD hS [0, 1, 2, 3, 4, 5] rfl rfl rfl (wMo cI u (beatS (beatsN S i)) th K) wMo_ms wMo_ad (q0 := 0) (ci := 4) rfl rfl (fun H locs hP hD hS => ?_)
        refine k_inc (k := 2) (lv' := [(2, .int (nI (i + 1))), (0, .ref (u 0)), (1, .int (nI b))]) F dX4_beatsOn_11 hl rfl (by decide) rfl (fun ls hl => ?_)
        refine lv_goto (tgt := 2) F.1 F.2.1 dX4_beatsOn_14 (by decide) ?_
        have ew : (wMo cI u (beatS (beatsN S i)) th K) = (wMo cI u (beatsN S (i + 1)) th K) := rfl
        have hP := P_eq ew hP
        have hD := D_eq ew hD
        exact ih2 (i + 1) (by omega) (by omega)  _ _ _ hP hD hS (lv_sub hl [1, 2, 0] rfl)
  have ew : (wMo cI u S th K) = (wMo cI u (beatsN S 0) th K) := rfl
  have hP := P_eq ew hP
  have hD := D_eq ew hD
  exact loop2 (b + 1) 0 (by omega) (by omega)  _ _ _ hP hD hS (lv_sub hl [1, 2, 0] rfl)
theorem nX4_inside_X4 : ∀ x ∈ wsX40, x ∈ wsX4_inside := fun _ h => List.mem_cons_of_mem _ (List.mem_append_right _ h)
set_option maxRecDepth 100000 in
set_option maxHeartbeats 4000000 in
theorem c_X4_inside (l : Launch) (D : va_G) (cI : ClassId) (u : Nat → Nat) (S : Nat → Nat → Nat) (th : Int32) (K : Nat → Nat) (hI : Inv S) : PI l yX4_inside wsX4_inside 2 43 D [(cI, .int)] [.ref (u 0)] (wMo cI u S th K) (nI (inN S (S 0 2))) := by
  refine k_bodyP (cc := cX4_inside) (maxL := 3) (ret := (some .int)) (by decide) rfl (Nat.le_of_ble_eq_true rfl) ?_
  intro p e s m args below meth c H ls F hr hlk hl hP hK hS
  have F : CallFix p m c cX4_inside 3 s args wsX4_inside RX4 := F
  have hl : lv_has ls 3 [(0, .ref (u 0))] := hl
  have hi0 := hI.gates
  have hi1 := hI.geese
  have hi2 := hI.guests
  refine lv_iconst (v := nI 0) F.1 F.2.1 dX4_inside_0 (by decide) ?_
  refine lv_istore_n (lv' := [(1, .int (nI 0)), (0, .ref (u 0))]) F.1 F.2.1 dX4_inside_1 rfl hl (by decide) rfl (fun ls hl => ?_)
  refine lv_iconst (v := nI 0) F.1 F.2.1 dX4_inside_2 (by decide) ?_
  refine lv_istore_n (lv' := [(2, .int (nI 0)), (1, .int (nI 0)), (0, .ref (u 0))]) F.1 F.2.1 dX4_inside_3 rfl hl (by decide) rfl (fun ls hl => ?_)
  have loop4 : ∀ (n : Nat) (i : Nat), i ≤ S 0 2 → S 0 2 + 1 ≤ i + n → ∀ (H : Heap) (locs : List Loc) (ls : Array Slot), va_P D vwCl (wMo cI u S th K) H → va_S (fun _ => False) s.heap H locs → lv_has ls 3 [(0, .ref (u 0)), (1, .int (nI (inN S i))), (2, .int (nI i))] → W p l e (rmN 2 43) s m args below meth c H locs 0 0 (QPI below args s (nI (inN S (S 0 2)))) (F0 m 4 ls []) := by
    intro n
    induction n with
    | zero => intro i hi hn; exact absurd hn (by omega)
    | succ n ih4 =>
      intro i hi hn  H locs ls hP hS hl
      refine lv_iload_n F.1 F.2.1 dX4_inside_4 rfl (lv_at hl 2 rfl) ?_
      refine lv_aload_n F.1 F.2.1 dX4_inside_5 rfl (lv_at hl 0 rfl) ?_
      refine k_get (v := .int (nI (S 0 2))) F nX4_inside_X4 hK.1 hP 0 rfl rfl 3 (by decide) (List.mem_of_getElem? (i := 1) rfl) rfl dX4_inside_6 ?_
      refine k_icmp_ge (tgt := 34) F (by omega) (by omega) dX4_inside_9 (by decide) (fun h9 => ?_) (fun h9 => ?_)
      · skip
        refine lv_iload_n F.1 F.2.1 dX4_inside_34 rfl (lv_at hl 1 rfl) ?_
        exact k_retP F hr hlk hS (by rw [show i = S 0 2 by omega]) rfl dX4_inside_35
      · skip
        refine lv_iload_n F.1 F.2.1 dX4_inside_12 rfl (lv_at hl 1 rfl) ?_
        refine lv_aload_n F.1 F.2.1 dX4_inside_13 rfl (lv_at hl 0 rfl) ?_
        refine lv_iload_n F.1 F.2.1 dX4_inside_14 rfl (lv_at hl 2 rfl) ?_
        refine k_pV (n := 1) (rest := [.int (nI (inN S i))]) (v := bI (S 0 0 ≤ S 7 i)) F (c_X4_isIn_ l D cI u S th K i hI (by first | assumption | omega)) gX4_inside_X4_isIn_ rfl (by decide +kernel) ⟨Nat.le_of_ble_eq_true rfl, Nat.le_of_ble_eq_true rfl⟩ rfl hl.1 rfl (Nat.le_of_ble_eq_true rfl) dX4_inside_15 ⟨Nat.zero_le _, Nat.zero_le _⟩ hK hP hS [0, 1, 2, 3, 4, 5] rfl (q0 := 0) (ci := 4) rfl rfl (fun H locs hP hS => ?_)
        refine k_ifeq_b (tgt := 25) F dX4_inside_18 (by decide) (fun h18 => ?_) (fun h18 => ?_)
        · skip
          refine lv_iconst (v := nI 0) F.1 F.2.1 dX4_inside_25 (by decide) ?_
          refine k_iadd F dX4_inside_26 ?_
          refine lv_istore_n (lv' := [(1, .int (nI (inN S i + 0))), (0, .ref (u 0)), (2, .int (nI i))]) F.1 F.2.1 dX4_inside_27 rfl hl (by decide) rfl (fun ls hl => ?_)
          refine k_inc (k := 2) (lv' := [(2, .int (nI (i + 1))), (1, .int (nI (inN S i + 0))), (0, .ref (u 0))]) F dX4_inside_28 hl rfl (by decide) rfl (fun ls hl => ?_)
          refine lv_goto (tgt := 4) F.1 F.2.1 dX4_inside_31 (by decide) ?_
          have e_1 : (inN S i + 0) = inN S (i + 1) := by simp only [inN]; rw [if_neg h18]; rfl
          rw [e_1] at hl
          exact ih4 (i + 1) (by omega) (by omega)  _ _ _ hP hS (lv_sub hl [2, 1, 0] rfl)
        · skip
          refine lv_iconst (v := nI 1) F.1 F.2.1 dX4_inside_21 (by decide) ?_
          refine lv_goto (tgt := 26) F.1 F.2.1 dX4_inside_22 (by decide) ?_
          refine k_iadd F dX4_inside_26 ?_
          refine lv_istore_n (lv' := [(1, .int (nI (inN S i + 1))), (0, .ref (u 0)), (2, .int (nI i))]) F.1 F.2.1 dX4_inside_27 rfl hl (by decide) rfl (fun ls hl => ?_)
          refine k_inc (k := 2) (lv' := [(2, .int (nI (i + 1))), (1, .int (nI (inN S i + 1))), (0, .ref (u 0))]) F dX4_inside_28 hl rfl (by decide) rfl (fun ls hl => ?_)
          refine lv_goto (tgt := 4) F.1 F.2.1 dX4_inside_31 (by decide) ?_
          have e_2 : (inN S i + 1) = inN S (i + 1) := by simp only [inN]; rw [if_pos h18]
          rw [e_2] at hl
          exact ih4 (i + 1) (by omega) (by omega)  _ _ _ hP hS (lv_sub hl [2, 1, 0] rfl)
  have e_3 : 0 = inN S 0 := rfl
  rw [e_3] at hl
  exact loop4 ((S 0 2) + 1) 0 (by omega) (by omega)  _ _ _ hP hS (lv_sub hl [2, 1, 0] rfl)
