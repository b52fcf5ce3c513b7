set_option maxRecDepth 100000 in
set_option maxHeartbeats 4000000 in
theorem whole_start {p : Program} {e : Env} {s : State} {m : MethodId} {below : List Frame} {meth : Method} {c : Code} (l : Launch) (hflags : l.flags = flags0) {b L : Nat} {xs : Nat → Int32} (hL : L ≤ 2048) (C0 : lw_At p s m meth c b L xs) : W p l e room_1 s m #[Value.ref b] below meth c s.heap [] 0 0 (lw_Z below #[Value.ref b] s) (entryFrame m ([Value.ref b] : List Value).toArray 9) := by
  obtain ⟨hx, hb, hr, hml, hown, hts, hX, hbl, hlocks, hgv⟩ := id C0
  have F : LF p s m c #[Value.ref b] := ⟨hx, hb, hml, hown, fun w hw => hts w (wsL_law_in w hw)⟩
  obtain ⟨D, cI, hKC⟩ := kc_start hts
  obtain ⟨hKXA, hKXN⟩ := kx_start hts hgv
  have hst := hst_start hflags
  have hA : ∀ q : Nat, s.heap.size ≤ q → (fun q : Nat => s.heap.size ≤ q) q := fun _ h => h
  have hbA : ¬ (fun q : Nat => s.heap.size ≤ q) b := Nat.not_le.mpr hbl
  have hS : va_S (fun q : Nat => s.heap.size ≤ q) s.heap s.heap [] := va_S.rf
  have hP : va_P D vwCl [] s.heap := fun k q h => by simp at h
  have hD : va_D (fun q : Nat => s.heap.size ≤ q) [] := ⟨fun i j p q h => by simp at h, fun k q h => by simp at h⟩
  have kx : ∀ (H : Heap) (locs : List Loc) (ls : Array Slot), va_S (fun q : Nat => s.heap.size ≤ q) s.heap H locs → W p l e room_1 s m #[Value.ref b] below meth c H locs 601024 7293033 (lw_Z below #[Value.ref b] s) (F0 m 2179 ls []) := by
    intro H locs ls hS
    refine va_forget (fun q hq => hS.2.2 q hq) ?_
    refine lv_iconst (v := 1) hx hb dL_law_2179 (by decide) ?_
    exact W.base (lw_ret (d0 := s.drawn) (Drawn.sameBut.refl s.drawn lw_cs) hx hb hr hlocks dL_law_2180)
  have hl := lv_entry ([.ref b]) (n := 9) (Nat.le_of_ble_eq_true rfl)
  rw [lg_entry_eq]
  generalize (lg_sl ([.ref b]) ++ List.replicate (9 - (lg_sl ([.ref b])).length) Slot.unset).toArray = ls at hl ⊢
  have hl : lv_has ls 9 [(0, .ref b)] := hl
  refine k_newo (ci := 3) (fs := [.null, .null]) F inlX3 tyX3 tyX3_ok (List.mem_of_getElem? (i := 0) rfl) (List.mem_of_getElem? (i := 1) rfl) (List.mem_of_getElem? (i := 2) rfl) hKC.1.1 hP hD hS hA rfl (fun j hj => by rcases (show j = 0 ∨ j = 1 by omega) with rfl | rfl <;> rfl) ⟨Nat.le_of_ble_eq_true rfl, Nat.le_of_ble_eq_true rfl⟩ dL_law_0 (fun q0 H hP hD hS => ?_)
  have hP : va_P D vwCl [(q0, .inr (3, [.null, .null]))] H := hP
  have hD : va_D (fun q : Nat => s.heap.size ≤ q) [(q0, .inr (3, [.null, .null]))] := hD
  refine lv_dup hx hb dL_law_3 rfl ?_
  refine k_ctorI (rest := [.ref q0]) F (c_X3_init l D cI q0) gL_law_X3_init (List.mem_of_getElem? (i := 7) rfl) (List.mem_of_getElem? (i := 2) rfl) (List.mem_of_getElem? (i := 8) rfl) rfl rfl (by decide +kernel) ⟨Nat.le_of_ble_eq_true rfl, Nat.le_of_ble_eq_true rfl⟩ hl.1 rfl (Nat.le_of_ble_eq_true rfl) dL_law_4 ⟨Nat.le_of_ble_eq_true rfl, Nat.le_of_ble_eq_true rfl⟩ hKC hP hD hS hA [0] [] [] rfl rfl rfl rfl (by decide) (fun a1 H locs hw1 hP9 hD9 hS => ?_)
  subst hw1
  have hP : va_P D vwCl (wCo cI a1 (fun k => a1 (100 + k)) S0 S0) H := hP9
  have hD : va_D (fun q : Nat => s.heap.size ≤ q) (wCo cI a1 (fun k => a1 (100 + k)) S0 S0) := hD9
  generalize (fun k => a1 (100 + k)) = b1 at hP hD
  refine lv_astore_n (lv' := [(1, .ref (a1 13)), (0, .ref b)]) hx hb dL_law_7 rfl hl (by decide) rfl (fun ls hl => ?_)
  refine k_newo (ci := 4) (fs := [.int 0, .int 0, .int 0, .int 0, .null, .null, .null, .null, .null]) F inlX4 tyX4 tyX4_ok (List.mem_of_getElem? (i := 3) rfl) (List.mem_of_getElem? (i := 4) rfl) (List.mem_of_getElem? (i := 5) rfl) hKC.1.1 hP hD hS hA rfl (fun j hj => by rcases (show j = 0 ∨ j = 1 ∨ j = 2 ∨ j = 3 ∨ j = 4 ∨ j = 5 ∨ j = 6 ∨ j = 7 ∨ j = 8 by omega) with rfl | rfl | rfl | rfl | rfl | rfl | rfl | rfl | rfl <;> rfl) ⟨Nat.le_of_ble_eq_true rfl, Nat.le_of_ble_eq_true rfl⟩ dL_law_8 (fun q1 H hP hD hS => ?_)
  refine lv_dup hx hb dL_law_11 rfl ?_
  refine k_ctorI (rest := [.ref q1]) F (c_X4_init l D cI q1) gL_law_X4_init (List.mem_of_getElem? (i := 46) rfl) (List.mem_of_getElem? (i := 5) rfl) (List.mem_of_getElem? (i := 47) rfl) rfl rfl (by decide +kernel) ⟨Nat.le_of_ble_eq_true rfl, Nat.le_of_ble_eq_true rfl⟩ hl.1 rfl (Nat.le_of_ble_eq_true rfl) dL_law_12 ⟨Nat.le_of_ble_eq_true rfl, Nat.le_of_ble_eq_true rfl⟩ hKC hP hD hS hA [27] [0, 1, 2, 3, 4, 5, 6, 7, 8, 9, 10, 11, 12, 13, 14, 15, 16, 17, 18, 19, 20, 21, 22, 23, 24, 25, 26] (wCo cI a1 b1 S0 S0) rfl rfl rfl rfl (by decide) (fun u1 H locs hw1 hP9 hD9 hS => ?_)
  subst hw1
  have hP : va_P D vwCl (wCo cI a1 b1 S0 S0 ++ wMo cI u1 S0 0 (fun _ => 0)) H := hP9
  have hD : va_D (fun q : Nat => s.heap.size ≤ q) (wCo cI a1 b1 S0 S0 ++ wMo cI u1 S0 0 (fun _ => 0)) := hD9
  refine lv_astore_n (lv' := [(2, .ref (u1 0)), (1, .ref (a1 13)), (0, .ref b)]) hx hb dL_law_15 rfl hl (by decide) rfl (fun ls hl => ?_)
  refine lv_iconst (v := nI 1) hx hb dL_law_16 (by decide) ?_
  refine va_newa (atype := .long) (ty := .long) (N' := 1) (a0 := (1, .inr (.inl (fun _ => 0)))) hx hb (F.2.2.2.2 _ (List.mem_of_getElem? (i := 6) rfl)) rfl hKC.1.1 hP hD hS hA (fun cA => by rw [vp_cell_l]; rfl) (nI_pos (by decide)) (nI_clamp (by decide)) (by decide) (Nat.le_of_ble_eq_true rfl) (Nat.le_of_ble_eq_true rfl) dL_law_17 (fun q2 cL H hK2 hP hD hS => ?_)
  have hPw : va_P D vwCl (wLw cI cL u1 q2 a1 b1 S0 0 (fun _ => 0) S0 (fun _ => 0)) H := sub_at hP [27, 28, 29, 30, 31, 32, 33, 0, 1, 2, 3, 4, 5, 6, 7, 8, 9, 10, 11, 12, 13, 14, 15, 16, 17, 18, 19, 20, 21, 22, 23, 24, 25, 26] rfl
  have hDw : va_D (fun q : Nat => s.heap.size ≤ q) (wLw cI cL u1 q2 a1 b1 S0 0 (fun _ => 0) S0 (fun _ => 0)) := subD_at hD [27, 28, 29, 30, 31, 32, 33, 0, 1, 2, 3, 4, 5, 6, 7, 8, 9, 10, 11, 12, 13, 14, 15, 16, 17, 18, 19, 20, 21, 22, 23, 24, 25, 26] rfl rfl
  refine lv_astore_n (lv' := [(3, .ref q2), (2, .ref (u1 0)), (1, .ref (a1 13)), (0, .ref b)]) hx hb dL_law_19 rfl hl (by decide) rfl (fun ls hl => ?_)
  refine lv_iconst (v := nI 0) hx hb dL_law_20 (by decide) ?_
  refine lv_istore (lv' := [(4, .int (nI 0)), (3, .ref q2), (2, .ref (u1 0)), (1, .ref (a1 13)), (0, .ref b)]) hx hb dL_law_21 hl (by decide) rfl (fun ls hl => ?_)
  have X : LX l s D (fun q : Nat => s.heap.size ≤ q) cI cL b L xs := ⟨hKC.1, ⟨hK2, hKC.1.2⟩, hKXA, hKXN, hA, hst, hX, hbl, hbA, hL⟩
  exact l_loop F X kx 512 0 (0 + 1 + 26 + 1 + 5 + 1) (0 + 2 + 192 + 9 + 140 + 1) (by omega) (by omega) (by omega) (by omega) S0 0 (fun _ => 0) S0 (fun _ => 0) H locs ls ⟨inv_S0, hPw, hDw, hS, lv_sub hl [0, 4, 3, 2, 1] rfl⟩
