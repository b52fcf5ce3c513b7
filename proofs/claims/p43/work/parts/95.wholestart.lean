set_option maxRecDepth 100000 in
set_option maxHeartbeats 4000000 in
theorem whole_start {p : Program} {e : Env} {s : State} {m : MethodId} {below : List Frame} {meth : Method} {c : Code} (l : Launch) (hflags : l.flags = flags0) {b L : Nat} {xs : Nat → Int32} (hL : L ≤ 260) (C0 : lw_At p s m meth c b L xs) : W p l e room_1 s m #[Value.ref b] below meth c s.heap [] 0 0 (lw_Z below #[Value.ref b] s) (entryFrame m ([Value.ref b] : List Value).toArray 34) := by
  obtain ⟨hx, hb, hr, hml, hown, hts, hX, hbl, hlocks, hgv⟩ := id C0
  have F : LF p s m c #[Value.ref b] := ⟨hx, hb, hml, hown, fun w hw => hts w (wsL_law_in w hw)⟩
  obtain ⟨D, cI, cA, hKB, hKC⟩ := kc_start hts
  have hKXA := kx_start hts hgv
  have hst := hst_start hflags
  have hA : ∀ q : Nat, s.heap.size ≤ q → (fun q : Nat => s.heap.size ≤ q) q := fun _ h => h
  have hbA : ¬ (fun q : Nat => s.heap.size ≤ q) b := Nat.not_le.mpr hbl
  have hS : va_S (fun q : Nat => s.heap.size ≤ q) s.heap s.heap [] := va_S.rf
  have hP : va_P D vwCl [] s.heap := fun k q h => by simp at h
  have hD : va_D (fun q : Nat => s.heap.size ≤ q) [] := ⟨fun i j p q h => by simp at h, fun k q h => by simp at h⟩
  have kx : ∀ (H : Heap) (locs : List Loc) (ls : Array Slot), va_S (fun q : Nat => s.heap.size ≤ q) s.heap H locs → W p l e room_1 s m #[Value.ref b] below meth c H locs 600130 7301080 (lw_Z below #[Value.ref b] s) (F0 m 1356 ls [.int (nI 1)]) := by
    intro H locs ls hS
    refine va_forget (fun q hq => hS.2.2 q hq) ?_
    rw [show nI 1 = 1 from by decide]
    exact W.base (lw_ret (d0 := s.drawn) (Drawn.sameBut.refl s.drawn lw_cs) hx hb hr hlocks dL_law_1356)
  have hl := lv_entry ([.ref b]) (n := 34) (Nat.le_of_ble_eq_true rfl)
  rw [lg_entry_eq]
  generalize (lg_sl ([.ref b]) ++ List.replicate (34 - (lg_sl ([.ref b])).length) Slot.unset).toArray = ls at hl ⊢
  have hl : lv_has ls 34 [(0, .ref b)] := hl
  refine k_newo (ci := 3) (fs := [.null, .null]) F inlX3 tyX3 tyX3_ok (List.mem_of_getElem? (i := 0) rfl) (List.mem_of_getElem? (i := 1) rfl) (List.mem_of_getElem? (i := 2) rfl) hKC.1.1 hP hD hS hA rfl (fun j hj => by rcases (show j = 0 ∨ j = 1 by omega) with rfl | rfl <;> rfl) ⟨Nat.le_of_ble_eq_true rfl, Nat.le_of_ble_eq_true rfl⟩ dL_law_0 (fun q0 H hP8 hD8 hS => ?_)
  have hP8 : va_P D vwCl [(q0, .inr (3, [.null, .null]))] H := hP8
  have hD8 : va_D (fun q : Nat => s.heap.size ≤ q) [(q0, .inr (3, [.null, .null]))] := hD8
  refine lv_dup hx hb dL_law_3 rfl ?_
  refine k_ctorI (rest := [.ref q0]) F (c_X3_init l D cI q0) gL_law_X3_init (List.mem_of_getElem? (i := 11) rfl) (List.mem_of_getElem? (i := 2) rfl) (List.mem_of_getElem? (i := 12) rfl) rfl rfl (by decide +kernel) ⟨Nat.le_of_ble_eq_true rfl, Nat.le_of_ble_eq_true rfl⟩ hl.1 rfl (Nat.le_of_ble_eq_true rfl) dL_law_4 ⟨Nat.le_of_ble_eq_true rfl, Nat.le_of_ble_eq_true rfl⟩ hKC hP8 hD8 hS hA [0] [] [] rfl rfl rfl rfl (by decide) (fun a1 H locs hw1 hP9 hD9 hS => ?_)
  subst hw1
  have hP : va_P D vwCl (wCo cI a1 (fun k => a1 (100 + k)) S0 S0) H := hP9
  have hD : va_D (fun q : Nat => s.heap.size ≤ q) (wCo cI a1 (fun k => a1 (100 + k)) S0 S0) := hD9
  generalize (fun k => a1 (100 + k)) = b1 at hP hD
  refine lv_astore_n (lv' := [(1, .ref (a1 13)), (0, .ref b)]) hx hb dL_law_7 rfl hl (by decide) rfl (fun ls hl => ?_)
  refine lv_aload_n hx hb dL_law_8 rfl (lv_at hl 0 rfl) ?_
  refine lv_aload_n hx hb dL_law_9 rfl (lv_at hl 1 rfl) ?_
  refine x_build (rest := []) F (c_L_build l D cI cA hst a1 b1 b L xs hL) gL_law_L_build ⟨Nat.le_of_ble_eq_true rfl, Nat.le_of_ble_eq_true rfl⟩ hl.1 (Nat.le_of_ble_eq_true rfl) dL_law_10 ⟨Nat.le_of_ble_eq_true rfl, Nat.le_of_ble_eq_true rfl⟩ hKB hKXA hP hD hS hA hX hbl hbA (fun z S H locs hLI hB hP hD hS => ?_)
  refine lv_astore_n (lv' := [(2, .ref (z 0)), (1, .ref (a1 13)), (0, .ref b)]) hx hb dL_law_13 rfl hl (by decide) rfl (fun ls hl => ?_)
  refine lv_aload_n hx hb dL_law_14 rfl (lv_at hl 0 rfl) ?_
  refine lv_ifnonnull (tgt := 20) hx hb dL_law_15 (by decide) ?_
  refine lv_iconst (v := nI 0) hx hb dL_law_20 (by decide) ?_
  refine lv_istore_n (lv' := [(3, .int (nI 0)), (2, .ref (z 0)), (1, .ref (a1 13)), (0, .ref b)]) hx hb dL_law_21 rfl hl (by decide) rfl (fun ls hl => ?_)
  exact l_loop F hst hKB.1 hKXA hA hL hX hbl hbA kx 37 0 (by omega) (by omega) _ _ (by omega) (by omega) z S rfl hLI (by omega) H locs ls hP hD hS hl
