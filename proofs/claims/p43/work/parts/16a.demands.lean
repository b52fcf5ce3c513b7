theorem nX3_demandIndex_g : ∀ x ∈ Cond.classLink RX3 262 "java/lang/IndexOutOfBoundsException" :: Cond.initialized "java/lang/IndexOutOfBoundsException" :: vx_atS RX3 266 "java/lang/IndexOutOfBoundsException" ["java/lang/RuntimeException", "java/lang/Exception"], vx_ot x = true := List.all_eq_true.mp (by decide +kernel)
theorem nX3_demandIndex_b : ∀ x ∈ (vx_atS RX3 266 "java/lang/IndexOutOfBoundsException" ["java/lang/RuntimeException", "java/lang/Exception"]).filter (fun x => !goodWord x), x ∈ [Cond.castable "java/lang/IndexOutOfBoundsException" "java/lang/IndexOutOfBoundsException", Cond.declares ⟨"java/lang/RuntimeException", "<init>", "(Ljava/lang/String;)V"⟩, Cond.declares ⟨"java/lang/Exception", "<init>", "(Ljava/lang/String;)V"⟩, Cond.declares ⟨"java/lang/Throwable", "<init>", "(Ljava/lang/String;)V"⟩] := by decide +kernel
set_option maxRecDepth 100000 in
set_option maxHeartbeats 4000000 in
theorem c_X3_demandIndex (l : Launch) (D : va_G) (cI : ClassId) (hst : l.stackTraces = false) (b : Prop) [Decidable b] : TD l yX3_demandIndex wsX3_demandIndex 6 95 D [(cI, .int)] [.int (bI b)] [] b "java/lang/IndexOutOfBoundsException" := by
  refine k_bodyT (cc := cX3_demandIndex) (maxL := 1) (ret := none) (by decide) rfl (Nat.le_of_ble_eq_true rfl) ?_
  intro p e s m args below meth c ls F hr hlk hl hP hK hD hX ht
  have F : CallFix p m c cX3_demandIndex 1 s args wsX3_demandIndex RX3 := F
  have hl : lv_has ls 1 [(0, .int (bI b))] := hl
  refine lv_iload_n F.1 F.2.1 dX3_demandIndex_0 rfl (lv_at hl 0 rfl) ?_
  refine k_ifne_b (tgt := 15) F dX3_demandIndex_1 (by decide) (fun h1 => ?_) (fun h1 => ?_)
  · exact t_retV F hr hlk va_S.rf h1 (by decide) (by decide) dX3_demandIndex_15
  · exact t_thr (own := RX3) (text := "there is no such gate, goose or visitor") (names := ["java/lang/RuntimeException", "java/lang/Exception"]) (ik := 262) (is := 264) (ic := 266) F hst h1 (by decide +kernel) (by decide +kernel) (List.mem_of_getElem? (i := 1) rfl) (List.mem_of_getElem? (i := 2) rfl) hX.2.2.1
      (vx_hat (fun x hx => F.2.2.2.2 x (List.mem_cons_of_mem _ (List.mem_append_right _ hx))) nX3_demandIndex_b (vx_c (va_Nw.use rfl hX.2.2.2.2.2.1) (vx_c (va_Nw.use rfl hX.2.2.2.2.2.2.2.2.1) (vx_c (va_Nw.use rfl hX.2.2.2.2.2.2.2.2.2.1) (vx_c (va_Nw.use rfl hX.2.2.2.2.2.2.2.2.2.2) vx_n))))) nX3_demandIndex_g hX va_S.rf hl.1 dX3_demandIndex_4 dX3_demandIndex_7 dX3_demandIndex_8 dX3_demandIndex_11 dX3_demandIndex_14 ht (by decide) (by decide) (by decide) (by decide) hlk
theorem nX3_demandArgument_g : ∀ x ∈ Cond.classLink RX3 269 "java/lang/IllegalArgumentException" :: Cond.initialized "java/lang/IllegalArgumentException" :: vx_atS RX3 273 "java/lang/IllegalArgumentException" ["java/lang/RuntimeException", "java/lang/Exception"], vx_ot x = true := List.all_eq_true.mp (by decide +kernel)
theorem nX3_demandArgument_b : ∀ x ∈ (vx_atS RX3 273 "java/lang/IllegalArgumentException" ["java/lang/RuntimeException", "java/lang/Exception"]).filter (fun x => !goodWord x), x ∈ [Cond.castable "java/lang/IllegalArgumentException" "java/lang/IllegalArgumentException", Cond.declares ⟨"java/lang/RuntimeException", "<init>", "(Ljava/lang/String;)V"⟩, Cond.declares ⟨"java/lang/Exception", "<init>", "(Ljava/lang/String;)V"⟩, Cond.declares ⟨"java/lang/Throwable", "<init>", "(Ljava/lang/String;)V"⟩] := by decide +kernel
set_option maxRecDepth 100000 in
set_option maxHeartbeats 4000000 in
theorem c_X3_demandArgument (l : Launch) (D : va_G) (cI : ClassId) (hst : l.stackTraces = false) (b : Prop) [Decidable b] : TD l yX3_demandArgument wsX3_demandArgument 6 95 D [(cI, .int)] [.int (bI b)] [] b "java/lang/IllegalArgumentException" := by
  refine k_bodyT (cc := cX3_demandArgument) (maxL := 1) (ret := none) (by decide) rfl (Nat.le_of_ble_eq_true rfl) ?_
  intro p e s m args below meth c ls F hr hlk hl hP hK hD hX ht
  have F : CallFix p m c cX3_demandArgument 1 s args wsX3_demandArgument RX3 := F
  have hl : lv_has ls 1 [(0, .int (bI b))] := hl
  refine lv_iload_n F.1 F.2.1 dX3_demandArgument_0 rfl (lv_at hl 0 rfl) ?_
  refine k_ifne_b (tgt := 15) F dX3_demandArgument_1 (by decide) (fun h1 => ?_) (fun h1 => ?_)
  · exact t_retV F hr hlk va_S.rf h1 (by decide) (by decide) dX3_demandArgument_15
  · exact t_thr (own := RX3) (text := "a number is outside its bounds") (names := ["java/lang/RuntimeException", "java/lang/Exception"]) (ik := 269) (is := 271) (ic := 273) F hst h1 (by decide +kernel) (by decide +kernel) (List.mem_of_getElem? (i := 1) rfl) (List.mem_of_getElem? (i := 2) rfl) hX.2.2.2.1
      (vx_hat (fun x hx => F.2.2.2.2 x (List.mem_cons_of_mem _ (List.mem_append_right _ hx))) nX3_demandArgument_b (vx_c (va_Nw.use rfl hX.2.2.2.2.2.2.1) (vx_c (va_Nw.use rfl hX.2.2.2.2.2.2.2.2.1) (vx_c (va_Nw.use rfl hX.2.2.2.2.2.2.2.2.2.1) (vx_c (va_Nw.use rfl hX.2.2.2.2.2.2.2.2.2.2) vx_n))))) nX3_demandArgument_g hX va_S.rf hl.1 dX3_demandArgument_4 dX3_demandArgument_7 dX3_demandArgument_8 dX3_demandArgument_11 dX3_demandArgument_14 ht (by decide) (by decide) (by decide) (by decide) hlk
theorem nX3_demandState_g : ∀ x ∈ Cond.classLink RX3 274 "java/lang/IllegalStateException" :: Cond.initialized "java/lang/IllegalStateException" :: vx_atS RX3 278 "java/lang/IllegalStateException" ["java/lang/RuntimeException", "java/lang/Exception"], vx_ot x = true := List.all_eq_true.mp (by decide +kernel)
theorem nX3_demandState_b : ∀ x ∈ (vx_atS RX3 278 "java/lang/IllegalStateException" ["java/lang/RuntimeException", "java/lang/Exception"]).filter (fun x => !goodWord x), x ∈ [Cond.castable "java/lang/IllegalStateException" "java/lang/IllegalStateException", Cond.declares ⟨"java/lang/RuntimeException", "<init>", "(Ljava/lang/String;)V"⟩, Cond.declares ⟨"java/lang/Exception", "<init>", "(Ljava/lang/String;)V"⟩, Cond.declares ⟨"java/lang/Throwable", "<init>", "(Ljava/lang/String;)V"⟩] := by decide +kernel
set_option maxRecDepth 100000 in
set_option maxHeartbeats 4000000 in
theorem c_X3_demandState (l : Launch) (D : va_G) (cI : ClassId) (hst : l.stackTraces = false) (b : Prop) [Decidable b] : TD l yX3_demandState wsX3_demandState 6 95 D [(cI, .int)] [.int (bI b)] [] b "java/lang/IllegalStateException" := by
  refine k_bodyT (cc := cX3_demandState) (maxL := 1) (ret := none) (by decide) rfl (Nat.le_of_ble_eq_true rfl) ?_
  intro p e s m args below meth c ls F hr hlk hl hP hK hD hX ht
  have F : CallFix p m c cX3_demandState 1 s args wsX3_demandState RX3 := F
  have hl : lv_has ls 1 [(0, .int (bI b))] := hl
  refine lv_iload_n F.1 F.2.1 dX3_demandState_0 rfl (lv_at hl 0 rfl) ?_
  refine k_ifne_b (tgt := 15) F dX3_demandState_1 (by decide) (fun h1 => ?_) (fun h1 => ?_)
  · exact t_retV F hr hlk va_S.rf h1 (by decide) (by decide) dX3_demandState_15
  · exact t_thr (own := RX3) (text := "this can't be done as all is now") (names := ["java/lang/RuntimeException", "java/lang/Exception"]) (ik := 274) (is := 276) (ic := 278) F hst h1 (by decide +kernel) (by decide +kernel) (List.mem_of_getElem? (i := 1) rfl) (List.mem_of_getElem? (i := 2) rfl) hX.2.2.2.2.1
      (vx_hat (fun x hx => F.2.2.2.2 x (List.mem_cons_of_mem _ (List.mem_append_right _ hx))) nX3_demandState_b (vx_c (va_Nw.use rfl hX.2.2.2.2.2.2.2.1) (vx_c (va_Nw.use rfl hX.2.2.2.2.2.2.2.2.1) (vx_c (va_Nw.use rfl hX.2.2.2.2.2.2.2.2.2.1) (vx_c (va_Nw.use rfl hX.2.2.2.2.2.2.2.2.2.2) vx_n))))) nX3_demandState_g hX va_S.rf hl.1 dX3_demandState_4 dX3_demandState_7 dX3_demandState_8 dX3_demandState_11 dX3_demandState_14 ht (by decide) (by decide) (by decide) (by decide) hlk
