/-! constructors -/
def KC (D : va_G) (tys : List (ClassId × FieldType)) (U : State) : Prop := KK D tys U ∧ va_Nw (.methodLinkNest RX0 17 yX1_init "GooseCodex") U ∧ va_Nw (.methodLinkNest RX0 24 yX2_init "GooseCodex") U ∧ va_Nw (.methodLinkNest RX3 9 yX0_init "GooseCodex") U
theorem KC.moved {D : va_G} {tys : List (ClassId × FieldType)} {s U : State} (hW : s.WarmedH U.vm) (h : KC D tys s) : KC D tys U := ⟨h.1.moved hW, va_Nw.warmM hW h.2.1, va_Nw.warmM hW h.2.2.1, va_Nw.warmM hW h.2.2.2⟩
theorem KC.call {D : va_G} {tys : List (ClassId × FieldType)} {U : State} {g : JFrame} {mk : MethodId} {a : Array Value} (h : KC D tys U) : KC D tys (U.calling g mk a) := ⟨h.1.call, va_Nw.same (u := U) (U := U.calling g mk a) rfl rfl h.2.1, va_Nw.same (u := U) (U := U.calling g mk a) rfl rfl h.2.2.1, va_Nw.same (u := U) (U := U.calling g mk a) rfl rfl h.2.2.2⟩
/-- the state of nothing -/
def S0 : Nat → Nat → Nat := fun _ _ => 0
def GC (l : Launch) (y : MethodName) (ws : List Cond) (fr mc ms lo : Nat) (D : va_G) (tys : List (ClassId × FieldType)) (h0 : Nat) (e0 : va_E) (X : (Nat → Nat) → va_W) (k0 : Nat) : Prop :=
  ∀ sz : Nat, Met l y ws (rmG fr mc ms lo) (va_Pc [.ref h0] (fun U => U.heap.size = sz ∧ va_P D vwCl [(h0, e0)] U.heap ∧ KC D tys U ∧ va_D (fun _ => True) [(h0, e0)])) (va_Qv (fun a : Nat → Nat => a k0 = h0) (fun a t => va_P D vwCl (X a) t.heap ∧ va_D (va_A [(h0, e0)] sz) (X a)) (va_A [(h0, e0)] sz)) mc ms (va_A [(h0, e0)] sz)
section
variable {l : Launch} {y : MethodName} {ws ws' : List Cond} {fr mc ms lo : Nat} {D : va_G} {tys : List (ClassId × FieldType)} {av : List Value} {w : va_W} {cc : ByteArray} {maxL : Nat} {ret : Option FieldType} {Qc : Array Value → State → Outcome → State → Prop} {free : Addr → Prop}
theorem blindC {sz : Nat} : FrameBlind (va_Pc av (fun U => U.heap.size = sz ∧ va_P D vwCl w U.heap ∧ KC D tys U ∧ va_D (fun _ => True) w)) := fun a U g mk q => ⟨q.1, q.2.1, q.2.2.1, KC.call q.2.2.2.1, q.2.2.2.2⟩
theorem k_bodyC {sz : Nat} (hy : plainName y.cls = true) (hw : ws = Cond.code y cc maxL ret :: ws') (hav : (lg_sl av).length ≤ maxL)
    (body : ∀ p e s m args below meth c H ls, s.heap.size = sz → CallFix p m c cc maxL s args ws y.cls → meth.sig.returnType = ret → meth.locks = false → meth.name = y.name → lv_has ls maxL (lv_args 0 av) → va_P D vwCl w H → KC D tys s → va_D (va_A w sz) w → va_S (va_A w sz) s.heap H [] →
      W p l e (rmG fr mc ms lo) s m args below meth c H [] 0 0 (MQ below Qc args s mc ms free) (F0 m 0 ls [])) :
    Met l y ws (rmG fr mc ms lo) (va_Pc av (fun U => U.heap.size = sz ∧ va_P D vwCl w U.heap ∧ KC D tys U ∧ va_D (fun _ => True) w)) Qc mc ms free := by
  refine Met.ofW (cc := cc) (maxL := maxL) (ret := ret) hy hw ?_
  intro p e s m args below meth c s₁ B hml hv
  obtain ⟨rfl, hz, hP, hK, hD⟩ := hv
  have hl := lv_entry av (n := maxL) hav
  rw [lg_entry_eq]
  exact body p e s m _ below meth c s.heap _ hz ⟨B.exec, B.bytes, hml, findClass_of_methodNamed B.named, atoms_spec (ws := ws) B.pre⟩ B.returns B.notSynchronized (name_of_methodNamed B.named B.method).1 hl hP hK hD.self va_S.rf
end
section
variable {p : Program} {l : Launch} {e : Env} {R : Room} {s : State} {m : MethodId} {args : Array Value} {below : List Frame} {meth : Method} {c : Code} {H : Heap} {locs : List Loc} {cells slots : Nat} {Q : State → Prop}
variable {cc : ByteArray} {pc nL : Nat} {ls : Array Slot} {rest st0 : List Value} {D : va_G} {A A0 : Nat → Prop} {a : Nat} {tys tysC : List (ClassId × FieldType)} {w : va_W} {H0 : Heap} {Ts : List Cond} {own : String}
variable {y : MethodName} {bytes : ByteArray} {maxL fr lo mc ms mcY msY index : Nat} {ws ws' : List Cond} {b : Nat}
theorem k_putF (S : CallFix p m c cc nL s args Ts own) {C : String} {T : u_T} {N ci : Nat} (hin : ∀ x ∈ u_ws C T N, x ∈ Ts) (ty0 : Nat → FieldType) (hty : ∀ k, k < N → parseFieldDescriptor (T k).2.2.1 = some (ty0 k)) (hnm : ∀ a, a < N → ∀ b, b < N → a ≠ b → (T a).2.1 ≠ (T b).2.1) (hK : va_K D vwCl tys s) (hP : va_P D vwCl w H) (hD : va_D A w) (hS : va_S A H0 H locs) (q0 : Nat) {fs : List Value} (he : w[q0]? = some (a, .inr (ci, fs))) (hc : vwCl[ci]? = some (C, T, N)) (k : Nat) (hk : k < N) (hm : Cond.fieldLink own index (T k).1 (T k).2.1 (T k).2.2.1 ∈ Ts) (hfin : (T k).2.2.2 = true) (hin2 : meth.name = "<init>") (hdecl : (T k).1 = own) {ty : FieldType} {v : Value} (hd : parseFieldDescriptor (T k).2.2.1 = some ty) (hn : narrow ty v = v) (hfit : fits ty v = true) (hl : k < fs.length)
    (hdg : decode cc pc = .ok (.putfield index, 3)) (w' : va_W) (hw : w.set q0 (a, .inr (ci, fs.set k v)) = w') (kk : ∀ (H1 : Heap) (locs1 : List Loc), va_P D vwCl w' H1 → va_D A w' → va_S A H0 H1 locs1 → W p l e R s m args below meth c H1 locs1 cells slots Q (F0 m (pc + 3) ls rest)) : W p l e R s m args below meth c H locs cells slots Q (F0 m pc ls (v :: .ref a :: rest)) :=
  va_putF S.1 S.2.1 S.2.2.2.2 hin ty0 hty hnm S.2.2.2.1 hK hP hD hS q0 he hc k hk (S.2.2.2.2 _ hm) (fun _ h => h) hfin hin2 hdecl hd hn hfit hl hdg (fun H1 locs1 h1 h2 h3 => by
    rw [hw] at h1 h2
    exact kk H1 locs1 h1 h2 h3)
theorem k_newo (S : CallFix p m c cc nL s args Ts own) {C : String} {T : u_T} {N ci : Nat} (hin : ∀ x ∈ u_ws C T N, x ∈ Ts) (ty : Nat → FieldType) (hty : ∀ k, k < N → parseFieldDescriptor (T k).2.2.1 = some (ty k)) (hcl : Cond.classLink own index C ∈ Ts) (hinst : Cond.instantiable C N ∈ Ts) (hini : Cond.initialized C ∈ Ts)
    (hK : va_K D vwCl tys s) (hP : va_P D vwCl w H) (hD : va_D A w) (hS : va_S A H0 H locs) (hA : ∀ q, H0.size ≤ q → A q) (hc : vwCl[ci]? = some (C, T, N)) {fs : List Value} (hfs : ∀ j, j < N → defaultValue (ty j) = vp_V fs j) (hf : cells + 1 ≤ R.cells ∧ slots + N ≤ R.slots) (hdg : decode cc pc = .ok (.new index, 3))
    (kk : ∀ (q : Nat) (H1 : Heap), va_P D vwCl (w ++ [(q, .inr (ci, fs))]) H1 → va_D A (w ++ [(q, .inr (ci, fs))]) → va_S A H0 H1 locs → W p l e R s m args below meth c H1 locs (cells + 1) (slots + N) Q (F0 m (pc + 3) ls (.ref q :: rest))) : W p l e R s m args below meth c H locs cells slots Q (F0 m pc ls rest) :=
  va_new S.1 S.2.1 S.2.2.2.2 hin ty hty S.2.2.2.1 (S.2.2.2.2 _ hcl) (S.2.2.2.2 _ hinst) (S.2.2.2.2 _ hini) hK hP hD hS hA hc hfs hf.1 hf.2 hdg kk
theorem k_oinit (S : CallFix p m c cc nL s args Ts own) (hsize : ls.size = nL) (m1 : Cond.methodLink own index Lib.objectInit ∈ Ts) (m2 : Cond.instanceMethod Lib.objectInit ∈ Ts) (m3 : Cond.code Lib.objectInit ⟨#[0xb1]⟩ 1 none ∈ Ts) (hdg : decode cc pc = .ok (.invokespecial index, 3)) (hframes : 1 ≤ R.frames) (hlocals : (rest.map fun v => v.category).sum + 12 ≤ R.locals)
    (kk : W p l e R s m args below meth c H locs cells slots Q (F0 m (pc + 3) ls rest)) : W p l e R s m args below meth c H locs cells slots Q (F0 m pc ls (.ref a :: rest)) := by
  have e0 : (F0 m pc ls (.ref a :: rest)).monitorRoom = 0 := rfl
  have h0 : 2 * (F0 m pc ls (.ref a :: rest)).monitorRoom + (rest.map fun v => v.category).sum + 12 ≤ R.locals := by
    rw [e0]
    omega
  exact W.objInit S.1 S.2.1 S.2.2.2.1 (S.2.2.2.2 _ m1) (S.2.2.2.2 _ m2) (S.2.2.2.2 _ m3) rfl (hsize.trans S.2.2.1.symm) rfl hdg hframes h0 kk
theorem k_retC (S : CallFix p m c cc nL s args Ts own) {e0 : va_E} {h0 k0 sz : Nat} {X : (Nat → Nat) → va_W} (hr : meth.sig.returnType = none) (hlk : meth.locks = false) (a9 : Nat → Nat) (ha : a9 k0 = h0) (hP : va_P D vwCl (X a9) H) (hD : va_D (va_A [(h0, e0)] sz) (X a9)) (hS : va_S (va_A [(h0, e0)] sz) s.heap H locs) (hcm : cells ≤ mc) (hsm : slots ≤ ms) (hdg : decode cc pc = .ok (.return_, 1)) :
    W p l e R s m args below meth c H locs cells slots (MQ below (va_Qv (fun a : Nat → Nat => a k0 = h0) (fun a t => va_P D vwCl (X a) t.heap ∧ va_D (va_A [(h0, e0)] sz) (X a)) (va_A [(h0, e0)] sz)) args s mc ms (va_A [(h0, e0)] sz)) (F0 m pc ls []) :=
  W.widen hcm hsm (W.vret S.1 S.2.1 hr (fun t ht hW => ⟨⟨a9, rfl, ha, by rw [ht]; exact hP, hD⟩, hS.F ht⟩) hS.2.2 hdg hlk)
/-- a constructor of a nest mate -/
theorem k_ctorN (S : CallFix p m c cc nL s args Ts own) {host : String} {e0 : va_E} {X : (Nat → Nat) → va_W} {k0 : Nat} (hM : GC l y ws fr mcY msY lo D tysC b e0 X k0) (hG : GoodIn Ts ws) (hN : va_Nw (.methodLinkNest own index y host) s) (hini : Cond.initialized y.cls ∈ Ts) (hin : Cond.instanceMethod y ∈ Ts) (hy1 : y.name = "<init>") (hw : ws = Cond.code y bytes maxL none :: ws')
    (hd : y.cls ≠ "java/lang/invoke/MethodHandle" ∧ y.cls ≠ "java/lang/invoke/VarHandle" ∧ (parseMethodDescriptor y.desc).map (fun d => d.parameters.length) = some 0) (hR : fr + 1 ≤ R.frames ∧ 8 + (maxL + 11) + lo ≤ R.locals)
    (hsize : ls.size = nL) (hstack : st0 = .ref b :: rest) (hc8 : (rest.map fun v => v.category).sum ≤ 8) (hdg : decode cc pc = .ok (.invokespecial index, 3)) (hf : cells + mcY ≤ R.cells ∧ slots + msY ≤ R.slots)
    (hK : KC D tysC s) (hP : va_P D vwCl w H) (hD : va_D A0 w) (hS : va_S A0 s.heap H locs) (hA : ∀ q, s.heap.size ≤ q → A0 q) (isC isR : List Nat) (wr : va_W) (hC : isC.map (fun i => w[i]?) = ([(b, e0)] : va_W).map some) (hnd : va_nd isC = true) (hRr : isR.map (fun i => w[i]?) = wr.map some) (hn : va_nd isR = true) (hdis : ∀ i ∈ isR, i ∉ isC)
    (kk : ∀ (a9 : Nat → Nat) (H1 : Heap) (locs1 : List Loc), a9 k0 = b → va_P D vwCl (wr ++ X a9) H1 → va_D A0 (wr ++ X a9) → va_S A0 s.heap H1 locs1 → W p l e R s m args below meth c H1 locs1 (cells + mcY) (slots + msY) Q (F0 m (pc + 3) ls rest)) : W p l e R s m args below meth c H locs cells slots Q (F0 m pc ls st0) := by
  have hPc := sub_at hP isC hC
  have hDc := subD_at hD isC hnd hC
  have hFc := va_free (wc := [(b, e0)]) hD hS hA isC hC
  refine va_callv (va_runIN (As := []) (rest := rest) S (hM H.size) ⟨va_cnB 0 S.2.2.2.2 hG hw rfl rfl hN (S.2.2.2.2 _ hini) hd hR, hy1, S.2.2.2.2 _ hin⟩ ⟨blindC, fun U hU hW => ⟨rfl, by rw [hU], by rw [hU]; exact hPc, KC.moved hW hK, hDc.weaken (fun _ _ _ _ => trivial)⟩⟩ rfl rfl hsize hstack (lv_room hc8) hdg hf) hS (fun q _ h => hFc q h) hFc (fun u t H1 locs1 ht hvm hw1 hB hz1 hk1 hS => ?_)
  obtain ⟨hP1, hD1⟩ := hB
  rw [ht] at hP1
  obtain ⟨hP, hD⟩ := va_join (wr := wr) (w1 := X u) hP hD isC isR hC hRr hn hdis hk1 hFc hP1 hD1
  exact kk u H1 locs1 hw1 hP hD hS
/-- a constructor of another class -/
theorem k_ctorI (S : CallFix p m c cc nL s args Ts own) {e0 : va_E} {X : (Nat → Nat) → va_W} {k0 : Nat} (hM : GC l y ws fr mcY msY lo D tysC b e0 X k0) (hG : GoodIn Ts ws) (hm : Cond.methodLink own index y ∈ Ts) (hini : Cond.initialized y.cls ∈ Ts) (hin : Cond.instanceMethod y ∈ Ts) (hy1 : y.name = "<init>") (hw : ws = Cond.code y bytes maxL none :: ws')
    (hd : y.cls ≠ "java/lang/invoke/MethodHandle" ∧ y.cls ≠ "java/lang/invoke/VarHandle" ∧ (parseMethodDescriptor y.desc).map (fun d => d.parameters.length) = some 0) (hR : fr + 1 ≤ R.frames ∧ 8 + (maxL + 11) + lo ≤ R.locals)
    (hsize : ls.size = nL) (hstack : st0 = .ref b :: rest) (hc8 : (rest.map fun v => v.category).sum ≤ 8) (hdg : decode cc pc = .ok (.invokespecial index, 3)) (hf : cells + mcY ≤ R.cells ∧ slots + msY ≤ R.slots)
    (hK : KC D tysC s) (hP : va_P D vwCl w H) (hD : va_D A0 w) (hS : va_S A0 s.heap H locs) (hA : ∀ q, s.heap.size ≤ q → A0 q) (isC isR : List Nat) (wr : va_W) (hC : isC.map (fun i => w[i]?) = ([(b, e0)] : va_W).map some) (hnd : va_nd isC = true) (hRr : isR.map (fun i => w[i]?) = wr.map some) (hn : va_nd isR = true) (hdis : ∀ i ∈ isR, i ∉ isC)
    (kk : ∀ (a9 : Nat → Nat) (H1 : Heap) (locs1 : List Loc), a9 k0 = b → va_P D vwCl (wr ++ X a9) H1 → va_D A0 (wr ++ X a9) → va_S A0 s.heap H1 locs1 → W p l e R s m args below meth c H1 locs1 (cells + mcY) (slots + msY) Q (F0 m (pc + 3) ls rest)) : W p l e R s m args below meth c H locs cells slots Q (F0 m pc ls st0) := by
  have hPc := sub_at hP isC hC
  have hDc := subD_at hD isC hnd hC
  have hFc := va_free (wc := [(b, e0)]) hD hS hA isC hC
  refine va_callv (va_runI (As := []) (rest := rest) S (hM H.size) (cwI 0 S.2.2.2.2 hG hw rfl rfl (S.2.2.2.2 _ hini) (S.2.2.2.2 _ hm) (S.2.2.2.2 _ hin) hy1 hd hR) ⟨blindC, fun U hU hW => ⟨rfl, by rw [hU], by rw [hU]; exact hPc, KC.moved hW hK, hDc.weaken (fun _ _ _ _ => trivial)⟩⟩ rfl rfl hsize hstack (lv_room hc8) hdg hf) hS (fun q _ h => hFc q h) hFc (fun u t H1 locs1 ht hvm hw1 hB hz1 hk1 hS => ?_)
  obtain ⟨hP1, hD1⟩ := hB
  rw [ht] at hP1
  obtain ⟨hP, hD⟩ := va_join (wr := wr) (w1 := X u) hP hD isC isR hC hRr hn hdis hk1 hFc hP1 hD1
  exact kk u H1 locs1 hw1 hP hD hS
end
theorem nX1_init_X1 : ∀ x ∈ wsX10, x ∈ wsX1_init := fun _ h => List.mem_cons_of_mem _ (List.mem_append_right _ h)
set_option maxRecDepth 100000 in
set_option maxHeartbeats 4000000 in
theorem c_X1_init (l : Launch) (D : va_G) (cI : ClassId) (h0 : Nat) : GC l yX1_init wsX1_init 1 4 32 20 D [(cI, .int)] h0 (.inr (1, [.int 0, .null, .null, .null, .null])) (fun a => wFl cI a S0) 2 := by
  intro sz
  refine k_bodyC (cc := cX1_init) (maxL := 1) (ret := none) (by decide) rfl (Nat.le_of_ble_eq_true rfl) ?_
  intro p e s m args below meth c H ls hz F hr hlk hin hl hP hK hD hS
  have F : CallFix p m c cX1_init 1 s args wsX1_init RX1 := F
  have hl : lv_has ls 1 [(0, .ref h0)] := hl
  refine lv_aload_n F.1 F.2.1 dX1_init_0 rfl (lv_at hl 0 rfl) ?_
  refine k_oinit F hl.1 (List.mem_of_getElem? (i := 1) rfl) (List.mem_of_getElem? (i := 2) rfl) (List.mem_of_getElem? (i := 3) rfl) dX1_init_1 (Nat.le_of_ble_eq_true rfl) (Nat.le_of_ble_eq_true rfl) ?_
  refine lv_aload_n F.1 F.2.1 dX1_init_4 rfl (lv_at hl 0 rfl) ?_
  refine lv_bipush (v := nI 8) F.1 F.2.1 dX1_init_5 (by decide) ?_
  refine k_newa F (List.mem_of_getElem? (i := 4) rfl) hK.1 hP hD hS (fun q h => Or.inr (by omega)) (k := 8) (by decide) ⟨Nat.le_of_ble_eq_true rfl, Nat.le_of_ble_eq_true rfl⟩ dX1_init_7 (fun q7 H hP hD hS => ?_)
  have hP : va_P D vwCl ([(h0, .inr (1, [.int 0, .null, .null, .null, .null]))] ++ [(q7, .inl (cI, 8, .inl (row (fun _ => 0))))]) H := hP
  have hD : va_D (va_A [(h0, .inr (1, [.int 0, .null, .null, .null, .null]))] sz) ([(h0, .inr (1, [.int 0, .null, .null, .null, .null]))] ++ [(q7, .inl (cI, 8, .inl (row (fun _ => 0))))]) := hD
  refine k_putF (v := .ref q7) (ty := .array .int) F nX1_init_X1 tyX1 tyX1_ok nmX1 hK.1.1 hP hD hS 0 rfl rfl 1 (by decide) (List.mem_of_getElem? (i := 5) rfl) rfl hin rfl (by decide +kernel) rfl rfl (Nat.le_of_ble_eq_true rfl) dX1_init_9 ([(h0, .inr (1, [.int 0, .ref q7, .null, .null, .null]))] ++ [(q7, .inl (cI, 8, .inl (row (fun _ => 0))))]) rfl (fun H locs hP hD hS => ?_)
  refine lv_aload_n F.1 F.2.1 dX1_init_12 rfl (lv_at hl 0 rfl) ?_
  refine lv_bipush (v := nI 8) F.1 F.2.1 dX1_init_13 (by decide) ?_
  refine k_newa F (List.mem_of_getElem? (i := 4) rfl) hK.1 hP hD hS (fun q h => Or.inr (by omega)) (k := 8) (by decide) ⟨Nat.le_of_ble_eq_true rfl, Nat.le_of_ble_eq_true rfl⟩ dX1_init_15 (fun q15 H hP hD hS => ?_)
  have hP : va_P D vwCl (([(h0, .inr (1, [.int 0, .ref q7, .null, .null, .null]))] ++ [(q7, .inl (cI, 8, .inl (row (fun _ => 0))))]) ++ [(q15, .inl (cI, 8, .inl (row (fun _ => 0))))]) H := hP
  have hD : va_D (va_A [(h0, .inr (1, [.int 0, .null, .null, .null, .null]))] sz) (([(h0, .inr (1, [.int 0, .ref q7, .null, .null, .null]))] ++ [(q7, .inl (cI, 8, .inl (row (fun _ => 0))))]) ++ [(q15, .inl (cI, 8, .inl (row (fun _ => 0))))]) := hD
  refine k_putF (v := .ref q15) (ty := .array .int) F nX1_init_X1 tyX1 tyX1_ok nmX1 hK.1.1 hP hD hS 0 rfl rfl 2 (by decide) (List.mem_of_getElem? (i := 6) rfl) rfl hin rfl (by decide +kernel) rfl rfl (Nat.le_of_ble_eq_true rfl) dX1_init_17 (([(h0, .inr (1, [.int 0, .ref q7, .ref q15, .null, .null]))] ++ [(q7, .inl (cI, 8, .inl (row (fun _ => 0))))]) ++ [(q15, .inl (cI, 8, .inl (row (fun _ => 0))))]) rfl (fun H locs hP hD hS => ?_)
  refine lv_aload_n F.1 F.2.1 dX1_init_20 rfl (lv_at hl 0 rfl) ?_
  refine lv_bipush (v := nI 8) F.1 F.2.1 dX1_init_21 (by decide) ?_
  refine k_newa F (List.mem_of_getElem? (i := 4) rfl) hK.1 hP hD hS (fun q h => Or.inr (by omega)) (k := 8) (by decide) ⟨Nat.le_of_ble_eq_true rfl, Nat.le_of_ble_eq_true rfl⟩ dX1_init_23 (fun q23 H hP hD hS => ?_)
  have hP : va_P D vwCl ((([(h0, .inr (1, [.int 0, .ref q7, .ref q15, .null, .null]))] ++ [(q7, .inl (cI, 8, .inl (row (fun _ => 0))))]) ++ [(q15, .inl (cI, 8, .inl (row (fun _ => 0))))]) ++ [(q23, .inl (cI, 8, .inl (row (fun _ => 0))))]) H := hP
  have hD : va_D (va_A [(h0, .inr (1, [.int 0, .null, .null, .null, .null]))] sz) ((([(h0, .inr (1, [.int 0, .ref q7, .ref q15, .null, .null]))] ++ [(q7, .inl (cI, 8, .inl (row (fun _ => 0))))]) ++ [(q15, .inl (cI, 8, .inl (row (fun _ => 0))))]) ++ [(q23, .inl (cI, 8, .inl (row (fun _ => 0))))]) := hD
  refine k_putF (v := .ref q23) (ty := .array .int) F nX1_init_X1 tyX1 tyX1_ok nmX1 hK.1.1 hP hD hS 0 rfl rfl 3 (by decide) (List.mem_of_getElem? (i := 7) rfl) rfl hin rfl (by decide +kernel) rfl rfl (Nat.le_of_ble_eq_true rfl) dX1_init_25 ((([(h0, .inr (1, [.int 0, .ref q7, .ref q15, .ref q23, .null]))] ++ [(q7, .inl (cI, 8, .inl (row (fun _ => 0))))]) ++ [(q15, .inl (cI, 8, .inl (row (fun _ => 0))))]) ++ [(q23, .inl (cI, 8, .inl (row (fun _ => 0))))]) rfl (fun H locs hP hD hS => ?_)
  refine lv_aload_n F.1 F.2.1 dX1_init_28 rfl (lv_at hl 0 rfl) ?_
  refine lv_bipush (v := nI 8) F.1 F.2.1 dX1_init_29 (by decide) ?_
  refine k_newa F (List.mem_of_getElem? (i := 4) rfl) hK.1 hP hD hS (fun q h => Or.inr (by omega)) (k := 8) (by decide) ⟨Nat.le_of_ble_eq_true rfl, Nat.le_of_ble_eq_true rfl⟩ dX1_init_31 (fun q31 H hP hD hS => ?_)
  have hP : va_P D vwCl (((([(h0, .inr (1, [.int 0, .ref q7, .ref q15, .ref q23, .null]))] ++ [(q7, .inl (cI, 8, .inl (row (fun _ => 0))))]) ++ [(q15, .inl (cI, 8, .inl (row (fun _ => 0))))]) ++ [(q23, .inl (cI, 8, .inl (row (fun _ => 0))))]) ++ [(q31, .inl (cI, 8, .inl (row (fun _ => 0))))]) H := hP
  have hD : va_D (va_A [(h0, .inr (1, [.int 0, .null, .null, .null, .null]))] sz) (((([(h0, .inr (1, [.int 0, .ref q7, .ref q15, .ref q23, .null]))] ++ [(q7, .inl (cI, 8, .inl (row (fun _ => 0))))]) ++ [(q15, .inl (cI, 8, .inl (row (fun _ => 0))))]) ++ [(q23, .inl (cI, 8, .inl (row (fun _ => 0))))]) ++ [(q31, .inl (cI, 8, .inl (row (fun _ => 0))))]) := hD
  refine k_putF (v := .ref q31) (ty := .array .int) F nX1_init_X1 tyX1 tyX1_ok nmX1 hK.1.1 hP hD hS 0 rfl rfl 4 (by decide) (List.mem_of_getElem? (i := 8) rfl) rfl hin rfl (by decide +kernel) rfl rfl (Nat.le_of_ble_eq_true rfl) dX1_init_33 (((([(h0, .inr (1, [.int 0, .ref q7, .ref q15, .ref q23, .ref q31]))] ++ [(q7, .inl (cI, 8, .inl (row (fun _ => 0))))]) ++ [(q15, .inl (cI, 8, .inl (row (fun _ => 0))))]) ++ [(q23, .inl (cI, 8, .inl (row (fun _ => 0))))]) ++ [(q31, .inl (cI, 8, .inl (row (fun _ => 0))))]) rfl (fun H locs hP hD hS => ?_)
  exact k_retC F hr hlk (X := fun a => wFl cI a S0) (fun k => if k = 2 then h0 else if k = 3 then q7 else if k = 4 then q15 else if k = 5 then q23 else q31) rfl hP hD hS (Nat.le_of_ble_eq_true rfl) (Nat.le_of_ble_eq_true rfl) dX1_init_36
theorem nX2_init_X2 : ∀ x ∈ wsX20, x ∈ wsX2_init := fun _ h => List.mem_cons_of_mem _ (List.mem_append_right _ h)
set_option maxRecDepth 100000 in
set_option maxHeartbeats 4000000 in
theorem c_X2_init (l : Launch) (D : va_G) (cI : ClassId) (h0 : Nat) : GC l yX2_init wsX2_init 1 5 40 20 D [(cI, .int)] h0 (.inr (2, [.int 0, .null, .null, .null, .null, .null])) (fun a => wGu cI a S0) 7 := by
  intro sz
  refine k_bodyC (cc := cX2_init) (maxL := 1) (ret := none) (by decide) rfl (Nat.le_of_ble_eq_true rfl) ?_
  intro p e s m args below meth c H ls hz F hr hlk hin hl hP hK hD hS
  have F : CallFix p m c cX2_init 1 s args wsX2_init RX2 := F
  have hl : lv_has ls 1 [(0, .ref h0)] := hl
  refine lv_aload_n F.1 F.2.1 dX2_init_0 rfl (lv_at hl 0 rfl) ?_
  refine k_oinit F hl.1 (List.mem_of_getElem? (i := 1) rfl) (List.mem_of_getElem? (i := 2) rfl) (List.mem_of_getElem? (i := 3) rfl) dX2_init_1 (Nat.le_of_ble_eq_true rfl) (Nat.le_of_ble_eq_true rfl) ?_
  refine lv_aload_n F.1 F.2.1 dX2_init_4 rfl (lv_at hl 0 rfl) ?_
  refine lv_bipush (v := nI 8) F.1 F.2.1 dX2_init_5 (by decide) ?_
  refine k_newa F (List.mem_of_getElem? (i := 4) rfl) hK.1 hP hD hS (fun q h => Or.inr (by omega)) (k := 8) (by decide) ⟨Nat.le_of_ble_eq_true rfl, Nat.le_of_ble_eq_true rfl⟩ dX2_init_7 (fun q7 H hP hD hS => ?_)
  have hP : va_P D vwCl ([(h0, .inr (2, [.int 0, .null, .null, .null, .null, .null]))] ++ [(q7, .inl (cI, 8, .inl (row (fun _ => 0))))]) H := hP
  have hD : va_D (va_A [(h0, .inr (2, [.int 0, .null, .null, .null, .null, .null]))] sz) ([(h0, .inr (2, [.int 0, .null, .null, .null, .null, .null]))] ++ [(q7, .inl (cI, 8, .inl (row (fun _ => 0))))]) := hD
  refine k_putF (v := .ref q7) (ty := .array .int) F nX2_init_X2 tyX2 tyX2_ok nmX2 hK.1.1 hP hD hS 0 rfl rfl 1 (by decide) (List.mem_of_getElem? (i := 5) rfl) rfl hin rfl (by decide +kernel) rfl rfl (Nat.le_of_ble_eq_true rfl) dX2_init_9 ([(h0, .inr (2, [.int 0, .ref q7, .null, .null, .null, .null]))] ++ [(q7, .inl (cI, 8, .inl (row (fun _ => 0))))]) rfl (fun H locs hP hD hS => ?_)
  refine lv_aload_n F.1 F.2.1 dX2_init_12 rfl (lv_at hl 0 rfl) ?_
  refine lv_bipush (v := nI 8) F.1 F.2.1 dX2_init_13 (by decide) ?_
  refine k_newa F (List.mem_of_getElem? (i := 4) rfl) hK.1 hP hD hS (fun q h => Or.inr (by omega)) (k := 8) (by decide) ⟨Nat.le_of_ble_eq_true rfl, Nat.le_of_ble_eq_true rfl⟩ dX2_init_15 (fun q15 H hP hD hS => ?_)
  have hP : va_P D vwCl (([(h0, .inr (2, [.int 0, .ref q7, .null, .null, .null, .null]))] ++ [(q7, .inl (cI, 8, .inl (row (fun _ => 0))))]) ++ [(q15, .inl (cI, 8, .inl (row (fun _ => 0))))]) H := hP
  have hD : va_D (va_A [(h0, .inr (2, [.int 0, .null, .null, .null, .null, .null]))] sz) (([(h0, .inr (2, [.int 0, .ref q7, .null, .null, .null, .null]))] ++ [(q7, .inl (cI, 8, .inl (row (fun _ => 0))))]) ++ [(q15, .inl (cI, 8, .inl (row (fun _ => 0))))]) := hD
  refine k_putF (v := .ref q15) (ty := .array .int) F nX2_init_X2 tyX2 tyX2_ok nmX2 hK.1.1 hP hD hS 0 rfl rfl 2 (by decide) (List.mem_of_getElem? (i := 6) rfl) rfl hin rfl (by decide +kernel) rfl rfl (Nat.le_of_ble_eq_true rfl) dX2_init_17 (([(h0, .inr (2, [.int 0, .ref q7, .ref q15, .null, .null, .null]))] ++ [(q7, .inl (cI, 8, .inl (row (fun _ => 0))))]) ++ [(q15, .inl (cI, 8, .inl (row (fun _ => 0))))]) rfl (fun H locs hP hD hS => ?_)
  refine lv_aload_n F.1 F.2.1 dX2_init_20 rfl (lv_at hl 0 rfl) ?_
  refine lv_bipush (v := nI 8) F.1 F.2.1 dX2_init_21 (by decide) ?_
  refine k_newa F (List.mem_of_getElem? (i := 4) rfl) hK.1 hP hD hS (fun q h => Or.inr (by omega)) (k := 8) (by decide) ⟨Nat.le_of_ble_eq_true rfl, Nat.le_of_ble_eq_true rfl⟩ dX2_init_23 (fun q23 H hP hD hS => ?_)
  have hP : va_P D vwCl ((([(h0, .inr (2, [.int 0, .ref q7, .ref q15, .null, .null, .null]))] ++ [(q7, .inl (cI, 8, .inl (row (fun _ => 0))))]) ++ [(q15, .inl (cI, 8, .inl (row (fun _ => 0))))]) ++ [(q23, .inl (cI, 8, .inl (row (fun _ => 0))))]) H := hP
  have hD : va_D (va_A [(h0, .inr (2, [.int 0, .null, .null, .null, .null, .null]))] sz) ((([(h0, .inr (2, [.int 0, .ref q7, .ref q15, .null, .null, .null]))] ++ [(q7, .inl (cI, 8, .inl (row (fun _ => 0))))]) ++ [(q15, .inl (cI, 8, .inl (row (fun _ => 0))))]) ++ [(q23, .inl (cI, 8, .inl (row (fun _ => 0))))]) := hD
  refine k_putF (v := .ref q23) (ty := .array .int) F nX2_init_X2 tyX2 tyX2_ok nmX2 hK.1.1 hP hD hS 0 rfl rfl 3 (by decide) (List.mem_of_getElem? (i := 7) rfl) rfl hin rfl (by decide +kernel) rfl rfl (Nat.le_of_ble_eq_true rfl) dX2_init_25 ((([(h0, .inr (2, [.int 0, .ref q7, .ref q15, .ref q23, .null, .null]))] ++ [(q7, .inl (cI, 8, .inl (row (fun _ => 0))))]) ++ [(q15, .inl (cI, 8, .inl (row (fun _ => 0))))]) ++ [(q23, .inl (cI, 8, .inl (row (fun _ => 0))))]) rfl (fun H locs hP hD hS => ?_)
  refine lv_aload_n F.1 F.2.1 dX2_init_28 rfl (lv_at hl 0 rfl) ?_
  refine lv_bipush (v := nI 8) F.1 F.2.1 dX2_init_29 (by decide) ?_
  refine k_newa F (List.mem_of_getElem? (i := 4) rfl) hK.1 hP hD hS (fun q h => Or.inr (by omega)) (k := 8) (by decide) ⟨Nat.le_of_ble_eq_true rfl, Nat.le_of_ble_eq_true rfl⟩ dX2_init_31 (fun q31 H hP hD hS => ?_)
  have hP : va_P D vwCl (((([(h0, .inr (2, [.int 0, .ref q7, .ref q15, .ref q23, .null, .null]))] ++ [(q7, .inl (cI, 8, .inl (row (fun _ => 0))))]) ++ [(q15, .inl (cI, 8, .inl (row (fun _ => 0))))]) ++ [(q23, .inl (cI, 8, .inl (row (fun _ => 0))))]) ++ [(q31, .inl (cI, 8, .inl (row (fun _ => 0))))]) H := hP
  have hD : va_D (va_A [(h0, .inr (2, [.int 0, .null, .null, .null, .null, .null]))] sz) (((([(h0, .inr (2, [.int 0, .ref q7, .ref q15, .ref q23, .null, .null]))] ++ [(q7, .inl (cI, 8, .inl (row (fun _ => 0))))]) ++ [(q15, .inl (cI, 8, .inl (row (fun _ => 0))))]) ++ [(q23, .inl (cI, 8, .inl (row (fun _ => 0))))]) ++ [(q31, .inl (cI, 8, .inl (row (fun _ => 0))))]) := hD
  refine k_putF (v := .ref q31) (ty := .array .int) F nX2_init_X2 tyX2 tyX2_ok nmX2 hK.1.1 hP hD hS 0 rfl rfl 4 (by decide) (List.mem_of_getElem? (i := 8) rfl) rfl hin rfl (by decide +kernel) rfl rfl (Nat.le_of_ble_eq_true rfl) dX2_init_33 (((([(h0, .inr (2, [.int 0, .ref q7, .ref q15, .ref q23, .ref q31, .null]))] ++ [(q7, .inl (cI, 8, .inl (row (fun _ => 0))))]) ++ [(q15, .inl (cI, 8, .inl (row (fun _ => 0))))]) ++ [(q23, .inl (cI, 8, .inl (row (fun _ => 0))))]) ++ [(q31, .inl (cI, 8, .inl (row (fun _ => 0))))]) rfl (fun H locs hP hD hS => ?_)
  refine lv_aload_n F.1 F.2.1 dX2_init_36 rfl (lv_at hl 0 rfl) ?_
  refine lv_bipush (v := nI 8) F.1 F.2.1 dX2_init_37 (by decide) ?_
  refine k_newa F (List.mem_of_getElem? (i := 4) rfl) hK.1 hP hD hS (fun q h => Or.inr (by omega)) (k := 8) (by decide) ⟨Nat.le_of_ble_eq_true rfl, Nat.le_of_ble_eq_true rfl⟩ dX2_init_39 (fun q39 H hP hD hS => ?_)
  have hP : va_P D vwCl ((((([(h0, .inr (2, [.int 0, .ref q7, .ref q15, .ref q23, .ref q31, .null]))] ++ [(q7, .inl (cI, 8, .inl (row (fun _ => 0))))]) ++ [(q15, .inl (cI, 8, .inl (row (fun _ => 0))))]) ++ [(q23, .inl (cI, 8, .inl (row (fun _ => 0))))]) ++ [(q31, .inl (cI, 8, .inl (row (fun _ => 0))))]) ++ [(q39, .inl (cI, 8, .inl (row (fun _ => 0))))]) H := hP
  have hD : va_D (va_A [(h0, .inr (2, [.int 0, .null, .null, .null, .null, .null]))] sz) ((((([(h0, .inr (2, [.int 0, .ref q7, .ref q15, .ref q23, .ref q31, .null]))] ++ [(q7, .inl (cI, 8, .inl (row (fun _ => 0))))]) ++ [(q15, .inl (cI, 8, .inl (row (fun _ => 0))))]) ++ [(q23, .inl (cI, 8, .inl (row (fun _ => 0))))]) ++ [(q31, .inl (cI, 8, .inl (row (fun _ => 0))))]) ++ [(q39, .inl (cI, 8, .inl (row (fun _ => 0))))]) := hD
  refine k_putF (v := .ref q39) (ty := .array .int) F nX2_init_X2 tyX2 tyX2_ok nmX2 hK.1.1 hP hD hS 0 rfl rfl 5 (by decide) (List.mem_of_getElem? (i := 9) rfl) rfl hin rfl (by decide +kernel) rfl rfl (Nat.le_of_ble_eq_true rfl) dX2_init_41 ((((([(h0, .inr (2, [.int 0, .ref q7, .ref q15, .ref q23, .ref q31, .ref q39]))] ++ [(q7, .inl (cI, 8, .inl (row (fun _ => 0))))]) ++ [(q15, .inl (cI, 8, .inl (row (fun _ => 0))))]) ++ [(q23, .inl (cI, 8, .inl (row (fun _ => 0))))]) ++ [(q31, .inl (cI, 8, .inl (row (fun _ => 0))))]) ++ [(q39, .inl (cI, 8, .inl (row (fun _ => 0))))]) rfl (fun H locs hP hD hS => ?_)
  exact k_retC F hr hlk (X := fun a => wGu cI a S0) (fun k => if k = 7 then h0 else if k = 8 then q7 else if k = 9 then q15 else if k = 10 then q23 else if k = 11 then q31 else q39) rfl hP hD hS (Nat.le_of_ble_eq_true rfl) (Nat.le_of_ble_eq_true rfl) dX2_init_44
theorem nX0_init_X0 : ∀ x ∈ wsX00, x ∈ wsX0_init := fun _ h => List.mem_cons_of_mem _ (List.mem_append_left _ (List.mem_append_left _ (List.mem_append_right _ h)))
theorem nX0_init_X1 : ∀ x ∈ wsX10, x ∈ wsX0_init := fun _ h => List.mem_cons_of_mem _ (List.mem_append_left _ (List.mem_append_right _ h))
theorem nX0_init_X2 : ∀ x ∈ wsX20, x ∈ wsX0_init := fun _ h => List.mem_cons_of_mem _ (List.mem_append_right _ h)
set_option maxRecDepth 100000 in
set_option maxHeartbeats 4000000 in
theorem c_X0_init (l : Launch) (D : va_G) (cI : ClassId) (h0 : Nat) : GC l yX0_init wsX0_init 2 12 89 40 D [(cI, .int)] h0 (.inr (0, [.int 0, .null, .null, .null, .int 0, .int 0, .int 0])) (fun a => wFa cI a S0) 0 := by
  intro sz
  refine k_bodyC (cc := cX0_init) (maxL := 1) (ret := none) (by decide) rfl (Nat.le_of_ble_eq_true rfl) ?_
  intro p e s m args below meth c H ls hz F hr hlk hin hl hP hK hD hS
  have F : CallFix p m c cX0_init 1 s args wsX0_init RX0 := F
  have hl : lv_has ls 1 [(0, .ref h0)] := hl
  refine lv_aload_n F.1 F.2.1 dX0_init_0 rfl (lv_at hl 0 rfl) ?_
  refine k_oinit F hl.1 (List.mem_of_getElem? (i := 1) rfl) (List.mem_of_getElem? (i := 2) rfl) (List.mem_of_getElem? (i := 3) rfl) dX0_init_1 (Nat.le_of_ble_eq_true rfl) (Nat.le_of_ble_eq_true rfl) ?_
  refine lv_aload_n F.1 F.2.1 dX0_init_4 rfl (lv_at hl 0 rfl) ?_
  refine lv_bipush (v := nI 6) F.1 F.2.1 dX0_init_5 (by decide) ?_
  refine k_newa F (List.mem_of_getElem? (i := 4) rfl) hK.1 hP hD hS (fun q h => Or.inr (by omega)) (k := 6) (by decide) ⟨Nat.le_of_ble_eq_true rfl, Nat.le_of_ble_eq_true rfl⟩ dX0_init_7 (fun q7 H hP hD hS => ?_)
  have hP : va_P D vwCl ([(h0, .inr (0, [.int 0, .null, .null, .null, .int 0, .int 0, .int 0]))] ++ [(q7, .inl (cI, 6, .inl (row (fun _ => 0))))]) H := hP
  have hD : va_D (va_A [(h0, .inr (0, [.int 0, .null, .null, .null, .int 0, .int 0, .int 0]))] sz) ([(h0, .inr (0, [.int 0, .null, .null, .null, .int 0, .int 0, .int 0]))] ++ [(q7, .inl (cI, 6, .inl (row (fun _ => 0))))]) := hD
  refine k_putF (v := .ref q7) (ty := .array .int) F nX0_init_X0 tyX0 tyX0_ok nmX0 hK.1.1 hP hD hS 0 rfl rfl 1 (by decide) (List.mem_of_getElem? (i := 5) rfl) rfl hin rfl (by decide +kernel) rfl rfl (Nat.le_of_ble_eq_true rfl) dX0_init_9 ([(h0, .inr (0, [.int 0, .ref q7, .null, .null, .int 0, .int 0, .int 0]))] ++ [(q7, .inl (cI, 6, .inl (row (fun _ => 0))))]) rfl (fun H locs hP hD hS => ?_)
  refine lv_aload_n F.1 F.2.1 dX0_init_12 rfl (lv_at hl 0 rfl) ?_
  refine k_newo (ci := 1) (fs := [.int 0, .null, .null, .null, .null]) F nX0_init_X1 tyX1 tyX1_ok (List.mem_of_getElem? (i := 6) rfl) (List.mem_of_getElem? (i := 7) rfl) (List.mem_of_getElem? (i := 8) rfl) hK.1.1 hP hD hS (fun q h => Or.inr (by omega)) rfl (fun j hj => by rcases (show j = 0 ∨ j = 1 ∨ j = 2 ∨ j = 3 ∨ j = 4 by omega) with rfl | rfl | rfl | rfl | rfl <;> rfl) ⟨Nat.le_of_ble_eq_true rfl, Nat.le_of_ble_eq_true rfl⟩ dX0_init_13 (fun q13 H hP hD hS => ?_)
  have hP : va_P D vwCl (([(h0, .inr (0, [.int 0, .ref q7, .null, .null, .int 0, .int 0, .int 0]))] ++ [(q7, .inl (cI, 6, .inl (row (fun _ => 0))))]) ++ [(q13, .inr (1, [.int 0, .null, .null, .null, .null]))]) H := hP
  have hD : va_D (va_A [(h0, .inr (0, [.int 0, .null, .null, .null, .int 0, .int 0, .int 0]))] sz) (([(h0, .inr (0, [.int 0, .ref q7, .null, .null, .int 0, .int 0, .int 0]))] ++ [(q7, .inl (cI, 6, .inl (row (fun _ => 0))))]) ++ [(q13, .inr (1, [.int 0, .null, .null, .null, .null]))]) := hD
  refine lv_dup F.1 F.2.1 dX0_init_16 rfl ?_
  refine k_ctorN (rest := [.ref q13, .ref h0]) F (c_X1_init l D cI q13) gX0_init_X1_init_n17 hK.2.1 (List.mem_of_getElem? (i := 8) rfl) (List.mem_of_getElem? (i := 14) rfl) rfl rfl (by decide +kernel) ⟨Nat.le_of_ble_eq_true rfl, Nat.le_of_ble_eq_true rfl⟩ hl.1 rfl (Nat.le_of_ble_eq_true rfl) dX0_init_17 ⟨Nat.le_of_ble_eq_true rfl, Nat.le_of_ble_eq_true rfl⟩ hK hP hD hS (fun q h => Or.inr (by omega)) [2] [0, 1] ([(h0, .inr (0, [.int 0, .ref q7, .null, .null, .int 0, .int 0, .int 0]))] ++ [(q7, .inl (cI, 6, .inl (row (fun _ => 0))))]) rfl rfl rfl rfl (by decide) (fun u1 H locs hw1 hP9 hD9 hS => ?_)
  subst hw1
  have hP := hP9
  have hD := hD9
  have hP : va_P D vwCl (([(h0, .inr (0, [.int 0, .ref q7, .null, .null, .int 0, .int 0, .int 0]))] ++ [(q7, .inl (cI, 6, .inl (row (fun _ => 0))))]) ++ wFl cI u1 S0) H := hP
  have hD : va_D (va_A [(h0, .inr (0, [.int 0, .null, .null, .null, .int 0, .int 0, .int 0]))] sz) (([(h0, .inr (0, [.int 0, .ref q7, .null, .null, .int 0, .int 0, .int 0]))] ++ [(q7, .inl (cI, 6, .inl (row (fun _ => 0))))]) ++ wFl cI u1 S0) := hD
  refine k_putF (v := .ref (u1 2)) (ty := .object "GooseCodex$Flock") F nX0_init_X0 tyX0 tyX0_ok nmX0 hK.1.1 hP hD hS 0 rfl rfl 2 (by decide) (List.mem_of_getElem? (i := 9) rfl) rfl hin rfl (by decide +kernel) rfl rfl (Nat.le_of_ble_eq_true rfl) dX0_init_20 (([(h0, .inr (0, [.int 0, .ref q7, .ref (u1 2), .null, .int 0, .int 0, .int 0]))] ++ [(q7, .inl (cI, 6, .inl (row (fun _ => 0))))]) ++ wFl cI u1 S0) rfl (fun H locs hP hD hS => ?_)
  refine lv_aload_n F.1 F.2.1 dX0_init_23 rfl (lv_at hl 0 rfl) ?_
  refine k_newo (ci := 2) (fs := [.int 0, .null, .null, .null, .null, .null]) F nX0_init_X2 tyX2 tyX2_ok (List.mem_of_getElem? (i := 10) rfl) (List.mem_of_getElem? (i := 11) rfl) (List.mem_of_getElem? (i := 12) rfl) hK.1.1 hP hD hS (fun q h => Or.inr (by omega)) rfl (fun j hj => by rcases (show j = 0 ∨ j = 1 ∨ j = 2 ∨ j = 3 ∨ j = 4 ∨ j = 5 by omega) with rfl | rfl | rfl | rfl | rfl | rfl <;> rfl) ⟨Nat.le_of_ble_eq_true rfl, Nat.le_of_ble_eq_true rfl⟩ dX0_init_24 (fun q24 H hP hD hS => ?_)
  have hP : va_P D vwCl ((([(h0, .inr (0, [.int 0, .ref q7, .ref (u1 2), .null, .int 0, .int 0, .int 0]))] ++ [(q7, .inl (cI, 6, .inl (row (fun _ => 0))))]) ++ wFl cI u1 S0) ++ [(q24, .inr (2, [.int 0, .null, .null, .null, .null, .null]))]) H := hP
  have hD : va_D (va_A [(h0, .inr (0, [.int 0, .null, .null, .null, .int 0, .int 0, .int 0]))] sz) ((([(h0, .inr (0, [.int 0, .ref q7, .ref (u1 2), .null, .int 0, .int 0, .int 0]))] ++ [(q7, .inl (cI, 6, .inl (row (fun _ => 0))))]) ++ wFl cI u1 S0) ++ [(q24, .inr (2, [.int 0, .null, .null, .null, .null, .null]))]) := hD
  refine lv_dup F.1 F.2.1 dX0_init_27 rfl ?_
  refine k_ctorN (rest := [.ref q24, .ref h0]) F (c_X2_init l D cI q24) gX0_init_X2_init_n24 hK.2.2.1 (List.mem_of_getElem? (i := 12) rfl) (List.mem_of_getElem? (i := 21) rfl) rfl rfl (by decide +kernel) ⟨Nat.le_of_ble_eq_true rfl, Nat.le_of_ble_eq_true rfl⟩ hl.1 rfl (Nat.le_of_ble_eq_true rfl) dX0_init_28 ⟨Nat.le_of_ble_eq_true rfl, Nat.le_of_ble_eq_true rfl⟩ hK hP hD hS (fun q h => Or.inr (by omega)) [7] [0, 1, 2, 3, 4, 5, 6] (([(h0, .inr (0, [.int 0, .ref q7, .ref (u1 2), .null, .int 0, .int 0, .int 0]))] ++ [(q7, .inl (cI, 6, .inl (row (fun _ => 0))))]) ++ wFl cI u1 S0) rfl rfl rfl rfl (by decide) (fun u2 H locs hw1 hP9 hD9 hS => ?_)
  subst hw1
  have hP := hP9
  have hD := hD9
  have hP : va_P D vwCl ((([(h0, .inr (0, [.int 0, .ref q7, .ref (u1 2), .null, .int 0, .int 0, .int 0]))] ++ [(q7, .inl (cI, 6, .inl (row (fun _ => 0))))]) ++ wFl cI u1 S0) ++ wGu cI u2 S0) H := hP
  have hD : va_D (va_A [(h0, .inr (0, [.int 0, .null, .null, .null, .int 0, .int 0, .int 0]))] sz) ((([(h0, .inr (0, [.int 0, .ref q7, .ref (u1 2), .null, .int 0, .int 0, .int 0]))] ++ [(q7, .inl (cI, 6, .inl (row (fun _ => 0))))]) ++ wFl cI u1 S0) ++ wGu cI u2 S0) := hD
  refine k_putF (v := .ref (u2 7)) (ty := .object "GooseCodex$Guests") F nX0_init_X0 tyX0 tyX0_ok nmX0 hK.1.1 hP hD hS 0 rfl rfl 3 (by decide) (List.mem_of_getElem? (i := 13) rfl) rfl hin rfl (by decide +kernel) rfl rfl (Nat.le_of_ble_eq_true rfl) dX0_init_31 ((([(h0, .inr (0, [.int 0, .ref q7, .ref (u1 2), .ref (u2 7), .int 0, .int 0, .int 0]))] ++ [(q7, .inl (cI, 6, .inl (row (fun _ => 0))))]) ++ wFl cI u1 S0) ++ wGu cI u2 S0) rfl (fun H locs hP hD hS => ?_)
  exact k_retC F hr hlk (X := fun a => wFa cI a S0) (fun k => if k = 0 then h0 else if k = 1 then q7 else if k < 7 then u1 k else u2 k) rfl hP hD hS (Nat.le_of_ble_eq_true rfl) (Nat.le_of_ble_eq_true rfl) dX0_init_34
theorem nX3_init_X0 : ∀ x ∈ wsX00, x ∈ wsX3_init := fun _ h => List.mem_cons_of_mem _ (List.mem_append_left _ (List.mem_append_left _ (List.mem_append_left _ (List.mem_append_right _ h))))
theorem nX3_init_X3 : ∀ x ∈ wsX30, x ∈ wsX3_init := fun _ h => List.mem_cons_of_mem _ (List.mem_append_left _ (List.mem_append_left _ (List.mem_append_right _ h)))
set_option maxRecDepth 100000 in
set_option maxHeartbeats 4000000 in
theorem c_X3_init (l : Launch) (D : va_G) (cI : ClassId) (h0 : Nat) : GC l yX3_init wsX3_init 3 26 192 60 D [(cI, .int)] h0 (.inr (3, [.null, .null])) (fun a => wCo cI (fun k => a k) (fun k => a (100 + k)) S0 S0) 13 := by
  intro sz
  refine k_bodyC (cc := cX3_init) (maxL := 1) (ret := none) (by decide) rfl (Nat.le_of_ble_eq_true rfl) ?_
  intro p e s m args below meth c H ls hz F hr hlk hin hl hP hK hD hS
  have F : CallFix p m c cX3_init 1 s args wsX3_init RX3 := F
  have hl : lv_has ls 1 [(0, .ref h0)] := hl
  refine lv_aload_n F.1 F.2.1 dX3_init_0 rfl (lv_at hl 0 rfl) ?_
  refine k_oinit F hl.1 (List.mem_of_getElem? (i := 1) rfl) (List.mem_of_getElem? (i := 2) rfl) (List.mem_of_getElem? (i := 3) rfl) dX3_init_1 (Nat.le_of_ble_eq_true rfl) (Nat.le_of_ble_eq_true rfl) ?_
  refine lv_aload_n F.1 F.2.1 dX3_init_4 rfl (lv_at hl 0 rfl) ?_
  refine k_newo (ci := 0) (fs := [.int 0, .null, .null, .null, .int 0, .int 0, .int 0]) F nX3_init_X0 tyX0 tyX0_ok (List.mem_of_getElem? (i := 4) rfl) (List.mem_of_getElem? (i := 5) rfl) (List.mem_of_getElem? (i := 6) rfl) hK.1.1 hP hD hS (fun q h => Or.inr (by omega)) rfl (fun j hj => by rcases (show j = 0 ∨ j = 1 ∨ j = 2 ∨ j = 3 ∨ j = 4 ∨ j = 5 ∨ j = 6 by omega) with rfl | rfl | rfl | rfl | rfl | rfl | rfl <;> rfl) ⟨Nat.le_of_ble_eq_true rfl, Nat.le_of_ble_eq_true rfl⟩ dX3_init_5 (fun q5 H hP hD hS => ?_)
  have hP : va_P D vwCl ([(h0, .inr (3, [.null, .null]))] ++ [(q5, .inr (0, [.int 0, .null, .null, .null, .int 0, .int 0, .int 0]))]) H := hP
  have hD : va_D (va_A [(h0, .inr (3, [.null, .null]))] sz) ([(h0, .inr (3, [.null, .null]))] ++ [(q5, .inr (0, [.int 0, .null, .null, .null, .int 0, .int 0, .int 0]))]) := hD
  refine lv_dup F.1 F.2.1 dX3_init_8 rfl ?_
  refine k_ctorN (rest := [.ref q5, .ref h0]) F (c_X0_init l D cI q5) gX3_init_X0_init_n9 hK.2.2.2 (List.mem_of_getElem? (i := 6) rfl) (List.mem_of_getElem? (i := 9) rfl) rfl rfl (by decide +kernel) ⟨Nat.le_of_ble_eq_true rfl, Nat.le_of_ble_eq_true rfl⟩ hl.1 rfl (Nat.le_of_ble_eq_true rfl) dX3_init_9 ⟨Nat.le_of_ble_eq_true rfl, Nat.le_of_ble_eq_true rfl⟩ hK hP hD hS (fun q h => Or.inr (by omega)) [1] [0] [(h0, .inr (3, [.null, .null]))] rfl rfl rfl rfl (by decide) (fun u1 H locs hw1 hP9 hD9 hS => ?_)
  subst hw1
  have hP := hP9
  have hD := hD9
  have hP : va_P D vwCl ([(h0, .inr (3, [.null, .null]))] ++ wFa cI u1 S0) H := hP
  have hD : va_D (va_A [(h0, .inr (3, [.null, .null]))] sz) ([(h0, .inr (3, [.null, .null]))] ++ wFa cI u1 S0) := hD
  refine k_putF (v := .ref (u1 0)) (ty := .object "GooseCodex$Farm") F nX3_init_X3 tyX3 tyX3_ok nmX3 hK.1.1 hP hD hS 0 rfl rfl 0 (by decide) (List.mem_of_getElem? (i := 7) rfl) rfl hin rfl (by decide +kernel) rfl rfl (Nat.le_of_ble_eq_true rfl) dX3_init_12 ([(h0, .inr (3, [.ref (u1 0), .null]))] ++ wFa cI u1 S0) rfl (fun H locs hP hD hS => ?_)
  refine lv_aload_n F.1 F.2.1 dX3_init_15 rfl (lv_at hl 0 rfl) ?_
  refine k_newo (ci := 0) (fs := [.int 0, .null, .null, .null, .int 0, .int 0, .int 0]) F nX3_init_X0 tyX0 tyX0_ok (List.mem_of_getElem? (i := 4) rfl) (List.mem_of_getElem? (i := 5) rfl) (List.mem_of_getElem? (i := 6) rfl) hK.1.1 hP hD hS (fun q h => Or.inr (by omega)) rfl (fun j hj => by rcases (show j = 0 ∨ j = 1 ∨ j = 2 ∨ j = 3 ∨ j = 4 ∨ j = 5 ∨ j = 6 by omega) with rfl | rfl | rfl | rfl | rfl | rfl | rfl <;> rfl) ⟨Nat.le_of_ble_eq_true rfl, Nat.le_of_ble_eq_true rfl⟩ dX3_init_16 (fun q16 H hP hD hS => ?_)
  have hP : va_P D vwCl (([(h0, .inr (3, [.ref (u1 0), .null]))] ++ wFa cI u1 S0) ++ [(q16, .inr (0, [.int 0, .null, .null, .null, .int 0, .int 0, .int 0]))]) H := hP
  have hD : va_D (va_A [(h0, .inr (3, [.null, .null]))] sz) (([(h0, .inr (3, [.ref (u1 0), .null]))] ++ wFa cI u1 S0) ++ [(q16, .inr (0, [.int 0, .null, .null, .null, .int 0, .int 0, .int 0]))]) := hD
  refine lv_dup F.1 F.2.1 dX3_init_19 rfl ?_
  refine k_ctorN (rest := [.ref q16, .ref h0]) F (c_X0_init l D cI q16) gX3_init_X0_init_n9 hK.2.2.2 (List.mem_of_getElem? (i := 6) rfl) (List.mem_of_getElem? (i := 9) rfl) rfl rfl (by decide +kernel) ⟨Nat.le_of_ble_eq_true rfl, Nat.le_of_ble_eq_true rfl⟩ hl.1 rfl (Nat.le_of_ble_eq_true rfl) dX3_init_20 ⟨Nat.le_of_ble_eq_true rfl, Nat.le_of_ble_eq_true rfl⟩ hK hP hD hS (fun q h => Or.inr (by omega)) [14] [0, 1, 2, 3, 4, 5, 6, 7, 8, 9, 10, 11, 12, 13] ([(h0, .inr (3, [.ref (u1 0), .null]))] ++ wFa cI u1 S0) rfl rfl rfl rfl (by decide) (fun u2 H locs hw1 hP9 hD9 hS => ?_)
  subst hw1
  have hP := hP9
  have hD := hD9
  have hP : va_P D vwCl (([(h0, .inr (3, [.ref (u1 0), .null]))] ++ wFa cI u1 S0) ++ wFa cI u2 S0) H := hP
  have hD : va_D (va_A [(h0, .inr (3, [.null, .null]))] sz) (([(h0, .inr (3, [.ref (u1 0), .null]))] ++ wFa cI u1 S0) ++ wFa cI u2 S0) := hD
  refine k_putF (v := .ref (u2 0)) (ty := .object "GooseCodex$Farm") F nX3_init_X3 tyX3 tyX3_ok nmX3 hK.1.1 hP hD hS 0 rfl rfl 1 (by decide) (List.mem_of_getElem? (i := 8) rfl) rfl hin rfl (by decide +kernel) rfl rfl (Nat.le_of_ble_eq_true rfl) dX3_init_23 (([(h0, .inr (3, [.ref (u1 0), .ref (u2 0)]))] ++ wFa cI u1 S0) ++ wFa cI u2 S0) rfl (fun H locs hP hD hS => ?_)
  exact k_retC F hr hlk (X := fun a => wCo cI (fun k => a k) (fun k => a (100 + k)) S0 S0) (fun k => if k = 13 then h0 else if k < 100 then u1 k else u2 (k - 100)) rfl hP hD hS (Nat.le_of_ble_eq_true rfl) (Nat.le_of_ble_eq_true rfl) dX3_init_26
