/-! methods that make cells, methods that throw -/
abbrev rmG (fr mc ms lo : Nat) : Room := { frames := fr, cells := mc, slots := ms, locals := lo }
/-- y answers v, its cells w are w1 then; it may make cells -/
def GI (l : Launch) (y : MethodName) (ws : List Cond) (fr mc ms lo : Nat) (D : va_G) (tys : List (ClassId × FieldType)) (av : List Value) (w w1 : va_W) (v : Int32) : Prop :=
  ∀ sz : Nat, Met l y ws (rmG fr mc ms lo) (va_Pc av (fun U => U.heap.size = sz ∧ va_P D vwCl w U.heap ∧ KK D tys U ∧ va_D (fun _ => True) w)) (va_Qi (fun r (_ : Unit) => r = v) (fun _ t => va_P D vwCl w1 t.heap) (va_B w)) mc ms (va_A w sz)
def GL (l : Launch) (y : MethodName) (ws : List Cond) (fr mc ms lo : Nat) (D : va_G) (tys : List (ClassId × FieldType)) (av : List Value) (w w1 : va_W) (v : Int64) : Prop :=
  ∀ sz : Nat, Met l y ws (rmG fr mc ms lo) (va_Pc av (fun U => U.heap.size = sz ∧ va_P D vwCl w U.heap ∧ KK D tys U ∧ va_D (fun _ => True) w)) (va_Ql (fun r (_ : Unit) => r = v) (fun _ t => va_P D vwCl w1 t.heap) (va_B w)) mc ms (va_A w sz)
theorem B_A {w : va_W} {sz q : Nat} (h : va_B w q) : va_A w sz q := Or.inl h
/-- what the throws need: two statics outside A, three texts -/
def KXA (A : Nat → Prop) (U : State) : Prop := vx_Zq Bundle.tN "UNASSIGNED_STACK" Bundle.steD A U U.heap ∧ vx_Zq Bundle.tN "SUPPRESSED_SENTINEL" Bundle.listD A U U.heap ∧ (∃ a, vk_R RX3 264 "there is no such gate, goose or visitor" a U) ∧ (∃ a, vk_R RX3 271 "a number is outside its bounds" a U) ∧ (∃ a, vk_R RX3 276 "this can't be done as all is now" a U) ∧ va_Nw (.castable "java/lang/IndexOutOfBoundsException" "java/lang/IndexOutOfBoundsException") U ∧ va_Nw (.castable "java/lang/IllegalArgumentException" "java/lang/IllegalArgumentException") U ∧ va_Nw (.castable "java/lang/IllegalStateException" "java/lang/IllegalStateException") U ∧ va_Nw (.declares ⟨"java/lang/RuntimeException", "<init>", "(Ljava/lang/String;)V"⟩) U ∧ va_Nw (.declares ⟨"java/lang/Exception", "<init>", "(Ljava/lang/String;)V"⟩) U ∧ va_Nw (.declares ⟨"java/lang/Throwable", "<init>", "(Ljava/lang/String;)V"⟩) U
theorem KXA.call {A : Nat → Prop} {U : State} {g : JFrame} {mk : MethodId} {a : Array Value} (h : KXA A U) : KXA A (U.calling g mk a) := by
  obtain ⟨h1, h2, ⟨a3, h3⟩, ⟨a4, h4⟩, ⟨a5, h5⟩, h6, h7, h8, h9, h10, h11⟩ := h
  exact ⟨vx_Zq.moved (u := U) (U := U.calling g mk a) (Vm.Alike.refl U.vm) h1, vx_Zq.moved (u := U) (U := U.calling g mk a) (Vm.Alike.refl U.vm) h2, ⟨a3, vk_R.same (u := U) rfl h3⟩, ⟨a4, vk_R.same (u := U) rfl h4⟩, ⟨a5, vk_R.same (u := U) rfl h5⟩, va_Nw.same (u := U) (U := U.calling g mk a) rfl rfl h6, va_Nw.same (u := U) (U := U.calling g mk a) rfl rfl h7, va_Nw.same (u := U) (U := U.calling g mk a) rfl rfl h8, va_Nw.same (u := U) (U := U.calling g mk a) rfl rfl h9, va_Nw.same (u := U) (U := U.calling g mk a) rfl rfl h10, va_Nw.same (u := U) (U := U.calling g mk a) rfl rfl h11⟩
theorem KXA.at {A B : Nat → Prop} {s U : State} {H : Heap} {locs : List Loc} (h : KXA A s) (hW : s.WarmedH U.vm) (hU : U.heap = H) (hS : va_S A s.heap H locs) (hB : ∀ q, B q → A q) : KXA B U := by
  obtain ⟨h1, h2, ⟨a3, h3⟩, ⟨a4, h4⟩, ⟨a5, h5⟩, h6, h7, h8, h9, h10, h11⟩ := h
  subst hU
  exact ⟨((vx_Zq.kept h1 hS.2.1).moved hW.alike).narrow hB, ((vx_Zq.kept h2 hS.2.1).moved hW.alike).narrow hB, ⟨a3, vk_R.warm hW h3⟩, ⟨a4, vk_R.warm hW h4⟩, ⟨a5, vk_R.warm hW h5⟩, va_Nw.warmC hW h6, va_Nw.warmC hW h7, va_Nw.warmC hW h8, va_Nw.warmD hW h9, va_Nw.warmD hW h10, va_Nw.warmD hW h11⟩
/-- what a throwing method leaves: its cells as they were -/
abbrev XT (D : va_G) (w : va_W) (E : Option String) : String → State → State → Prop := vx_X (fun _ : Unit => True) (fun E' _ t => E = some E' ∧ va_P D vwCl w t.heap) (va_B w)
abbrev PX (D : va_G) (tys : List (ClassId × FieldType)) (w : va_W) (U : State) : Prop := va_P D vwCl w U.heap ∧ KK D tys U ∧ KXA (va_B w) U ∧ va_D (fun _ => True) w
/-- y answers v with its cells w1 where E is none; else throws E, its cells as they were -/
def TI (l : Launch) (y : MethodName) (ws : List Cond) (fr mc lo : Nat) (D : va_G) (tys : List (ClassId × FieldType)) (av : List Value) (w w1 : va_W) (E : Option String) (v : Int32) : Prop :=
  vx_Met l y ws (rmG fr mc (6 * mc) lo) (va_Pc av (PX D tys w)) (va_Qi (fun r (_ : Unit) => E = none ∧ r = v) (fun _ t => va_P D vwCl w1 t.heap) (va_B w)) (XT D w E) mc (6 * mc) (va_B w)
/-- y returns where b holds, and throws cls where not -/
def TD (l : Launch) (y : MethodName) (ws : List Cond) (fr lo : Nat) (D : va_G) (tys : List (ClassId × FieldType)) (av : List Value) (w : va_W) (b : Prop) (cls : String) : Prop :=
  vx_Met l y ws (rmG fr 1 6 lo) (va_Pc av (PX D tys w)) (va_Qv (fun _ : Unit => b) (fun _ _ => True) (fun _ => False)) (vx_X (fun _ : Unit => ¬ b) (fun E' _ _ => E' = cls) (fun _ => False)) 1 6 (fun _ => False)
/-- y answers v; its callees may throw, but never here -/
def EL (l : Launch) (y : MethodName) (ws : List Cond) (fr mc lo : Nat) (D : va_G) (tys : List (ClassId × FieldType)) (av : List Value) (w w1 : va_W) (v : Int64) : Prop :=
  Met l y ws (rmG fr mc (6 * mc) lo) (va_Pc av (PX D tys w)) (va_Ql (fun r (_ : Unit) => r = v) (fun _ t => va_P D vwCl w1 t.heap) (va_B w)) mc (6 * mc) (va_B w)
section
variable {l : Launch} {y : MethodName} {ws ws' : List Cond} {fr mc ms lo : Nat} {D : va_G} {tys : List (ClassId × FieldType)} {av : List Value} {w w1 : va_W} {cc : ByteArray} {maxL : Nat} {ret : Option FieldType} {Qc : Array Value → State → Outcome → State → Prop} {XC : String → State → State → Prop} {free : Addr → Prop}
theorem blindG {sz : Nat} : FrameBlind (va_Pc av (fun U => U.heap.size = sz ∧ va_P D vwCl w U.heap ∧ KK D tys U ∧ va_D (fun _ => True) w)) := fun a U g mk q => ⟨q.1, q.2.1, q.2.2.1, KK.call q.2.2.2.1, q.2.2.2.2⟩
theorem blindX : FrameBlind (va_Pc av (PX D tys w)) := fun a U g mk q => ⟨q.1, q.2.1, KK.call q.2.2.1, KXA.call q.2.2.2.1, q.2.2.2.2⟩
theorem k_bodyG {sz : Nat} (hy : plainName y.cls = true) (hw : ws = Cond.code y cc maxL ret :: ws') (hav : (lg_sl av).length ≤ maxL)
    (body : ∀ p e s m args below meth c H ls, s.heap.size = sz → CallFix p m c cc maxL s args ws y.cls → meth.sig.returnType = ret → meth.locks = false → lv_has ls maxL (lv_args 0 av) → va_P D vwCl w H → KK D tys s → va_D (va_A w sz) w → va_S (va_A w sz) s.heap H [] →
      W p l e (rmG fr mc ms lo) s m args below meth c H [] 0 0 (MQ below Qc args s mc ms free) (F0 m 0 ls [])) :
    Met l y ws (rmG fr mc ms lo) (va_Pc av (fun U => U.heap.size = sz ∧ va_P D vwCl w U.heap ∧ KK D tys U ∧ va_D (fun _ => True) w)) Qc mc ms free := by
  refine Met.ofW (cc := cc) (maxL := maxL) (ret := ret) hy hw ?_
  intro p e s m args below meth c s₁ B hml hv
  obtain ⟨rfl, hz, hP, hK, hD⟩ := hv
  have hl := lv_entry av (n := maxL) hav
  rw [lg_entry_eq]
  exact body p e s m _ below meth c s.heap _ hz ⟨B.exec, B.bytes, hml, findClass_of_methodNamed B.named, atoms_spec (ws := ws) B.pre⟩ B.returns B.notSynchronized hl hP hK hD.self va_S.rf
theorem k_bodyX (hy : plainName y.cls = true) (hw : ws = Cond.code y cc maxL ret :: ws') (hav : (lg_sl av).length ≤ maxL)
    (body : ∀ p e s m args below meth c H ls, CallFix p m c cc maxL s args ws y.cls → meth.sig.returnType = ret → meth.locks = false → lv_has ls maxL (lv_args 0 av) → va_P D vwCl w H → KK D tys s → va_D (va_B w) w → va_S (va_B w) s.heap H [] → KXA (va_B w) s → (∀ x ∈ c.exceptionTable.toList, False) →
      W p l e (rmG fr mc ms lo) s m args below meth c H [] 0 0 (vx_MQ below Qc XC args s mc ms free) (F0 m 0 ls [])) :
    vx_Met l y ws (rmG fr mc ms lo) (va_Pc av (PX D tys w)) Qc XC mc ms free := by
  refine vx_ofW (cc := cc) (maxL := maxL) (ret := ret) hy hw ?_
  intro p e s m args below meth c s₁ B hml ht hv
  obtain ⟨rfl, hP, hK, hX, hD⟩ := hv
  have hl := lv_entry av (n := maxL) hav
  rw [lg_entry_eq]
  exact body p e s m _ below meth c s.heap _ ⟨B.exec, B.bytes, hml, findClass_of_methodNamed B.named, atoms_spec (ws := ws) B.pre⟩ B.returns B.notSynchronized hl hP hK (D_B hD) va_S.rf hX ht
theorem k_bodyE (hy : plainName y.cls = true) (hw : ws = Cond.code y cc maxL ret :: ws') (hav : (lg_sl av).length ≤ maxL)
    (body : ∀ p e s m args below meth c H ls, CallFix p m c cc maxL s args ws y.cls → meth.sig.returnType = ret → meth.locks = false → lv_has ls maxL (lv_args 0 av) → va_P D vwCl w H → KK D tys s → va_D (va_B w) w → va_S (va_B w) s.heap H [] → KXA (va_B w) s →
      W p l e (rmG fr mc ms lo) s m args below meth c H [] 0 0 (MQ below Qc args s mc ms free) (F0 m 0 ls [])) :
    Met l y ws (rmG fr mc ms lo) (va_Pc av (PX D tys w)) Qc mc ms free := by
  refine Met.ofW (cc := cc) (maxL := maxL) (ret := ret) hy hw ?_
  intro p e s m args below meth c s₁ B hml hv
  obtain ⟨rfl, hP, hK, hX, hD⟩ := hv
  have hl := lv_entry av (n := maxL) hav
  rw [lg_entry_eq]
  exact body p e s m _ below meth c s.heap _ ⟨B.exec, B.bytes, hml, findClass_of_methodNamed B.named, atoms_spec (ws := ws) B.pre⟩ B.returns B.notSynchronized hl hP hK (D_B hD) va_S.rf hX
end
section
variable {p : Program} {l : Launch} {e : Env} {R : Room} {s : State} {m : MethodId} {args : Array Value} {below : List Frame} {meth : Method} {c : Code} {H : Heap} {locs : List Loc} {cells slots : Nat} {Q : State → Prop}
variable {cc : ByteArray} {pc nL : Nat} {ls : Array Slot} {rest st0 : List Value} {D : va_G} {A A0 : Nat → Prop} {a : Nat} {tys tysC : List (ClassId × FieldType)} {w w0 wc w1 : va_W} {H0 : Heap} {Ts : List Cond} {own : String}
variable {C : String} {y : MethodName} {bytes : ByteArray} {maxL fr lo mc ms mcY msY index n : Nat} {ret : Option FieldType} {ws ws' : List Cond} {As : List Value} {b : Nat}
/-- a new array of ints -/
theorem k_newa (S : CallFix p m c cc nL s args Ts own) (harr : Cond.arrayClass .int ∈ Ts) {cI : ClassId} (hK : KK D [(cI, .int)] s) (hP : va_P D vwCl w H) (hD : va_D A w) (hS : va_S A s.heap H locs) (hA : ∀ q, s.heap.size ≤ q → A q) {k : Nat} (hk : k < 1000) (hf : cells + 1 ≤ R.cells ∧ slots + k ≤ R.slots) (hdg : decode cc pc = .ok (.newarray .int, 2))
    (kk : ∀ (q : Nat) (H1 : Heap), va_P D vwCl (w ++ [(q, .inl (cI, k, .inl (row (fun _ => 0))))]) H1 → va_D A (w ++ [(q, .inl (cI, k, .inl (row (fun _ => 0))))]) → va_S A s.heap H1 locs → W p l e R s m args below meth c H1 locs (cells + 1) (slots + k) Q (F0 m (pc + 2) ls (.ref q :: rest))) : W p l e R s m args below meth c H locs cells slots Q (F0 m pc ls (.int (nI k) :: rest)) := by
  refine va_newa (atype := .int) (ty := .int) (N' := k) (a0 := (k, .inl (row (fun _ => 0)))) S.1 S.2.1 (S.2.2.2.2 _ harr) rfl hK.1 hP hD hS hA (fun cA => ?_) (nI_pos (by omega)) (nI_clamp (by omega)) ?_ hf.1 hf.2 hdg (fun q cA H1 hK2 hP2 hD2 hS2 => ?_)
  · rw [vp_cell_i]
    congr 1
  · have : componentBytes .int = 4 := rfl
    rw [this]
    omega
  · have e1 := va_nm_int (hK.1.2 0 (cI, .int) rfl).2
    have e2 := va_nm_int (hK2.2 1 (cA, .int) rfl).2
    have e3 : cA = cI := Option.some.inj (e2.symm.trans e1)
    subst e3
    exact kk q H1 hP2 hD2 hS2
theorem k_gI (S : CallFix p m c cc nL s args Ts own) {v : Int32} (hM : GI l y ws fr mcY msY lo D tysC (.ref b :: As) wc w1 v) (hT : GoodIn Ts (wsV own index C y ws)) (hw : ws = Cond.code y bytes maxL ret :: ws')
    (hd : y.cls = C ∧ y.cls ≠ "java/lang/invoke/MethodHandle" ∧ y.cls ≠ "java/lang/invoke/VarHandle" ∧ (parseMethodDescriptor y.desc).map (fun d => d.parameters.length) = some n) (hR : fr + 1 ≤ R.frames ∧ 8 + (maxL + 11) + lo ≤ R.locals)
    (hn : As.length = n) (hsize : ls.size = nL) (hstack : st0 = As.reverse ++ .ref b :: rest) (hc8 : (rest.map fun v => v.category).sum ≤ 8) (hdg : decode cc pc = .ok (.invokevirtual index, 3)) (hf : cells + mcY ≤ R.cells ∧ slots + msY ≤ R.slots)
    (hK : KK D tysC s) (hP : va_P D vwCl w H) (hD : va_D A0 w) (hS : va_S A0 s.heap H locs) (hA : ∀ q, s.heap.size ≤ q → A0 q) (isC : List Nat) (hC : isC.map (fun i => w[i]?) = wc.map some) (hnd : va_nd isC = true) (hl : isC.length = w1.length) (w' : va_W) (hw' : mset w isC w1 = w') (ha : w'.map (·.1) = w.map (·.1)) {q0 ci N : Nat} {T : u_T} {fs : List Value} (he : w[q0]? = some (b, .inr (ci, fs))) (hc : vwCl[ci]? = some (C, T, N))
    (kk : ∀ (H1 : Heap) (locs1 : List Loc), va_P D vwCl w' H1 → va_D A0 w' → va_S A0 s.heap H1 locs1 → W p l e R s m args below meth c H1 locs1 (cells + mcY) (slots + msY) Q (F0 m (pc + 3) ls (.int v :: rest))) : W p l e R s m args below meth c H locs cells slots Q (F0 m pc ls st0) := by
  have hPc := sub_at hP isC hC
  have hDc := subD_at hD isC hnd hC
  refine va_calli (va_runV (As := As) (rest := rest) S (hM H.size) (cwV n S.2.2.2.2 hT hw rfl rfl hd hR) ⟨blindG, va_recv hK.1 hP hc he, fun U hU hW => ⟨rfl, by rw [hU], by rw [hU]; exact hPc, KK.moved hW hK, hDc.weaken (fun _ _ _ _ => trivial)⟩⟩ rfl hn hsize hstack (lv_room hc8) hdg hf) hS (fun q _ h => B_in hD isC hC q h) (fun q h => h.elim (fun h => B_in hD isC hC q h) (fun h => hA q (Nat.le_trans hS.1 h))) (fun r u t H1 locs1 ht hvm hw1 hB hz1 hk1 hS => ?_)
  rw [ht] at hB
  subst hw1
  exact kk H1 locs1 (by rw [← hw']; exact mjoin hP hD isC hC hl hk1 hB) (D_re hD ha) hS
theorem k_retGI (S : CallFix p m c cc nL s args Ts own) {ty : FieldType} {v v1 : Int32} {sz : Nat} (hr : meth.sig.returnType = some ty) (hlk : meth.locks = false) (hP : va_P D vwCl w H) (hw : w = w1) (hS : va_S (va_A w0 sz) s.heap H locs) (hz : s.heap.size = sz) (hv : v1 = v) (hn : narrow ty (.int v1) = .int v1) (hcm : cells ≤ mc) (hsm : slots ≤ ms) (hdg : decode cc pc = .ok (.ireturn, 1)) :
    W p l e R s m args below meth c H locs cells slots (MQ below (va_Qi (fun r (_ : Unit) => r = v) (fun _ t => va_P D vwCl w1 t.heap) (va_B w0)) args s mc ms (va_A w0 sz)) (F0 m pc ls [.int v1]) :=
  W.widen hcm hsm (W.zret S.1 S.2.1 hr hn (fun t ht hW => ⟨⟨v1, (), rfl, hv, by show va_P D vwCl w1 t.heap; rw [ht, ← hw]; exact hP⟩, (by
    have h := hS.F ht
    exact ⟨h.1, fun q h1 h2 => h.2 q h1 (fun h3 => h3.elim h2 (fun h4 => absurd h1 (by omega)))⟩)⟩) hS.2.2 hdg hlk)
theorem k_retGL (S : CallFix p m c cc nL s args Ts own) {v v1 : Int64} {sz : Nat} (hr : meth.sig.returnType = some .long) (hlk : meth.locks = false) (hP : va_P D vwCl w H) (hw : w = w1) (hS : va_S (va_A w0 sz) s.heap H locs) (hz : s.heap.size = sz) (hv : v1 = v) (hcm : cells ≤ mc) (hsm : slots ≤ ms) (hdg : decode cc pc = .ok (.lreturn, 1)) :
    W p l e R s m args below meth c H locs cells slots (MQ below (va_Ql (fun r (_ : Unit) => r = v) (fun _ t => va_P D vwCl w1 t.heap) (va_B w0)) args s mc ms (va_A w0 sz)) (F0 m pc ls [.long v1]) :=
  W.widen hcm hsm (W.lret S.1 S.2.1 hr (fun t ht hW => ⟨⟨v1, (), rfl, hv, by show va_P D vwCl w1 t.heap; rw [ht, ← hw]; exact hP⟩, (by
    have h := hS.F ht
    exact ⟨h.1, fun q h1 h2 => h.2 q h1 (fun h3 => h3.elim h2 (fun h4 => absurd h1 (by omega)))⟩)⟩) hS.2.2 hdg hlk)
/-! throws -/
abbrev QTI (below : List Frame) (args : Array Value) (s : State) (D : va_G) (mc : Nat) (w0 w1 : va_W) (E : Option String) (v : Int32) : State → Prop := vx_MQ below (va_Qi (fun r (_ : Unit) => E = none ∧ r = v) (fun _ t => va_P D vwCl w1 t.heap) (va_B w0)) (XT D w0 E) args s mc (6 * mc) (va_B w0)
/-- 'if (!b) throw new E(text)' in a static method of its own, at 4 -/
theorem t_thr (S : CallFix p m c cc nL s args Ts own) (hst : l.stackTraces = false) {cls text : String} {names : List String} {ik is ic : Nat} {b : Prop} (hb : ¬ b) (hcls : Bundle.fit cls = true) (hnames : ∀ n ∈ names, Bundle.fit n = true)
    (hk : Cond.classLink own ik cls ∈ Ts) (hini : Cond.initialized cls ∈ Ts) (hstr : ∃ a, vk_R own is text a s) (hat : ∀ w ∈ vx_atS own ic cls names, w.before args s = true)
    (hgood : ∀ w ∈ Cond.classLink own ik cls :: Cond.initialized cls :: vx_atS own ic cls names, vx_ot w = true) (hX : KXA (va_B w0) s) (hS : va_S (va_B w0) s.heap s.heap []) (hsize : ls.size = nL)
    (d0 : decode cc pc = .ok (.new ik, 3)) (d3 : decode cc (pc + 3) = .ok (.dup, 1)) (d4 : decode cc (pc + 4) = .ok (.ldc_w is, 3)) (d7 : decode cc (pc + 7) = .ok (.invokespecial ic, 3)) (d10 : decode cc (pc + 10) = .ok (.athrow, 1))
    (ht : ∀ x ∈ c.exceptionTable.toList, False) (hRf : names.length + 3 < R.frames) (hRl : 13 * (names.length + 1) + 43 ≤ R.locals) (hRc : 1 ≤ R.cells) (hRs : 6 ≤ R.slots) (hlk : meth.locks = false) {Qc : Array Value → State → Outcome → State → Prop} :
    W p l e R s m args below meth c s.heap [] 0 0 (vx_MQ below Qc (vx_X (fun _ : Unit => ¬ b) (fun E' _ _ => E' = cls) (fun _ => False)) args s 1 6 (fun _ => False)) (F0 m pc ls []) := by
  obtain ⟨sa, hstr⟩ := hstr
  exact vx_throwSW S.1 S.2.1 hst S.2.2.2.1 hcls hnames (S.2.2.2.2 _ hk) (S.2.2.2.2 _ hini) hstr hat hgood hX.1 hX.2.1 hS (hsize.trans S.2.2.1.symm) d0 d3 d4 d7 d10 (fun x hx => (ht x hx).elim) hRf (by simpa using hRl) (by omega) (by omega) hlk
    (fun t hvm hz hq => ⟨(), hb, rfl, ⟨hz, fun q h1 _ => hq q h1⟩⟩) (fun z hz => nomatch hz) (by omega) (by omega)
theorem t_demS (S : CallFix p m c cc nL s args Ts own) {b : Prop} {cls : String} {E : Option String} {Qc : Array Value → State → Outcome → State → Prop} (hM : TD l y ws fr lo D tysC As [] b cls) (hT : GoodIn Ts (va_wsS own index y ws)) (hw : ws = Cond.code y bytes maxL ret :: ws')
    (hd : y.cls ≠ "java/lang/invoke/MethodHandle" ∧ y.cls ≠ "java/lang/invoke/VarHandle" ∧ (parseMethodDescriptor y.desc).map (fun d => d.parameters.length) = some n) (hR : fr + 1 ≤ R.frames ∧ 8 + (maxL + 11) + lo ≤ R.locals)
    (hn : As.length = n) (hsize : ls.size = nL) (hstack : st0 = As.reverse ++ rest) (hc8 : (rest.map fun v => v.category).sum ≤ 8) (hdg : decode cc pc = .ok (.invokestatic index, 3)) (hf : cells + 1 ≤ R.cells ∧ slots + 6 ≤ R.slots)
    (hK : KK D tysC s) (hX : KXA (va_B w) s) (hP : va_P D vwCl w H) (hS : va_S (va_B w) s.heap H locs) (ht : ∀ x ∈ c.exceptionTable.toList, False) (hlk : meth.locks = false) (hcm : cells + 1 ≤ mc) (hsm : slots + 6 ≤ ms) (hE : ¬ b → E = some cls)
    (kk : b → ∀ (H1 : Heap) (locs1 : List Loc), va_P D vwCl w H1 → va_S (va_B w) s.heap H1 locs1 → W p l e R s m args below meth c H1 locs1 (cells + 1) (slots + 6) (vx_MQ below Qc (XT D w E) args s mc ms (va_B w)) (F0 m (pc + 3) ls rest)) : W p l e R s m args below meth c H locs cells slots (vx_MQ below Qc (XT D w E) args s mc ms (va_B w)) (F0 m pc ls st0) := by
  refine vx_callv (vx_runS (As := As) (rest := rest) S hM (va_cwS n S.2.2.2.2 hT hw rfl rfl hd hR) ⟨blindX, fun U hU hW => ⟨rfl, fun k q h => by simp at h, KK.moved hW hK, hX.at hW hU hS (fun q h => by obtain ⟨k, e, h⟩ := h; simp at h), ⟨fun i j p q h => by simp at h, fun k q h => by simp at h⟩⟩⟩ rfl hn hsize hstack (lv_room hc8) hdg hf) hS (fun q _ h => h.elim) (fun q h => h.elim) (fun q _ h => h.elim) (fun E' ce q9 u t H1 locs1 ht1 hvm hnb hEc hz1 hk1 hS1 hce hcv hcl => ?_) (fun u t H1 locs1 ht1 hvm hb hB hz1 hk1 hS1 => ?_)
  · have hP1 := keep_P hP hk1
    have hEc : E' = cls := hEc
    subst hEc
    exact vx_out (fun x hx => (ht x hx).elim) hlk hce hcv hcl (fun t2 ht2 _ => ⟨(), trivial, ⟨hE hnb, by rw [ht2]; exact hP1⟩, hS1.F ht2⟩) hS1.2.2 hcm hsm
  · exact kk hb H1 locs1 (keep_P hP hk1) hS1
theorem t_demV (S : CallFix p m c cc nL s args Ts own) {bb : Prop} {cls : String} {E : Option String} {Qc : Array Value → State → Outcome → State → Prop} (hM : TD l y ws fr lo D tysC (.ref b :: As) w bb cls) (hT : GoodIn Ts (wsV own index C y ws)) (hw : ws = Cond.code y bytes maxL ret :: ws')
    (hd : y.cls = C ∧ y.cls ≠ "java/lang/invoke/MethodHandle" ∧ y.cls ≠ "java/lang/invoke/VarHandle" ∧ (parseMethodDescriptor y.desc).map (fun d => d.parameters.length) = some n) (hR : fr + 1 ≤ R.frames ∧ 8 + (maxL + 11) + lo ≤ R.locals)
    (hn : As.length = n) (hsize : ls.size = nL) (hstack : st0 = As.reverse ++ .ref b :: rest) (hc8 : (rest.map fun v => v.category).sum ≤ 8) (hdg : decode cc pc = .ok (.invokevirtual index, 3)) (hf : cells + 1 ≤ R.cells ∧ slots + 6 ≤ R.slots)
    (hK : KK D tysC s) (hX : KXA (va_B w) s) (hP : va_P D vwCl w H) (hD : va_D (va_B w) w) (hS : va_S (va_B w) s.heap H locs) (ht : ∀ x ∈ c.exceptionTable.toList, False) (hlk : meth.locks = false) (hcm : cells + 1 ≤ mc) (hsm : slots + 6 ≤ ms) (hE : ¬ bb → E = some cls) {q0 ci N : Nat} {T : u_T} {fs : List Value} (he : w[q0]? = some (b, .inr (ci, fs))) (hc : vwCl[ci]? = some (C, T, N))
    (kk : bb → ∀ (H1 : Heap) (locs1 : List Loc), va_P D vwCl w H1 → va_S (va_B w) s.heap H1 locs1 → W p l e R s m args below meth c H1 locs1 (cells + 1) (slots + 6) (vx_MQ below Qc (XT D w E) args s mc ms (va_B w)) (F0 m (pc + 3) ls rest)) : W p l e R s m args below meth c H locs cells slots (vx_MQ below Qc (XT D w E) args s mc ms (va_B w)) (F0 m pc ls st0) := by
  refine vx_callv (vx_runV (As := As) (rest := rest) S hM (cwV n S.2.2.2.2 hT hw rfl rfl hd hR) ⟨blindX, va_recv hK.1 hP hc he, fun U hU hW => ⟨rfl, by rw [hU]; exact hP, KK.moved hW hK, hX.at hW hU hS (fun q h => h), hD.weaken (fun _ _ _ _ => trivial)⟩⟩ rfl hn hsize hstack (lv_room hc8) hdg hf) hS (fun q _ h => h.elim) (fun q h => h.elim) (fun q _ h => h.elim) (fun E' ce q9 u t H1 locs1 ht1 hvm hnb hEc hz1 hk1 hS1 hce hcv hcl => ?_) (fun u t H1 locs1 ht1 hvm hb hB hz1 hk1 hS1 => ?_)
  · have hP1 := keep_P hP hk1
    have hEc : E' = cls := hEc
    subst hEc
    exact vx_out (fun x hx => (ht x hx).elim) hlk hce hcv hcl (fun t2 ht2 _ => ⟨(), trivial, ⟨hE hnb, by rw [ht2]; exact hP1⟩, hS1.F ht2⟩) hS1.2.2 hcm hsm
  · exact kk hb H1 locs1 (keep_P hP hk1) hS1
/-- a thrower's callee, as the last thing that may throw: demandIndex at the end of demandGoose, demandVisitor -/
theorem t_demD (S : CallFix p m c cc nL s args Ts own) {bb : Prop} {cls : String} {Qc : Array Value → State → Outcome → State → Prop} (hM : TD l y ws fr lo D tysC As [] bb cls) (hT : GoodIn Ts (va_wsS own index y ws)) (hw : ws = Cond.code y bytes maxL ret :: ws')
    (hd : y.cls ≠ "java/lang/invoke/MethodHandle" ∧ y.cls ≠ "java/lang/invoke/VarHandle" ∧ (parseMethodDescriptor y.desc).map (fun d => d.parameters.length) = some n) (hR : fr + 1 ≤ R.frames ∧ 8 + (maxL + 11) + lo ≤ R.locals)
    (hn : As.length = n) (hsize : ls.size = nL) (hstack : st0 = As.reverse ++ rest) (hc8 : (rest.map fun v => v.category).sum ≤ 8) (hdg : decode cc pc = .ok (.invokestatic index, 3)) (hf : cells + 1 ≤ R.cells ∧ slots + 6 ≤ R.slots)
    (hK : KK D tysC s) (hX : KXA (va_B w) s) (hP : va_P D vwCl w H) (hS : va_S (fun _ => False) s.heap H locs) (ht : ∀ x ∈ c.exceptionTable.toList, False) (hlk : meth.locks = false) (hcm : cells + 1 ≤ mc) (hsm : slots + 6 ≤ ms)
    (kk : bb → ∀ (H1 : Heap) (locs1 : List Loc), va_S (fun _ => False) s.heap H1 locs1 → W p l e R s m args below meth c H1 locs1 (cells + 1) (slots + 6) (vx_MQ below Qc (vx_X (fun _ : Unit => ¬ bb) (fun E' _ _ => E' = cls) (fun _ => False)) args s mc ms (fun _ => False)) (F0 m (pc + 3) ls rest)) : W p l e R s m args below meth c H locs cells slots (vx_MQ below Qc (vx_X (fun _ : Unit => ¬ bb) (fun E' _ _ => E' = cls) (fun _ => False)) args s mc ms (fun _ => False)) (F0 m pc ls st0) := by
  have hSB : va_S (va_B w) s.heap H locs := ⟨hS.1, fun q h1 _ => hS.2.1 q h1 (fun h => h), fun z hz => (hS.2.2 z hz).elim⟩
  refine vx_callv (vx_runS (As := As) (rest := rest) S hM (va_cwS n S.2.2.2.2 hT hw rfl rfl hd hR) ⟨blindX, fun U hU hW => ⟨rfl, fun k q h => by simp at h, KK.moved hW hK, hX.at hW hU hSB (fun q h => by obtain ⟨k, e, h⟩ := h; simp at h), ⟨fun i j p q h => by simp at h, fun k q h => by simp at h⟩⟩⟩ rfl hn hsize hstack (lv_room hc8) hdg hf) hS (fun q _ h => h.elim) (fun q h => h.elim) (fun q _ h => h.elim) (fun E' ce q9 u t H1 locs1 ht1 hvm hnb hEc hz1 hk1 hS1 hce hcv hcl => ?_) (fun u t H1 locs1 ht1 hvm hb hB hz1 hk1 hS1 => ?_)
  · have hEc : E' = cls := hEc
    subst hEc
    exact vx_out (fun x hx => (ht x hx).elim) hlk hce hcv hcl (fun t2 ht2 _ => ⟨(), hnb, rfl, hS1.F ht2⟩) hS1.2.2 hcm hsm
  · exact kk hb H1 locs1 hS1
theorem t_retI (S : CallFix p m c cc nL s args Ts own) {ty : FieldType} {v v1 : Int32} {E : Option String} {XC : String → State → State → Prop} (hr : meth.sig.returnType = some ty) (hlk : meth.locks = false) (hP : va_P D vwCl w H) (hw : w = w1) (hS : va_S (va_B w0) s.heap H locs) (hE : E = none) (hv : v1 = v) (hn : narrow ty (.int v1) = .int v1) (hcm : cells ≤ mc) (hsm : slots ≤ ms) (hdg : decode cc pc = .ok (.ireturn, 1)) :
    W p l e R s m args below meth c H locs cells slots (vx_MQ below (va_Qi (fun r (_ : Unit) => E = none ∧ r = v) (fun _ t => va_P D vwCl w1 t.heap) (va_B w0)) XC args s mc ms (va_B w0)) (F0 m pc ls [.int v1]) :=
  vx_ret (W.widen hcm hsm (W.zret S.1 S.2.1 hr hn (fun t ht hW => ⟨⟨v1, (), rfl, ⟨hE, hv⟩, by show va_P D vwCl w1 t.heap; rw [ht, ← hw]; exact hP⟩, hS.F ht⟩) hS.2.2 hdg hlk))
/-- a call of a thrower that doesn't throw here -/
theorem t_okI (S : CallFix p m c cc nL s args Ts own) {v v1 : Int32} {w2 : va_W} {E : Option String} (hM : TI l y ws fr mcY lo D tysC (.ref b :: As) wc w2 E v1) (hE : E = none) (hv1 : v1 = v) (hw2 : w2 = w1) (hT : GoodIn Ts (wsV own index C y ws)) (hw : ws = Cond.code y bytes maxL ret :: ws')
    (hd : y.cls = C ∧ y.cls ≠ "java/lang/invoke/MethodHandle" ∧ y.cls ≠ "java/lang/invoke/VarHandle" ∧ (parseMethodDescriptor y.desc).map (fun d => d.parameters.length) = some n) (hR : fr + 1 ≤ R.frames ∧ 8 + (maxL + 11) + lo ≤ R.locals)
    (hn : As.length = n) (hsize : ls.size = nL) (hstack : st0 = As.reverse ++ .ref b :: rest) (hc8 : (rest.map fun v => v.category).sum ≤ 8) (hdg : decode cc pc = .ok (.invokevirtual index, 3)) (hf : cells + mcY ≤ R.cells ∧ slots + 6 * mcY ≤ R.slots)
    (hK : KK D tysC s) (hX : KXA A0 s) (hP : va_P D vwCl w H) (hD : va_D A0 w) (hS : va_S A0 s.heap H locs) (isC : List Nat) (hC : isC.map (fun i => w[i]?) = wc.map some) (hnd : va_nd isC = true) (hl : isC.length = w1.length) (w' : va_W) (hw' : mset w isC w1 = w') (ha : w'.map (·.1) = w.map (·.1)) {q0 ci N : Nat} {T : u_T} {fs : List Value} (he : w[q0]? = some (b, .inr (ci, fs))) (hc : vwCl[ci]? = some (C, T, N))
    (kk : ∀ (H1 : Heap) (locs1 : List Loc), va_P D vwCl w' H1 → va_D A0 w' → va_S A0 s.heap H1 locs1 → W p l e R s m args below meth c H1 locs1 (cells + mcY) (slots + 6 * mcY) Q (F0 m (pc + 3) ls (.int v :: rest))) : W p l e R s m args below meth c H locs cells slots Q (F0 m pc ls st0) := by
  subst hw2
  subst hv1
  have hPc := sub_at hP isC hC
  have hDc := subD_at hD isC hnd hC
  refine vx_calli (vx_runV (As := As) (rest := rest) S hM (cwV n S.2.2.2.2 hT hw rfl rfl hd hR) ⟨blindX, va_recv hK.1 hP hc he, fun U hU hW => ⟨rfl, by rw [hU]; exact hPc, KK.moved hW hK, hX.at hW hU hS (fun q h => B_in hD isC hC q h), hDc.weaken (fun _ _ _ _ => trivial)⟩⟩ rfl hn hsize hstack (lv_room hc8) hdg hf) hS (fun q _ h => B_in hD isC hC q h) (fun q h => B_in hD isC hC q h) (fun q _ h => B_in hD isC hC q h) (fun E' ce q9 u t H1 locs1 ht1 hvm hnb hEc hz1 hk1 hS1 hce hcv hcl => ?_) (fun r u t H1 locs1 ht hvm hw1 hB hz1 hk1 hS => ?_)
  · rw [hE] at hEc
    exact absurd hEc.1 (by simp)
  · rw [ht] at hB
    obtain ⟨-, hw1⟩ := hw1
    subst hw1
    exact kk H1 locs1 (by rw [← hw']; exact mjoin hP hD isC hC hl hk1 hB) (D_re hD ha) hS
end
