/-! contracts over the picture, and their calls -/
def PS (l : Launch) (y : MethodName) (ws : List Cond) (fr lo : Nat) (D : va_G) (cI cA : ClassId) (av : List Value) (w : va_W) (v : Int32) : Prop :=
  Met l y ws (rmN fr lo) (va_Pc av (fun U => va_P D vwCl w U.heap ∧ KS D cI cA U)) (va_Qi (fun r (_ : Unit) => r = v) (fun _ _ => True) (fun _ => False)) 0 0 (fun _ => False)
def GS (l : Launch) (y : MethodName) (ws : List Cond) (fr mc ms lo : Nat) (D : va_G) (cI cA : ClassId) (av : List Value) (w w1 : va_W) (v : Int32) : Prop :=
  ∀ sz : Nat, Met l y ws (rmG fr mc ms lo) (va_Pc av (fun U => U.heap.size = sz ∧ va_P D vwCl w U.heap ∧ KS D cI cA U ∧ va_D (fun _ => True) w)) (va_Qi (fun r (_ : Unit) => r = v) (fun _ t => va_P D vwCl w1 t.heap) (va_B w)) mc ms (va_A w sz)
def GV (l : Launch) (y : MethodName) (ws : List Cond) (fr mc ms lo : Nat) (D : va_G) (cI cA : ClassId) (av : List Value) (w w1 : va_W) : Prop :=
  ∀ sz : Nat, Met l y ws (rmG fr mc ms lo) (va_Pc av (fun U => U.heap.size = sz ∧ va_P D vwCl w U.heap ∧ KS D cI cA U ∧ va_D (fun _ => True) w)) (va_Qv (fun _ : Unit => True) (fun _ t => va_P D vwCl w1 t.heap) (va_B w)) mc ms (va_A w sz)
/-- with calls of the class in it -/
def XS (l : Launch) (y : MethodName) (ws : List Cond) (fr mc ms lo : Nat) (D : va_G) (cI cA : ClassId) (av : List Value) (w w1 : va_W) (v : Int32) : Prop :=
  ∀ sz : Nat, Met l y ws (rmG fr mc ms lo) (va_Pc av (fun U => U.heap.size = sz ∧ va_P D vwCl w U.heap ∧ KS D cI cA U ∧ KXA (va_A w sz) U ∧ va_D (fun _ => True) w)) (va_Qi (fun r (_ : Unit) => r = v) (fun _ t => va_P D vwCl w1 t.heap) (va_B w)) mc ms (va_A w sz)
abbrev QGV (below : List Frame) (args : Array Value) (s : State) (D : va_G) (mc ms : Nat) (w0 : va_W) (sz : Nat) (w1 : va_W) : State → Prop := MQ below (va_Qv (fun _ : Unit => True) (fun _ t => va_P D vwCl w1 t.heap) (va_B w0)) args s mc ms (va_A w0 sz)
theorem ap_s {wc : va_W} : wc = wc ++ [] := (List.append_nil _).symm
theorem ap_t {wl wc : va_W} : wl ++ wc = wl ++ (wc ++ []) := by rw [List.append_nil]
section
variable {l : Launch} {y : MethodName} {ws ws' : List Cond} {fr lo mc ms : Nat} {D : va_G} {cI cA : ClassId} {av : List Value} {w w1 : va_W} {cc : ByteArray} {maxL : Nat} {ret : Option FieldType} {Qc : Array Value → State → Outcome → State → Prop} {free : Addr → Prop}
theorem q_bodyP (hy : plainName y.cls = true) (hw : ws = Cond.code y cc maxL ret :: ws') (hav : (lg_sl av).length ≤ maxL)
    (body : ∀ p e s m args below meth c H ls, CallFix p m c cc maxL s args ws y.cls → meth.sig.returnType = ret → meth.locks = false → lv_has ls maxL (lv_args 0 av) → va_P D vwCl w H → KS D cI cA s → va_S (fun _ => False) s.heap H [] →
      W p l e (rmN fr lo) s m args below meth c H [] 0 0 (MQ below Qc args s 0 0 free) (F0 m 0 ls [])) :
    Met l y ws (rmN fr lo) (va_Pc av (fun U => va_P D vwCl w U.heap ∧ KS D cI cA U)) Qc 0 0 free := by
  refine Met.ofW (cc := cc) (maxL := maxL) (ret := ret) hy hw ?_
  intro p e s m args below meth c s₁ B hml hv
  obtain ⟨rfl, hP, hK⟩ := hv
  have hl := lv_entry av (n := maxL) hav
  rw [lg_entry_eq]
  exact body p e s m _ below meth c s.heap _ ⟨B.exec, B.bytes, hml, findClass_of_methodNamed B.named, atoms_spec (ws := ws) B.pre⟩ B.returns B.notSynchronized hl hP hK va_S.rf
theorem q_bodyG {sz : Nat} (hy : plainName y.cls = true) (hw : ws = Cond.code y cc maxL ret :: ws') (hav : (lg_sl av).length ≤ maxL)
    (body : ∀ p e s m args below meth c H ls, s.heap.size = sz → CallFix p m c cc maxL s args ws y.cls → meth.sig.returnType = ret → meth.locks = false → lv_has ls maxL (lv_args 0 av) → va_P D vwCl w H → KS D cI cA s → va_D (va_A w sz) w → va_S (va_A w sz) s.heap H [] →
      W p l e (rmG fr mc ms lo) s m args below meth c H [] 0 0 (MQ below Qc args s mc ms free) (F0 m 0 ls [])) :
    Met l y ws (rmG fr mc ms lo) (va_Pc av (fun U => U.heap.size = sz ∧ va_P D vwCl w U.heap ∧ KS D cI cA U ∧ va_D (fun _ => True) w)) Qc mc ms free := by
  refine Met.ofW (cc := cc) (maxL := maxL) (ret := ret) hy hw ?_
  intro p e s m args below meth c s₁ B hml hv
  obtain ⟨rfl, hz, hP, hK, hD⟩ := hv
  have hl := lv_entry av (n := maxL) hav
  rw [lg_entry_eq]
  exact body p e s m _ below meth c s.heap _ hz ⟨B.exec, B.bytes, hml, findClass_of_methodNamed B.named, atoms_spec (ws := ws) B.pre⟩ B.returns B.notSynchronized hl hP hK hD.self va_S.rf
theorem q_bodyX {sz : Nat} (hy : plainName y.cls = true) (hw : ws = Cond.code y cc maxL ret :: ws') (hav : (lg_sl av).length ≤ maxL)
    (body : ∀ p e s m args below meth c H ls, s.heap.size = sz → CallFix p m c cc maxL s args ws y.cls → meth.sig.returnType = ret → meth.locks = false → lv_has ls maxL (lv_args 0 av) → va_P D vwCl w H → KS D cI cA s → KXA (va_A w sz) s → va_D (va_A w sz) w → va_S (va_A w sz) s.heap H [] →
      W p l e (rmG fr mc ms lo) s m args below meth c H [] 0 0 (MQ below Qc args s mc ms free) (F0 m 0 ls [])) :
    Met l y ws (rmG fr mc ms lo) (va_Pc av (fun U => U.heap.size = sz ∧ va_P D vwCl w U.heap ∧ KS D cI cA U ∧ KXA (va_A w sz) U ∧ va_D (fun _ => True) w)) Qc mc ms free := by
  refine Met.ofW (cc := cc) (maxL := maxL) (ret := ret) hy hw ?_
  intro p e s m args below meth c s₁ B hml hv
  obtain ⟨rfl, hz, hP, hK, hX, hD⟩ := hv
  have hl := lv_entry av (n := maxL) hav
  rw [lg_entry_eq]
  exact body p e s m _ below meth c s.heap _ hz ⟨B.exec, B.bytes, hml, findClass_of_methodNamed B.named, atoms_spec (ws := ws) B.pre⟩ B.returns B.notSynchronized hl hP hK hX hD.self va_S.rf
theorem blindPS : FrameBlind (va_Pc av (fun U => va_P D vwCl w U.heap ∧ KS D cI cA U)) := fun a U g mk q => ⟨q.1, q.2.1, KS.call q.2.2⟩
theorem blindGS {sz : Nat} : FrameBlind (va_Pc av (fun U => U.heap.size = sz ∧ va_P D vwCl w U.heap ∧ KS D cI cA U ∧ va_D (fun _ => True) w)) := fun a U g mk q => ⟨q.1, q.2.1, q.2.2.1, KS.call q.2.2.2.1, q.2.2.2.2⟩
theorem blindXS {sz : Nat} : FrameBlind (va_Pc av (fun U => U.heap.size = sz ∧ va_P D vwCl w U.heap ∧ KS D cI cA U ∧ KXA (va_A w sz) U ∧ va_D (fun _ => True) w)) := fun a U g mk q => ⟨q.1, q.2.1, q.2.2.1, KS.call q.2.2.2.1, KXA.call q.2.2.2.2.1, q.2.2.2.2.2⟩
end
section
variable {p : Program} {l : Launch} {e : Env} {R : Room} {s : State} {m : MethodId} {args : Array Value} {below : List Frame} {meth : Method} {c : Code} {H : Heap} {locs : List Loc} {cells slots : Nat} {Q : State → Prop}
variable {cc : ByteArray} {pc nL : Nat} {ls : Array Slot} {rest st0 : List Value} {D : va_G} {A0 : Nat → Prop} {cI cA : ClassId} {w wc wr wl wm w1 : va_W} {H0 : Heap} {Ts : List Cond} {own : String}
variable {C : String} {y : MethodName} {bytes : ByteArray} {maxL fr lo mc ms mcY msY index n : Nat} {ret : Option FieldType} {ws ws' : List Cond} {As : List Value} {b : Nat}
theorem q_pV (S : CallFix p m c cc nL s args Ts own) {v : Int32} (hM : PS l y ws fr lo D cI cA (.ref b :: As) wc v) (hT : GoodIn Ts (wsV own index C y ws)) (hw : ws = Cond.code y bytes maxL ret :: ws')
    (hd : y.cls = C ∧ y.cls ≠ "java/lang/invoke/MethodHandle" ∧ y.cls ≠ "java/lang/invoke/VarHandle" ∧ (parseMethodDescriptor y.desc).map (fun d => d.parameters.length) = some n) (hR : fr + 1 ≤ R.frames ∧ 8 + (maxL + 11) + lo ≤ R.locals)
    (hn : As.length = n) (hsize : ls.size = nL) (hstack : st0 = As.reverse ++ .ref b :: rest) (hc8 : (rest.map fun v => v.category).sum ≤ 8) (hdg : decode cc pc = .ok (.invokevirtual index, 3)) (hf : cells ≤ R.cells ∧ slots ≤ R.slots)
    (hK : KS D cI cA s) (hP : va_P D vwCl w H) (hS : va_S A0 H0 H locs) (hw9 : w = wc ++ wr) {q0 ci N : Nat} {T : u_T} {fs : List Value} (he : wc[q0]? = some (b, .inr (ci, fs))) (hc : vwCl[ci]? = some (C, T, N))
    (kk : ∀ (H1 : Heap) (locs1 : List Loc), va_P D vwCl w H1 → va_S A0 H0 H1 locs1 → W p l e R s m args below meth c H1 locs1 cells slots Q (F0 m (pc + 3) ls (.int v :: rest))) : W p l e R s m args below meth c H locs cells slots Q (F0 m pc ls st0) := by
  subst hw9
  have hPc := P_pre hP
  refine va_calli (va_runV (As := As) (rest := rest) S hM (cwV n S.2.2.2.2 hT hw rfl rfl hd hR) ⟨blindPS, va_recv hK.1.1 hPc hc he, fun U hU hW => ⟨rfl, by rw [hU]; exact hPc, KS.moved hW hK⟩⟩ rfl hn hsize hstack (lv_room hc8) hdg hf) hS (fun q _ h => h.elim) (fun q h => h.elim) (fun r u t H1 locs1 ht hvm hw1 hB hz1 hk1 hS => ?_)
  subst hw1
  exact kk H1 locs1 (keep_P hP hk1) hS
theorem q_gI (S : CallFix p m c cc nL s args Ts own) {v : Int32} (hM : GS l y ws fr mcY msY lo D cI cA (.ref b :: As) wc w1 v) (hT : GoodIn Ts (wsV own index C y ws)) (hw : ws = Cond.code y bytes maxL ret :: ws')
    (hd : y.cls = C ∧ y.cls ≠ "java/lang/invoke/MethodHandle" ∧ y.cls ≠ "java/lang/invoke/VarHandle" ∧ (parseMethodDescriptor y.desc).map (fun d => d.parameters.length) = some n) (hR : fr + 1 ≤ R.frames ∧ 8 + (maxL + 11) + lo ≤ R.locals)
    (hn : As.length = n) (hsize : ls.size = nL) (hstack : st0 = As.reverse ++ .ref b :: rest) (hc8 : (rest.map fun v => v.category).sum ≤ 8) (hdg : decode cc pc = .ok (.invokevirtual index, 3)) (hf : cells + mcY ≤ R.cells ∧ slots + msY ≤ R.slots)
    (hK : KS D cI cA s) (hP : va_P D vwCl w H) (hD : va_D A0 w) (hS : va_S A0 s.heap H locs) (hA : ∀ q, s.heap.size ≤ q → A0 q) (hw9 : w = wc ++ wr) (ha : w1.map (·.1) = wc.map (·.1)) (hl : w1.length = wc.length) (w' : va_W) (hw' : w1 ++ wr = w') {q0 ci N : Nat} {T : u_T} {fs : List Value} (he : wc[q0]? = some (b, .inr (ci, fs))) (hc : vwCl[ci]? = some (C, T, N))
    (kk : ∀ (H1 : Heap) (locs1 : List Loc), va_P D vwCl w' H1 → va_D A0 w' → va_S A0 s.heap H1 locs1 → W p l e R s m args below meth c H1 locs1 (cells + mcY) (slots + msY) Q (F0 m (pc + 3) ls (.int v :: rest))) : W p l e R s m args below meth c H locs cells slots Q (F0 m pc ls st0) := by
  subst hw9
  subst hw'
  have hPc := P_pre hP
  have hDc := D_pre hD
  refine va_calli (va_runV (As := As) (rest := rest) S (hM H.size) (cwV n S.2.2.2.2 hT hw rfl rfl hd hR) ⟨blindGS, va_recv hK.1.1 hPc hc he, fun U hU hW => ⟨rfl, by rw [hU], by rw [hU]; exact hPc, KS.moved hW hK, hDc.weaken (fun _ _ _ _ => trivial)⟩⟩ rfl hn hsize hstack (lv_room hc8) hdg hf) hS (fun q _ h => B_Dp hD q h) (fun q h => h.elim (fun h => B_Dp hD q h) (fun h => hA q (Nat.le_trans hS.1 h))) (fun r u t H1 locs1 ht hvm hw1 hB hz1 hk1 hS => ?_)
  rw [ht] at hB
  subst hw1
  exact kk H1 locs1 (pre_P hP hD hl hk1 hB) (pre_D hD ha) hS
theorem q_gV (S : CallFix p m c cc nL s args Ts own) (hM : GV l y ws fr mcY msY lo D cI cA (.ref b :: As) wc w1) (hT : GoodIn Ts (wsV own index C y ws)) (hw : ws = Cond.code y bytes maxL ret :: ws')
    (hd : y.cls = C ∧ y.cls ≠ "java/lang/invoke/MethodHandle" ∧ y.cls ≠ "java/lang/invoke/VarHandle" ∧ (parseMethodDescriptor y.desc).map (fun d => d.parameters.length) = some n) (hR : fr + 1 ≤ R.frames ∧ 8 + (maxL + 11) + lo ≤ R.locals)
    (hn : As.length = n) (hsize : ls.size = nL) (hstack : st0 = As.reverse ++ .ref b :: rest) (hc8 : (rest.map fun v => v.category).sum ≤ 8) (hdg : decode cc pc = .ok (.invokevirtual index, 3)) (hf : cells + mcY ≤ R.cells ∧ slots + msY ≤ R.slots)
    (hK : KS D cI cA s) (hP : va_P D vwCl w H) (hD : va_D A0 w) (hS : va_S A0 s.heap H locs) (hA : ∀ q, s.heap.size ≤ q → A0 q) (hw9 : w = wc ++ wr) (ha : w1.map (·.1) = wc.map (·.1)) (hl : w1.length = wc.length) (w' : va_W) (hw' : w1 ++ wr = w') {q0 ci N : Nat} {T : u_T} {fs : List Value} (he : wc[q0]? = some (b, .inr (ci, fs))) (hc : vwCl[ci]? = some (C, T, N))
    (kk : ∀ (H1 : Heap) (locs1 : List Loc), va_P D vwCl w' H1 → va_D A0 w' → va_S A0 s.heap H1 locs1 → W p l e R s m args below meth c H1 locs1 (cells + mcY) (slots + msY) Q (F0 m (pc + 3) ls rest)) : W p l e R s m args below meth c H locs cells slots Q (F0 m pc ls st0) := by
  subst hw9
  subst hw'
  have hPc := P_pre hP
  have hDc := D_pre hD
  refine va_callv (va_runV (As := As) (rest := rest) S (hM H.size) (cwV n S.2.2.2.2 hT hw rfl rfl hd hR) ⟨blindGS, va_recv hK.1.1 hPc hc he, fun U hU hW => ⟨rfl, by rw [hU], by rw [hU]; exact hPc, KS.moved hW hK, hDc.weaken (fun _ _ _ _ => trivial)⟩⟩ rfl hn hsize hstack (lv_room hc8) hdg hf) hS (fun q _ h => B_Dp hD q h) (fun q h => h.elim (fun h => B_Dp hD q h) (fun h => hA q (Nat.le_trans hS.1 h))) (fun u t H1 locs1 ht hvm hw1 hB hz1 hk1 hS => ?_)
  rw [ht] at hB
  exact kk H1 locs1 (pre_P hP hD hl hk1 hB) (pre_D hD ha) hS
/-- a static one that makes cells, and keeps none -/
theorem q_gS (S : CallFix p m c cc nL s args Ts own) {v : Int32} (hM : GS l y ws fr mcY msY lo D cI cA As [] [] v) (hT : GoodIn Ts (va_wsS own index y ws)) (hw : ws = Cond.code y bytes maxL ret :: ws')
    (hd : y.cls ≠ "java/lang/invoke/MethodHandle" ∧ y.cls ≠ "java/lang/invoke/VarHandle" ∧ (parseMethodDescriptor y.desc).map (fun d => d.parameters.length) = some n) (hR : fr + 1 ≤ R.frames ∧ 8 + (maxL + 11) + lo ≤ R.locals)
    (hn : As.length = n) (hsize : ls.size = nL) (hstack : st0 = As.reverse ++ rest) (hc8 : (rest.map fun v => v.category).sum ≤ 8) (hdg : decode cc pc = .ok (.invokestatic index, 3)) (hf : cells + mcY ≤ R.cells ∧ slots + msY ≤ R.slots)
    (hK : KS D cI cA s) (hP : va_P D vwCl w H) (hS : va_S A0 s.heap H locs) (hA : ∀ q, s.heap.size ≤ q → A0 q)
    (kk : ∀ (H1 : Heap) (locs1 : List Loc), va_P D vwCl w H1 → va_S A0 s.heap H1 locs1 → W p l e R s m args below meth c H1 locs1 (cells + mcY) (slots + msY) Q (F0 m (pc + 3) ls (.int v :: rest))) : W p l e R s m args below meth c H locs cells slots Q (F0 m pc ls st0) := by
  have hB0 : ∀ q, va_B ([] : va_W) q → False := fun q h => by obtain ⟨k, e, h⟩ := h; simp at h
  refine va_calli (va_runS (As := As) (rest := rest) S (hM H.size) (va_cwS n S.2.2.2.2 hT hw rfl rfl hd hR) ⟨blindGS, fun U hU hW => ⟨rfl, by rw [hU], fun k q h => by simp at h, KS.moved hW hK, ⟨fun i j p q h => by simp at h, fun k q h => by simp at h⟩⟩⟩ rfl hn hsize hstack (lv_room hc8) hdg hf) hS (fun q _ h => (hB0 q h).elim) (fun q h => h.elim (fun h => (hB0 q h).elim) (fun h => hA q (Nat.le_trans hS.1 h))) (fun r u t H1 locs1 ht hvm hw1 hB hz1 hk1 hS => ?_)
  subst hw1
  exact kk H1 locs1 (keep_P hP (fun q h1 _ => hk1 q h1 (fun h => hB0 q h))) hS
theorem k_retGV (S : CallFix p m c cc nL s args Ts own) {w0 : va_W} {sz : Nat} (hr : meth.sig.returnType = none) (hlk : meth.locks = false) (hP : va_P D vwCl w H) (hw : w = w1) (hS : va_S (va_A w0 sz) s.heap H locs) (hz : s.heap.size = sz) (hcm : cells ≤ mc) (hsm : slots ≤ ms) (hdg : decode cc pc = .ok (.return_, 1)) :
    W p l e R s m args below meth c H locs cells slots (QGV below args s D mc ms w0 sz w1) (F0 m pc ls []) :=
  W.widen hcm hsm (W.vret S.1 S.2.1 hr (fun t ht hW => ⟨⟨(), rfl, trivial, by show va_P D vwCl w1 t.heap; rw [ht, ← hw]; exact hP⟩, (by
    have h := hS.F ht
    exact ⟨h.1, fun q h1 h2 => h.2 q h1 (fun h3 => h3.elim h2 (fun h4 => absurd h1 (by omega)))⟩)⟩) hS.2.2 hdg hlk)
/-- a call of the class, beside other cells -/
theorem x_tI (S : CallFix p m c cc nL s args Ts own) {v v1 : Int32} {w2 : va_W} {E : Option String} (hM : TI l y ws fr mcY lo D [(cI, .int)] (.ref b :: As) wc w2 E v1) (hE : E = none) (hv1 : v1 = v) (hw2 : w2 = w1) (hT : GoodIn Ts (wsV own index C y ws)) (hw : ws = Cond.code y bytes maxL ret :: ws')
    (hd : y.cls = C ∧ y.cls ≠ "java/lang/invoke/MethodHandle" ∧ y.cls ≠ "java/lang/invoke/VarHandle" ∧ (parseMethodDescriptor y.desc).map (fun d => d.parameters.length) = some n) (hR : fr + 1 ≤ R.frames ∧ 8 + (maxL + 11) + lo ≤ R.locals)
    (hn : As.length = n) (hsize : ls.size = nL) (hstack : st0 = As.reverse ++ .ref b :: rest) (hc8 : (rest.map fun v => v.category).sum ≤ 8) (hdg : decode cc pc = .ok (.invokevirtual index, 3)) (hf : cells + mcY ≤ R.cells ∧ slots + 6 * mcY ≤ R.slots)
    (hK : KS D cI cA s) (hX : KXA A0 s) (hP : va_P D vwCl w H) (hD : va_D A0 w) (hS : va_S A0 s.heap H locs) (hw9 : w = wl ++ (wc ++ wm)) (ha : w1.map (·.1) = wc.map (·.1)) (hl : w1.length = wc.length) (w' : va_W) (hw' : wl ++ (w1 ++ wm) = w') {q0 ci N : Nat} {T : u_T} {fs : List Value} (he : wc[q0]? = some (b, .inr (ci, fs))) (hc : vwCl[ci]? = some (C, T, N))
    (kk : ∀ (H1 : Heap) (locs1 : List Loc), va_P D vwCl w' H1 → va_D A0 w' → va_S A0 s.heap H1 locs1 → W p l e R s m args below meth c H1 locs1 (cells + mcY) (slots + 6 * mcY) Q (F0 m (pc + 3) ls (.int v :: rest))) : W p l e R s m args below meth c H locs cells slots Q (F0 m pc ls st0) := by
  subst hw2
  subst hv1
  subst hw9
  subst hw'
  have hPc := P_pre (app_Pr hP)
  have hDc := D_pre (app_Dr hD)
  have hB : ∀ q, va_B wc q → A0 q := fun q h => B_Dp (app_Dr hD) q h
  refine vx_calli (vx_runV (As := As) (rest := rest) S hM (cwV n S.2.2.2.2 hT hw rfl rfl hd hR) ⟨blindX, va_recv hK.1.1 hPc hc he, fun U hU hW => ⟨rfl, by rw [hU]; exact hPc, KK.moved hW hK.i, hX.at hW hU hS hB, hDc.weaken (fun _ _ _ _ => trivial)⟩⟩ rfl hn hsize hstack (lv_room hc8) hdg hf) hS (fun q _ h => hB q h) (fun q h => hB q h) (fun q _ h => hB q h) (fun E' ce q9 u t H1 locs1 ht1 hvm hnb hEc hz1 hk1 hS1 hce hcv hcl => ?_) (fun r u t H1 locs1 ht hvm hw1 hB1 hz1 hk1 hS => ?_)
  · rw [hE] at hEc
    exact absurd hEc.1 (by simp)
  · rw [ht] at hB1
    obtain ⟨-, hw1⟩ := hw1
    subst hw1
    exact kk H1 locs1 (mid_P hP hD hl hk1 hB1) (mid_D hD ha) hS
theorem x_pI (S : CallFix p m c cc nL s args Ts own) {v : Int32} (hM : PI l y ws fr lo D [(cI, .int)] (.ref b :: As) wc v) (hT : GoodIn Ts (wsV own index C y ws)) (hw : ws = Cond.code y bytes maxL ret :: ws')
    (hd : y.cls = C ∧ y.cls ≠ "java/lang/invoke/MethodHandle" ∧ y.cls ≠ "java/lang/invoke/VarHandle" ∧ (parseMethodDescriptor y.desc).map (fun d => d.parameters.length) = some n) (hR : fr + 1 ≤ R.frames ∧ 8 + (maxL + 11) + lo ≤ R.locals)
    (hn : As.length = n) (hsize : ls.size = nL) (hstack : st0 = As.reverse ++ .ref b :: rest) (hc8 : (rest.map fun v => v.category).sum ≤ 8) (hdg : decode cc pc = .ok (.invokevirtual index, 3)) (hf : cells ≤ R.cells ∧ slots ≤ R.slots)
    (hK : KS D cI cA s) (hP : va_P D vwCl w H) (hS : va_S A0 H0 H locs) (hw9 : w = wl ++ (wc ++ wm)) {q0 ci N : Nat} {T : u_T} {fs : List Value} (he : wc[q0]? = some (b, .inr (ci, fs))) (hc : vwCl[ci]? = some (C, T, N))
    (kk : ∀ (H1 : Heap) (locs1 : List Loc), va_P D vwCl w H1 → va_S A0 H0 H1 locs1 → W p l e R s m args below meth c H1 locs1 cells slots Q (F0 m (pc + 3) ls (.int v :: rest))) : W p l e R s m args below meth c H locs cells slots Q (F0 m pc ls st0) := by
  subst hw9
  have hPc := P_pre (app_Pr hP)
  refine va_calli (va_runV (As := As) (rest := rest) S hM (cwV n S.2.2.2.2 hT hw rfl rfl hd hR) ⟨blindP, va_recv hK.1.1 hPc hc he, fun U hU hW => ⟨rfl, by rw [hU]; exact hPc, KK.moved hW hK.i⟩⟩ rfl hn hsize hstack (lv_room hc8) hdg hf) hS (fun q _ h => h.elim) (fun q h => h.elim) (fun r u t H1 locs1 ht hvm hw1 hB hz1 hk1 hS => ?_)
  subst hw1
  exact kk H1 locs1 (keep_P hP hk1) hS
theorem x_pD (S : CallFix p m c cc nL s args Ts own) {v : UInt64} (hM : PD l y ws fr lo D [(cI, .int)] (.ref b :: As) wc v) (hT : GoodIn Ts (wsV own index C y ws)) (hw : ws = Cond.code y bytes maxL ret :: ws')
    (hd : y.cls = C ∧ y.cls ≠ "java/lang/invoke/MethodHandle" ∧ y.cls ≠ "java/lang/invoke/VarHandle" ∧ (parseMethodDescriptor y.desc).map (fun d => d.parameters.length) = some n) (hR : fr + 1 ≤ R.frames ∧ 8 + (maxL + 11) + lo ≤ R.locals)
    (hn : As.length = n) (hsize : ls.size = nL) (hstack : st0 = As.reverse ++ .ref b :: rest) (hc8 : (rest.map fun v => v.category).sum ≤ 8) (hdg : decode cc pc = .ok (.invokevirtual index, 3)) (hf : cells ≤ R.cells ∧ slots ≤ R.slots)
    (hK : KS D cI cA s) (hP : va_P D vwCl w H) (hS : va_S A0 H0 H locs) (hw9 : w = wl ++ (wc ++ wm)) {q0 ci N : Nat} {T : u_T} {fs : List Value} (he : wc[q0]? = some (b, .inr (ci, fs))) (hc : vwCl[ci]? = some (C, T, N))
    (kk : ∀ (H1 : Heap) (locs1 : List Loc), va_P D vwCl w H1 → va_S A0 H0 H1 locs1 → W p l e R s m args below meth c H1 locs1 cells slots Q (F0 m (pc + 3) ls (.double v :: rest))) : W p l e R s m args below meth c H locs cells slots Q (F0 m pc ls st0) := by
  subst hw9
  have hPc := P_pre (app_Pr hP)
  refine va_calld (va_runV (As := As) (rest := rest) S hM (cwV n S.2.2.2.2 hT hw rfl rfl hd hR) ⟨blindP, va_recv hK.1.1 hPc hc he, fun U hU hW => ⟨rfl, by rw [hU]; exact hPc, KK.moved hW hK.i⟩⟩ rfl hn hsize hstack (lv_room hc8) hdg hf) hS (fun q _ h => h.elim) (fun q h => h.elim) (fun r u t H1 locs1 ht hvm hw1 hB hz1 hk1 hS => ?_)
  subst hw1
  exact kk H1 locs1 (keep_P hP hk1) hS
/-- a static one without cells -/
theorem x_pS (S : CallFix p m c cc nL s args Ts own) {v : Int32} (hM : PI l y ws fr lo D [(cI, .int)] As [] v) (hT : GoodIn Ts (va_wsS own index y ws)) (hw : ws = Cond.code y bytes maxL ret :: ws')
    (hd : y.cls ≠ "java/lang/invoke/MethodHandle" ∧ y.cls ≠ "java/lang/invoke/VarHandle" ∧ (parseMethodDescriptor y.desc).map (fun d => d.parameters.length) = some n) (hR : fr + 1 ≤ R.frames ∧ 8 + (maxL + 11) + lo ≤ R.locals)
    (hn : As.length = n) (hsize : ls.size = nL) (hstack : st0 = As.reverse ++ rest) (hc8 : (rest.map fun v => v.category).sum ≤ 8) (hdg : decode cc pc = .ok (.invokestatic index, 3)) (hf : cells ≤ R.cells ∧ slots ≤ R.slots)
    (hK : KS D cI cA s) (hP : va_P D vwCl w H) (hS : va_S A0 H0 H locs)
    (kk : ∀ (H1 : Heap) (locs1 : List Loc), va_P D vwCl w H1 → va_S A0 H0 H1 locs1 → W p l e R s m args below meth c H1 locs1 cells slots Q (F0 m (pc + 3) ls (.int v :: rest))) : W p l e R s m args below meth c H locs cells slots Q (F0 m pc ls st0) :=
  k_pS S hM hT hw hd hR hn hsize hstack hc8 hdg hf hK.i hP hS kk
end
