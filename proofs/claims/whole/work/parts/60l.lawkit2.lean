/-! the law's helpers: a call caught, its answer put into out[0] -/
def wOut (cL : ClassId) (o : Nat) (f : Nat → Int64) : va_W := [(o, .inl (cL, 1, .inr (.inl f)))]
def ouF (f : Nat → Int64) (code : Nat) (v : Int32) : Nat → Int64 := if code = 0 then vp_updL f 0 v.toInt64 else f
def KXN (U : State) : Prop := va_Nc "java/lang/IllegalArgumentException" "java/lang/IndexOutOfBoundsException" U ∧ va_Nc "java/lang/IllegalStateException" "java/lang/IndexOutOfBoundsException" U ∧ va_Nc "java/lang/IllegalStateException" "java/lang/IllegalArgumentException" U
theorem KXN.call {U : State} {g : JFrame} {mk : MethodId} {a : Array Value} (h : KXN U) : KXN (U.calling g mk a) := ⟨va_Nc.moved (u := U) (U := U.calling g mk a) (Vm.Alike.refl U.vm) h.1, va_Nc.moved (u := U) (U := U.calling g mk a) (Vm.Alike.refl U.vm) h.2.1, va_Nc.moved (u := U) (U := U.calling g mk a) (Vm.Alike.refl U.vm) h.2.2⟩
theorem KXN.moved {s U : State} (hW : s.WarmedH U.vm) (h : KXN s) : KXN U := ⟨va_Nc.moved hW.alike h.1, va_Nc.moved hW.alike h.2.1, va_Nc.moved hW.alike h.2.2⟩
def LH (l : Launch) (y : MethodName) (ws : List Cond) (fr mc lo : Nat) (D : va_G) (tys : List (ClassId × FieldType)) (av : List Value) (w w1 : va_W) (v : Int32) : Prop :=
  vx_Met l y ws (rmG fr mc (6 * mc) lo) (va_Pc av (fun U => va_P D vwCl w U.heap ∧ KK D tys U ∧ KXA (va_B w) U ∧ KXN U ∧ va_D (fun _ => True) w)) (va_Qi (fun r (_ : Unit) => r = v) (fun _ t => va_P D vwCl w1 t.heap) (va_B w)) (vx_X (fun _ : Unit => False) (fun _ _ _ => True) (fun _ => False)) mc (6 * mc) (va_B w)
abbrev QLH (below : List Frame) (args : Array Value) (s : State) (D : va_G) (mc : Nat) (w0 w1 : va_W) (v : Int32) : State → Prop := vx_MQ below (va_Qi (fun r (_ : Unit) => r = v) (fun _ t => va_P D vwCl w1 t.heap) (va_B w0)) (vx_X (fun _ : Unit => False) (fun _ _ _ => True) (fun _ => False)) args s mc (6 * mc) (va_B w0)
section
variable {l : Launch} {y : MethodName} {ws ws' : List Cond} {fr mc lo : Nat} {D : va_G} {tys : List (ClassId × FieldType)} {av : List Value} {w w1 : va_W} {cc : ByteArray} {maxL : Nat} {ret : Option FieldType} {hh : List (Nat × Nat × Nat × Nat)} {v : Int32}
theorem blindL : FrameBlind (va_Pc av (fun U => va_P D vwCl w U.heap ∧ KK D tys U ∧ KXA (va_B w) U ∧ KXN U ∧ va_D (fun _ => True) w)) := fun a U g mk q => ⟨q.1, q.2.1, KK.call q.2.2.1, KXA.call q.2.2.2.1, KXN.call q.2.2.2.2.1, q.2.2.2.2.2⟩
theorem k_bodyL (hy : plainName y.cls = true) (hw : ws = Cond.codeWith y cc maxL ret hh :: ws') (hav : (lg_sl av).length ≤ maxL)
    (body : ∀ p e s m args below meth c H ls, CallFix p m c cc maxL s args ws y.cls → meth.sig.returnType = ret → meth.locks = false → lv_has ls maxL (lv_args 0 av) → va_P D vwCl w H → KK D tys s → va_D (va_B w) w → va_S (va_B w) s.heap H [] → KXA (va_B w) s → KXN s → c.exceptionTable.toList = tableOf hh →
      W p l e (rmG fr mc (6 * mc) lo) s m args below meth c H [] 0 0 (QLH below args s D mc w w1 v) (F0 m 0 ls [])) :
    LH l y ws fr mc lo D tys av w w1 v := by
  refine vx_ofWH (cc := cc) (maxL := maxL) (ret := ret) (hh := hh) hy hw ?_
  intro p e s m args below meth c s₁ B hml hv
  obtain ⟨rfl, hP, hK, hX, hN, hD⟩ := hv
  have hl := lv_entry av (n := maxL) hav
  rw [lg_entry_eq]
  have hat := atoms_spec (ws := ws) B.pre
  exact body p e s m _ below meth _ s.heap _ ⟨B.exec, B.bytes, hml, findClass_of_methodNamed B.named, hat⟩ B.returns B.notSynchronized hl hP hK (D_B hD) va_S.rf hX hN (vx_table (x := y) B (hat (Cond.codeWith y cc maxL ret hh) (by rw [hw]; exact List.mem_cons_self)))
end
section
variable {p : Program} {l : Launch} {e : Env} {R : Room} {s : State} {m : MethodId} {args : Array Value} {below : List Frame} {meth : Method} {c : Code} {H : Heap} {locs : List Loc} {cells slots : Nat} {Q : State → Prop}
variable {cc : ByteArray} {pc nL : Nat} {ls : Array Slot} {rest st0 : List Value} {D : va_G} {A0 : Nat → Prop} {tys : List (ClassId × FieldType)} {w w0 w1 : va_W} {H0 : Heap} {Ts : List Cond} {own : String} {mc : Nat}
theorem k_last (S : CallFix p m c cc nL s args Ts own) {cL : ClassId} {o : Nat} {f : Nat → Int64} {x : Int64} (hK : va_K D vwCl tys s) (ht : tys[1]? = some (cL, .long)) (hP : va_P D vwCl (wOut cL o f ++ w) H) (hD : va_D A0 (wOut cL o f ++ w)) (hS : va_S A0 H0 H locs) (hdg : decode cc pc = .ok (.lastore, 1))
    (kk : ∀ (H1 : Heap) (locs1 : List Loc), va_P D vwCl (wOut cL o (vp_updL f 0 x) ++ w) H1 → va_D A0 (wOut cL o (vp_updL f 0 x) ++ w) → va_S A0 H0 H1 locs1 → W p l e R s m args below meth c H1 locs1 cells slots Q (F0 m (pc + 1) ls rest)) : W p l e R s m args below meth c H locs cells slots Q (F0 m pc ls (.long x :: .int (nI 0) :: .ref o :: rest)) := by
  refine va_last S.1 S.2.1 hK hP hD hS 0 1 (cA := cL) (n := 1) (f := f) rfl ht (vp_in_nI (by decide) (by decide)) hdg (fun H1 locs1 h1 h2 h3 => ?_)
  have e0 : (nI 0).toNatClampNeg = 0 := by decide
  rw [e0] at h1 h2
  exact kk H1 locs1 h1 h2 h3
theorem k_retLH (S : CallFix p m c cc nL s args Ts own) {v v1 : Int32} (hr : meth.sig.returnType = some .int) (hlk : meth.locks = false) (hP : va_P D vwCl w H) (hw : w = w1) (hS : va_S (va_B w0) s.heap H locs) (hv : v1 = v) (hcm : cells ≤ mc) (hsm : slots ≤ 6 * mc) (hdg : decode cc pc = .ok (.ireturn, 1)) :
    W p l e R s m args below meth c H locs cells slots (QLH below args s D mc w0 w1 v) (F0 m pc ls [.int v1]) :=
  vx_ret (W.widen hcm hsm (W.zret S.1 S.2.1 hr rfl (fun t ht hW => ⟨⟨v1, (), rfl, hv, by show va_P D vwCl w1 t.heap; rw [ht, ← hw]; exact hP⟩, hS.F ht⟩) hS.2.2 hdg hlk))
end
theorem exq_none {L : List String} {n : Nat} (h : exq L n = none) (hn : n ≤ L.length) : n = 0 := by
  cases n with
  | zero => rfl
  | succ n =>
    have h2 : L[n]? = none := h
    rw [List.getElem?_eq_none_iff] at h2
    omega
