/-! reads and writes of rows of any numbers; prefixes; the ends of what makes cells -/
section
variable {p : Program} {l : Launch} {e : Env} {R : Room} {s : State} {m : MethodId} {args : Array Value} {below : List Frame} {meth : Method} {c : Code} {H : Heap} {locs : List Loc} {cells slots : Nat} {Q : State → Prop}
variable {cc : ByteArray} {pc nL : Nat} {ls : Array Slot} {rest st0 : List Value} {D : va_G} {A A0 : Nat → Prop} {a : Nat} {tys tysC : List (ClassId × FieldType)} {w w0 wc w1 : va_W} {H0 : Heap} {Ts : List Cond} {own : String} {mc ms : Nat}
theorem k_ialx (S : CallFix p m c cc nL s args Ts own) (hK : va_K D vwCl tys s) (hP : va_P D vwCl w H) (q0 t0 : Nat) {cA : ClassId} {n k : Nat} {f : Nat → Int32} {v : Int32} (ha : w[q0]? = some (a, .inl (cA, n, .inl f))) (ht : tys[t0]? = some (cA, .int)) (hk : k < n) (hn : n < 2 ^ 31) (hv : f k = v) (hdg : decode cc pc = .ok (.iaload, 1))
    (kk : W p l e R s m args below meth c H locs cells slots Q (F0 m (pc + 1) ls (.int v :: rest))) : W p l e R s m args below meth c H locs cells slots Q (F0 m pc ls (.int (nI k) :: .ref a :: rest)) :=
  va_iald S.1 S.2.1 hK hP q0 t0 ha ht (vp_in_nI hk hn) hdg (by rw [nI_clamp (Nat.lt_trans hk hn), hv]; exact kk)
theorem k_iasx (S : CallFix p m c cc nL s args Ts own) (hK : va_K D vwCl tys s) (hP : va_P D vwCl w H) (hD : va_D A w) (hS : va_S A H0 H locs) (q0 t0 : Nat) {cA : ClassId} {n k : Nat} {x : Int32} {f : Nat → Int32} (ha : w[q0]? = some (a, .inl (cA, n, .inl f))) (ht : tys[t0]? = some (cA, .int)) (hk : k < n) (hn : n < 2 ^ 31) (hdg : decode cc pc = .ok (.iastore, 1)) (w' : va_W) (hw : w.set q0 (a, .inl (cA, n, .inl (upd f k x))) = w')
    (kk : ∀ (H1 : Heap) (locs1 : List Loc), va_P D vwCl w' H1 → va_D A w' → va_S A H0 H1 locs1 → W p l e R s m args below meth c H1 locs1 cells slots Q (F0 m (pc + 1) ls rest)) : W p l e R s m args below meth c H locs cells slots Q (F0 m pc ls (.int x :: .int (nI k) :: .ref a :: rest)) :=
  va_iast S.1 S.2.1 hK hP hD hS q0 t0 ha ht (vp_in_nI hk hn) hdg (fun H1 locs1 h1 h2 h3 => by
    rw [nI_clamp (Nat.lt_trans hk hn), hw] at h1 h2
    exact kk H1 locs1 h1 h2 h3)
theorem k_alen (S : CallFix p m c cc nL s args Ts own) (hK : va_K D vwCl tys s) (hP : va_P D vwCl w H) (q0 t0 : Nat) {cA : ClassId} {n : Nat} {f : Nat → Int32} (ha : w[q0]? = some (a, .inl (cA, n, .inl f))) (ht : tys[t0]? = some (cA, .int)) (hdg : decode cc pc = .ok (.arraylength, 1))
    (kk : W p l e R s m args below meth c H locs cells slots Q (F0 m (pc + 1) ls (.int (nI n) :: rest))) : W p l e R s m args below meth c H locs cells slots Q (F0 m pc ls (.ref a :: rest)) :=
  va_alen S.1 S.2.1 hK hP q0 t0 (x := (n, .inl f)) ha ht (v := nI n) rfl hdg kk
theorem P_pre {e9 : va_W} (h : va_P D vwCl (w ++ e9) H) : va_P D vwCl w H := fun k q hq => h k q (by
  rw [List.getElem?_append_left (List.getElem?_eq_some_iff.mp hq).1]
  exact hq)
theorem pre_at {e9 : va_W} {k : Nat} {q : Nat × va_E} (hq : w[k]? = some q) : (w ++ e9)[k]? = some q := by
  rw [List.getElem?_append_left (List.getElem?_eq_some_iff.mp hq).1]
  exact hq
theorem D_pre {e9 : va_W} (h : va_D A (w ++ e9)) : va_D A w := ⟨fun i j p q hp hq => h.1 i j p q (pre_at hp) (pre_at hq), fun k q hq => h.2 k q (pre_at hq)⟩
abbrev QGI (below : List Frame) (args : Array Value) (s : State) (D : va_G) (mc ms : Nat) (w0 : va_W) (sz : Nat) (w1 : va_W) (v : Int32) : State → Prop := MQ below (va_Qi (fun r (_ : Unit) => r = v) (fun _ t => va_P D vwCl w1 t.heap) (va_B w0)) args s mc ms (va_A w0 sz)
abbrev QGL (below : List Frame) (args : Array Value) (s : State) (D : va_G) (mc ms : Nat) (w0 : va_W) (sz : Nat) (w1 : va_W) (v : Int64) : State → Prop := MQ below (va_Ql (fun r (_ : Unit) => r = v) (fun _ t => va_P D vwCl w1 t.heap) (va_B w0)) args s mc ms (va_A w0 sz)
abbrev QEL (below : List Frame) (args : Array Value) (s : State) (D : va_G) (mc : Nat) (w0 w1 : va_W) (v : Int64) : State → Prop := MQ below (va_Ql (fun r (_ : Unit) => r = v) (fun _ t => va_P D vwCl w1 t.heap) (va_B w0)) args s mc (6 * mc) (va_B w0)
theorem k_retEL (S : CallFix p m c cc nL s args Ts own) {v v1 : Int64} (hr : meth.sig.returnType = some .long) (hlk : meth.locks = false) (hP : va_P D vwCl w H) (hw : w = w1) (hS : va_S (va_B w0) s.heap H locs) (hv : v1 = v) (hcm : cells ≤ mc) (hsm : slots ≤ ms) (hdg : decode cc pc = .ok (.lreturn, 1)) :
    W p l e R s m args below meth c H locs cells slots (MQ below (va_Ql (fun r (_ : Unit) => r = v) (fun _ t => va_P D vwCl w1 t.heap) (va_B w0)) args s mc ms (va_B w0)) (F0 m pc ls [.long v1]) :=
  W.widen hcm hsm (W.lret S.1 S.2.1 hr (fun t ht hW => ⟨⟨v1, (), rfl, hv, by show va_P D vwCl w1 t.heap; rw [ht, ← hw]; exact hP⟩, hS.F ht⟩) hS.2.2 hdg hlk)
/-- a demand that holds: it returns -/
theorem t_retV (S : CallFix p m c cc nL s args Ts own) {b : Prop} {XC : String → State → State → Prop} (hr : meth.sig.returnType = none) (hlk : meth.locks = false) (hS : va_S (fun _ => False) s.heap H locs) (hb : b) (hcm : cells ≤ mc) (hsm : slots ≤ ms) (hdg : decode cc pc = .ok (.return_, 1)) :
    W p l e R s m args below meth c H locs cells slots (vx_MQ below (va_Qv (fun _ : Unit => b) (fun _ _ => True) (fun _ => False)) XC args s mc ms (fun _ => False)) (F0 m pc ls []) :=
  vx_ret (W.widen hcm hsm (W.vret S.1 S.2.1 hr (fun t ht hW => ⟨⟨(), rfl, hb, trivial⟩, hS.F ht⟩) hS.2.2 hdg hlk))
end
/-- the exception of a code -/
def exq (L : List String) : Nat → Option String
  | 0 => none
  | n + 1 => L[n]?
theorem okI_nI {n g : Nat} (h : g < n) (hn : n < 2 ^ 31) : okI n (nI g) := ⟨Int32.not_lt.mp (nI_pos (by omega)), (nI_ltI (by omega) hn).mpr h⟩
section
variable {l : Launch} {y : MethodName} {ws ws' : List Cond} {fr lo : Nat} {D : va_G} {tys : List (ClassId × FieldType)} {av : List Value} {w : va_W} {cc : ByteArray} {maxL : Nat} {ret : Option FieldType} {Qc : Array Value → State → Outcome → State → Prop} {XC : String → State → State → Prop}
theorem k_bodyT (hy : plainName y.cls = true) (hw : ws = Cond.code y cc maxL ret :: ws') (hav : (lg_sl av).length ≤ maxL)
    (body : ∀ p e s m args below meth c ls, CallFix p m c cc maxL s args ws y.cls → meth.sig.returnType = ret → meth.locks = false → lv_has ls maxL (lv_args 0 av) → va_P D vwCl w s.heap → KK D tys s → va_D (va_B w) w → KXA (va_B w) s → (∀ x ∈ c.exceptionTable.toList, False) →
      W p l e (rmG fr 1 6 lo) s m args below meth c s.heap [] 0 0 (vx_MQ below Qc XC args s 1 6 (fun _ => False)) (F0 m 0 ls [])) :
    vx_Met l y ws (rmG fr 1 6 lo) (va_Pc av (PX D tys w)) Qc XC 1 6 (fun _ => False) := by
  refine vx_ofW (cc := cc) (maxL := maxL) (ret := ret) hy hw ?_
  intro p e s m args below meth c s₁ B hml ht hv
  obtain ⟨rfl, hP, hK, hX, hD⟩ := hv
  have hl := lv_entry av (n := maxL) hav
  rw [lg_entry_eq]
  exact body p e s m _ below meth c _ ⟨B.exec, B.bytes, hml, findClass_of_methodNamed B.named, atoms_spec (ws := ws) B.pre⟩ B.returns B.notSynchronized hl hP hK (D_B hD) hX ht
end
theorem wCo_msb {cI : ClassId} {a b : Nat → Nat} {S S2 S3 : Nat → Nat → Nat} : mset (wCo cI a b S S2) [14, 15, 16, 17, 18, 19, 20, 21, 22, 23, 24, 25, 26] (wFa cI b S3) = wCo cI a b S S3 := rfl
theorem wCo_msa {cI : ClassId} {a b : Nat → Nat} {S S2 S3 : Nat → Nat → Nat} : mset (wCo cI a b S S2) [1, 2, 3, 4, 5, 6, 7, 8, 9, 10, 11, 12, 13] (wFa cI a S3) = wCo cI a b S3 S2 := rfl
theorem mset_app : ∀ (is : List Nat) (xs w : va_W) (js : List Nat) (ys : va_W), is.length = xs.length → mset w (is ++ js) (xs ++ ys) = mset (mset w is xs) js ys
  | [], [], _, _, _, _ => rfl
  | _ :: is, _ :: xs, _, js, ys, h => mset_app is xs _ js ys (by simpa using h)
  | [], _ :: _, _, _, _, h => absurd h (by simp)
  | _ :: _, [], _, _, _, h => absurd h (by simp)
theorem wCo_msf {cI : ClassId} {a b : Nat → Nat} {S S2 S3 : Nat → Nat → Nat} : mset (wCo cI a b S S2) [14, 15, 16, 17, 18, 19, 20, 21, 22, 23, 24, 25, 26, 1, 2, 3, 4, 5, 6, 7, 8, 9, 10, 11, 12, 13] (wFF cI a b S S3) = wCo cI a b S S3 := by
  have e1 : [14, 15, 16, 17, 18, 19, 20, 21, 22, 23, 24, 25, 26, 1, 2, 3, 4, 5, 6, 7, 8, 9, 10, 11, 12, 13] = [14, 15, 16, 17, 18, 19, 20, 21, 22, 23, 24, 25, 26] ++ [1, 2, 3, 4, 5, 6, 7, 8, 9, 10, 11, 12, 13] := rfl
  have e2 : wFF cI a b S S3 = wFa cI b S3 ++ wFa cI a S := rfl
  have e3 : [14, 15, 16, 17, 18, 19, 20, 21, 22, 23, 24, 25, 26].length = (wFa cI b S3).length := rfl
  rw [e1, e2, mset_app _ _ _ _ _ e3, wCo_msb, wCo_msa]
theorem wCo_subf {cI : ClassId} {a b : Nat → Nat} {S S2 : Nat → Nat → Nat} : [14, 15, 16, 17, 18, 19, 20, 21, 22, 23, 24, 25, 26, 1, 2, 3, 4, 5, 6, 7, 8, 9, 10, 11, 12, 13].map (fun i => (wCo cI a b S S2)[i]?) = (wFF cI a b S S2).map some := rfl
theorem wCo_suba {cI : ClassId} {a b : Nat → Nat} {S S2 : Nat → Nat → Nat} : [1, 2, 3, 4, 5, 6, 7, 8, 9, 10, 11, 12, 13].map (fun i => (wCo cI a b S S2)[i]?) = (wFa cI a S).map some := rfl
theorem wCo_subb {cI : ClassId} {a b : Nat → Nat} {S S2 : Nat → Nat → Nat} : [14, 15, 16, 17, 18, 19, 20, 21, 22, 23, 24, 25, 26].map (fun i => (wCo cI a b S S2)[i]?) = (wFa cI b S2).map some := rfl
theorem nI_nle_m1 {x : Nat} (h : x < 2 ^ 31) : ¬ nI x ≤ -1 := fun q => nI_pos h (Int32.lt_of_le_of_lt q (by decide))
theorem wCo_ad {cI : ClassId} {a b : Nat → Nat} {S S2 S3 S4 : Nat → Nat → Nat} : (wCo cI a b S S2).map (·.1) = (wCo cI a b S3 S4).map (·.1) := rfl

section
variable {p : Program} {l : Launch} {e : Env} {R : Room} {s : State} {m : MethodId} {args : Array Value} {below : List Frame} {meth : Method} {c : Code} {H : Heap} {locs : List Loc} {cells slots : Nat} {Q : State → Prop}
variable {cc : ByteArray} {pc nL : Nat} {ls : Array Slot} {rest st0 : List Value} {D : va_G} {A0 : Nat → Prop} {tysC : List (ClassId × FieldType)} {w w1 : va_W} {Ts : List Cond} {own : String}
variable {C : String} {y : MethodName} {bytes : ByteArray} {maxL fr lo mcY index n : Nat} {ret : Option FieldType} {ws ws' : List Cond} {As : List Value} {b : Nat}
theorem B_D (hD : va_D A0 w) : ∀ q, va_B w q → A0 q := fun q h => by
  obtain ⟨k, e, h⟩ := h
  exact hD.2 k (q, e) h
theorem re_P {H1 : Heap} (hP1 : va_P D vwCl w1 H1) : va_P D vwCl w1 H1 := hP1
/-- a call of a thrower that doesn't throw here, over all cells -/
theorem t_okC (S : CallFix p m c cc nL s args Ts own) {v v1 : Int32} {w2 : va_W} {E : Option String} (hM : TI l y ws fr mcY lo D tysC (.ref b :: As) w w2 E v1) (hE : E = none) (hv1 : v1 = v) (hw2 : w2 = w1) (hT : GoodIn Ts (wsV own index C y ws)) (hw : ws = Cond.code y bytes maxL ret :: ws')
    (hd : y.cls = C ∧ y.cls ≠ "java/lang/invoke/MethodHandle" ∧ y.cls ≠ "java/lang/invoke/VarHandle" ∧ (parseMethodDescriptor y.desc).map (fun d => d.parameters.length) = some n) (hR : fr + 1 ≤ R.frames ∧ 8 + (maxL + 11) + lo ≤ R.locals)
    (hn : As.length = n) (hsize : ls.size = nL) (hstack : st0 = As.reverse ++ .ref b :: rest) (hc8 : (rest.map fun v => v.category).sum ≤ 8) (hdg : decode cc pc = .ok (.invokevirtual index, 3)) (hf : cells + mcY ≤ R.cells ∧ slots + 6 * mcY ≤ R.slots)
    (hK : KK D tysC s) (hX : KXA A0 s) (hP : va_P D vwCl w H) (hD : va_D A0 w) (hS : va_S A0 s.heap H locs) (ha : w1.map (·.1) = w.map (·.1)) {q0 ci N : Nat} {T : u_T} {fs : List Value} (he : w[q0]? = some (b, .inr (ci, fs))) (hc : vwCl[ci]? = some (C, T, N))
    (kk : ∀ (H1 : Heap) (locs1 : List Loc), va_P D vwCl w1 H1 → va_D A0 w1 → va_S A0 s.heap H1 locs1 → W p l e R s m args below meth c H1 locs1 (cells + mcY) (slots + 6 * mcY) Q (F0 m (pc + 3) ls (.int v :: rest))) : W p l e R s m args below meth c H locs cells slots Q (F0 m pc ls st0) := by
  subst hw2
  subst hv1
  refine vx_calli (vx_runV (As := As) (rest := rest) S hM (cwV n S.2.2.2.2 hT hw rfl rfl hd hR) ⟨blindX, va_recv hK.1 hP hc he, fun U hU hW => ⟨rfl, by rw [hU]; exact hP, KK.moved hW hK, hX.at hW hU hS (fun q h => B_D hD q h), hD.weaken (fun _ _ _ _ => trivial)⟩⟩ rfl hn hsize hstack (lv_room hc8) hdg hf) hS (fun q _ h => B_D hD q h) (fun q h => B_D hD q h) (fun q _ h => B_D hD q h) (fun E' ce q9 u t H1 locs1 ht1 hvm hnb hEc hz1 hk1 hS1 hce hcv hcl => ?_) (fun r u t H1 locs1 ht hvm hw1 hB hz1 hk1 hS => ?_)
  · rw [hE] at hEc
    exact absurd hEc.1 (by simp)
  · rw [ht] at hB
    obtain ⟨-, hw1⟩ := hw1
    subst hw1
    exact kk H1 locs1 hB (D_re hD ha) hS
theorem t_eC (S : CallFix p m c cc nL s args Ts own) {v : Int64} (hM : EL l y ws fr mcY lo D tysC (.ref b :: As) w w1 v) (hT : GoodIn Ts (wsV own index C y ws)) (hw : ws = Cond.code y bytes maxL ret :: ws')
    (hd : y.cls = C ∧ y.cls ≠ "java/lang/invoke/MethodHandle" ∧ y.cls ≠ "java/lang/invoke/VarHandle" ∧ (parseMethodDescriptor y.desc).map (fun d => d.parameters.length) = some n) (hR : fr + 1 ≤ R.frames ∧ 8 + (maxL + 11) + lo ≤ R.locals)
    (hn : As.length = n) (hsize : ls.size = nL) (hstack : st0 = As.reverse ++ .ref b :: rest) (hc8 : (rest.map fun v => v.category).sum ≤ 8) (hdg : decode cc pc = .ok (.invokevirtual index, 3)) (hf : cells + mcY ≤ R.cells ∧ slots + 6 * mcY ≤ R.slots)
    (hK : KK D tysC s) (hX : KXA A0 s) (hP : va_P D vwCl w H) (hD : va_D A0 w) (hS : va_S A0 s.heap H locs) (ha : w1.map (·.1) = w.map (·.1)) {q0 ci N : Nat} {T : u_T} {fs : List Value} (he : w[q0]? = some (b, .inr (ci, fs))) (hc : vwCl[ci]? = some (C, T, N))
    (kk : ∀ (H1 : Heap) (locs1 : List Loc), va_P D vwCl w1 H1 → va_D A0 w1 → va_S A0 s.heap H1 locs1 → W p l e R s m args below meth c H1 locs1 (cells + mcY) (slots + 6 * mcY) Q (F0 m (pc + 3) ls (.long v :: rest))) : W p l e R s m args below meth c H locs cells slots Q (F0 m pc ls st0) := by
  refine va_calll (va_runV (As := As) (rest := rest) S hM (cwV n S.2.2.2.2 hT hw rfl rfl hd hR) ⟨blindX, va_recv hK.1 hP hc he, fun U hU hW => ⟨rfl, by rw [hU]; exact hP, KK.moved hW hK, hX.at hW hU hS (fun q h => B_D hD q h), hD.weaken (fun _ _ _ _ => trivial)⟩⟩ rfl hn hsize hstack (lv_room hc8) hdg hf) hS (fun q _ h => B_D hD q h) (fun q h => B_D hD q h) (fun r u t H1 locs1 ht hvm hw1 hB hz1 hk1 hS => ?_)
  rw [ht] at hB
  subst hw1
  exact kk H1 locs1 hB (D_re hD ha) hS
end
