/-! calls beside other cells; calls that may throw and are caught -/
theorem va_Nc.kept {C T : String} {s U : State} (hW : s.WarmedH U.vm) (h : va_Nc C T s) : va_Nc C T U := va_Nc.moved hW.alike h
section
variable {D : va_G} {A0 : Nat → Prop} {wr w w1 : va_W} {H H1 : Heap}
theorem app_l {k : Nat} {q : Nat × va_E} (h : w[k]? = some q) : (wr ++ w)[wr.length + k]? = some q := by
  rw [List.getElem?_append_right (Nat.le_add_right _ _), Nat.add_sub_cancel_left]
  exact h
theorem app_Pr (hP : va_P D vwCl (wr ++ w) H) : va_P D vwCl w H := fun k q hq => hP (wr.length + k) q (app_l hq)
theorem app_Dr (hD : va_D A0 (wr ++ w)) : va_D A0 w := ⟨fun i j p q hp hq e => by
  have := hD.1 (wr.length + i) (wr.length + j) p q (app_l hp) (app_l hq) e
  omega, fun k q hq => hD.2 (wr.length + k) q (app_l hq)⟩
/-- the tail's cells are put anew -/
theorem app_P (hP : va_P D vwCl (wr ++ w) H) (hD : va_D A0 (wr ++ w)) (hk : ∀ q : Nat, q < H.size → ¬ va_B w q → H1[q]? = H[q]?) (hP1 : va_P D vwCl w1 H1) : va_P D vwCl (wr ++ w1) H1 := by
  intro k q hq
  by_cases h : k < wr.length
  · rw [List.getElem?_append_left h] at hq
    have h2 := P_pre hP k q hq
    refine h2.kept (hk q.1 h2.lt ?_)
    rintro ⟨j, e, h3⟩
    have := hD.1 k (wr.length + j) q (q.1, e) (pre_at hq) (app_l h3) rfl
    omega
  · rw [List.getElem?_append_right (by omega)] at hq
    exact hP1 _ q hq
/-- the head's cells are put anew -/
theorem pre_P (hP : va_P D vwCl (w ++ wr) H) (hD : va_D A0 (w ++ wr)) (hl : w1.length = w.length) (hk : ∀ q : Nat, q < H.size → ¬ va_B w q → H1[q]? = H[q]?) (hP1 : va_P D vwCl w1 H1) : va_P D vwCl (w1 ++ wr) H1 := by
  intro k q hq
  by_cases h : k < w1.length
  · rw [List.getElem?_append_left h] at hq
    exact hP1 k q hq
  · rw [List.getElem?_append_right (by omega), hl] at hq
    have h2 := app_Pr hP (k - w.length) q hq
    refine h2.kept (hk q.1 h2.lt ?_)
    rintro ⟨j, e, h3⟩
    have h4 := app_l (wr := w) hq
    have := hD.1 (w.length + (k - w.length)) j q (q.1, e) h4 (pre_at h3) rfl
    have := (List.getElem?_eq_some_iff.mp h3).1
    omega
theorem app_D (hD : va_D A0 (wr ++ w)) (ha : w1.map (·.1) = w.map (·.1)) : va_D A0 (wr ++ w1) := D_re hD (by rw [List.map_append, List.map_append, ha])
theorem pre_D (hD : va_D A0 (w ++ wr)) (ha : w1.map (·.1) = w.map (·.1)) : va_D A0 (w1 ++ wr) := D_re hD (by rw [List.map_append, List.map_append, ha])
theorem B_Dr (hD : va_D A0 (wr ++ w)) : ∀ q, va_B w q → A0 q := fun q h => by
  obtain ⟨k, e, h⟩ := h
  exact hD.2 (wr.length + k) (q, e) (app_l h)
theorem B_Dp (hD : va_D A0 (w ++ wr)) : ∀ q, va_B w q → A0 q := fun q h => by
  obtain ⟨k, e, h⟩ := h
  exact hD.2 k (q, e) (pre_at h)
end
section
variable {p : Program} {l : Launch} {e : Env} {R : Room} {s : State} {m : MethodId} {args : Array Value} {below : List Frame} {meth : Method} {c : Code} {H : Heap} {locs : List Loc} {cells slots : Nat} {Q : State → Prop}
variable {cc : ByteArray} {pc nL : Nat} {ls : Array Slot} {rest st0 : List Value} {D : va_G} {A0 : Nat → Prop} {tysC : List (ClassId × FieldType)} {wr w w1 : va_W} {Ts : List Cond} {own : String}
variable {C : String} {y : MethodName} {bytes : ByteArray} {maxL fr lo mcY index n : Nat} {ret : Option FieldType} {ws ws' : List Cond} {As : List Value} {b : Nat}
/-- a call of a thrower over the tail's cells, thrown or not -/
theorem t_callX (S : CallFix p m c cc nL s args Ts own) {v : Int32} {E : Option String} (hM : TI l y ws fr mcY lo D tysC (.ref b :: As) w w1 E v) (hT : GoodIn Ts (wsV own index C y ws)) (hw : ws = Cond.code y bytes maxL ret :: ws')
    (hd : y.cls = C ∧ y.cls ≠ "java/lang/invoke/MethodHandle" ∧ y.cls ≠ "java/lang/invoke/VarHandle" ∧ (parseMethodDescriptor y.desc).map (fun d => d.parameters.length) = some n) (hR : fr + 1 ≤ R.frames ∧ 8 + (maxL + 11) + lo ≤ R.locals)
    (hn : As.length = n) (hsize : ls.size = nL) (hstack : st0 = As.reverse ++ .ref b :: rest) (hc8 : (rest.map fun v => v.category).sum ≤ 8) (hdg : decode cc pc = .ok (.invokevirtual index, 3)) (hf : cells + mcY ≤ R.cells ∧ slots + 6 * mcY ≤ R.slots)
    (hK : KK D tysC s) (hX : KXA A0 s) (hP : va_P D vwCl (wr ++ w) H) (hD : va_D A0 (wr ++ w)) (hS : va_S A0 s.heap H locs) (ha : w1.map (·.1) = w.map (·.1)) {q0 ci N : Nat} {T : u_T} {fs : List Value} (he : w[q0]? = some (b, .inr (ci, fs))) (hc : vwCl[ci]? = some (C, T, N))
    (kx : ∀ (E' : String) (ce : Cell) (q9 : Addr) (H1 : Heap) (locs1 : List Loc), E = some E' → va_P D vwCl (wr ++ w) H1 → va_S A0 s.heap H1 locs1 → H1[q9]? = some ce → ce.vm = .none → s.vm.findClass E' = some ce.cls → vx_W p l e R s m args below meth c H1 locs1 (cells + mcY) (slots + 6 * mcY) Q (F0 m pc ls rest) q9)
    (kk : E = none → ∀ (H1 : Heap) (locs1 : List Loc), va_P D vwCl (wr ++ w1) H1 → va_D A0 (wr ++ w1) → va_S A0 s.heap H1 locs1 → W p l e R s m args below meth c H1 locs1 (cells + mcY) (slots + 6 * mcY) Q (F0 m (pc + 3) ls (.int v :: rest))) : W p l e R s m args below meth c H locs cells slots Q (F0 m pc ls st0) := by
  have hPw := app_Pr hP
  have hDw := app_Dr hD
  refine vx_calli (vx_runV (As := As) (rest := rest) S hM (cwV n S.2.2.2.2 hT hw rfl rfl hd hR) ⟨blindX, va_recv hK.1 hPw hc he, fun U hU hW => ⟨rfl, by rw [hU]; exact hPw, KK.moved hW hK, hX.at hW hU hS (fun q h => B_Dr hD q h), hDw.weaken (fun _ _ _ _ => trivial)⟩⟩ rfl hn hsize hstack (lv_room hc8) hdg hf) hS (fun q _ h => B_Dr hD q h) (fun q h => B_Dr hD q h) (fun q _ h => B_Dr hD q h) (fun E' ce q9 u t H1 locs1 ht1 hvm hnb hEc hz1 hk1 hS1 hce hcv hcl => ?_) (fun r u t H1 locs1 ht hvm hw1 hB hz1 hk1 hS => ?_)
  · have hP1 : va_P D vwCl w H1 := by rw [← ht1]; exact hEc.2
    exact kx E' ce q9 H1 locs1 hEc.1 (app_P hP hD hk1 hP1) hS1 hce hcv hcl
  · rw [ht] at hB
    obtain ⟨hE, hw1⟩ := hw1
    subst hw1
    exact kk hE H1 locs1 (app_P hP hD hk1 hB) (app_D hD ha) hS
end
