/-! a static method that makes ints alone -/
section
variable {p : Program} {l : Launch} {e : Env} {R : Room} {s : State} {m : MethodId} {args : Array Value} {below : List Frame} {meth : Method} {c : Code} {H : Heap} {locs : List Loc} {cells slots : Nat} {Q : State → Prop}
variable {cc : ByteArray} {pc nL : Nat} {ls : Array Slot} {rest st0 : List Value} {D : va_G} {A0 : Nat → Prop} {cI cA : ClassId} {w : va_W} {Ts : List Cond} {own : String}
variable {y : MethodName} {bytes : ByteArray} {maxL fr lo mcY msY index n : Nat} {ret : Option FieldType} {ws ws' : List Cond} {As : List Value}
theorem x_gS (S : CallFix p m c cc nL s args Ts own) {v : Int32} (hM : GI l y ws fr mcY msY lo D [(cI, .int)] As [] [] v) (hT : GoodIn Ts (va_wsS own index y ws)) (hw : ws = Cond.code y bytes maxL ret :: ws')
    (hd : y.cls ≠ "java/lang/invoke/MethodHandle" ∧ y.cls ≠ "java/lang/invoke/VarHandle" ∧ (parseMethodDescriptor y.desc).map (fun d => d.parameters.length) = some n) (hR : fr + 1 ≤ R.frames ∧ 8 + (maxL + 11) + lo ≤ R.locals)
    (hn : As.length = n) (hsize : ls.size = nL) (hstack : st0 = As.reverse ++ rest) (hc8 : (rest.map fun v => v.category).sum ≤ 8) (hdg : decode cc pc = .ok (.invokestatic index, 3)) (hf : cells + mcY ≤ R.cells ∧ slots + msY ≤ R.slots)
    (hK : KS D cI cA s) (hP : va_P D vwCl w H) (hS : va_S A0 s.heap H locs) (hA : ∀ q, s.heap.size ≤ q → A0 q)
    (kk : ∀ (H1 : Heap) (locs1 : List Loc), va_P D vwCl w H1 → va_S A0 s.heap H1 locs1 → W p l e R s m args below meth c H1 locs1 (cells + mcY) (slots + msY) Q (F0 m (pc + 3) ls (.int v :: rest))) : W p l e R s m args below meth c H locs cells slots Q (F0 m pc ls st0) := by
  have hB0 : ∀ q, va_B ([] : va_W) q → False := fun q h => by obtain ⟨k, e, h⟩ := h; simp at h
  refine va_calli (va_runS (As := As) (rest := rest) S (hM H.size) (va_cwS n S.2.2.2.2 hT hw rfl rfl hd hR) ⟨blindG, fun U hU hW => ⟨rfl, by rw [hU], fun k q h => by simp at h, KK.moved hW hK.i, ⟨fun i j p q h => by simp at h, fun k q h => by simp at h⟩⟩⟩ rfl hn hsize hstack (lv_room hc8) hdg hf) hS (fun q _ h => (hB0 q h).elim) (fun q h => h.elim (fun h => (hB0 q h).elim) (fun h => hA q (Nat.le_trans hS.1 h))) (fun r u t H1 locs1 ht hvm hw1 hB hz1 hk1 hS => ?_)
  subst hw1
  exact kk H1 locs1 (keep_P hP (fun q h1 _ => hk1 q h1 (fun h => hB0 q h))) hS
end
