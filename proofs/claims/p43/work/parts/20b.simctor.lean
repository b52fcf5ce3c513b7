/-! the picture's constructor; build -/
abbrev eS0 : va_E := .inr (4, [.int 0, .int 0, .int 0, .null, .null, .null])
def GCS (l : Launch) (D : va_G) (cI cA : ClassId) (h0 : Nat) : Prop :=
  ∀ sz : Nat, Met l yX4_init wsX4_init (rmG 1 3 0 20) (va_Pc [.ref h0] (fun U => U.heap.size = sz ∧ va_P D vwCl [(h0, eS0)] U.heap ∧ KS D cI cA U ∧ va_D (fun _ => True) [(h0, eS0)])) (va_Qv (fun z : Nat → Nat => z 0 = h0) (fun z t => va_P D vwCl (wSi cI cA z S0) t.heap ∧ va_D (va_A [(h0, eS0)] sz) (wSi cI cA z S0)) (va_A [(h0, eS0)] sz)) 3 0 (va_A [(h0, eS0)] sz)
theorem nX4_init_X4 : ∀ x ∈ wsX40, x ∈ wsX4_init := fun _ h => List.mem_cons_of_mem _ (List.mem_append_right _ h)
set_option maxRecDepth 100000 in
set_option maxHeartbeats 4000000 in
theorem c_X4_init (l : Launch) (D : va_G) (cI cA : ClassId) (h0 : Nat) : GCS l D cI cA h0 := by
  intro sz
  refine q_bodyG (cc := cX4_init) (maxL := 1) (ret := none) (by decide) rfl (Nat.le_of_ble_eq_true rfl) ?_
  intro p e s m args below meth c H ls hz F hr hlk hl hP hK hD hS
  have F : CallFix p m c cX4_init 1 s args wsX4_init RX4 := F
  have hl : lv_has ls 1 [(0, .ref h0)] := hl
  have hA : ∀ q, s.heap.size ≤ q → va_A [(h0, eS0)] sz q := fun q h => Or.inr (by omega)
  refine lv_aload_n F.1 F.2.1 dX4_init_0 rfl (lv_at hl 0 rfl) ?_
  refine k_oinit F hl.1 (List.mem_of_getElem? (i := 1) rfl) (List.mem_of_getElem? (i := 2) rfl) (List.mem_of_getElem? (i := 3) rfl) dX4_init_1 (Nat.le_of_ble_eq_true rfl) (Nat.le_of_ble_eq_true rfl) ?_
  refine lv_aload_n F.1 F.2.1 dX4_init_4 rfl (lv_at hl 0 rfl) ?_
  refine lv_iconst (v := nI 0) F.1 F.2.1 dX4_init_5 (by decide) ?_
  refine q_newa F (List.mem_of_getElem? (i := 4) rfl) hK hP hD hS hA (k := 0) (by decide) ⟨show 0 + 1 ≤ 3 by decide, Nat.le_refl _⟩ dX4_init_6 (fun q1 H hP hD hS => ?_)
  refine q_putr (ty := .array .int) F nX4_init_X4 tyX4 tyX4_ok nmX4 hK hP hD hS 0 rfl rfl 3 (by decide) (List.mem_of_getElem? (i := 5) rfl) rfl (by decide +kernel) rfl rfl (Nat.le_of_ble_eq_true rfl) dX4_init_8 [(h0, .inr (4, [.int 0, .int 0, .int 0, .ref q1, .null, .null])), (q1, .inl (cI, 0, .inl (row (fun _ => 0))))] rfl (fun H locs hP hD hS => ?_)
  refine lv_aload_n F.1 F.2.1 dX4_init_11 rfl (lv_at hl 0 rfl) ?_
  refine lv_iconst (v := nI 0) F.1 F.2.1 dX4_init_12 (by decide) ?_
  refine q_anew F (List.mem_of_getElem? (i := 6) rfl) hK hP hD hS hA (k := 0) (by decide) ⟨show 0 + 1 + 1 ≤ 3 by decide, Nat.le_refl _⟩ dX4_init_13 (fun q2 H _ hP hD hS => ?_)
  refine q_putr (ty := .array (.array .int)) F nX4_init_X4 tyX4 tyX4_ok nmX4 hK hP hD hS 0 rfl rfl 4 (by decide) (List.mem_of_getElem? (i := 7) rfl) rfl (by decide +kernel) rfl rfl (Nat.le_of_ble_eq_true rfl) dX4_init_16 [(h0, .inr (4, [.int 0, .int 0, .int 0, .ref q1, .ref q2, .null])), (q1, .inl (cI, 0, .inl (row (fun _ => 0)))), (q2, .inl (cA, 0, ilr (fun _ => none)))] rfl (fun H locs hP hD hS => ?_)
  refine lv_aload_n F.1 F.2.1 dX4_init_19 rfl (lv_at hl 0 rfl) ?_
  refine lv_iconst (v := nI 0) F.1 F.2.1 dX4_init_20 (by decide) ?_
  refine q_anew F (List.mem_of_getElem? (i := 6) rfl) hK hP hD hS hA (k := 0) (by decide) ⟨show 0 + 1 + 1 + 1 ≤ 3 by decide, Nat.le_refl _⟩ dX4_init_21 (fun q3 H _ hP hD hS => ?_)
  refine q_putr (ty := .array (.array .int)) F nX4_init_X4 tyX4 tyX4_ok nmX4 hK hP hD hS 0 rfl rfl 5 (by decide) (List.mem_of_getElem? (i := 8) rfl) rfl (by decide +kernel) rfl rfl (Nat.le_of_ble_eq_true rfl) dX4_init_24 [(h0, .inr (4, [.int 0, .int 0, .int 0, .ref q1, .ref q2, .ref q3])), (q1, .inl (cI, 0, .inl (row (fun _ => 0)))), (q2, .inl (cA, 0, ilr (fun _ => none))), (q3, .inl (cA, 0, ilr (fun _ => none)))] rfl (fun H locs hP hD hS => ?_)
  have hPz : ∀ z : Nat → Nat, z 0 = h0 → z 1 = q1 → z 2 = q2 → z 3 = q3 → va_P D vwCl (wSi cI cA z S0) H := by
    intro z e0 e1 e2 e3 k y hy
    have hk : k < 4 := (List.getElem?_eq_some_iff.mp hy).1
    rcases (show k = 0 ∨ k = 1 ∨ k = 2 ∨ k = 3 by omega) with rfl | rfl | rfl | rfl
    · cases hy
      rw [e0, e1, e2, e3]
      exact hP 0 _ rfl
    · cases hy
      rw [e1]
      exact hP 1 _ rfl
    · cases hy
      have h9 : H[q2]? = some (vp_cell cA (0, ilr (fun _ => none))) := hP 2 _ rfl
      show H[z 2]? = some (vp_cell cA (0, ilr (fun k => some (z (4 + k)))))
      rw [e2, h9]
      congr 1
    · cases hy
      have h9 : H[q3]? = some (vp_cell cA (0, ilr (fun _ => none))) := hP 3 _ rfl
      show H[z 3]? = some (vp_cell cA (0, ilr (fun k => some (z (12 + k)))))
      rw [e3, h9]
      congr 1
  have hDz : ∀ z : Nat → Nat, z 0 = h0 → z 1 = q1 → z 2 = q2 → z 3 = q3 → va_D (va_A [(h0, eS0)] sz) (wSi cI cA z S0) := by
    intro z e0 e1 e2 e3
    refine D_re hD ?_
    show [z 0, z 1, z 2, z 3] = [h0, q1, q2, q3]
    rw [e0, e1, e2, e3]
  have hz0 : (fun k : Nat => if k = 0 then h0 else if k = 1 then q1 else if k = 2 then q2 else q3) 0 = h0 := rfl
  exact W.widen (Nat.le_refl _) (Nat.le_refl _) (W.vret F.1 F.2.1 hr (fun t ht hW => ⟨⟨(fun k : Nat => if k = 0 then h0 else if k = 1 then q1 else if k = 2 then q2 else q3), rfl, hz0, by rw [ht]; exact hPz _ rfl rfl rfl rfl, hDz _ rfl rfl rfl rfl⟩, hS.F ht⟩) hS.2.2 dX4_init_27 hlk)
theorem swap_P {D : va_G} {w1 w2 : va_W} {H : Heap} (h : va_P D vwCl (w1 ++ w2) H) : va_P D vwCl (w2 ++ w1) H := by
  rw [P_mem] at h ⊢
  intro q hq
  exact h q (List.mem_append.mpr ((List.mem_append.mp hq).symm))
theorem swap_D {A : Nat → Prop} {w1 w2 : va_W} (h : va_D A (w1 ++ w2)) : va_D A (w2 ++ w1) := by
  rw [D_nd] at h ⊢
  refine ⟨?_, fun q hq => h.2 q (List.mem_append.mpr ((List.mem_append.mp hq).symm))⟩
  have h1 := h.1
  rw [List.map_append] at h1 ⊢
  exact (List.perm_append_comm.nodup_iff).mp h1
theorem va_X.move {x L : Nat} {xs : Nat → Int32} {s U : State} {H0 H : Heap} (h : va_X x L xs s H0) (hq : H[x]? = H0[x]?) (hvm : s.vm.Alike U.vm) : va_X x L xs U H := by
  obtain ⟨scr, h1, h2, h3, h4, h5⟩ := h
  exact ⟨scr, hq.trans h1, State.isArrayOf_alike hvm h2, h3, h4, h5⟩
section
variable {p : Program} {l : Launch} {e : Env} {R : Room} {s : State} {m : MethodId} {args : Array Value} {below : List Frame} {meth : Method} {c : Code} {H : Heap} {locs : List Loc} {cells slots : Nat} {Q : State → Prop}
variable {cc : ByteArray} {pc nL index : Nat} {ls : Array Slot} {rest st0 : List Value} {D : va_G} {A0 : Nat → Prop} {cI cA : ClassId} {w wr : va_W} {Ts : List Cond} {own : String}
/-- a call of cell -/
theorem x_cell (S : CallFix p m c cc nL s args Ts own) {x L k : Nat} {xs : Nat → Int32} (hL : L ≤ 260) (hk : k < 1000) (hT : GoodIn Ts (va_wsS own index yL_cell wsL_cell)) (hR : 1 ≤ R.frames ∧ 21 ≤ R.locals) (hsize : ls.size = nL) (hc8 : (rest.map fun v => v.category).sum ≤ 8) (hdg : decode cc pc = .ok (.invokestatic index, 3)) (hf : cells ≤ R.cells ∧ slots ≤ R.slots)
    (hX : va_X x L xs s s.heap) (hxl : x < s.heap.size) (hxA : ¬ A0 x) (hP : va_P D vwCl w H) (hS : va_S A0 s.heap H locs)
    (kk : ∀ (H1 : Heap) (locs1 : List Loc), va_P D vwCl w H1 → va_S A0 s.heap H1 locs1 → W p l e R s m args below meth c H1 locs1 cells slots Q (F0 m (pc + 3) ls (.int (celV xs L k) :: rest))) : W p l e R s m args below meth c H locs cells slots Q (F0 m pc ls (.int (nI k) :: .ref x :: rest)) := by
  refine va_calli (va_runS (As := [.ref x, .int (nI k)]) (rest := rest) S (c_L_cell l x L xs k hL hk) (va_cwS 2 S.2.2.2.2 hT rfl rfl rfl (by decide +kernel) hR) ⟨fun a U g mk q => ⟨q.1, va_X.move (U := U.calling g mk a) q.2 rfl (Vm.Alike.refl U.vm)⟩, fun U hU hW => ⟨rfl, va_X.move hX (by rw [hU]; exact hS.2.1 x hxl hxA) hW.alike⟩⟩ rfl rfl hsize rfl (lv_room hc8) hdg hf) hS (fun q _ h => h.elim) (fun q h => h.elim) (fun r u t H1 locs1 ht hvm hw1 hB hz1 hk1 hS => ?_)
  subst hw1
  exact kk H1 locs1 (keep_P hP hk1) hS
/-- a call of act -/
theorem x_act (S : CallFix p m c cc nL s args Ts own) {fr mcY msY lo : Nat} {z a b : Nat → Nat} {S9 S2 : Nat → Nat → Nat} {x : Int32} (hM : AC l fr mcY msY lo D cI cA z a b S9 S2 x) (hT : GoodIn Ts (va_wsS own index yL_act wsL_act)) (hR : fr + 1 ≤ R.frames ∧ 8 + (15 + 11) + lo ≤ R.locals) (hsize : ls.size = nL) (hc8 : (rest.map fun v => v.category).sum ≤ 8) (hdg : decode cc pc = .ok (.invokestatic index, 3)) (hf : cells + mcY ≤ R.cells ∧ slots + msY ≤ R.slots)
    (hK : KS D cI cA s) (hX : KXA A0 s) (hP : va_P D vwCl (wAc cI cA z a b S9 S2) H) (hD : va_D A0 (wAc cI cA z a b S9 S2)) (hS : va_S A0 s.heap H locs) (hA : ∀ q, s.heap.size ≤ q → A0 q)
    (kk : ∀ (z' : Nat → Nat) (S' : Nat → Nat → Nat) (H1 : Heap) (locs1 : List Loc), z' 0 = z 0 → LI S' → S' 0 3 ≤ S9 0 3 + 60 → va_P D vwCl (wAc cI cA z' a b S' S2) H1 → va_D A0 (wAc cI cA z' a b S' S2) → va_S A0 s.heap H1 locs1 → W p l e R s m args below meth c H1 locs1 (cells + mcY) (slots + msY) Q (F0 m (pc + 3) ls (.int (nI 1) :: rest))) : W p l e R s m args below meth c H locs cells slots Q (F0 m pc ls (.int x :: .ref (z 0) :: .ref (a 13) :: rest)) := by
  have h9 : s.heap.size ≤ H.size := hS.1
  have hB : ∀ q, va_B (wAc cI cA z a b S9 S2) q → A0 q := fun q h => by obtain ⟨k, e, h⟩ := h; exact hD.2 k _ h
  have hAA : ∀ q, va_A (wAc cI cA z a b S9 S2) H.size q → A0 q := fun q h => h.elim (hB q) (fun h => hA q (Nat.le_trans h9 h))
  refine va_calli (va_runS (As := [.ref (a 13), .ref (z 0), .int x]) (rest := rest) S (hM H.size) (va_cwS 3 S.2.2.2.2 hT rfl rfl rfl (by decide +kernel) hR) ⟨blindXS, fun U hU hW => ⟨rfl, by rw [hU], by rw [hU]; exact hP, KS.moved hW hK, hX.at hW hU hS hAA, hD.weaken (fun _ _ _ _ => trivial)⟩⟩ rfl rfl hsize rfl (lv_room hc8) hdg hf) hS (fun q _ h => hB q h) (fun q h => hAA q h) (fun r u t H1 locs1 ht hvm hw1 hB1 hz1 hk1 hS => ?_)
  obtain ⟨rfl, h0, hL, hb⟩ := hw1
  obtain ⟨hP1, hD1⟩ := hB1
  rw [ht] at hP1
  exact kk u.1 u.2 H1 locs1 h0 hL hb hP1 (hD1.weaken (fun k q _ h => hAA q.1 h)) hS
/-- the picture's constructor, called beside other cells -/
theorem k_ctorS (S : CallFix p m c cc nL s args Ts own) {host : String} {b : Nat} (hM : GCS l D cI cA b) (hG : GoodIn Ts wsX4_init) (hN : va_Nw (.methodLinkNest own index yX4_init host) s) (hini : Cond.initialized RX4 ∈ Ts) (hin : Cond.instanceMethod yX4_init ∈ Ts) (hR : 2 ≤ R.frames ∧ 40 ≤ R.locals)
    (hsize : ls.size = nL) (hc8 : (rest.map fun v => v.category).sum ≤ 8) (hdg : decode cc pc = .ok (.invokespecial index, 3)) (hf : cells + 3 ≤ R.cells ∧ slots + 0 ≤ R.slots)
    (hK : KS D cI cA s) (hP : va_P D vwCl (wr ++ [(b, eS0)]) H) (hD : va_D A0 (wr ++ [(b, eS0)])) (hS : va_S A0 s.heap H locs) (hA : ∀ q, s.heap.size ≤ q → A0 q)
    (kk : ∀ (z : Nat → Nat) (H1 : Heap) (locs1 : List Loc), z 0 = b → va_P D vwCl (wSi cI cA z S0 ++ wr) H1 → va_D A0 (wSi cI cA z S0 ++ wr) → va_S A0 s.heap H1 locs1 → W p l e R s m args below meth c H1 locs1 (cells + 3) (slots + 0) Q (F0 m (pc + 3) ls rest)) : W p l e R s m args below meth c H locs cells slots Q (F0 m pc ls (.ref b :: rest)) := by
  have h9 : s.heap.size ≤ H.size := hS.1
  have hP0 := swap_P hP
  have hD0 := swap_D hD
  have hPc := P_pre hP0
  have hDc := D_pre hD0
  have hAA : ∀ q, va_A [(b, eS0)] H.size q → A0 q := fun q h => h.elim (fun h => by obtain ⟨k, e, h⟩ := h; exact hDc.2 k _ h) (fun h => hA q (Nat.le_trans h9 h))
  refine va_callv (va_runIN (As := []) (rest := rest) S (hM H.size) ⟨va_cnB 0 S.2.2.2.2 hG rfl rfl rfl hN (S.2.2.2.2 _ hini) (by decide +kernel) hR, rfl, S.2.2.2.2 _ hin⟩ ⟨blindGS, fun U hU hW => ⟨rfl, by rw [hU], by rw [hU]; exact hPc, KS.moved hW hK, hDc.weaken (fun _ _ _ _ => trivial)⟩⟩ rfl rfl hsize rfl (lv_room hc8) hdg hf) hS (fun q _ h => hAA q h) (fun q h => hAA q h) (fun u t H1 locs1 ht hvm hw1 hB hz1 hk1 hS => ?_)
  obtain ⟨hP1, hD1⟩ := hB
  rw [ht] at hP1
  have hkB : ∀ q : Nat, q < H.size → ¬ va_B [(b, eS0)] q → H1[q]? = H[q]? := fun q h1 h2 => hk1 q h1 (fun h => h.elim h2 (fun h => by omega))
  exact kk u H1 locs1 hw1 (preN_P hP0 hD0 hkB hP1) (preN_D hP0 hD0 (fun q h => hA q (Nat.le_trans h9 h)) hD1) hS
end
