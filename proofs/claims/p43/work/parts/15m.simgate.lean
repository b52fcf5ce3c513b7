/-! a gate more; a row more, put in its place -/
def wAg (cI : ClassId) (z : Nat → Nat) (S : Nat → Nat → Nat) : va_W := [(z 0, .inr (4, [.int (nI (S 0 3)), .int (nI (S 0 4)), .int (nI (S 0 5)), .ref (z 1), .ref (z 2), .ref (z 3)])), (z 1, .inl (cI, S 0 0, .inl (row (S 1))))]
def wRs (cI cA : ClassId) (z : Nat → Nat) (S : Nat → Nat → Nat) : va_W := [(z 2, .inl (cA, S 0 1, ilr (fun k => some (z (4 + k))))), (z 3, .inl (cA, S 0 2, ilr (fun v => some (z (12 + v)))))] ++ (wGs cI z S (S 0 1) ++ wVs cI z S (S 0 2))
theorem wSi_sp {cI cA : ClassId} {z : Nat → Nat} {S : Nat → Nat → Nat} : wSi cI cA z S = wAg cI z S ++ wRs cI cA z S := rfl
/-- the state behind a gate more -/
abbrev gaS (S : Nat → Nat → Nat) (x : Nat) : Nat → Nat → Nat := setf (setf S 1 (S 0 0) x) 0 0 (S 0 0 + 1)
theorem cz_eq {cI : ClassId} {z z' : Nat → Nat} {S : Nat → Nat → Nat} {k : Nat} (h : z' (4 + k) = z (4 + k)) : cGo cI z' S k = cGo cI z S k := by unfold cGo; rw [h]
theorem czv_eq {cI : ClassId} {z z' : Nat → Nat} {S : Nat → Nat → Nat} {v : Nat} (h : z' (12 + v) = z (12 + v)) : cVi cI z' S v = cVi cI z S v := by unfold cVi; rw [h]
theorem updN_ne {z : Nat → Nat} {i x j : Nat} (h : j ≠ i) : updN z i x j = z j := if_neg h
theorem updN_at {z : Nat → Nat} {i x : Nat} : updN z i x i = x := if_pos rfl
theorem wRs_ga {cI cA : ClassId} {z : Nat → Nat} {S : Nat → Nat → Nat} {q x : Nat} : wRs cI cA (updN z 1 q) (gaS S x) = wRs cI cA z S := by
  have e01 : gaS S x 0 1 = S 0 1 := by unfold gaS; rw [setf_at, if_neg (by omega), setf_at, if_neg (by omega)]
  have e02 : gaS S x 0 2 = S 0 2 := by unfold gaS; rw [setf_at, if_neg (by omega), setf_at, if_neg (by omega)]
  have eg : cGo cI (updN z 1 q) (gaS S x) = cGo cI z S := by
    funext k
    rw [cz_eq (updN_ne (by omega))]
    exact cGo_eq (fun j hj => by unfold gaS; rw [setf_at, if_neg (by omega), setf_at, if_neg (by omega)])
  have ev : cVi cI (updN z 1 q) (gaS S x) = cVi cI z S := by
    funext k
    rw [czv_eq (updN_ne (by omega))]
    exact cVi_eq (fun j hj => by have := vfi_ge j; unfold gaS; rw [setf_at, if_neg (by omega), setf_at, if_neg (by omega)])
  have e2 : updN z 1 q 2 = z 2 := updN_ne (by omega)
  have e3 : updN z 1 q 3 = z 3 := updN_ne (by omega)
  have e4 : (fun k => some (updN z 1 q (4 + k))) = fun k => some (z (4 + k)) := by funext k; rw [updN_ne (by omega)]
  have e5 : (fun k => some (updN z 1 q (12 + k))) = fun k => some (z (12 + k)) := by funext k; rw [updN_ne (by omega)]
  unfold wRs wGs wVs
  rw [e01, e02, eg, ev, e2, e3, e4, e5]
def AG (l : Launch) (D : va_G) (cI cA : ClassId) (z : Nat → Nat) (S : Nat → Nat → Nat) (x : Nat) : Prop :=
  ∀ sz : Nat, Met l yX4_addGate wsX4_addGate (rmG 0 1 7 0) (va_Pc [.ref (z 0), .int (nI x)] (fun U => U.heap.size = sz ∧ va_P D vwCl (wAg cI z S) U.heap ∧ KS D cI cA U ∧ va_D (fun _ => True) (wAg cI z S))) (va_Qv (fun _ : Nat => True) (fun q t => va_P D vwCl (wAg cI (updN z 1 q) (gaS S x)) t.heap ∧ va_D (va_A (wAg cI z S) sz) (wAg cI (updN z 1 q) (gaS S x))) (va_B (wAg cI z S))) 1 7 (va_A (wAg cI z S) sz)
theorem nX4_addGate_X4 : ∀ x ∈ wsX40, x ∈ wsX4_addGate := fun _ h => List.mem_cons_of_mem _ (List.mem_append_right _ h)
set_option maxRecDepth 100000 in
set_option maxHeartbeats 4000000 in
theorem c_X4_addGate (l : Launch) (D : va_G) (cI cA : ClassId) (z : Nat → Nat) (S : Nat → Nat → Nat) (x : Nat) (hn : S 0 0 ≤ 6) : AG l D cI cA z S x := by
  intro sz
  refine q_bodyG (cc := cX4_addGate) (maxL := 4) (ret := none) (by decide) rfl (Nat.le_of_ble_eq_true rfl) ?_
  intro p e s m args below meth c H ls hz F hr hlk hl hP hK hD hS
  have F : CallFix p m c cX4_addGate 4 s args wsX4_addGate RX4 := F
  have hl : lv_has ls 4 [(0, .ref (z 0)), (1, .int (nI x))] := hl
  refine lv_aload_n F.1 F.2.1 dX4_addGate_0 rfl (lv_at hl 0 rfl) ?_
  refine k_get (v := .ref (z 1)) F nX4_addGate_X4 hK.1.1 hP 0 rfl rfl 3 (by decide) (List.mem_of_getElem? (i := 1) rfl) rfl dX4_addGate_1 ?_
  refine q_alen F hK hP 1 rfl dX4_addGate_4 ?_
  refine lv_iconst (v := nI 1) F.1 F.2.1 dX4_addGate_5 (by decide) ?_
  refine k_iadd F dX4_addGate_6 ?_
  refine q_newa F (List.mem_of_getElem? (i := 2) rfl) hK hP hD hS (fun q h => Or.inr (by omega)) (k := S 0 0 + 1) (by omega) ⟨Nat.le_refl _, show 0 + (S 0 0 + 1) ≤ 7 by omega⟩ dX4_addGate_7 (fun q H hP hD hS => ?_)
  refine lv_astore_n (lv' := [(2, .ref q), (0, .ref (z 0)), (1, .int (nI x))]) F.1 F.2.1 dX4_addGate_9 rfl hl (by decide) rfl (fun ls hl => ?_)
  refine lv_iconst (v := nI 0) F.1 F.2.1 dX4_addGate_10 (by decide) ?_
  refine lv_istore_n (lv' := [(3, .int (nI 0)), (2, .ref q), (0, .ref (z 0)), (1, .int (nI x))]) F.1 F.2.1 dX4_addGate_11 rfl hl (by decide) rfl (fun ls hl => ?_)
  have loop : ∀ (r i : Nat), i ≤ S 0 0 → S 0 0 + 1 ≤ i + r → ∀ (H : Heap) (locs : List Loc) (ls : Array Slot), va_P D vwCl (wAg cI z S ++ [(q, .inl (cI, S 0 0 + 1, .inl (row (fillN (S 1) i))))]) H → va_D (va_A (wAg cI z S) sz) (wAg cI z S ++ [(q, .inl (cI, S 0 0 + 1, .inl (row (fillN (S 1) i))))]) → va_S (va_A (wAg cI z S) sz) s.heap H locs → lv_has ls 4 [(3, .int (nI i)), (2, .ref q), (0, .ref (z 0)), (1, .int (nI x))] → W p l e (rmG 0 1 7 0) s m args below meth c H locs (0 + 1) (0 + (S 0 0 + 1)) (MQ below (va_Qv (fun _ : Nat => True) (fun q t => va_P D vwCl (wAg cI (updN z 1 q) (gaS S x)) t.heap ∧ va_D (va_A (wAg cI z S) sz) (wAg cI (updN z 1 q) (gaS S x))) (va_B (wAg cI z S))) args s 1 7 (va_A (wAg cI z S) sz)) (F0 m 12 ls []) := by
    intro r
    induction r with
    | zero => intro i hi hr2; exact absurd hr2 (by omega)
    | succ r ih =>
      intro i hi hr2 H locs ls hP hD hS hl
      refine lv_iload_n F.1 F.2.1 dX4_addGate_12 rfl (lv_at hl 0 rfl) ?_
      refine lv_aload_n F.1 F.2.1 dX4_addGate_13 rfl (lv_at hl 2 rfl) ?_
      refine k_get (v := .ref (z 1)) F nX4_addGate_X4 hK.1.1 hP 0 rfl rfl 3 (by decide) (List.mem_of_getElem? (i := 1) rfl) rfl dX4_addGate_14 ?_
      refine q_alen F hK hP 1 rfl dX4_addGate_17 ?_
      refine k_icmp_ge (tgt := 36) F (by omega) (by omega) dX4_addGate_18 (by decide) (fun h => ?_) (fun h => ?_)
      · refine lv_aload_n F.1 F.2.1 dX4_addGate_36 rfl (lv_at hl 1 rfl) ?_
        refine lv_aload_n F.1 F.2.1 dX4_addGate_37 rfl (lv_at hl 2 rfl) ?_
        refine k_get (v := .ref (z 1)) F nX4_addGate_X4 hK.1.1 hP 0 rfl rfl 3 (by decide) (List.mem_of_getElem? (i := 1) rfl) rfl dX4_addGate_38 ?_
        refine q_alen F hK hP 1 rfl dX4_addGate_41 ?_
        refine lv_iload_n F.1 F.2.1 dX4_addGate_42 rfl (lv_at hl 3 rfl) ?_
        refine q_iast (k := S 0 0) (x := x) F hK hP hD hS 2 rfl (by omega) (by omega) dX4_addGate_43 (wAg cI z S ++ [(q, .inl (cI, S 0 0 + 1, .inl (row (updN (fillN (S 1) i) (S 0 0) x))))]) rfl (fun H locs hP hD hS => ?_)
        refine lv_aload_n F.1 F.2.1 dX4_addGate_44 rfl (lv_at hl 2 rfl) ?_
        refine lv_aload_n F.1 F.2.1 dX4_addGate_45 rfl (lv_at hl 1 rfl) ?_
        refine q_putr (ty := .array .int) F nX4_addGate_X4 tyX4 tyX4_ok nmX4 hK hP hD hS 0 rfl rfl 3 (by decide) (List.mem_of_getElem? (i := 1) rfl) rfl (by decide +kernel) rfl rfl (Nat.le_of_ble_eq_true rfl) dX4_addGate_46 [(z 0, .inr (4, [.int (nI (S 0 3)), .int (nI (S 0 4)), .int (nI (S 0 5)), .ref q, .ref (z 2), .ref (z 3)])), (z 1, .inl (cI, S 0 0, .inl (row (S 1)))), (q, .inl (cI, S 0 0 + 1, .inl (row (updN (fillN (S 1) i) (S 0 0) x))))] rfl (fun H locs hP hD hS => ?_)
        have hP2 := sub_at (wc := [(z 0, .inr (4, [.int (nI (S 0 3)), .int (nI (S 0 4)), .int (nI (S 0 5)), .ref q, .ref (z 2), .ref (z 3)])), (q, .inl (cI, S 0 0 + 1, .inl (row (updN (fillN (S 1) i) (S 0 0) x))))]) hP [0, 2] rfl
        have hD2 := subD_at (wc := [(z 0, .inr (4, [.int (nI (S 0 3)), .int (nI (S 0 4)), .int (nI (S 0 5)), .ref q, .ref (z 2), .ref (z 3)])), (q, .inl (cI, S 0 0 + 1, .inl (row (updN (fillN (S 1) i) (S 0 0) x))))]) hD [0, 2] rfl rfl
        have hP3 : va_P D vwCl (wAg cI (updN z 1 q) (gaS S x)) H := by
          intro k y hy
          rcases (show k = 0 ∨ k = 1 by have h9 : k < 2 := (List.getElem?_eq_some_iff.mp hy).1; omega) with rfl | rfl
          · cases hy
            exact hP2 0 _ rfl
          · cases hy
            have h9 : H[q]? = some (vp_cell cI (S 0 0 + 1, .inl (row (updN (fillN (S 1) i) (S 0 0) x)))) := hP2 1 _ rfl
            show H[q]? = some (vp_cell cI (S 0 0 + 1, .inl (row (gaS S x 1))))
            rw [h9]
            congr 1
            refine cell_I (fun j hj => ?_)
            show (if j = S 0 0 then x else fillN (S 1) i j) = if j = S 0 0 then x else S 1 j
            by_cases e : j = S 0 0
            · rw [if_pos e, if_pos e]
            · rw [if_neg e, if_neg e]
              unfold fillN
              rw [if_pos (by omega)]
        refine W.widen (Nat.le_refl _) (show 0 + (S 0 0 + 1) ≤ 7 by omega) (W.vret F.1 F.2.1 hr (fun t ht hW => ⟨⟨q, rfl, trivial, by rw [ht]; exact hP3, D_re hD2 rfl⟩, by
          have h := hS.F ht
          exact ⟨h.1, fun q h1 h2 => h.2 q h1 (fun h3 => h3.elim h2 (fun h4 => absurd h1 (by omega)))⟩⟩) hS.2.2 dX4_addGate_49 hlk)
      · refine lv_aload_n F.1 F.2.1 dX4_addGate_21 rfl (lv_at hl 1 rfl) ?_
        refine lv_iload_n F.1 F.2.1 dX4_addGate_22 rfl (lv_at hl 0 rfl) ?_
        refine lv_aload_n F.1 F.2.1 dX4_addGate_23 rfl (lv_at hl 2 rfl) ?_
        refine k_get (v := .ref (z 1)) F nX4_addGate_X4 hK.1.1 hP 0 rfl rfl 3 (by decide) (List.mem_of_getElem? (i := 1) rfl) rfl dX4_addGate_24 ?_
        refine lv_iload_n F.1 F.2.1 dX4_addGate_27 rfl (lv_at hl 0 rfl) ?_
        refine q_iald (f := S 1) (v := S 1 i) F hK hP 1 rfl (by omega) (by omega) rfl dX4_addGate_28 ?_
        refine q_iast (k := i) (x := S 1 i) F hK hP hD hS 2 rfl (by omega) (by omega) dX4_addGate_29 (wAg cI z S ++ [(q, .inl (cI, S 0 0 + 1, .inl (row (fillN (S 1) (i + 1)))))]) (by rw [← fillN_s]; rfl) (fun H locs hP hD hS => ?_)
        refine k_inc (k := 0) (lv' := [(3, .int (nI (i + 1))), (2, .ref q), (0, .ref (z 0)), (1, .int (nI x))]) F dX4_addGate_30 hl rfl (by decide) rfl (fun ls hl => ?_)
        refine lv_goto (tgt := 12) F.1 F.2.1 dX4_addGate_33 (by decide) ?_
        exact ih (i + 1) (by omega) (by omega) H locs ls hP hD hS hl
  rw [← fillN_0 (S 1)] at hP hD
  exact loop (S 0 0 + 1) 0 (by omega) (by omega) H [] ls hP hD hS hl
/-- its call -/
theorem q_addGate {p : Program} {l : Launch} {e : Env} {R : Room} {s : State} {m : MethodId} {args : Array Value} {below : List Frame} {meth : Method} {c : Code} {H : Heap} {locs : List Loc} {cells slots : Nat} {Q : State → Prop} {cc : ByteArray} {pc nL index : Nat} {ls : Array Slot} {rest : List Value} {D : va_G} {A0 : Nat → Prop} {cI cA : ClassId} {wr : va_W} {Ts : List Cond} {own : String} {z : Nat → Nat} {S0 : Nat → Nat → Nat} {x : Nat}
    (S : CallFix p m c cc nL s args Ts own) (hM : AG l D cI cA z S0 x) (hT : GoodIn Ts (wsV own index RX4 yX4_addGate wsX4_addGate)) (hR : 1 ≤ R.frames ∧ 23 ≤ R.locals) (hsize : ls.size = nL) (hc8 : (rest.map fun v => v.category).sum ≤ 8) (hdg : decode cc pc = .ok (.invokevirtual index, 3)) (hf : cells + 1 ≤ R.cells ∧ slots + 7 ≤ R.slots)
    (hK : KS D cI cA s) (hP : va_P D vwCl (wSi cI cA z S0 ++ wr) H) (hD : va_D A0 (wSi cI cA z S0 ++ wr)) (hS : va_S A0 s.heap H locs) (hA : ∀ q, s.heap.size ≤ q → A0 q)
    (kk : ∀ (q : Nat) (H1 : Heap) (locs1 : List Loc), va_P D vwCl (wSi cI cA (updN z 1 q) (gaS S0 x) ++ wr) H1 → va_D A0 (wSi cI cA (updN z 1 q) (gaS S0 x) ++ wr) → va_S A0 s.heap H1 locs1 → W p l e R s m args below meth c H1 locs1 (cells + 1) (slots + 7) Q (F0 m (pc + 3) ls rest)) : W p l e R s m args below meth c H locs cells slots Q (F0 m pc ls (.int (nI x) :: .ref (z 0) :: rest)) := by
  have h9 : s.heap.size ≤ H.size := hS.1
  have e1 : wSi cI cA z S0 ++ wr = wAg cI z S0 ++ (wRs cI cA z S0 ++ wr) := by rw [wSi_sp, List.append_assoc]
  have hP1 := P_eq e1 hP
  have hD1 := D_eq e1 hD
  have hPc := P_pre hP1
  have hDc := D_pre hD1
  refine va_callv (va_runV (As := [.int (nI x)]) (rest := rest) S (hM H.size) (cwV 1 S.2.2.2.2 hT rfl rfl rfl (by decide +kernel) hR) ⟨blindGS, va_recv (q0 := 0) (ci := 4) hK.1.1 hPc rfl rfl, fun U hU hW => ⟨rfl, by rw [hU], by rw [hU]; exact hPc, KS.moved hW hK, hDc.weaken (fun _ _ _ _ => trivial)⟩⟩ rfl rfl hsize rfl (lv_room hc8) hdg hf) hS (fun q _ h => B_Dp hD1 q h) (fun q h => h.elim (fun h => B_Dp hD1 q h) (fun h => hA q (Nat.le_trans h9 h))) (fun u t H1 locs1 ht hvm _ hB hz1 hk1 hS => ?_)
  obtain ⟨hB1, hB2⟩ := hB
  rw [ht] at hB1
  have hP2 := preN_P hP1 hD1 hk1 hB1
  have hD2 := preN_D hP1 hD1 (fun q h => hA q (Nat.le_trans h9 h)) hB2
  have e2 : wAg cI (updN z 1 u) (gaS S0 x) ++ (wRs cI cA z S0 ++ wr) = wSi cI cA (updN z 1 u) (gaS S0 x) ++ wr := by rw [wSi_sp, wRs_ga, List.append_assoc]
  exact kk u H1 locs1 (P_eq e2 hP2) (D_eq e2 hD2) hS
