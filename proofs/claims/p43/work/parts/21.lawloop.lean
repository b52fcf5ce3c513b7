/-! the law's calls of build and isSame; its loop -/
section
variable {p : Program} {l : Launch} {e : Env} {R : Room} {s : State} {m : MethodId} {args : Array Value} {below : List Frame} {meth : Method} {c : Code} {H : Heap} {locs : List Loc} {cells slots : Nat} {Q : State → Prop}
variable {cc : ByteArray} {pc nL index : Nat} {ls : Array Slot} {rest : List Value} {D : va_G} {A0 : Nat → Prop} {cI cA : ClassId} {Ts : List Cond} {own : String}
theorem x_build (S : CallFix p m c cc nL s args Ts own) {a b : Nat → Nat} {x L : Nat} {xs : Nat → Int32} (hM : BU l D cI cA a b x L xs) (hT : GoodIn Ts (va_wsS own index yL_build wsL_build)) (hR : 11 ≤ R.frames ∧ 218 ≤ R.locals) (hsize : ls.size = nL) (hc8 : (rest.map fun v => v.category).sum ≤ 8) (hdg : decode cc pc = .ok (.invokestatic index, 3)) (hf : cells + 26530 ≤ R.cells ∧ slots + 132700 ≤ R.slots)
    (hK : KB D cI cA s) (hX : KXA A0 s) (hP : va_P D vwCl (wCo cI a b S0 S0) H) (hD : va_D A0 (wCo cI a b S0 S0)) (hS : va_S A0 s.heap H locs) (hA : ∀ q, s.heap.size ≤ q → A0 q) (hx : va_X x L xs s s.heap) (hxl : x < s.heap.size) (hxA : ¬ A0 x)
    (kk : ∀ (z : Nat → Nat) (S9 : Nat → Nat → Nat) (H1 : Heap) (locs1 : List Loc), LI S9 → S9 0 3 ≤ 3180 → va_P D vwCl (wAc cI cA z a b S9 S0) H1 → va_D A0 (wAc cI cA z a b S9 S0) → va_S A0 s.heap H1 locs1 → W p l e R s m args below meth c H1 locs1 (cells + 26530) (slots + 132700) Q (F0 m (pc + 3) ls (.ref (z 0) :: rest))) : W p l e R s m args below meth c H locs cells slots Q (F0 m pc ls (.ref x :: .ref (a 13) :: rest)) := by
  have h9 : s.heap.size ≤ H.size := hS.1
  have hB : ∀ q, va_B (wCo cI a b S0 S0) q → A0 q := fun q h => by obtain ⟨k, e, h⟩ := h; exact hD.2 k _ h
  have hAA : ∀ q, va_A (wCo cI a b S0 S0) H.size q → A0 q := fun q h => h.elim (hB q) (fun h => hA q (Nat.le_trans h9 h))
  refine va_callr (va_runS (As := [.ref (a 13), .ref x]) (rest := rest) S (hM H.size) (va_cwS 2 S.2.2.2.2 hT rfl rfl rfl (by decide +kernel) hR) ⟨blindBU, fun U hU hW => ⟨rfl, by rw [hU], by rw [hU]; exact hP, ⟨KS.moved hW hK.1, va_Nw.warmM hW hK.2⟩, hX.at hW hU hS hAA, hD.weaken (fun _ _ _ _ => trivial), va_X.move hx (by rw [hU]; exact hS.2.1 x hxl hxA) hW.alike, Nat.lt_of_lt_of_le hxl h9, fun h => hxA (hB x h)⟩⟩ rfl rfl hsize rfl (lv_room hc8) hdg hf) hS (fun q _ h => hB q h) (fun q h => hAA q h) (fun u r t H1 locs1 ht hvm hw1 hB1 hz1 hk1 hS => ?_)
  obtain ⟨hr9, hP1, hD1⟩ := hB1
  subst hr9
  rw [ht] at hP1
  exact kk u.1 u.2 H1 locs1 hw1.1 hw1.2 hP1 (hD1.weaken (fun k q _ h => hAA q.1 h)) hS
theorem x_same (S : CallFix p m c cc nL s args Ts own) {z a b : Nat → Nat} {S9 S2 : Nat → Nat → Nat} (hM : XS l yX4_isSame wsX4_isSame 9 140 800 157 D cI cA [.ref (z 0), .ref (a 13)] (wAc cI cA z a b S9 S2) (wAc cI cA z a b S9 S2) (nI 1)) (hT : GoodIn Ts (wsV own index RX4 yX4_isSame wsX4_isSame)) (hR : 10 ≤ R.frames ∧ 186 ≤ R.locals) (hsize : ls.size = nL) (hc8 : (rest.map fun v => v.category).sum ≤ 8) (hdg : decode cc pc = .ok (.invokevirtual index, 3)) (hf : cells + 140 ≤ R.cells ∧ slots + 800 ≤ R.slots)
    (hK : KS D cI cA s) (hX : KXA A0 s) (hP : va_P D vwCl (wAc cI cA z a b S9 S2) H) (hD : va_D A0 (wAc cI cA z a b S9 S2)) (hS : va_S A0 s.heap H locs) (hA : ∀ q, s.heap.size ≤ q → A0 q)
    (kk : ∀ (H1 : Heap) (locs1 : List Loc), va_S A0 s.heap H1 locs1 → W p l e R s m args below meth c H1 locs1 (cells + 140) (slots + 800) Q (F0 m (pc + 3) ls (.int (nI 1) :: rest))) : W p l e R s m args below meth c H locs cells slots Q (F0 m pc ls (.ref (a 13) :: .ref (z 0) :: rest)) := by
  have h9 : s.heap.size ≤ H.size := hS.1
  have hB : ∀ q, va_B (wAc cI cA z a b S9 S2) q → A0 q := fun q h => by obtain ⟨k, e, h⟩ := h; exact hD.2 k _ h
  have hAA : ∀ q, va_A (wAc cI cA z a b S9 S2) H.size q → A0 q := fun q h => h.elim (hB q) (fun h => hA q (Nat.le_trans h9 h))
  refine va_calli (va_runV (As := [.ref (a 13)]) (rest := rest) S (hM H.size) (cwV 1 S.2.2.2.2 hT rfl rfl rfl (by decide +kernel) hR) ⟨blindXS, va_recv (q0 := 0) (ci := 4) hK.1.1 hP rfl (pre_at rfl), fun U hU hW => ⟨rfl, by rw [hU], by rw [hU]; exact hP, KS.moved hW hK, hX.at hW hU hS hAA, hD.weaken (fun _ _ _ _ => trivial)⟩⟩ rfl rfl hsize rfl (lv_room hc8) hdg hf) hS (fun q _ h => hB q h) (fun q h => hAA q h) (fun r u t H1 locs1 ht hvm hw1 hB1 hz1 hk1 hS => ?_)
  subst hw1
  exact kk H1 locs1 hS
end
set_option maxRecDepth 100000 in
set_option maxHeartbeats 8000000 in
theorem l_loop {p : Program} {l : Launch} {e : Env} {s : State} {m : MethodId} {args : Array Value} {below : List Frame} {meth : Method} {c : Code} {Q : State → Prop} {D : va_G} {A0 : Nat → Prop} {cI cA : ClassId} (F : LF p s m c args) (hst : l.stackTraces = false) (hK : KS D cI cA s) (hX : KXA A0 s) (hA : ∀ q, s.heap.size ≤ q → A0 q) {a b : Nat → Nat} {x L z0 : Nat} {xs : Nat → Int32} (hL : L ≤ 260) (hx : va_X x L xs s s.heap) (hxl : x < s.heap.size) (hxA : ¬ A0 x)
    (kx : ∀ (H : Heap) (locs : List Loc) (ls : Array Slot), va_S A0 s.heap H locs → W p l e room_1 s m args below meth c H locs 600130 7301080 Q (F0 m 1356 ls [.int (nI 1)])) :
    ∀ (n t : Nat), t ≤ 36 → 37 ≤ t + n → ∀ (c0 s0 : Nat), c0 ≤ 26600 + 800 * t → s0 ≤ 133000 + 4300 * t → ∀ (z : Nat → Nat) (S : Nat → Nat → Nat), z 0 = z0 → LI S → S 0 3 ≤ 3180 + 61 * t → ∀ (H : Heap) (locs : List Loc) (ls : Array Slot), va_P D vwCl (wAc cI cA z a b S S0) H → va_D A0 (wAc cI cA z a b S S0) → va_S A0 s.heap H locs → lv_has ls 34 [(3, .int (nI t)), (2, .ref z0), (1, .ref (a 13)), (0, .ref x)] → W p l e room_1 s m args below meth c H locs c0 s0 Q (F0 m 22 ls []) := by
  intro n
  induction n with
  | zero => intro t hi hn; exact absurd hn (by omega)
  | succ n ih =>
    intro t hi hn c0 s0 hc0 hs0 z S hz9 hLI hB H locs ls hP hD hS hl
    rw [← hz9] at hl
    refine lv_iload_n F.1 F.2.1 dL_law_22 rfl (lv_at hl 0 rfl) ?_
    refine lv_bipush (v := nI 36) F.1 F.2.1 dL_law_23 (by decide) ?_
    refine k_icmp_ge (tgt := 1351) F (by omega) (by omega) dL_law_25 (by decide) (fun h25 => ?_) (fun h25 => ?_)
    · refine lv_aload_n F.1 F.2.1 dL_law_1351 rfl (lv_at hl 1 rfl) ?_
      refine lv_aload_n F.1 F.2.1 dL_law_1352 rfl (lv_at hl 2 rfl) ?_
      refine x_same (rest := []) F (c_X4_isSame l D cI cA hst z a b S S0 hLI.1 (by omega)) gL_law_X4_isSame ⟨Nat.le_of_ble_eq_true rfl, Nat.le_of_ble_eq_true rfl⟩ hl.1 (Nat.le_of_ble_eq_true rfl) dL_law_1353 ⟨show c0 + 140 ≤ 600130 by omega, show s0 + 800 ≤ 7301080 by omega⟩ hK hX hP hD hS hA (fun H locs hS => ?_)
      exact W.widen (show c0 + 140 ≤ 600130 by omega) (show s0 + 800 ≤ 7301080 by omega) (kx H locs ls hS)
    · refine lv_aload_n F.1 F.2.1 dL_law_28 rfl (lv_at hl 3 rfl) ?_
      refine lv_iload_n F.1 F.2.1 dL_law_29 rfl (lv_at hl 0 rfl) ?_
      refine lv_bipush (v := nI 16) F.1 F.2.1 dL_law_30 (by decide) ?_
      refine lv_irem F.1 F.2.1 dL_law_32 (by decide) ?_
      rw [pk_rem (by omega) (by decide) (by decide)]
      refine x_cell (k := t % 16) F hL (by omega) gL_law_L_cell ⟨Nat.le_of_ble_eq_true rfl, Nat.le_of_ble_eq_true rfl⟩ hl.1 (Nat.le_of_ble_eq_true rfl) dL_law_33 ⟨show c0 ≤ 600130 by omega, show s0 ≤ 7301080 by omega⟩ hx hxl hxA hP hS (fun H locs hP hS => ?_)
      refine lv_iload_n F.1 F.2.1 dL_law_36 rfl (lv_at hl 0 rfl) ?_
      refine lv_bipush (v := nI 16) F.1 F.2.1 dL_law_37 (by decide) ?_
      refine lv_idiv F.1 F.2.1 dL_law_39 (by decide) ?_
      rw [pk_div (by omega) (by decide) (by decide)]
      refine lv_iconst (v := nI 3) F.1 F.2.1 dL_law_40 (by decide) ?_
      refine k_imul F dL_law_41 ?_
      refine lv_ishr F.1 F.2.1 dL_law_42 ?_
      refine lv_sipush (v := nI 673) F.1 F.2.1 dL_law_43 (by decide) ?_
      refine lv_iload_n F.1 F.2.1 dL_law_46 rfl (lv_at hl 0 rfl) ?_
      refine k_imul F dL_law_47 ?_
      refine lv_iadd F.1 F.2.1 dL_law_48 ?_
      generalize celV xs L (t % 16) >>> (nI (t / 16 * 3) &&& 31) + nI (673 * t) = X
      refine lv_istore (lv' := [(4, .int X), (3, .int (nI t)), (2, .ref (z 0)), (1, .ref (a 13)), (0, .ref x)]) F.1 F.2.1 dL_law_49 hl (by decide) rfl (fun ls hl => ?_)
      refine lv_aload_n F.1 F.2.1 dL_law_51 rfl (lv_at hl 3 rfl) ?_
      refine lv_aload_n F.1 F.2.1 dL_law_52 rfl (lv_at hl 2 rfl) ?_
      refine lv_iload F.1 F.2.1 dL_law_53 (lv_at hl 0 rfl) ?_
      refine x_act (rest := []) F (c_L_act l D cI cA hst z a b S S0 X hLI) gL_law_L_act ⟨Nat.le_of_ble_eq_true rfl, Nat.le_of_ble_eq_true rfl⟩ hl.1 (Nat.le_of_ble_eq_true rfl) dL_law_55 ⟨show c0 + 500 ≤ 600130 by omega, show s0 + 2500 ≤ 7301080 by omega⟩ hK hX hP hD hS hA (fun z1 S1 H locs hz1 hL1 hB1 hP hD hS => ?_)
      refine k_if_ne (x := 1) (tgt := 63) F (by decide) dL_law_58 (by decide) (fun _ => ?_) (fun h => absurd h (by decide))
      rw [← hz1] at hl
      refine l_iter F hst hK hX hA hL1 (show c0 + 500 + 280 ≤ 600130 by omega) (show s0 + 2500 + 1700 ≤ 7301080 by omega) hP hD hS hl (fun H locs ls hP hD hS hl => ?_)
      refine k_inc (k := 0) (lv' := [(3, .int (nI (t + 1))), (2, .ref (z1 0)), (1, .ref (a 13)), (0, .ref x)]) F dL_law_1345 hl rfl (by decide) rfl (fun ls hl => ?_)
      refine lv_goto (tgt := 22) F.1 F.2.1 dL_law_1348 (by decide) ?_
      have hb9 : beatS S1 0 3 = S1 0 3 + 1 := beatS_b S1
      have hz2 : z1 0 = z0 := hz1.trans hz9
      rw [hz2] at hl
      exact ih (t + 1) (by omega) (by omega) (c0 + 500 + 280) (s0 + 2500 + 1700) (by omega) (by omega) z1 (beatS S1) hz2 (LI_beat hL1) (by omega) H locs ls hP hD hS hl
