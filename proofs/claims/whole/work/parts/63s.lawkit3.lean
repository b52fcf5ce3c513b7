/-! the law's world, its reads of the script, the end of a case -/
abbrev wLw (cI cL : ClassId) (u : Nat → Nat) (o : Nat) (a b : Nat → Nat) (S : Nat → Nat → Nat) (th : Int32) (K : Nat → Nat) (S2 : Nat → Nat → Nat) (f : Nat → Int64) : va_W := wMo cI u S th K ++ (wOut cL o f ++ wCo cI a b S S2)
abbrev LF (p : Program) (s : State) (m : MethodId) (c : Code) (args : Array Value) : Prop := CallFix p m c cL_law 9 s args wsL_law RL
def LX (l : Launch) (s : State) (D : va_G) (A0 : Nat → Prop) (cI cL : ClassId) (x L : Nat) (xs : Nat → Int32) : Prop := KK D [(cI, .int)] s ∧ KK D [(cI, .int), (cL, .long)] s ∧ KXA A0 s ∧ KXN s ∧ (∀ q, s.heap.size ≤ q → A0 q) ∧ l.stackTraces = false ∧ va_X x L xs s s.heap ∧ x < s.heap.size ∧ ¬ A0 x ∧ L ≤ 2048
def LG (s : State) (D : va_G) (A0 : Nat → Prop) (cI cL : ClassId) (u : Nat → Nat) (o : Nat) (a b : Nat → Nat) (x i : Nat) (S : Nat → Nat → Nat) (th : Int32) (K : Nat → Nat) (S2 : Nat → Nat → Nat) (f : Nat → Int64) (H : Heap) (locs : List Loc) (ls : Array Slot) : Prop :=
  Inv S ∧ va_P D vwCl (wLw cI cL u o a b S th K S2 f) H ∧ va_D A0 (wLw cI cL u o a b S th K S2 f) ∧ va_S A0 s.heap H locs ∧ lv_has ls 9 [(4, .int (nI i)), (0, .ref x), (1, .ref (a 13)), (2, .ref (u 0)), (3, .ref o)]
def LN (p : Program) (l : Launch) (e : Env) (s : State) (m : MethodId) (args : Array Value) (below : List Frame) (meth : Method) (c : Code) (Q : State → Prop) (D : va_G) (A0 : Nat → Prop) (cI cL : ClassId) (u : Nat → Nat) (o : Nat) (a b : Nat → Nat) (x i cells slots : Nat) : Prop :=
  ∀ (S : Nat → Nat → Nat) (th : Int32) (K : Nat → Nat) (S2 : Nat → Nat → Nat) (f : Nat → Int64) (H : Heap) (locs : List Loc) (ls : Array Slot), LG s D A0 cI cL u o a b x i S th K S2 f H locs ls → W p l e room_1 s m args below meth c H locs (cells + 149) (slots + 944) Q (F0 m 2173 ls [])
theorem wOC_ad {cI cL : ClassId} {o : Nat} {a b : Nat → Nat} {f f2 : Nat → Int64} {S S2 S3 S4 : Nat → Nat → Nat} : (wOut cL o f ++ wCo cI a b S S2).map (·.1) = (wOut cL o f2 ++ wCo cI a b S3 S4).map (·.1) := rfl
theorem wMo_ln {cI : ClassId} {u : Nat → Nat} {S S' : Nat → Nat → Nat} {th th' : Int32} {K K' : Nat → Nat} : (wMo cI u S' th' K').length = (wMo cI u S th K).length := rfl
theorem wLw_out {cI cL : ClassId} {u : Nat → Nat} {o : Nat} {a b : Nat → Nat} {S : Nat → Nat → Nat} {th : Int32} {K : Nat → Nat} {S2 : Nat → Nat → Nat} {f : Nat → Int64} : (wLw cI cL u o a b S th K S2 f)[6]? = some (o, .inl (cL, 1, .inr (.inl f))) := rfl
theorem wLw_Co {D : va_G} {H : Heap} {cI cL : ClassId} {u : Nat → Nat} {o : Nat} {a b : Nat → Nat} {S : Nat → Nat → Nat} {th : Int32} {K : Nat → Nat} {S2 : Nat → Nat → Nat} {f : Nat → Int64} (hP : va_P D vwCl (wLw cI cL u o a b S th K S2 f) H) : va_P D vwCl (wCo cI a b S S2) H := app_Pr (app_Pr hP)
theorem lg_cmp_self (x : Int64) : lg_cmp x x = 0 := by simp [lg_cmp]
section
variable {p : Program} {l : Launch} {e : Env} {s : State} {m : MethodId} {args : Array Value} {below : List Frame} {meth : Method} {c : Code} {H : Heap} {locs : List Loc} {cells slots : Nat} {Q : State → Prop}
variable {pc : Nat} {ls : Array Slot} {rest : List Value} {D : va_G} {A0 : Nat → Prop} {cI cL : ClassId} {u a b : Nat → Nat} {o x L : Nat} {xs : Nat → Int32}
/-- script[i + k] -/
theorem w_rd (F : LF p s m c args) (X : LX l s D A0 cI cL x L xs) {i k : Nat} {z : Int} (hz : Int32.ofInt z = nI k) (hik : i + k < L) (hS : va_S A0 s.heap H locs) {lv : List (Nat × Value)} (k0 k4 : Nat) (hl : lv_has ls 9 lv) (h0 : lv[k0]? = some (0, .ref x)) (h4 : lv[k4]? = some (4, .int (nI i)))
    (d0 : decode cL_law pc = .ok (.aload_n 0, 1)) (d1 : decode cL_law (pc + 1) = .ok (.iload 4, 2)) (d2 : decode cL_law (pc + 3) = .ok (.iconst z, 1)) (d3 : decode cL_law (pc + 4) = .ok (.iadd, 1)) (d4 : decode cL_law (pc + 5) = .ok (.iaload, 1))
    (kk : W p l e room_1 s m args below meth c H locs cells slots Q (F0 m (pc + 6) ls (.int (xs (i + k)) :: rest))) : W p l e room_1 s m args below meth c H locs cells slots Q (F0 m pc ls rest) := by
  obtain ⟨-, -, -, -, -, -, hX, hxl, hxA, hL⟩ := X
  refine lv_aload_n F.1 F.2.1 d0 rfl (lv_at hl k0 h0) ?_
  refine lv_iload F.1 F.2.1 d1 (lv_at hl k4 h4) ?_
  refine lv_iconst (v := nI k) F.1 F.2.1 d2 hz ?_
  refine k_iadd F d3 ?_
  refine va_sld F.1 F.2.1 hX hxl hxA hS (vp_in_nI hik (by omega)) d4 ?_
  rw [nI_clamp (show i + k < 2 ^ 31 by omega)]
  exact kk
/-- script[i] -/
theorem w_rd0 (F : LF p s m c args) (X : LX l s D A0 cI cL x L xs) {i : Nat} (hik : i < L) (hS : va_S A0 s.heap H locs) {lv : List (Nat × Value)} (k0 k4 : Nat) (hl : lv_has ls 9 lv) (h0 : lv[k0]? = some (0, .ref x)) (h4 : lv[k4]? = some (4, .int (nI i)))
    (d0 : decode cL_law pc = .ok (.aload_n 0, 1)) (d1 : decode cL_law (pc + 1) = .ok (.iload 4, 2)) (d4 : decode cL_law (pc + 3) = .ok (.iaload, 1))
    (kk : W p l e room_1 s m args below meth c H locs cells slots Q (F0 m (pc + 4) ls (.int (xs i) :: rest))) : W p l e room_1 s m args below meth c H locs cells slots Q (F0 m pc ls rest) := by
  obtain ⟨-, -, -, -, -, -, hX, hxl, hxA, hL⟩ := X
  refine lv_aload_n F.1 F.2.1 d0 rfl (lv_at hl k0 h0) ?_
  refine lv_iload F.1 F.2.1 d1 (lv_at hl k4 h4) ?_
  refine va_sld F.1 F.2.1 hX hxl hxA hS (vp_in_nI hik (by omega)) d4 ?_
  rw [nI_clamp (show i < 2 ^ 31 by omega)]
  exact kk
theorem w_exit (F : LF p s m c args) {i : Nat} {off : Int} {cells0 slots0 : Nat} {S : Nat → Nat → Nat} {th : Int32} {K : Nat → Nat} {S2 : Nat → Nat → Nat} {f : Nat → Int64} (hI : Inv S) (hP : va_P D vwCl (wLw cI cL u o a b S th K S2 f) H) (hD : va_D A0 (wLw cI cL u o a b S th K S2 f)) (hS : va_S A0 s.heap H locs)
    (hl : lv_has ls 9 [(4, .int (nI i)), (0, .ref x), (1, .ref (a 13)), (2, .ref (u 0)), (3, .ref o)]) (hc : cells ≤ cells0 + 149) (hs : slots ≤ slots0 + 944) (N : LN p l e s m args below meth c Q D A0 cI cL u o a b x i cells0 slots0)
    (d0 : decode cL_law pc = .ok (.goto off, 3)) (ho : (pc : Int) + off = 2173) : W p l e room_1 s m args below meth c H locs cells slots Q (F0 m pc ls []) := by
  refine lv_goto (tgt := 2173) F.1 F.2.1 d0 ho ?_
  exact W.widen hc hs (N S th K S2 f H locs ls ⟨hI, hP, hD, hS, hl⟩)
set_option maxRecDepth 100000 in
set_option maxHeartbeats 4000000 in
/-- thrown() is k; then, where k is 0, out[0] is v -/
theorem w_tail (F : LF p s m c args) (X : LX l s D A0 cI cL x L xs) {i k : Nat} {off : Int} {cells0 slots0 : Nat} {S : Nat → Nat → Nat} {K : Nat → Nat} {S2 : Nat → Nat → Nat} {f : Nat → Int64} {v : Int32} (hI : Inv S) (hP : va_P D vwCl (wLw cI cL u o a b S (nI k) K S2 (ouF f k v)) H) (hD : va_D A0 (wLw cI cL u o a b S (nI k) K S2 (ouF f k v))) (hS : va_S A0 s.heap H locs)
    (hl : lv_has ls 9 [(6, .int v), (5, .int (nI k)), (4, .int (nI i)), (0, .ref x), (1, .ref (a 13)), (2, .ref (u 0)), (3, .ref o)]) (hk : k ≤ 3) (hc : cells ≤ cells0 + 149) (hs : slots ≤ slots0 + 944) (hR : cells0 + 149 ≤ 601024) (hR2 : slots0 + 944 ≤ 7293033) (N : LN p l e s m args below meth c Q D A0 cI cL u o a b x i cells0 slots0)
    (d0 : decode cL_law pc = .ok (.aload_n 2, 1)) (d1 : decode cL_law (pc + 1) = .ok (.invokevirtual 119, 3)) (d4 : decode cL_law (pc + 4) = .ok (.iload 5, 2)) (d6 : decode cL_law (pc + 6) = .ok (.if_icmp .eq 5, 3)) (d11 : decode cL_law (pc + 11) = .ok (.iload 5, 2)) (d13 : decode cL_law (pc + 13) = .ok (.ifCond .ne 15, 3)) (d16 : decode cL_law (pc + 16) = .ok (.aload_n 3, 1)) (d17 : decode cL_law (pc + 17) = .ok (.iconst 0, 1)) (d18 : decode cL_law (pc + 18) = .ok (.laload, 1)) (d19 : decode cL_law (pc + 19) = .ok (.iload 6, 2)) (d21 : decode cL_law (pc + 21) = .ok (.i2l, 1)) (d22 : decode cL_law (pc + 22) = .ok (.lcmp, 1)) (d23 : decode cL_law (pc + 23) = .ok (.ifCond .eq 5, 3)) (d28 : decode cL_law (pc + 28) = .ok (.goto off, 3)) (ho : ((pc + 28 : Nat) : Int) + off = 2173) : W p l e room_1 s m args below meth c H locs cells slots Q (F0 m pc ls []) := by
  refine lv_aload_n F.1 F.2.1 d0 rfl (lv_at hl 5 rfl) ?_
  refine w_subI (n := 0) (rest := []) (As := []) F (c_X4_thrown l D cI u S (nI k) K) gL_law_X4_thrown rfl (by decide +kernel) ⟨Nat.le_of_ble_eq_true rfl, Nat.le_of_ble_eq_true rfl⟩ rfl hl.1 rfl (Nat.le_of_ble_eq_true rfl) d1 ⟨show cells ≤ 601024 by omega, show slots ≤ 7293033 by omega⟩ X.1 hP (P_pre hP) hS (q0 := 0) (ci := 4) rfl rfl (fun H locs hP hS => ?_)
  refine lv_iload F.1 F.2.1 d4 (lv_at hl 1 rfl) ?_
  refine lv_icmp_eq (tgt := pc + 11) F.1 F.2.1 d6 (by omega) (fun _ => ?_) (fun h => absurd rfl h)
  refine lv_iload F.1 F.2.1 d11 (lv_at hl 1 rfl) ?_
  refine k_if_ne (tgt := pc + 28) F (by omega) d13 (by omega) (fun _ => ?_) (fun h => ?_)
  · exact w_exit F hI hP hD hS (lv_sub hl [2, 3, 4, 5, 6] rfl) hc hs N d28 ho
  · refine lv_aload_n F.1 F.2.1 d16 rfl (lv_at hl 6 rfl) ?_
    refine lv_iconst (v := nI 0) F.1 F.2.1 d17 (by decide) ?_
    refine va_lald F.1 F.2.1 X.2.1.1 hP 6 1 wLw_out rfl (i := nI 0) (vp_in_nI (by decide) (by decide)) d18 ?_
    have e0 : ouF f k v (nI 0).toNatClampNeg = v.toInt64 := by
      rw [h, show (nI 0).toNatClampNeg = 0 by decide]
      rfl
    rw [e0]
    refine lv_iload F.1 F.2.1 d19 (lv_at hl 0 rfl) ?_
    refine lv_i2l (v := v.toInt64) F.1 F.2.1 d21 rfl ?_
    refine W.lcmp F.1 F.2.1 d22 ?_
    refine lv_if_eq (tgt := pc + 28) F.1 F.2.1 d23 (by omega) (fun _ => ?_) (fun h => absurd (lg_cmp_self _) h)
    exact w_exit F hI hP hD hS (lv_sub hl [2, 3, 4, 5, 6] rfl) hc hs N d28 ho
set_option maxRecDepth 100000 in
set_option maxHeartbeats 4000000 in
/-- the same of a truth -/
theorem w_tailB (F : LF p s m c args) (X : LX l s D A0 cI cL x L xs) {i k : Nat} {off : Int} {cells0 slots0 : Nat} {S : Nat → Nat → Nat} {K : Nat → Nat} {S2 : Nat → Nat → Nat} {f : Nat → Int64} {v : Int32} (hI : Inv S) (hP : va_P D vwCl (wLw cI cL u o a b S (nI k) K S2 (ouF f k v)) H) (hD : va_D A0 (wLw cI cL u o a b S (nI k) K S2 (ouF f k v))) (hS : va_S A0 s.heap H locs)
    (hl : lv_has ls 9 [(6, .int v), (5, .int (nI k)), (4, .int (nI i)), (0, .ref x), (1, .ref (a 13)), (2, .ref (u 0)), (3, .ref o)]) (hk : k ≤ 3) (hv : ¬ v = 0 → v.toInt64 = 1) (hc : cells ≤ cells0 + 149) (hs : slots ≤ slots0 + 944) (hR : cells0 + 149 ≤ 601024) (hR2 : slots0 + 944 ≤ 7293033) (N : LN p l e s m args below meth c Q D A0 cI cL u o a b x i cells0 slots0)
    (d0 : decode cL_law pc = .ok (.aload_n 2, 1)) (d1 : decode cL_law (pc + 1) = .ok (.invokevirtual 119, 3)) (d4 : decode cL_law (pc + 4) = .ok (.iload 5, 2)) (d6 : decode cL_law (pc + 6) = .ok (.if_icmp .eq 5, 3)) (d11 : decode cL_law (pc + 11) = .ok (.iload 5, 2)) (d13 : decode cL_law (pc + 13) = .ok (.ifCond .ne 22, 3)) (d16 : decode cL_law (pc + 16) = .ok (.aload_n 3, 1)) (d17 : decode cL_law (pc + 17) = .ok (.iconst 0, 1)) (d18 : decode cL_law (pc + 18) = .ok (.laload, 1)) (d19 : decode cL_law (pc + 19) = .ok (.iload 6, 2)) (d21 : decode cL_law (pc + 21) = .ok (.ifCond .eq 7, 3)) (d24 : decode cL_law (pc + 24) = .ok (.lconst 1, 1)) (d25 : decode cL_law (pc + 25) = .ok (.goto 4, 3)) (d28 : decode cL_law (pc + 28) = .ok (.lconst 0, 1)) (d29 : decode cL_law (pc + 29) = .ok (.lcmp, 1)) (d30 : decode cL_law (pc + 30) = .ok (.ifCond .eq 5, 3)) (d35 : decode cL_law (pc + 35) = .ok (.goto off, 3)) (ho : ((pc + 35 : Nat) : Int) + off = 2173) : W p l e room_1 s m args below meth c H locs cells slots Q (F0 m pc ls []) := by
  refine lv_aload_n F.1 F.2.1 d0 rfl (lv_at hl 5 rfl) ?_
  refine w_subI (n := 0) (rest := []) (As := []) F (c_X4_thrown l D cI u S (nI k) K) gL_law_X4_thrown rfl (by decide +kernel) ⟨Nat.le_of_ble_eq_true rfl, Nat.le_of_ble_eq_true rfl⟩ rfl hl.1 rfl (Nat.le_of_ble_eq_true rfl) d1 ⟨show cells ≤ 601024 by omega, show slots ≤ 7293033 by omega⟩ X.1 hP (P_pre hP) hS (q0 := 0) (ci := 4) rfl rfl (fun H locs hP hS => ?_)
  refine lv_iload F.1 F.2.1 d4 (lv_at hl 1 rfl) ?_
  refine lv_icmp_eq (tgt := pc + 11) F.1 F.2.1 d6 (by omega) (fun _ => ?_) (fun h => absurd rfl h)
  refine lv_iload F.1 F.2.1 d11 (lv_at hl 1 rfl) ?_
  refine k_if_ne (tgt := pc + 35) F (by omega) d13 (by omega) (fun _ => ?_) (fun h => ?_)
  · exact w_exit F hI hP hD hS (lv_sub hl [2, 3, 4, 5, 6] rfl) hc hs N d35 ho
  · refine lv_aload_n F.1 F.2.1 d16 rfl (lv_at hl 6 rfl) ?_
    refine lv_iconst (v := nI 0) F.1 F.2.1 d17 (by decide) ?_
    refine va_lald F.1 F.2.1 X.2.1.1 hP 6 1 wLw_out rfl (i := nI 0) (vp_in_nI (by decide) (by decide)) d18 ?_
    have e0 : ouF f k v (nI 0).toNatClampNeg = v.toInt64 := by
      rw [h, show (nI 0).toNatClampNeg = 0 by decide]
      rfl
    rw [e0]
    refine lv_iload F.1 F.2.1 d19 (lv_at hl 0 rfl) ?_
    refine lv_if_eq (tgt := pc + 28) F.1 F.2.1 d21 (by omega) (fun h7 => ?_) (fun h7 => ?_)
    · rw [bl0 h7]
      refine lv_lconst (v := 0) F.1 F.2.1 d28 (by decide) ?_
      refine W.lcmp F.1 F.2.1 d29 ?_
      refine lv_if_eq (tgt := pc + 35) F.1 F.2.1 d30 (by omega) (fun _ => ?_) (fun h => absurd (lg_cmp_self _) h)
      exact w_exit F hI hP hD hS (lv_sub hl [2, 3, 4, 5, 6] rfl) hc hs N d35 ho
    · rw [hv h7]
      refine lv_lconst (v := 1) F.1 F.2.1 d24 (by decide) ?_
      refine lv_goto (tgt := pc + 29) F.1 F.2.1 d25 (by omega) ?_
      refine W.lcmp F.1 F.2.1 d29 ?_
      refine lv_if_eq (tgt := pc + 35) F.1 F.2.1 d30 (by omega) (fun _ => ?_) (fun h => absurd (lg_cmp_self _) h)
      exact w_exit F hI hP hD hS (lv_sub hl [2, 3, 4, 5, 6] rfl) hc hs N d35 ho
end
