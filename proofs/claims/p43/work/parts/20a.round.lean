/-! what the law's round needs -/
theorem grd_facts (h : Nat) : (grdN h = 0 ↔ h = 0) ∧ grdN h ≤ 4 ∧ (1 < grdN h ↔ 5 < h) ∧ (2 < grdN h ↔ 10 < h) ∧ (3 < grdN h ↔ 20 < h) := by
  unfold grdN
  repeat' split
  all_goals omega
theorem came_1 {S : Nat → Nat → Nat} (h : LI S) : cameI S 1 = nI (cmN S (beatS S) (S 0 2)) := by
  have e : cameI S 1 = nI (inN (beatS S) (beatS S 0 2)) - nI (inN S (S 0 2)) := rfl
  rw [e, beatS_sc S 2 (by omega), (beat_br h).2.2, pk_sub (by omega), Nat.add_sub_cancel_left]
theorem nI_nes (n : Nat) : ¬ nI n = nI (n + 1) := by
  intro h
  have e : ∀ k : Nat, (nI k).toBitVec.toNat = k % 2 ^ 32 := fun k => by
    show (BitVec.ofNat 32 k).toNat = _
    rw [BitVec.toNat_ofNat]
  have h1 : (nI n).toBitVec.toNat = (nI (n + 1)).toBitVec.toNat := by rw [h]
  rw [e, e] at h1
  omega
theorem ne_m1 {x y : Nat} (hx : x < 2 ^ 30) (hy : y < 2 ^ 30) : nI x = nI y - nI 1 ↔ x + 1 = y := by
  cases y with
  | zero =>
    constructor
    · intro h
      have e : nI 0 - nI 1 = -1 := by decide
      rw [e] at h
      exact absurd h (nI_ne_m1 (by omega))
    · intro h; omega
  | succ y =>
    rw [pk_sub (by omega), Nat.add_sub_cancel, nI_eq (by omega) (by omega)]
    omega
theorem k_ne_m1 {p : Program} {l : Launch} {e : Env} {R : Room} {s : State} {m : MethodId} {args : Array Value} {below : List Frame} {meth : Method} {c : Code} {H : Heap} {locs : List Loc} {cells slots : Nat} {Q : State → Prop} {cc : ByteArray} {pc nL : Nat} {ls : Array Slot} {rest : List Value} {Ts : List Cond} {own : String} (S : CallFix p m c cc nL s args Ts own) {x y tgt : Nat} {off : Int} (hx : x < 2 ^ 30) (hy : y < 2 ^ 30) (hdg : decode cc pc = .ok (.if_icmp .ne off, 3)) (ht : (pc : Int) + off = (tgt : Int))
    (kt : ¬ x + 1 = y → W p l e R s m args below meth c H locs cells slots Q (F0 m tgt ls rest)) (kf : x + 1 = y → W p l e R s m args below meth c H locs cells slots Q (F0 m (pc + 3) ls rest)) : W p l e R s m args below meth c H locs cells slots Q (F0 m pc ls (.int (nI y - nI 1) :: .int (nI x) :: rest)) :=
  lv_icmp_ne S.1 S.2.1 hdg ht (fun h => kt (fun q => h ((ne_m1 hx hy).mpr q))) (fun h => kf ((ne_m1 hx hy).mp h))
abbrev LF (p : Program) (s : State) (m : MethodId) (c : Code) (args : Array Value) : Prop := CallFix p m c cL_law 34 s args wsL_law RL
set_option maxRecDepth 100000 in
set_option maxHeartbeats 16000000 in
theorem l_iter {p : Program} {l : Launch} {e : Env} {s : State} {m : MethodId} {args : Array Value} {below : List Frame} {meth : Method} {c : Code} {H : Heap} {locs : List Loc} {Q : State → Prop} {ls : Array Slot} {D : va_G} {A0 : Nat → Prop} {cI cA : ClassId} (F : LF p s m c args) (hst : l.stackTraces = false) (hK : KS D cI cA s) (hX : KXA A0 s) (hA : ∀ q, s.heap.size ≤ q → A0 q) {z a b : Nat → Nat} {S S2 : Nat → Nat → Nat} {x t c0 s0 : Nat} {X : Int32} (hL : LI S) (hc : c0 + 280 ≤ 600130) (hs : s0 + 1700 ≤ 7301080) (hP : va_P D vwCl (wAc cI cA z a b S S2) H) (hD : va_D A0 (wAc cI cA z a b S S2)) (hS : va_S A0 s.heap H locs) (hl : lv_has ls 34 [(4, .int X), (3, .int (nI t)), (2, .ref (z 0)), (1, .ref (a 13)), (0, .ref x)])
    (kk : ∀ (H : Heap) (locs : List Loc) (ls : Array Slot), va_P D vwCl (wAc cI cA z a b (beatS S) S2) H → va_D A0 (wAc cI cA z a b (beatS S) S2) → va_S A0 s.heap H locs → lv_has ls 34 [(3, .int (nI t)), (2, .ref (z 0)), (1, .ref (a 13)), (0, .ref x)] → W p l e room_1 s m args below meth c H locs (c0 + 280) (s0 + 1700) Q (F0 m 1345 ls [])) : W p l e room_1 s m args below meth c H locs c0 s0 Q (F0 m 63 ls []) := by
  have hI := hL.1
  have hi0 := hI.gates
  have hi1 := hI.geese
  have hi2 := hI.guests
  refine lv_aload_n F.1 F.2.1 dL_law_63 rfl (lv_at hl 3 rfl) ?_
  refine x_pI (n := 0) (rest := []) (v := nI (S 0 0)) F (c_X3_gates l D cI a b S S2 (by first | exact hI | exact hJ)) gL_law_X3_gates rfl (by decide +kernel) ⟨Nat.le_of_ble_eq_true rfl, Nat.le_of_ble_eq_true rfl⟩ rfl hl.1 rfl (Nat.le_of_ble_eq_true rfl) dL_law_64 ⟨show c0 ≤ 600130 by omega, show s0 ≤ 7301080 by omega⟩ hK hP hS ap_t (q0 := 0) (ci := 3) rfl rfl (fun H locs hP hS => ?_)
  refine lv_istore (lv' := [(5, .int (nI (S 0 0))), (4, .int X), (3, .int (nI t)), (2, .ref (z 0)), (1, .ref (a 13)), (0, .ref x)]) F.1 F.2.1 dL_law_67 hl (by decide) rfl (fun ls hl => ?_)
  refine lv_aload_n F.1 F.2.1 dL_law_69 rfl (lv_at hl 4 rfl) ?_
  refine x_pI (n := 0) (rest := []) (v := nI (S 0 1)) F (c_X3_geese l D cI a b S S2 (by first | exact hI | exact hJ)) gL_law_X3_geese rfl (by decide +kernel) ⟨Nat.le_of_ble_eq_true rfl, Nat.le_of_ble_eq_true rfl⟩ rfl hl.1 rfl (Nat.le_of_ble_eq_true rfl) dL_law_70 ⟨show c0 ≤ 600130 by omega, show s0 ≤ 7301080 by omega⟩ hK hP hS ap_t (q0 := 0) (ci := 3) rfl rfl (fun H locs hP hS => ?_)
  refine lv_istore (lv' := [(6, .int (nI (S 0 1))), (5, .int (nI (S 0 0))), (4, .int X), (3, .int (nI t)), (2, .ref (z 0)), (1, .ref (a 13)), (0, .ref x)]) F.1 F.2.1 dL_law_73 hl (by decide) rfl (fun ls hl => ?_)
  refine lv_aload_n F.1 F.2.1 dL_law_75 rfl (lv_at hl 5 rfl) ?_
  refine x_pI (n := 0) (rest := []) (v := nI (S 0 2)) F (c_X3_visitors l D cI a b S S2 (by first | exact hI | exact hJ)) gL_law_X3_visitors rfl (by decide +kernel) ⟨Nat.le_of_ble_eq_true rfl, Nat.le_of_ble_eq_true rfl⟩ rfl hl.1 rfl (Nat.le_of_ble_eq_true rfl) dL_law_76 ⟨show c0 ≤ 600130 by omega, show s0 ≤ 7301080 by omega⟩ hK hP hS ap_t (q0 := 0) (ci := 3) rfl rfl (fun H locs hP hS => ?_)
  refine lv_istore (lv' := [(7, .int (nI (S 0 2))), (6, .int (nI (S 0 1))), (5, .int (nI (S 0 0))), (4, .int X), (3, .int (nI t)), (2, .ref (z 0)), (1, .ref (a 13)), (0, .ref x)]) F.1 F.2.1 dL_law_79 hl (by decide) rfl (fun ls hl => ?_)
  refine lv_iload F.1 F.2.1 dL_law_81 (lv_at hl 3 rfl) ?_
  refine lv_iconst (v := nI 2) F.1 F.2.1 dL_law_83 (by decide) ?_
  refine lv_ishr F.1 F.2.1 dL_law_84 ?_
  refine lv_bipush (v := nI 9) F.1 F.2.1 dL_law_85 (by decide) ?_
  refine x_pS (n := 2) (rest := []) (v := nI (blw (X >>> (nI 2 &&& 31)) 9)) F (c_L_below l D cI (X >>> (nI 2 &&& 31)) 9 (by omega) (by omega)) gL_law_L_below rfl (by decide +kernel) ⟨Nat.le_of_ble_eq_true rfl, Nat.le_of_ble_eq_true rfl⟩ rfl hl.1 rfl (Nat.le_of_ble_eq_true rfl) dL_law_87 ⟨show c0 ≤ 600130 by omega, show s0 ≤ 7301080 by omega⟩ hK hP hS (fun H locs hP hS => ?_)
  have := blw_lt (X >>> (nI 2 &&& 31)) (n := 9) (by omega)
  refine lv_istore (lv' := [(8, .int (nI (blw (X >>> (nI 2 &&& 31)) 9))), (7, .int (nI (S 0 2))), (6, .int (nI (S 0 1))), (5, .int (nI (S 0 0))), (4, .int X), (3, .int (nI t)), (2, .ref (z 0)), (1, .ref (a 13)), (0, .ref x)]) F.1 F.2.1 dL_law_90 hl (by decide) rfl (fun ls hl => ?_)
  refine lv_iconst (v := nI 0) F.1 F.2.1 dL_law_92 (by decide) ?_
  refine lv_istore (lv' := [(9, .int (nI 0)), (8, .int (nI (blw (X >>> (nI 2 &&& 31)) 9))), (7, .int (nI (S 0 2))), (6, .int (nI (S 0 1))), (5, .int (nI (S 0 0))), (4, .int X), (3, .int (nI t)), (2, .ref (z 0)), (1, .ref (a 13)), (0, .ref x)]) F.1 F.2.1 dL_law_93 hl (by decide) rfl (fun ls hl => ?_)
  have loop95 : ∀ (n : Nat) (g : Nat), g ≤ S 0 0 → S 0 0 + 1 ≤ g + n → ∀ (ce sl : Nat), ce ≤ c0 + 12 * g → sl ≤ s0 + 72 * g → ∀ (H : Heap) (locs : List Loc) (ls : Array Slot), va_P D vwCl ((wSi cI cA z S) ++ (wCo cI a b S S2)) H → va_D A0 ((wSi cI cA z S) ++ (wCo cI a b S S2)) → va_S A0 s.heap H locs → lv_has ls 34 [(0, .ref x), (1, .ref (a 13)), (2, .ref (z 0)), (3, .int (nI t)), (5, .int (nI (S 0 0))), (6, .int (nI (S 0 1))), (7, .int (nI (S 0 2))), (8, .int (nI (blw (X >>> (nI 2 &&& 31)) 9))), (9, .int (nI g))] → W p l e room_1 s m args below meth c H locs (ce) (sl) (Q) (F0 m 95 ls []) := by
    intro n
    induction n with
    | zero => intro g hi hn; exact absurd hn (by omega)
    | succ n ih95 =>
      intro g hi hn  ce95 sl95 hce95 hsl95 H locs ls hP hD hS hl
      refine lv_iload F.1 F.2.1 dL_law_95 (lv_at hl 8 rfl) ?_
      refine lv_iload F.1 F.2.1 dL_law_97 (lv_at hl 4 rfl) ?_
      refine k_icmp_ge (tgt := 212) F (by omega) (by omega) dL_law_99 (by decide) (fun h99 => ?_) (fun h99 => ?_)
      · skip
        have e_g : g = S 0 0 := by omega
        subst e_g
        refine lv_iconst (v := nI 0) F.1 F.2.1 dL_law_212 (by decide) ?_
        refine lv_istore (lv' := [(9, .int (nI 0)), (0, .ref x), (1, .ref (a 13)), (2, .ref (z 0)), (3, .int (nI t)), (5, .int (nI (S 0 0))), (6, .int (nI (S 0 1))), (7, .int (nI (S 0 2))), (8, .int (nI (blw (X >>> (nI 2 &&& 31)) 9)))]) F.1 F.2.1 dL_law_213 hl (by decide) rfl (fun ls hl => ?_)
        refine lv_iconst (v := nI 0) F.1 F.2.1 dL_law_215 (by decide) ?_
        refine lv_istore (lv' := [(10, .int (nI 0)), (9, .int (nI 0)), (0, .ref x), (1, .ref (a 13)), (2, .ref (z 0)), (3, .int (nI t)), (5, .int (nI (S 0 0))), (6, .int (nI (S 0 1))), (7, .int (nI (S 0 2))), (8, .int (nI (blw (X >>> (nI 2 &&& 31)) 9)))]) F.1 F.2.1 dL_law_216 hl (by decide) rfl (fun ls hl => ?_)
        refine lv_iconst (v := nI 0) F.1 F.2.1 dL_law_218 (by decide) ?_
        refine lv_istore (lv' := [(11, .int (nI 0)), (10, .int (nI 0)), (9, .int (nI 0)), (0, .ref x), (1, .ref (a 13)), (2, .ref (z 0)), (3, .int (nI t)), (5, .int (nI (S 0 0))), (6, .int (nI (S 0 1))), (7, .int (nI (S 0 2))), (8, .int (nI (blw (X >>> (nI 2 &&& 31)) 9)))]) F.1 F.2.1 dL_law_219 hl (by decide) rfl (fun ls hl => ?_)
        refine lv_iload F.1 F.2.1 dL_law_221 (lv_at hl 8 rfl) ?_
        refine q_newa F (List.mem_of_getElem? (i := 3) rfl) hK hP hD hS hA (k := (S 0 1)) (by omega) ⟨show ce95 + 1 ≤ 600130 by omega, show sl95 + S 0 1 ≤ 7301080 by omega⟩ dL_law_223 (fun q223 H hP hD hS => ?_)
        rw [← fillN_0 (S 3)] at hP hD
        refine lv_astore (lv' := [(12, .ref q223), (11, .int (nI 0)), (10, .int (nI 0)), (9, .int (nI 0)), (0, .ref x), (1, .ref (a 13)), (2, .ref (z 0)), (3, .int (nI t)), (5, .int (nI (S 0 0))), (6, .int (nI (S 0 1))), (7, .int (nI (S 0 2))), (8, .int (nI (blw (X >>> (nI 2 &&& 31)) 9)))]) F.1 F.2.1 dL_law_225 hl (by decide) rfl (fun ls hl => ?_)
        refine lv_iload F.1 F.2.1 dL_law_227 (lv_at hl 9 rfl) ?_
        refine q_newa F (List.mem_of_getElem? (i := 3) rfl) hK hP hD hS hA (k := (S 0 1)) (by omega) ⟨show ce95 + 1 + 1 ≤ 600130 by omega, show sl95 + S 0 1 + S 0 1 ≤ 7301080 by omega⟩ dL_law_229 (fun q229 H hP hD hS => ?_)
        rw [← fillN_0 (S 4)] at hP hD
        have hP : va_P D vwCl (((wSi cI cA z S) ++ (wCo cI a b S S2)) ++ [(q223, .inl (cI, S 0 1, .inl (row (fillN (S 3) 0)))), (q229, .inl (cI, S 0 1, .inl (row (fillN (S 4) 0))))]) H := P_eq (List.append_assoc _ _ _) hP
        have hD : va_D A0 (((wSi cI cA z S) ++ (wCo cI a b S S2)) ++ [(q223, .inl (cI, S 0 1, .inl (row (fillN (S 3) 0)))), (q229, .inl (cI, S 0 1, .inl (row (fillN (S 4) 0))))]) := D_eq (List.append_assoc _ _ _) hD
        refine lv_astore (lv' := [(13, .ref q229), (12, .ref q223), (11, .int (nI 0)), (10, .int (nI 0)), (9, .int (nI 0)), (0, .ref x), (1, .ref (a 13)), (2, .ref (z 0)), (3, .int (nI t)), (5, .int (nI (S 0 0))), (6, .int (nI (S 0 1))), (7, .int (nI (S 0 2))), (8, .int (nI (blw (X >>> (nI 2 &&& 31)) 9)))]) F.1 F.2.1 dL_law_231 hl (by decide) rfl (fun ls hl => ?_)
        refine lv_iload F.1 F.2.1 dL_law_233 (lv_at hl 10 rfl) ?_
        refine q_newa F (List.mem_of_getElem? (i := 3) rfl) hK hP hD hS hA (k := (S 0 1)) (by omega) ⟨show ce95 + 1 + 1 + 1 ≤ 600130 by omega, show sl95 + S 0 1 + S 0 1 + S 0 1 ≤ 7301080 by omega⟩ dL_law_235 (fun q235 H hP hD hS => ?_)
        rw [← fillN_0 (S 5)] at hP hD
        have hP : va_P D vwCl (((wSi cI cA z S) ++ (wCo cI a b S S2)) ++ [(q223, .inl (cI, S 0 1, .inl (row (fillN (S 3) 0)))), (q229, .inl (cI, S 0 1, .inl (row (fillN (S 4) 0)))), (q235, .inl (cI, S 0 1, .inl (row (fillN (S 5) 0))))]) H := P_eq (List.append_assoc _ _ _) hP
        have hD : va_D A0 (((wSi cI cA z S) ++ (wCo cI a b S S2)) ++ [(q223, .inl (cI, S 0 1, .inl (row (fillN (S 3) 0)))), (q229, .inl (cI, S 0 1, .inl (row (fillN (S 4) 0)))), (q235, .inl (cI, S 0 1, .inl (row (fillN (S 5) 0))))]) := D_eq (List.append_assoc _ _ _) hD
        refine lv_astore (lv' := [(14, .ref q235), (13, .ref q229), (12, .ref q223), (11, .int (nI 0)), (10, .int (nI 0)), (9, .int (nI 0)), (0, .ref x), (1, .ref (a 13)), (2, .ref (z 0)), (3, .int (nI t)), (5, .int (nI (S 0 0))), (6, .int (nI (S 0 1))), (7, .int (nI (S 0 2))), (8, .int (nI (blw (X >>> (nI 2 &&& 31)) 9)))]) F.1 F.2.1 dL_law_237 hl (by decide) rfl (fun ls hl => ?_)
        refine lv_iconst (v := nI 0) F.1 F.2.1 dL_law_239 (by decide) ?_
        refine lv_istore (lv' := [(15, .int (nI 0)), (14, .ref q235), (13, .ref q229), (12, .ref q223), (11, .int (nI 0)), (10, .int (nI 0)), (9, .int (nI 0)), (0, .ref x), (1, .ref (a 13)), (2, .ref (z 0)), (3, .int (nI t)), (5, .int (nI (S 0 0))), (6, .int (nI (S 0 1))), (7, .int (nI (S 0 2))), (8, .int (nI (blw (X >>> (nI 2 &&& 31)) 9)))]) F.1 F.2.1 dL_law_240 hl (by decide) rfl (fun ls hl => ?_)
        have loop242 : ∀ (n : Nat) (i : Nat), i ≤ S 0 1 → S 0 1 + 1 ≤ i + n → ∀ (ce sl : Nat), ce ≤ c0 + 75 + 3 * i → sl ≤ s0 + 456 + 18 * i → ∀ (H : Heap) (locs : List Loc) (ls : Array Slot), va_P D vwCl (((wSi cI cA z S) ++ (wCo cI a b S S2)) ++ [(q223, .inl (cI, S 0 1, .inl (row (fillN (S 3) i)))), (q229, .inl (cI, S 0 1, .inl (row (fillN (S 4) i)))), (q235, .inl (cI, S 0 1, .inl (row (fillN (S 5) i))))]) H → va_D A0 (((wSi cI cA z S) ++ (wCo cI a b S S2)) ++ [(q223, .inl (cI, S 0 1, .inl (row (fillN (S 3) i)))), (q229, .inl (cI, S 0 1, .inl (row (fillN (S 4) i)))), (q235, .inl (cI, S 0 1, .inl (row (fillN (S 5) i))))]) → va_S A0 s.heap H locs → lv_has ls 34 [(0, .ref x), (1, .ref (a 13)), (2, .ref (z 0)), (3, .int (nI t)), (5, .int (nI (S 0 0))), (6, .int (nI (S 0 1))), (7, .int (nI (S 0 2))), (9, .int (nI (etN S i))), (10, .int (nI (awN S i))), (11, .int (nI (sumN S i))), (12, .ref q223), (13, .ref q229), (14, .ref q235), (15, .int (nI i))] → W p l e room_1 s m args below meth c H locs (ce) (sl) (Q) (F0 m 242 ls []) := by
          intro n
          induction n with
          | zero => intro i hi hn; exact absurd hn (by omega)
          | succ n ih242 =>
            intro i hi hn  ce242 sl242 hce242 hsl242 H locs ls hP hD hS hl
            refine lv_iload F.1 F.2.1 dL_law_242 (lv_at hl 13 rfl) ?_
            refine lv_iload F.1 F.2.1 dL_law_244 (lv_at hl 5 rfl) ?_
            refine k_icmp_ge (tgt := 364) F (by omega) (by omega) dL_law_246 (by decide) (fun h246 => ?_) (fun h246 => ?_)
            · skip
              have e_i : i = S 0 1 := by omega
              subst e_i
              refine lv_iconst (v := nI 0) F.1 F.2.1 dL_law_364 (by decide) ?_
              refine lv_istore (lv' := [(15, .int (nI 0)), (0, .ref x), (1, .ref (a 13)), (2, .ref (z 0)), (3, .int (nI t)), (5, .int (nI (S 0 0))), (6, .int (nI (S 0 1))), (7, .int (nI (S 0 2))), (9, .int (nI (etN S (S 0 1)))), (10, .int (nI (awN S (S 0 1)))), (11, .int (nI (sumN S (S 0 1)))), (12, .ref q223), (13, .ref q229), (14, .ref q235)]) F.1 F.2.1 dL_law_365 hl (by decide) rfl (fun ls hl => ?_)
              have loop367 : ∀ (n : Nat) (q : Nat), q ≤ S 0 0 → S 0 0 + 1 ≤ q + n → ∀ (ce sl : Nat), ce ≤ c0 + 99 + q → sl ≤ s0 + 600 + 6 * q → ∀ (H : Heap) (locs : List Loc) (ls : Array Slot), va_P D vwCl (((wSi cI cA z S) ++ (wCo cI a b S S2)) ++ [(q223, .inl (cI, S 0 1, .inl (row (fillN (S 3) (S 0 1))))), (q229, .inl (cI, S 0 1, .inl (row (fillN (S 4) (S 0 1))))), (q235, .inl (cI, S 0 1, .inl (row (fillN (S 5) (S 0 1)))))]) H → va_D A0 (((wSi cI cA z S) ++ (wCo cI a b S S2)) ++ [(q223, .inl (cI, S 0 1, .inl (row (fillN (S 3) (S 0 1))))), (q229, .inl (cI, S 0 1, .inl (row (fillN (S 4) (S 0 1))))), (q235, .inl (cI, S 0 1, .inl (row (fillN (S 5) (S 0 1)))))]) → va_S A0 s.heap H locs → lv_has ls 34 [(0, .ref x), (1, .ref (a 13)), (2, .ref (z 0)), (3, .int (nI t)), (5, .int (nI (S 0 0))), (6, .int (nI (S 0 1))), (7, .int (nI (S 0 2))), (9, .int (nI (etN S (S 0 1)))), (10, .int (nI (awN S (S 0 1) - caN S (S 0 1) q))), (11, .int (nI (sumN S (S 0 1)))), (12, .ref q223), (13, .ref q229), (14, .ref q235), (15, .int (nI q))] → W p l e room_1 s m args below meth c H locs (ce) (sl) (Q) (F0 m 367 ls []) := by
                intro n
                induction n with
                | zero => intro q hi hn; exact absurd hn (by omega)
                | succ n ih367 =>
                  intro q hi hn  ce367 sl367 hce367 hsl367 H locs ls hP hD hS hl
                  refine lv_iload F.1 F.2.1 dL_law_367 (lv_at hl 13 rfl) ?_
                  refine lv_iload F.1 F.2.1 dL_law_369 (lv_at hl 4 rfl) ?_
                  refine k_icmp_ge (tgt := 391) F (by omega) (by omega) dL_law_371 (by decide) (fun h371 => ?_) (fun h371 => ?_)
                  · skip
                    refine lv_iconst (v := nI 0) F.1 F.2.1 dL_law_391 (by decide) ?_
                    refine lv_istore (lv' := [(15, .int (nI 0)), (0, .ref x), (1, .ref (a 13)), (2, .ref (z 0)), (3, .int (nI t)), (5, .int (nI (S 0 0))), (6, .int (nI (S 0 1))), (7, .int (nI (S 0 2))), (9, .int (nI (etN S (S 0 1)))), (10, .int (nI (awN S (S 0 1) - caN S (S 0 1) q))), (11, .int (nI (sumN S (S 0 1)))), (12, .ref q223), (13, .ref q229), (14, .ref q235)]) F.1 F.2.1 dL_law_392 hl (by decide) rfl (fun ls hl => ?_)
                    refine lv_iload F.1 F.2.1 dL_law_394 (lv_at hl 7 rfl) ?_
                    refine q_newa F (List.mem_of_getElem? (i := 3) rfl) hK hP hD hS hA (k := (S 0 2)) (by omega) ⟨show ce367 + 1 ≤ 600130 by omega, show sl367 + S 0 2 ≤ 7301080 by omega⟩ dL_law_396 (fun q396 H hP hD hS => ?_)
                    rw [← fillN_0 (S 7)] at hP hD
                    have hP : va_P D vwCl (((wSi cI cA z S) ++ (wCo cI a b S S2)) ++ [(q223, .inl (cI, S 0 1, .inl (row (fillN (S 3) (S 0 1))))), (q229, .inl (cI, S 0 1, .inl (row (fillN (S 4) (S 0 1))))), (q235, .inl (cI, S 0 1, .inl (row (fillN (S 5) (S 0 1))))), (q396, .inl (cI, S 0 2, .inl (row (fillN (S 7) 0))))]) H := P_eq (List.append_assoc _ _ _) hP
                    have hD : va_D A0 (((wSi cI cA z S) ++ (wCo cI a b S S2)) ++ [(q223, .inl (cI, S 0 1, .inl (row (fillN (S 3) (S 0 1))))), (q229, .inl (cI, S 0 1, .inl (row (fillN (S 4) (S 0 1))))), (q235, .inl (cI, S 0 1, .inl (row (fillN (S 5) (S 0 1))))), (q396, .inl (cI, S 0 2, .inl (row (fillN (S 7) 0))))]) := D_eq (List.append_assoc _ _ _) hD
                    refine lv_astore (lv' := [(16, .ref q396), (15, .int (nI 0)), (0, .ref x), (1, .ref (a 13)), (2, .ref (z 0)), (3, .int (nI t)), (5, .int (nI (S 0 0))), (6, .int (nI (S 0 1))), (7, .int (nI (S 0 2))), (9, .int (nI (etN S (S 0 1)))), (10, .int (nI (awN S (S 0 1) - caN S (S 0 1) q))), (11, .int (nI (sumN S (S 0 1)))), (12, .ref q223), (13, .ref q229), (14, .ref q235)]) F.1 F.2.1 dL_law_398 hl (by decide) rfl (fun ls hl => ?_)
                    refine lv_iload F.1 F.2.1 dL_law_400 (lv_at hl 8 rfl) ?_
                    refine q_newa F (List.mem_of_getElem? (i := 3) rfl) hK hP hD hS hA (k := (S 0 2)) (by omega) ⟨show ce367 + 1 + 1 ≤ 600130 by omega, show sl367 + S 0 2 + S 0 2 ≤ 7301080 by omega⟩ dL_law_402 (fun q402 H hP hD hS => ?_)
                    rw [← fillN_0 (S 8)] at hP hD
                    have hP : va_P D vwCl (((wSi cI cA z S) ++ (wCo cI a b S S2)) ++ [(q223, .inl (cI, S 0 1, .inl (row (fillN (S 3) (S 0 1))))), (q229, .inl (cI, S 0 1, .inl (row (fillN (S 4) (S 0 1))))), (q235, .inl (cI, S 0 1, .inl (row (fillN (S 5) (S 0 1))))), (q396, .inl (cI, S 0 2, .inl (row (fillN (S 7) 0)))), (q402, .inl (cI, S 0 2, .inl (row (fillN (S 8) 0))))]) H := P_eq (List.append_assoc _ _ _) hP
                    have hD : va_D A0 (((wSi cI cA z S) ++ (wCo cI a b S S2)) ++ [(q223, .inl (cI, S 0 1, .inl (row (fillN (S 3) (S 0 1))))), (q229, .inl (cI, S 0 1, .inl (row (fillN (S 4) (S 0 1))))), (q235, .inl (cI, S 0 1, .inl (row (fillN (S 5) (S 0 1))))), (q396, .inl (cI, S 0 2, .inl (row (fillN (S 7) 0)))), (q402, .inl (cI, S 0 2, .inl (row (fillN (S 8) 0))))]) := D_eq (List.append_assoc _ _ _) hD
                    refine lv_astore (lv' := [(17, .ref q402), (16, .ref q396), (15, .int (nI 0)), (0, .ref x), (1, .ref (a 13)), (2, .ref (z 0)), (3, .int (nI t)), (5, .int (nI (S 0 0))), (6, .int (nI (S 0 1))), (7, .int (nI (S 0 2))), (9, .int (nI (etN S (S 0 1)))), (10, .int (nI (awN S (S 0 1) - caN S (S 0 1) q))), (11, .int (nI (sumN S (S 0 1)))), (12, .ref q223), (13, .ref q229), (14, .ref q235)]) F.1 F.2.1 dL_law_404 hl (by decide) rfl (fun ls hl => ?_)
                    refine lv_iload F.1 F.2.1 dL_law_406 (lv_at hl 9 rfl) ?_
                    refine q_newa F (List.mem_of_getElem? (i := 3) rfl) hK hP hD hS hA (k := (S 0 2)) (by omega) ⟨show ce367 + 1 + 1 + 1 ≤ 600130 by omega, show sl367 + S 0 2 + S 0 2 + S 0 2 ≤ 7301080 by omega⟩ dL_law_408 (fun q408 H hP hD hS => ?_)
                    rw [← fillN_0 (S 9)] at hP hD
                    have hP : va_P D vwCl (((wSi cI cA z S) ++ (wCo cI a b S S2)) ++ [(q223, .inl (cI, S 0 1, .inl (row (fillN (S 3) (S 0 1))))), (q229, .inl (cI, S 0 1, .inl (row (fillN (S 4) (S 0 1))))), (q235, .inl (cI, S 0 1, .inl (row (fillN (S 5) (S 0 1))))), (q396, .inl (cI, S 0 2, .inl (row (fillN (S 7) 0)))), (q402, .inl (cI, S 0 2, .inl (row (fillN (S 8) 0)))), (q408, .inl (cI, S 0 2, .inl (row (fillN (S 9) 0))))]) H := P_eq (List.append_assoc _ _ _) hP
                    have hD : va_D A0 (((wSi cI cA z S) ++ (wCo cI a b S S2)) ++ [(q223, .inl (cI, S 0 1, .inl (row (fillN (S 3) (S 0 1))))), (q229, .inl (cI, S 0 1, .inl (row (fillN (S 4) (S 0 1))))), (q235, .inl (cI, S 0 1, .inl (row (fillN (S 5) (S 0 1))))), (q396, .inl (cI, S 0 2, .inl (row (fillN (S 7) 0)))), (q402, .inl (cI, S 0 2, .inl (row (fillN (S 8) 0)))), (q408, .inl (cI, S 0 2, .inl (row (fillN (S 9) 0))))]) := D_eq (List.append_assoc _ _ _) hD
                    refine lv_astore (lv' := [(18, .ref q408), (17, .ref q402), (16, .ref q396), (15, .int (nI 0)), (0, .ref x), (1, .ref (a 13)), (2, .ref (z 0)), (3, .int (nI t)), (5, .int (nI (S 0 0))), (6, .int (nI (S 0 1))), (7, .int (nI (S 0 2))), (9, .int (nI (etN S (S 0 1)))), (10, .int (nI (awN S (S 0 1) - caN S (S 0 1) q))), (11, .int (nI (sumN S (S 0 1)))), (12, .ref q223), (13, .ref q229), (14, .ref q235)]) F.1 F.2.1 dL_law_410 hl (by decide) rfl (fun ls hl => ?_)
                    refine lv_iload F.1 F.2.1 dL_law_412 (lv_at hl 10 rfl) ?_
                    refine q_newa F (List.mem_of_getElem? (i := 3) rfl) hK hP hD hS hA (k := (S 0 2)) (by omega) ⟨show ce367 + 1 + 1 + 1 + 1 ≤ 600130 by omega, show sl367 + S 0 2 + S 0 2 + S 0 2 + S 0 2 ≤ 7301080 by omega⟩ dL_law_414 (fun q414 H hP hD hS => ?_)
                    rw [← fillN_0 (S 10)] at hP hD
                    have hP : va_P D vwCl (((wSi cI cA z S) ++ (wCo cI a b S S2)) ++ [(q223, .inl (cI, S 0 1, .inl (row (fillN (S 3) (S 0 1))))), (q229, .inl (cI, S 0 1, .inl (row (fillN (S 4) (S 0 1))))), (q235, .inl (cI, S 0 1, .inl (row (fillN (S 5) (S 0 1))))), (q396, .inl (cI, S 0 2, .inl (row (fillN (S 7) 0)))), (q402, .inl (cI, S 0 2, .inl (row (fillN (S 8) 0)))), (q408, .inl (cI, S 0 2, .inl (row (fillN (S 9) 0)))), (q414, .inl (cI, S 0 2, .inl (row (fillN (S 10) 0))))]) H := P_eq (List.append_assoc _ _ _) hP
                    have hD : va_D A0 (((wSi cI cA z S) ++ (wCo cI a b S S2)) ++ [(q223, .inl (cI, S 0 1, .inl (row (fillN (S 3) (S 0 1))))), (q229, .inl (cI, S 0 1, .inl (row (fillN (S 4) (S 0 1))))), (q235, .inl (cI, S 0 1, .inl (row (fillN (S 5) (S 0 1))))), (q396, .inl (cI, S 0 2, .inl (row (fillN (S 7) 0)))), (q402, .inl (cI, S 0 2, .inl (row (fillN (S 8) 0)))), (q408, .inl (cI, S 0 2, .inl (row (fillN (S 9) 0)))), (q414, .inl (cI, S 0 2, .inl (row (fillN (S 10) 0))))]) := D_eq (List.append_assoc _ _ _) hD
                    refine lv_astore (lv' := [(19, .ref q414), (18, .ref q408), (17, .ref q402), (16, .ref q396), (15, .int (nI 0)), (0, .ref x), (1, .ref (a 13)), (2, .ref (z 0)), (3, .int (nI t)), (5, .int (nI (S 0 0))), (6, .int (nI (S 0 1))), (7, .int (nI (S 0 2))), (9, .int (nI (etN S (S 0 1)))), (10, .int (nI (awN S (S 0 1) - caN S (S 0 1) q))), (11, .int (nI (sumN S (S 0 1)))), (12, .ref q223), (13, .ref q229), (14, .ref q235)]) F.1 F.2.1 dL_law_416 hl (by decide) rfl (fun ls hl => ?_)
                    refine lv_iconst (v := nI 0) F.1 F.2.1 dL_law_418 (by decide) ?_
                    refine lv_istore (lv' := [(20, .int (nI 0)), (19, .ref q414), (18, .ref q408), (17, .ref q402), (16, .ref q396), (15, .int (nI 0)), (0, .ref x), (1, .ref (a 13)), (2, .ref (z 0)), (3, .int (nI t)), (5, .int (nI (S 0 0))), (6, .int (nI (S 0 1))), (7, .int (nI (S 0 2))), (9, .int (nI (etN S (S 0 1)))), (10, .int (nI (awN S (S 0 1) - caN S (S 0 1) q))), (11, .int (nI (sumN S (S 0 1)))), (12, .ref q223), (13, .ref q229), (14, .ref q235)]) F.1 F.2.1 dL_law_419 hl (by decide) rfl (fun ls hl => ?_)
                    have loop421 : ∀ (n : Nat) (v : Nat), v ≤ S 0 2 → S 0 2 + 1 ≤ v + n → ∀ (ce sl : Nat), ce ≤ c0 + 109 + 8 * v → sl ≤ s0 + 668 + 48 * v → ∀ (H : Heap) (locs : List Loc) (ls : Array Slot), va_P D vwCl (((wSi cI cA z S) ++ (wCo cI a b S S2)) ++ [(q223, .inl (cI, S 0 1, .inl (row (fillN (S 3) (S 0 1))))), (q229, .inl (cI, S 0 1, .inl (row (fillN (S 4) (S 0 1))))), (q235, .inl (cI, S 0 1, .inl (row (fillN (S 5) (S 0 1))))), (q396, .inl (cI, S 0 2, .inl (row (fillN (S 7) v)))), (q402, .inl (cI, S 0 2, .inl (row (fillN (S 8) v)))), (q408, .inl (cI, S 0 2, .inl (row (fillN (S 9) v)))), (q414, .inl (cI, S 0 2, .inl (row (fillN (S 10) v))))]) H → va_D A0 (((wSi cI cA z S) ++ (wCo cI a b S S2)) ++ [(q223, .inl (cI, S 0 1, .inl (row (fillN (S 3) (S 0 1))))), (q229, .inl (cI, S 0 1, .inl (row (fillN (S 4) (S 0 1))))), (q235, .inl (cI, S 0 1, .inl (row (fillN (S 5) (S 0 1))))), (q396, .inl (cI, S 0 2, .inl (row (fillN (S 7) v)))), (q402, .inl (cI, S 0 2, .inl (row (fillN (S 8) v)))), (q408, .inl (cI, S 0 2, .inl (row (fillN (S 9) v)))), (q414, .inl (cI, S 0 2, .inl (row (fillN (S 10) v))))]) → va_S A0 s.heap H locs → lv_has ls 34 [(0, .ref x), (1, .ref (a 13)), (2, .ref (z 0)), (3, .int (nI t)), (5, .int (nI (S 0 0))), (6, .int (nI (S 0 1))), (7, .int (nI (S 0 2))), (9, .int (nI (etN S (S 0 1)))), (10, .int (nI 0)), (11, .int (nI (sumN S (S 0 1)))), (12, .ref q223), (13, .ref q229), (14, .ref q235), (15, .int (nI (inN S v))), (16, .ref q396), (17, .ref q402), (18, .ref q408), (19, .ref q414), (20, .int (nI v))] → W p l e room_1 s m args below meth c H locs (ce) (sl) (Q) (F0 m 421 ls []) := by
                      intro n
                      induction n with
                      | zero => intro v hi hn; exact absurd hn (by omega)
                      | succ n ih421 =>
                        intro v hi hn  ce421 sl421 hce421 hsl421 H locs ls hP hD hS hl
                        refine lv_iload F.1 F.2.1 dL_law_421 (lv_at hl 18 rfl) ?_
                        refine lv_iload F.1 F.2.1 dL_law_423 (lv_at hl 6 rfl) ?_
                        refine k_icmp_ge (tgt := 756) F (by omega) (by omega) dL_law_425 (by decide) (fun h425 => ?_) (fun h425 => ?_)
                        · skip
                          have e_v : v = S 0 2 := by omega
                          subst e_v
                          rw [hL.2.2] at hl
                          refine lv_iload F.1 F.2.1 dL_law_756 (lv_at hl 7 rfl) ?_
                          refine lv_aload_n F.1 F.2.1 dL_law_758 rfl (lv_at hl 1 rfl) ?_
                          refine x_pI (n := 0) (rest := [.int (nI (S 0 4))]) (v := nI (S 0 4)) F (c_X3_bribes l D cI a b S S2 (by first | exact hI | exact hJ)) gL_law_X3_bribes rfl (by decide +kernel) ⟨Nat.le_of_ble_eq_true rfl, Nat.le_of_ble_eq_true rfl⟩ rfl hl.1 rfl (Nat.le_of_ble_eq_true rfl) dL_law_759 ⟨show ce421 ≤ 600130 by omega, show sl421 ≤ 7301080 by omega⟩ hK hP hS (List.append_assoc _ _ _) (q0 := 0) (ci := 3) rfl rfl (fun H locs hP hS => ?_)
                          refine lv_icmp_ne (tgt := 803) F.1 F.2.1 dL_law_762 (by decide) (fun h762 => ?_) (fun h762 => ?_)
                          · skip
                            exact absurd rfl h762
                          · skip
                            refine lv_iload F.1 F.2.1 dL_law_765 (lv_at hl 8 rfl) ?_
                            refine k_if_ne (tgt := 803) F (by omega) dL_law_767 (by decide) (fun h767 => ?_) (fun h767 => ?_)
                            · skip
                              exact absurd h767 (by decide)
                            · skip
                              refine lv_iload F.1 F.2.1 dL_law_770 (lv_at hl 13 rfl) ?_
                              refine lv_aload_n F.1 F.2.1 dL_law_772 rfl (lv_at hl 1 rfl) ?_
                              refine x_pI (n := 0) (rest := [.int (nI (inN S (S 0 2)))]) (v := nI (inN S (S 0 2))) F (c_X3_inFarm l D cI a b S S2 (by first | exact hI | exact hJ)) gL_law_X3_inFarm rfl (by decide +kernel) ⟨Nat.le_of_ble_eq_true rfl, Nat.le_of_ble_eq_true rfl⟩ rfl hl.1 rfl (Nat.le_of_ble_eq_true rfl) dL_law_773 ⟨show ce421 ≤ 600130 by omega, show sl421 ≤ 7301080 by omega⟩ hK hP hS (List.append_assoc _ _ _) (q0 := 0) (ci := 3) rfl rfl (fun H locs hP hS => ?_)
                              refine lv_icmp_ne (tgt := 803) F.1 F.2.1 dL_law_776 (by decide) (fun h776 => ?_) (fun h776 => ?_)
                              · skip
                                exact absurd rfl h776
                              · skip
                                have j805 : ∀ (H : Heap) (locs : List Loc) (ls : Array Slot), va_P D vwCl (((wSi cI cA z S) ++ (wCo cI a b S S2)) ++ [(q223, .inl (cI, S 0 1, .inl (row (fillN (S 3) (S 0 1))))), (q229, .inl (cI, S 0 1, .inl (row (fillN (S 4) (S 0 1))))), (q235, .inl (cI, S 0 1, .inl (row (fillN (S 5) (S 0 1))))), (q396, .inl (cI, S 0 2, .inl (row (fillN (S 7) (S 0 2))))), (q402, .inl (cI, S 0 2, .inl (row (fillN (S 8) (S 0 2))))), (q408, .inl (cI, S 0 2, .inl (row (fillN (S 9) (S 0 2))))), (q414, .inl (cI, S 0 2, .inl (row (fillN (S 10) (S 0 2)))))]) H → va_D A0 (((wSi cI cA z S) ++ (wCo cI a b S S2)) ++ [(q223, .inl (cI, S 0 1, .inl (row (fillN (S 3) (S 0 1))))), (q229, .inl (cI, S 0 1, .inl (row (fillN (S 4) (S 0 1))))), (q235, .inl (cI, S 0 1, .inl (row (fillN (S 5) (S 0 1))))), (q396, .inl (cI, S 0 2, .inl (row (fillN (S 7) (S 0 2))))), (q402, .inl (cI, S 0 2, .inl (row (fillN (S 8) (S 0 2))))), (q408, .inl (cI, S 0 2, .inl (row (fillN (S 9) (S 0 2))))), (q414, .inl (cI, S 0 2, .inl (row (fillN (S 10) (S 0 2)))))]) → va_S A0 s.heap H locs → lv_has ls 34 [(0, .ref x), (1, .ref (a 13)), (2, .ref (z 0)), (3, .int (nI t)), (5, .int (nI (S 0 0))), (6, .int (nI (S 0 1))), (7, .int (nI (S 0 2))), (9, .int (nI (S 0 4))), (10, .int (nI 0)), (11, .int (nI (sumN S (S 0 1)))), (12, .ref q223), (13, .ref q229), (14, .ref q235), (15, .int (nI (inN S (S 0 2)))), (16, .ref q396), (17, .ref q402), (18, .ref q408), (19, .ref q414), (20, .int (nI (S 0 2)))] → W p l e room_1 s m args below meth c H locs (ce421) (sl421) (Q) (F0 m 805 ls []) := by
                                  intro H locs ls hP hD hS hl
                                  refine lv_aload_n F.1 F.2.1 dL_law_805 rfl (lv_at hl 1 rfl) ?_
                                  refine x_pI (n := 0) (rest := []) (v := nI (S 0 4)) F (c_X3_bribes l D cI a b S S2 (by first | exact hI | exact hJ)) gL_law_X3_bribes rfl (by decide +kernel) ⟨Nat.le_of_ble_eq_true rfl, Nat.le_of_ble_eq_true rfl⟩ rfl hl.1 rfl (Nat.le_of_ble_eq_true rfl) dL_law_806 ⟨show ce421 ≤ 600130 by omega, show sl421 ≤ 7301080 by omega⟩ hK hP hS (List.append_assoc _ _ _) (q0 := 0) (ci := 3) rfl rfl (fun H locs hP hS => ?_)
                                  refine lv_istore (lv' := [(20, .int (nI (S 0 4))), (0, .ref x), (1, .ref (a 13)), (2, .ref (z 0)), (3, .int (nI t)), (5, .int (nI (S 0 0))), (6, .int (nI (S 0 1))), (7, .int (nI (S 0 2))), (9, .int (nI (S 0 4))), (10, .int (nI 0)), (11, .int (nI (sumN S (S 0 1)))), (12, .ref q223), (13, .ref q229), (14, .ref q235), (15, .int (nI (inN S (S 0 2)))), (16, .ref q396), (17, .ref q402), (18, .ref q408), (19, .ref q414)]) F.1 F.2.1 dL_law_809 hl (by decide) rfl (fun ls hl => ?_)
                                  refine lv_aload_n F.1 F.2.1 dL_law_811 rfl (lv_at hl 2 rfl) ?_
                                  refine x_pI (n := 0) (rest := []) (v := nI (S 0 5)) F (c_X3_retreats l D cI a b S S2 (by first | exact hI | exact hJ)) gL_law_X3_retreats rfl (by decide +kernel) ⟨Nat.le_of_ble_eq_true rfl, Nat.le_of_ble_eq_true rfl⟩ rfl hl.1 rfl (Nat.le_of_ble_eq_true rfl) dL_law_812 ⟨show ce421 ≤ 600130 by omega, show sl421 ≤ 7301080 by omega⟩ hK hP hS (List.append_assoc _ _ _) (q0 := 0) (ci := 3) rfl rfl (fun H locs hP hS => ?_)
                                  refine lv_istore (lv' := [(21, .int (nI (S 0 5))), (20, .int (nI (S 0 4))), (0, .ref x), (1, .ref (a 13)), (2, .ref (z 0)), (3, .int (nI t)), (5, .int (nI (S 0 0))), (6, .int (nI (S 0 1))), (7, .int (nI (S 0 2))), (9, .int (nI (S 0 4))), (10, .int (nI 0)), (11, .int (nI (sumN S (S 0 1)))), (12, .ref q223), (13, .ref q229), (14, .ref q235), (15, .int (nI (inN S (S 0 2)))), (16, .ref q396), (17, .ref q402), (18, .ref q408), (19, .ref q414)]) F.1 F.2.1 dL_law_815 hl (by decide) rfl (fun ls hl => ?_)
                                  refine lv_aload_n F.1 F.2.1 dL_law_817 rfl (lv_at hl 3 rfl) ?_
                                  refine x_pI (n := 0) (rest := []) (v := nI (S 0 3)) F (c_X3_beats l D cI a b S S2 (by first | exact hI | exact hJ)) gL_law_X3_beats rfl (by decide +kernel) ⟨Nat.le_of_ble_eq_true rfl, Nat.le_of_ble_eq_true rfl⟩ rfl hl.1 rfl (Nat.le_of_ble_eq_true rfl) dL_law_818 ⟨show ce421 ≤ 600130 by omega, show sl421 ≤ 7301080 by omega⟩ hK hP hS (List.append_assoc _ _ _) (q0 := 0) (ci := 3) rfl rfl (fun H locs hP hS => ?_)
                                  refine lv_istore (lv' := [(22, .int (nI (S 0 3))), (21, .int (nI (S 0 5))), (20, .int (nI (S 0 4))), (0, .ref x), (1, .ref (a 13)), (2, .ref (z 0)), (3, .int (nI t)), (5, .int (nI (S 0 0))), (6, .int (nI (S 0 1))), (7, .int (nI (S 0 2))), (9, .int (nI (S 0 4))), (10, .int (nI 0)), (11, .int (nI (sumN S (S 0 1)))), (12, .ref q223), (13, .ref q229), (14, .ref q235), (15, .int (nI (inN S (S 0 2)))), (16, .ref q396), (17, .ref q402), (18, .ref q408), (19, .ref q414)]) F.1 F.2.1 dL_law_821 hl (by decide) rfl (fun ls hl => ?_)
                                  refine lv_aload_n F.1 F.2.1 dL_law_823 rfl (lv_at hl 4 rfl) ?_
                                  refine lv_iconst (v := nI 1) F.1 F.2.1 dL_law_824 (by decide) ?_
                                  have ok_1 : rPass S (nI 1) = (0, (cameI S 1), (beatsN S 1)) := ok_pass (by omega) (by omega)
                                  refine x_tI (n := 1) (rest := []) (v := (cameI S 1)) (w1 := (wCo cI a b (beatsN S 1) S2)) F (c_X3_passBeats l D cI hst a b S S2 (nI 1) (by first | exact hI | exact hJ)) (by rw [ok_1]; rfl) (by rw [ok_1]) (by rw [ok_1]) gL_law_X3_passBeats rfl (by decide +kernel) ⟨Nat.le_of_ble_eq_true rfl, Nat.le_of_ble_eq_true rfl⟩ rfl hl.1 rfl (Nat.le_of_ble_eq_true rfl) dL_law_825 ⟨show ce421 + 1 ≤ 600130 by omega, show sl421 + 6 ≤ 7301080 by omega⟩ hK hX hP hD hS (List.append_assoc _ _ _) rfl rfl (((wSi cI cA z S) ++ (wCo cI a b (beatsN S 1) S2)) ++ [(q223, .inl (cI, S 0 1, .inl (row (fillN (S 3) (S 0 1))))), (q229, .inl (cI, S 0 1, .inl (row (fillN (S 4) (S 0 1))))), (q235, .inl (cI, S 0 1, .inl (row (fillN (S 5) (S 0 1))))), (q396, .inl (cI, S 0 2, .inl (row (fillN (S 7) (S 0 2))))), (q402, .inl (cI, S 0 2, .inl (row (fillN (S 8) (S 0 2))))), (q408, .inl (cI, S 0 2, .inl (row (fillN (S 9) (S 0 2))))), (q414, .inl (cI, S 0 2, .inl (row (fillN (S 10) (S 0 2)))))]) (List.append_assoc _ _ _).symm (q0 := 0) (ci := 3) rfl rfl (fun H locs hP hD hS => ?_)
                                  have hP : va_P D vwCl (((wSi cI cA z S) ++ (wCo cI a b (beatS S) S2)) ++ [(q223, .inl (cI, S 0 1, .inl (row (fillN (S 3) (S 0 1))))), (q229, .inl (cI, S 0 1, .inl (row (fillN (S 4) (S 0 1))))), (q235, .inl (cI, S 0 1, .inl (row (fillN (S 5) (S 0 1))))), (q396, .inl (cI, S 0 2, .inl (row (fillN (S 7) (S 0 2))))), (q402, .inl (cI, S 0 2, .inl (row (fillN (S 8) (S 0 2))))), (q408, .inl (cI, S 0 2, .inl (row (fillN (S 9) (S 0 2))))), (q414, .inl (cI, S 0 2, .inl (row (fillN (S 10) (S 0 2)))))]) H := hP
                                  have hD : va_D A0 (((wSi cI cA z S) ++ (wCo cI a b (beatS S) S2)) ++ [(q223, .inl (cI, S 0 1, .inl (row (fillN (S 3) (S 0 1))))), (q229, .inl (cI, S 0 1, .inl (row (fillN (S 4) (S 0 1))))), (q235, .inl (cI, S 0 1, .inl (row (fillN (S 5) (S 0 1))))), (q396, .inl (cI, S 0 2, .inl (row (fillN (S 7) (S 0 2))))), (q402, .inl (cI, S 0 2, .inl (row (fillN (S 8) (S 0 2))))), (q408, .inl (cI, S 0 2, .inl (row (fillN (S 9) (S 0 2))))), (q414, .inl (cI, S 0 2, .inl (row (fillN (S 10) (S 0 2)))))]) := hD
                                  have hJ : Inv (beatS S) := inv_beatS hI
                                  have hT0 : (beatS S) 0 0 = S 0 0 := beatS_sc S 0 (by omega)
                                  have hT1 : (beatS S) 0 1 = S 0 1 := beatS_sc S 1 (by omega)
                                  have hT2 : (beatS S) 0 2 = S 0 2 := beatS_sc S 2 (by omega)
                                  refine lv_istore (lv' := [(23, .int (cameI S 1)), (22, .int (nI (S 0 3))), (21, .int (nI (S 0 5))), (20, .int (nI (S 0 4))), (0, .ref x), (1, .ref (a 13)), (2, .ref (z 0)), (3, .int (nI t)), (5, .int (nI (S 0 0))), (6, .int (nI (S 0 1))), (7, .int (nI (S 0 2))), (9, .int (nI (S 0 4))), (10, .int (nI 0)), (11, .int (nI (sumN S (S 0 1)))), (12, .ref q223), (13, .ref q229), (14, .ref q235), (15, .int (nI (inN S (S 0 2)))), (16, .ref q396), (17, .ref q402), (18, .ref q408), (19, .ref q414)]) F.1 F.2.1 dL_law_828 hl (by decide) rfl (fun ls hl => ?_)
                                  refine lv_aload_n F.1 F.2.1 dL_law_830 rfl (lv_at hl 6 rfl) ?_
                                  refine q_gV (n := 0) (rest := []) F (c_X4_pass l D cI cA z S hI) gL_law_X4_pass rfl (by decide +kernel) ⟨Nat.le_of_ble_eq_true rfl, Nat.le_of_ble_eq_true rfl⟩ rfl hl.1 rfl (Nat.le_of_ble_eq_true rfl) dL_law_831 ⟨show ce421 + 1 + 8 ≤ 600130 by omega, show sl421 + 6 + 32 ≤ 7301080 by omega⟩ hK hP hD hS hA (List.append_assoc _ _ _) (wSi_ad (beatS_sc _ 1 (by omega)) (beatS_sc _ 2 (by omega))) (wSi_lneq (beatS_sc _ 1 (by omega)) (beatS_sc _ 2 (by omega))) (((wSi cI cA z (beatS S)) ++ (wCo cI a b (beatS S) S2)) ++ [(q223, .inl (cI, S 0 1, .inl (row (fillN (S 3) (S 0 1))))), (q229, .inl (cI, S 0 1, .inl (row (fillN (S 4) (S 0 1))))), (q235, .inl (cI, S 0 1, .inl (row (fillN (S 5) (S 0 1))))), (q396, .inl (cI, S 0 2, .inl (row (fillN (S 7) (S 0 2))))), (q402, .inl (cI, S 0 2, .inl (row (fillN (S 8) (S 0 2))))), (q408, .inl (cI, S 0 2, .inl (row (fillN (S 9) (S 0 2))))), (q414, .inl (cI, S 0 2, .inl (row (fillN (S 10) (S 0 2)))))]) (List.append_assoc _ _ _).symm (q0 := 0) (ci := 4) rfl rfl (fun H locs hP hD hS => ?_)
                                  refine lv_iconst (v := nI 0) F.1 F.2.1 dL_law_834 (by decide) ?_
                                  refine lv_istore (lv' := [(24, .int (nI 0)), (23, .int (cameI S 1)), (22, .int (nI (S 0 3))), (21, .int (nI (S 0 5))), (20, .int (nI (S 0 4))), (0, .ref x), (1, .ref (a 13)), (2, .ref (z 0)), (3, .int (nI t)), (5, .int (nI (S 0 0))), (6, .int (nI (S 0 1))), (7, .int (nI (S 0 2))), (9, .int (nI (S 0 4))), (10, .int (nI 0)), (11, .int (nI (sumN S (S 0 1)))), (12, .ref q223), (13, .ref q229), (14, .ref q235), (15, .int (nI (inN S (S 0 2)))), (16, .ref q396), (17, .ref q402), (18, .ref q408), (19, .ref q414)]) F.1 F.2.1 dL_law_835 hl (by decide) rfl (fun ls hl => ?_)
                                  refine lv_iconst (v := nI 0) F.1 F.2.1 dL_law_837 (by decide) ?_
                                  refine lv_istore (lv' := [(25, .int (nI 0)), (24, .int (nI 0)), (23, .int (cameI S 1)), (22, .int (nI (S 0 3))), (21, .int (nI (S 0 5))), (20, .int (nI (S 0 4))), (0, .ref x), (1, .ref (a 13)), (2, .ref (z 0)), (3, .int (nI t)), (5, .int (nI (S 0 0))), (6, .int (nI (S 0 1))), (7, .int (nI (S 0 2))), (9, .int (nI (S 0 4))), (10, .int (nI 0)), (11, .int (nI (sumN S (S 0 1)))), (12, .ref q223), (13, .ref q229), (14, .ref q235), (15, .int (nI (inN S (S 0 2)))), (16, .ref q396), (17, .ref q402), (18, .ref q408), (19, .ref q414)]) F.1 F.2.1 dL_law_838 hl (by decide) rfl (fun ls hl => ?_)
                                  refine lv_iconst (v := nI 0) F.1 F.2.1 dL_law_840 (by decide) ?_
                                  refine lv_istore (lv' := [(26, .int (nI 0)), (25, .int (nI 0)), (24, .int (nI 0)), (23, .int (cameI S 1)), (22, .int (nI (S 0 3))), (21, .int (nI (S 0 5))), (20, .int (nI (S 0 4))), (0, .ref x), (1, .ref (a 13)), (2, .ref (z 0)), (3, .int (nI t)), (5, .int (nI (S 0 0))), (6, .int (nI (S 0 1))), (7, .int (nI (S 0 2))), (9, .int (nI (S 0 4))), (10, .int (nI 0)), (11, .int (nI (sumN S (S 0 1)))), (12, .ref q223), (13, .ref q229), (14, .ref q235), (15, .int (nI (inN S (S 0 2)))), (16, .ref q396), (17, .ref q402), (18, .ref q408), (19, .ref q414)]) F.1 F.2.1 dL_law_841 hl (by decide) rfl (fun ls hl => ?_)
                                  refine lv_iconst (v := nI 0) F.1 F.2.1 dL_law_843 (by decide) ?_
                                  refine lv_istore (lv' := [(27, .int (nI 0)), (26, .int (nI 0)), (25, .int (nI 0)), (24, .int (nI 0)), (23, .int (cameI S 1)), (22, .int (nI (S 0 3))), (21, .int (nI (S 0 5))), (20, .int (nI (S 0 4))), (0, .ref x), (1, .ref (a 13)), (2, .ref (z 0)), (3, .int (nI t)), (5, .int (nI (S 0 0))), (6, .int (nI (S 0 1))), (7, .int (nI (S 0 2))), (9, .int (nI (S 0 4))), (10, .int (nI 0)), (11, .int (nI (sumN S (S 0 1)))), (12, .ref q223), (13, .ref q229), (14, .ref q235), (15, .int (nI (inN S (S 0 2)))), (16, .ref q396), (17, .ref q402), (18, .ref q408), (19, .ref q414)]) F.1 F.2.1 dL_law_844 hl (by decide) rfl (fun ls hl => ?_)
                                  have loop846 : ∀ (n : Nat) (u : Nat), u ≤ S 0 2 → S 0 2 + 1 ≤ u + n → ∀ (ce sl : Nat), ce ≤ c0 + 182 + 6 * u → sl ≤ s0 + 1090 + 36 * u → ∀ (H : Heap) (locs : List Loc) (ls : Array Slot), va_P D vwCl (((wSi cI cA z (beatS S)) ++ (wCo cI a b (beatS S) S2)) ++ [(q223, .inl (cI, S 0 1, .inl (row (fillN (S 3) (S 0 1))))), (q229, .inl (cI, S 0 1, .inl (row (fillN (S 4) (S 0 1))))), (q235, .inl (cI, S 0 1, .inl (row (fillN (S 5) (S 0 1))))), (q396, .inl (cI, S 0 2, .inl (row (fillN (S 7) (S 0 2))))), (q402, .inl (cI, S 0 2, .inl (row (fillN (S 8) (S 0 2))))), (q408, .inl (cI, S 0 2, .inl (row (fillN (S 9) (S 0 2))))), (q414, .inl (cI, S 0 2, .inl (row (fillN (S 10) (S 0 2)))))]) H → va_D A0 (((wSi cI cA z (beatS S)) ++ (wCo cI a b (beatS S) S2)) ++ [(q223, .inl (cI, S 0 1, .inl (row (fillN (S 3) (S 0 1))))), (q229, .inl (cI, S 0 1, .inl (row (fillN (S 4) (S 0 1))))), (q235, .inl (cI, S 0 1, .inl (row (fillN (S 5) (S 0 1))))), (q396, .inl (cI, S 0 2, .inl (row (fillN (S 7) (S 0 2))))), (q402, .inl (cI, S 0 2, .inl (row (fillN (S 8) (S 0 2))))), (q408, .inl (cI, S 0 2, .inl (row (fillN (S 9) (S 0 2))))), (q414, .inl (cI, S 0 2, .inl (row (fillN (S 10) (S 0 2)))))]) → va_S A0 s.heap H locs → lv_has ls 34 [(0, .ref x), (1, .ref (a 13)), (2, .ref (z 0)), (3, .int (nI t)), (5, .int (nI (S 0 0))), (6, .int (nI (S 0 1))), (7, .int (nI (S 0 2))), (12, .ref q223), (13, .ref q229), (14, .ref q235), (16, .ref q396), (17, .ref q402), (18, .ref q408), (19, .ref q414), (20, .int (nI (S 0 4))), (21, .int (nI (S 0 5))), (22, .int (nI (S 0 3))), (23, .int (cameI S 1)), (24, .int (nI (cmN S (beatS S) u))), (25, .int (nI (fdN S (beatS S) u))), (26, .int (nI (flN S (beatS S) u))), (27, .int (nI u))] → W p l e room_1 s m args below meth c H locs (ce) (sl) (Q) (F0 m 846 ls []) := by
                                    intro n
                                    induction n with
                                    | zero => intro u hi hn; exact absurd hn (by omega)
                                    | succ n ih846 =>
                                      intro u hi hn  ce846 sl846 hce846 hsl846 H locs ls hP hD hS hl
                                      refine lv_iload F.1 F.2.1 dL_law_846 (lv_at hl 21 rfl) ?_
                                      refine lv_iload F.1 F.2.1 dL_law_848 (lv_at hl 6 rfl) ?_
                                      refine k_icmp_ge (tgt := 1183) F (by omega) (by omega) dL_law_850 (by decide) (fun h850 => ?_) (fun h850 => ?_)
                                      · skip
                                        have e_u : u = S 0 2 := by omega
                                        subst e_u
                                        rw [came_1 hL] at hl
                                        refine lv_iload F.1 F.2.1 dL_law_1183 (lv_at hl 18 rfl) ?_
                                        refine lv_iload F.1 F.2.1 dL_law_1185 (lv_at hl 17 rfl) ?_
                                        refine lv_icmp_ne (tgt := 1225) F.1 F.2.1 dL_law_1187 (by decide) (fun h1187 => ?_) (fun h1187 => ?_)
                                        · skip
                                          exact absurd rfl h1187
                                        · skip
                                          refine lv_aload_n F.1 F.2.1 dL_law_1190 rfl (lv_at hl 1 rfl) ?_
                                          refine x_pI (n := 0) (rest := []) (v := nI ((beatS S) 0 4)) F (c_X3_bribes l D cI a b (beatS S) S2 (by first | exact hI | exact hJ)) gL_law_X3_bribes rfl (by decide +kernel) ⟨Nat.le_of_ble_eq_true rfl, Nat.le_of_ble_eq_true rfl⟩ rfl hl.1 rfl (Nat.le_of_ble_eq_true rfl) dL_law_1191 ⟨show ce846 ≤ 600130 by omega, show sl846 ≤ 7301080 by omega⟩ hK hP hS (List.append_assoc _ _ _) (q0 := 0) (ci := 3) rfl rfl (fun H locs hP hS => ?_)
                                          refine lv_iload F.1 F.2.1 dL_law_1194 (lv_at hl 14 rfl) ?_
                                          refine lv_iload F.1 F.2.1 dL_law_1196 (lv_at hl 19 rfl) ?_
                                          refine k_iadd F dL_law_1198 ?_
                                          rw [← (beat_br hL).1]
                                          refine lv_icmp_ne (tgt := 1225) F.1 F.2.1 dL_law_1199 (by decide) (fun h1199 => ?_) (fun h1199 => ?_)
                                          · skip
                                            exact absurd rfl h1199
                                          · skip
                                            refine lv_aload_n F.1 F.2.1 dL_law_1202 rfl (lv_at hl 1 rfl) ?_
                                            refine x_pI (n := 0) (rest := []) (v := nI ((beatS S) 0 5)) F (c_X3_retreats l D cI a b (beatS S) S2 (by first | exact hI | exact hJ)) gL_law_X3_retreats rfl (by decide +kernel) ⟨Nat.le_of_ble_eq_true rfl, Nat.le_of_ble_eq_true rfl⟩ rfl hl.1 rfl (Nat.le_of_ble_eq_true rfl) dL_law_1203 ⟨show ce846 ≤ 600130 by omega, show sl846 ≤ 7301080 by omega⟩ hK hP hS (List.append_assoc _ _ _) (q0 := 0) (ci := 3) rfl rfl (fun H locs hP hS => ?_)
                                            refine lv_iload F.1 F.2.1 dL_law_1206 (lv_at hl 15 rfl) ?_
                                            refine lv_iload F.1 F.2.1 dL_law_1208 (lv_at hl 20 rfl) ?_
                                            refine k_iadd F dL_law_1210 ?_
                                            rw [← (beat_br hL).2.1]
                                            refine lv_icmp_ne (tgt := 1225) F.1 F.2.1 dL_law_1211 (by decide) (fun h1211 => ?_) (fun h1211 => ?_)
                                            · skip
                                              exact absurd rfl h1211
                                            · skip
                                              refine lv_aload_n F.1 F.2.1 dL_law_1214 rfl (lv_at hl 1 rfl) ?_
                                              refine x_pI (n := 0) (rest := []) (v := nI ((beatS S) 0 3)) F (c_X3_beats l D cI a b (beatS S) S2 (by first | exact hI | exact hJ)) gL_law_X3_beats rfl (by decide +kernel) ⟨Nat.le_of_ble_eq_true rfl, Nat.le_of_ble_eq_true rfl⟩ rfl hl.1 rfl (Nat.le_of_ble_eq_true rfl) dL_law_1215 ⟨show ce846 ≤ 600130 by omega, show sl846 ≤ 7301080 by omega⟩ hK hP hS (List.append_assoc _ _ _) (q0 := 0) (ci := 3) rfl rfl (fun H locs hP hS => ?_)
                                              refine lv_iload F.1 F.2.1 dL_law_1218 (lv_at hl 16 rfl) ?_
                                              refine lv_iconst (v := nI 1) F.1 F.2.1 dL_law_1220 (by decide) ?_
                                              refine k_iadd F dL_law_1221 ?_
                                              rw [← beatS_b S]
                                              refine lv_icmp_eq (tgt := 1227) F.1 F.2.1 dL_law_1222 (by decide) (fun h1222 => ?_) (fun h1222 => ?_)
                                              · skip
                                                refine lv_iconst (v := nI 0) F.1 F.2.1 dL_law_1227 (by decide) ?_
                                                refine lv_istore (lv' := [(27, .int (nI 0)), (0, .ref x), (1, .ref (a 13)), (2, .ref (z 0)), (3, .int (nI t)), (5, .int (nI (S 0 0))), (6, .int (nI (S 0 1))), (7, .int (nI (S 0 2))), (12, .ref q223), (13, .ref q229), (14, .ref q235), (16, .ref q396), (17, .ref q402), (18, .ref q408), (19, .ref q414), (20, .int (nI (S 0 4))), (21, .int (nI (S 0 5))), (22, .int (nI (S 0 3))), (23, .int (nI (cmN S (beatS S) (S 0 2)))), (24, .int (nI (cmN S (beatS S) (S 0 2)))), (25, .int (nI (fdN S (beatS S) (S 0 2)))), (26, .int (nI (flN S (beatS S) (S 0 2))))]) F.1 F.2.1 dL_law_1228 hl (by decide) rfl (fun ls hl => ?_)
                                                have loop1230 : ∀ (n : Nat) (i : Nat), i ≤ S 0 1 → S 0 1 + 1 ≤ i + n → ∀ (ce sl : Nat), ce ≤ c0 + 230 + 5 * i → sl ≤ s0 + 1378 + 30 * i → ∀ (H : Heap) (locs : List Loc) (ls : Array Slot), va_P D vwCl (((wSi cI cA z (beatS S)) ++ (wCo cI a b (beatS S) S2)) ++ [(q223, .inl (cI, S 0 1, .inl (row (fillN (S 3) (S 0 1))))), (q229, .inl (cI, S 0 1, .inl (row (fillN (S 4) (S 0 1))))), (q235, .inl (cI, S 0 1, .inl (row (fillN (S 5) (S 0 1))))), (q396, .inl (cI, S 0 2, .inl (row (fillN (S 7) (S 0 2))))), (q402, .inl (cI, S 0 2, .inl (row (fillN (S 8) (S 0 2))))), (q408, .inl (cI, S 0 2, .inl (row (fillN (S 9) (S 0 2))))), (q414, .inl (cI, S 0 2, .inl (row (fillN (S 10) (S 0 2)))))]) H → va_D A0 (((wSi cI cA z (beatS S)) ++ (wCo cI a b (beatS S) S2)) ++ [(q223, .inl (cI, S 0 1, .inl (row (fillN (S 3) (S 0 1))))), (q229, .inl (cI, S 0 1, .inl (row (fillN (S 4) (S 0 1))))), (q235, .inl (cI, S 0 1, .inl (row (fillN (S 5) (S 0 1))))), (q396, .inl (cI, S 0 2, .inl (row (fillN (S 7) (S 0 2))))), (q402, .inl (cI, S 0 2, .inl (row (fillN (S 8) (S 0 2))))), (q408, .inl (cI, S 0 2, .inl (row (fillN (S 9) (S 0 2))))), (q414, .inl (cI, S 0 2, .inl (row (fillN (S 10) (S 0 2)))))]) → va_S A0 s.heap H locs → lv_has ls 34 [(0, .ref x), (1, .ref (a 13)), (2, .ref (z 0)), (3, .int (nI t)), (5, .int (nI (S 0 0))), (6, .int (nI (S 0 1))), (7, .int (nI (S 0 2))), (12, .ref q223), (13, .ref q229), (14, .ref q235), (27, .int (nI i))] → W p l e room_1 s m args below meth c H locs (ce) (sl) (Q) (F0 m 1230 ls []) := by
                                                  intro n
                                                  induction n with
                                                  | zero => intro i hi hn; exact absurd hn (by omega)
                                                  | succ n ih1230 =>
                                                    intro i hi hn  ce1230 sl1230 hce1230 hsl1230 H locs ls hP hD hS hl
                                                    refine lv_iload F.1 F.2.1 dL_law_1230 (lv_at hl 10 rfl) ?_
                                                    refine lv_iload F.1 F.2.1 dL_law_1232 (lv_at hl 5 rfl) ?_
                                                    refine k_icmp_ge (tgt := 1345) F (by omega) (by omega) dL_law_1234 (by decide) (fun h1234 => ?_) (fun h1234 => ?_)
                                                    · skip
                                                      have hP := P_pre hP
                                                      have hD := D_pre hD
                                                      exact W.widen (by omega) (by omega) (kk H locs ls hP hD hS (lv_sub hl [3, 2, 1, 0] rfl))
                                                    · skip
                                                      have hd := goo_beat hI (i := i) (by omega)
                                                      unfold gooR at hd
                                                      rcases hd with hd | hd
                                                      · skip
                                                        refine lv_aload_n F.1 F.2.1 dL_law_1237 rfl (lv_at hl 1 rfl) ?_
                                                        refine lv_iload F.1 F.2.1 dL_law_1238 (lv_at hl 10 rfl) ?_
                                                        have ok_2 : r1 ((beatS S) 0 1) (nI i) (nI ((beatS S) 5 (cl (nI i)))) = (0, nI ((beatS S) 5 i)) := by rw [cl_nI (show i < 2 ^ 31 by omega)]; exact r1_y (okI_nI (by omega) (by omega))
                                                        refine x_tI (n := 1) (rest := []) (v := nI ((beatS S) 5 i)) (w1 := (wCo cI a b (beatS S) S2)) F (c_X3_eatenBy l D cI hst a b (beatS S) S2 (nI i) (by first | exact hI | exact hJ)) (by rw [ok_2]; rfl) (by rw [ok_2]) rfl gL_law_X3_eatenBy rfl (by decide +kernel) ⟨Nat.le_of_ble_eq_true rfl, Nat.le_of_ble_eq_true rfl⟩ rfl hl.1 rfl (Nat.le_of_ble_eq_true rfl) dL_law_1240 ⟨show ce1230 + 1 ≤ 600130 by omega, show sl1230 + 6 ≤ 7301080 by omega⟩ hK hX hP hD hS (List.append_assoc _ _ _) rfl rfl (((wSi cI cA z (beatS S)) ++ (wCo cI a b (beatS S) S2)) ++ [(q223, .inl (cI, S 0 1, .inl (row (fillN (S 3) (S 0 1))))), (q229, .inl (cI, S 0 1, .inl (row (fillN (S 4) (S 0 1))))), (q235, .inl (cI, S 0 1, .inl (row (fillN (S 5) (S 0 1))))), (q396, .inl (cI, S 0 2, .inl (row (fillN (S 7) (S 0 2))))), (q402, .inl (cI, S 0 2, .inl (row (fillN (S 8) (S 0 2))))), (q408, .inl (cI, S 0 2, .inl (row (fillN (S 9) (S 0 2))))), (q414, .inl (cI, S 0 2, .inl (row (fillN (S 10) (S 0 2)))))]) (List.append_assoc _ _ _).symm (q0 := 0) (ci := 3) rfl rfl (fun H locs hP hD hS => ?_)
                                                        refine lv_aload F.1 F.2.1 dL_law_1243 (lv_at hl 9 rfl) ?_
                                                        refine lv_iload F.1 F.2.1 dL_law_1245 (lv_at hl 10 rfl) ?_
                                                        refine q_iald (f := fillN (S 5) (S 0 1)) (v := S 5 i) F hK hP (((wSi cI cA z (beatS S)) ++ (wCo cI a b (beatS S) S2)).length + 2) (app_l rfl) (by omega) (by first | omega | decide) (if_pos (by omega)) dL_law_1247 ?_
                                                        refine lv_iconst (v := nI 1) F.1 F.2.1 dL_law_1248 (by decide) ?_
                                                        refine k_iadd F dL_law_1249 ?_
                                                        rw [hd.1]
                                                        refine lv_icmp_ne (tgt := 1257) F.1 F.2.1 dL_law_1250 (by decide) (fun h1250 => ?_) (fun h1250 => ?_)
                                                        · skip
                                                          refine lv_iconst (v := nI 0) F.1 F.2.1 dL_law_1257 (by decide) ?_
                                                          refine lv_istore (lv' := [(28, .int (nI 0)), (0, .ref x), (1, .ref (a 13)), (2, .ref (z 0)), (3, .int (nI t)), (5, .int (nI (S 0 0))), (6, .int (nI (S 0 1))), (7, .int (nI (S 0 2))), (12, .ref q223), (13, .ref q229), (14, .ref q235), (27, .int (nI i))]) F.1 F.2.1 dL_law_1258 hl (by decide) rfl (fun ls hl => ?_)
                                                          refine lv_iload F.1 F.2.1 dL_law_1260 (lv_at hl 0 rfl) ?_
                                                          refine k_if_ne (tgt := 1313) F (by omega) dL_law_1262 (by decide) (fun h1262 => ?_) (fun h1262 => ?_)
                                                          · skip
                                                            exact absurd h1262 (by decide)
                                                          · skip
                                                            refine lv_aload_n F.1 F.2.1 dL_law_1265 rfl (lv_at hl 2 rfl) ?_
                                                            refine lv_iload F.1 F.2.1 dL_law_1266 (lv_at hl 11 rfl) ?_
                                                            have ok_3 : r1 ((beatS S) 0 1) (nI i) (nI ((beatS S) 5 (cl (nI i)))) = (0, nI ((beatS S) 5 i)) := by rw [cl_nI (show i < 2 ^ 31 by omega)]; exact r1_y (okI_nI (by omega) (by omega))
                                                            refine x_tI (n := 1) (rest := []) (v := nI ((beatS S) 5 i)) (w1 := (wCo cI a b (beatS S) S2)) F (c_X3_eatenBy l D cI hst a b (beatS S) S2 (nI i) (by first | exact hI | exact hJ)) (by rw [ok_3]; rfl) (by rw [ok_3]) rfl gL_law_X3_eatenBy rfl (by decide +kernel) ⟨Nat.le_of_ble_eq_true rfl, Nat.le_of_ble_eq_true rfl⟩ rfl hl.1 rfl (Nat.le_of_ble_eq_true rfl) dL_law_1268 ⟨show ce1230 + 1 + 1 ≤ 600130 by omega, show sl1230 + 6 + 6 ≤ 7301080 by omega⟩ hK hX hP hD hS (List.append_assoc _ _ _) rfl rfl (((wSi cI cA z (beatS S)) ++ (wCo cI a b (beatS S) S2)) ++ [(q223, .inl (cI, S 0 1, .inl (row (fillN (S 3) (S 0 1))))), (q229, .inl (cI, S 0 1, .inl (row (fillN (S 4) (S 0 1))))), (q235, .inl (cI, S 0 1, .inl (row (fillN (S 5) (S 0 1))))), (q396, .inl (cI, S 0 2, .inl (row (fillN (S 7) (S 0 2))))), (q402, .inl (cI, S 0 2, .inl (row (fillN (S 8) (S 0 2))))), (q408, .inl (cI, S 0 2, .inl (row (fillN (S 9) (S 0 2))))), (q414, .inl (cI, S 0 2, .inl (row (fillN (S 10) (S 0 2)))))]) (List.append_assoc _ _ _).symm (q0 := 0) (ci := 3) rfl rfl (fun H locs hP hD hS => ?_)
                                                            refine lv_aload F.1 F.2.1 dL_law_1271 (lv_at hl 10 rfl) ?_
                                                            refine lv_iload F.1 F.2.1 dL_law_1273 (lv_at hl 11 rfl) ?_
                                                            refine q_iald (f := fillN (S 5) (S 0 1)) (v := S 5 i) F hK hP (((wSi cI cA z (beatS S)) ++ (wCo cI a b (beatS S) S2)).length + 2) (app_l rfl) (by omega) (by first | omega | decide) (if_pos (by omega)) dL_law_1275 ?_
                                                            rw [hd.1]
                                                            refine lv_icmp_ne (tgt := 1337) F.1 F.2.1 dL_law_1276 (by decide) (fun h1276 => ?_) (fun h1276 => ?_)
                                                            · skip
                                                              exact absurd rfl h1276
                                                            · skip
                                                              refine lv_aload_n F.1 F.2.1 dL_law_1279 rfl (lv_at hl 2 rfl) ?_
                                                              refine lv_iload F.1 F.2.1 dL_law_1280 (lv_at hl 11 rfl) ?_
                                                              have ok_4 : r1 ((beatS S) 0 1) (nI i) (nI ((beatS S) 4 (cl (nI i)))) = (0, nI ((beatS S) 4 i)) := by rw [cl_nI (show i < 2 ^ 31 by omega)]; exact r1_y (okI_nI (by omega) (by omega))
                                                              refine x_tI (n := 1) (rest := []) (v := nI ((beatS S) 4 i)) (w1 := (wCo cI a b (beatS S) S2)) F (c_X3_calmFor l D cI hst a b (beatS S) S2 (nI i) (by first | exact hI | exact hJ)) (by rw [ok_4]; rfl) (by rw [ok_4]) rfl gL_law_X3_calmFor rfl (by decide +kernel) ⟨Nat.le_of_ble_eq_true rfl, Nat.le_of_ble_eq_true rfl⟩ rfl hl.1 rfl (Nat.le_of_ble_eq_true rfl) dL_law_1282 ⟨show ce1230 + 1 + 1 + 1 ≤ 600130 by omega, show sl1230 + 6 + 6 + 6 ≤ 7301080 by omega⟩ hK hX hP hD hS (List.append_assoc _ _ _) rfl rfl (((wSi cI cA z (beatS S)) ++ (wCo cI a b (beatS S) S2)) ++ [(q223, .inl (cI, S 0 1, .inl (row (fillN (S 3) (S 0 1))))), (q229, .inl (cI, S 0 1, .inl (row (fillN (S 4) (S 0 1))))), (q235, .inl (cI, S 0 1, .inl (row (fillN (S 5) (S 0 1))))), (q396, .inl (cI, S 0 2, .inl (row (fillN (S 7) (S 0 2))))), (q402, .inl (cI, S 0 2, .inl (row (fillN (S 8) (S 0 2))))), (q408, .inl (cI, S 0 2, .inl (row (fillN (S 9) (S 0 2))))), (q414, .inl (cI, S 0 2, .inl (row (fillN (S 10) (S 0 2)))))]) (List.append_assoc _ _ _).symm (q0 := 0) (ci := 3) rfl rfl (fun H locs hP hD hS => ?_)
                                                              have := hJ.rest i
                                                              refine lv_iconst (v := nI 0) F.1 F.2.1 dL_law_1285 (by decide) ?_
                                                              refine lv_aload F.1 F.2.1 dL_law_1286 (lv_at hl 9 rfl) ?_
                                                              refine lv_iload F.1 F.2.1 dL_law_1288 (lv_at hl 11 rfl) ?_
                                                              refine q_iald (f := fillN (S 4) (S 0 1)) (v := S 4 i) F hK hP (((wSi cI cA z (beatS S)) ++ (wCo cI a b (beatS S) S2)).length + 1) (app_l rfl) (by omega) (by first | omega | decide) (if_pos (by omega)) dL_law_1290 ?_
                                                              have := hI.rest i
                                                              refine lv_iconst (v := nI 1) F.1 F.2.1 dL_law_1291 (by decide) ?_
                                                              refine lv_isub F.1 F.2.1 dL_law_1292 ?_
                                                              refine k_max0 F hl.1 (List.mem_of_getElem? (i := 8) rfl) (List.mem_of_getElem? (i := 9) rfl) (List.mem_of_getElem? (i := 6) rfl) (List.mem_of_getElem? (i := 10) rfl) (Nat.le_of_ble_eq_true rfl) (Nat.le_of_ble_eq_true rfl) ⟨show ce1230 + 1 + 1 + 1 ≤ 600130 by omega, show sl1230 + 6 + 6 + 6 ≤ 7301080 by omega⟩ (by omega) (by omega) (by omega) dL_law_1293 ?_
                                                              refine k_icmp_ne (tgt := 1337) F (by omega) (by omega) dL_law_1296 (by decide) (fun h1296 => ?_) (fun h1296 => ?_)
                                                              · skip
                                                                exfalso; omega
                                                              · skip
                                                                refine lv_aload_n F.1 F.2.1 dL_law_1299 rfl (lv_at hl 2 rfl) ?_
                                                                refine lv_iload F.1 F.2.1 dL_law_1300 (lv_at hl 11 rfl) ?_
                                                                have ok_5 : r1 ((beatS S) 0 1) (nI i) (nI ((beatS S) 3 (cl (nI i)))) = (0, nI ((beatS S) 3 i)) := by rw [cl_nI (show i < 2 ^ 31 by omega)]; exact r1_y (okI_nI (by omega) (by omega))
                                                                refine x_tI (n := 1) (rest := []) (v := nI ((beatS S) 3 i)) (w1 := (wCo cI a b (beatS S) S2)) F (c_X3_temperOf l D cI hst a b (beatS S) S2 (nI i) (by first | exact hI | exact hJ)) (by rw [ok_5]; rfl) (by rw [ok_5]) rfl gL_law_X3_temperOf rfl (by decide +kernel) ⟨Nat.le_of_ble_eq_true rfl, Nat.le_of_ble_eq_true rfl⟩ rfl hl.1 rfl (Nat.le_of_ble_eq_true rfl) dL_law_1302 ⟨show ce1230 + 1 + 1 + 1 + 1 ≤ 600130 by omega, show sl1230 + 6 + 6 + 6 + 6 ≤ 7301080 by omega⟩ hK hX hP hD hS (List.append_assoc _ _ _) rfl rfl (((wSi cI cA z (beatS S)) ++ (wCo cI a b (beatS S) S2)) ++ [(q223, .inl (cI, S 0 1, .inl (row (fillN (S 3) (S 0 1))))), (q229, .inl (cI, S 0 1, .inl (row (fillN (S 4) (S 0 1))))), (q235, .inl (cI, S 0 1, .inl (row (fillN (S 5) (S 0 1))))), (q396, .inl (cI, S 0 2, .inl (row (fillN (S 7) (S 0 2))))), (q402, .inl (cI, S 0 2, .inl (row (fillN (S 8) (S 0 2))))), (q408, .inl (cI, S 0 2, .inl (row (fillN (S 9) (S 0 2))))), (q414, .inl (cI, S 0 2, .inl (row (fillN (S 10) (S 0 2)))))]) (List.append_assoc _ _ _).symm (q0 := 0) (ci := 3) rfl rfl (fun H locs hP hD hS => ?_)
                                                                have := hJ.mood i
                                                                refine lv_aload F.1 F.2.1 dL_law_1305 (lv_at hl 8 rfl) ?_
                                                                refine lv_iload F.1 F.2.1 dL_law_1307 (lv_at hl 11 rfl) ?_
                                                                refine q_iald (f := fillN (S 3) (S 0 1)) (v := S 3 i) F hK hP (((wSi cI cA z (beatS S)) ++ (wCo cI a b (beatS S) S2)).length + 0) (app_l rfl) (by omega) (by first | omega | decide) (if_pos (by omega)) dL_law_1309 ?_
                                                                have := hI.mood i
                                                                refine k_icmp_lt (tgt := 1337) F (by omega) (by omega) dL_law_1310 (by decide) (fun h1310 => ?_) (fun h1310 => ?_)
                                                                · skip
                                                                  exfalso; omega
                                                                · skip
                                                                  refine lv_iload F.1 F.2.1 dL_law_1313 (lv_at hl 0 rfl) ?_
                                                                  refine k_if_eq (tgt := 1339) F (by omega) dL_law_1315 (by decide) (fun h1315 => ?_) (fun h1315 => ?_)
                                                                  · skip
                                                                    refine k_inc (k := 11) (lv' := [(27, .int (nI (i + 1))), (28, .int (nI 0)), (0, .ref x), (1, .ref (a 13)), (2, .ref (z 0)), (3, .int (nI t)), (5, .int (nI (S 0 0))), (6, .int (nI (S 0 1))), (7, .int (nI (S 0 2))), (12, .ref q223), (13, .ref q229), (14, .ref q235)]) F dL_law_1339 hl rfl (by decide) rfl (fun ls hl => ?_)
                                                                    refine lv_goto (tgt := 1230) F.1 F.2.1 dL_law_1342 (by decide) ?_
                                                                    exact ih1230 (i + 1) (by omega) (by omega)  (ce1230 + 1 + 1 + 1 + 1) (sl1230 + 6 + 6 + 6 + 6) (by omega) (by omega) _ _ _ hP hD hS (lv_sub hl [2, 3, 4, 5, 6, 7, 8, 9, 10, 11, 0] rfl)
                                                                  · skip
                                                                    exact absurd h1315 (by decide)
                                                        · skip
                                                          exact absurd h1250 (nI_nes _)
                                                      · skip
                                                        refine lv_aload_n F.1 F.2.1 dL_law_1237 rfl (lv_at hl 1 rfl) ?_
                                                        refine lv_iload F.1 F.2.1 dL_law_1238 (lv_at hl 10 rfl) ?_
                                                        have ok_6 : r1 ((beatS S) 0 1) (nI i) (nI ((beatS S) 5 (cl (nI i)))) = (0, nI ((beatS S) 5 i)) := by rw [cl_nI (show i < 2 ^ 31 by omega)]; exact r1_y (okI_nI (by omega) (by omega))
                                                        refine x_tI (n := 1) (rest := []) (v := nI ((beatS S) 5 i)) (w1 := (wCo cI a b (beatS S) S2)) F (c_X3_eatenBy l D cI hst a b (beatS S) S2 (nI i) (by first | exact hI | exact hJ)) (by rw [ok_6]; rfl) (by rw [ok_6]) rfl gL_law_X3_eatenBy rfl (by decide +kernel) ⟨Nat.le_of_ble_eq_true rfl, Nat.le_of_ble_eq_true rfl⟩ rfl hl.1 rfl (Nat.le_of_ble_eq_true rfl) dL_law_1240 ⟨show ce1230 + 1 ≤ 600130 by omega, show sl1230 + 6 ≤ 7301080 by omega⟩ hK hX hP hD hS (List.append_assoc _ _ _) rfl rfl (((wSi cI cA z (beatS S)) ++ (wCo cI a b (beatS S) S2)) ++ [(q223, .inl (cI, S 0 1, .inl (row (fillN (S 3) (S 0 1))))), (q229, .inl (cI, S 0 1, .inl (row (fillN (S 4) (S 0 1))))), (q235, .inl (cI, S 0 1, .inl (row (fillN (S 5) (S 0 1))))), (q396, .inl (cI, S 0 2, .inl (row (fillN (S 7) (S 0 2))))), (q402, .inl (cI, S 0 2, .inl (row (fillN (S 8) (S 0 2))))), (q408, .inl (cI, S 0 2, .inl (row (fillN (S 9) (S 0 2))))), (q414, .inl (cI, S 0 2, .inl (row (fillN (S 10) (S 0 2)))))]) (List.append_assoc _ _ _).symm (q0 := 0) (ci := 3) rfl rfl (fun H locs hP hD hS => ?_)
                                                        refine lv_aload F.1 F.2.1 dL_law_1243 (lv_at hl 9 rfl) ?_
                                                        refine lv_iload F.1 F.2.1 dL_law_1245 (lv_at hl 10 rfl) ?_
                                                        refine q_iald (f := fillN (S 5) (S 0 1)) (v := S 5 i) F hK hP (((wSi cI cA z (beatS S)) ++ (wCo cI a b (beatS S) S2)).length + 2) (app_l rfl) (by omega) (by first | omega | decide) (if_pos (by omega)) dL_law_1247 ?_
                                                        refine lv_iconst (v := nI 1) F.1 F.2.1 dL_law_1248 (by decide) ?_
                                                        refine k_iadd F dL_law_1249 ?_
                                                        rw [hd.1]
                                                        refine lv_icmp_ne (tgt := 1257) F.1 F.2.1 dL_law_1250 (by decide) (fun h1250 => ?_) (fun h1250 => ?_)
                                                        · skip
                                                          exact absurd rfl h1250
                                                        · skip
                                                          refine lv_iconst (v := nI 1) F.1 F.2.1 dL_law_1253 (by decide) ?_
                                                          refine lv_goto (tgt := 1258) F.1 F.2.1 dL_law_1254 (by decide) ?_
                                                          refine lv_istore (lv' := [(28, .int (nI 1)), (0, .ref x), (1, .ref (a 13)), (2, .ref (z 0)), (3, .int (nI t)), (5, .int (nI (S 0 0))), (6, .int (nI (S 0 1))), (7, .int (nI (S 0 2))), (12, .ref q223), (13, .ref q229), (14, .ref q235), (27, .int (nI i))]) F.1 F.2.1 dL_law_1258 hl (by decide) rfl (fun ls hl => ?_)
                                                          refine lv_iload F.1 F.2.1 dL_law_1260 (lv_at hl 0 rfl) ?_
                                                          refine k_if_ne (tgt := 1313) F (by omega) dL_law_1262 (by decide) (fun h1262 => ?_) (fun h1262 => ?_)
                                                          · skip
                                                            refine lv_iload F.1 F.2.1 dL_law_1313 (lv_at hl 0 rfl) ?_
                                                            refine k_if_eq (tgt := 1339) F (by omega) dL_law_1315 (by decide) (fun h1315 => ?_) (fun h1315 => ?_)
                                                            · skip
                                                              exact absurd h1315 (by decide)
                                                            · skip
                                                              refine lv_aload_n F.1 F.2.1 dL_law_1318 rfl (lv_at hl 2 rfl) ?_
                                                              refine lv_iload F.1 F.2.1 dL_law_1319 (lv_at hl 11 rfl) ?_
                                                              have ok_7 : r1 ((beatS S) 0 1) (nI i) (nI ((beatS S) 4 (cl (nI i)))) = (0, nI ((beatS S) 4 i)) := by rw [cl_nI (show i < 2 ^ 31 by omega)]; exact r1_y (okI_nI (by omega) (by omega))
                                                              refine x_tI (n := 1) (rest := []) (v := nI ((beatS S) 4 i)) (w1 := (wCo cI a b (beatS S) S2)) F (c_X3_calmFor l D cI hst a b (beatS S) S2 (nI i) (by first | exact hI | exact hJ)) (by rw [ok_7]; rfl) (by rw [ok_7]) rfl gL_law_X3_calmFor rfl (by decide +kernel) ⟨Nat.le_of_ble_eq_true rfl, Nat.le_of_ble_eq_true rfl⟩ rfl hl.1 rfl (Nat.le_of_ble_eq_true rfl) dL_law_1321 ⟨show ce1230 + 1 + 1 ≤ 600130 by omega, show sl1230 + 6 + 6 ≤ 7301080 by omega⟩ hK hX hP hD hS (List.append_assoc _ _ _) rfl rfl (((wSi cI cA z (beatS S)) ++ (wCo cI a b (beatS S) S2)) ++ [(q223, .inl (cI, S 0 1, .inl (row (fillN (S 3) (S 0 1))))), (q229, .inl (cI, S 0 1, .inl (row (fillN (S 4) (S 0 1))))), (q235, .inl (cI, S 0 1, .inl (row (fillN (S 5) (S 0 1))))), (q396, .inl (cI, S 0 2, .inl (row (fillN (S 7) (S 0 2))))), (q402, .inl (cI, S 0 2, .inl (row (fillN (S 8) (S 0 2))))), (q408, .inl (cI, S 0 2, .inl (row (fillN (S 9) (S 0 2))))), (q414, .inl (cI, S 0 2, .inl (row (fillN (S 10) (S 0 2)))))]) (List.append_assoc _ _ _).symm (q0 := 0) (ci := 3) rfl rfl (fun H locs hP hD hS => ?_)
                                                              have := hJ.rest i
                                                              refine lv_iconst (v := nI 3) F.1 F.2.1 dL_law_1324 (by decide) ?_
                                                              refine k_icmp_ne (tgt := 1337) F (by omega) (by omega) dL_law_1325 (by decide) (fun h1325 => ?_) (fun h1325 => ?_)
                                                              · skip
                                                                exfalso; omega
                                                              · skip
                                                                refine lv_aload F.1 F.2.1 dL_law_1328 (lv_at hl 9 rfl) ?_
                                                                refine lv_iload F.1 F.2.1 dL_law_1330 (lv_at hl 11 rfl) ?_
                                                                refine q_iald (f := fillN (S 4) (S 0 1)) (v := S 4 i) F hK hP (((wSi cI cA z (beatS S)) ++ (wCo cI a b (beatS S) S2)).length + 1) (app_l rfl) (by omega) (by first | omega | decide) (if_pos (by omega)) dL_law_1332 ?_
                                                                have := hI.rest i
                                                                refine lv_iconst (v := nI 1) F.1 F.2.1 dL_law_1333 (by decide) ?_
                                                                refine k_icmp_le (tgt := 1339) F (by omega) (by omega) dL_law_1334 (by decide) (fun h1334 => ?_) (fun h1334 => ?_)
                                                                · skip
                                                                  refine k_inc (k := 11) (lv' := [(27, .int (nI (i + 1))), (28, .int (nI 1)), (0, .ref x), (1, .ref (a 13)), (2, .ref (z 0)), (3, .int (nI t)), (5, .int (nI (S 0 0))), (6, .int (nI (S 0 1))), (7, .int (nI (S 0 2))), (12, .ref q223), (13, .ref q229), (14, .ref q235)]) F dL_law_1339 hl rfl (by decide) rfl (fun ls hl => ?_)
                                                                  refine lv_goto (tgt := 1230) F.1 F.2.1 dL_law_1342 (by decide) ?_
                                                                  exact ih1230 (i + 1) (by omega) (by omega)  (ce1230 + 1 + 1) (sl1230 + 6 + 6) (by omega) (by omega) _ _ _ hP hD hS (lv_sub hl [2, 3, 4, 5, 6, 7, 8, 9, 10, 11, 0] rfl)
                                                                · skip
                                                                  exfalso; omega
                                                          · skip
                                                            exact absurd h1262 (by decide)
                                                exact loop1230 ((S 0 1) + 1) 0 (by omega) (by omega)  (ce846) (sl846) (by omega) (by omega) _ _ _ hP hD hS (lv_sub hl [1, 2, 3, 4, 5, 6, 7, 8, 9, 10, 0] rfl)
                                              · skip
                                                exact absurd rfl h1222
                                      · skip
                                        have hd := did_beat hL.2.1 (v := u) (by omega)
                                        unfold didW didG didB didR at hd
                                        rcases hd with hd | hd | hd | hd
                                        · skip
                                          refine lv_aload_n F.1 F.2.1 dL_law_853 rfl (lv_at hl 1 rfl) ?_
                                          refine lv_iload F.1 F.2.1 dL_law_854 (lv_at hl 21 rfl) ?_
                                          have ok_8 : r1 ((beatS S) 0 2) (nI u) (nI ((beatS S) 7 (cl (nI u)))) = (0, nI ((beatS S) 7 u)) := by rw [cl_nI (show u < 2 ^ 31 by omega)]; exact r1_y (okI_nI (by omega) (by omega))
                                          refine x_tI (n := 1) (rest := []) (v := nI ((beatS S) 7 u)) (w1 := (wCo cI a b (beatS S) S2)) F (c_X3_passedBy l D cI hst a b (beatS S) S2 (nI u) (by first | exact hI | exact hJ)) (by rw [ok_8]; rfl) (by rw [ok_8]) rfl gL_law_X3_passedBy rfl (by decide +kernel) ⟨Nat.le_of_ble_eq_true rfl, Nat.le_of_ble_eq_true rfl⟩ rfl hl.1 rfl (Nat.le_of_ble_eq_true rfl) dL_law_856 ⟨show ce846 + 1 ≤ 600130 by omega, show sl846 + 6 ≤ 7301080 by omega⟩ hK hX hP hD hS (List.append_assoc _ _ _) rfl rfl (((wSi cI cA z (beatS S)) ++ (wCo cI a b (beatS S) S2)) ++ [(q223, .inl (cI, S 0 1, .inl (row (fillN (S 3) (S 0 1))))), (q229, .inl (cI, S 0 1, .inl (row (fillN (S 4) (S 0 1))))), (q235, .inl (cI, S 0 1, .inl (row (fillN (S 5) (S 0 1))))), (q396, .inl (cI, S 0 2, .inl (row (fillN (S 7) (S 0 2))))), (q402, .inl (cI, S 0 2, .inl (row (fillN (S 8) (S 0 2))))), (q408, .inl (cI, S 0 2, .inl (row (fillN (S 9) (S 0 2))))), (q414, .inl (cI, S 0 2, .inl (row (fillN (S 10) (S 0 2)))))]) (List.append_assoc _ _ _).symm (q0 := 0) (ci := 3) rfl rfl (fun H locs hP hD hS => ?_)
                                          have := hJ.went u
                                          refine lv_istore (lv' := [(28, .int (nI ((beatS S) 7 u))), (0, .ref x), (1, .ref (a 13)), (2, .ref (z 0)), (3, .int (nI t)), (5, .int (nI (S 0 0))), (6, .int (nI (S 0 1))), (7, .int (nI (S 0 2))), (12, .ref q223), (13, .ref q229), (14, .ref q235), (16, .ref q396), (17, .ref q402), (18, .ref q408), (19, .ref q414), (20, .int (nI (S 0 4))), (21, .int (nI (S 0 5))), (22, .int (nI (S 0 3))), (23, .int (cameI S 1)), (24, .int (nI (cmN S (beatS S) u))), (25, .int (nI (fdN S (beatS S) u))), (26, .int (nI (flN S (beatS S) u))), (27, .int (nI u))]) F.1 F.2.1 dL_law_859 hl (by decide) rfl (fun ls hl => ?_)
                                          refine lv_iload F.1 F.2.1 dL_law_861 (lv_at hl 0 rfl) ?_
                                          refine lv_aload F.1 F.2.1 dL_law_863 (lv_at hl 11 rfl) ?_
                                          refine lv_iload F.1 F.2.1 dL_law_865 (lv_at hl 22 rfl) ?_
                                          refine q_iald (f := fillN (S 7) (S 0 2)) (v := S 7 u) F hK hP (((wSi cI cA z (beatS S)) ++ (wCo cI a b (beatS S) S2)).length + 3) (app_l rfl) (by omega) (by first | omega | decide) (if_pos (by omega)) dL_law_867 ?_
                                          have := hI.went u
                                          refine lv_iconst (v := nI 1) F.1 F.2.1 dL_law_868 (by decide) ?_
                                          refine k_iadd F dL_law_869 ?_
                                          refine k_icmp_ne (tgt := 877) F (by omega) (by omega) dL_law_870 (by decide) (fun h870 => ?_) (fun h870 => ?_)
                                          · skip
                                            refine lv_iconst (v := nI 0) F.1 F.2.1 dL_law_877 (by decide) ?_
                                            refine lv_istore (lv' := [(29, .int (nI 0)), (28, .int (nI ((beatS S) 7 u))), (0, .ref x), (1, .ref (a 13)), (2, .ref (z 0)), (3, .int (nI t)), (5, .int (nI (S 0 0))), (6, .int (nI (S 0 1))), (7, .int (nI (S 0 2))), (12, .ref q223), (13, .ref q229), (14, .ref q235), (16, .ref q396), (17, .ref q402), (18, .ref q408), (19, .ref q414), (20, .int (nI (S 0 4))), (21, .int (nI (S 0 5))), (22, .int (nI (S 0 3))), (23, .int (cameI S 1)), (24, .int (nI (cmN S (beatS S) u))), (25, .int (nI (fdN S (beatS S) u))), (26, .int (nI (flN S (beatS S) u))), (27, .int (nI u))]) F.1 F.2.1 dL_law_878 hl (by decide) rfl (fun ls hl => ?_)
                                            refine lv_aload_n F.1 F.2.1 dL_law_880 rfl (lv_at hl 3 rfl) ?_
                                            refine lv_iload F.1 F.2.1 dL_law_881 (lv_at hl 23 rfl) ?_
                                            have ok_9 : r1 ((beatS S) 0 2) (nI u) (nI ((beatS S) 8 (cl (nI u)))) = (0, nI ((beatS S) 8 u)) := by rw [cl_nI (show u < 2 ^ 31 by omega)]; exact r1_y (okI_nI (by omega) (by omega))
                                            refine x_tI (n := 1) (rest := []) (v := nI ((beatS S) 8 u)) (w1 := (wCo cI a b (beatS S) S2)) F (c_X3_cornsOf l D cI hst a b (beatS S) S2 (nI u) (by first | exact hI | exact hJ)) (by rw [ok_9]; rfl) (by rw [ok_9]) rfl gL_law_X3_cornsOf rfl (by decide +kernel) ⟨Nat.le_of_ble_eq_true rfl, Nat.le_of_ble_eq_true rfl⟩ rfl hl.1 rfl (Nat.le_of_ble_eq_true rfl) dL_law_883 ⟨show ce846 + 1 + 1 ≤ 600130 by omega, show sl846 + 6 + 6 ≤ 7301080 by omega⟩ hK hX hP hD hS (List.append_assoc _ _ _) rfl rfl (((wSi cI cA z (beatS S)) ++ (wCo cI a b (beatS S) S2)) ++ [(q223, .inl (cI, S 0 1, .inl (row (fillN (S 3) (S 0 1))))), (q229, .inl (cI, S 0 1, .inl (row (fillN (S 4) (S 0 1))))), (q235, .inl (cI, S 0 1, .inl (row (fillN (S 5) (S 0 1))))), (q396, .inl (cI, S 0 2, .inl (row (fillN (S 7) (S 0 2))))), (q402, .inl (cI, S 0 2, .inl (row (fillN (S 8) (S 0 2))))), (q408, .inl (cI, S 0 2, .inl (row (fillN (S 9) (S 0 2))))), (q414, .inl (cI, S 0 2, .inl (row (fillN (S 10) (S 0 2)))))]) (List.append_assoc _ _ _).symm (q0 := 0) (ci := 3) rfl rfl (fun H locs hP hD hS => ?_)
                                            have := hJ.has u
                                            refine lv_aload F.1 F.2.1 dL_law_886 (lv_at hl 13 rfl) ?_
                                            refine lv_iload F.1 F.2.1 dL_law_888 (lv_at hl 23 rfl) ?_
                                            refine q_iald (f := fillN (S 8) (S 0 2)) (v := S 8 u) F hK hP (((wSi cI cA z (beatS S)) ++ (wCo cI a b (beatS S) S2)).length + 4) (app_l rfl) (by omega) (by first | omega | decide) (if_pos (by omega)) dL_law_890 ?_
                                            have := hI.has u
                                            refine lv_iconst (v := nI 1) F.1 F.2.1 dL_law_891 (by decide) ?_
                                            refine lv_isub F.1 F.2.1 dL_law_892 ?_
                                            refine k_ne_m1 (tgt := 900) F (by omega) (by omega) dL_law_893 (by decide) (fun h893 => ?_) (fun h893 => ?_)
                                            · skip
                                              refine lv_iconst (v := nI 0) F.1 F.2.1 dL_law_900 (by decide) ?_
                                              refine lv_istore (lv' := [(30, .int (nI 0)), (29, .int (nI 0)), (28, .int (nI ((beatS S) 7 u))), (0, .ref x), (1, .ref (a 13)), (2, .ref (z 0)), (3, .int (nI t)), (5, .int (nI (S 0 0))), (6, .int (nI (S 0 1))), (7, .int (nI (S 0 2))), (12, .ref q223), (13, .ref q229), (14, .ref q235), (16, .ref q396), (17, .ref q402), (18, .ref q408), (19, .ref q414), (20, .int (nI (S 0 4))), (21, .int (nI (S 0 5))), (22, .int (nI (S 0 3))), (23, .int (cameI S 1)), (24, .int (nI (cmN S (beatS S) u))), (25, .int (nI (fdN S (beatS S) u))), (26, .int (nI (flN S (beatS S) u))), (27, .int (nI u))]) F.1 F.2.1 dL_law_901 hl (by decide) rfl (fun ls hl => ?_)
                                              refine lv_aload_n F.1 F.2.1 dL_law_903 rfl (lv_at hl 4 rfl) ?_
                                              refine lv_iload F.1 F.2.1 dL_law_904 (lv_at hl 24 rfl) ?_
                                              have ok_10 : r1 ((beatS S) 0 2) (nI u) (nI ((beatS S) 10 (cl (nI u)))) = (0, nI ((beatS S) 10 u)) := by rw [cl_nI (show u < 2 ^ 31 by omega)]; exact r1_y (okI_nI (by omega) (by omega))
                                              refine x_tI (n := 1) (rest := []) (v := nI ((beatS S) 10 u)) (w1 := (wCo cI a b (beatS S) S2)) F (c_X3_retreatOf l D cI hst a b (beatS S) S2 (nI u) (by first | exact hI | exact hJ)) (by rw [ok_10]; rfl) (by rw [ok_10]) rfl gL_law_X3_retreatOf rfl (by decide +kernel) ⟨Nat.le_of_ble_eq_true rfl, Nat.le_of_ble_eq_true rfl⟩ rfl hl.1 rfl (Nat.le_of_ble_eq_true rfl) dL_law_906 ⟨show ce846 + 1 + 1 + 1 ≤ 600130 by omega, show sl846 + 6 + 6 + 6 ≤ 7301080 by omega⟩ hK hX hP hD hS (List.append_assoc _ _ _) rfl rfl (((wSi cI cA z (beatS S)) ++ (wCo cI a b (beatS S) S2)) ++ [(q223, .inl (cI, S 0 1, .inl (row (fillN (S 3) (S 0 1))))), (q229, .inl (cI, S 0 1, .inl (row (fillN (S 4) (S 0 1))))), (q235, .inl (cI, S 0 1, .inl (row (fillN (S 5) (S 0 1))))), (q396, .inl (cI, S 0 2, .inl (row (fillN (S 7) (S 0 2))))), (q402, .inl (cI, S 0 2, .inl (row (fillN (S 8) (S 0 2))))), (q408, .inl (cI, S 0 2, .inl (row (fillN (S 9) (S 0 2))))), (q414, .inl (cI, S 0 2, .inl (row (fillN (S 10) (S 0 2)))))]) (List.append_assoc _ _ _).symm (q0 := 0) (ci := 3) rfl rfl (fun H locs hP hD hS => ?_)
                                              have := hJ.back u
                                              refine lv_aload F.1 F.2.1 dL_law_909 (lv_at hl 16 rfl) ?_
                                              refine lv_iload F.1 F.2.1 dL_law_911 (lv_at hl 24 rfl) ?_
                                              refine q_iald (f := fillN (S 10) (S 0 2)) (v := S 10 u) F hK hP (((wSi cI cA z (beatS S)) ++ (wCo cI a b (beatS S) S2)).length + 6) (app_l rfl) (by omega) (by first | omega | decide) (if_pos (by omega)) dL_law_913 ?_
                                              have := hI.back u
                                              refine k_icmp_le (tgt := 921) F (by omega) (by omega) dL_law_914 (by decide) (fun h914 => ?_) (fun h914 => ?_)
                                              · skip
                                                refine lv_iconst (v := nI 0) F.1 F.2.1 dL_law_921 (by decide) ?_
                                                refine lv_istore (lv' := [(31, .int (nI 0)), (30, .int (nI 0)), (29, .int (nI 0)), (28, .int (nI ((beatS S) 7 u))), (0, .ref x), (1, .ref (a 13)), (2, .ref (z 0)), (3, .int (nI t)), (5, .int (nI (S 0 0))), (6, .int (nI (S 0 1))), (7, .int (nI (S 0 2))), (12, .ref q223), (13, .ref q229), (14, .ref q235), (16, .ref q396), (17, .ref q402), (18, .ref q408), (19, .ref q414), (20, .int (nI (S 0 4))), (21, .int (nI (S 0 5))), (22, .int (nI (S 0 3))), (23, .int (cameI S 1)), (24, .int (nI (cmN S (beatS S) u))), (25, .int (nI (fdN S (beatS S) u))), (26, .int (nI (flN S (beatS S) u))), (27, .int (nI u))]) F.1 F.2.1 dL_law_922 hl (by decide) rfl (fun ls hl => ?_)
                                                refine lv_iload F.1 F.2.1 dL_law_924 (lv_at hl 22 rfl) ?_
                                                refine lv_iload F.1 F.2.1 dL_law_926 (lv_at hl 2 rfl) ?_
                                                refine k_if_eq (tgt := 942) F (by omega) dL_law_928 (by decide) (fun h928 => ?_) (fun h928 => ?_)
                                                · skip
                                                  refine lv_iconst (v := nI 0) F.1 F.2.1 dL_law_942 (by decide) ?_
                                                  refine k_iadd F dL_law_943 ?_
                                                  refine lv_istore (lv' := [(24, .int (nI (cmN S (beatS S) u + 0))), (31, .int (nI 0)), (30, .int (nI 0)), (29, .int (nI 0)), (28, .int (nI ((beatS S) 7 u))), (0, .ref x), (1, .ref (a 13)), (2, .ref (z 0)), (3, .int (nI t)), (5, .int (nI (S 0 0))), (6, .int (nI (S 0 1))), (7, .int (nI (S 0 2))), (12, .ref q223), (13, .ref q229), (14, .ref q235), (16, .ref q396), (17, .ref q402), (18, .ref q408), (19, .ref q414), (20, .int (nI (S 0 4))), (21, .int (nI (S 0 5))), (22, .int (nI (S 0 3))), (23, .int (cameI S 1)), (25, .int (nI (fdN S (beatS S) u))), (26, .int (nI (flN S (beatS S) u))), (27, .int (nI u))]) F.1 F.2.1 dL_law_944 hl (by decide) rfl (fun ls hl => ?_)
                                                  refine lv_iload F.1 F.2.1 dL_law_946 (lv_at hl 23 rfl) ?_
                                                  refine lv_iload F.1 F.2.1 dL_law_948 (lv_at hl 2 rfl) ?_
                                                  refine k_if_eq (tgt := 957) F (by omega) dL_law_950 (by decide) (fun h950 => ?_) (fun h950 => ?_)
                                                  · skip
                                                    refine lv_iconst (v := nI 0) F.1 F.2.1 dL_law_957 (by decide) ?_
                                                    refine k_iadd F dL_law_958 ?_
                                                    refine lv_istore (lv' := [(25, .int (nI (fdN S (beatS S) u + 0))), (24, .int (nI (cmN S (beatS S) u + 0))), (31, .int (nI 0)), (30, .int (nI 0)), (29, .int (nI 0)), (28, .int (nI ((beatS S) 7 u))), (0, .ref x), (1, .ref (a 13)), (2, .ref (z 0)), (3, .int (nI t)), (5, .int (nI (S 0 0))), (6, .int (nI (S 0 1))), (7, .int (nI (S 0 2))), (12, .ref q223), (13, .ref q229), (14, .ref q235), (16, .ref q396), (17, .ref q402), (18, .ref q408), (19, .ref q414), (20, .int (nI (S 0 4))), (21, .int (nI (S 0 5))), (22, .int (nI (S 0 3))), (23, .int (cameI S 1)), (26, .int (nI (flN S (beatS S) u))), (27, .int (nI u))]) F.1 F.2.1 dL_law_959 hl (by decide) rfl (fun ls hl => ?_)
                                                    refine lv_iload F.1 F.2.1 dL_law_961 (lv_at hl 24 rfl) ?_
                                                    refine lv_iload F.1 F.2.1 dL_law_963 (lv_at hl 2 rfl) ?_
                                                    refine k_if_eq (tgt := 972) F (by omega) dL_law_965 (by decide) (fun h965 => ?_) (fun h965 => ?_)
                                                    · skip
                                                      refine lv_iconst (v := nI 0) F.1 F.2.1 dL_law_972 (by decide) ?_
                                                      refine k_iadd F dL_law_973 ?_
                                                      refine lv_istore (lv' := [(26, .int (nI (flN S (beatS S) u + 0))), (25, .int (nI (fdN S (beatS S) u + 0))), (24, .int (nI (cmN S (beatS S) u + 0))), (31, .int (nI 0)), (30, .int (nI 0)), (29, .int (nI 0)), (28, .int (nI ((beatS S) 7 u))), (0, .ref x), (1, .ref (a 13)), (2, .ref (z 0)), (3, .int (nI t)), (5, .int (nI (S 0 0))), (6, .int (nI (S 0 1))), (7, .int (nI (S 0 2))), (12, .ref q223), (13, .ref q229), (14, .ref q235), (16, .ref q396), (17, .ref q402), (18, .ref q408), (19, .ref q414), (20, .int (nI (S 0 4))), (21, .int (nI (S 0 5))), (22, .int (nI (S 0 3))), (23, .int (cameI S 1)), (27, .int (nI u))]) F.1 F.2.1 dL_law_974 hl (by decide) rfl (fun ls hl => ?_)
                                                      refine lv_iload F.1 F.2.1 dL_law_976 (lv_at hl 5 rfl) ?_
                                                      refine k_if_eq (tgt := 985) F (by omega) dL_law_978 (by decide) (fun h978 => ?_) (fun h978 => ?_)
                                                      · skip
                                                        refine lv_iconst (v := nI 0) F.1 F.2.1 dL_law_985 (by decide) ?_
                                                        refine lv_iload F.1 F.2.1 dL_law_986 (lv_at hl 4 rfl) ?_
                                                        refine k_if_eq (tgt := 995) F (by omega) dL_law_988 (by decide) (fun h988 => ?_) (fun h988 => ?_)
                                                        · skip
                                                          refine lv_iconst (v := nI 0) F.1 F.2.1 dL_law_995 (by decide) ?_
                                                          refine k_iadd F dL_law_996 ?_
                                                          refine lv_iload F.1 F.2.1 dL_law_997 (lv_at hl 3 rfl) ?_
                                                          refine k_if_eq (tgt := 1006) F (by omega) dL_law_999 (by decide) (fun h999 => ?_) (fun h999 => ?_)
                                                          · skip
                                                            refine lv_iconst (v := nI 0) F.1 F.2.1 dL_law_1006 (by decide) ?_
                                                            refine k_iadd F dL_law_1007 ?_
                                                            refine lv_istore (lv' := [(32, .int (nI 0)), (26, .int (nI (flN S (beatS S) u + 0))), (25, .int (nI (fdN S (beatS S) u + 0))), (24, .int (nI (cmN S (beatS S) u + 0))), (31, .int (nI 0)), (30, .int (nI 0)), (29, .int (nI 0)), (28, .int (nI ((beatS S) 7 u))), (0, .ref x), (1, .ref (a 13)), (2, .ref (z 0)), (3, .int (nI t)), (5, .int (nI (S 0 0))), (6, .int (nI (S 0 1))), (7, .int (nI (S 0 2))), (12, .ref q223), (13, .ref q229), (14, .ref q235), (16, .ref q396), (17, .ref q402), (18, .ref q408), (19, .ref q414), (20, .int (nI (S 0 4))), (21, .int (nI (S 0 5))), (22, .int (nI (S 0 3))), (23, .int (cameI S 1)), (27, .int (nI u))]) F.1 F.2.1 dL_law_1008 hl (by decide) rfl (fun ls hl => ?_)
                                                            refine lv_aload F.1 F.2.1 dL_law_1010 (lv_at hl 18 rfl) ?_
                                                            refine lv_iload F.1 F.2.1 dL_law_1012 (lv_at hl 26 rfl) ?_
                                                            refine q_iald (f := fillN (S 7) (S 0 2)) (v := S 7 u) F hK hP (((wSi cI cA z (beatS S)) ++ (wCo cI a b (beatS S) S2)).length + 3) (app_l rfl) (by omega) (by first | omega | decide) (if_pos (by omega)) dL_law_1014 ?_
                                                            have := hI.went u
                                                            refine lv_iload F.1 F.2.1 dL_law_1015 (lv_at hl 12 rfl) ?_
                                                            refine k_icmp_eq (tgt := 1028) F (by omega) (by omega) dL_law_1017 (by decide) (fun h1017 => ?_) (fun h1017 => ?_)
                                                            · skip
                                                              refine lv_iconst (v := nI 1) F.1 F.2.1 dL_law_1028 (by decide) ?_
                                                              refine lv_goto (tgt := 1033) F.1 F.2.1 dL_law_1029 (by decide) ?_
                                                              refine lv_istore (lv' := [(33, .int (nI 1)), (32, .int (nI 0)), (26, .int (nI (flN S (beatS S) u + 0))), (25, .int (nI (fdN S (beatS S) u + 0))), (24, .int (nI (cmN S (beatS S) u + 0))), (31, .int (nI 0)), (30, .int (nI 0)), (29, .int (nI 0)), (28, .int (nI ((beatS S) 7 u))), (0, .ref x), (1, .ref (a 13)), (2, .ref (z 0)), (3, .int (nI t)), (5, .int (nI (S 0 0))), (6, .int (nI (S 0 1))), (7, .int (nI (S 0 2))), (12, .ref q223), (13, .ref q229), (14, .ref q235), (16, .ref q396), (17, .ref q402), (18, .ref q408), (19, .ref q414), (20, .int (nI (S 0 4))), (21, .int (nI (S 0 5))), (22, .int (nI (S 0 3))), (23, .int (cameI S 1)), (27, .int (nI u))]) F.1 F.2.1 dL_law_1033 hl (by decide) rfl (fun ls hl => ?_)
                                                              refine lv_iload F.1 F.2.1 dL_law_1035 (lv_at hl 1 rfl) ?_
                                                              refine lv_iload F.1 F.2.1 dL_law_1037 (lv_at hl 0 rfl) ?_
                                                              refine k_if_eq (tgt := 1046) F (by omega) dL_law_1039 (by decide) (fun h1039 => ?_) (fun h1039 => ?_)
                                                              · skip
                                                                exact absurd h1039 (by decide)
                                                              · skip
                                                                refine lv_iconst (v := nI 0) F.1 F.2.1 dL_law_1042 (by decide) ?_
                                                                refine lv_goto (tgt := 1047) F.1 F.2.1 dL_law_1043 (by decide) ?_
                                                                refine lv_icmp_ne (tgt := 1175) F.1 F.2.1 dL_law_1047 (by decide) (fun h1047 => ?_) (fun h1047 => ?_)
                                                                · skip
                                                                  exact absurd h1047 (by decide)
                                                                · skip
                                                                  refine lv_iload F.1 F.2.1 dL_law_1050 (lv_at hl 6 rfl) ?_
                                                                  refine k_if_ne (tgt := 1069) F (by omega) dL_law_1052 (by decide) (fun h1052 => ?_) (fun h1052 => ?_)
                                                                  · skip
                                                                    exact absurd h1052 (by decide)
                                                                  · skip
                                                                    refine lv_aload_n F.1 F.2.1 dL_law_1055 rfl (lv_at hl 10 rfl) ?_
                                                                    refine lv_iload F.1 F.2.1 dL_law_1056 (lv_at hl 27 rfl) ?_
                                                                    have ok_11 : r1 ((beatS S) 0 2) (nI u) (nI ((beatS S) 8 (cl (nI u)))) = (0, nI ((beatS S) 8 u)) := by rw [cl_nI (show u < 2 ^ 31 by omega)]; exact r1_y (okI_nI (by omega) (by omega))
                                                                    refine x_tI (n := 1) (rest := []) (v := nI ((beatS S) 8 u)) (w1 := (wCo cI a b (beatS S) S2)) F (c_X3_cornsOf l D cI hst a b (beatS S) S2 (nI u) (by first | exact hI | exact hJ)) (by rw [ok_11]; rfl) (by rw [ok_11]) rfl gL_law_X3_cornsOf rfl (by decide +kernel) ⟨Nat.le_of_ble_eq_true rfl, Nat.le_of_ble_eq_true rfl⟩ rfl hl.1 rfl (Nat.le_of_ble_eq_true rfl) dL_law_1058 ⟨show ce846 + 1 + 1 + 1 + 1 ≤ 600130 by omega, show sl846 + 6 + 6 + 6 + 6 ≤ 7301080 by omega⟩ hK hX hP hD hS (List.append_assoc _ _ _) rfl rfl (((wSi cI cA z (beatS S)) ++ (wCo cI a b (beatS S) S2)) ++ [(q223, .inl (cI, S 0 1, .inl (row (fillN (S 3) (S 0 1))))), (q229, .inl (cI, S 0 1, .inl (row (fillN (S 4) (S 0 1))))), (q235, .inl (cI, S 0 1, .inl (row (fillN (S 5) (S 0 1))))), (q396, .inl (cI, S 0 2, .inl (row (fillN (S 7) (S 0 2))))), (q402, .inl (cI, S 0 2, .inl (row (fillN (S 8) (S 0 2))))), (q408, .inl (cI, S 0 2, .inl (row (fillN (S 9) (S 0 2))))), (q414, .inl (cI, S 0 2, .inl (row (fillN (S 10) (S 0 2)))))]) (List.append_assoc _ _ _).symm (q0 := 0) (ci := 3) rfl rfl (fun H locs hP hD hS => ?_)
                                                                    have := hJ.has u
                                                                    refine lv_aload F.1 F.2.1 dL_law_1061 (lv_at hl 20 rfl) ?_
                                                                    refine lv_iload F.1 F.2.1 dL_law_1063 (lv_at hl 27 rfl) ?_
                                                                    refine q_iald (f := fillN (S 8) (S 0 2)) (v := S 8 u) F hK hP (((wSi cI cA z (beatS S)) ++ (wCo cI a b (beatS S) S2)).length + 4) (app_l rfl) (by omega) (by first | omega | decide) (if_pos (by omega)) dL_law_1065 ?_
                                                                    have := hI.has u
                                                                    refine k_icmp_ne (tgt := 1175) F (by omega) (by omega) dL_law_1066 (by decide) (fun h1066 => ?_) (fun h1066 => ?_)
                                                                    · skip
                                                                      exfalso; omega
                                                                    · skip
                                                                      refine lv_aload_n F.1 F.2.1 dL_law_1069 rfl (lv_at hl 10 rfl) ?_
                                                                      refine lv_iload F.1 F.2.1 dL_law_1070 (lv_at hl 27 rfl) ?_
                                                                      have ok_12 : r1 ((beatS S) 0 2) (nI u) (nI ((beatS S) 9 (cl (nI u)))) = (0, nI ((beatS S) 9 u)) := by rw [cl_nI (show u < 2 ^ 31 by omega)]; exact r1_y (okI_nI (by omega) (by omega))
                                                                      refine x_tI (n := 1) (rest := []) (v := nI ((beatS S) 9 u)) (w1 := (wCo cI a b (beatS S) S2)) F (c_X3_nerveOf l D cI hst a b (beatS S) S2 (nI u) (by first | exact hI | exact hJ)) (by rw [ok_12]; rfl) (by rw [ok_12]) rfl gL_law_X3_nerveOf rfl (by decide +kernel) ⟨Nat.le_of_ble_eq_true rfl, Nat.le_of_ble_eq_true rfl⟩ rfl hl.1 rfl (Nat.le_of_ble_eq_true rfl) dL_law_1072 ⟨show ce846 + 1 + 1 + 1 + 1 + 1 ≤ 600130 by omega, show sl846 + 6 + 6 + 6 + 6 + 6 ≤ 7301080 by omega⟩ hK hX hP hD hS (List.append_assoc _ _ _) rfl rfl (((wSi cI cA z (beatS S)) ++ (wCo cI a b (beatS S) S2)) ++ [(q223, .inl (cI, S 0 1, .inl (row (fillN (S 3) (S 0 1))))), (q229, .inl (cI, S 0 1, .inl (row (fillN (S 4) (S 0 1))))), (q235, .inl (cI, S 0 1, .inl (row (fillN (S 5) (S 0 1))))), (q396, .inl (cI, S 0 2, .inl (row (fillN (S 7) (S 0 2))))), (q402, .inl (cI, S 0 2, .inl (row (fillN (S 8) (S 0 2))))), (q408, .inl (cI, S 0 2, .inl (row (fillN (S 9) (S 0 2))))), (q414, .inl (cI, S 0 2, .inl (row (fillN (S 10) (S 0 2)))))]) (List.append_assoc _ _ _).symm (q0 := 0) (ci := 3) rfl rfl (fun H locs hP hD hS => ?_)
                                                                      have := hJ.brave u
                                                                      refine lv_iload F.1 F.2.1 dL_law_1075 (lv_at hl 5 rfl) ?_
                                                                      refine k_if_eq (tgt := 1095) F (by omega) dL_law_1077 (by decide) (fun h1077 => ?_) (fun h1077 => ?_)
                                                                      · skip
                                                                        refine lv_aload F.1 F.2.1 dL_law_1095 (lv_at hl 21 rfl) ?_
                                                                        refine lv_iload F.1 F.2.1 dL_law_1097 (lv_at hl 27 rfl) ?_
                                                                        refine q_iald (f := fillN (S 9) (S 0 2)) (v := S 9 u) F hK hP (((wSi cI cA z (beatS S)) ++ (wCo cI a b (beatS S) S2)).length + 5) (app_l rfl) (by omega) (by first | omega | decide) (if_pos (by omega)) dL_law_1099 ?_
                                                                        have := hI.brave u
                                                                        refine k_icmp_ne (tgt := 1175) F (by omega) (by omega) dL_law_1100 (by decide) (fun h1100 => ?_) (fun h1100 => ?_)
                                                                        · skip
                                                                          exfalso; omega
                                                                        · skip
                                                                          refine lv_iload F.1 F.2.1 dL_law_1103 (lv_at hl 7 rfl) ?_
                                                                          refine k_if_ne (tgt := 1137) F (by omega) dL_law_1105 (by decide) (fun h1105 => ?_) (fun h1105 => ?_)
                                                                          · skip
                                                                            exact absurd h1105 (by decide)
                                                                          · skip
                                                                            refine lv_iload F.1 F.2.1 dL_law_1108 (lv_at hl 8 rfl) ?_
                                                                            refine lv_iload F.1 F.2.1 dL_law_1110 (lv_at hl 5 rfl) ?_
                                                                            refine k_if_eq (tgt := 1129) F (by omega) dL_law_1112 (by decide) (fun h1112 => ?_) (fun h1112 => ?_)
                                                                            · skip
                                                                              refine lv_aload F.1 F.2.1 dL_law_1129 (lv_at hl 19 rfl) ?_
                                                                              refine lv_iload F.1 F.2.1 dL_law_1131 (lv_at hl 27 rfl) ?_
                                                                              refine q_iald (f := fillN (S 7) (S 0 2)) (v := S 7 u) F hK hP (((wSi cI cA z (beatS S)) ++ (wCo cI a b (beatS S) S2)).length + 3) (app_l rfl) (by omega) (by first | omega | decide) (if_pos (by omega)) dL_law_1133 ?_
                                                                              have := hI.went u
                                                                              refine k_icmp_ne (tgt := 1175) F (by omega) (by omega) dL_law_1134 (by decide) (fun h1134 => ?_) (fun h1134 => ?_)
                                                                              · skip
                                                                                exfalso; omega
                                                                              · skip
                                                                                refine lv_iload F.1 F.2.1 dL_law_1137 (lv_at hl 5 rfl) ?_
                                                                                refine k_if_ne (tgt := 1162) F (by omega) dL_law_1139 (by decide) (fun h1139 => ?_) (fun h1139 => ?_)
                                                                                · skip
                                                                                  exact absurd h1139 (by decide)
                                                                                · skip
                                                                                  refine lv_aload_n F.1 F.2.1 dL_law_1142 rfl (lv_at hl 10 rfl) ?_
                                                                                  refine lv_iload F.1 F.2.1 dL_law_1143 (lv_at hl 27 rfl) ?_
                                                                                  have ok_13 : r1 ((beatS S) 0 2) (nI u) (nI ((beatS S) 10 (cl (nI u)))) = (0, nI ((beatS S) 10 u)) := by rw [cl_nI (show u < 2 ^ 31 by omega)]; exact r1_y (okI_nI (by omega) (by omega))
                                                                                  refine x_tI (n := 1) (rest := []) (v := nI ((beatS S) 10 u)) (w1 := (wCo cI a b (beatS S) S2)) F (c_X3_retreatOf l D cI hst a b (beatS S) S2 (nI u) (by first | exact hI | exact hJ)) (by rw [ok_13]; rfl) (by rw [ok_13]) rfl gL_law_X3_retreatOf rfl (by decide +kernel) ⟨Nat.le_of_ble_eq_true rfl, Nat.le_of_ble_eq_true rfl⟩ rfl hl.1 rfl (Nat.le_of_ble_eq_true rfl) dL_law_1145 ⟨show ce846 + 1 + 1 + 1 + 1 + 1 + 1 ≤ 600130 by omega, show sl846 + 6 + 6 + 6 + 6 + 6 + 6 ≤ 7301080 by omega⟩ hK hX hP hD hS (List.append_assoc _ _ _) rfl rfl (((wSi cI cA z (beatS S)) ++ (wCo cI a b (beatS S) S2)) ++ [(q223, .inl (cI, S 0 1, .inl (row (fillN (S 3) (S 0 1))))), (q229, .inl (cI, S 0 1, .inl (row (fillN (S 4) (S 0 1))))), (q235, .inl (cI, S 0 1, .inl (row (fillN (S 5) (S 0 1))))), (q396, .inl (cI, S 0 2, .inl (row (fillN (S 7) (S 0 2))))), (q402, .inl (cI, S 0 2, .inl (row (fillN (S 8) (S 0 2))))), (q408, .inl (cI, S 0 2, .inl (row (fillN (S 9) (S 0 2))))), (q414, .inl (cI, S 0 2, .inl (row (fillN (S 10) (S 0 2)))))]) (List.append_assoc _ _ _).symm (q0 := 0) (ci := 3) rfl rfl (fun H locs hP hD hS => ?_)
                                                                                  have := hJ.back u
                                                                                  refine lv_iconst (v := nI 0) F.1 F.2.1 dL_law_1148 (by decide) ?_
                                                                                  refine lv_aload F.1 F.2.1 dL_law_1149 (lv_at hl 22 rfl) ?_
                                                                                  refine lv_iload F.1 F.2.1 dL_law_1151 (lv_at hl 27 rfl) ?_
                                                                                  refine q_iald (f := fillN (S 10) (S 0 2)) (v := S 10 u) F hK hP (((wSi cI cA z (beatS S)) ++ (wCo cI a b (beatS S) S2)).length + 6) (app_l rfl) (by omega) (by first | omega | decide) (if_pos (by omega)) dL_law_1153 ?_
                                                                                  have := hI.back u
                                                                                  refine lv_iconst (v := nI 1) F.1 F.2.1 dL_law_1154 (by decide) ?_
                                                                                  refine lv_isub F.1 F.2.1 dL_law_1155 ?_
                                                                                  refine k_max0 F hl.1 (List.mem_of_getElem? (i := 8) rfl) (List.mem_of_getElem? (i := 9) rfl) (List.mem_of_getElem? (i := 6) rfl) (List.mem_of_getElem? (i := 10) rfl) (Nat.le_of_ble_eq_true rfl) (Nat.le_of_ble_eq_true rfl) ⟨show ce846 + 1 + 1 + 1 + 1 + 1 + 1 ≤ 600130 by omega, show sl846 + 6 + 6 + 6 + 6 + 6 + 6 ≤ 7301080 by omega⟩ (by omega) (by omega) (by omega) dL_law_1156 ?_
                                                                                  refine k_icmp_ne (tgt := 1175) F (by omega) (by omega) dL_law_1159 (by decide) (fun h1159 => ?_) (fun h1159 => ?_)
                                                                                  · skip
                                                                                    exfalso; omega
                                                                                  · skip
                                                                                    refine lv_iload F.1 F.2.1 dL_law_1162 (lv_at hl 5 rfl) ?_
                                                                                    refine k_if_eq (tgt := 1177) F (by omega) dL_law_1164 (by decide) (fun h1164 => ?_) (fun h1164 => ?_)
                                                                                    · skip
                                                                                      refine k_inc (k := 27) (lv' := [(27, .int (nI (u + 1))), (33, .int (nI 1)), (32, .int (nI 0)), (26, .int (nI (flN S (beatS S) u + 0))), (25, .int (nI (fdN S (beatS S) u + 0))), (24, .int (nI (cmN S (beatS S) u + 0))), (31, .int (nI 0)), (30, .int (nI 0)), (29, .int (nI 0)), (28, .int (nI ((beatS S) 7 u))), (0, .ref x), (1, .ref (a 13)), (2, .ref (z 0)), (3, .int (nI t)), (5, .int (nI (S 0 0))), (6, .int (nI (S 0 1))), (7, .int (nI (S 0 2))), (12, .ref q223), (13, .ref q229), (14, .ref q235), (16, .ref q396), (17, .ref q402), (18, .ref q408), (19, .ref q414), (20, .int (nI (S 0 4))), (21, .int (nI (S 0 5))), (22, .int (nI (S 0 3))), (23, .int (cameI S 1))]) F dL_law_1177 hl rfl (by decide) rfl (fun ls hl => ?_)
                                                                                      refine lv_goto (tgt := 846) F.1 F.2.1 dL_law_1180 (by decide) ?_
                                                                                      have e_14 : (cmN S (beatS S) u + 0) = cmN S (beatS S) (u + 1) := by show cmN S (beatS S) u = _; rw [show cmN S (beatS S) (u + 1) = if (beatS S) 7 u = S 7 u + 1 ∧ (beatS S) 7 u = S 0 0 then cmN S (beatS S) u + 1 else cmN S (beatS S) u from rfl, if_neg (by omega)]
                                                                                      rw [e_14] at hl
                                                                                      have e_15 : (fdN S (beatS S) u + 0) = fdN S (beatS S) (u + 1) := by show fdN S (beatS S) u = _; rw [show fdN S (beatS S) (u + 1) = if (beatS S) 8 u + 1 = S 8 u then fdN S (beatS S) u + 1 else fdN S (beatS S) u from rfl, if_neg (by omega)]
                                                                                      rw [e_15] at hl
                                                                                      have e_16 : (flN S (beatS S) u + 0) = flN S (beatS S) (u + 1) := by show flN S (beatS S) u = _; rw [show flN S (beatS S) (u + 1) = if S 10 u < (beatS S) 10 u then flN S (beatS S) u + 1 else flN S (beatS S) u from rfl, if_neg (by omega)]
                                                                                      rw [e_16] at hl
                                                                                      exact ih846 (u + 1) (by omega) (by omega)  (ce846 + 1 + 1 + 1 + 1 + 1 + 1) (sl846 + 6 + 6 + 6 + 6 + 6 + 6) (by omega) (by omega) _ _ _ hP hD hS (lv_sub hl [10, 11, 12, 13, 14, 15, 16, 17, 18, 19, 20, 21, 22, 23, 24, 25, 26, 27, 5, 4, 3, 0] rfl)
                                                                                    · skip
                                                                                      exact absurd h1164 (by decide)
                                                                            · skip
                                                                              exact absurd h1112 (by decide)
                                                                      · skip
                                                                        exact absurd h1077 (by decide)
                                                            · skip
                                                              refine lv_aload F.1 F.2.1 dL_law_1020 (lv_at hl 21 rfl) ?_
                                                              refine lv_iload F.1 F.2.1 dL_law_1022 (lv_at hl 26 rfl) ?_
                                                              refine q_iald (f := fillN (S 10) (S 0 2)) (v := S 10 u) F hK hP (((wSi cI cA z (beatS S)) ++ (wCo cI a b (beatS S) S2)).length + 6) (app_l rfl) (by omega) (by first | omega | decide) (if_pos (by omega)) dL_law_1024 ?_
                                                              have := hI.back u
                                                              refine k_if_le (tgt := 1032) F (by omega) dL_law_1025 (by decide) (fun h1025 => ?_) (fun h1025 => ?_)
                                                              · skip
                                                                exfalso; omega
                                                              · skip
                                                                refine lv_iconst (v := nI 1) F.1 F.2.1 dL_law_1028 (by decide) ?_
                                                                refine lv_goto (tgt := 1033) F.1 F.2.1 dL_law_1029 (by decide) ?_
                                                                refine lv_istore (lv' := [(33, .int (nI 1)), (32, .int (nI 0)), (26, .int (nI (flN S (beatS S) u + 0))), (25, .int (nI (fdN S (beatS S) u + 0))), (24, .int (nI (cmN S (beatS S) u + 0))), (31, .int (nI 0)), (30, .int (nI 0)), (29, .int (nI 0)), (28, .int (nI ((beatS S) 7 u))), (0, .ref x), (1, .ref (a 13)), (2, .ref (z 0)), (3, .int (nI t)), (5, .int (nI (S 0 0))), (6, .int (nI (S 0 1))), (7, .int (nI (S 0 2))), (12, .ref q223), (13, .ref q229), (14, .ref q235), (16, .ref q396), (17, .ref q402), (18, .ref q408), (19, .ref q414), (20, .int (nI (S 0 4))), (21, .int (nI (S 0 5))), (22, .int (nI (S 0 3))), (23, .int (cameI S 1)), (27, .int (nI u))]) F.1 F.2.1 dL_law_1033 hl (by decide) rfl (fun ls hl => ?_)
                                                                refine lv_iload F.1 F.2.1 dL_law_1035 (lv_at hl 1 rfl) ?_
                                                                refine lv_iload F.1 F.2.1 dL_law_1037 (lv_at hl 0 rfl) ?_
                                                                refine k_if_eq (tgt := 1046) F (by omega) dL_law_1039 (by decide) (fun h1039 => ?_) (fun h1039 => ?_)
                                                                · skip
                                                                  exact absurd h1039 (by decide)
                                                                · skip
                                                                  refine lv_iconst (v := nI 0) F.1 F.2.1 dL_law_1042 (by decide) ?_
                                                                  refine lv_goto (tgt := 1047) F.1 F.2.1 dL_law_1043 (by decide) ?_
                                                                  refine lv_icmp_ne (tgt := 1175) F.1 F.2.1 dL_law_1047 (by decide) (fun h1047 => ?_) (fun h1047 => ?_)
                                                                  · skip
                                                                    exact absurd h1047 (by decide)
                                                                  · skip
                                                                    refine lv_iload F.1 F.2.1 dL_law_1050 (lv_at hl 6 rfl) ?_
                                                                    refine k_if_ne (tgt := 1069) F (by omega) dL_law_1052 (by decide) (fun h1052 => ?_) (fun h1052 => ?_)
                                                                    · skip
                                                                      exact absurd h1052 (by decide)
                                                                    · skip
                                                                      refine lv_aload_n F.1 F.2.1 dL_law_1055 rfl (lv_at hl 10 rfl) ?_
                                                                      refine lv_iload F.1 F.2.1 dL_law_1056 (lv_at hl 27 rfl) ?_
                                                                      have ok_17 : r1 ((beatS S) 0 2) (nI u) (nI ((beatS S) 8 (cl (nI u)))) = (0, nI ((beatS S) 8 u)) := by rw [cl_nI (show u < 2 ^ 31 by omega)]; exact r1_y (okI_nI (by omega) (by omega))
                                                                      refine x_tI (n := 1) (rest := []) (v := nI ((beatS S) 8 u)) (w1 := (wCo cI a b (beatS S) S2)) F (c_X3_cornsOf l D cI hst a b (beatS S) S2 (nI u) (by first | exact hI | exact hJ)) (by rw [ok_17]; rfl) (by rw [ok_17]) rfl gL_law_X3_cornsOf rfl (by decide +kernel) ⟨Nat.le_of_ble_eq_true rfl, Nat.le_of_ble_eq_true rfl⟩ rfl hl.1 rfl (Nat.le_of_ble_eq_true rfl) dL_law_1058 ⟨show ce846 + 1 + 1 + 1 + 1 ≤ 600130 by omega, show sl846 + 6 + 6 + 6 + 6 ≤ 7301080 by omega⟩ hK hX hP hD hS (List.append_assoc _ _ _) rfl rfl (((wSi cI cA z (beatS S)) ++ (wCo cI a b (beatS S) S2)) ++ [(q223, .inl (cI, S 0 1, .inl (row (fillN (S 3) (S 0 1))))), (q229, .inl (cI, S 0 1, .inl (row (fillN (S 4) (S 0 1))))), (q235, .inl (cI, S 0 1, .inl (row (fillN (S 5) (S 0 1))))), (q396, .inl (cI, S 0 2, .inl (row (fillN (S 7) (S 0 2))))), (q402, .inl (cI, S 0 2, .inl (row (fillN (S 8) (S 0 2))))), (q408, .inl (cI, S 0 2, .inl (row (fillN (S 9) (S 0 2))))), (q414, .inl (cI, S 0 2, .inl (row (fillN (S 10) (S 0 2)))))]) (List.append_assoc _ _ _).symm (q0 := 0) (ci := 3) rfl rfl (fun H locs hP hD hS => ?_)
                                                                      have := hJ.has u
                                                                      refine lv_aload F.1 F.2.1 dL_law_1061 (lv_at hl 20 rfl) ?_
                                                                      refine lv_iload F.1 F.2.1 dL_law_1063 (lv_at hl 27 rfl) ?_
                                                                      refine q_iald (f := fillN (S 8) (S 0 2)) (v := S 8 u) F hK hP (((wSi cI cA z (beatS S)) ++ (wCo cI a b (beatS S) S2)).length + 4) (app_l rfl) (by omega) (by first | omega | decide) (if_pos (by omega)) dL_law_1065 ?_
                                                                      have := hI.has u
                                                                      refine k_icmp_ne (tgt := 1175) F (by omega) (by omega) dL_law_1066 (by decide) (fun h1066 => ?_) (fun h1066 => ?_)
                                                                      · skip
                                                                        exfalso; omega
                                                                      · skip
                                                                        refine lv_aload_n F.1 F.2.1 dL_law_1069 rfl (lv_at hl 10 rfl) ?_
                                                                        refine lv_iload F.1 F.2.1 dL_law_1070 (lv_at hl 27 rfl) ?_
                                                                        have ok_18 : r1 ((beatS S) 0 2) (nI u) (nI ((beatS S) 9 (cl (nI u)))) = (0, nI ((beatS S) 9 u)) := by rw [cl_nI (show u < 2 ^ 31 by omega)]; exact r1_y (okI_nI (by omega) (by omega))
                                                                        refine x_tI (n := 1) (rest := []) (v := nI ((beatS S) 9 u)) (w1 := (wCo cI a b (beatS S) S2)) F (c_X3_nerveOf l D cI hst a b (beatS S) S2 (nI u) (by first | exact hI | exact hJ)) (by rw [ok_18]; rfl) (by rw [ok_18]) rfl gL_law_X3_nerveOf rfl (by decide +kernel) ⟨Nat.le_of_ble_eq_true rfl, Nat.le_of_ble_eq_true rfl⟩ rfl hl.1 rfl (Nat.le_of_ble_eq_true rfl) dL_law_1072 ⟨show ce846 + 1 + 1 + 1 + 1 + 1 ≤ 600130 by omega, show sl846 + 6 + 6 + 6 + 6 + 6 ≤ 7301080 by omega⟩ hK hX hP hD hS (List.append_assoc _ _ _) rfl rfl (((wSi cI cA z (beatS S)) ++ (wCo cI a b (beatS S) S2)) ++ [(q223, .inl (cI, S 0 1, .inl (row (fillN (S 3) (S 0 1))))), (q229, .inl (cI, S 0 1, .inl (row (fillN (S 4) (S 0 1))))), (q235, .inl (cI, S 0 1, .inl (row (fillN (S 5) (S 0 1))))), (q396, .inl (cI, S 0 2, .inl (row (fillN (S 7) (S 0 2))))), (q402, .inl (cI, S 0 2, .inl (row (fillN (S 8) (S 0 2))))), (q408, .inl (cI, S 0 2, .inl (row (fillN (S 9) (S 0 2))))), (q414, .inl (cI, S 0 2, .inl (row (fillN (S 10) (S 0 2)))))]) (List.append_assoc _ _ _).symm (q0 := 0) (ci := 3) rfl rfl (fun H locs hP hD hS => ?_)
                                                                        have := hJ.brave u
                                                                        refine lv_iload F.1 F.2.1 dL_law_1075 (lv_at hl 5 rfl) ?_
                                                                        refine k_if_eq (tgt := 1095) F (by omega) dL_law_1077 (by decide) (fun h1077 => ?_) (fun h1077 => ?_)
                                                                        · skip
                                                                          refine lv_aload F.1 F.2.1 dL_law_1095 (lv_at hl 21 rfl) ?_
                                                                          refine lv_iload F.1 F.2.1 dL_law_1097 (lv_at hl 27 rfl) ?_
                                                                          refine q_iald (f := fillN (S 9) (S 0 2)) (v := S 9 u) F hK hP (((wSi cI cA z (beatS S)) ++ (wCo cI a b (beatS S) S2)).length + 5) (app_l rfl) (by omega) (by first | omega | decide) (if_pos (by omega)) dL_law_1099 ?_
                                                                          have := hI.brave u
                                                                          refine k_icmp_ne (tgt := 1175) F (by omega) (by omega) dL_law_1100 (by decide) (fun h1100 => ?_) (fun h1100 => ?_)
                                                                          · skip
                                                                            exfalso; omega
                                                                          · skip
                                                                            refine lv_iload F.1 F.2.1 dL_law_1103 (lv_at hl 7 rfl) ?_
                                                                            refine k_if_ne (tgt := 1137) F (by omega) dL_law_1105 (by decide) (fun h1105 => ?_) (fun h1105 => ?_)
                                                                            · skip
                                                                              exact absurd h1105 (by decide)
                                                                            · skip
                                                                              refine lv_iload F.1 F.2.1 dL_law_1108 (lv_at hl 8 rfl) ?_
                                                                              refine lv_iload F.1 F.2.1 dL_law_1110 (lv_at hl 5 rfl) ?_
                                                                              refine k_if_eq (tgt := 1129) F (by omega) dL_law_1112 (by decide) (fun h1112 => ?_) (fun h1112 => ?_)
                                                                              · skip
                                                                                refine lv_aload F.1 F.2.1 dL_law_1129 (lv_at hl 19 rfl) ?_
                                                                                refine lv_iload F.1 F.2.1 dL_law_1131 (lv_at hl 27 rfl) ?_
                                                                                refine q_iald (f := fillN (S 7) (S 0 2)) (v := S 7 u) F hK hP (((wSi cI cA z (beatS S)) ++ (wCo cI a b (beatS S) S2)).length + 3) (app_l rfl) (by omega) (by first | omega | decide) (if_pos (by omega)) dL_law_1133 ?_
                                                                                have := hI.went u
                                                                                refine k_icmp_ne (tgt := 1175) F (by omega) (by omega) dL_law_1134 (by decide) (fun h1134 => ?_) (fun h1134 => ?_)
                                                                                · skip
                                                                                  exfalso; omega
                                                                                · skip
                                                                                  refine lv_iload F.1 F.2.1 dL_law_1137 (lv_at hl 5 rfl) ?_
                                                                                  refine k_if_ne (tgt := 1162) F (by omega) dL_law_1139 (by decide) (fun h1139 => ?_) (fun h1139 => ?_)
                                                                                  · skip
                                                                                    exact absurd h1139 (by decide)
                                                                                  · skip
                                                                                    refine lv_aload_n F.1 F.2.1 dL_law_1142 rfl (lv_at hl 10 rfl) ?_
                                                                                    refine lv_iload F.1 F.2.1 dL_law_1143 (lv_at hl 27 rfl) ?_
                                                                                    have ok_19 : r1 ((beatS S) 0 2) (nI u) (nI ((beatS S) 10 (cl (nI u)))) = (0, nI ((beatS S) 10 u)) := by rw [cl_nI (show u < 2 ^ 31 by omega)]; exact r1_y (okI_nI (by omega) (by omega))
                                                                                    refine x_tI (n := 1) (rest := []) (v := nI ((beatS S) 10 u)) (w1 := (wCo cI a b (beatS S) S2)) F (c_X3_retreatOf l D cI hst a b (beatS S) S2 (nI u) (by first | exact hI | exact hJ)) (by rw [ok_19]; rfl) (by rw [ok_19]) rfl gL_law_X3_retreatOf rfl (by decide +kernel) ⟨Nat.le_of_ble_eq_true rfl, Nat.le_of_ble_eq_true rfl⟩ rfl hl.1 rfl (Nat.le_of_ble_eq_true rfl) dL_law_1145 ⟨show ce846 + 1 + 1 + 1 + 1 + 1 + 1 ≤ 600130 by omega, show sl846 + 6 + 6 + 6 + 6 + 6 + 6 ≤ 7301080 by omega⟩ hK hX hP hD hS (List.append_assoc _ _ _) rfl rfl (((wSi cI cA z (beatS S)) ++ (wCo cI a b (beatS S) S2)) ++ [(q223, .inl (cI, S 0 1, .inl (row (fillN (S 3) (S 0 1))))), (q229, .inl (cI, S 0 1, .inl (row (fillN (S 4) (S 0 1))))), (q235, .inl (cI, S 0 1, .inl (row (fillN (S 5) (S 0 1))))), (q396, .inl (cI, S 0 2, .inl (row (fillN (S 7) (S 0 2))))), (q402, .inl (cI, S 0 2, .inl (row (fillN (S 8) (S 0 2))))), (q408, .inl (cI, S 0 2, .inl (row (fillN (S 9) (S 0 2))))), (q414, .inl (cI, S 0 2, .inl (row (fillN (S 10) (S 0 2)))))]) (List.append_assoc _ _ _).symm (q0 := 0) (ci := 3) rfl rfl (fun H locs hP hD hS => ?_)
                                                                                    have := hJ.back u
                                                                                    refine lv_iconst (v := nI 0) F.1 F.2.1 dL_law_1148 (by decide) ?_
                                                                                    refine lv_aload F.1 F.2.1 dL_law_1149 (lv_at hl 22 rfl) ?_
                                                                                    refine lv_iload F.1 F.2.1 dL_law_1151 (lv_at hl 27 rfl) ?_
                                                                                    refine q_iald (f := fillN (S 10) (S 0 2)) (v := S 10 u) F hK hP (((wSi cI cA z (beatS S)) ++ (wCo cI a b (beatS S) S2)).length + 6) (app_l rfl) (by omega) (by first | omega | decide) (if_pos (by omega)) dL_law_1153 ?_
                                                                                    have := hI.back u
                                                                                    refine lv_iconst (v := nI 1) F.1 F.2.1 dL_law_1154 (by decide) ?_
                                                                                    refine lv_isub F.1 F.2.1 dL_law_1155 ?_
                                                                                    refine k_max0 F hl.1 (List.mem_of_getElem? (i := 8) rfl) (List.mem_of_getElem? (i := 9) rfl) (List.mem_of_getElem? (i := 6) rfl) (List.mem_of_getElem? (i := 10) rfl) (Nat.le_of_ble_eq_true rfl) (Nat.le_of_ble_eq_true rfl) ⟨show ce846 + 1 + 1 + 1 + 1 + 1 + 1 ≤ 600130 by omega, show sl846 + 6 + 6 + 6 + 6 + 6 + 6 ≤ 7301080 by omega⟩ (by omega) (by omega) (by omega) dL_law_1156 ?_
                                                                                    refine k_icmp_ne (tgt := 1175) F (by omega) (by omega) dL_law_1159 (by decide) (fun h1159 => ?_) (fun h1159 => ?_)
                                                                                    · skip
                                                                                      exfalso; omega
                                                                                    · skip
                                                                                      refine lv_iload F.1 F.2.1 dL_law_1162 (lv_at hl 5 rfl) ?_
                                                                                      refine k_if_eq (tgt := 1177) F (by omega) dL_law_1164 (by decide) (fun h1164 => ?_) (fun h1164 => ?_)
                                                                                      · skip
                                                                                        refine k_inc (k := 27) (lv' := [(27, .int (nI (u + 1))), (33, .int (nI 1)), (32, .int (nI 0)), (26, .int (nI (flN S (beatS S) u + 0))), (25, .int (nI (fdN S (beatS S) u + 0))), (24, .int (nI (cmN S (beatS S) u + 0))), (31, .int (nI 0)), (30, .int (nI 0)), (29, .int (nI 0)), (28, .int (nI ((beatS S) 7 u))), (0, .ref x), (1, .ref (a 13)), (2, .ref (z 0)), (3, .int (nI t)), (5, .int (nI (S 0 0))), (6, .int (nI (S 0 1))), (7, .int (nI (S 0 2))), (12, .ref q223), (13, .ref q229), (14, .ref q235), (16, .ref q396), (17, .ref q402), (18, .ref q408), (19, .ref q414), (20, .int (nI (S 0 4))), (21, .int (nI (S 0 5))), (22, .int (nI (S 0 3))), (23, .int (cameI S 1))]) F dL_law_1177 hl rfl (by decide) rfl (fun ls hl => ?_)
                                                                                        refine lv_goto (tgt := 846) F.1 F.2.1 dL_law_1180 (by decide) ?_
                                                                                        have e_20 : (cmN S (beatS S) u + 0) = cmN S (beatS S) (u + 1) := by show cmN S (beatS S) u = _; rw [show cmN S (beatS S) (u + 1) = if (beatS S) 7 u = S 7 u + 1 ∧ (beatS S) 7 u = S 0 0 then cmN S (beatS S) u + 1 else cmN S (beatS S) u from rfl, if_neg (by omega)]
                                                                                        rw [e_20] at hl
                                                                                        have e_21 : (fdN S (beatS S) u + 0) = fdN S (beatS S) (u + 1) := by show fdN S (beatS S) u = _; rw [show fdN S (beatS S) (u + 1) = if (beatS S) 8 u + 1 = S 8 u then fdN S (beatS S) u + 1 else fdN S (beatS S) u from rfl, if_neg (by omega)]
                                                                                        rw [e_21] at hl
                                                                                        have e_22 : (flN S (beatS S) u + 0) = flN S (beatS S) (u + 1) := by show flN S (beatS S) u = _; rw [show flN S (beatS S) (u + 1) = if S 10 u < (beatS S) 10 u then flN S (beatS S) u + 1 else flN S (beatS S) u from rfl, if_neg (by omega)]
                                                                                        rw [e_22] at hl
                                                                                        exact ih846 (u + 1) (by omega) (by omega)  (ce846 + 1 + 1 + 1 + 1 + 1 + 1) (sl846 + 6 + 6 + 6 + 6 + 6 + 6) (by omega) (by omega) _ _ _ hP hD hS (lv_sub hl [10, 11, 12, 13, 14, 15, 16, 17, 18, 19, 20, 21, 22, 23, 24, 25, 26, 27, 5, 4, 3, 0] rfl)
                                                                                      · skip
                                                                                        exact absurd h1164 (by decide)
                                                                              · skip
                                                                                exact absurd h1112 (by decide)
                                                                        · skip
                                                                          exact absurd h1077 (by decide)
                                                          · skip
                                                            exact absurd h999 (by decide)
                                                        · skip
                                                          exact absurd h988 (by decide)
                                                      · skip
                                                        exact absurd h978 (by decide)
                                                    · skip
                                                      exact absurd h965 (by decide)
                                                  · skip
                                                    exact absurd h950 (by decide)
                                                · skip
                                                  exact absurd h928 (by decide)
                                              · skip
                                                exfalso; omega
                                            · skip
                                              exfalso; omega
                                          · skip
                                            exfalso; omega
                                        · skip
                                          refine lv_aload_n F.1 F.2.1 dL_law_853 rfl (lv_at hl 1 rfl) ?_
                                          refine lv_iload F.1 F.2.1 dL_law_854 (lv_at hl 21 rfl) ?_
                                          have ok_23 : r1 ((beatS S) 0 2) (nI u) (nI ((beatS S) 7 (cl (nI u)))) = (0, nI ((beatS S) 7 u)) := by rw [cl_nI (show u < 2 ^ 31 by omega)]; exact r1_y (okI_nI (by omega) (by omega))
                                          refine x_tI (n := 1) (rest := []) (v := nI ((beatS S) 7 u)) (w1 := (wCo cI a b (beatS S) S2)) F (c_X3_passedBy l D cI hst a b (beatS S) S2 (nI u) (by first | exact hI | exact hJ)) (by rw [ok_23]; rfl) (by rw [ok_23]) rfl gL_law_X3_passedBy rfl (by decide +kernel) ⟨Nat.le_of_ble_eq_true rfl, Nat.le_of_ble_eq_true rfl⟩ rfl hl.1 rfl (Nat.le_of_ble_eq_true rfl) dL_law_856 ⟨show ce846 + 1 ≤ 600130 by omega, show sl846 + 6 ≤ 7301080 by omega⟩ hK hX hP hD hS (List.append_assoc _ _ _) rfl rfl (((wSi cI cA z (beatS S)) ++ (wCo cI a b (beatS S) S2)) ++ [(q223, .inl (cI, S 0 1, .inl (row (fillN (S 3) (S 0 1))))), (q229, .inl (cI, S 0 1, .inl (row (fillN (S 4) (S 0 1))))), (q235, .inl (cI, S 0 1, .inl (row (fillN (S 5) (S 0 1))))), (q396, .inl (cI, S 0 2, .inl (row (fillN (S 7) (S 0 2))))), (q402, .inl (cI, S 0 2, .inl (row (fillN (S 8) (S 0 2))))), (q408, .inl (cI, S 0 2, .inl (row (fillN (S 9) (S 0 2))))), (q414, .inl (cI, S 0 2, .inl (row (fillN (S 10) (S 0 2)))))]) (List.append_assoc _ _ _).symm (q0 := 0) (ci := 3) rfl rfl (fun H locs hP hD hS => ?_)
                                          have := hJ.went u
                                          refine lv_istore (lv' := [(28, .int (nI ((beatS S) 7 u))), (0, .ref x), (1, .ref (a 13)), (2, .ref (z 0)), (3, .int (nI t)), (5, .int (nI (S 0 0))), (6, .int (nI (S 0 1))), (7, .int (nI (S 0 2))), (12, .ref q223), (13, .ref q229), (14, .ref q235), (16, .ref q396), (17, .ref q402), (18, .ref q408), (19, .ref q414), (20, .int (nI (S 0 4))), (21, .int (nI (S 0 5))), (22, .int (nI (S 0 3))), (23, .int (cameI S 1)), (24, .int (nI (cmN S (beatS S) u))), (25, .int (nI (fdN S (beatS S) u))), (26, .int (nI (flN S (beatS S) u))), (27, .int (nI u))]) F.1 F.2.1 dL_law_859 hl (by decide) rfl (fun ls hl => ?_)
                                          refine lv_iload F.1 F.2.1 dL_law_861 (lv_at hl 0 rfl) ?_
                                          refine lv_aload F.1 F.2.1 dL_law_863 (lv_at hl 11 rfl) ?_
                                          refine lv_iload F.1 F.2.1 dL_law_865 (lv_at hl 22 rfl) ?_
                                          refine q_iald (f := fillN (S 7) (S 0 2)) (v := S 7 u) F hK hP (((wSi cI cA z (beatS S)) ++ (wCo cI a b (beatS S) S2)).length + 3) (app_l rfl) (by omega) (by first | omega | decide) (if_pos (by omega)) dL_law_867 ?_
                                          have := hI.went u
                                          refine lv_iconst (v := nI 1) F.1 F.2.1 dL_law_868 (by decide) ?_
                                          refine k_iadd F dL_law_869 ?_
                                          refine k_icmp_ne (tgt := 877) F (by omega) (by omega) dL_law_870 (by decide) (fun h870 => ?_) (fun h870 => ?_)
                                          · skip
                                            exfalso; omega
                                          · skip
                                            refine lv_iconst (v := nI 1) F.1 F.2.1 dL_law_873 (by decide) ?_
                                            refine lv_goto (tgt := 878) F.1 F.2.1 dL_law_874 (by decide) ?_
                                            refine lv_istore (lv' := [(29, .int (nI 1)), (28, .int (nI ((beatS S) 7 u))), (0, .ref x), (1, .ref (a 13)), (2, .ref (z 0)), (3, .int (nI t)), (5, .int (nI (S 0 0))), (6, .int (nI (S 0 1))), (7, .int (nI (S 0 2))), (12, .ref q223), (13, .ref q229), (14, .ref q235), (16, .ref q396), (17, .ref q402), (18, .ref q408), (19, .ref q414), (20, .int (nI (S 0 4))), (21, .int (nI (S 0 5))), (22, .int (nI (S 0 3))), (23, .int (cameI S 1)), (24, .int (nI (cmN S (beatS S) u))), (25, .int (nI (fdN S (beatS S) u))), (26, .int (nI (flN S (beatS S) u))), (27, .int (nI u))]) F.1 F.2.1 dL_law_878 hl (by decide) rfl (fun ls hl => ?_)
                                            refine lv_aload_n F.1 F.2.1 dL_law_880 rfl (lv_at hl 3 rfl) ?_
                                            refine lv_iload F.1 F.2.1 dL_law_881 (lv_at hl 23 rfl) ?_
                                            have ok_24 : r1 ((beatS S) 0 2) (nI u) (nI ((beatS S) 8 (cl (nI u)))) = (0, nI ((beatS S) 8 u)) := by rw [cl_nI (show u < 2 ^ 31 by omega)]; exact r1_y (okI_nI (by omega) (by omega))
                                            refine x_tI (n := 1) (rest := []) (v := nI ((beatS S) 8 u)) (w1 := (wCo cI a b (beatS S) S2)) F (c_X3_cornsOf l D cI hst a b (beatS S) S2 (nI u) (by first | exact hI | exact hJ)) (by rw [ok_24]; rfl) (by rw [ok_24]) rfl gL_law_X3_cornsOf rfl (by decide +kernel) ⟨Nat.le_of_ble_eq_true rfl, Nat.le_of_ble_eq_true rfl⟩ rfl hl.1 rfl (Nat.le_of_ble_eq_true rfl) dL_law_883 ⟨show ce846 + 1 + 1 ≤ 600130 by omega, show sl846 + 6 + 6 ≤ 7301080 by omega⟩ hK hX hP hD hS (List.append_assoc _ _ _) rfl rfl (((wSi cI cA z (beatS S)) ++ (wCo cI a b (beatS S) S2)) ++ [(q223, .inl (cI, S 0 1, .inl (row (fillN (S 3) (S 0 1))))), (q229, .inl (cI, S 0 1, .inl (row (fillN (S 4) (S 0 1))))), (q235, .inl (cI, S 0 1, .inl (row (fillN (S 5) (S 0 1))))), (q396, .inl (cI, S 0 2, .inl (row (fillN (S 7) (S 0 2))))), (q402, .inl (cI, S 0 2, .inl (row (fillN (S 8) (S 0 2))))), (q408, .inl (cI, S 0 2, .inl (row (fillN (S 9) (S 0 2))))), (q414, .inl (cI, S 0 2, .inl (row (fillN (S 10) (S 0 2)))))]) (List.append_assoc _ _ _).symm (q0 := 0) (ci := 3) rfl rfl (fun H locs hP hD hS => ?_)
                                            have := hJ.has u
                                            refine lv_aload F.1 F.2.1 dL_law_886 (lv_at hl 13 rfl) ?_
                                            refine lv_iload F.1 F.2.1 dL_law_888 (lv_at hl 23 rfl) ?_
                                            refine q_iald (f := fillN (S 8) (S 0 2)) (v := S 8 u) F hK hP (((wSi cI cA z (beatS S)) ++ (wCo cI a b (beatS S) S2)).length + 4) (app_l rfl) (by omega) (by first | omega | decide) (if_pos (by omega)) dL_law_890 ?_
                                            have := hI.has u
                                            refine lv_iconst (v := nI 1) F.1 F.2.1 dL_law_891 (by decide) ?_
                                            refine lv_isub F.1 F.2.1 dL_law_892 ?_
                                            refine k_ne_m1 (tgt := 900) F (by omega) (by omega) dL_law_893 (by decide) (fun h893 => ?_) (fun h893 => ?_)
                                            · skip
                                              refine lv_iconst (v := nI 0) F.1 F.2.1 dL_law_900 (by decide) ?_
                                              refine lv_istore (lv' := [(30, .int (nI 0)), (29, .int (nI 1)), (28, .int (nI ((beatS S) 7 u))), (0, .ref x), (1, .ref (a 13)), (2, .ref (z 0)), (3, .int (nI t)), (5, .int (nI (S 0 0))), (6, .int (nI (S 0 1))), (7, .int (nI (S 0 2))), (12, .ref q223), (13, .ref q229), (14, .ref q235), (16, .ref q396), (17, .ref q402), (18, .ref q408), (19, .ref q414), (20, .int (nI (S 0 4))), (21, .int (nI (S 0 5))), (22, .int (nI (S 0 3))), (23, .int (cameI S 1)), (24, .int (nI (cmN S (beatS S) u))), (25, .int (nI (fdN S (beatS S) u))), (26, .int (nI (flN S (beatS S) u))), (27, .int (nI u))]) F.1 F.2.1 dL_law_901 hl (by decide) rfl (fun ls hl => ?_)
                                              refine lv_aload_n F.1 F.2.1 dL_law_903 rfl (lv_at hl 4 rfl) ?_
                                              refine lv_iload F.1 F.2.1 dL_law_904 (lv_at hl 24 rfl) ?_
                                              have ok_25 : r1 ((beatS S) 0 2) (nI u) (nI ((beatS S) 10 (cl (nI u)))) = (0, nI ((beatS S) 10 u)) := by rw [cl_nI (show u < 2 ^ 31 by omega)]; exact r1_y (okI_nI (by omega) (by omega))
                                              refine x_tI (n := 1) (rest := []) (v := nI ((beatS S) 10 u)) (w1 := (wCo cI a b (beatS S) S2)) F (c_X3_retreatOf l D cI hst a b (beatS S) S2 (nI u) (by first | exact hI | exact hJ)) (by rw [ok_25]; rfl) (by rw [ok_25]) rfl gL_law_X3_retreatOf rfl (by decide +kernel) ⟨Nat.le_of_ble_eq_true rfl, Nat.le_of_ble_eq_true rfl⟩ rfl hl.1 rfl (Nat.le_of_ble_eq_true rfl) dL_law_906 ⟨show ce846 + 1 + 1 + 1 ≤ 600130 by omega, show sl846 + 6 + 6 + 6 ≤ 7301080 by omega⟩ hK hX hP hD hS (List.append_assoc _ _ _) rfl rfl (((wSi cI cA z (beatS S)) ++ (wCo cI a b (beatS S) S2)) ++ [(q223, .inl (cI, S 0 1, .inl (row (fillN (S 3) (S 0 1))))), (q229, .inl (cI, S 0 1, .inl (row (fillN (S 4) (S 0 1))))), (q235, .inl (cI, S 0 1, .inl (row (fillN (S 5) (S 0 1))))), (q396, .inl (cI, S 0 2, .inl (row (fillN (S 7) (S 0 2))))), (q402, .inl (cI, S 0 2, .inl (row (fillN (S 8) (S 0 2))))), (q408, .inl (cI, S 0 2, .inl (row (fillN (S 9) (S 0 2))))), (q414, .inl (cI, S 0 2, .inl (row (fillN (S 10) (S 0 2)))))]) (List.append_assoc _ _ _).symm (q0 := 0) (ci := 3) rfl rfl (fun H locs hP hD hS => ?_)
                                              have := hJ.back u
                                              refine lv_aload F.1 F.2.1 dL_law_909 (lv_at hl 16 rfl) ?_
                                              refine lv_iload F.1 F.2.1 dL_law_911 (lv_at hl 24 rfl) ?_
                                              refine q_iald (f := fillN (S 10) (S 0 2)) (v := S 10 u) F hK hP (((wSi cI cA z (beatS S)) ++ (wCo cI a b (beatS S) S2)).length + 6) (app_l rfl) (by omega) (by first | omega | decide) (if_pos (by omega)) dL_law_913 ?_
                                              have := hI.back u
                                              refine k_icmp_le (tgt := 921) F (by omega) (by omega) dL_law_914 (by decide) (fun h914 => ?_) (fun h914 => ?_)
                                              · skip
                                                refine lv_iconst (v := nI 0) F.1 F.2.1 dL_law_921 (by decide) ?_
                                                refine lv_istore (lv' := [(31, .int (nI 0)), (30, .int (nI 0)), (29, .int (nI 1)), (28, .int (nI ((beatS S) 7 u))), (0, .ref x), (1, .ref (a 13)), (2, .ref (z 0)), (3, .int (nI t)), (5, .int (nI (S 0 0))), (6, .int (nI (S 0 1))), (7, .int (nI (S 0 2))), (12, .ref q223), (13, .ref q229), (14, .ref q235), (16, .ref q396), (17, .ref q402), (18, .ref q408), (19, .ref q414), (20, .int (nI (S 0 4))), (21, .int (nI (S 0 5))), (22, .int (nI (S 0 3))), (23, .int (cameI S 1)), (24, .int (nI (cmN S (beatS S) u))), (25, .int (nI (fdN S (beatS S) u))), (26, .int (nI (flN S (beatS S) u))), (27, .int (nI u))]) F.1 F.2.1 dL_law_922 hl (by decide) rfl (fun ls hl => ?_)
                                                refine lv_iload F.1 F.2.1 dL_law_924 (lv_at hl 22 rfl) ?_
                                                refine lv_iload F.1 F.2.1 dL_law_926 (lv_at hl 2 rfl) ?_
                                                refine k_if_eq (tgt := 942) F (by omega) dL_law_928 (by decide) (fun h928 => ?_) (fun h928 => ?_)
                                                · skip
                                                  exact absurd h928 (by decide)
                                                · skip
                                                  refine lv_iload F.1 F.2.1 dL_law_931 (lv_at hl 3 rfl) ?_
                                                  refine lv_iload F.1 F.2.1 dL_law_933 (lv_at hl 8 rfl) ?_
                                                  refine k_icmp_ne (tgt := 942) F (by omega) (by omega) dL_law_935 (by decide) (fun h935 => ?_) (fun h935 => ?_)
                                                  · skip
                                                    refine lv_iconst (v := nI 0) F.1 F.2.1 dL_law_942 (by decide) ?_
                                                    refine k_iadd F dL_law_943 ?_
                                                    refine lv_istore (lv' := [(24, .int (nI (cmN S (beatS S) u + 0))), (31, .int (nI 0)), (30, .int (nI 0)), (29, .int (nI 1)), (28, .int (nI ((beatS S) 7 u))), (0, .ref x), (1, .ref (a 13)), (2, .ref (z 0)), (3, .int (nI t)), (5, .int (nI (S 0 0))), (6, .int (nI (S 0 1))), (7, .int (nI (S 0 2))), (12, .ref q223), (13, .ref q229), (14, .ref q235), (16, .ref q396), (17, .ref q402), (18, .ref q408), (19, .ref q414), (20, .int (nI (S 0 4))), (21, .int (nI (S 0 5))), (22, .int (nI (S 0 3))), (23, .int (cameI S 1)), (25, .int (nI (fdN S (beatS S) u))), (26, .int (nI (flN S (beatS S) u))), (27, .int (nI u))]) F.1 F.2.1 dL_law_944 hl (by decide) rfl (fun ls hl => ?_)
                                                    refine lv_iload F.1 F.2.1 dL_law_946 (lv_at hl 23 rfl) ?_
                                                    refine lv_iload F.1 F.2.1 dL_law_948 (lv_at hl 2 rfl) ?_
                                                    refine k_if_eq (tgt := 957) F (by omega) dL_law_950 (by decide) (fun h950 => ?_) (fun h950 => ?_)
                                                    · skip
                                                      refine lv_iconst (v := nI 0) F.1 F.2.1 dL_law_957 (by decide) ?_
                                                      refine k_iadd F dL_law_958 ?_
                                                      refine lv_istore (lv' := [(25, .int (nI (fdN S (beatS S) u + 0))), (24, .int (nI (cmN S (beatS S) u + 0))), (31, .int (nI 0)), (30, .int (nI 0)), (29, .int (nI 1)), (28, .int (nI ((beatS S) 7 u))), (0, .ref x), (1, .ref (a 13)), (2, .ref (z 0)), (3, .int (nI t)), (5, .int (nI (S 0 0))), (6, .int (nI (S 0 1))), (7, .int (nI (S 0 2))), (12, .ref q223), (13, .ref q229), (14, .ref q235), (16, .ref q396), (17, .ref q402), (18, .ref q408), (19, .ref q414), (20, .int (nI (S 0 4))), (21, .int (nI (S 0 5))), (22, .int (nI (S 0 3))), (23, .int (cameI S 1)), (26, .int (nI (flN S (beatS S) u))), (27, .int (nI u))]) F.1 F.2.1 dL_law_959 hl (by decide) rfl (fun ls hl => ?_)
                                                      refine lv_iload F.1 F.2.1 dL_law_961 (lv_at hl 24 rfl) ?_
                                                      refine lv_iload F.1 F.2.1 dL_law_963 (lv_at hl 2 rfl) ?_
                                                      refine k_if_eq (tgt := 972) F (by omega) dL_law_965 (by decide) (fun h965 => ?_) (fun h965 => ?_)
                                                      · skip
                                                        refine lv_iconst (v := nI 0) F.1 F.2.1 dL_law_972 (by decide) ?_
                                                        refine k_iadd F dL_law_973 ?_
                                                        refine lv_istore (lv' := [(26, .int (nI (flN S (beatS S) u + 0))), (25, .int (nI (fdN S (beatS S) u + 0))), (24, .int (nI (cmN S (beatS S) u + 0))), (31, .int (nI 0)), (30, .int (nI 0)), (29, .int (nI 1)), (28, .int (nI ((beatS S) 7 u))), (0, .ref x), (1, .ref (a 13)), (2, .ref (z 0)), (3, .int (nI t)), (5, .int (nI (S 0 0))), (6, .int (nI (S 0 1))), (7, .int (nI (S 0 2))), (12, .ref q223), (13, .ref q229), (14, .ref q235), (16, .ref q396), (17, .ref q402), (18, .ref q408), (19, .ref q414), (20, .int (nI (S 0 4))), (21, .int (nI (S 0 5))), (22, .int (nI (S 0 3))), (23, .int (cameI S 1)), (27, .int (nI u))]) F.1 F.2.1 dL_law_974 hl (by decide) rfl (fun ls hl => ?_)
                                                        refine lv_iload F.1 F.2.1 dL_law_976 (lv_at hl 5 rfl) ?_
                                                        refine k_if_eq (tgt := 985) F (by omega) dL_law_978 (by decide) (fun h978 => ?_) (fun h978 => ?_)
                                                        · skip
                                                          exact absurd h978 (by decide)
                                                        · skip
                                                          refine lv_iconst (v := nI 1) F.1 F.2.1 dL_law_981 (by decide) ?_
                                                          refine lv_goto (tgt := 986) F.1 F.2.1 dL_law_982 (by decide) ?_
                                                          refine lv_iload F.1 F.2.1 dL_law_986 (lv_at hl 4 rfl) ?_
                                                          refine k_if_eq (tgt := 995) F (by omega) dL_law_988 (by decide) (fun h988 => ?_) (fun h988 => ?_)
                                                          · skip
                                                            refine lv_iconst (v := nI 0) F.1 F.2.1 dL_law_995 (by decide) ?_
                                                            refine k_iadd F dL_law_996 ?_
                                                            refine lv_iload F.1 F.2.1 dL_law_997 (lv_at hl 3 rfl) ?_
                                                            refine k_if_eq (tgt := 1006) F (by omega) dL_law_999 (by decide) (fun h999 => ?_) (fun h999 => ?_)
                                                            · skip
                                                              refine lv_iconst (v := nI 0) F.1 F.2.1 dL_law_1006 (by decide) ?_
                                                              refine k_iadd F dL_law_1007 ?_
                                                              refine lv_istore (lv' := [(32, .int (nI 1)), (26, .int (nI (flN S (beatS S) u + 0))), (25, .int (nI (fdN S (beatS S) u + 0))), (24, .int (nI (cmN S (beatS S) u + 0))), (31, .int (nI 0)), (30, .int (nI 0)), (29, .int (nI 1)), (28, .int (nI ((beatS S) 7 u))), (0, .ref x), (1, .ref (a 13)), (2, .ref (z 0)), (3, .int (nI t)), (5, .int (nI (S 0 0))), (6, .int (nI (S 0 1))), (7, .int (nI (S 0 2))), (12, .ref q223), (13, .ref q229), (14, .ref q235), (16, .ref q396), (17, .ref q402), (18, .ref q408), (19, .ref q414), (20, .int (nI (S 0 4))), (21, .int (nI (S 0 5))), (22, .int (nI (S 0 3))), (23, .int (cameI S 1)), (27, .int (nI u))]) F.1 F.2.1 dL_law_1008 hl (by decide) rfl (fun ls hl => ?_)
                                                              refine lv_aload F.1 F.2.1 dL_law_1010 (lv_at hl 18 rfl) ?_
                                                              refine lv_iload F.1 F.2.1 dL_law_1012 (lv_at hl 26 rfl) ?_
                                                              refine q_iald (f := fillN (S 7) (S 0 2)) (v := S 7 u) F hK hP (((wSi cI cA z (beatS S)) ++ (wCo cI a b (beatS S) S2)).length + 3) (app_l rfl) (by omega) (by first | omega | decide) (if_pos (by omega)) dL_law_1014 ?_
                                                              have := hI.went u
                                                              refine lv_iload F.1 F.2.1 dL_law_1015 (lv_at hl 12 rfl) ?_
                                                              refine k_icmp_eq (tgt := 1028) F (by omega) (by omega) dL_law_1017 (by decide) (fun h1017 => ?_) (fun h1017 => ?_)
                                                              · skip
                                                                exfalso; omega
                                                              · skip
                                                                refine lv_aload F.1 F.2.1 dL_law_1020 (lv_at hl 21 rfl) ?_
                                                                refine lv_iload F.1 F.2.1 dL_law_1022 (lv_at hl 26 rfl) ?_
                                                                refine q_iald (f := fillN (S 10) (S 0 2)) (v := S 10 u) F hK hP (((wSi cI cA z (beatS S)) ++ (wCo cI a b (beatS S) S2)).length + 6) (app_l rfl) (by omega) (by first | omega | decide) (if_pos (by omega)) dL_law_1024 ?_
                                                                have := hI.back u
                                                                refine k_if_le (tgt := 1032) F (by omega) dL_law_1025 (by decide) (fun h1025 => ?_) (fun h1025 => ?_)
                                                                · skip
                                                                  refine lv_iconst (v := nI 0) F.1 F.2.1 dL_law_1032 (by decide) ?_
                                                                  refine lv_istore (lv' := [(33, .int (nI 0)), (32, .int (nI 1)), (26, .int (nI (flN S (beatS S) u + 0))), (25, .int (nI (fdN S (beatS S) u + 0))), (24, .int (nI (cmN S (beatS S) u + 0))), (31, .int (nI 0)), (30, .int (nI 0)), (29, .int (nI 1)), (28, .int (nI ((beatS S) 7 u))), (0, .ref x), (1, .ref (a 13)), (2, .ref (z 0)), (3, .int (nI t)), (5, .int (nI (S 0 0))), (6, .int (nI (S 0 1))), (7, .int (nI (S 0 2))), (12, .ref q223), (13, .ref q229), (14, .ref q235), (16, .ref q396), (17, .ref q402), (18, .ref q408), (19, .ref q414), (20, .int (nI (S 0 4))), (21, .int (nI (S 0 5))), (22, .int (nI (S 0 3))), (23, .int (cameI S 1)), (27, .int (nI u))]) F.1 F.2.1 dL_law_1033 hl (by decide) rfl (fun ls hl => ?_)
                                                                  refine lv_iload F.1 F.2.1 dL_law_1035 (lv_at hl 1 rfl) ?_
                                                                  refine lv_iload F.1 F.2.1 dL_law_1037 (lv_at hl 0 rfl) ?_
                                                                  refine k_if_eq (tgt := 1046) F (by omega) dL_law_1039 (by decide) (fun h1039 => ?_) (fun h1039 => ?_)
                                                                  · skip
                                                                    refine lv_iconst (v := nI 1) F.1 F.2.1 dL_law_1046 (by decide) ?_
                                                                    refine lv_icmp_ne (tgt := 1175) F.1 F.2.1 dL_law_1047 (by decide) (fun h1047 => ?_) (fun h1047 => ?_)
                                                                    · skip
                                                                      exact absurd h1047 (by decide)
                                                                    · skip
                                                                      refine lv_iload F.1 F.2.1 dL_law_1050 (lv_at hl 6 rfl) ?_
                                                                      refine k_if_ne (tgt := 1069) F (by omega) dL_law_1052 (by decide) (fun h1052 => ?_) (fun h1052 => ?_)
                                                                      · skip
                                                                        exact absurd h1052 (by decide)
                                                                      · skip
                                                                        refine lv_aload_n F.1 F.2.1 dL_law_1055 rfl (lv_at hl 10 rfl) ?_
                                                                        refine lv_iload F.1 F.2.1 dL_law_1056 (lv_at hl 27 rfl) ?_
                                                                        have ok_26 : r1 ((beatS S) 0 2) (nI u) (nI ((beatS S) 8 (cl (nI u)))) = (0, nI ((beatS S) 8 u)) := by rw [cl_nI (show u < 2 ^ 31 by omega)]; exact r1_y (okI_nI (by omega) (by omega))
                                                                        refine x_tI (n := 1) (rest := []) (v := nI ((beatS S) 8 u)) (w1 := (wCo cI a b (beatS S) S2)) F (c_X3_cornsOf l D cI hst a b (beatS S) S2 (nI u) (by first | exact hI | exact hJ)) (by rw [ok_26]; rfl) (by rw [ok_26]) rfl gL_law_X3_cornsOf rfl (by decide +kernel) ⟨Nat.le_of_ble_eq_true rfl, Nat.le_of_ble_eq_true rfl⟩ rfl hl.1 rfl (Nat.le_of_ble_eq_true rfl) dL_law_1058 ⟨show ce846 + 1 + 1 + 1 + 1 ≤ 600130 by omega, show sl846 + 6 + 6 + 6 + 6 ≤ 7301080 by omega⟩ hK hX hP hD hS (List.append_assoc _ _ _) rfl rfl (((wSi cI cA z (beatS S)) ++ (wCo cI a b (beatS S) S2)) ++ [(q223, .inl (cI, S 0 1, .inl (row (fillN (S 3) (S 0 1))))), (q229, .inl (cI, S 0 1, .inl (row (fillN (S 4) (S 0 1))))), (q235, .inl (cI, S 0 1, .inl (row (fillN (S 5) (S 0 1))))), (q396, .inl (cI, S 0 2, .inl (row (fillN (S 7) (S 0 2))))), (q402, .inl (cI, S 0 2, .inl (row (fillN (S 8) (S 0 2))))), (q408, .inl (cI, S 0 2, .inl (row (fillN (S 9) (S 0 2))))), (q414, .inl (cI, S 0 2, .inl (row (fillN (S 10) (S 0 2)))))]) (List.append_assoc _ _ _).symm (q0 := 0) (ci := 3) rfl rfl (fun H locs hP hD hS => ?_)
                                                                        have := hJ.has u
                                                                        refine lv_aload F.1 F.2.1 dL_law_1061 (lv_at hl 20 rfl) ?_
                                                                        refine lv_iload F.1 F.2.1 dL_law_1063 (lv_at hl 27 rfl) ?_
                                                                        refine q_iald (f := fillN (S 8) (S 0 2)) (v := S 8 u) F hK hP (((wSi cI cA z (beatS S)) ++ (wCo cI a b (beatS S) S2)).length + 4) (app_l rfl) (by omega) (by first | omega | decide) (if_pos (by omega)) dL_law_1065 ?_
                                                                        have := hI.has u
                                                                        refine k_icmp_ne (tgt := 1175) F (by omega) (by omega) dL_law_1066 (by decide) (fun h1066 => ?_) (fun h1066 => ?_)
                                                                        · skip
                                                                          exfalso; omega
                                                                        · skip
                                                                          refine lv_aload_n F.1 F.2.1 dL_law_1069 rfl (lv_at hl 10 rfl) ?_
                                                                          refine lv_iload F.1 F.2.1 dL_law_1070 (lv_at hl 27 rfl) ?_
                                                                          have ok_27 : r1 ((beatS S) 0 2) (nI u) (nI ((beatS S) 9 (cl (nI u)))) = (0, nI ((beatS S) 9 u)) := by rw [cl_nI (show u < 2 ^ 31 by omega)]; exact r1_y (okI_nI (by omega) (by omega))
                                                                          refine x_tI (n := 1) (rest := []) (v := nI ((beatS S) 9 u)) (w1 := (wCo cI a b (beatS S) S2)) F (c_X3_nerveOf l D cI hst a b (beatS S) S2 (nI u) (by first | exact hI | exact hJ)) (by rw [ok_27]; rfl) (by rw [ok_27]) rfl gL_law_X3_nerveOf rfl (by decide +kernel) ⟨Nat.le_of_ble_eq_true rfl, Nat.le_of_ble_eq_true rfl⟩ rfl hl.1 rfl (Nat.le_of_ble_eq_true rfl) dL_law_1072 ⟨show ce846 + 1 + 1 + 1 + 1 + 1 ≤ 600130 by omega, show sl846 + 6 + 6 + 6 + 6 + 6 ≤ 7301080 by omega⟩ hK hX hP hD hS (List.append_assoc _ _ _) rfl rfl (((wSi cI cA z (beatS S)) ++ (wCo cI a b (beatS S) S2)) ++ [(q223, .inl (cI, S 0 1, .inl (row (fillN (S 3) (S 0 1))))), (q229, .inl (cI, S 0 1, .inl (row (fillN (S 4) (S 0 1))))), (q235, .inl (cI, S 0 1, .inl (row (fillN (S 5) (S 0 1))))), (q396, .inl (cI, S 0 2, .inl (row (fillN (S 7) (S 0 2))))), (q402, .inl (cI, S 0 2, .inl (row (fillN (S 8) (S 0 2))))), (q408, .inl (cI, S 0 2, .inl (row (fillN (S 9) (S 0 2))))), (q414, .inl (cI, S 0 2, .inl (row (fillN (S 10) (S 0 2)))))]) (List.append_assoc _ _ _).symm (q0 := 0) (ci := 3) rfl rfl (fun H locs hP hD hS => ?_)
                                                                          have := hJ.brave u
                                                                          refine lv_iload F.1 F.2.1 dL_law_1075 (lv_at hl 5 rfl) ?_
                                                                          refine k_if_eq (tgt := 1095) F (by omega) dL_law_1077 (by decide) (fun h1077 => ?_) (fun h1077 => ?_)
                                                                          · skip
                                                                            refine lv_aload F.1 F.2.1 dL_law_1095 (lv_at hl 21 rfl) ?_
                                                                            refine lv_iload F.1 F.2.1 dL_law_1097 (lv_at hl 27 rfl) ?_
                                                                            refine q_iald (f := fillN (S 9) (S 0 2)) (v := S 9 u) F hK hP (((wSi cI cA z (beatS S)) ++ (wCo cI a b (beatS S) S2)).length + 5) (app_l rfl) (by omega) (by first | omega | decide) (if_pos (by omega)) dL_law_1099 ?_
                                                                            have := hI.brave u
                                                                            refine k_icmp_ne (tgt := 1175) F (by omega) (by omega) dL_law_1100 (by decide) (fun h1100 => ?_) (fun h1100 => ?_)
                                                                            · skip
                                                                              exfalso; omega
                                                                            · skip
                                                                              refine lv_iload F.1 F.2.1 dL_law_1103 (lv_at hl 7 rfl) ?_
                                                                              refine k_if_ne (tgt := 1137) F (by omega) dL_law_1105 (by decide) (fun h1105 => ?_) (fun h1105 => ?_)
                                                                              · skip
                                                                                refine lv_iload F.1 F.2.1 dL_law_1137 (lv_at hl 5 rfl) ?_
                                                                                refine k_if_ne (tgt := 1162) F (by omega) dL_law_1139 (by decide) (fun h1139 => ?_) (fun h1139 => ?_)
                                                                                · skip
                                                                                  exact absurd h1139 (by decide)
                                                                                · skip
                                                                                  refine lv_aload_n F.1 F.2.1 dL_law_1142 rfl (lv_at hl 10 rfl) ?_
                                                                                  refine lv_iload F.1 F.2.1 dL_law_1143 (lv_at hl 27 rfl) ?_
                                                                                  have ok_28 : r1 ((beatS S) 0 2) (nI u) (nI ((beatS S) 10 (cl (nI u)))) = (0, nI ((beatS S) 10 u)) := by rw [cl_nI (show u < 2 ^ 31 by omega)]; exact r1_y (okI_nI (by omega) (by omega))
                                                                                  refine x_tI (n := 1) (rest := []) (v := nI ((beatS S) 10 u)) (w1 := (wCo cI a b (beatS S) S2)) F (c_X3_retreatOf l D cI hst a b (beatS S) S2 (nI u) (by first | exact hI | exact hJ)) (by rw [ok_28]; rfl) (by rw [ok_28]) rfl gL_law_X3_retreatOf rfl (by decide +kernel) ⟨Nat.le_of_ble_eq_true rfl, Nat.le_of_ble_eq_true rfl⟩ rfl hl.1 rfl (Nat.le_of_ble_eq_true rfl) dL_law_1145 ⟨show ce846 + 1 + 1 + 1 + 1 + 1 + 1 ≤ 600130 by omega, show sl846 + 6 + 6 + 6 + 6 + 6 + 6 ≤ 7301080 by omega⟩ hK hX hP hD hS (List.append_assoc _ _ _) rfl rfl (((wSi cI cA z (beatS S)) ++ (wCo cI a b (beatS S) S2)) ++ [(q223, .inl (cI, S 0 1, .inl (row (fillN (S 3) (S 0 1))))), (q229, .inl (cI, S 0 1, .inl (row (fillN (S 4) (S 0 1))))), (q235, .inl (cI, S 0 1, .inl (row (fillN (S 5) (S 0 1))))), (q396, .inl (cI, S 0 2, .inl (row (fillN (S 7) (S 0 2))))), (q402, .inl (cI, S 0 2, .inl (row (fillN (S 8) (S 0 2))))), (q408, .inl (cI, S 0 2, .inl (row (fillN (S 9) (S 0 2))))), (q414, .inl (cI, S 0 2, .inl (row (fillN (S 10) (S 0 2)))))]) (List.append_assoc _ _ _).symm (q0 := 0) (ci := 3) rfl rfl (fun H locs hP hD hS => ?_)
                                                                                  have := hJ.back u
                                                                                  refine lv_iconst (v := nI 0) F.1 F.2.1 dL_law_1148 (by decide) ?_
                                                                                  refine lv_aload F.1 F.2.1 dL_law_1149 (lv_at hl 22 rfl) ?_
                                                                                  refine lv_iload F.1 F.2.1 dL_law_1151 (lv_at hl 27 rfl) ?_
                                                                                  refine q_iald (f := fillN (S 10) (S 0 2)) (v := S 10 u) F hK hP (((wSi cI cA z (beatS S)) ++ (wCo cI a b (beatS S) S2)).length + 6) (app_l rfl) (by omega) (by first | omega | decide) (if_pos (by omega)) dL_law_1153 ?_
                                                                                  have := hI.back u
                                                                                  refine lv_iconst (v := nI 1) F.1 F.2.1 dL_law_1154 (by decide) ?_
                                                                                  refine lv_isub F.1 F.2.1 dL_law_1155 ?_
                                                                                  refine k_max0 F hl.1 (List.mem_of_getElem? (i := 8) rfl) (List.mem_of_getElem? (i := 9) rfl) (List.mem_of_getElem? (i := 6) rfl) (List.mem_of_getElem? (i := 10) rfl) (Nat.le_of_ble_eq_true rfl) (Nat.le_of_ble_eq_true rfl) ⟨show ce846 + 1 + 1 + 1 + 1 + 1 + 1 ≤ 600130 by omega, show sl846 + 6 + 6 + 6 + 6 + 6 + 6 ≤ 7301080 by omega⟩ (by omega) (by omega) (by omega) dL_law_1156 ?_
                                                                                  refine k_icmp_ne (tgt := 1175) F (by omega) (by omega) dL_law_1159 (by decide) (fun h1159 => ?_) (fun h1159 => ?_)
                                                                                  · skip
                                                                                    exfalso; omega
                                                                                  · skip
                                                                                    refine lv_iload F.1 F.2.1 dL_law_1162 (lv_at hl 5 rfl) ?_
                                                                                    refine k_if_eq (tgt := 1177) F (by omega) dL_law_1164 (by decide) (fun h1164 => ?_) (fun h1164 => ?_)
                                                                                    · skip
                                                                                      refine k_inc (k := 27) (lv' := [(27, .int (nI (u + 1))), (33, .int (nI 0)), (32, .int (nI 1)), (26, .int (nI (flN S (beatS S) u + 0))), (25, .int (nI (fdN S (beatS S) u + 0))), (24, .int (nI (cmN S (beatS S) u + 0))), (31, .int (nI 0)), (30, .int (nI 0)), (29, .int (nI 1)), (28, .int (nI ((beatS S) 7 u))), (0, .ref x), (1, .ref (a 13)), (2, .ref (z 0)), (3, .int (nI t)), (5, .int (nI (S 0 0))), (6, .int (nI (S 0 1))), (7, .int (nI (S 0 2))), (12, .ref q223), (13, .ref q229), (14, .ref q235), (16, .ref q396), (17, .ref q402), (18, .ref q408), (19, .ref q414), (20, .int (nI (S 0 4))), (21, .int (nI (S 0 5))), (22, .int (nI (S 0 3))), (23, .int (cameI S 1))]) F dL_law_1177 hl rfl (by decide) rfl (fun ls hl => ?_)
                                                                                      refine lv_goto (tgt := 846) F.1 F.2.1 dL_law_1180 (by decide) ?_
                                                                                      have e_29 : (cmN S (beatS S) u + 0) = cmN S (beatS S) (u + 1) := by show cmN S (beatS S) u = _; rw [show cmN S (beatS S) (u + 1) = if (beatS S) 7 u = S 7 u + 1 ∧ (beatS S) 7 u = S 0 0 then cmN S (beatS S) u + 1 else cmN S (beatS S) u from rfl, if_neg (by omega)]
                                                                                      rw [e_29] at hl
                                                                                      have e_30 : (fdN S (beatS S) u + 0) = fdN S (beatS S) (u + 1) := by show fdN S (beatS S) u = _; rw [show fdN S (beatS S) (u + 1) = if (beatS S) 8 u + 1 = S 8 u then fdN S (beatS S) u + 1 else fdN S (beatS S) u from rfl, if_neg (by omega)]
                                                                                      rw [e_30] at hl
                                                                                      have e_31 : (flN S (beatS S) u + 0) = flN S (beatS S) (u + 1) := by show flN S (beatS S) u = _; rw [show flN S (beatS S) (u + 1) = if S 10 u < (beatS S) 10 u then flN S (beatS S) u + 1 else flN S (beatS S) u from rfl, if_neg (by omega)]
                                                                                      rw [e_31] at hl
                                                                                      exact ih846 (u + 1) (by omega) (by omega)  (ce846 + 1 + 1 + 1 + 1 + 1 + 1) (sl846 + 6 + 6 + 6 + 6 + 6 + 6) (by omega) (by omega) _ _ _ hP hD hS (lv_sub hl [10, 11, 12, 13, 14, 15, 16, 17, 18, 19, 20, 21, 22, 23, 24, 25, 26, 27, 5, 4, 3, 0] rfl)
                                                                                    · skip
                                                                                      exact absurd h1164 (by decide)
                                                                              · skip
                                                                                exact absurd h1105 (by decide)
                                                                          · skip
                                                                            exact absurd h1077 (by decide)
                                                                  · skip
                                                                    exact absurd h1039 (by decide)
                                                                · skip
                                                                  exfalso; omega
                                                            · skip
                                                              exact absurd h999 (by decide)
                                                          · skip
                                                            exact absurd h988 (by decide)
                                                      · skip
                                                        exact absurd h965 (by decide)
                                                    · skip
                                                      exact absurd h950 (by decide)
                                                  · skip
                                                    refine lv_iconst (v := nI 1) F.1 F.2.1 dL_law_938 (by decide) ?_
                                                    refine lv_goto (tgt := 943) F.1 F.2.1 dL_law_939 (by decide) ?_
                                                    refine k_iadd F dL_law_943 ?_
                                                    refine lv_istore (lv' := [(24, .int (nI (cmN S (beatS S) u + 1))), (31, .int (nI 0)), (30, .int (nI 0)), (29, .int (nI 1)), (28, .int (nI ((beatS S) 7 u))), (0, .ref x), (1, .ref (a 13)), (2, .ref (z 0)), (3, .int (nI t)), (5, .int (nI (S 0 0))), (6, .int (nI (S 0 1))), (7, .int (nI (S 0 2))), (12, .ref q223), (13, .ref q229), (14, .ref q235), (16, .ref q396), (17, .ref q402), (18, .ref q408), (19, .ref q414), (20, .int (nI (S 0 4))), (21, .int (nI (S 0 5))), (22, .int (nI (S 0 3))), (23, .int (cameI S 1)), (25, .int (nI (fdN S (beatS S) u))), (26, .int (nI (flN S (beatS S) u))), (27, .int (nI u))]) F.1 F.2.1 dL_law_944 hl (by decide) rfl (fun ls hl => ?_)
                                                    refine lv_iload F.1 F.2.1 dL_law_946 (lv_at hl 23 rfl) ?_
                                                    refine lv_iload F.1 F.2.1 dL_law_948 (lv_at hl 2 rfl) ?_
                                                    refine k_if_eq (tgt := 957) F (by omega) dL_law_950 (by decide) (fun h950 => ?_) (fun h950 => ?_)
                                                    · skip
                                                      refine lv_iconst (v := nI 0) F.1 F.2.1 dL_law_957 (by decide) ?_
                                                      refine k_iadd F dL_law_958 ?_
                                                      refine lv_istore (lv' := [(25, .int (nI (fdN S (beatS S) u + 0))), (24, .int (nI (cmN S (beatS S) u + 1))), (31, .int (nI 0)), (30, .int (nI 0)), (29, .int (nI 1)), (28, .int (nI ((beatS S) 7 u))), (0, .ref x), (1, .ref (a 13)), (2, .ref (z 0)), (3, .int (nI t)), (5, .int (nI (S 0 0))), (6, .int (nI (S 0 1))), (7, .int (nI (S 0 2))), (12, .ref q223), (13, .ref q229), (14, .ref q235), (16, .ref q396), (17, .ref q402), (18, .ref q408), (19, .ref q414), (20, .int (nI (S 0 4))), (21, .int (nI (S 0 5))), (22, .int (nI (S 0 3))), (23, .int (cameI S 1)), (26, .int (nI (flN S (beatS S) u))), (27, .int (nI u))]) F.1 F.2.1 dL_law_959 hl (by decide) rfl (fun ls hl => ?_)
                                                      refine lv_iload F.1 F.2.1 dL_law_961 (lv_at hl 24 rfl) ?_
                                                      refine lv_iload F.1 F.2.1 dL_law_963 (lv_at hl 2 rfl) ?_
                                                      refine k_if_eq (tgt := 972) F (by omega) dL_law_965 (by decide) (fun h965 => ?_) (fun h965 => ?_)
                                                      · skip
                                                        refine lv_iconst (v := nI 0) F.1 F.2.1 dL_law_972 (by decide) ?_
                                                        refine k_iadd F dL_law_973 ?_
                                                        refine lv_istore (lv' := [(26, .int (nI (flN S (beatS S) u + 0))), (25, .int (nI (fdN S (beatS S) u + 0))), (24, .int (nI (cmN S (beatS S) u + 1))), (31, .int (nI 0)), (30, .int (nI 0)), (29, .int (nI 1)), (28, .int (nI ((beatS S) 7 u))), (0, .ref x), (1, .ref (a 13)), (2, .ref (z 0)), (3, .int (nI t)), (5, .int (nI (S 0 0))), (6, .int (nI (S 0 1))), (7, .int (nI (S 0 2))), (12, .ref q223), (13, .ref q229), (14, .ref q235), (16, .ref q396), (17, .ref q402), (18, .ref q408), (19, .ref q414), (20, .int (nI (S 0 4))), (21, .int (nI (S 0 5))), (22, .int (nI (S 0 3))), (23, .int (cameI S 1)), (27, .int (nI u))]) F.1 F.2.1 dL_law_974 hl (by decide) rfl (fun ls hl => ?_)
                                                        refine lv_iload F.1 F.2.1 dL_law_976 (lv_at hl 5 rfl) ?_
                                                        refine k_if_eq (tgt := 985) F (by omega) dL_law_978 (by decide) (fun h978 => ?_) (fun h978 => ?_)
                                                        · skip
                                                          exact absurd h978 (by decide)
                                                        · skip
                                                          refine lv_iconst (v := nI 1) F.1 F.2.1 dL_law_981 (by decide) ?_
                                                          refine lv_goto (tgt := 986) F.1 F.2.1 dL_law_982 (by decide) ?_
                                                          refine lv_iload F.1 F.2.1 dL_law_986 (lv_at hl 4 rfl) ?_
                                                          refine k_if_eq (tgt := 995) F (by omega) dL_law_988 (by decide) (fun h988 => ?_) (fun h988 => ?_)
                                                          · skip
                                                            refine lv_iconst (v := nI 0) F.1 F.2.1 dL_law_995 (by decide) ?_
                                                            refine k_iadd F dL_law_996 ?_
                                                            refine lv_iload F.1 F.2.1 dL_law_997 (lv_at hl 3 rfl) ?_
                                                            refine k_if_eq (tgt := 1006) F (by omega) dL_law_999 (by decide) (fun h999 => ?_) (fun h999 => ?_)
                                                            · skip
                                                              refine lv_iconst (v := nI 0) F.1 F.2.1 dL_law_1006 (by decide) ?_
                                                              refine k_iadd F dL_law_1007 ?_
                                                              refine lv_istore (lv' := [(32, .int (nI 1)), (26, .int (nI (flN S (beatS S) u + 0))), (25, .int (nI (fdN S (beatS S) u + 0))), (24, .int (nI (cmN S (beatS S) u + 1))), (31, .int (nI 0)), (30, .int (nI 0)), (29, .int (nI 1)), (28, .int (nI ((beatS S) 7 u))), (0, .ref x), (1, .ref (a 13)), (2, .ref (z 0)), (3, .int (nI t)), (5, .int (nI (S 0 0))), (6, .int (nI (S 0 1))), (7, .int (nI (S 0 2))), (12, .ref q223), (13, .ref q229), (14, .ref q235), (16, .ref q396), (17, .ref q402), (18, .ref q408), (19, .ref q414), (20, .int (nI (S 0 4))), (21, .int (nI (S 0 5))), (22, .int (nI (S 0 3))), (23, .int (cameI S 1)), (27, .int (nI u))]) F.1 F.2.1 dL_law_1008 hl (by decide) rfl (fun ls hl => ?_)
                                                              refine lv_aload F.1 F.2.1 dL_law_1010 (lv_at hl 18 rfl) ?_
                                                              refine lv_iload F.1 F.2.1 dL_law_1012 (lv_at hl 26 rfl) ?_
                                                              refine q_iald (f := fillN (S 7) (S 0 2)) (v := S 7 u) F hK hP (((wSi cI cA z (beatS S)) ++ (wCo cI a b (beatS S) S2)).length + 3) (app_l rfl) (by omega) (by first | omega | decide) (if_pos (by omega)) dL_law_1014 ?_
                                                              have := hI.went u
                                                              refine lv_iload F.1 F.2.1 dL_law_1015 (lv_at hl 12 rfl) ?_
                                                              refine k_icmp_eq (tgt := 1028) F (by omega) (by omega) dL_law_1017 (by decide) (fun h1017 => ?_) (fun h1017 => ?_)
                                                              · skip
                                                                exfalso; omega
                                                              · skip
                                                                refine lv_aload F.1 F.2.1 dL_law_1020 (lv_at hl 21 rfl) ?_
                                                                refine lv_iload F.1 F.2.1 dL_law_1022 (lv_at hl 26 rfl) ?_
                                                                refine q_iald (f := fillN (S 10) (S 0 2)) (v := S 10 u) F hK hP (((wSi cI cA z (beatS S)) ++ (wCo cI a b (beatS S) S2)).length + 6) (app_l rfl) (by omega) (by first | omega | decide) (if_pos (by omega)) dL_law_1024 ?_
                                                                have := hI.back u
                                                                refine k_if_le (tgt := 1032) F (by omega) dL_law_1025 (by decide) (fun h1025 => ?_) (fun h1025 => ?_)
                                                                · skip
                                                                  refine lv_iconst (v := nI 0) F.1 F.2.1 dL_law_1032 (by decide) ?_
                                                                  refine lv_istore (lv' := [(33, .int (nI 0)), (32, .int (nI 1)), (26, .int (nI (flN S (beatS S) u + 0))), (25, .int (nI (fdN S (beatS S) u + 0))), (24, .int (nI (cmN S (beatS S) u + 1))), (31, .int (nI 0)), (30, .int (nI 0)), (29, .int (nI 1)), (28, .int (nI ((beatS S) 7 u))), (0, .ref x), (1, .ref (a 13)), (2, .ref (z 0)), (3, .int (nI t)), (5, .int (nI (S 0 0))), (6, .int (nI (S 0 1))), (7, .int (nI (S 0 2))), (12, .ref q223), (13, .ref q229), (14, .ref q235), (16, .ref q396), (17, .ref q402), (18, .ref q408), (19, .ref q414), (20, .int (nI (S 0 4))), (21, .int (nI (S 0 5))), (22, .int (nI (S 0 3))), (23, .int (cameI S 1)), (27, .int (nI u))]) F.1 F.2.1 dL_law_1033 hl (by decide) rfl (fun ls hl => ?_)
                                                                  refine lv_iload F.1 F.2.1 dL_law_1035 (lv_at hl 1 rfl) ?_
                                                                  refine lv_iload F.1 F.2.1 dL_law_1037 (lv_at hl 0 rfl) ?_
                                                                  refine k_if_eq (tgt := 1046) F (by omega) dL_law_1039 (by decide) (fun h1039 => ?_) (fun h1039 => ?_)
                                                                  · skip
                                                                    refine lv_iconst (v := nI 1) F.1 F.2.1 dL_law_1046 (by decide) ?_
                                                                    refine lv_icmp_ne (tgt := 1175) F.1 F.2.1 dL_law_1047 (by decide) (fun h1047 => ?_) (fun h1047 => ?_)
                                                                    · skip
                                                                      exact absurd h1047 (by decide)
                                                                    · skip
                                                                      refine lv_iload F.1 F.2.1 dL_law_1050 (lv_at hl 6 rfl) ?_
                                                                      refine k_if_ne (tgt := 1069) F (by omega) dL_law_1052 (by decide) (fun h1052 => ?_) (fun h1052 => ?_)
                                                                      · skip
                                                                        exact absurd h1052 (by decide)
                                                                      · skip
                                                                        refine lv_aload_n F.1 F.2.1 dL_law_1055 rfl (lv_at hl 10 rfl) ?_
                                                                        refine lv_iload F.1 F.2.1 dL_law_1056 (lv_at hl 27 rfl) ?_
                                                                        have ok_32 : r1 ((beatS S) 0 2) (nI u) (nI ((beatS S) 8 (cl (nI u)))) = (0, nI ((beatS S) 8 u)) := by rw [cl_nI (show u < 2 ^ 31 by omega)]; exact r1_y (okI_nI (by omega) (by omega))
                                                                        refine x_tI (n := 1) (rest := []) (v := nI ((beatS S) 8 u)) (w1 := (wCo cI a b (beatS S) S2)) F (c_X3_cornsOf l D cI hst a b (beatS S) S2 (nI u) (by first | exact hI | exact hJ)) (by rw [ok_32]; rfl) (by rw [ok_32]) rfl gL_law_X3_cornsOf rfl (by decide +kernel) ⟨Nat.le_of_ble_eq_true rfl, Nat.le_of_ble_eq_true rfl⟩ rfl hl.1 rfl (Nat.le_of_ble_eq_true rfl) dL_law_1058 ⟨show ce846 + 1 + 1 + 1 + 1 ≤ 600130 by omega, show sl846 + 6 + 6 + 6 + 6 ≤ 7301080 by omega⟩ hK hX hP hD hS (List.append_assoc _ _ _) rfl rfl (((wSi cI cA z (beatS S)) ++ (wCo cI a b (beatS S) S2)) ++ [(q223, .inl (cI, S 0 1, .inl (row (fillN (S 3) (S 0 1))))), (q229, .inl (cI, S 0 1, .inl (row (fillN (S 4) (S 0 1))))), (q235, .inl (cI, S 0 1, .inl (row (fillN (S 5) (S 0 1))))), (q396, .inl (cI, S 0 2, .inl (row (fillN (S 7) (S 0 2))))), (q402, .inl (cI, S 0 2, .inl (row (fillN (S 8) (S 0 2))))), (q408, .inl (cI, S 0 2, .inl (row (fillN (S 9) (S 0 2))))), (q414, .inl (cI, S 0 2, .inl (row (fillN (S 10) (S 0 2)))))]) (List.append_assoc _ _ _).symm (q0 := 0) (ci := 3) rfl rfl (fun H locs hP hD hS => ?_)
                                                                        have := hJ.has u
                                                                        refine lv_aload F.1 F.2.1 dL_law_1061 (lv_at hl 20 rfl) ?_
                                                                        refine lv_iload F.1 F.2.1 dL_law_1063 (lv_at hl 27 rfl) ?_
                                                                        refine q_iald (f := fillN (S 8) (S 0 2)) (v := S 8 u) F hK hP (((wSi cI cA z (beatS S)) ++ (wCo cI a b (beatS S) S2)).length + 4) (app_l rfl) (by omega) (by first | omega | decide) (if_pos (by omega)) dL_law_1065 ?_
                                                                        have := hI.has u
                                                                        refine k_icmp_ne (tgt := 1175) F (by omega) (by omega) dL_law_1066 (by decide) (fun h1066 => ?_) (fun h1066 => ?_)
                                                                        · skip
                                                                          exfalso; omega
                                                                        · skip
                                                                          refine lv_aload_n F.1 F.2.1 dL_law_1069 rfl (lv_at hl 10 rfl) ?_
                                                                          refine lv_iload F.1 F.2.1 dL_law_1070 (lv_at hl 27 rfl) ?_
                                                                          have ok_33 : r1 ((beatS S) 0 2) (nI u) (nI ((beatS S) 9 (cl (nI u)))) = (0, nI ((beatS S) 9 u)) := by rw [cl_nI (show u < 2 ^ 31 by omega)]; exact r1_y (okI_nI (by omega) (by omega))
                                                                          refine x_tI (n := 1) (rest := []) (v := nI ((beatS S) 9 u)) (w1 := (wCo cI a b (beatS S) S2)) F (c_X3_nerveOf l D cI hst a b (beatS S) S2 (nI u) (by first | exact hI | exact hJ)) (by rw [ok_33]; rfl) (by rw [ok_33]) rfl gL_law_X3_nerveOf rfl (by decide +kernel) ⟨Nat.le_of_ble_eq_true rfl, Nat.le_of_ble_eq_true rfl⟩ rfl hl.1 rfl (Nat.le_of_ble_eq_true rfl) dL_law_1072 ⟨show ce846 + 1 + 1 + 1 + 1 + 1 ≤ 600130 by omega, show sl846 + 6 + 6 + 6 + 6 + 6 ≤ 7301080 by omega⟩ hK hX hP hD hS (List.append_assoc _ _ _) rfl rfl (((wSi cI cA z (beatS S)) ++ (wCo cI a b (beatS S) S2)) ++ [(q223, .inl (cI, S 0 1, .inl (row (fillN (S 3) (S 0 1))))), (q229, .inl (cI, S 0 1, .inl (row (fillN (S 4) (S 0 1))))), (q235, .inl (cI, S 0 1, .inl (row (fillN (S 5) (S 0 1))))), (q396, .inl (cI, S 0 2, .inl (row (fillN (S 7) (S 0 2))))), (q402, .inl (cI, S 0 2, .inl (row (fillN (S 8) (S 0 2))))), (q408, .inl (cI, S 0 2, .inl (row (fillN (S 9) (S 0 2))))), (q414, .inl (cI, S 0 2, .inl (row (fillN (S 10) (S 0 2)))))]) (List.append_assoc _ _ _).symm (q0 := 0) (ci := 3) rfl rfl (fun H locs hP hD hS => ?_)
                                                                          have := hJ.brave u
                                                                          refine lv_iload F.1 F.2.1 dL_law_1075 (lv_at hl 5 rfl) ?_
                                                                          refine k_if_eq (tgt := 1095) F (by omega) dL_law_1077 (by decide) (fun h1077 => ?_) (fun h1077 => ?_)
                                                                          · skip
                                                                            refine lv_aload F.1 F.2.1 dL_law_1095 (lv_at hl 21 rfl) ?_
                                                                            refine lv_iload F.1 F.2.1 dL_law_1097 (lv_at hl 27 rfl) ?_
                                                                            refine q_iald (f := fillN (S 9) (S 0 2)) (v := S 9 u) F hK hP (((wSi cI cA z (beatS S)) ++ (wCo cI a b (beatS S) S2)).length + 5) (app_l rfl) (by omega) (by first | omega | decide) (if_pos (by omega)) dL_law_1099 ?_
                                                                            have := hI.brave u
                                                                            refine k_icmp_ne (tgt := 1175) F (by omega) (by omega) dL_law_1100 (by decide) (fun h1100 => ?_) (fun h1100 => ?_)
                                                                            · skip
                                                                              exfalso; omega
                                                                            · skip
                                                                              refine lv_iload F.1 F.2.1 dL_law_1103 (lv_at hl 7 rfl) ?_
                                                                              refine k_if_ne (tgt := 1137) F (by omega) dL_law_1105 (by decide) (fun h1105 => ?_) (fun h1105 => ?_)
                                                                              · skip
                                                                                refine lv_iload F.1 F.2.1 dL_law_1137 (lv_at hl 5 rfl) ?_
                                                                                refine k_if_ne (tgt := 1162) F (by omega) dL_law_1139 (by decide) (fun h1139 => ?_) (fun h1139 => ?_)
                                                                                · skip
                                                                                  exact absurd h1139 (by decide)
                                                                                · skip
                                                                                  refine lv_aload_n F.1 F.2.1 dL_law_1142 rfl (lv_at hl 10 rfl) ?_
                                                                                  refine lv_iload F.1 F.2.1 dL_law_1143 (lv_at hl 27 rfl) ?_
                                                                                  have ok_34 : r1 ((beatS S) 0 2) (nI u) (nI ((beatS S) 10 (cl (nI u)))) = (0, nI ((beatS S) 10 u)) := by rw [cl_nI (show u < 2 ^ 31 by omega)]; exact r1_y (okI_nI (by omega) (by omega))
                                                                                  refine x_tI (n := 1) (rest := []) (v := nI ((beatS S) 10 u)) (w1 := (wCo cI a b (beatS S) S2)) F (c_X3_retreatOf l D cI hst a b (beatS S) S2 (nI u) (by first | exact hI | exact hJ)) (by rw [ok_34]; rfl) (by rw [ok_34]) rfl gL_law_X3_retreatOf rfl (by decide +kernel) ⟨Nat.le_of_ble_eq_true rfl, Nat.le_of_ble_eq_true rfl⟩ rfl hl.1 rfl (Nat.le_of_ble_eq_true rfl) dL_law_1145 ⟨show ce846 + 1 + 1 + 1 + 1 + 1 + 1 ≤ 600130 by omega, show sl846 + 6 + 6 + 6 + 6 + 6 + 6 ≤ 7301080 by omega⟩ hK hX hP hD hS (List.append_assoc _ _ _) rfl rfl (((wSi cI cA z (beatS S)) ++ (wCo cI a b (beatS S) S2)) ++ [(q223, .inl (cI, S 0 1, .inl (row (fillN (S 3) (S 0 1))))), (q229, .inl (cI, S 0 1, .inl (row (fillN (S 4) (S 0 1))))), (q235, .inl (cI, S 0 1, .inl (row (fillN (S 5) (S 0 1))))), (q396, .inl (cI, S 0 2, .inl (row (fillN (S 7) (S 0 2))))), (q402, .inl (cI, S 0 2, .inl (row (fillN (S 8) (S 0 2))))), (q408, .inl (cI, S 0 2, .inl (row (fillN (S 9) (S 0 2))))), (q414, .inl (cI, S 0 2, .inl (row (fillN (S 10) (S 0 2)))))]) (List.append_assoc _ _ _).symm (q0 := 0) (ci := 3) rfl rfl (fun H locs hP hD hS => ?_)
                                                                                  have := hJ.back u
                                                                                  refine lv_iconst (v := nI 0) F.1 F.2.1 dL_law_1148 (by decide) ?_
                                                                                  refine lv_aload F.1 F.2.1 dL_law_1149 (lv_at hl 22 rfl) ?_
                                                                                  refine lv_iload F.1 F.2.1 dL_law_1151 (lv_at hl 27 rfl) ?_
                                                                                  refine q_iald (f := fillN (S 10) (S 0 2)) (v := S 10 u) F hK hP (((wSi cI cA z (beatS S)) ++ (wCo cI a b (beatS S) S2)).length + 6) (app_l rfl) (by omega) (by first | omega | decide) (if_pos (by omega)) dL_law_1153 ?_
                                                                                  have := hI.back u
                                                                                  refine lv_iconst (v := nI 1) F.1 F.2.1 dL_law_1154 (by decide) ?_
                                                                                  refine lv_isub F.1 F.2.1 dL_law_1155 ?_
                                                                                  refine k_max0 F hl.1 (List.mem_of_getElem? (i := 8) rfl) (List.mem_of_getElem? (i := 9) rfl) (List.mem_of_getElem? (i := 6) rfl) (List.mem_of_getElem? (i := 10) rfl) (Nat.le_of_ble_eq_true rfl) (Nat.le_of_ble_eq_true rfl) ⟨show ce846 + 1 + 1 + 1 + 1 + 1 + 1 ≤ 600130 by omega, show sl846 + 6 + 6 + 6 + 6 + 6 + 6 ≤ 7301080 by omega⟩ (by omega) (by omega) (by omega) dL_law_1156 ?_
                                                                                  refine k_icmp_ne (tgt := 1175) F (by omega) (by omega) dL_law_1159 (by decide) (fun h1159 => ?_) (fun h1159 => ?_)
                                                                                  · skip
                                                                                    exfalso; omega
                                                                                  · skip
                                                                                    refine lv_iload F.1 F.2.1 dL_law_1162 (lv_at hl 5 rfl) ?_
                                                                                    refine k_if_eq (tgt := 1177) F (by omega) dL_law_1164 (by decide) (fun h1164 => ?_) (fun h1164 => ?_)
                                                                                    · skip
                                                                                      refine k_inc (k := 27) (lv' := [(27, .int (nI (u + 1))), (33, .int (nI 0)), (32, .int (nI 1)), (26, .int (nI (flN S (beatS S) u + 0))), (25, .int (nI (fdN S (beatS S) u + 0))), (24, .int (nI (cmN S (beatS S) u + 1))), (31, .int (nI 0)), (30, .int (nI 0)), (29, .int (nI 1)), (28, .int (nI ((beatS S) 7 u))), (0, .ref x), (1, .ref (a 13)), (2, .ref (z 0)), (3, .int (nI t)), (5, .int (nI (S 0 0))), (6, .int (nI (S 0 1))), (7, .int (nI (S 0 2))), (12, .ref q223), (13, .ref q229), (14, .ref q235), (16, .ref q396), (17, .ref q402), (18, .ref q408), (19, .ref q414), (20, .int (nI (S 0 4))), (21, .int (nI (S 0 5))), (22, .int (nI (S 0 3))), (23, .int (cameI S 1))]) F dL_law_1177 hl rfl (by decide) rfl (fun ls hl => ?_)
                                                                                      refine lv_goto (tgt := 846) F.1 F.2.1 dL_law_1180 (by decide) ?_
                                                                                      have e_35 : (cmN S (beatS S) u + 1) = cmN S (beatS S) (u + 1) := by rw [show cmN S (beatS S) (u + 1) = if (beatS S) 7 u = S 7 u + 1 ∧ (beatS S) 7 u = S 0 0 then cmN S (beatS S) u + 1 else cmN S (beatS S) u from rfl, if_pos (by omega)]
                                                                                      rw [e_35] at hl
                                                                                      have e_36 : (fdN S (beatS S) u + 0) = fdN S (beatS S) (u + 1) := by show fdN S (beatS S) u = _; rw [show fdN S (beatS S) (u + 1) = if (beatS S) 8 u + 1 = S 8 u then fdN S (beatS S) u + 1 else fdN S (beatS S) u from rfl, if_neg (by omega)]
                                                                                      rw [e_36] at hl
                                                                                      have e_37 : (flN S (beatS S) u + 0) = flN S (beatS S) (u + 1) := by show flN S (beatS S) u = _; rw [show flN S (beatS S) (u + 1) = if S 10 u < (beatS S) 10 u then flN S (beatS S) u + 1 else flN S (beatS S) u from rfl, if_neg (by omega)]
                                                                                      rw [e_37] at hl
                                                                                      exact ih846 (u + 1) (by omega) (by omega)  (ce846 + 1 + 1 + 1 + 1 + 1 + 1) (sl846 + 6 + 6 + 6 + 6 + 6 + 6) (by omega) (by omega) _ _ _ hP hD hS (lv_sub hl [10, 11, 12, 13, 14, 15, 16, 17, 18, 19, 20, 21, 22, 23, 24, 25, 26, 27, 5, 4, 3, 0] rfl)
                                                                                    · skip
                                                                                      exact absurd h1164 (by decide)
                                                                              · skip
                                                                                exact absurd h1105 (by decide)
                                                                          · skip
                                                                            exact absurd h1077 (by decide)
                                                                  · skip
                                                                    exact absurd h1039 (by decide)
                                                                · skip
                                                                  exfalso; omega
                                                            · skip
                                                              exact absurd h999 (by decide)
                                                          · skip
                                                            exact absurd h988 (by decide)
                                                      · skip
                                                        exact absurd h965 (by decide)
                                                    · skip
                                                      exact absurd h950 (by decide)
                                              · skip
                                                exfalso; omega
                                            · skip
                                              exfalso; omega
                                        · skip
                                          refine lv_aload_n F.1 F.2.1 dL_law_853 rfl (lv_at hl 1 rfl) ?_
                                          refine lv_iload F.1 F.2.1 dL_law_854 (lv_at hl 21 rfl) ?_
                                          have ok_38 : r1 ((beatS S) 0 2) (nI u) (nI ((beatS S) 7 (cl (nI u)))) = (0, nI ((beatS S) 7 u)) := by rw [cl_nI (show u < 2 ^ 31 by omega)]; exact r1_y (okI_nI (by omega) (by omega))
                                          refine x_tI (n := 1) (rest := []) (v := nI ((beatS S) 7 u)) (w1 := (wCo cI a b (beatS S) S2)) F (c_X3_passedBy l D cI hst a b (beatS S) S2 (nI u) (by first | exact hI | exact hJ)) (by rw [ok_38]; rfl) (by rw [ok_38]) rfl gL_law_X3_passedBy rfl (by decide +kernel) ⟨Nat.le_of_ble_eq_true rfl, Nat.le_of_ble_eq_true rfl⟩ rfl hl.1 rfl (Nat.le_of_ble_eq_true rfl) dL_law_856 ⟨show ce846 + 1 ≤ 600130 by omega, show sl846 + 6 ≤ 7301080 by omega⟩ hK hX hP hD hS (List.append_assoc _ _ _) rfl rfl (((wSi cI cA z (beatS S)) ++ (wCo cI a b (beatS S) S2)) ++ [(q223, .inl (cI, S 0 1, .inl (row (fillN (S 3) (S 0 1))))), (q229, .inl (cI, S 0 1, .inl (row (fillN (S 4) (S 0 1))))), (q235, .inl (cI, S 0 1, .inl (row (fillN (S 5) (S 0 1))))), (q396, .inl (cI, S 0 2, .inl (row (fillN (S 7) (S 0 2))))), (q402, .inl (cI, S 0 2, .inl (row (fillN (S 8) (S 0 2))))), (q408, .inl (cI, S 0 2, .inl (row (fillN (S 9) (S 0 2))))), (q414, .inl (cI, S 0 2, .inl (row (fillN (S 10) (S 0 2)))))]) (List.append_assoc _ _ _).symm (q0 := 0) (ci := 3) rfl rfl (fun H locs hP hD hS => ?_)
                                          have := hJ.went u
                                          refine lv_istore (lv' := [(28, .int (nI ((beatS S) 7 u))), (0, .ref x), (1, .ref (a 13)), (2, .ref (z 0)), (3, .int (nI t)), (5, .int (nI (S 0 0))), (6, .int (nI (S 0 1))), (7, .int (nI (S 0 2))), (12, .ref q223), (13, .ref q229), (14, .ref q235), (16, .ref q396), (17, .ref q402), (18, .ref q408), (19, .ref q414), (20, .int (nI (S 0 4))), (21, .int (nI (S 0 5))), (22, .int (nI (S 0 3))), (23, .int (cameI S 1)), (24, .int (nI (cmN S (beatS S) u))), (25, .int (nI (fdN S (beatS S) u))), (26, .int (nI (flN S (beatS S) u))), (27, .int (nI u))]) F.1 F.2.1 dL_law_859 hl (by decide) rfl (fun ls hl => ?_)
                                          refine lv_iload F.1 F.2.1 dL_law_861 (lv_at hl 0 rfl) ?_
                                          refine lv_aload F.1 F.2.1 dL_law_863 (lv_at hl 11 rfl) ?_
                                          refine lv_iload F.1 F.2.1 dL_law_865 (lv_at hl 22 rfl) ?_
                                          refine q_iald (f := fillN (S 7) (S 0 2)) (v := S 7 u) F hK hP (((wSi cI cA z (beatS S)) ++ (wCo cI a b (beatS S) S2)).length + 3) (app_l rfl) (by omega) (by first | omega | decide) (if_pos (by omega)) dL_law_867 ?_
                                          have := hI.went u
                                          refine lv_iconst (v := nI 1) F.1 F.2.1 dL_law_868 (by decide) ?_
                                          refine k_iadd F dL_law_869 ?_
                                          refine k_icmp_ne (tgt := 877) F (by omega) (by omega) dL_law_870 (by decide) (fun h870 => ?_) (fun h870 => ?_)
                                          · skip
                                            refine lv_iconst (v := nI 0) F.1 F.2.1 dL_law_877 (by decide) ?_
                                            refine lv_istore (lv' := [(29, .int (nI 0)), (28, .int (nI ((beatS S) 7 u))), (0, .ref x), (1, .ref (a 13)), (2, .ref (z 0)), (3, .int (nI t)), (5, .int (nI (S 0 0))), (6, .int (nI (S 0 1))), (7, .int (nI (S 0 2))), (12, .ref q223), (13, .ref q229), (14, .ref q235), (16, .ref q396), (17, .ref q402), (18, .ref q408), (19, .ref q414), (20, .int (nI (S 0 4))), (21, .int (nI (S 0 5))), (22, .int (nI (S 0 3))), (23, .int (cameI S 1)), (24, .int (nI (cmN S (beatS S) u))), (25, .int (nI (fdN S (beatS S) u))), (26, .int (nI (flN S (beatS S) u))), (27, .int (nI u))]) F.1 F.2.1 dL_law_878 hl (by decide) rfl (fun ls hl => ?_)
                                            refine lv_aload_n F.1 F.2.1 dL_law_880 rfl (lv_at hl 3 rfl) ?_
                                            refine lv_iload F.1 F.2.1 dL_law_881 (lv_at hl 23 rfl) ?_
                                            have ok_39 : r1 ((beatS S) 0 2) (nI u) (nI ((beatS S) 8 (cl (nI u)))) = (0, nI ((beatS S) 8 u)) := by rw [cl_nI (show u < 2 ^ 31 by omega)]; exact r1_y (okI_nI (by omega) (by omega))
                                            refine x_tI (n := 1) (rest := []) (v := nI ((beatS S) 8 u)) (w1 := (wCo cI a b (beatS S) S2)) F (c_X3_cornsOf l D cI hst a b (beatS S) S2 (nI u) (by first | exact hI | exact hJ)) (by rw [ok_39]; rfl) (by rw [ok_39]) rfl gL_law_X3_cornsOf rfl (by decide +kernel) ⟨Nat.le_of_ble_eq_true rfl, Nat.le_of_ble_eq_true rfl⟩ rfl hl.1 rfl (Nat.le_of_ble_eq_true rfl) dL_law_883 ⟨show ce846 + 1 + 1 ≤ 600130 by omega, show sl846 + 6 + 6 ≤ 7301080 by omega⟩ hK hX hP hD hS (List.append_assoc _ _ _) rfl rfl (((wSi cI cA z (beatS S)) ++ (wCo cI a b (beatS S) S2)) ++ [(q223, .inl (cI, S 0 1, .inl (row (fillN (S 3) (S 0 1))))), (q229, .inl (cI, S 0 1, .inl (row (fillN (S 4) (S 0 1))))), (q235, .inl (cI, S 0 1, .inl (row (fillN (S 5) (S 0 1))))), (q396, .inl (cI, S 0 2, .inl (row (fillN (S 7) (S 0 2))))), (q402, .inl (cI, S 0 2, .inl (row (fillN (S 8) (S 0 2))))), (q408, .inl (cI, S 0 2, .inl (row (fillN (S 9) (S 0 2))))), (q414, .inl (cI, S 0 2, .inl (row (fillN (S 10) (S 0 2)))))]) (List.append_assoc _ _ _).symm (q0 := 0) (ci := 3) rfl rfl (fun H locs hP hD hS => ?_)
                                            have := hJ.has u
                                            refine lv_aload F.1 F.2.1 dL_law_886 (lv_at hl 13 rfl) ?_
                                            refine lv_iload F.1 F.2.1 dL_law_888 (lv_at hl 23 rfl) ?_
                                            refine q_iald (f := fillN (S 8) (S 0 2)) (v := S 8 u) F hK hP (((wSi cI cA z (beatS S)) ++ (wCo cI a b (beatS S) S2)).length + 4) (app_l rfl) (by omega) (by first | omega | decide) (if_pos (by omega)) dL_law_890 ?_
                                            have := hI.has u
                                            refine lv_iconst (v := nI 1) F.1 F.2.1 dL_law_891 (by decide) ?_
                                            refine lv_isub F.1 F.2.1 dL_law_892 ?_
                                            refine k_ne_m1 (tgt := 900) F (by omega) (by omega) dL_law_893 (by decide) (fun h893 => ?_) (fun h893 => ?_)
                                            · skip
                                              exfalso; omega
                                            · skip
                                              refine lv_iconst (v := nI 1) F.1 F.2.1 dL_law_896 (by decide) ?_
                                              refine lv_goto (tgt := 901) F.1 F.2.1 dL_law_897 (by decide) ?_
                                              refine lv_istore (lv' := [(30, .int (nI 1)), (29, .int (nI 0)), (28, .int (nI ((beatS S) 7 u))), (0, .ref x), (1, .ref (a 13)), (2, .ref (z 0)), (3, .int (nI t)), (5, .int (nI (S 0 0))), (6, .int (nI (S 0 1))), (7, .int (nI (S 0 2))), (12, .ref q223), (13, .ref q229), (14, .ref q235), (16, .ref q396), (17, .ref q402), (18, .ref q408), (19, .ref q414), (20, .int (nI (S 0 4))), (21, .int (nI (S 0 5))), (22, .int (nI (S 0 3))), (23, .int (cameI S 1)), (24, .int (nI (cmN S (beatS S) u))), (25, .int (nI (fdN S (beatS S) u))), (26, .int (nI (flN S (beatS S) u))), (27, .int (nI u))]) F.1 F.2.1 dL_law_901 hl (by decide) rfl (fun ls hl => ?_)
                                              refine lv_aload_n F.1 F.2.1 dL_law_903 rfl (lv_at hl 4 rfl) ?_
                                              refine lv_iload F.1 F.2.1 dL_law_904 (lv_at hl 24 rfl) ?_
                                              have ok_40 : r1 ((beatS S) 0 2) (nI u) (nI ((beatS S) 10 (cl (nI u)))) = (0, nI ((beatS S) 10 u)) := by rw [cl_nI (show u < 2 ^ 31 by omega)]; exact r1_y (okI_nI (by omega) (by omega))
                                              refine x_tI (n := 1) (rest := []) (v := nI ((beatS S) 10 u)) (w1 := (wCo cI a b (beatS S) S2)) F (c_X3_retreatOf l D cI hst a b (beatS S) S2 (nI u) (by first | exact hI | exact hJ)) (by rw [ok_40]; rfl) (by rw [ok_40]) rfl gL_law_X3_retreatOf rfl (by decide +kernel) ⟨Nat.le_of_ble_eq_true rfl, Nat.le_of_ble_eq_true rfl⟩ rfl hl.1 rfl (Nat.le_of_ble_eq_true rfl) dL_law_906 ⟨show ce846 + 1 + 1 + 1 ≤ 600130 by omega, show sl846 + 6 + 6 + 6 ≤ 7301080 by omega⟩ hK hX hP hD hS (List.append_assoc _ _ _) rfl rfl (((wSi cI cA z (beatS S)) ++ (wCo cI a b (beatS S) S2)) ++ [(q223, .inl (cI, S 0 1, .inl (row (fillN (S 3) (S 0 1))))), (q229, .inl (cI, S 0 1, .inl (row (fillN (S 4) (S 0 1))))), (q235, .inl (cI, S 0 1, .inl (row (fillN (S 5) (S 0 1))))), (q396, .inl (cI, S 0 2, .inl (row (fillN (S 7) (S 0 2))))), (q402, .inl (cI, S 0 2, .inl (row (fillN (S 8) (S 0 2))))), (q408, .inl (cI, S 0 2, .inl (row (fillN (S 9) (S 0 2))))), (q414, .inl (cI, S 0 2, .inl (row (fillN (S 10) (S 0 2)))))]) (List.append_assoc _ _ _).symm (q0 := 0) (ci := 3) rfl rfl (fun H locs hP hD hS => ?_)
                                              have := hJ.back u
                                              refine lv_aload F.1 F.2.1 dL_law_909 (lv_at hl 16 rfl) ?_
                                              refine lv_iload F.1 F.2.1 dL_law_911 (lv_at hl 24 rfl) ?_
                                              refine q_iald (f := fillN (S 10) (S 0 2)) (v := S 10 u) F hK hP (((wSi cI cA z (beatS S)) ++ (wCo cI a b (beatS S) S2)).length + 6) (app_l rfl) (by omega) (by first | omega | decide) (if_pos (by omega)) dL_law_913 ?_
                                              have := hI.back u
                                              refine k_icmp_le (tgt := 921) F (by omega) (by omega) dL_law_914 (by decide) (fun h914 => ?_) (fun h914 => ?_)
                                              · skip
                                                refine lv_iconst (v := nI 0) F.1 F.2.1 dL_law_921 (by decide) ?_
                                                refine lv_istore (lv' := [(31, .int (nI 0)), (30, .int (nI 1)), (29, .int (nI 0)), (28, .int (nI ((beatS S) 7 u))), (0, .ref x), (1, .ref (a 13)), (2, .ref (z 0)), (3, .int (nI t)), (5, .int (nI (S 0 0))), (6, .int (nI (S 0 1))), (7, .int (nI (S 0 2))), (12, .ref q223), (13, .ref q229), (14, .ref q235), (16, .ref q396), (17, .ref q402), (18, .ref q408), (19, .ref q414), (20, .int (nI (S 0 4))), (21, .int (nI (S 0 5))), (22, .int (nI (S 0 3))), (23, .int (cameI S 1)), (24, .int (nI (cmN S (beatS S) u))), (25, .int (nI (fdN S (beatS S) u))), (26, .int (nI (flN S (beatS S) u))), (27, .int (nI u))]) F.1 F.2.1 dL_law_922 hl (by decide) rfl (fun ls hl => ?_)
                                                refine lv_iload F.1 F.2.1 dL_law_924 (lv_at hl 22 rfl) ?_
                                                refine lv_iload F.1 F.2.1 dL_law_926 (lv_at hl 2 rfl) ?_
                                                refine k_if_eq (tgt := 942) F (by omega) dL_law_928 (by decide) (fun h928 => ?_) (fun h928 => ?_)
                                                · skip
                                                  refine lv_iconst (v := nI 0) F.1 F.2.1 dL_law_942 (by decide) ?_
                                                  refine k_iadd F dL_law_943 ?_
                                                  refine lv_istore (lv' := [(24, .int (nI (cmN S (beatS S) u + 0))), (31, .int (nI 0)), (30, .int (nI 1)), (29, .int (nI 0)), (28, .int (nI ((beatS S) 7 u))), (0, .ref x), (1, .ref (a 13)), (2, .ref (z 0)), (3, .int (nI t)), (5, .int (nI (S 0 0))), (6, .int (nI (S 0 1))), (7, .int (nI (S 0 2))), (12, .ref q223), (13, .ref q229), (14, .ref q235), (16, .ref q396), (17, .ref q402), (18, .ref q408), (19, .ref q414), (20, .int (nI (S 0 4))), (21, .int (nI (S 0 5))), (22, .int (nI (S 0 3))), (23, .int (cameI S 1)), (25, .int (nI (fdN S (beatS S) u))), (26, .int (nI (flN S (beatS S) u))), (27, .int (nI u))]) F.1 F.2.1 dL_law_944 hl (by decide) rfl (fun ls hl => ?_)
                                                  refine lv_iload F.1 F.2.1 dL_law_946 (lv_at hl 23 rfl) ?_
                                                  refine lv_iload F.1 F.2.1 dL_law_948 (lv_at hl 2 rfl) ?_
                                                  refine k_if_eq (tgt := 957) F (by omega) dL_law_950 (by decide) (fun h950 => ?_) (fun h950 => ?_)
                                                  · skip
                                                    exact absurd h950 (by decide)
                                                  · skip
                                                    refine lv_iconst (v := nI 1) F.1 F.2.1 dL_law_953 (by decide) ?_
                                                    refine lv_goto (tgt := 958) F.1 F.2.1 dL_law_954 (by decide) ?_
                                                    refine k_iadd F dL_law_958 ?_
                                                    refine lv_istore (lv' := [(25, .int (nI (fdN S (beatS S) u + 1))), (24, .int (nI (cmN S (beatS S) u + 0))), (31, .int (nI 0)), (30, .int (nI 1)), (29, .int (nI 0)), (28, .int (nI ((beatS S) 7 u))), (0, .ref x), (1, .ref (a 13)), (2, .ref (z 0)), (3, .int (nI t)), (5, .int (nI (S 0 0))), (6, .int (nI (S 0 1))), (7, .int (nI (S 0 2))), (12, .ref q223), (13, .ref q229), (14, .ref q235), (16, .ref q396), (17, .ref q402), (18, .ref q408), (19, .ref q414), (20, .int (nI (S 0 4))), (21, .int (nI (S 0 5))), (22, .int (nI (S 0 3))), (23, .int (cameI S 1)), (26, .int (nI (flN S (beatS S) u))), (27, .int (nI u))]) F.1 F.2.1 dL_law_959 hl (by decide) rfl (fun ls hl => ?_)
                                                    refine lv_iload F.1 F.2.1 dL_law_961 (lv_at hl 24 rfl) ?_
                                                    refine lv_iload F.1 F.2.1 dL_law_963 (lv_at hl 2 rfl) ?_
                                                    refine k_if_eq (tgt := 972) F (by omega) dL_law_965 (by decide) (fun h965 => ?_) (fun h965 => ?_)
                                                    · skip
                                                      refine lv_iconst (v := nI 0) F.1 F.2.1 dL_law_972 (by decide) ?_
                                                      refine k_iadd F dL_law_973 ?_
                                                      refine lv_istore (lv' := [(26, .int (nI (flN S (beatS S) u + 0))), (25, .int (nI (fdN S (beatS S) u + 1))), (24, .int (nI (cmN S (beatS S) u + 0))), (31, .int (nI 0)), (30, .int (nI 1)), (29, .int (nI 0)), (28, .int (nI ((beatS S) 7 u))), (0, .ref x), (1, .ref (a 13)), (2, .ref (z 0)), (3, .int (nI t)), (5, .int (nI (S 0 0))), (6, .int (nI (S 0 1))), (7, .int (nI (S 0 2))), (12, .ref q223), (13, .ref q229), (14, .ref q235), (16, .ref q396), (17, .ref q402), (18, .ref q408), (19, .ref q414), (20, .int (nI (S 0 4))), (21, .int (nI (S 0 5))), (22, .int (nI (S 0 3))), (23, .int (cameI S 1)), (27, .int (nI u))]) F.1 F.2.1 dL_law_974 hl (by decide) rfl (fun ls hl => ?_)
                                                      refine lv_iload F.1 F.2.1 dL_law_976 (lv_at hl 5 rfl) ?_
                                                      refine k_if_eq (tgt := 985) F (by omega) dL_law_978 (by decide) (fun h978 => ?_) (fun h978 => ?_)
                                                      · skip
                                                        refine lv_iconst (v := nI 0) F.1 F.2.1 dL_law_985 (by decide) ?_
                                                        refine lv_iload F.1 F.2.1 dL_law_986 (lv_at hl 4 rfl) ?_
                                                        refine k_if_eq (tgt := 995) F (by omega) dL_law_988 (by decide) (fun h988 => ?_) (fun h988 => ?_)
                                                        · skip
                                                          exact absurd h988 (by decide)
                                                        · skip
                                                          refine lv_iconst (v := nI 1) F.1 F.2.1 dL_law_991 (by decide) ?_
                                                          refine lv_goto (tgt := 996) F.1 F.2.1 dL_law_992 (by decide) ?_
                                                          refine k_iadd F dL_law_996 ?_
                                                          refine lv_iload F.1 F.2.1 dL_law_997 (lv_at hl 3 rfl) ?_
                                                          refine k_if_eq (tgt := 1006) F (by omega) dL_law_999 (by decide) (fun h999 => ?_) (fun h999 => ?_)
                                                          · skip
                                                            refine lv_iconst (v := nI 0) F.1 F.2.1 dL_law_1006 (by decide) ?_
                                                            refine k_iadd F dL_law_1007 ?_
                                                            refine lv_istore (lv' := [(32, .int (nI 1)), (26, .int (nI (flN S (beatS S) u + 0))), (25, .int (nI (fdN S (beatS S) u + 1))), (24, .int (nI (cmN S (beatS S) u + 0))), (31, .int (nI 0)), (30, .int (nI 1)), (29, .int (nI 0)), (28, .int (nI ((beatS S) 7 u))), (0, .ref x), (1, .ref (a 13)), (2, .ref (z 0)), (3, .int (nI t)), (5, .int (nI (S 0 0))), (6, .int (nI (S 0 1))), (7, .int (nI (S 0 2))), (12, .ref q223), (13, .ref q229), (14, .ref q235), (16, .ref q396), (17, .ref q402), (18, .ref q408), (19, .ref q414), (20, .int (nI (S 0 4))), (21, .int (nI (S 0 5))), (22, .int (nI (S 0 3))), (23, .int (cameI S 1)), (27, .int (nI u))]) F.1 F.2.1 dL_law_1008 hl (by decide) rfl (fun ls hl => ?_)
                                                            refine lv_aload F.1 F.2.1 dL_law_1010 (lv_at hl 18 rfl) ?_
                                                            refine lv_iload F.1 F.2.1 dL_law_1012 (lv_at hl 26 rfl) ?_
                                                            refine q_iald (f := fillN (S 7) (S 0 2)) (v := S 7 u) F hK hP (((wSi cI cA z (beatS S)) ++ (wCo cI a b (beatS S) S2)).length + 3) (app_l rfl) (by omega) (by first | omega | decide) (if_pos (by omega)) dL_law_1014 ?_
                                                            have := hI.went u
                                                            refine lv_iload F.1 F.2.1 dL_law_1015 (lv_at hl 12 rfl) ?_
                                                            refine k_icmp_eq (tgt := 1028) F (by omega) (by omega) dL_law_1017 (by decide) (fun h1017 => ?_) (fun h1017 => ?_)
                                                            · skip
                                                              exfalso; omega
                                                            · skip
                                                              refine lv_aload F.1 F.2.1 dL_law_1020 (lv_at hl 21 rfl) ?_
                                                              refine lv_iload F.1 F.2.1 dL_law_1022 (lv_at hl 26 rfl) ?_
                                                              refine q_iald (f := fillN (S 10) (S 0 2)) (v := S 10 u) F hK hP (((wSi cI cA z (beatS S)) ++ (wCo cI a b (beatS S) S2)).length + 6) (app_l rfl) (by omega) (by first | omega | decide) (if_pos (by omega)) dL_law_1024 ?_
                                                              have := hI.back u
                                                              refine k_if_le (tgt := 1032) F (by omega) dL_law_1025 (by decide) (fun h1025 => ?_) (fun h1025 => ?_)
                                                              · skip
                                                                refine lv_iconst (v := nI 0) F.1 F.2.1 dL_law_1032 (by decide) ?_
                                                                refine lv_istore (lv' := [(33, .int (nI 0)), (32, .int (nI 1)), (26, .int (nI (flN S (beatS S) u + 0))), (25, .int (nI (fdN S (beatS S) u + 1))), (24, .int (nI (cmN S (beatS S) u + 0))), (31, .int (nI 0)), (30, .int (nI 1)), (29, .int (nI 0)), (28, .int (nI ((beatS S) 7 u))), (0, .ref x), (1, .ref (a 13)), (2, .ref (z 0)), (3, .int (nI t)), (5, .int (nI (S 0 0))), (6, .int (nI (S 0 1))), (7, .int (nI (S 0 2))), (12, .ref q223), (13, .ref q229), (14, .ref q235), (16, .ref q396), (17, .ref q402), (18, .ref q408), (19, .ref q414), (20, .int (nI (S 0 4))), (21, .int (nI (S 0 5))), (22, .int (nI (S 0 3))), (23, .int (cameI S 1)), (27, .int (nI u))]) F.1 F.2.1 dL_law_1033 hl (by decide) rfl (fun ls hl => ?_)
                                                                refine lv_iload F.1 F.2.1 dL_law_1035 (lv_at hl 1 rfl) ?_
                                                                refine lv_iload F.1 F.2.1 dL_law_1037 (lv_at hl 0 rfl) ?_
                                                                refine k_if_eq (tgt := 1046) F (by omega) dL_law_1039 (by decide) (fun h1039 => ?_) (fun h1039 => ?_)
                                                                · skip
                                                                  refine lv_iconst (v := nI 1) F.1 F.2.1 dL_law_1046 (by decide) ?_
                                                                  refine lv_icmp_ne (tgt := 1175) F.1 F.2.1 dL_law_1047 (by decide) (fun h1047 => ?_) (fun h1047 => ?_)
                                                                  · skip
                                                                    exact absurd h1047 (by decide)
                                                                  · skip
                                                                    refine lv_iload F.1 F.2.1 dL_law_1050 (lv_at hl 6 rfl) ?_
                                                                    refine k_if_ne (tgt := 1069) F (by omega) dL_law_1052 (by decide) (fun h1052 => ?_) (fun h1052 => ?_)
                                                                    · skip
                                                                      refine lv_aload_n F.1 F.2.1 dL_law_1069 rfl (lv_at hl 10 rfl) ?_
                                                                      refine lv_iload F.1 F.2.1 dL_law_1070 (lv_at hl 27 rfl) ?_
                                                                      have ok_41 : r1 ((beatS S) 0 2) (nI u) (nI ((beatS S) 9 (cl (nI u)))) = (0, nI ((beatS S) 9 u)) := by rw [cl_nI (show u < 2 ^ 31 by omega)]; exact r1_y (okI_nI (by omega) (by omega))
                                                                      refine x_tI (n := 1) (rest := []) (v := nI ((beatS S) 9 u)) (w1 := (wCo cI a b (beatS S) S2)) F (c_X3_nerveOf l D cI hst a b (beatS S) S2 (nI u) (by first | exact hI | exact hJ)) (by rw [ok_41]; rfl) (by rw [ok_41]) rfl gL_law_X3_nerveOf rfl (by decide +kernel) ⟨Nat.le_of_ble_eq_true rfl, Nat.le_of_ble_eq_true rfl⟩ rfl hl.1 rfl (Nat.le_of_ble_eq_true rfl) dL_law_1072 ⟨show ce846 + 1 + 1 + 1 + 1 ≤ 600130 by omega, show sl846 + 6 + 6 + 6 + 6 ≤ 7301080 by omega⟩ hK hX hP hD hS (List.append_assoc _ _ _) rfl rfl (((wSi cI cA z (beatS S)) ++ (wCo cI a b (beatS S) S2)) ++ [(q223, .inl (cI, S 0 1, .inl (row (fillN (S 3) (S 0 1))))), (q229, .inl (cI, S 0 1, .inl (row (fillN (S 4) (S 0 1))))), (q235, .inl (cI, S 0 1, .inl (row (fillN (S 5) (S 0 1))))), (q396, .inl (cI, S 0 2, .inl (row (fillN (S 7) (S 0 2))))), (q402, .inl (cI, S 0 2, .inl (row (fillN (S 8) (S 0 2))))), (q408, .inl (cI, S 0 2, .inl (row (fillN (S 9) (S 0 2))))), (q414, .inl (cI, S 0 2, .inl (row (fillN (S 10) (S 0 2)))))]) (List.append_assoc _ _ _).symm (q0 := 0) (ci := 3) rfl rfl (fun H locs hP hD hS => ?_)
                                                                      have := hJ.brave u
                                                                      refine lv_iload F.1 F.2.1 dL_law_1075 (lv_at hl 5 rfl) ?_
                                                                      refine k_if_eq (tgt := 1095) F (by omega) dL_law_1077 (by decide) (fun h1077 => ?_) (fun h1077 => ?_)
                                                                      · skip
                                                                        refine lv_aload F.1 F.2.1 dL_law_1095 (lv_at hl 21 rfl) ?_
                                                                        refine lv_iload F.1 F.2.1 dL_law_1097 (lv_at hl 27 rfl) ?_
                                                                        refine q_iald (f := fillN (S 9) (S 0 2)) (v := S 9 u) F hK hP (((wSi cI cA z (beatS S)) ++ (wCo cI a b (beatS S) S2)).length + 5) (app_l rfl) (by omega) (by first | omega | decide) (if_pos (by omega)) dL_law_1099 ?_
                                                                        have := hI.brave u
                                                                        refine k_icmp_ne (tgt := 1175) F (by omega) (by omega) dL_law_1100 (by decide) (fun h1100 => ?_) (fun h1100 => ?_)
                                                                        · skip
                                                                          exfalso; omega
                                                                        · skip
                                                                          refine lv_iload F.1 F.2.1 dL_law_1103 (lv_at hl 7 rfl) ?_
                                                                          refine k_if_ne (tgt := 1137) F (by omega) dL_law_1105 (by decide) (fun h1105 => ?_) (fun h1105 => ?_)
                                                                          · skip
                                                                            exact absurd h1105 (by decide)
                                                                          · skip
                                                                            refine lv_iload F.1 F.2.1 dL_law_1108 (lv_at hl 8 rfl) ?_
                                                                            refine lv_iload F.1 F.2.1 dL_law_1110 (lv_at hl 5 rfl) ?_
                                                                            refine k_if_eq (tgt := 1129) F (by omega) dL_law_1112 (by decide) (fun h1112 => ?_) (fun h1112 => ?_)
                                                                            · skip
                                                                              refine lv_aload F.1 F.2.1 dL_law_1129 (lv_at hl 19 rfl) ?_
                                                                              refine lv_iload F.1 F.2.1 dL_law_1131 (lv_at hl 27 rfl) ?_
                                                                              refine q_iald (f := fillN (S 7) (S 0 2)) (v := S 7 u) F hK hP (((wSi cI cA z (beatS S)) ++ (wCo cI a b (beatS S) S2)).length + 3) (app_l rfl) (by omega) (by first | omega | decide) (if_pos (by omega)) dL_law_1133 ?_
                                                                              have := hI.went u
                                                                              refine k_icmp_ne (tgt := 1175) F (by omega) (by omega) dL_law_1134 (by decide) (fun h1134 => ?_) (fun h1134 => ?_)
                                                                              · skip
                                                                                exfalso; omega
                                                                              · skip
                                                                                refine lv_iload F.1 F.2.1 dL_law_1137 (lv_at hl 5 rfl) ?_
                                                                                refine k_if_ne (tgt := 1162) F (by omega) dL_law_1139 (by decide) (fun h1139 => ?_) (fun h1139 => ?_)
                                                                                · skip
                                                                                  exact absurd h1139 (by decide)
                                                                                · skip
                                                                                  refine lv_aload_n F.1 F.2.1 dL_law_1142 rfl (lv_at hl 10 rfl) ?_
                                                                                  refine lv_iload F.1 F.2.1 dL_law_1143 (lv_at hl 27 rfl) ?_
                                                                                  have ok_42 : r1 ((beatS S) 0 2) (nI u) (nI ((beatS S) 10 (cl (nI u)))) = (0, nI ((beatS S) 10 u)) := by rw [cl_nI (show u < 2 ^ 31 by omega)]; exact r1_y (okI_nI (by omega) (by omega))
                                                                                  refine x_tI (n := 1) (rest := []) (v := nI ((beatS S) 10 u)) (w1 := (wCo cI a b (beatS S) S2)) F (c_X3_retreatOf l D cI hst a b (beatS S) S2 (nI u) (by first | exact hI | exact hJ)) (by rw [ok_42]; rfl) (by rw [ok_42]) rfl gL_law_X3_retreatOf rfl (by decide +kernel) ⟨Nat.le_of_ble_eq_true rfl, Nat.le_of_ble_eq_true rfl⟩ rfl hl.1 rfl (Nat.le_of_ble_eq_true rfl) dL_law_1145 ⟨show ce846 + 1 + 1 + 1 + 1 + 1 ≤ 600130 by omega, show sl846 + 6 + 6 + 6 + 6 + 6 ≤ 7301080 by omega⟩ hK hX hP hD hS (List.append_assoc _ _ _) rfl rfl (((wSi cI cA z (beatS S)) ++ (wCo cI a b (beatS S) S2)) ++ [(q223, .inl (cI, S 0 1, .inl (row (fillN (S 3) (S 0 1))))), (q229, .inl (cI, S 0 1, .inl (row (fillN (S 4) (S 0 1))))), (q235, .inl (cI, S 0 1, .inl (row (fillN (S 5) (S 0 1))))), (q396, .inl (cI, S 0 2, .inl (row (fillN (S 7) (S 0 2))))), (q402, .inl (cI, S 0 2, .inl (row (fillN (S 8) (S 0 2))))), (q408, .inl (cI, S 0 2, .inl (row (fillN (S 9) (S 0 2))))), (q414, .inl (cI, S 0 2, .inl (row (fillN (S 10) (S 0 2)))))]) (List.append_assoc _ _ _).symm (q0 := 0) (ci := 3) rfl rfl (fun H locs hP hD hS => ?_)
                                                                                  have := hJ.back u
                                                                                  refine lv_iconst (v := nI 0) F.1 F.2.1 dL_law_1148 (by decide) ?_
                                                                                  refine lv_aload F.1 F.2.1 dL_law_1149 (lv_at hl 22 rfl) ?_
                                                                                  refine lv_iload F.1 F.2.1 dL_law_1151 (lv_at hl 27 rfl) ?_
                                                                                  refine q_iald (f := fillN (S 10) (S 0 2)) (v := S 10 u) F hK hP (((wSi cI cA z (beatS S)) ++ (wCo cI a b (beatS S) S2)).length + 6) (app_l rfl) (by omega) (by first | omega | decide) (if_pos (by omega)) dL_law_1153 ?_
                                                                                  have := hI.back u
                                                                                  refine lv_iconst (v := nI 1) F.1 F.2.1 dL_law_1154 (by decide) ?_
                                                                                  refine lv_isub F.1 F.2.1 dL_law_1155 ?_
                                                                                  refine k_max0 F hl.1 (List.mem_of_getElem? (i := 8) rfl) (List.mem_of_getElem? (i := 9) rfl) (List.mem_of_getElem? (i := 6) rfl) (List.mem_of_getElem? (i := 10) rfl) (Nat.le_of_ble_eq_true rfl) (Nat.le_of_ble_eq_true rfl) ⟨show ce846 + 1 + 1 + 1 + 1 + 1 ≤ 600130 by omega, show sl846 + 6 + 6 + 6 + 6 + 6 ≤ 7301080 by omega⟩ (by omega) (by omega) (by omega) dL_law_1156 ?_
                                                                                  refine k_icmp_ne (tgt := 1175) F (by omega) (by omega) dL_law_1159 (by decide) (fun h1159 => ?_) (fun h1159 => ?_)
                                                                                  · skip
                                                                                    exfalso; omega
                                                                                  · skip
                                                                                    refine lv_iload F.1 F.2.1 dL_law_1162 (lv_at hl 5 rfl) ?_
                                                                                    refine k_if_eq (tgt := 1177) F (by omega) dL_law_1164 (by decide) (fun h1164 => ?_) (fun h1164 => ?_)
                                                                                    · skip
                                                                                      refine k_inc (k := 27) (lv' := [(27, .int (nI (u + 1))), (33, .int (nI 0)), (32, .int (nI 1)), (26, .int (nI (flN S (beatS S) u + 0))), (25, .int (nI (fdN S (beatS S) u + 1))), (24, .int (nI (cmN S (beatS S) u + 0))), (31, .int (nI 0)), (30, .int (nI 1)), (29, .int (nI 0)), (28, .int (nI ((beatS S) 7 u))), (0, .ref x), (1, .ref (a 13)), (2, .ref (z 0)), (3, .int (nI t)), (5, .int (nI (S 0 0))), (6, .int (nI (S 0 1))), (7, .int (nI (S 0 2))), (12, .ref q223), (13, .ref q229), (14, .ref q235), (16, .ref q396), (17, .ref q402), (18, .ref q408), (19, .ref q414), (20, .int (nI (S 0 4))), (21, .int (nI (S 0 5))), (22, .int (nI (S 0 3))), (23, .int (cameI S 1))]) F dL_law_1177 hl rfl (by decide) rfl (fun ls hl => ?_)
                                                                                      refine lv_goto (tgt := 846) F.1 F.2.1 dL_law_1180 (by decide) ?_
                                                                                      have e_43 : (cmN S (beatS S) u + 0) = cmN S (beatS S) (u + 1) := by show cmN S (beatS S) u = _; rw [show cmN S (beatS S) (u + 1) = if (beatS S) 7 u = S 7 u + 1 ∧ (beatS S) 7 u = S 0 0 then cmN S (beatS S) u + 1 else cmN S (beatS S) u from rfl, if_neg (by omega)]
                                                                                      rw [e_43] at hl
                                                                                      have e_44 : (fdN S (beatS S) u + 1) = fdN S (beatS S) (u + 1) := by rw [show fdN S (beatS S) (u + 1) = if (beatS S) 8 u + 1 = S 8 u then fdN S (beatS S) u + 1 else fdN S (beatS S) u from rfl, if_pos (by omega)]
                                                                                      rw [e_44] at hl
                                                                                      have e_45 : (flN S (beatS S) u + 0) = flN S (beatS S) (u + 1) := by show flN S (beatS S) u = _; rw [show flN S (beatS S) (u + 1) = if S 10 u < (beatS S) 10 u then flN S (beatS S) u + 1 else flN S (beatS S) u from rfl, if_neg (by omega)]
                                                                                      rw [e_45] at hl
                                                                                      exact ih846 (u + 1) (by omega) (by omega)  (ce846 + 1 + 1 + 1 + 1 + 1) (sl846 + 6 + 6 + 6 + 6 + 6) (by omega) (by omega) _ _ _ hP hD hS (lv_sub hl [10, 11, 12, 13, 14, 15, 16, 17, 18, 19, 20, 21, 22, 23, 24, 25, 26, 27, 5, 4, 3, 0] rfl)
                                                                                    · skip
                                                                                      exact absurd h1164 (by decide)
                                                                            · skip
                                                                              exact absurd h1112 (by decide)
                                                                      · skip
                                                                        exact absurd h1077 (by decide)
                                                                    · skip
                                                                      exact absurd h1052 (by decide)
                                                                · skip
                                                                  exact absurd h1039 (by decide)
                                                              · skip
                                                                exfalso; omega
                                                          · skip
                                                            exact absurd h999 (by decide)
                                                      · skip
                                                        exact absurd h978 (by decide)
                                                    · skip
                                                      exact absurd h965 (by decide)
                                                · skip
                                                  exact absurd h928 (by decide)
                                              · skip
                                                exfalso; omega
                                          · skip
                                            exfalso; omega
                                        · skip
                                          refine lv_aload_n F.1 F.2.1 dL_law_853 rfl (lv_at hl 1 rfl) ?_
                                          refine lv_iload F.1 F.2.1 dL_law_854 (lv_at hl 21 rfl) ?_
                                          have ok_46 : r1 ((beatS S) 0 2) (nI u) (nI ((beatS S) 7 (cl (nI u)))) = (0, nI ((beatS S) 7 u)) := by rw [cl_nI (show u < 2 ^ 31 by omega)]; exact r1_y (okI_nI (by omega) (by omega))
                                          refine x_tI (n := 1) (rest := []) (v := nI ((beatS S) 7 u)) (w1 := (wCo cI a b (beatS S) S2)) F (c_X3_passedBy l D cI hst a b (beatS S) S2 (nI u) (by first | exact hI | exact hJ)) (by rw [ok_46]; rfl) (by rw [ok_46]) rfl gL_law_X3_passedBy rfl (by decide +kernel) ⟨Nat.le_of_ble_eq_true rfl, Nat.le_of_ble_eq_true rfl⟩ rfl hl.1 rfl (Nat.le_of_ble_eq_true rfl) dL_law_856 ⟨show ce846 + 1 ≤ 600130 by omega, show sl846 + 6 ≤ 7301080 by omega⟩ hK hX hP hD hS (List.append_assoc _ _ _) rfl rfl (((wSi cI cA z (beatS S)) ++ (wCo cI a b (beatS S) S2)) ++ [(q223, .inl (cI, S 0 1, .inl (row (fillN (S 3) (S 0 1))))), (q229, .inl (cI, S 0 1, .inl (row (fillN (S 4) (S 0 1))))), (q235, .inl (cI, S 0 1, .inl (row (fillN (S 5) (S 0 1))))), (q396, .inl (cI, S 0 2, .inl (row (fillN (S 7) (S 0 2))))), (q402, .inl (cI, S 0 2, .inl (row (fillN (S 8) (S 0 2))))), (q408, .inl (cI, S 0 2, .inl (row (fillN (S 9) (S 0 2))))), (q414, .inl (cI, S 0 2, .inl (row (fillN (S 10) (S 0 2)))))]) (List.append_assoc _ _ _).symm (q0 := 0) (ci := 3) rfl rfl (fun H locs hP hD hS => ?_)
                                          have := hJ.went u
                                          refine lv_istore (lv' := [(28, .int (nI ((beatS S) 7 u))), (0, .ref x), (1, .ref (a 13)), (2, .ref (z 0)), (3, .int (nI t)), (5, .int (nI (S 0 0))), (6, .int (nI (S 0 1))), (7, .int (nI (S 0 2))), (12, .ref q223), (13, .ref q229), (14, .ref q235), (16, .ref q396), (17, .ref q402), (18, .ref q408), (19, .ref q414), (20, .int (nI (S 0 4))), (21, .int (nI (S 0 5))), (22, .int (nI (S 0 3))), (23, .int (cameI S 1)), (24, .int (nI (cmN S (beatS S) u))), (25, .int (nI (fdN S (beatS S) u))), (26, .int (nI (flN S (beatS S) u))), (27, .int (nI u))]) F.1 F.2.1 dL_law_859 hl (by decide) rfl (fun ls hl => ?_)
                                          refine lv_iload F.1 F.2.1 dL_law_861 (lv_at hl 0 rfl) ?_
                                          refine lv_aload F.1 F.2.1 dL_law_863 (lv_at hl 11 rfl) ?_
                                          refine lv_iload F.1 F.2.1 dL_law_865 (lv_at hl 22 rfl) ?_
                                          refine q_iald (f := fillN (S 7) (S 0 2)) (v := S 7 u) F hK hP (((wSi cI cA z (beatS S)) ++ (wCo cI a b (beatS S) S2)).length + 3) (app_l rfl) (by omega) (by first | omega | decide) (if_pos (by omega)) dL_law_867 ?_
                                          have := hI.went u
                                          refine lv_iconst (v := nI 1) F.1 F.2.1 dL_law_868 (by decide) ?_
                                          refine k_iadd F dL_law_869 ?_
                                          refine k_icmp_ne (tgt := 877) F (by omega) (by omega) dL_law_870 (by decide) (fun h870 => ?_) (fun h870 => ?_)
                                          · skip
                                            refine lv_iconst (v := nI 0) F.1 F.2.1 dL_law_877 (by decide) ?_
                                            refine lv_istore (lv' := [(29, .int (nI 0)), (28, .int (nI ((beatS S) 7 u))), (0, .ref x), (1, .ref (a 13)), (2, .ref (z 0)), (3, .int (nI t)), (5, .int (nI (S 0 0))), (6, .int (nI (S 0 1))), (7, .int (nI (S 0 2))), (12, .ref q223), (13, .ref q229), (14, .ref q235), (16, .ref q396), (17, .ref q402), (18, .ref q408), (19, .ref q414), (20, .int (nI (S 0 4))), (21, .int (nI (S 0 5))), (22, .int (nI (S 0 3))), (23, .int (cameI S 1)), (24, .int (nI (cmN S (beatS S) u))), (25, .int (nI (fdN S (beatS S) u))), (26, .int (nI (flN S (beatS S) u))), (27, .int (nI u))]) F.1 F.2.1 dL_law_878 hl (by decide) rfl (fun ls hl => ?_)
                                            refine lv_aload_n F.1 F.2.1 dL_law_880 rfl (lv_at hl 3 rfl) ?_
                                            refine lv_iload F.1 F.2.1 dL_law_881 (lv_at hl 23 rfl) ?_
                                            have ok_47 : r1 ((beatS S) 0 2) (nI u) (nI ((beatS S) 8 (cl (nI u)))) = (0, nI ((beatS S) 8 u)) := by rw [cl_nI (show u < 2 ^ 31 by omega)]; exact r1_y (okI_nI (by omega) (by omega))
                                            refine x_tI (n := 1) (rest := []) (v := nI ((beatS S) 8 u)) (w1 := (wCo cI a b (beatS S) S2)) F (c_X3_cornsOf l D cI hst a b (beatS S) S2 (nI u) (by first | exact hI | exact hJ)) (by rw [ok_47]; rfl) (by rw [ok_47]) rfl gL_law_X3_cornsOf rfl (by decide +kernel) ⟨Nat.le_of_ble_eq_true rfl, Nat.le_of_ble_eq_true rfl⟩ rfl hl.1 rfl (Nat.le_of_ble_eq_true rfl) dL_law_883 ⟨show ce846 + 1 + 1 ≤ 600130 by omega, show sl846 + 6 + 6 ≤ 7301080 by omega⟩ hK hX hP hD hS (List.append_assoc _ _ _) rfl rfl (((wSi cI cA z (beatS S)) ++ (wCo cI a b (beatS S) S2)) ++ [(q223, .inl (cI, S 0 1, .inl (row (fillN (S 3) (S 0 1))))), (q229, .inl (cI, S 0 1, .inl (row (fillN (S 4) (S 0 1))))), (q235, .inl (cI, S 0 1, .inl (row (fillN (S 5) (S 0 1))))), (q396, .inl (cI, S 0 2, .inl (row (fillN (S 7) (S 0 2))))), (q402, .inl (cI, S 0 2, .inl (row (fillN (S 8) (S 0 2))))), (q408, .inl (cI, S 0 2, .inl (row (fillN (S 9) (S 0 2))))), (q414, .inl (cI, S 0 2, .inl (row (fillN (S 10) (S 0 2)))))]) (List.append_assoc _ _ _).symm (q0 := 0) (ci := 3) rfl rfl (fun H locs hP hD hS => ?_)
                                            have := hJ.has u
                                            refine lv_aload F.1 F.2.1 dL_law_886 (lv_at hl 13 rfl) ?_
                                            refine lv_iload F.1 F.2.1 dL_law_888 (lv_at hl 23 rfl) ?_
                                            refine q_iald (f := fillN (S 8) (S 0 2)) (v := S 8 u) F hK hP (((wSi cI cA z (beatS S)) ++ (wCo cI a b (beatS S) S2)).length + 4) (app_l rfl) (by omega) (by first | omega | decide) (if_pos (by omega)) dL_law_890 ?_
                                            have := hI.has u
                                            refine lv_iconst (v := nI 1) F.1 F.2.1 dL_law_891 (by decide) ?_
                                            refine lv_isub F.1 F.2.1 dL_law_892 ?_
                                            refine k_ne_m1 (tgt := 900) F (by omega) (by omega) dL_law_893 (by decide) (fun h893 => ?_) (fun h893 => ?_)
                                            · skip
                                              refine lv_iconst (v := nI 0) F.1 F.2.1 dL_law_900 (by decide) ?_
                                              refine lv_istore (lv' := [(30, .int (nI 0)), (29, .int (nI 0)), (28, .int (nI ((beatS S) 7 u))), (0, .ref x), (1, .ref (a 13)), (2, .ref (z 0)), (3, .int (nI t)), (5, .int (nI (S 0 0))), (6, .int (nI (S 0 1))), (7, .int (nI (S 0 2))), (12, .ref q223), (13, .ref q229), (14, .ref q235), (16, .ref q396), (17, .ref q402), (18, .ref q408), (19, .ref q414), (20, .int (nI (S 0 4))), (21, .int (nI (S 0 5))), (22, .int (nI (S 0 3))), (23, .int (cameI S 1)), (24, .int (nI (cmN S (beatS S) u))), (25, .int (nI (fdN S (beatS S) u))), (26, .int (nI (flN S (beatS S) u))), (27, .int (nI u))]) F.1 F.2.1 dL_law_901 hl (by decide) rfl (fun ls hl => ?_)
                                              refine lv_aload_n F.1 F.2.1 dL_law_903 rfl (lv_at hl 4 rfl) ?_
                                              refine lv_iload F.1 F.2.1 dL_law_904 (lv_at hl 24 rfl) ?_
                                              have ok_48 : r1 ((beatS S) 0 2) (nI u) (nI ((beatS S) 10 (cl (nI u)))) = (0, nI ((beatS S) 10 u)) := by rw [cl_nI (show u < 2 ^ 31 by omega)]; exact r1_y (okI_nI (by omega) (by omega))
                                              refine x_tI (n := 1) (rest := []) (v := nI ((beatS S) 10 u)) (w1 := (wCo cI a b (beatS S) S2)) F (c_X3_retreatOf l D cI hst a b (beatS S) S2 (nI u) (by first | exact hI | exact hJ)) (by rw [ok_48]; rfl) (by rw [ok_48]) rfl gL_law_X3_retreatOf rfl (by decide +kernel) ⟨Nat.le_of_ble_eq_true rfl, Nat.le_of_ble_eq_true rfl⟩ rfl hl.1 rfl (Nat.le_of_ble_eq_true rfl) dL_law_906 ⟨show ce846 + 1 + 1 + 1 ≤ 600130 by omega, show sl846 + 6 + 6 + 6 ≤ 7301080 by omega⟩ hK hX hP hD hS (List.append_assoc _ _ _) rfl rfl (((wSi cI cA z (beatS S)) ++ (wCo cI a b (beatS S) S2)) ++ [(q223, .inl (cI, S 0 1, .inl (row (fillN (S 3) (S 0 1))))), (q229, .inl (cI, S 0 1, .inl (row (fillN (S 4) (S 0 1))))), (q235, .inl (cI, S 0 1, .inl (row (fillN (S 5) (S 0 1))))), (q396, .inl (cI, S 0 2, .inl (row (fillN (S 7) (S 0 2))))), (q402, .inl (cI, S 0 2, .inl (row (fillN (S 8) (S 0 2))))), (q408, .inl (cI, S 0 2, .inl (row (fillN (S 9) (S 0 2))))), (q414, .inl (cI, S 0 2, .inl (row (fillN (S 10) (S 0 2)))))]) (List.append_assoc _ _ _).symm (q0 := 0) (ci := 3) rfl rfl (fun H locs hP hD hS => ?_)
                                              have := hJ.back u
                                              refine lv_aload F.1 F.2.1 dL_law_909 (lv_at hl 16 rfl) ?_
                                              refine lv_iload F.1 F.2.1 dL_law_911 (lv_at hl 24 rfl) ?_
                                              refine q_iald (f := fillN (S 10) (S 0 2)) (v := S 10 u) F hK hP (((wSi cI cA z (beatS S)) ++ (wCo cI a b (beatS S) S2)).length + 6) (app_l rfl) (by omega) (by first | omega | decide) (if_pos (by omega)) dL_law_913 ?_
                                              have := hI.back u
                                              refine k_icmp_le (tgt := 921) F (by omega) (by omega) dL_law_914 (by decide) (fun h914 => ?_) (fun h914 => ?_)
                                              · skip
                                                exfalso; omega
                                              · skip
                                                refine lv_iconst (v := nI 1) F.1 F.2.1 dL_law_917 (by decide) ?_
                                                refine lv_goto (tgt := 922) F.1 F.2.1 dL_law_918 (by decide) ?_
                                                refine lv_istore (lv' := [(31, .int (nI 1)), (30, .int (nI 0)), (29, .int (nI 0)), (28, .int (nI ((beatS S) 7 u))), (0, .ref x), (1, .ref (a 13)), (2, .ref (z 0)), (3, .int (nI t)), (5, .int (nI (S 0 0))), (6, .int (nI (S 0 1))), (7, .int (nI (S 0 2))), (12, .ref q223), (13, .ref q229), (14, .ref q235), (16, .ref q396), (17, .ref q402), (18, .ref q408), (19, .ref q414), (20, .int (nI (S 0 4))), (21, .int (nI (S 0 5))), (22, .int (nI (S 0 3))), (23, .int (cameI S 1)), (24, .int (nI (cmN S (beatS S) u))), (25, .int (nI (fdN S (beatS S) u))), (26, .int (nI (flN S (beatS S) u))), (27, .int (nI u))]) F.1 F.2.1 dL_law_922 hl (by decide) rfl (fun ls hl => ?_)
                                                refine lv_iload F.1 F.2.1 dL_law_924 (lv_at hl 22 rfl) ?_
                                                refine lv_iload F.1 F.2.1 dL_law_926 (lv_at hl 2 rfl) ?_
                                                refine k_if_eq (tgt := 942) F (by omega) dL_law_928 (by decide) (fun h928 => ?_) (fun h928 => ?_)
                                                · skip
                                                  refine lv_iconst (v := nI 0) F.1 F.2.1 dL_law_942 (by decide) ?_
                                                  refine k_iadd F dL_law_943 ?_
                                                  refine lv_istore (lv' := [(24, .int (nI (cmN S (beatS S) u + 0))), (31, .int (nI 1)), (30, .int (nI 0)), (29, .int (nI 0)), (28, .int (nI ((beatS S) 7 u))), (0, .ref x), (1, .ref (a 13)), (2, .ref (z 0)), (3, .int (nI t)), (5, .int (nI (S 0 0))), (6, .int (nI (S 0 1))), (7, .int (nI (S 0 2))), (12, .ref q223), (13, .ref q229), (14, .ref q235), (16, .ref q396), (17, .ref q402), (18, .ref q408), (19, .ref q414), (20, .int (nI (S 0 4))), (21, .int (nI (S 0 5))), (22, .int (nI (S 0 3))), (23, .int (cameI S 1)), (25, .int (nI (fdN S (beatS S) u))), (26, .int (nI (flN S (beatS S) u))), (27, .int (nI u))]) F.1 F.2.1 dL_law_944 hl (by decide) rfl (fun ls hl => ?_)
                                                  refine lv_iload F.1 F.2.1 dL_law_946 (lv_at hl 23 rfl) ?_
                                                  refine lv_iload F.1 F.2.1 dL_law_948 (lv_at hl 2 rfl) ?_
                                                  refine k_if_eq (tgt := 957) F (by omega) dL_law_950 (by decide) (fun h950 => ?_) (fun h950 => ?_)
                                                  · skip
                                                    refine lv_iconst (v := nI 0) F.1 F.2.1 dL_law_957 (by decide) ?_
                                                    refine k_iadd F dL_law_958 ?_
                                                    refine lv_istore (lv' := [(25, .int (nI (fdN S (beatS S) u + 0))), (24, .int (nI (cmN S (beatS S) u + 0))), (31, .int (nI 1)), (30, .int (nI 0)), (29, .int (nI 0)), (28, .int (nI ((beatS S) 7 u))), (0, .ref x), (1, .ref (a 13)), (2, .ref (z 0)), (3, .int (nI t)), (5, .int (nI (S 0 0))), (6, .int (nI (S 0 1))), (7, .int (nI (S 0 2))), (12, .ref q223), (13, .ref q229), (14, .ref q235), (16, .ref q396), (17, .ref q402), (18, .ref q408), (19, .ref q414), (20, .int (nI (S 0 4))), (21, .int (nI (S 0 5))), (22, .int (nI (S 0 3))), (23, .int (cameI S 1)), (26, .int (nI (flN S (beatS S) u))), (27, .int (nI u))]) F.1 F.2.1 dL_law_959 hl (by decide) rfl (fun ls hl => ?_)
                                                    refine lv_iload F.1 F.2.1 dL_law_961 (lv_at hl 24 rfl) ?_
                                                    refine lv_iload F.1 F.2.1 dL_law_963 (lv_at hl 2 rfl) ?_
                                                    refine k_if_eq (tgt := 972) F (by omega) dL_law_965 (by decide) (fun h965 => ?_) (fun h965 => ?_)
                                                    · skip
                                                      exact absurd h965 (by decide)
                                                    · skip
                                                      refine lv_iconst (v := nI 1) F.1 F.2.1 dL_law_968 (by decide) ?_
                                                      refine lv_goto (tgt := 973) F.1 F.2.1 dL_law_969 (by decide) ?_
                                                      refine k_iadd F dL_law_973 ?_
                                                      refine lv_istore (lv' := [(26, .int (nI (flN S (beatS S) u + 1))), (25, .int (nI (fdN S (beatS S) u + 0))), (24, .int (nI (cmN S (beatS S) u + 0))), (31, .int (nI 1)), (30, .int (nI 0)), (29, .int (nI 0)), (28, .int (nI ((beatS S) 7 u))), (0, .ref x), (1, .ref (a 13)), (2, .ref (z 0)), (3, .int (nI t)), (5, .int (nI (S 0 0))), (6, .int (nI (S 0 1))), (7, .int (nI (S 0 2))), (12, .ref q223), (13, .ref q229), (14, .ref q235), (16, .ref q396), (17, .ref q402), (18, .ref q408), (19, .ref q414), (20, .int (nI (S 0 4))), (21, .int (nI (S 0 5))), (22, .int (nI (S 0 3))), (23, .int (cameI S 1)), (27, .int (nI u))]) F.1 F.2.1 dL_law_974 hl (by decide) rfl (fun ls hl => ?_)
                                                      refine lv_iload F.1 F.2.1 dL_law_976 (lv_at hl 5 rfl) ?_
                                                      refine k_if_eq (tgt := 985) F (by omega) dL_law_978 (by decide) (fun h978 => ?_) (fun h978 => ?_)
                                                      · skip
                                                        refine lv_iconst (v := nI 0) F.1 F.2.1 dL_law_985 (by decide) ?_
                                                        refine lv_iload F.1 F.2.1 dL_law_986 (lv_at hl 4 rfl) ?_
                                                        refine k_if_eq (tgt := 995) F (by omega) dL_law_988 (by decide) (fun h988 => ?_) (fun h988 => ?_)
                                                        · skip
                                                          refine lv_iconst (v := nI 0) F.1 F.2.1 dL_law_995 (by decide) ?_
                                                          refine k_iadd F dL_law_996 ?_
                                                          refine lv_iload F.1 F.2.1 dL_law_997 (lv_at hl 3 rfl) ?_
                                                          refine k_if_eq (tgt := 1006) F (by omega) dL_law_999 (by decide) (fun h999 => ?_) (fun h999 => ?_)
                                                          · skip
                                                            exact absurd h999 (by decide)
                                                          · skip
                                                            refine lv_iconst (v := nI 1) F.1 F.2.1 dL_law_1002 (by decide) ?_
                                                            refine lv_goto (tgt := 1007) F.1 F.2.1 dL_law_1003 (by decide) ?_
                                                            refine k_iadd F dL_law_1007 ?_
                                                            refine lv_istore (lv' := [(32, .int (nI 1)), (26, .int (nI (flN S (beatS S) u + 1))), (25, .int (nI (fdN S (beatS S) u + 0))), (24, .int (nI (cmN S (beatS S) u + 0))), (31, .int (nI 1)), (30, .int (nI 0)), (29, .int (nI 0)), (28, .int (nI ((beatS S) 7 u))), (0, .ref x), (1, .ref (a 13)), (2, .ref (z 0)), (3, .int (nI t)), (5, .int (nI (S 0 0))), (6, .int (nI (S 0 1))), (7, .int (nI (S 0 2))), (12, .ref q223), (13, .ref q229), (14, .ref q235), (16, .ref q396), (17, .ref q402), (18, .ref q408), (19, .ref q414), (20, .int (nI (S 0 4))), (21, .int (nI (S 0 5))), (22, .int (nI (S 0 3))), (23, .int (cameI S 1)), (27, .int (nI u))]) F.1 F.2.1 dL_law_1008 hl (by decide) rfl (fun ls hl => ?_)
                                                            refine lv_aload F.1 F.2.1 dL_law_1010 (lv_at hl 18 rfl) ?_
                                                            refine lv_iload F.1 F.2.1 dL_law_1012 (lv_at hl 26 rfl) ?_
                                                            refine q_iald (f := fillN (S 7) (S 0 2)) (v := S 7 u) F hK hP (((wSi cI cA z (beatS S)) ++ (wCo cI a b (beatS S) S2)).length + 3) (app_l rfl) (by omega) (by first | omega | decide) (if_pos (by omega)) dL_law_1014 ?_
                                                            have := hI.went u
                                                            refine lv_iload F.1 F.2.1 dL_law_1015 (lv_at hl 12 rfl) ?_
                                                            refine k_icmp_eq (tgt := 1028) F (by omega) (by omega) dL_law_1017 (by decide) (fun h1017 => ?_) (fun h1017 => ?_)
                                                            · skip
                                                              exfalso; omega
                                                            · skip
                                                              refine lv_aload F.1 F.2.1 dL_law_1020 (lv_at hl 21 rfl) ?_
                                                              refine lv_iload F.1 F.2.1 dL_law_1022 (lv_at hl 26 rfl) ?_
                                                              refine q_iald (f := fillN (S 10) (S 0 2)) (v := S 10 u) F hK hP (((wSi cI cA z (beatS S)) ++ (wCo cI a b (beatS S) S2)).length + 6) (app_l rfl) (by omega) (by first | omega | decide) (if_pos (by omega)) dL_law_1024 ?_
                                                              have := hI.back u
                                                              refine k_if_le (tgt := 1032) F (by omega) dL_law_1025 (by decide) (fun h1025 => ?_) (fun h1025 => ?_)
                                                              · skip
                                                                refine lv_iconst (v := nI 0) F.1 F.2.1 dL_law_1032 (by decide) ?_
                                                                refine lv_istore (lv' := [(33, .int (nI 0)), (32, .int (nI 1)), (26, .int (nI (flN S (beatS S) u + 1))), (25, .int (nI (fdN S (beatS S) u + 0))), (24, .int (nI (cmN S (beatS S) u + 0))), (31, .int (nI 1)), (30, .int (nI 0)), (29, .int (nI 0)), (28, .int (nI ((beatS S) 7 u))), (0, .ref x), (1, .ref (a 13)), (2, .ref (z 0)), (3, .int (nI t)), (5, .int (nI (S 0 0))), (6, .int (nI (S 0 1))), (7, .int (nI (S 0 2))), (12, .ref q223), (13, .ref q229), (14, .ref q235), (16, .ref q396), (17, .ref q402), (18, .ref q408), (19, .ref q414), (20, .int (nI (S 0 4))), (21, .int (nI (S 0 5))), (22, .int (nI (S 0 3))), (23, .int (cameI S 1)), (27, .int (nI u))]) F.1 F.2.1 dL_law_1033 hl (by decide) rfl (fun ls hl => ?_)
                                                                refine lv_iload F.1 F.2.1 dL_law_1035 (lv_at hl 1 rfl) ?_
                                                                refine lv_iload F.1 F.2.1 dL_law_1037 (lv_at hl 0 rfl) ?_
                                                                refine k_if_eq (tgt := 1046) F (by omega) dL_law_1039 (by decide) (fun h1039 => ?_) (fun h1039 => ?_)
                                                                · skip
                                                                  refine lv_iconst (v := nI 1) F.1 F.2.1 dL_law_1046 (by decide) ?_
                                                                  refine lv_icmp_ne (tgt := 1175) F.1 F.2.1 dL_law_1047 (by decide) (fun h1047 => ?_) (fun h1047 => ?_)
                                                                  · skip
                                                                    exact absurd h1047 (by decide)
                                                                  · skip
                                                                    refine lv_iload F.1 F.2.1 dL_law_1050 (lv_at hl 6 rfl) ?_
                                                                    refine k_if_ne (tgt := 1069) F (by omega) dL_law_1052 (by decide) (fun h1052 => ?_) (fun h1052 => ?_)
                                                                    · skip
                                                                      exact absurd h1052 (by decide)
                                                                    · skip
                                                                      refine lv_aload_n F.1 F.2.1 dL_law_1055 rfl (lv_at hl 10 rfl) ?_
                                                                      refine lv_iload F.1 F.2.1 dL_law_1056 (lv_at hl 27 rfl) ?_
                                                                      have ok_49 : r1 ((beatS S) 0 2) (nI u) (nI ((beatS S) 8 (cl (nI u)))) = (0, nI ((beatS S) 8 u)) := by rw [cl_nI (show u < 2 ^ 31 by omega)]; exact r1_y (okI_nI (by omega) (by omega))
                                                                      refine x_tI (n := 1) (rest := []) (v := nI ((beatS S) 8 u)) (w1 := (wCo cI a b (beatS S) S2)) F (c_X3_cornsOf l D cI hst a b (beatS S) S2 (nI u) (by first | exact hI | exact hJ)) (by rw [ok_49]; rfl) (by rw [ok_49]) rfl gL_law_X3_cornsOf rfl (by decide +kernel) ⟨Nat.le_of_ble_eq_true rfl, Nat.le_of_ble_eq_true rfl⟩ rfl hl.1 rfl (Nat.le_of_ble_eq_true rfl) dL_law_1058 ⟨show ce846 + 1 + 1 + 1 + 1 ≤ 600130 by omega, show sl846 + 6 + 6 + 6 + 6 ≤ 7301080 by omega⟩ hK hX hP hD hS (List.append_assoc _ _ _) rfl rfl (((wSi cI cA z (beatS S)) ++ (wCo cI a b (beatS S) S2)) ++ [(q223, .inl (cI, S 0 1, .inl (row (fillN (S 3) (S 0 1))))), (q229, .inl (cI, S 0 1, .inl (row (fillN (S 4) (S 0 1))))), (q235, .inl (cI, S 0 1, .inl (row (fillN (S 5) (S 0 1))))), (q396, .inl (cI, S 0 2, .inl (row (fillN (S 7) (S 0 2))))), (q402, .inl (cI, S 0 2, .inl (row (fillN (S 8) (S 0 2))))), (q408, .inl (cI, S 0 2, .inl (row (fillN (S 9) (S 0 2))))), (q414, .inl (cI, S 0 2, .inl (row (fillN (S 10) (S 0 2)))))]) (List.append_assoc _ _ _).symm (q0 := 0) (ci := 3) rfl rfl (fun H locs hP hD hS => ?_)
                                                                      have := hJ.has u
                                                                      refine lv_aload F.1 F.2.1 dL_law_1061 (lv_at hl 20 rfl) ?_
                                                                      refine lv_iload F.1 F.2.1 dL_law_1063 (lv_at hl 27 rfl) ?_
                                                                      refine q_iald (f := fillN (S 8) (S 0 2)) (v := S 8 u) F hK hP (((wSi cI cA z (beatS S)) ++ (wCo cI a b (beatS S) S2)).length + 4) (app_l rfl) (by omega) (by first | omega | decide) (if_pos (by omega)) dL_law_1065 ?_
                                                                      have := hI.has u
                                                                      refine k_icmp_ne (tgt := 1175) F (by omega) (by omega) dL_law_1066 (by decide) (fun h1066 => ?_) (fun h1066 => ?_)
                                                                      · skip
                                                                        exfalso; omega
                                                                      · skip
                                                                        refine lv_aload_n F.1 F.2.1 dL_law_1069 rfl (lv_at hl 10 rfl) ?_
                                                                        refine lv_iload F.1 F.2.1 dL_law_1070 (lv_at hl 27 rfl) ?_
                                                                        have ok_50 : r1 ((beatS S) 0 2) (nI u) (nI ((beatS S) 9 (cl (nI u)))) = (0, nI ((beatS S) 9 u)) := by rw [cl_nI (show u < 2 ^ 31 by omega)]; exact r1_y (okI_nI (by omega) (by omega))
                                                                        refine x_tI (n := 1) (rest := []) (v := nI ((beatS S) 9 u)) (w1 := (wCo cI a b (beatS S) S2)) F (c_X3_nerveOf l D cI hst a b (beatS S) S2 (nI u) (by first | exact hI | exact hJ)) (by rw [ok_50]; rfl) (by rw [ok_50]) rfl gL_law_X3_nerveOf rfl (by decide +kernel) ⟨Nat.le_of_ble_eq_true rfl, Nat.le_of_ble_eq_true rfl⟩ rfl hl.1 rfl (Nat.le_of_ble_eq_true rfl) dL_law_1072 ⟨show ce846 + 1 + 1 + 1 + 1 + 1 ≤ 600130 by omega, show sl846 + 6 + 6 + 6 + 6 + 6 ≤ 7301080 by omega⟩ hK hX hP hD hS (List.append_assoc _ _ _) rfl rfl (((wSi cI cA z (beatS S)) ++ (wCo cI a b (beatS S) S2)) ++ [(q223, .inl (cI, S 0 1, .inl (row (fillN (S 3) (S 0 1))))), (q229, .inl (cI, S 0 1, .inl (row (fillN (S 4) (S 0 1))))), (q235, .inl (cI, S 0 1, .inl (row (fillN (S 5) (S 0 1))))), (q396, .inl (cI, S 0 2, .inl (row (fillN (S 7) (S 0 2))))), (q402, .inl (cI, S 0 2, .inl (row (fillN (S 8) (S 0 2))))), (q408, .inl (cI, S 0 2, .inl (row (fillN (S 9) (S 0 2))))), (q414, .inl (cI, S 0 2, .inl (row (fillN (S 10) (S 0 2)))))]) (List.append_assoc _ _ _).symm (q0 := 0) (ci := 3) rfl rfl (fun H locs hP hD hS => ?_)
                                                                        have := hJ.brave u
                                                                        refine lv_iload F.1 F.2.1 dL_law_1075 (lv_at hl 5 rfl) ?_
                                                                        refine k_if_eq (tgt := 1095) F (by omega) dL_law_1077 (by decide) (fun h1077 => ?_) (fun h1077 => ?_)
                                                                        · skip
                                                                          exact absurd h1077 (by decide)
                                                                        · skip
                                                                          refine lv_bipush (v := nI 20) F.1 F.2.1 dL_law_1080 (by decide) ?_
                                                                          refine lv_aload F.1 F.2.1 dL_law_1082 (lv_at hl 21 rfl) ?_
                                                                          refine lv_iload F.1 F.2.1 dL_law_1084 (lv_at hl 27 rfl) ?_
                                                                          refine q_iald (f := fillN (S 9) (S 0 2)) (v := S 9 u) F hK hP (((wSi cI cA z (beatS S)) ++ (wCo cI a b (beatS S) S2)).length + 5) (app_l rfl) (by omega) (by first | omega | decide) (if_pos (by omega)) dL_law_1086 ?_
                                                                          have := hI.brave u
                                                                          refine lv_iconst (v := nI 1) F.1 F.2.1 dL_law_1087 (by decide) ?_
                                                                          refine k_iadd F dL_law_1088 ?_
                                                                          refine k_min F hl.1 (List.mem_of_getElem? (i := 4) rfl) (List.mem_of_getElem? (i := 5) rfl) (List.mem_of_getElem? (i := 6) rfl) (List.mem_of_getElem? (i := 7) rfl) (Nat.le_of_ble_eq_true rfl) (Nat.le_of_ble_eq_true rfl) ⟨show ce846 + 1 + 1 + 1 + 1 + 1 ≤ 600130 by omega, show sl846 + 6 + 6 + 6 + 6 + 6 ≤ 7301080 by omega⟩ (by omega) (by omega) dL_law_1089 ?_
                                                                          refine lv_goto (tgt := 1100) F.1 F.2.1 dL_law_1092 (by decide) ?_
                                                                          refine k_icmp_ne (tgt := 1175) F (by omega) (by omega) dL_law_1100 (by decide) (fun h1100 => ?_) (fun h1100 => ?_)
                                                                          · skip
                                                                            exfalso; omega
                                                                          · skip
                                                                            refine lv_iload F.1 F.2.1 dL_law_1103 (lv_at hl 7 rfl) ?_
                                                                            refine k_if_ne (tgt := 1137) F (by omega) dL_law_1105 (by decide) (fun h1105 => ?_) (fun h1105 => ?_)
                                                                            · skip
                                                                              exact absurd h1105 (by decide)
                                                                            · skip
                                                                              refine lv_iload F.1 F.2.1 dL_law_1108 (lv_at hl 8 rfl) ?_
                                                                              refine lv_iload F.1 F.2.1 dL_law_1110 (lv_at hl 5 rfl) ?_
                                                                              refine k_if_eq (tgt := 1129) F (by omega) dL_law_1112 (by decide) (fun h1112 => ?_) (fun h1112 => ?_)
                                                                              · skip
                                                                                exact absurd h1112 (by decide)
                                                                              · skip
                                                                                refine lv_iconst (v := nI 0) F.1 F.2.1 dL_law_1115 (by decide) ?_
                                                                                refine lv_aload F.1 F.2.1 dL_law_1116 (lv_at hl 19 rfl) ?_
                                                                                refine lv_iload F.1 F.2.1 dL_law_1118 (lv_at hl 27 rfl) ?_
                                                                                refine q_iald (f := fillN (S 7) (S 0 2)) (v := S 7 u) F hK hP (((wSi cI cA z (beatS S)) ++ (wCo cI a b (beatS S) S2)).length + 3) (app_l rfl) (by omega) (by first | omega | decide) (if_pos (by omega)) dL_law_1120 ?_
                                                                                have := hI.went u
                                                                                refine lv_iconst (v := nI 1) F.1 F.2.1 dL_law_1121 (by decide) ?_
                                                                                refine lv_isub F.1 F.2.1 dL_law_1122 ?_
                                                                                refine k_max0 F hl.1 (List.mem_of_getElem? (i := 8) rfl) (List.mem_of_getElem? (i := 9) rfl) (List.mem_of_getElem? (i := 6) rfl) (List.mem_of_getElem? (i := 10) rfl) (Nat.le_of_ble_eq_true rfl) (Nat.le_of_ble_eq_true rfl) ⟨show ce846 + 1 + 1 + 1 + 1 + 1 ≤ 600130 by omega, show sl846 + 6 + 6 + 6 + 6 + 6 ≤ 7301080 by omega⟩ (by omega) (by omega) (by omega) dL_law_1123 ?_
                                                                                refine lv_goto (tgt := 1134) F.1 F.2.1 dL_law_1126 (by decide) ?_
                                                                                refine k_icmp_ne (tgt := 1175) F (by omega) (by omega) dL_law_1134 (by decide) (fun h1134 => ?_) (fun h1134 => ?_)
                                                                                · skip
                                                                                  exfalso; omega
                                                                                · skip
                                                                                  refine lv_iload F.1 F.2.1 dL_law_1137 (lv_at hl 5 rfl) ?_
                                                                                  refine k_if_ne (tgt := 1162) F (by omega) dL_law_1139 (by decide) (fun h1139 => ?_) (fun h1139 => ?_)
                                                                                  · skip
                                                                                    refine lv_iload F.1 F.2.1 dL_law_1162 (lv_at hl 5 rfl) ?_
                                                                                    refine k_if_eq (tgt := 1177) F (by omega) dL_law_1164 (by decide) (fun h1164 => ?_) (fun h1164 => ?_)
                                                                                    · skip
                                                                                      exact absurd h1164 (by decide)
                                                                                    · skip
                                                                                      refine lv_aload F.1 F.2.1 dL_law_1167 (lv_at hl 20 rfl) ?_
                                                                                      refine lv_iload F.1 F.2.1 dL_law_1169 (lv_at hl 27 rfl) ?_
                                                                                      refine q_iald (f := fillN (S 8) (S 0 2)) (v := S 8 u) F hK hP (((wSi cI cA z (beatS S)) ++ (wCo cI a b (beatS S) S2)).length + 4) (app_l rfl) (by omega) (by first | omega | decide) (if_pos (by omega)) dL_law_1171 ?_
                                                                                      have := hI.has u
                                                                                      refine k_if_le (tgt := 1177) F (by omega) dL_law_1172 (by decide) (fun h1172 => ?_) (fun h1172 => ?_)
                                                                                      · skip
                                                                                        refine k_inc (k := 27) (lv' := [(27, .int (nI (u + 1))), (33, .int (nI 0)), (32, .int (nI 1)), (26, .int (nI (flN S (beatS S) u + 1))), (25, .int (nI (fdN S (beatS S) u + 0))), (24, .int (nI (cmN S (beatS S) u + 0))), (31, .int (nI 1)), (30, .int (nI 0)), (29, .int (nI 0)), (28, .int (nI ((beatS S) 7 u))), (0, .ref x), (1, .ref (a 13)), (2, .ref (z 0)), (3, .int (nI t)), (5, .int (nI (S 0 0))), (6, .int (nI (S 0 1))), (7, .int (nI (S 0 2))), (12, .ref q223), (13, .ref q229), (14, .ref q235), (16, .ref q396), (17, .ref q402), (18, .ref q408), (19, .ref q414), (20, .int (nI (S 0 4))), (21, .int (nI (S 0 5))), (22, .int (nI (S 0 3))), (23, .int (cameI S 1))]) F dL_law_1177 hl rfl (by decide) rfl (fun ls hl => ?_)
                                                                                        refine lv_goto (tgt := 846) F.1 F.2.1 dL_law_1180 (by decide) ?_
                                                                                        have e_51 : (cmN S (beatS S) u + 0) = cmN S (beatS S) (u + 1) := by show cmN S (beatS S) u = _; rw [show cmN S (beatS S) (u + 1) = if (beatS S) 7 u = S 7 u + 1 ∧ (beatS S) 7 u = S 0 0 then cmN S (beatS S) u + 1 else cmN S (beatS S) u from rfl, if_neg (by omega)]
                                                                                        rw [e_51] at hl
                                                                                        have e_52 : (fdN S (beatS S) u + 0) = fdN S (beatS S) (u + 1) := by show fdN S (beatS S) u = _; rw [show fdN S (beatS S) (u + 1) = if (beatS S) 8 u + 1 = S 8 u then fdN S (beatS S) u + 1 else fdN S (beatS S) u from rfl, if_neg (by omega)]
                                                                                        rw [e_52] at hl
                                                                                        have e_53 : (flN S (beatS S) u + 1) = flN S (beatS S) (u + 1) := by rw [show flN S (beatS S) (u + 1) = if S 10 u < (beatS S) 10 u then flN S (beatS S) u + 1 else flN S (beatS S) u from rfl, if_pos (by omega)]
                                                                                        rw [e_53] at hl
                                                                                        exact ih846 (u + 1) (by omega) (by omega)  (ce846 + 1 + 1 + 1 + 1 + 1) (sl846 + 6 + 6 + 6 + 6 + 6) (by omega) (by omega) _ _ _ hP hD hS (lv_sub hl [10, 11, 12, 13, 14, 15, 16, 17, 18, 19, 20, 21, 22, 23, 24, 25, 26, 27, 5, 4, 3, 0] rfl)
                                                                                      · skip
                                                                                        exfalso; omega
                                                                                  · skip
                                                                                    exact absurd h1139 (by decide)
                                                                · skip
                                                                  exact absurd h1039 (by decide)
                                                              · skip
                                                                exfalso; omega
                                                        · skip
                                                          exact absurd h988 (by decide)
                                                      · skip
                                                        exact absurd h978 (by decide)
                                                  · skip
                                                    exact absurd h950 (by decide)
                                                · skip
                                                  exact absurd h928 (by decide)
                                            · skip
                                              exfalso; omega
                                          · skip
                                            exfalso; omega
                                  have e_54 : 0 = cmN S (beatS S) 0 := by first | rfl | omega
                                  rw [e_54] at hl
                                  have e_55 : 0 = fdN S (beatS S) 0 := by first | rfl | omega
                                  rw [e_55] at hl
                                  have e_56 : 0 = flN S (beatS S) 0 := by first | rfl | omega
                                  rw [e_56] at hl
                                  exact loop846 ((S 0 2) + 1) 0 (by omega) (by omega)  (ce421 + 1 + 8) (sl421 + 6 + 32) (by omega) (by omega) _ _ _ hP hD hS (lv_sub hl [8, 9, 10, 11, 12, 13, 14, 18, 19, 20, 22, 23, 24, 25, 7, 6, 5, 4, 3, 2, 1, 0] rfl)
                                refine lv_aload_n F.1 F.2.1 dL_law_779 rfl (lv_at hl 1 rfl) ?_
                                refine x_pD (n := 0) (rest := []) (v := (meanD S)) F (c_X3_meanTemper l D cI a b S S2 (by first | exact hI | exact hJ)) gL_law_X3_meanTemper rfl (by decide +kernel) ⟨Nat.le_of_ble_eq_true rfl, Nat.le_of_ble_eq_true rfl⟩ rfl hl.1 rfl (Nat.le_of_ble_eq_true rfl) dL_law_780 ⟨show ce421 ≤ 600130 by omega, show sl421 ≤ 7301080 by omega⟩ hK hP hS (List.append_assoc _ _ _) (q0 := 0) (ci := 3) rfl rfl (fun H locs hP hS => ?_)
                                refine lv_iload F.1 F.2.1 dL_law_783 (lv_at hl 5 rfl) ?_
                                refine k_if_ne (tgt := 792) F (by omega) dL_law_785 (by decide) (fun h785 => ?_) (fun h785 => ?_)
                                · skip
                                  refine lv_iload F.1 F.2.1 dL_law_792 (lv_at hl 9 rfl) ?_
                                  refine lv_i2d F.1 F.2.1 dL_law_794 ?_
                                  refine lv_iload F.1 F.2.1 dL_law_795 (lv_at hl 5 rfl) ?_
                                  refine lv_i2d F.1 F.2.1 dL_law_797 ?_
                                  refine lv_ddiv F.1 F.2.1 dL_law_798 (mean_ok (by have := sumN_le S hI.mood (S 0 1); omega) hi1 h785) ?_
                                  refine lv_dcmp F.1 F.2.1 dL_law_799 ?_
                                  refine lv_if_eq (tgt := 805) F.1 F.2.1 dL_law_800 (by decide) (fun h800 => ?_) (fun h800 => ?_)
                                  · skip
                                    exact j805 H locs ls hP hD hS (lv_sub hl [0, 1, 2, 3, 4, 5, 6, 7, 8, 9, 10, 11, 12, 13, 14, 15, 16, 17, 18] rfl)
                                  · exact absurd (by unfold meanD; rw [if_neg h785]; exact mean_cmp (by have := sumN_le S hI.mood (S 0 1); omega) hi1 h785) h800
                                · skip
                                  refine lv_dconst0 F.1 F.2.1 dL_law_788 ?_
                                  refine lv_goto (tgt := 799) F.1 F.2.1 dL_law_789 (by decide) ?_
                                  refine lv_dcmp F.1 F.2.1 dL_law_799 ?_
                                  refine lv_if_eq (tgt := 805) F.1 F.2.1 dL_law_800 (by decide) (fun h800 => ?_) (fun h800 => ?_)
                                  · skip
                                    exact j805 H locs ls hP hD hS (lv_sub hl [0, 1, 2, 3, 4, 5, 6, 7, 8, 9, 10, 11, 12, 13, 14, 15, 16, 17, 18] rfl)
                                  · exact absurd (by unfold meanD; rw [if_pos h785]; exact mean_cmp0) h800
                        · skip
                          refine lv_aload F.1 F.2.1 dL_law_428 (lv_at hl 14 rfl) ?_
                          refine lv_iload F.1 F.2.1 dL_law_430 (lv_at hl 18 rfl) ?_
                          refine lv_aload_n F.1 F.2.1 dL_law_432 rfl (lv_at hl 1 rfl) ?_
                          refine lv_iload F.1 F.2.1 dL_law_433 (lv_at hl 18 rfl) ?_
                          have ok_57 : r1 (S 0 2) (nI v) (nI (S 7 (cl (nI v)))) = (0, nI (S 7 v)) := by rw [cl_nI (show v < 2 ^ 31 by omega)]; exact r1_y (okI_nI (by omega) (by omega))
                          refine x_tI (n := 1) (rest := [.int (nI v), .ref q396]) (v := nI (S 7 v)) (w1 := (wCo cI a b S S2)) F (c_X3_passedBy l D cI hst a b S S2 (nI v) (by first | exact hI | exact hJ)) (by rw [ok_57]; rfl) (by rw [ok_57]) rfl gL_law_X3_passedBy rfl (by decide +kernel) ⟨Nat.le_of_ble_eq_true rfl, Nat.le_of_ble_eq_true rfl⟩ rfl hl.1 rfl (Nat.le_of_ble_eq_true rfl) dL_law_435 ⟨show ce421 + 1 ≤ 600130 by omega, show sl421 + 6 ≤ 7301080 by omega⟩ hK hX hP hD hS (List.append_assoc _ _ _) rfl rfl (((wSi cI cA z S) ++ (wCo cI a b S S2)) ++ [(q223, .inl (cI, S 0 1, .inl (row (fillN (S 3) (S 0 1))))), (q229, .inl (cI, S 0 1, .inl (row (fillN (S 4) (S 0 1))))), (q235, .inl (cI, S 0 1, .inl (row (fillN (S 5) (S 0 1))))), (q396, .inl (cI, S 0 2, .inl (row (fillN (S 7) v)))), (q402, .inl (cI, S 0 2, .inl (row (fillN (S 8) v)))), (q408, .inl (cI, S 0 2, .inl (row (fillN (S 9) v)))), (q414, .inl (cI, S 0 2, .inl (row (fillN (S 10) v))))]) (List.append_assoc _ _ _).symm (q0 := 0) (ci := 3) rfl rfl (fun H locs hP hD hS => ?_)
                          have := hI.went v
                          refine q_iast (k := v) (x := (S 7 v)) F hK hP hD hS (((wSi cI cA z S) ++ (wCo cI a b S S2)).length + 3) (app_l rfl) (by omega) (by first | omega | decide) dL_law_438 (((wSi cI cA z S) ++ (wCo cI a b S S2)) ++ [(q223, .inl (cI, S 0 1, .inl (row (fillN (S 3) (S 0 1))))), (q229, .inl (cI, S 0 1, .inl (row (fillN (S 4) (S 0 1))))), (q235, .inl (cI, S 0 1, .inl (row (fillN (S 5) (S 0 1))))), (q396, .inl (cI, S 0 2, .inl (row (fillN (S 7) (v + 1))))), (q402, .inl (cI, S 0 2, .inl (row (fillN (S 8) v)))), (q408, .inl (cI, S 0 2, .inl (row (fillN (S 9) v)))), (q414, .inl (cI, S 0 2, .inl (row (fillN (S 10) v))))]) (set_app1 (by rw [← fillN_s (S 7) v]; rfl)) (fun H locs hP hD hS => ?_)
                          refine lv_aload F.1 F.2.1 dL_law_439 (lv_at hl 15 rfl) ?_
                          refine lv_iload F.1 F.2.1 dL_law_441 (lv_at hl 18 rfl) ?_
                          refine lv_aload_n F.1 F.2.1 dL_law_443 rfl (lv_at hl 1 rfl) ?_
                          refine lv_iload F.1 F.2.1 dL_law_444 (lv_at hl 18 rfl) ?_
                          have ok_58 : r1 (S 0 2) (nI v) (nI (S 8 (cl (nI v)))) = (0, nI (S 8 v)) := by rw [cl_nI (show v < 2 ^ 31 by omega)]; exact r1_y (okI_nI (by omega) (by omega))
                          refine x_tI (n := 1) (rest := [.int (nI v), .ref q402]) (v := nI (S 8 v)) (w1 := (wCo cI a b S S2)) F (c_X3_cornsOf l D cI hst a b S S2 (nI v) (by first | exact hI | exact hJ)) (by rw [ok_58]; rfl) (by rw [ok_58]) rfl gL_law_X3_cornsOf rfl (by decide +kernel) ⟨Nat.le_of_ble_eq_true rfl, Nat.le_of_ble_eq_true rfl⟩ rfl hl.1 rfl (Nat.le_of_ble_eq_true rfl) dL_law_446 ⟨show ce421 + 1 + 1 ≤ 600130 by omega, show sl421 + 6 + 6 ≤ 7301080 by omega⟩ hK hX hP hD hS (List.append_assoc _ _ _) rfl rfl (((wSi cI cA z S) ++ (wCo cI a b S S2)) ++ [(q223, .inl (cI, S 0 1, .inl (row (fillN (S 3) (S 0 1))))), (q229, .inl (cI, S 0 1, .inl (row (fillN (S 4) (S 0 1))))), (q235, .inl (cI, S 0 1, .inl (row (fillN (S 5) (S 0 1))))), (q396, .inl (cI, S 0 2, .inl (row (fillN (S 7) (v + 1))))), (q402, .inl (cI, S 0 2, .inl (row (fillN (S 8) v)))), (q408, .inl (cI, S 0 2, .inl (row (fillN (S 9) v)))), (q414, .inl (cI, S 0 2, .inl (row (fillN (S 10) v))))]) (List.append_assoc _ _ _).symm (q0 := 0) (ci := 3) rfl rfl (fun H locs hP hD hS => ?_)
                          have := hI.has v
                          refine q_iast (k := v) (x := (S 8 v)) F hK hP hD hS (((wSi cI cA z S) ++ (wCo cI a b S S2)).length + 4) (app_l rfl) (by omega) (by first | omega | decide) dL_law_449 (((wSi cI cA z S) ++ (wCo cI a b S S2)) ++ [(q223, .inl (cI, S 0 1, .inl (row (fillN (S 3) (S 0 1))))), (q229, .inl (cI, S 0 1, .inl (row (fillN (S 4) (S 0 1))))), (q235, .inl (cI, S 0 1, .inl (row (fillN (S 5) (S 0 1))))), (q396, .inl (cI, S 0 2, .inl (row (fillN (S 7) (v + 1))))), (q402, .inl (cI, S 0 2, .inl (row (fillN (S 8) (v + 1))))), (q408, .inl (cI, S 0 2, .inl (row (fillN (S 9) v)))), (q414, .inl (cI, S 0 2, .inl (row (fillN (S 10) v))))]) (set_app1 (by rw [← fillN_s (S 8) v]; rfl)) (fun H locs hP hD hS => ?_)
                          refine lv_aload F.1 F.2.1 dL_law_450 (lv_at hl 16 rfl) ?_
                          refine lv_iload F.1 F.2.1 dL_law_452 (lv_at hl 18 rfl) ?_
                          refine lv_aload_n F.1 F.2.1 dL_law_454 rfl (lv_at hl 1 rfl) ?_
                          refine lv_iload F.1 F.2.1 dL_law_455 (lv_at hl 18 rfl) ?_
                          have ok_59 : r1 (S 0 2) (nI v) (nI (S 9 (cl (nI v)))) = (0, nI (S 9 v)) := by rw [cl_nI (show v < 2 ^ 31 by omega)]; exact r1_y (okI_nI (by omega) (by omega))
                          refine x_tI (n := 1) (rest := [.int (nI v), .ref q408]) (v := nI (S 9 v)) (w1 := (wCo cI a b S S2)) F (c_X3_nerveOf l D cI hst a b S S2 (nI v) (by first | exact hI | exact hJ)) (by rw [ok_59]; rfl) (by rw [ok_59]) rfl gL_law_X3_nerveOf rfl (by decide +kernel) ⟨Nat.le_of_ble_eq_true rfl, Nat.le_of_ble_eq_true rfl⟩ rfl hl.1 rfl (Nat.le_of_ble_eq_true rfl) dL_law_457 ⟨show ce421 + 1 + 1 + 1 ≤ 600130 by omega, show sl421 + 6 + 6 + 6 ≤ 7301080 by omega⟩ hK hX hP hD hS (List.append_assoc _ _ _) rfl rfl (((wSi cI cA z S) ++ (wCo cI a b S S2)) ++ [(q223, .inl (cI, S 0 1, .inl (row (fillN (S 3) (S 0 1))))), (q229, .inl (cI, S 0 1, .inl (row (fillN (S 4) (S 0 1))))), (q235, .inl (cI, S 0 1, .inl (row (fillN (S 5) (S 0 1))))), (q396, .inl (cI, S 0 2, .inl (row (fillN (S 7) (v + 1))))), (q402, .inl (cI, S 0 2, .inl (row (fillN (S 8) (v + 1))))), (q408, .inl (cI, S 0 2, .inl (row (fillN (S 9) v)))), (q414, .inl (cI, S 0 2, .inl (row (fillN (S 10) v))))]) (List.append_assoc _ _ _).symm (q0 := 0) (ci := 3) rfl rfl (fun H locs hP hD hS => ?_)
                          have := hI.brave v
                          refine q_iast (k := v) (x := (S 9 v)) F hK hP hD hS (((wSi cI cA z S) ++ (wCo cI a b S S2)).length + 5) (app_l rfl) (by omega) (by first | omega | decide) dL_law_460 (((wSi cI cA z S) ++ (wCo cI a b S S2)) ++ [(q223, .inl (cI, S 0 1, .inl (row (fillN (S 3) (S 0 1))))), (q229, .inl (cI, S 0 1, .inl (row (fillN (S 4) (S 0 1))))), (q235, .inl (cI, S 0 1, .inl (row (fillN (S 5) (S 0 1))))), (q396, .inl (cI, S 0 2, .inl (row (fillN (S 7) (v + 1))))), (q402, .inl (cI, S 0 2, .inl (row (fillN (S 8) (v + 1))))), (q408, .inl (cI, S 0 2, .inl (row (fillN (S 9) (v + 1))))), (q414, .inl (cI, S 0 2, .inl (row (fillN (S 10) v))))]) (set_app1 (by rw [← fillN_s (S 9) v]; rfl)) (fun H locs hP hD hS => ?_)
                          refine lv_aload F.1 F.2.1 dL_law_461 (lv_at hl 17 rfl) ?_
                          refine lv_iload F.1 F.2.1 dL_law_463 (lv_at hl 18 rfl) ?_
                          refine lv_aload_n F.1 F.2.1 dL_law_465 rfl (lv_at hl 1 rfl) ?_
                          refine lv_iload F.1 F.2.1 dL_law_466 (lv_at hl 18 rfl) ?_
                          have ok_60 : r1 (S 0 2) (nI v) (nI (S 10 (cl (nI v)))) = (0, nI (S 10 v)) := by rw [cl_nI (show v < 2 ^ 31 by omega)]; exact r1_y (okI_nI (by omega) (by omega))
                          refine x_tI (n := 1) (rest := [.int (nI v), .ref q414]) (v := nI (S 10 v)) (w1 := (wCo cI a b S S2)) F (c_X3_retreatOf l D cI hst a b S S2 (nI v) (by first | exact hI | exact hJ)) (by rw [ok_60]; rfl) (by rw [ok_60]) rfl gL_law_X3_retreatOf rfl (by decide +kernel) ⟨Nat.le_of_ble_eq_true rfl, Nat.le_of_ble_eq_true rfl⟩ rfl hl.1 rfl (Nat.le_of_ble_eq_true rfl) dL_law_468 ⟨show ce421 + 1 + 1 + 1 + 1 ≤ 600130 by omega, show sl421 + 6 + 6 + 6 + 6 ≤ 7301080 by omega⟩ hK hX hP hD hS (List.append_assoc _ _ _) rfl rfl (((wSi cI cA z S) ++ (wCo cI a b S S2)) ++ [(q223, .inl (cI, S 0 1, .inl (row (fillN (S 3) (S 0 1))))), (q229, .inl (cI, S 0 1, .inl (row (fillN (S 4) (S 0 1))))), (q235, .inl (cI, S 0 1, .inl (row (fillN (S 5) (S 0 1))))), (q396, .inl (cI, S 0 2, .inl (row (fillN (S 7) (v + 1))))), (q402, .inl (cI, S 0 2, .inl (row (fillN (S 8) (v + 1))))), (q408, .inl (cI, S 0 2, .inl (row (fillN (S 9) (v + 1))))), (q414, .inl (cI, S 0 2, .inl (row (fillN (S 10) v))))]) (List.append_assoc _ _ _).symm (q0 := 0) (ci := 3) rfl rfl (fun H locs hP hD hS => ?_)
                          have := hI.back v
                          refine q_iast (k := v) (x := (S 10 v)) F hK hP hD hS (((wSi cI cA z S) ++ (wCo cI a b S S2)).length + 6) (app_l rfl) (by omega) (by first | omega | decide) dL_law_471 (((wSi cI cA z S) ++ (wCo cI a b S S2)) ++ [(q223, .inl (cI, S 0 1, .inl (row (fillN (S 3) (S 0 1))))), (q229, .inl (cI, S 0 1, .inl (row (fillN (S 4) (S 0 1))))), (q235, .inl (cI, S 0 1, .inl (row (fillN (S 5) (S 0 1))))), (q396, .inl (cI, S 0 2, .inl (row (fillN (S 7) (v + 1))))), (q402, .inl (cI, S 0 2, .inl (row (fillN (S 8) (v + 1))))), (q408, .inl (cI, S 0 2, .inl (row (fillN (S 9) (v + 1))))), (q414, .inl (cI, S 0 2, .inl (row (fillN (S 10) (v + 1)))))]) (set_app1 (by rw [← fillN_s (S 10) v]; rfl)) (fun H locs hP hD hS => ?_)
                          refine lv_aload_n F.1 F.2.1 dL_law_472 rfl (lv_at hl 1 rfl) ?_
                          refine lv_iload F.1 F.2.1 dL_law_473 (lv_at hl 18 rfl) ?_
                          have ok_61 : r1 (S 0 2) (nI v) (nI (grdN (hisG S (S 7 (cl (nI v))) (S 6 (cl (nI v)))))) = (0, nI (grdN (hisG S (S 7 v) (S 6 v)))) := by rw [cl_nI (show v < 2 ^ 31 by omega)]; exact r1_y (okI_nI (by omega) (by omega))
                          refine x_tI (n := 1) (rest := []) (v := nI (grdN (hisG S (S 7 v) (S 6 v)))) (w1 := (wCo cI a b S S2)) F (c_X3_gradeFor l D cI hst a b S S2 (nI v) (by first | exact hI | exact hJ)) (by rw [ok_61]; rfl) (by rw [ok_61]) rfl gL_law_X3_gradeFor rfl (by decide +kernel) ⟨Nat.le_of_ble_eq_true rfl, Nat.le_of_ble_eq_true rfl⟩ rfl hl.1 rfl (Nat.le_of_ble_eq_true rfl) dL_law_475 ⟨show ce421 + 1 + 1 + 1 + 1 + 1 ≤ 600130 by omega, show sl421 + 6 + 6 + 6 + 6 + 6 ≤ 7301080 by omega⟩ hK hX hP hD hS (List.append_assoc _ _ _) rfl rfl (((wSi cI cA z S) ++ (wCo cI a b S S2)) ++ [(q223, .inl (cI, S 0 1, .inl (row (fillN (S 3) (S 0 1))))), (q229, .inl (cI, S 0 1, .inl (row (fillN (S 4) (S 0 1))))), (q235, .inl (cI, S 0 1, .inl (row (fillN (S 5) (S 0 1))))), (q396, .inl (cI, S 0 2, .inl (row (fillN (S 7) (v + 1))))), (q402, .inl (cI, S 0 2, .inl (row (fillN (S 8) (v + 1))))), (q408, .inl (cI, S 0 2, .inl (row (fillN (S 9) (v + 1))))), (q414, .inl (cI, S 0 2, .inl (row (fillN (S 10) (v + 1)))))]) (List.append_assoc _ _ _).symm (q0 := 0) (ci := 3) rfl rfl (fun H locs hP hD hS => ?_)
                          have hgr := grd_facts (hisG S (S 7 v) (S 6 v))
                          refine lv_istore (lv' := [(21, .int (nI (grdN (hisG S (S 7 v) (S 6 v))))), (0, .ref x), (1, .ref (a 13)), (2, .ref (z 0)), (3, .int (nI t)), (5, .int (nI (S 0 0))), (6, .int (nI (S 0 1))), (7, .int (nI (S 0 2))), (9, .int (nI (etN S (S 0 1)))), (10, .int (nI 0)), (11, .int (nI (sumN S (S 0 1)))), (12, .ref q223), (13, .ref q229), (14, .ref q235), (15, .int (nI (inN S v))), (16, .ref q396), (17, .ref q402), (18, .ref q408), (19, .ref q414), (20, .int (nI v))]) F.1 F.2.1 dL_law_478 hl (by decide) rfl (fun ls hl => ?_)
                          refine lv_aload_n F.1 F.2.1 dL_law_480 rfl (lv_at hl 2 rfl) ?_
                          refine lv_iload F.1 F.2.1 dL_law_481 (lv_at hl 19 rfl) ?_
                          have ok_62 : r1 (S 0 2) (nI v) (nI (hisG S (S 7 (cl (nI v))) (S 6 (cl (nI v))))) = (0, nI (hisG S (S 7 v) (S 6 v))) := by rw [cl_nI (show v < 2 ^ 31 by omega)]; exact r1_y (okI_nI (by omega) (by omega))
                          refine x_tI (n := 1) (rest := []) (v := nI (hisG S (S 7 v) (S 6 v))) (w1 := (wCo cI a b S S2)) F (c_X3_hissAt l D cI hst a b S S2 (nI v) (by first | exact hI | exact hJ)) (by rw [ok_62]; rfl) (by rw [ok_62]) rfl gL_law_X3_hissAt rfl (by decide +kernel) ⟨Nat.le_of_ble_eq_true rfl, Nat.le_of_ble_eq_true rfl⟩ rfl hl.1 rfl (Nat.le_of_ble_eq_true rfl) dL_law_483 ⟨show ce421 + 1 + 1 + 1 + 1 + 1 + 1 ≤ 600130 by omega, show sl421 + 6 + 6 + 6 + 6 + 6 + 6 ≤ 7301080 by omega⟩ hK hX hP hD hS (List.append_assoc _ _ _) rfl rfl (((wSi cI cA z S) ++ (wCo cI a b S S2)) ++ [(q223, .inl (cI, S 0 1, .inl (row (fillN (S 3) (S 0 1))))), (q229, .inl (cI, S 0 1, .inl (row (fillN (S 4) (S 0 1))))), (q235, .inl (cI, S 0 1, .inl (row (fillN (S 5) (S 0 1))))), (q396, .inl (cI, S 0 2, .inl (row (fillN (S 7) (v + 1))))), (q402, .inl (cI, S 0 2, .inl (row (fillN (S 8) (v + 1))))), (q408, .inl (cI, S 0 2, .inl (row (fillN (S 9) (v + 1))))), (q414, .inl (cI, S 0 2, .inl (row (fillN (S 10) (v + 1)))))]) (List.append_assoc _ _ _).symm (q0 := 0) (ci := 3) rfl rfl (fun H locs hP hD hS => ?_)
                          have := hisG_le hI (S 7 v) (S 6 v)
                          refine lv_istore (lv' := [(22, .int (nI (hisG S (S 7 v) (S 6 v)))), (21, .int (nI (grdN (hisG S (S 7 v) (S 6 v))))), (0, .ref x), (1, .ref (a 13)), (2, .ref (z 0)), (3, .int (nI t)), (5, .int (nI (S 0 0))), (6, .int (nI (S 0 1))), (7, .int (nI (S 0 2))), (9, .int (nI (etN S (S 0 1)))), (10, .int (nI 0)), (11, .int (nI (sumN S (S 0 1)))), (12, .ref q223), (13, .ref q229), (14, .ref q235), (15, .int (nI (inN S v))), (16, .ref q396), (17, .ref q402), (18, .ref q408), (19, .ref q414), (20, .int (nI v))]) F.1 F.2.1 dL_law_486 hl (by decide) rfl (fun ls hl => ?_)
                          have j508 : ∀ (H : Heap) (locs : List Loc) (ls : Array Slot), va_P D vwCl (((wSi cI cA z S) ++ (wCo cI a b S S2)) ++ [(q223, .inl (cI, S 0 1, .inl (row (fillN (S 3) (S 0 1))))), (q229, .inl (cI, S 0 1, .inl (row (fillN (S 4) (S 0 1))))), (q235, .inl (cI, S 0 1, .inl (row (fillN (S 5) (S 0 1))))), (q396, .inl (cI, S 0 2, .inl (row (fillN (S 7) (v + 1))))), (q402, .inl (cI, S 0 2, .inl (row (fillN (S 8) (v + 1))))), (q408, .inl (cI, S 0 2, .inl (row (fillN (S 9) (v + 1))))), (q414, .inl (cI, S 0 2, .inl (row (fillN (S 10) (v + 1)))))]) H → va_D A0 (((wSi cI cA z S) ++ (wCo cI a b S S2)) ++ [(q223, .inl (cI, S 0 1, .inl (row (fillN (S 3) (S 0 1))))), (q229, .inl (cI, S 0 1, .inl (row (fillN (S 4) (S 0 1))))), (q235, .inl (cI, S 0 1, .inl (row (fillN (S 5) (S 0 1))))), (q396, .inl (cI, S 0 2, .inl (row (fillN (S 7) (v + 1))))), (q402, .inl (cI, S 0 2, .inl (row (fillN (S 8) (v + 1))))), (q408, .inl (cI, S 0 2, .inl (row (fillN (S 9) (v + 1))))), (q414, .inl (cI, S 0 2, .inl (row (fillN (S 10) (v + 1)))))]) → va_S A0 s.heap H locs → lv_has ls 34 [(15, .int (nI (inN S (v + 1)))), (22, .int (nI (hisG S (S 7 v) (S 6 v)))), (21, .int (nI (grdN (hisG S (S 7 v) (S 6 v))))), (0, .ref x), (1, .ref (a 13)), (2, .ref (z 0)), (3, .int (nI t)), (5, .int (nI (S 0 0))), (6, .int (nI (S 0 1))), (7, .int (nI (S 0 2))), (9, .int (nI (etN S (S 0 1)))), (10, .int (nI 0)), (11, .int (nI (sumN S (S 0 1)))), (12, .ref q223), (13, .ref q229), (14, .ref q235), (16, .ref q396), (17, .ref q402), (18, .ref q408), (19, .ref q414), (20, .int (nI v))] → W p l e room_1 s m args below meth c H locs (ce421 + 1 + 1 + 1 + 1 + 1 + 1) (sl421 + 6 + 6 + 6 + 6 + 6 + 6) (Q) (F0 m 508 ls []) := by
                            intro H locs ls hP hD hS hl
                            refine lv_aload F.1 F.2.1 dL_law_508 (lv_at hl 16 rfl) ?_
                            refine lv_iload F.1 F.2.1 dL_law_510 (lv_at hl 20 rfl) ?_
                            refine q_iald (f := fillN (S 7) (v + 1)) (v := S 7 v) F hK hP (((wSi cI cA z S) ++ (wCo cI a b S S2)).length + 3) (app_l rfl) (by omega) (by first | omega | decide) (if_pos (by omega)) dL_law_512 ?_
                            have := hI.went v
                            refine lv_if_lt (tgt := 748) F.1 F.2.1 dL_law_513 (by decide) (fun h513 => ?_) (fun h513 => ?_)
                            · exact absurd h513 (nI_pos (by omega))
                            · skip
                              refine lv_aload F.1 F.2.1 dL_law_516 (lv_at hl 16 rfl) ?_
                              refine lv_iload F.1 F.2.1 dL_law_518 (lv_at hl 20 rfl) ?_
                              refine q_iald (f := fillN (S 7) (v + 1)) (v := S 7 v) F hK hP (((wSi cI cA z S) ++ (wCo cI a b S S2)).length + 3) (app_l rfl) (by omega) (by first | omega | decide) (if_pos (by omega)) dL_law_520 ?_
                              have := hI.went v
                              refine lv_iload F.1 F.2.1 dL_law_521 (lv_at hl 7 rfl) ?_
                              refine k_icmp_gt (tgt := 748) F (by omega) (by omega) dL_law_523 (by decide) (fun h523 => ?_) (fun h523 => ?_)
                              · skip
                                exfalso; omega
                              · skip
                                refine lv_aload F.1 F.2.1 dL_law_526 (lv_at hl 17 rfl) ?_
                                refine lv_iload F.1 F.2.1 dL_law_528 (lv_at hl 20 rfl) ?_
                                refine q_iald (f := fillN (S 8) (v + 1)) (v := S 8 v) F hK hP (((wSi cI cA z S) ++ (wCo cI a b S S2)).length + 4) (app_l rfl) (by omega) (by first | omega | decide) (if_pos (by omega)) dL_law_530 ?_
                                have := hI.has v
                                refine lv_if_lt (tgt := 748) F.1 F.2.1 dL_law_531 (by decide) (fun h531 => ?_) (fun h531 => ?_)
                                · exact absurd h531 (nI_pos (by omega))
                                · skip
                                  refine lv_aload F.1 F.2.1 dL_law_534 (lv_at hl 17 rfl) ?_
                                  refine lv_iload F.1 F.2.1 dL_law_536 (lv_at hl 20 rfl) ?_
                                  refine q_iald (f := fillN (S 8) (v + 1)) (v := S 8 v) F hK hP (((wSi cI cA z S) ++ (wCo cI a b S S2)).length + 4) (app_l rfl) (by omega) (by first | omega | decide) (if_pos (by omega)) dL_law_538 ?_
                                  have := hI.has v
                                  refine lv_bipush (v := nI 20) F.1 F.2.1 dL_law_539 (by decide) ?_
                                  refine k_icmp_gt (tgt := 748) F (by omega) (by omega) dL_law_541 (by decide) (fun h541 => ?_) (fun h541 => ?_)
                                  · skip
                                    exfalso; omega
                                  · skip
                                    refine lv_aload F.1 F.2.1 dL_law_544 (lv_at hl 18 rfl) ?_
                                    refine lv_iload F.1 F.2.1 dL_law_546 (lv_at hl 20 rfl) ?_
                                    refine q_iald (f := fillN (S 9) (v + 1)) (v := S 9 v) F hK hP (((wSi cI cA z S) ++ (wCo cI a b S S2)).length + 5) (app_l rfl) (by omega) (by first | omega | decide) (if_pos (by omega)) dL_law_548 ?_
                                    have := hI.brave v
                                    refine lv_if_lt (tgt := 748) F.1 F.2.1 dL_law_549 (by decide) (fun h549 => ?_) (fun h549 => ?_)
                                    · exact absurd h549 (nI_pos (by omega))
                                    · skip
                                      refine lv_aload F.1 F.2.1 dL_law_552 (lv_at hl 18 rfl) ?_
                                      refine lv_iload F.1 F.2.1 dL_law_554 (lv_at hl 20 rfl) ?_
                                      refine q_iald (f := fillN (S 9) (v + 1)) (v := S 9 v) F hK hP (((wSi cI cA z S) ++ (wCo cI a b S S2)).length + 5) (app_l rfl) (by omega) (by first | omega | decide) (if_pos (by omega)) dL_law_556 ?_
                                      have := hI.brave v
                                      refine lv_bipush (v := nI 20) F.1 F.2.1 dL_law_557 (by decide) ?_
                                      refine k_icmp_gt (tgt := 748) F (by omega) (by omega) dL_law_559 (by decide) (fun h559 => ?_) (fun h559 => ?_)
                                      · skip
                                        exfalso; omega
                                      · skip
                                        refine lv_aload F.1 F.2.1 dL_law_562 (lv_at hl 19 rfl) ?_
                                        refine lv_iload F.1 F.2.1 dL_law_564 (lv_at hl 20 rfl) ?_
                                        refine q_iald (f := fillN (S 10) (v + 1)) (v := S 10 v) F hK hP (((wSi cI cA z S) ++ (wCo cI a b S S2)).length + 6) (app_l rfl) (by omega) (by first | omega | decide) (if_pos (by omega)) dL_law_566 ?_
                                        have := hI.back v
                                        refine lv_if_lt (tgt := 748) F.1 F.2.1 dL_law_567 (by decide) (fun h567 => ?_) (fun h567 => ?_)
                                        · exact absurd h567 (nI_pos (by omega))
                                        · skip
                                          refine lv_aload F.1 F.2.1 dL_law_570 (lv_at hl 19 rfl) ?_
                                          refine lv_iload F.1 F.2.1 dL_law_572 (lv_at hl 20 rfl) ?_
                                          refine q_iald (f := fillN (S 10) (v + 1)) (v := S 10 v) F hK hP (((wSi cI cA z S) ++ (wCo cI a b S S2)).length + 6) (app_l rfl) (by omega) (by first | omega | decide) (if_pos (by omega)) dL_law_574 ?_
                                          have := hI.back v
                                          refine lv_iconst (v := nI 4) F.1 F.2.1 dL_law_575 (by decide) ?_
                                          refine k_icmp_gt (tgt := 748) F (by omega) (by omega) dL_law_576 (by decide) (fun h576 => ?_) (fun h576 => ?_)
                                          · skip
                                            exfalso; omega
                                          · skip
                                            have j603 : ∀ (H : Heap) (locs : List Loc) (ls : Array Slot), va_P D vwCl (((wSi cI cA z S) ++ (wCo cI a b S S2)) ++ [(q223, .inl (cI, S 0 1, .inl (row (fillN (S 3) (S 0 1))))), (q229, .inl (cI, S 0 1, .inl (row (fillN (S 4) (S 0 1))))), (q235, .inl (cI, S 0 1, .inl (row (fillN (S 5) (S 0 1))))), (q396, .inl (cI, S 0 2, .inl (row (fillN (S 7) (v + 1))))), (q402, .inl (cI, S 0 2, .inl (row (fillN (S 8) (v + 1))))), (q408, .inl (cI, S 0 2, .inl (row (fillN (S 9) (v + 1))))), (q414, .inl (cI, S 0 2, .inl (row (fillN (S 10) (v + 1)))))]) H → va_D A0 (((wSi cI cA z S) ++ (wCo cI a b S S2)) ++ [(q223, .inl (cI, S 0 1, .inl (row (fillN (S 3) (S 0 1))))), (q229, .inl (cI, S 0 1, .inl (row (fillN (S 4) (S 0 1))))), (q235, .inl (cI, S 0 1, .inl (row (fillN (S 5) (S 0 1))))), (q396, .inl (cI, S 0 2, .inl (row (fillN (S 7) (v + 1))))), (q402, .inl (cI, S 0 2, .inl (row (fillN (S 8) (v + 1))))), (q408, .inl (cI, S 0 2, .inl (row (fillN (S 9) (v + 1))))), (q414, .inl (cI, S 0 2, .inl (row (fillN (S 10) (v + 1)))))]) → va_S A0 s.heap H locs → lv_has ls 34 [(15, .int (nI (inN S (v + 1)))), (22, .int (nI (hisG S (S 7 v) (S 6 v)))), (21, .int (nI (grdN (hisG S (S 7 v) (S 6 v))))), (0, .ref x), (1, .ref (a 13)), (2, .ref (z 0)), (3, .int (nI t)), (5, .int (nI (S 0 0))), (6, .int (nI (S 0 1))), (7, .int (nI (S 0 2))), (9, .int (nI (etN S (S 0 1)))), (10, .int (nI 0)), (11, .int (nI (sumN S (S 0 1)))), (12, .ref q223), (13, .ref q229), (14, .ref q235), (16, .ref q396), (17, .ref q402), (18, .ref q408), (19, .ref q414), (20, .int (nI v))] → W p l e room_1 s m args below meth c H locs (ce421 + 1 + 1 + 1 + 1 + 1 + 1 + 1) (sl421 + 6 + 6 + 6 + 6 + 6 + 6 + 6) (Q) (F0 m 603 ls []) := by
                                              intro H locs ls hP hD hS hl
                                              have j714 : ∀ (H : Heap) (locs : List Loc) (ls : Array Slot), va_P D vwCl (((wSi cI cA z S) ++ (wCo cI a b S S2)) ++ [(q223, .inl (cI, S 0 1, .inl (row (fillN (S 3) (S 0 1))))), (q229, .inl (cI, S 0 1, .inl (row (fillN (S 4) (S 0 1))))), (q235, .inl (cI, S 0 1, .inl (row (fillN (S 5) (S 0 1))))), (q396, .inl (cI, S 0 2, .inl (row (fillN (S 7) (v + 1))))), (q402, .inl (cI, S 0 2, .inl (row (fillN (S 8) (v + 1))))), (q408, .inl (cI, S 0 2, .inl (row (fillN (S 9) (v + 1))))), (q414, .inl (cI, S 0 2, .inl (row (fillN (S 10) (v + 1)))))]) H → va_D A0 (((wSi cI cA z S) ++ (wCo cI a b S S2)) ++ [(q223, .inl (cI, S 0 1, .inl (row (fillN (S 3) (S 0 1))))), (q229, .inl (cI, S 0 1, .inl (row (fillN (S 4) (S 0 1))))), (q235, .inl (cI, S 0 1, .inl (row (fillN (S 5) (S 0 1))))), (q396, .inl (cI, S 0 2, .inl (row (fillN (S 7) (v + 1))))), (q402, .inl (cI, S 0 2, .inl (row (fillN (S 8) (v + 1))))), (q408, .inl (cI, S 0 2, .inl (row (fillN (S 9) (v + 1))))), (q414, .inl (cI, S 0 2, .inl (row (fillN (S 10) (v + 1)))))]) → va_S A0 s.heap H locs → lv_has ls 34 [(15, .int (nI (inN S (v + 1)))), (22, .int (nI (hisG S (S 7 v) (S 6 v)))), (21, .int (nI (grdN (hisG S (S 7 v) (S 6 v))))), (0, .ref x), (1, .ref (a 13)), (2, .ref (z 0)), (3, .int (nI t)), (5, .int (nI (S 0 0))), (6, .int (nI (S 0 1))), (7, .int (nI (S 0 2))), (9, .int (nI (etN S (S 0 1)))), (10, .int (nI 0)), (11, .int (nI (sumN S (S 0 1)))), (12, .ref q223), (13, .ref q229), (14, .ref q235), (16, .ref q396), (17, .ref q402), (18, .ref q408), (19, .ref q414), (20, .int (nI v))] → W p l e room_1 s m args below meth c H locs (ce421 + 1 + 1 + 1 + 1 + 1 + 1 + 1) (sl421 + 6 + 6 + 6 + 6 + 6 + 6 + 6) (Q) (F0 m 714 ls []) := by
                                                intro H locs ls hP hD hS hl
                                                refine lv_aload_n F.1 F.2.1 dL_law_714 rfl (lv_at hl 4 rfl) ?_
                                                refine lv_iload F.1 F.2.1 dL_law_715 (lv_at hl 20 rfl) ?_
                                                have ok_63 : r1 (S 0 2) (nI v) (bI (dareP S (cl (nI v)))) = (0, bI (dareP S v)) := by rw [cl_nI (show v < 2 ^ 31 by omega)]; exact r1_y (okI_nI (by omega) (by omega))
                                                refine x_tI (n := 1) (rest := []) (v := bI (dareP S v)) (w1 := (wCo cI a b S S2)) F (c_X3_dares l D cI hst a b S S2 (nI v) (by first | exact hI | exact hJ)) (by rw [ok_63]; rfl) (by rw [ok_63]) rfl gL_law_X3_dares rfl (by decide +kernel) ⟨Nat.le_of_ble_eq_true rfl, Nat.le_of_ble_eq_true rfl⟩ rfl hl.1 rfl (Nat.le_of_ble_eq_true rfl) dL_law_717 ⟨show ce421 + 1 + 1 + 1 + 1 + 1 + 1 + 1 + 1 ≤ 600130 by omega, show sl421 + 6 + 6 + 6 + 6 + 6 + 6 + 6 + 6 ≤ 7301080 by omega⟩ hK hX hP hD hS (List.append_assoc _ _ _) rfl rfl (((wSi cI cA z S) ++ (wCo cI a b S S2)) ++ [(q223, .inl (cI, S 0 1, .inl (row (fillN (S 3) (S 0 1))))), (q229, .inl (cI, S 0 1, .inl (row (fillN (S 4) (S 0 1))))), (q235, .inl (cI, S 0 1, .inl (row (fillN (S 5) (S 0 1))))), (q396, .inl (cI, S 0 2, .inl (row (fillN (S 7) (v + 1))))), (q402, .inl (cI, S 0 2, .inl (row (fillN (S 8) (v + 1))))), (q408, .inl (cI, S 0 2, .inl (row (fillN (S 9) (v + 1))))), (q414, .inl (cI, S 0 2, .inl (row (fillN (S 10) (v + 1)))))]) (List.append_assoc _ _ _).symm (q0 := 0) (ci := 3) rfl rfl (fun H locs hP hD hS => ?_)
                                                refine lv_aload F.1 F.2.1 dL_law_720 (lv_at hl 16 rfl) ?_
                                                refine lv_iload F.1 F.2.1 dL_law_722 (lv_at hl 20 rfl) ?_
                                                refine q_iald (f := fillN (S 7) (v + 1)) (v := S 7 v) F hK hP (((wSi cI cA z S) ++ (wCo cI a b S S2)).length + 3) (app_l rfl) (by omega) (by first | omega | decide) (if_pos (by omega)) dL_law_724 ?_
                                                have := hI.went v
                                                refine lv_iload F.1 F.2.1 dL_law_725 (lv_at hl 7 rfl) ?_
                                                refine k_icmp_ge (tgt := 744) F (by omega) (by omega) dL_law_727 (by decide) (fun h727 => ?_) (fun h727 => ?_)
                                                · skip
                                                  refine lv_iconst (v := nI 0) F.1 F.2.1 dL_law_744 (by decide) ?_
                                                  refine lv_icmp_eq (tgt := 750) F.1 F.2.1 dL_law_745 (by decide) (fun h745 => ?_) (fun h745 => ?_)
                                                  · skip
                                                    refine k_inc (k := 20) (lv' := [(20, .int (nI (v + 1))), (15, .int (nI (inN S (v + 1)))), (22, .int (nI (hisG S (S 7 v) (S 6 v)))), (21, .int (nI (grdN (hisG S (S 7 v) (S 6 v))))), (0, .ref x), (1, .ref (a 13)), (2, .ref (z 0)), (3, .int (nI t)), (5, .int (nI (S 0 0))), (6, .int (nI (S 0 1))), (7, .int (nI (S 0 2))), (9, .int (nI (etN S (S 0 1)))), (10, .int (nI 0)), (11, .int (nI (sumN S (S 0 1)))), (12, .ref q223), (13, .ref q229), (14, .ref q235), (16, .ref q396), (17, .ref q402), (18, .ref q408), (19, .ref q414)]) F dL_law_750 hl rfl (by decide) rfl (fun ls hl => ?_)
                                                    refine lv_goto (tgt := 421) F.1 F.2.1 dL_law_753 (by decide) ?_
                                                    exact ih421 (v + 1) (by omega) (by omega)  (ce421 + 1 + 1 + 1 + 1 + 1 + 1 + 1 + 1) (sl421 + 6 + 6 + 6 + 6 + 6 + 6 + 6 + 6) (by omega) (by omega) _ _ _ hP hD hS (lv_sub hl [4, 5, 6, 7, 8, 9, 10, 11, 12, 13, 14, 15, 16, 1, 17, 18, 19, 20, 0] rfl)
                                                  · skip
                                                    exact absurd (fin0 (b := dareP S v) (fun q => q.1 (by omega))).symm h745
                                                · skip
                                                  refine lv_iload F.1 F.2.1 dL_law_730 (lv_at hl 1 rfl) ?_
                                                  refine lv_aload F.1 F.2.1 dL_law_732 (lv_at hl 18 rfl) ?_
                                                  refine lv_iload F.1 F.2.1 dL_law_734 (lv_at hl 20 rfl) ?_
                                                  refine q_iald (f := fillN (S 9) (v + 1)) (v := S 9 v) F hK hP (((wSi cI cA z S) ++ (wCo cI a b S S2)).length + 5) (app_l rfl) (by omega) (by first | omega | decide) (if_pos (by omega)) dL_law_736 ?_
                                                  have := hI.brave v
                                                  refine k_icmp_gt (tgt := 744) F (by omega) (by omega) dL_law_737 (by decide) (fun h737 => ?_) (fun h737 => ?_)
                                                  · skip
                                                    refine lv_iconst (v := nI 0) F.1 F.2.1 dL_law_744 (by decide) ?_
                                                    refine lv_icmp_eq (tgt := 750) F.1 F.2.1 dL_law_745 (by decide) (fun h745 => ?_) (fun h745 => ?_)
                                                    · skip
                                                      refine k_inc (k := 20) (lv' := [(20, .int (nI (v + 1))), (15, .int (nI (inN S (v + 1)))), (22, .int (nI (hisG S (S 7 v) (S 6 v)))), (21, .int (nI (grdN (hisG S (S 7 v) (S 6 v))))), (0, .ref x), (1, .ref (a 13)), (2, .ref (z 0)), (3, .int (nI t)), (5, .int (nI (S 0 0))), (6, .int (nI (S 0 1))), (7, .int (nI (S 0 2))), (9, .int (nI (etN S (S 0 1)))), (10, .int (nI 0)), (11, .int (nI (sumN S (S 0 1)))), (12, .ref q223), (13, .ref q229), (14, .ref q235), (16, .ref q396), (17, .ref q402), (18, .ref q408), (19, .ref q414)]) F dL_law_750 hl rfl (by decide) rfl (fun ls hl => ?_)
                                                      refine lv_goto (tgt := 421) F.1 F.2.1 dL_law_753 (by decide) ?_
                                                      exact ih421 (v + 1) (by omega) (by omega)  (ce421 + 1 + 1 + 1 + 1 + 1 + 1 + 1 + 1) (sl421 + 6 + 6 + 6 + 6 + 6 + 6 + 6 + 6) (by omega) (by omega) _ _ _ hP hD hS (lv_sub hl [4, 5, 6, 7, 8, 9, 10, 11, 12, 13, 14, 15, 16, 1, 17, 18, 19, 20, 0] rfl)
                                                    · skip
                                                      exact absurd (fin0 (b := dareP S v) (fun q => absurd q.2 (by omega))).symm h745
                                                  · skip
                                                    refine lv_iconst (v := nI 1) F.1 F.2.1 dL_law_740 (by decide) ?_
                                                    refine lv_goto (tgt := 745) F.1 F.2.1 dL_law_741 (by decide) ?_
                                                    refine lv_icmp_eq (tgt := 750) F.1 F.2.1 dL_law_745 (by decide) (fun h745 => ?_) (fun h745 => ?_)
                                                    · skip
                                                      refine k_inc (k := 20) (lv' := [(20, .int (nI (v + 1))), (15, .int (nI (inN S (v + 1)))), (22, .int (nI (hisG S (S 7 v) (S 6 v)))), (21, .int (nI (grdN (hisG S (S 7 v) (S 6 v))))), (0, .ref x), (1, .ref (a 13)), (2, .ref (z 0)), (3, .int (nI t)), (5, .int (nI (S 0 0))), (6, .int (nI (S 0 1))), (7, .int (nI (S 0 2))), (9, .int (nI (etN S (S 0 1)))), (10, .int (nI 0)), (11, .int (nI (sumN S (S 0 1)))), (12, .ref q223), (13, .ref q229), (14, .ref q235), (16, .ref q396), (17, .ref q402), (18, .ref q408), (19, .ref q414)]) F dL_law_750 hl rfl (by decide) rfl (fun ls hl => ?_)
                                                      refine lv_goto (tgt := 421) F.1 F.2.1 dL_law_753 (by decide) ?_
                                                      exact ih421 (v + 1) (by omega) (by omega)  (ce421 + 1 + 1 + 1 + 1 + 1 + 1 + 1 + 1) (sl421 + 6 + 6 + 6 + 6 + 6 + 6 + 6 + 6) (by omega) (by omega) _ _ _ hP hD hS (lv_sub hl [4, 5, 6, 7, 8, 9, 10, 11, 12, 13, 14, 15, 16, 1, 17, 18, 19, 20, 0] rfl)
                                                    · skip
                                                      exact absurd (fin1 (b := dareP S v) ⟨by omega, by omega⟩).symm h745
                                              have j688 : ∀ (H : Heap) (locs : List Loc) (ls : Array Slot), va_P D vwCl (((wSi cI cA z S) ++ (wCo cI a b S S2)) ++ [(q223, .inl (cI, S 0 1, .inl (row (fillN (S 3) (S 0 1))))), (q229, .inl (cI, S 0 1, .inl (row (fillN (S 4) (S 0 1))))), (q235, .inl (cI, S 0 1, .inl (row (fillN (S 5) (S 0 1))))), (q396, .inl (cI, S 0 2, .inl (row (fillN (S 7) (v + 1))))), (q402, .inl (cI, S 0 2, .inl (row (fillN (S 8) (v + 1))))), (q408, .inl (cI, S 0 2, .inl (row (fillN (S 9) (v + 1))))), (q414, .inl (cI, S 0 2, .inl (row (fillN (S 10) (v + 1)))))]) H → va_D A0 (((wSi cI cA z S) ++ (wCo cI a b S S2)) ++ [(q223, .inl (cI, S 0 1, .inl (row (fillN (S 3) (S 0 1))))), (q229, .inl (cI, S 0 1, .inl (row (fillN (S 4) (S 0 1))))), (q235, .inl (cI, S 0 1, .inl (row (fillN (S 5) (S 0 1))))), (q396, .inl (cI, S 0 2, .inl (row (fillN (S 7) (v + 1))))), (q402, .inl (cI, S 0 2, .inl (row (fillN (S 8) (v + 1))))), (q408, .inl (cI, S 0 2, .inl (row (fillN (S 9) (v + 1))))), (q414, .inl (cI, S 0 2, .inl (row (fillN (S 10) (v + 1)))))]) → va_S A0 s.heap H locs → lv_has ls 34 [(15, .int (nI (inN S (v + 1)))), (22, .int (nI (hisG S (S 7 v) (S 6 v)))), (21, .int (nI (grdN (hisG S (S 7 v) (S 6 v))))), (0, .ref x), (1, .ref (a 13)), (2, .ref (z 0)), (3, .int (nI t)), (5, .int (nI (S 0 0))), (6, .int (nI (S 0 1))), (7, .int (nI (S 0 2))), (9, .int (nI (etN S (S 0 1)))), (10, .int (nI 0)), (11, .int (nI (sumN S (S 0 1)))), (12, .ref q223), (13, .ref q229), (14, .ref q235), (16, .ref q396), (17, .ref q402), (18, .ref q408), (19, .ref q414), (20, .int (nI v))] → W p l e room_1 s m args below meth c H locs (ce421 + 1 + 1 + 1 + 1 + 1 + 1 + 1) (sl421 + 6 + 6 + 6 + 6 + 6 + 6 + 6) (Q) (F0 m 688 ls []) := by
                                                intro H locs ls hP hD hS hl
                                                refine lv_iload F.1 F.2.1 dL_law_688 (lv_at hl 1 rfl) ?_
                                                refine lv_bipush (v := nI 20) F.1 F.2.1 dL_law_690 (by decide) ?_
                                                refine k_icmp_le (tgt := 699) F (by omega) (by omega) dL_law_692 (by decide) (fun h692 => ?_) (fun h692 => ?_)
                                                · skip
                                                  refine lv_iconst (v := nI 0) F.1 F.2.1 dL_law_699 (by decide) ?_
                                                  refine lv_iload F.1 F.2.1 dL_law_700 (lv_at hl 2 rfl) ?_
                                                  refine lv_iconst (v := nI 3) F.1 F.2.1 dL_law_702 (by decide) ?_
                                                  refine k_icmp_le (tgt := 710) F (by omega) (by omega) dL_law_703 (by decide) (fun h703 => ?_) (fun h703 => ?_)
                                                  · skip
                                                    refine lv_iconst (v := nI 0) F.1 F.2.1 dL_law_710 (by decide) ?_
                                                    refine lv_icmp_ne (tgt := 748) F.1 F.2.1 dL_law_711 (by decide) (fun h711 => ?_) (fun h711 => ?_)
                                                    · skip
                                                      exact absurd h711 (by decide)
                                                    · skip
                                                      exact j714 H locs ls hP hD hS (lv_sub hl [0, 1, 2, 3, 4, 5, 6, 7, 8, 9, 10, 11, 12, 13, 14, 15, 16, 17, 18, 19, 20] rfl)
                                                  · skip
                                                    refine lv_iconst (v := nI 1) F.1 F.2.1 dL_law_706 (by decide) ?_
                                                    refine lv_goto (tgt := 711) F.1 F.2.1 dL_law_707 (by decide) ?_
                                                    refine k_icmp_ne (tgt := 748) F (by omega) (by omega) dL_law_711 (by decide) (fun h711 => ?_) (fun h711 => ?_)
                                                    · skip
                                                      exfalso; omega
                                                    · skip
                                                      exact absurd h711 (by decide)
                                                · skip
                                                  refine lv_iconst (v := nI 1) F.1 F.2.1 dL_law_695 (by decide) ?_
                                                  refine lv_goto (tgt := 700) F.1 F.2.1 dL_law_696 (by decide) ?_
                                                  refine lv_iload F.1 F.2.1 dL_law_700 (lv_at hl 2 rfl) ?_
                                                  refine lv_iconst (v := nI 3) F.1 F.2.1 dL_law_702 (by decide) ?_
                                                  refine k_icmp_le (tgt := 710) F (by omega) (by omega) dL_law_703 (by decide) (fun h703 => ?_) (fun h703 => ?_)
                                                  · skip
                                                    refine lv_iconst (v := nI 0) F.1 F.2.1 dL_law_710 (by decide) ?_
                                                    refine k_icmp_ne (tgt := 748) F (by omega) (by omega) dL_law_711 (by decide) (fun h711 => ?_) (fun h711 => ?_)
                                                    · skip
                                                      exfalso; omega
                                                    · skip
                                                      exact absurd h711 (by decide)
                                                  · skip
                                                    refine lv_iconst (v := nI 1) F.1 F.2.1 dL_law_706 (by decide) ?_
                                                    refine lv_goto (tgt := 711) F.1 F.2.1 dL_law_707 (by decide) ?_
                                                    refine lv_icmp_ne (tgt := 748) F.1 F.2.1 dL_law_711 (by decide) (fun h711 => ?_) (fun h711 => ?_)
                                                    · skip
                                                      exact absurd h711 (by decide)
                                                    · skip
                                                      exact j714 H locs ls hP hD hS (lv_sub hl [0, 1, 2, 3, 4, 5, 6, 7, 8, 9, 10, 11, 12, 13, 14, 15, 16, 17, 18, 19, 20] rfl)
                                              have j662 : ∀ (H : Heap) (locs : List Loc) (ls : Array Slot), va_P D vwCl (((wSi cI cA z S) ++ (wCo cI a b S S2)) ++ [(q223, .inl (cI, S 0 1, .inl (row (fillN (S 3) (S 0 1))))), (q229, .inl (cI, S 0 1, .inl (row (fillN (S 4) (S 0 1))))), (q235, .inl (cI, S 0 1, .inl (row (fillN (S 5) (S 0 1))))), (q396, .inl (cI, S 0 2, .inl (row (fillN (S 7) (v + 1))))), (q402, .inl (cI, S 0 2, .inl (row (fillN (S 8) (v + 1))))), (q408, .inl (cI, S 0 2, .inl (row (fillN (S 9) (v + 1))))), (q414, .inl (cI, S 0 2, .inl (row (fillN (S 10) (v + 1)))))]) H → va_D A0 (((wSi cI cA z S) ++ (wCo cI a b S S2)) ++ [(q223, .inl (cI, S 0 1, .inl (row (fillN (S 3) (S 0 1))))), (q229, .inl (cI, S 0 1, .inl (row (fillN (S 4) (S 0 1))))), (q235, .inl (cI, S 0 1, .inl (row (fillN (S 5) (S 0 1))))), (q396, .inl (cI, S 0 2, .inl (row (fillN (S 7) (v + 1))))), (q402, .inl (cI, S 0 2, .inl (row (fillN (S 8) (v + 1))))), (q408, .inl (cI, S 0 2, .inl (row (fillN (S 9) (v + 1))))), (q414, .inl (cI, S 0 2, .inl (row (fillN (S 10) (v + 1)))))]) → va_S A0 s.heap H locs → lv_has ls 34 [(15, .int (nI (inN S (v + 1)))), (22, .int (nI (hisG S (S 7 v) (S 6 v)))), (21, .int (nI (grdN (hisG S (S 7 v) (S 6 v))))), (0, .ref x), (1, .ref (a 13)), (2, .ref (z 0)), (3, .int (nI t)), (5, .int (nI (S 0 0))), (6, .int (nI (S 0 1))), (7, .int (nI (S 0 2))), (9, .int (nI (etN S (S 0 1)))), (10, .int (nI 0)), (11, .int (nI (sumN S (S 0 1)))), (12, .ref q223), (13, .ref q229), (14, .ref q235), (16, .ref q396), (17, .ref q402), (18, .ref q408), (19, .ref q414), (20, .int (nI v))] → W p l e room_1 s m args below meth c H locs (ce421 + 1 + 1 + 1 + 1 + 1 + 1 + 1) (sl421 + 6 + 6 + 6 + 6 + 6 + 6 + 6) (Q) (F0 m 662 ls []) := by
                                                intro H locs ls hP hD hS hl
                                                refine lv_iload F.1 F.2.1 dL_law_662 (lv_at hl 1 rfl) ?_
                                                refine lv_bipush (v := nI 10) F.1 F.2.1 dL_law_664 (by decide) ?_
                                                refine k_icmp_le (tgt := 673) F (by omega) (by omega) dL_law_666 (by decide) (fun h666 => ?_) (fun h666 => ?_)
                                                · skip
                                                  refine lv_iconst (v := nI 0) F.1 F.2.1 dL_law_673 (by decide) ?_
                                                  refine lv_iload F.1 F.2.1 dL_law_674 (lv_at hl 2 rfl) ?_
                                                  refine lv_iconst (v := nI 2) F.1 F.2.1 dL_law_676 (by decide) ?_
                                                  refine k_icmp_le (tgt := 684) F (by omega) (by omega) dL_law_677 (by decide) (fun h677 => ?_) (fun h677 => ?_)
                                                  · skip
                                                    refine lv_iconst (v := nI 0) F.1 F.2.1 dL_law_684 (by decide) ?_
                                                    refine lv_icmp_ne (tgt := 748) F.1 F.2.1 dL_law_685 (by decide) (fun h685 => ?_) (fun h685 => ?_)
                                                    · skip
                                                      exact absurd h685 (by decide)
                                                    · skip
                                                      exact j688 H locs ls hP hD hS (lv_sub hl [0, 1, 2, 3, 4, 5, 6, 7, 8, 9, 10, 11, 12, 13, 14, 15, 16, 17, 18, 19, 20] rfl)
                                                  · skip
                                                    refine lv_iconst (v := nI 1) F.1 F.2.1 dL_law_680 (by decide) ?_
                                                    refine lv_goto (tgt := 685) F.1 F.2.1 dL_law_681 (by decide) ?_
                                                    refine k_icmp_ne (tgt := 748) F (by omega) (by omega) dL_law_685 (by decide) (fun h685 => ?_) (fun h685 => ?_)
                                                    · skip
                                                      exfalso; omega
                                                    · skip
                                                      exact absurd h685 (by decide)
                                                · skip
                                                  refine lv_iconst (v := nI 1) F.1 F.2.1 dL_law_669 (by decide) ?_
                                                  refine lv_goto (tgt := 674) F.1 F.2.1 dL_law_670 (by decide) ?_
                                                  refine lv_iload F.1 F.2.1 dL_law_674 (lv_at hl 2 rfl) ?_
                                                  refine lv_iconst (v := nI 2) F.1 F.2.1 dL_law_676 (by decide) ?_
                                                  refine k_icmp_le (tgt := 684) F (by omega) (by omega) dL_law_677 (by decide) (fun h677 => ?_) (fun h677 => ?_)
                                                  · skip
                                                    refine lv_iconst (v := nI 0) F.1 F.2.1 dL_law_684 (by decide) ?_
                                                    refine k_icmp_ne (tgt := 748) F (by omega) (by omega) dL_law_685 (by decide) (fun h685 => ?_) (fun h685 => ?_)
                                                    · skip
                                                      exfalso; omega
                                                    · skip
                                                      exact absurd h685 (by decide)
                                                  · skip
                                                    refine lv_iconst (v := nI 1) F.1 F.2.1 dL_law_680 (by decide) ?_
                                                    refine lv_goto (tgt := 685) F.1 F.2.1 dL_law_681 (by decide) ?_
                                                    refine lv_icmp_ne (tgt := 748) F.1 F.2.1 dL_law_685 (by decide) (fun h685 => ?_) (fun h685 => ?_)
                                                    · skip
                                                      exact absurd h685 (by decide)
                                                    · skip
                                                      exact j688 H locs ls hP hD hS (lv_sub hl [0, 1, 2, 3, 4, 5, 6, 7, 8, 9, 10, 11, 12, 13, 14, 15, 16, 17, 18, 19, 20] rfl)
                                              have j626 : ∀ (H : Heap) (locs : List Loc) (ls : Array Slot), va_P D vwCl (((wSi cI cA z S) ++ (wCo cI a b S S2)) ++ [(q223, .inl (cI, S 0 1, .inl (row (fillN (S 3) (S 0 1))))), (q229, .inl (cI, S 0 1, .inl (row (fillN (S 4) (S 0 1))))), (q235, .inl (cI, S 0 1, .inl (row (fillN (S 5) (S 0 1))))), (q396, .inl (cI, S 0 2, .inl (row (fillN (S 7) (v + 1))))), (q402, .inl (cI, S 0 2, .inl (row (fillN (S 8) (v + 1))))), (q408, .inl (cI, S 0 2, .inl (row (fillN (S 9) (v + 1))))), (q414, .inl (cI, S 0 2, .inl (row (fillN (S 10) (v + 1)))))]) H → va_D A0 (((wSi cI cA z S) ++ (wCo cI a b S S2)) ++ [(q223, .inl (cI, S 0 1, .inl (row (fillN (S 3) (S 0 1))))), (q229, .inl (cI, S 0 1, .inl (row (fillN (S 4) (S 0 1))))), (q235, .inl (cI, S 0 1, .inl (row (fillN (S 5) (S 0 1))))), (q396, .inl (cI, S 0 2, .inl (row (fillN (S 7) (v + 1))))), (q402, .inl (cI, S 0 2, .inl (row (fillN (S 8) (v + 1))))), (q408, .inl (cI, S 0 2, .inl (row (fillN (S 9) (v + 1))))), (q414, .inl (cI, S 0 2, .inl (row (fillN (S 10) (v + 1)))))]) → va_S A0 s.heap H locs → lv_has ls 34 [(15, .int (nI (inN S (v + 1)))), (22, .int (nI (hisG S (S 7 v) (S 6 v)))), (21, .int (nI (grdN (hisG S (S 7 v) (S 6 v))))), (0, .ref x), (1, .ref (a 13)), (2, .ref (z 0)), (3, .int (nI t)), (5, .int (nI (S 0 0))), (6, .int (nI (S 0 1))), (7, .int (nI (S 0 2))), (9, .int (nI (etN S (S 0 1)))), (10, .int (nI 0)), (11, .int (nI (sumN S (S 0 1)))), (12, .ref q223), (13, .ref q229), (14, .ref q235), (16, .ref q396), (17, .ref q402), (18, .ref q408), (19, .ref q414), (20, .int (nI v))] → W p l e room_1 s m args below meth c H locs (ce421 + 1 + 1 + 1 + 1 + 1 + 1 + 1) (sl421 + 6 + 6 + 6 + 6 + 6 + 6 + 6) (Q) (F0 m 626 ls []) := by
                                                intro H locs ls hP hD hS hl
                                                refine lv_iload F.1 F.2.1 dL_law_626 (lv_at hl 2 rfl) ?_
                                                refine lv_if_lt (tgt := 748) F.1 F.2.1 dL_law_628 (by decide) (fun h628 => ?_) (fun h628 => ?_)
                                                · exact absurd h628 (nI_pos (by omega))
                                                · skip
                                                  refine lv_iload F.1 F.2.1 dL_law_631 (lv_at hl 2 rfl) ?_
                                                  refine lv_iconst (v := nI 4) F.1 F.2.1 dL_law_633 (by decide) ?_
                                                  refine k_icmp_gt (tgt := 748) F (by omega) (by omega) dL_law_634 (by decide) (fun h634 => ?_) (fun h634 => ?_)
                                                  · skip
                                                    exfalso; omega
                                                  · skip
                                                    refine lv_iload F.1 F.2.1 dL_law_637 (lv_at hl 1 rfl) ?_
                                                    refine lv_iconst (v := nI 5) F.1 F.2.1 dL_law_639 (by decide) ?_
                                                    refine k_icmp_le (tgt := 647) F (by omega) (by omega) dL_law_640 (by decide) (fun h640 => ?_) (fun h640 => ?_)
                                                    · skip
                                                      refine lv_iconst (v := nI 0) F.1 F.2.1 dL_law_647 (by decide) ?_
                                                      refine lv_iload F.1 F.2.1 dL_law_648 (lv_at hl 2 rfl) ?_
                                                      refine lv_iconst (v := nI 1) F.1 F.2.1 dL_law_650 (by decide) ?_
                                                      refine k_icmp_le (tgt := 658) F (by omega) (by omega) dL_law_651 (by decide) (fun h651 => ?_) (fun h651 => ?_)
                                                      · skip
                                                        refine lv_iconst (v := nI 0) F.1 F.2.1 dL_law_658 (by decide) ?_
                                                        refine lv_icmp_ne (tgt := 748) F.1 F.2.1 dL_law_659 (by decide) (fun h659 => ?_) (fun h659 => ?_)
                                                        · skip
                                                          exact absurd h659 (by decide)
                                                        · skip
                                                          exact j662 H locs ls hP hD hS (lv_sub hl [0, 1, 2, 3, 4, 5, 6, 7, 8, 9, 10, 11, 12, 13, 14, 15, 16, 17, 18, 19, 20] rfl)
                                                      · skip
                                                        refine lv_iconst (v := nI 1) F.1 F.2.1 dL_law_654 (by decide) ?_
                                                        refine lv_goto (tgt := 659) F.1 F.2.1 dL_law_655 (by decide) ?_
                                                        refine k_icmp_ne (tgt := 748) F (by omega) (by omega) dL_law_659 (by decide) (fun h659 => ?_) (fun h659 => ?_)
                                                        · skip
                                                          exfalso; omega
                                                        · skip
                                                          exact absurd h659 (by decide)
                                                    · skip
                                                      refine lv_iconst (v := nI 1) F.1 F.2.1 dL_law_643 (by decide) ?_
                                                      refine lv_goto (tgt := 648) F.1 F.2.1 dL_law_644 (by decide) ?_
                                                      refine lv_iload F.1 F.2.1 dL_law_648 (lv_at hl 2 rfl) ?_
                                                      refine lv_iconst (v := nI 1) F.1 F.2.1 dL_law_650 (by decide) ?_
                                                      refine k_icmp_le (tgt := 658) F (by omega) (by omega) dL_law_651 (by decide) (fun h651 => ?_) (fun h651 => ?_)
                                                      · skip
                                                        refine lv_iconst (v := nI 0) F.1 F.2.1 dL_law_658 (by decide) ?_
                                                        refine k_icmp_ne (tgt := 748) F (by omega) (by omega) dL_law_659 (by decide) (fun h659 => ?_) (fun h659 => ?_)
                                                        · skip
                                                          exfalso; omega
                                                        · skip
                                                          exact absurd h659 (by decide)
                                                      · skip
                                                        refine lv_iconst (v := nI 1) F.1 F.2.1 dL_law_654 (by decide) ?_
                                                        refine lv_goto (tgt := 659) F.1 F.2.1 dL_law_655 (by decide) ?_
                                                        refine lv_icmp_ne (tgt := 748) F.1 F.2.1 dL_law_659 (by decide) (fun h659 => ?_) (fun h659 => ?_)
                                                        · skip
                                                          exact absurd h659 (by decide)
                                                        · skip
                                                          exact j662 H locs ls hP hD hS (lv_sub hl [0, 1, 2, 3, 4, 5, 6, 7, 8, 9, 10, 11, 12, 13, 14, 15, 16, 17, 18, 19, 20] rfl)
                                              refine lv_iload F.1 F.2.1 dL_law_603 (lv_at hl 2 rfl) ?_
                                              refine k_if_ne (tgt := 612) F (by omega) dL_law_605 (by decide) (fun h605 => ?_) (fun h605 => ?_)
                                              · skip
                                                refine lv_iconst (v := nI 0) F.1 F.2.1 dL_law_612 (by decide) ?_
                                                refine lv_iload F.1 F.2.1 dL_law_613 (lv_at hl 1 rfl) ?_
                                                refine k_if_ne (tgt := 622) F (by omega) dL_law_615 (by decide) (fun h615 => ?_) (fun h615 => ?_)
                                                · skip
                                                  refine lv_iconst (v := nI 0) F.1 F.2.1 dL_law_622 (by decide) ?_
                                                  refine lv_icmp_ne (tgt := 748) F.1 F.2.1 dL_law_623 (by decide) (fun h623 => ?_) (fun h623 => ?_)
                                                  · skip
                                                    exact absurd h623 (by decide)
                                                  · skip
                                                    exact j626 H locs ls hP hD hS (lv_sub hl [0, 1, 2, 3, 4, 5, 6, 7, 8, 9, 10, 11, 12, 13, 14, 15, 16, 17, 18, 19, 20] rfl)
                                                · skip
                                                  refine lv_iconst (v := nI 1) F.1 F.2.1 dL_law_618 (by decide) ?_
                                                  refine lv_goto (tgt := 623) F.1 F.2.1 dL_law_619 (by decide) ?_
                                                  refine k_icmp_ne (tgt := 748) F (by omega) (by omega) dL_law_623 (by decide) (fun h623 => ?_) (fun h623 => ?_)
                                                  · skip
                                                    exfalso; omega
                                                  · skip
                                                    exact absurd h623 (by decide)
                                              · skip
                                                refine lv_iconst (v := nI 1) F.1 F.2.1 dL_law_608 (by decide) ?_
                                                refine lv_goto (tgt := 613) F.1 F.2.1 dL_law_609 (by decide) ?_
                                                refine lv_iload F.1 F.2.1 dL_law_613 (lv_at hl 1 rfl) ?_
                                                refine k_if_ne (tgt := 622) F (by omega) dL_law_615 (by decide) (fun h615 => ?_) (fun h615 => ?_)
                                                · skip
                                                  refine lv_iconst (v := nI 0) F.1 F.2.1 dL_law_622 (by decide) ?_
                                                  refine k_icmp_ne (tgt := 748) F (by omega) (by omega) dL_law_623 (by decide) (fun h623 => ?_) (fun h623 => ?_)
                                                  · skip
                                                    exfalso; omega
                                                  · skip
                                                    exact absurd h623 (by decide)
                                                · skip
                                                  refine lv_iconst (v := nI 1) F.1 F.2.1 dL_law_618 (by decide) ?_
                                                  refine lv_goto (tgt := 623) F.1 F.2.1 dL_law_619 (by decide) ?_
                                                  refine lv_icmp_ne (tgt := 748) F.1 F.2.1 dL_law_623 (by decide) (fun h623 => ?_) (fun h623 => ?_)
                                                  · skip
                                                    exact absurd h623 (by decide)
                                                  · skip
                                                    exact j626 H locs ls hP hD hS (lv_sub hl [0, 1, 2, 3, 4, 5, 6, 7, 8, 9, 10, 11, 12, 13, 14, 15, 16, 17, 18, 19, 20] rfl)
                                            refine lv_aload_n F.1 F.2.1 dL_law_579 rfl (lv_at hl 4 rfl) ?_
                                            refine lv_iload F.1 F.2.1 dL_law_580 (lv_at hl 20 rfl) ?_
                                            have ok_64 : r1 (S 0 2) (nI v) (bI (S 0 0 ≤ S 7 (cl (nI v)))) = (0, bI (S 0 0 ≤ S 7 v)) := by rw [cl_nI (show v < 2 ^ 31 by omega)]; exact r1_y (okI_nI (by omega) (by omega))
                                            refine x_tI (n := 1) (rest := []) (v := bI (S 0 0 ≤ S 7 v)) (w1 := (wCo cI a b S S2)) F (c_X3_isInFarm l D cI hst a b S S2 (nI v) (by first | exact hI | exact hJ)) (by rw [ok_64]; rfl) (by rw [ok_64]) rfl gL_law_X3_isInFarm rfl (by decide +kernel) ⟨Nat.le_of_ble_eq_true rfl, Nat.le_of_ble_eq_true rfl⟩ rfl hl.1 rfl (Nat.le_of_ble_eq_true rfl) dL_law_582 ⟨show ce421 + 1 + 1 + 1 + 1 + 1 + 1 + 1 ≤ 600130 by omega, show sl421 + 6 + 6 + 6 + 6 + 6 + 6 + 6 ≤ 7301080 by omega⟩ hK hX hP hD hS (List.append_assoc _ _ _) rfl rfl (((wSi cI cA z S) ++ (wCo cI a b S S2)) ++ [(q223, .inl (cI, S 0 1, .inl (row (fillN (S 3) (S 0 1))))), (q229, .inl (cI, S 0 1, .inl (row (fillN (S 4) (S 0 1))))), (q235, .inl (cI, S 0 1, .inl (row (fillN (S 5) (S 0 1))))), (q396, .inl (cI, S 0 2, .inl (row (fillN (S 7) (v + 1))))), (q402, .inl (cI, S 0 2, .inl (row (fillN (S 8) (v + 1))))), (q408, .inl (cI, S 0 2, .inl (row (fillN (S 9) (v + 1))))), (q414, .inl (cI, S 0 2, .inl (row (fillN (S 10) (v + 1)))))]) (List.append_assoc _ _ _).symm (q0 := 0) (ci := 3) rfl rfl (fun H locs hP hD hS => ?_)
                                            refine lv_aload F.1 F.2.1 dL_law_585 (lv_at hl 16 rfl) ?_
                                            refine lv_iload F.1 F.2.1 dL_law_587 (lv_at hl 20 rfl) ?_
                                            refine q_iald (f := fillN (S 7) (v + 1)) (v := S 7 v) F hK hP (((wSi cI cA z S) ++ (wCo cI a b S S2)).length + 3) (app_l rfl) (by omega) (by first | omega | decide) (if_pos (by omega)) dL_law_589 ?_
                                            have := hI.went v
                                            refine lv_iload F.1 F.2.1 dL_law_590 (lv_at hl 7 rfl) ?_
                                            refine k_icmp_ne (tgt := 599) F (by omega) (by omega) dL_law_592 (by decide) (fun h592 => ?_) (fun h592 => ?_)
                                            · skip
                                              refine lv_iconst (v := nI 0) F.1 F.2.1 dL_law_599 (by decide) ?_
                                              refine lv_icmp_ne (tgt := 748) F.1 F.2.1 dL_law_600 (by decide) (fun h600 => ?_) (fun h600 => ?_)
                                              · skip
                                                exact absurd (fin0 (b := S 0 0 ≤ S 7 v) (by omega)).symm h600
                                              · skip
                                                exact j603 H locs ls hP hD hS (lv_sub hl [0, 1, 2, 3, 4, 5, 6, 7, 8, 9, 10, 11, 12, 13, 14, 15, 16, 17, 18, 19, 20] rfl)
                                            · skip
                                              refine lv_iconst (v := nI 1) F.1 F.2.1 dL_law_595 (by decide) ?_
                                              refine lv_goto (tgt := 600) F.1 F.2.1 dL_law_596 (by decide) ?_
                                              refine lv_icmp_ne (tgt := 748) F.1 F.2.1 dL_law_600 (by decide) (fun h600 => ?_) (fun h600 => ?_)
                                              · skip
                                                exact absurd (fin1 (b := S 0 0 ≤ S 7 v) (by omega)).symm h600
                                              · skip
                                                exact j603 H locs ls hP hD hS (lv_sub hl [0, 1, 2, 3, 4, 5, 6, 7, 8, 9, 10, 11, 12, 13, 14, 15, 16, 17, 18, 19, 20] rfl)
                          refine lv_iload F.1 F.2.1 dL_law_488 (lv_at hl 15 rfl) ?_
                          refine lv_aload F.1 F.2.1 dL_law_490 (lv_at hl 16 rfl) ?_
                          refine lv_iload F.1 F.2.1 dL_law_492 (lv_at hl 20 rfl) ?_
                          refine q_iald (f := fillN (S 7) (v + 1)) (v := S 7 v) F hK hP (((wSi cI cA z S) ++ (wCo cI a b S S2)).length + 3) (app_l rfl) (by omega) (by first | omega | decide) (if_pos (by omega)) dL_law_494 ?_
                          have := hI.went v
                          refine lv_iload F.1 F.2.1 dL_law_495 (lv_at hl 6 rfl) ?_
                          refine k_icmp_ne (tgt := 504) F (by omega) (by omega) dL_law_497 (by decide) (fun h497 => ?_) (fun h497 => ?_)
                          · skip
                            refine lv_iconst (v := nI 0) F.1 F.2.1 dL_law_504 (by decide) ?_
                            refine k_iadd F dL_law_505 ?_
                            rw [show (inN S v + 0) = inN S (v + 1) from by show inN S v = _; rw [show inN S (v + 1) = if S 0 0 ≤ S 7 v then inN S v + 1 else inN S v from rfl, if_neg (by omega)]]
                            refine lv_istore (lv' := [(15, .int (nI (inN S (v + 1)))), (22, .int (nI (hisG S (S 7 v) (S 6 v)))), (21, .int (nI (grdN (hisG S (S 7 v) (S 6 v))))), (0, .ref x), (1, .ref (a 13)), (2, .ref (z 0)), (3, .int (nI t)), (5, .int (nI (S 0 0))), (6, .int (nI (S 0 1))), (7, .int (nI (S 0 2))), (9, .int (nI (etN S (S 0 1)))), (10, .int (nI 0)), (11, .int (nI (sumN S (S 0 1)))), (12, .ref q223), (13, .ref q229), (14, .ref q235), (16, .ref q396), (17, .ref q402), (18, .ref q408), (19, .ref q414), (20, .int (nI v))]) F.1 F.2.1 dL_law_506 hl (by decide) rfl (fun ls hl => ?_)
                            exact j508 H locs ls hP hD hS (lv_sub hl [0, 1, 2, 3, 4, 5, 6, 7, 8, 9, 10, 11, 12, 13, 14, 15, 16, 17, 18, 19, 20] rfl)
                          · skip
                            refine lv_iconst (v := nI 1) F.1 F.2.1 dL_law_500 (by decide) ?_
                            refine lv_goto (tgt := 505) F.1 F.2.1 dL_law_501 (by decide) ?_
                            refine k_iadd F dL_law_505 ?_
                            rw [show (inN S v + 1) = inN S (v + 1) from by rw [show inN S (v + 1) = if S 0 0 ≤ S 7 v then inN S v + 1 else inN S v from rfl, if_pos (by omega)]]
                            refine lv_istore (lv' := [(15, .int (nI (inN S (v + 1)))), (22, .int (nI (hisG S (S 7 v) (S 6 v)))), (21, .int (nI (grdN (hisG S (S 7 v) (S 6 v))))), (0, .ref x), (1, .ref (a 13)), (2, .ref (z 0)), (3, .int (nI t)), (5, .int (nI (S 0 0))), (6, .int (nI (S 0 1))), (7, .int (nI (S 0 2))), (9, .int (nI (etN S (S 0 1)))), (10, .int (nI 0)), (11, .int (nI (sumN S (S 0 1)))), (12, .ref q223), (13, .ref q229), (14, .ref q235), (16, .ref q396), (17, .ref q402), (18, .ref q408), (19, .ref q414), (20, .int (nI v))]) F.1 F.2.1 dL_law_506 hl (by decide) rfl (fun ls hl => ?_)
                            exact j508 H locs ls hP hD hS (lv_sub hl [0, 1, 2, 3, 4, 5, 6, 7, 8, 9, 10, 11, 12, 13, 14, 15, 16, 17, 18, 19, 20] rfl)
                    have e_65 : (awN S (S 0 1) - caN S (S 0 1) q) = 0 := (by rw [show q = S 0 0 by omega, caN_all (S 0 1) (fun j hj => hI.keepIn j hj)]; omega)
                    rw [e_65] at hl
                    have e_66 : 0 = inN S 0 := by first | rfl | omega
                    rw [e_66] at hl
                    exact loop421 ((S 0 2) + 1) 0 (by omega) (by omega)  (ce367 + 1 + 1 + 1 + 1) (sl367 + S 0 2 + S 0 2 + S 0 2 + S 0 2) (by omega) (by omega) _ _ _ hP hD hS (lv_sub hl [6, 7, 8, 9, 10, 11, 12, 13, 14, 15, 16, 17, 18, 5, 4, 3, 2, 1, 0] rfl)
                  · skip
                    have hca : caN S (S 0 1) q + cntN S q (S 0 1) ≤ awN S (S 0 1) := caN_le S (q + 1) (S 0 1)
                    refine lv_iload F.1 F.2.1 dL_law_374 (lv_at hl 8 rfl) ?_
                    refine lv_aload_n F.1 F.2.1 dL_law_376 rfl (lv_at hl 1 rfl) ?_
                    refine lv_iload F.1 F.2.1 dL_law_377 (lv_at hl 13 rfl) ?_
                    have ok_67 : r1 (S 0 0) (nI q) (nI (cntN S (cl (nI q)) (S 0 1))) = (0, nI (cntN S q (S 0 1))) := by rw [cl_nI (show q < 2 ^ 31 by omega)]; exact r1_y (okI_nI (by omega) (by omega))
                    refine x_tI (n := 1) (rest := [.int (nI (awN S (S 0 1) - caN S (S 0 1) q))]) (v := nI (cntN S q (S 0 1))) (w1 := (wCo cI a b S S2)) F (c_X3_awakeAt l D cI hst a b S S2 (nI q) (by first | exact hI | exact hJ)) (by rw [ok_67]; rfl) (by rw [ok_67]) rfl gL_law_X3_awakeAt rfl (by decide +kernel) ⟨Nat.le_of_ble_eq_true rfl, Nat.le_of_ble_eq_true rfl⟩ rfl hl.1 rfl (Nat.le_of_ble_eq_true rfl) dL_law_379 ⟨show ce367 + 1 ≤ 600130 by omega, show sl367 + 6 ≤ 7301080 by omega⟩ hK hX hP hD hS (List.append_assoc _ _ _) rfl rfl (((wSi cI cA z S) ++ (wCo cI a b S S2)) ++ [(q223, .inl (cI, S 0 1, .inl (row (fillN (S 3) (S 0 1))))), (q229, .inl (cI, S 0 1, .inl (row (fillN (S 4) (S 0 1))))), (q235, .inl (cI, S 0 1, .inl (row (fillN (S 5) (S 0 1)))))]) (List.append_assoc _ _ _).symm (q0 := 0) (ci := 3) rfl rfl (fun H locs hP hD hS => ?_)
                    have := cnt_le S q (S 0 1)
                    refine k_isub F (by omega) dL_law_382 ?_
                    refine lv_istore (lv' := [(10, .int (nI ((awN S (S 0 1) - caN S (S 0 1) q) - (cntN S q (S 0 1))))), (0, .ref x), (1, .ref (a 13)), (2, .ref (z 0)), (3, .int (nI t)), (5, .int (nI (S 0 0))), (6, .int (nI (S 0 1))), (7, .int (nI (S 0 2))), (9, .int (nI (etN S (S 0 1)))), (11, .int (nI (sumN S (S 0 1)))), (12, .ref q223), (13, .ref q229), (14, .ref q235), (15, .int (nI q))]) F.1 F.2.1 dL_law_383 hl (by decide) rfl (fun ls hl => ?_)
                    refine k_inc (k := 13) (lv' := [(15, .int (nI (q + 1))), (10, .int (nI ((awN S (S 0 1) - caN S (S 0 1) q) - (cntN S q (S 0 1))))), (0, .ref x), (1, .ref (a 13)), (2, .ref (z 0)), (3, .int (nI t)), (5, .int (nI (S 0 0))), (6, .int (nI (S 0 1))), (7, .int (nI (S 0 2))), (9, .int (nI (etN S (S 0 1)))), (11, .int (nI (sumN S (S 0 1)))), (12, .ref q223), (13, .ref q229), (14, .ref q235)]) F dL_law_385 hl rfl (by decide) rfl (fun ls hl => ?_)
                    refine lv_goto (tgt := 367) F.1 F.2.1 dL_law_388 (by decide) ?_
                    have e_68 : ((awN S (S 0 1) - caN S (S 0 1) q) - (cntN S q (S 0 1))) = (awN S (S 0 1) - caN S (S 0 1) (q + 1)) := (by show _ = awN S (S 0 1) - (caN S (S 0 1) q + cntN S q (S 0 1)); omega)
                    rw [e_68] at hl
                    exact ih367 (q + 1) (by omega) (by omega)  (ce367 + 1) (sl367 + 6) (by omega) (by omega) _ _ _ hP hD hS (lv_sub hl [2, 3, 4, 5, 6, 7, 8, 9, 1, 10, 11, 12, 13, 0] rfl)
              have e_69 : awN S (S 0 1) = (awN S (S 0 1) - caN S (S 0 1) 0) := rfl
              rw [e_69] at hl
              exact loop367 ((S 0 0) + 1) 0 (by omega) (by omega)  (ce242) (sl242) (by omega) (by omega) _ _ _ hP hD hS (lv_sub hl [1, 2, 3, 4, 5, 6, 7, 8, 9, 10, 11, 12, 13, 0] rfl)
            · skip
              refine lv_aload F.1 F.2.1 dL_law_249 (lv_at hl 10 rfl) ?_
              refine lv_iload F.1 F.2.1 dL_law_251 (lv_at hl 13 rfl) ?_
              refine lv_aload_n F.1 F.2.1 dL_law_253 rfl (lv_at hl 1 rfl) ?_
              refine lv_iload F.1 F.2.1 dL_law_254 (lv_at hl 13 rfl) ?_
              have ok_70 : r1 (S 0 1) (nI i) (nI (S 3 (cl (nI i)))) = (0, nI (S 3 i)) := by rw [cl_nI (show i < 2 ^ 31 by omega)]; exact r1_y (okI_nI (by omega) (by omega))
              refine x_tI (n := 1) (rest := [.int (nI i), .ref q223]) (v := nI (S 3 i)) (w1 := (wCo cI a b S S2)) F (c_X3_temperOf l D cI hst a b S S2 (nI i) (by first | exact hI | exact hJ)) (by rw [ok_70]; rfl) (by rw [ok_70]) rfl gL_law_X3_temperOf rfl (by decide +kernel) ⟨Nat.le_of_ble_eq_true rfl, Nat.le_of_ble_eq_true rfl⟩ rfl hl.1 rfl (Nat.le_of_ble_eq_true rfl) dL_law_256 ⟨show ce242 + 1 ≤ 600130 by omega, show sl242 + 6 ≤ 7301080 by omega⟩ hK hX hP hD hS (List.append_assoc _ _ _) rfl rfl (((wSi cI cA z S) ++ (wCo cI a b S S2)) ++ [(q223, .inl (cI, S 0 1, .inl (row (fillN (S 3) i)))), (q229, .inl (cI, S 0 1, .inl (row (fillN (S 4) i)))), (q235, .inl (cI, S 0 1, .inl (row (fillN (S 5) i))))]) (List.append_assoc _ _ _).symm (q0 := 0) (ci := 3) rfl rfl (fun H locs hP hD hS => ?_)
              have := hI.mood i
              have := hI.mood1 i (by omega)
              refine q_iast (k := i) (x := (S 3 i)) F hK hP hD hS (((wSi cI cA z S) ++ (wCo cI a b S S2)).length + 0) (app_l rfl) (by omega) (by first | omega | decide) dL_law_259 (((wSi cI cA z S) ++ (wCo cI a b S S2)) ++ [(q223, .inl (cI, S 0 1, .inl (row (fillN (S 3) (i + 1))))), (q229, .inl (cI, S 0 1, .inl (row (fillN (S 4) i)))), (q235, .inl (cI, S 0 1, .inl (row (fillN (S 5) i))))]) (set_app1 (by rw [← fillN_s (S 3) i]; rfl)) (fun H locs hP hD hS => ?_)
              refine lv_aload F.1 F.2.1 dL_law_260 (lv_at hl 11 rfl) ?_
              refine lv_iload F.1 F.2.1 dL_law_262 (lv_at hl 13 rfl) ?_
              refine lv_aload_n F.1 F.2.1 dL_law_264 rfl (lv_at hl 1 rfl) ?_
              refine lv_iload F.1 F.2.1 dL_law_265 (lv_at hl 13 rfl) ?_
              have ok_71 : r1 (S 0 1) (nI i) (nI (S 4 (cl (nI i)))) = (0, nI (S 4 i)) := by rw [cl_nI (show i < 2 ^ 31 by omega)]; exact r1_y (okI_nI (by omega) (by omega))
              refine x_tI (n := 1) (rest := [.int (nI i), .ref q229]) (v := nI (S 4 i)) (w1 := (wCo cI a b S S2)) F (c_X3_calmFor l D cI hst a b S S2 (nI i) (by first | exact hI | exact hJ)) (by rw [ok_71]; rfl) (by rw [ok_71]) rfl gL_law_X3_calmFor rfl (by decide +kernel) ⟨Nat.le_of_ble_eq_true rfl, Nat.le_of_ble_eq_true rfl⟩ rfl hl.1 rfl (Nat.le_of_ble_eq_true rfl) dL_law_267 ⟨show ce242 + 1 + 1 ≤ 600130 by omega, show sl242 + 6 + 6 ≤ 7301080 by omega⟩ hK hX hP hD hS (List.append_assoc _ _ _) rfl rfl (((wSi cI cA z S) ++ (wCo cI a b S S2)) ++ [(q223, .inl (cI, S 0 1, .inl (row (fillN (S 3) (i + 1))))), (q229, .inl (cI, S 0 1, .inl (row (fillN (S 4) i)))), (q235, .inl (cI, S 0 1, .inl (row (fillN (S 5) i))))]) (List.append_assoc _ _ _).symm (q0 := 0) (ci := 3) rfl rfl (fun H locs hP hD hS => ?_)
              have := hI.rest i
              refine q_iast (k := i) (x := (S 4 i)) F hK hP hD hS (((wSi cI cA z S) ++ (wCo cI a b S S2)).length + 1) (app_l rfl) (by omega) (by first | omega | decide) dL_law_270 (((wSi cI cA z S) ++ (wCo cI a b S S2)) ++ [(q223, .inl (cI, S 0 1, .inl (row (fillN (S 3) (i + 1))))), (q229, .inl (cI, S 0 1, .inl (row (fillN (S 4) (i + 1))))), (q235, .inl (cI, S 0 1, .inl (row (fillN (S 5) i))))]) (set_app1 (by rw [← fillN_s (S 4) i]; rfl)) (fun H locs hP hD hS => ?_)
              refine lv_aload F.1 F.2.1 dL_law_271 (lv_at hl 12 rfl) ?_
              refine lv_iload F.1 F.2.1 dL_law_273 (lv_at hl 13 rfl) ?_
              refine lv_aload_n F.1 F.2.1 dL_law_275 rfl (lv_at hl 1 rfl) ?_
              refine lv_iload F.1 F.2.1 dL_law_276 (lv_at hl 13 rfl) ?_
              have ok_72 : r1 (S 0 1) (nI i) (nI (S 5 (cl (nI i)))) = (0, nI (S 5 i)) := by rw [cl_nI (show i < 2 ^ 31 by omega)]; exact r1_y (okI_nI (by omega) (by omega))
              refine x_tI (n := 1) (rest := [.int (nI i), .ref q235]) (v := nI (S 5 i)) (w1 := (wCo cI a b S S2)) F (c_X3_eatenBy l D cI hst a b S S2 (nI i) (by first | exact hI | exact hJ)) (by rw [ok_72]; rfl) (by rw [ok_72]) rfl gL_law_X3_eatenBy rfl (by decide +kernel) ⟨Nat.le_of_ble_eq_true rfl, Nat.le_of_ble_eq_true rfl⟩ rfl hl.1 rfl (Nat.le_of_ble_eq_true rfl) dL_law_278 ⟨show ce242 + 1 + 1 + 1 ≤ 600130 by omega, show sl242 + 6 + 6 + 6 ≤ 7301080 by omega⟩ hK hX hP hD hS (List.append_assoc _ _ _) rfl rfl (((wSi cI cA z S) ++ (wCo cI a b S S2)) ++ [(q223, .inl (cI, S 0 1, .inl (row (fillN (S 3) (i + 1))))), (q229, .inl (cI, S 0 1, .inl (row (fillN (S 4) (i + 1))))), (q235, .inl (cI, S 0 1, .inl (row (fillN (S 5) i))))]) (List.append_assoc _ _ _).symm (q0 := 0) (ci := 3) rfl rfl (fun H locs hP hD hS => ?_)
              refine q_iast (k := i) (x := (S 5 i)) F hK hP hD hS (((wSi cI cA z S) ++ (wCo cI a b S S2)).length + 2) (app_l rfl) (by omega) (by first | omega | decide) dL_law_281 (((wSi cI cA z S) ++ (wCo cI a b S S2)) ++ [(q223, .inl (cI, S 0 1, .inl (row (fillN (S 3) (i + 1))))), (q229, .inl (cI, S 0 1, .inl (row (fillN (S 4) (i + 1))))), (q235, .inl (cI, S 0 1, .inl (row (fillN (S 5) (i + 1)))))]) (set_app1 (by rw [← fillN_s (S 5) i]; rfl)) (fun H locs hP hD hS => ?_)
              refine lv_iload F.1 F.2.1 dL_law_282 (lv_at hl 7 rfl) ?_
              refine lv_aload F.1 F.2.1 dL_law_284 (lv_at hl 12 rfl) ?_
              refine lv_iload F.1 F.2.1 dL_law_286 (lv_at hl 13 rfl) ?_
              refine q_iald (f := fillN (S 5) (i + 1)) (v := S 5 i) F hK hP (((wSi cI cA z S) ++ (wCo cI a b S S2)).length + 2) (app_l rfl) (by omega) (by first | omega | decide) (if_pos (by omega)) dL_law_288 ?_
              refine k_iadd F dL_law_289 ?_
              refine lv_istore (lv' := [(9, .int (nI (etN S i + S 5 i))), (0, .ref x), (1, .ref (a 13)), (2, .ref (z 0)), (3, .int (nI t)), (5, .int (nI (S 0 0))), (6, .int (nI (S 0 1))), (7, .int (nI (S 0 2))), (10, .int (nI (awN S i))), (11, .int (nI (sumN S i))), (12, .ref q223), (13, .ref q229), (14, .ref q235), (15, .int (nI i))]) F.1 F.2.1 dL_law_290 hl (by decide) rfl (fun ls hl => ?_)
              refine lv_iload F.1 F.2.1 dL_law_292 (lv_at hl 9 rfl) ?_
              refine lv_aload F.1 F.2.1 dL_law_294 (lv_at hl 10 rfl) ?_
              refine lv_iload F.1 F.2.1 dL_law_296 (lv_at hl 13 rfl) ?_
              refine q_iald (f := fillN (S 3) (i + 1)) (v := S 3 i) F hK hP (((wSi cI cA z S) ++ (wCo cI a b S S2)).length + 0) (app_l rfl) (by omega) (by first | omega | decide) (if_pos (by omega)) dL_law_298 ?_
              have := hI.mood i
              refine k_iadd F dL_law_299 ?_
              refine lv_istore (lv' := [(11, .int (nI (sumN S i + S 3 i))), (9, .int (nI (etN S i + S 5 i))), (0, .ref x), (1, .ref (a 13)), (2, .ref (z 0)), (3, .int (nI t)), (5, .int (nI (S 0 0))), (6, .int (nI (S 0 1))), (7, .int (nI (S 0 2))), (10, .int (nI (awN S i))), (12, .ref q223), (13, .ref q229), (14, .ref q235), (15, .int (nI i))]) F.1 F.2.1 dL_law_300 hl (by decide) rfl (fun ls hl => ?_)
              refine lv_iload F.1 F.2.1 dL_law_302 (lv_at hl 9 rfl) ?_
              refine lv_aload F.1 F.2.1 dL_law_304 (lv_at hl 11 rfl) ?_
              refine lv_iload F.1 F.2.1 dL_law_306 (lv_at hl 13 rfl) ?_
              refine q_iald (f := fillN (S 4) (i + 1)) (v := S 4 i) F hK hP (((wSi cI cA z S) ++ (wCo cI a b S S2)).length + 1) (app_l rfl) (by omega) (by first | omega | decide) (if_pos (by omega)) dL_law_308 ?_
              have := hI.rest i
              refine k_if_ne (tgt := 316) F (by omega) dL_law_309 (by decide) (fun h309 => ?_) (fun h309 => ?_)
              · skip
                refine lv_iconst (v := nI 0) F.1 F.2.1 dL_law_316 (by decide) ?_
                refine k_iadd F dL_law_317 ?_
                refine lv_istore (lv' := [(10, .int (nI (awN S i + 0))), (11, .int (nI (sumN S i + S 3 i))), (9, .int (nI (etN S i + S 5 i))), (0, .ref x), (1, .ref (a 13)), (2, .ref (z 0)), (3, .int (nI t)), (5, .int (nI (S 0 0))), (6, .int (nI (S 0 1))), (7, .int (nI (S 0 2))), (12, .ref q223), (13, .ref q229), (14, .ref q235), (15, .int (nI i))]) F.1 F.2.1 dL_law_318 hl (by decide) rfl (fun ls hl => ?_)
                refine lv_aload F.1 F.2.1 dL_law_320 (lv_at hl 10 rfl) ?_
                refine lv_iload F.1 F.2.1 dL_law_322 (lv_at hl 13 rfl) ?_
                refine q_iald (f := fillN (S 3) (i + 1)) (v := S 3 i) F hK hP (((wSi cI cA z S) ++ (wCo cI a b S S2)).length + 0) (app_l rfl) (by omega) (by first | omega | decide) (if_pos (by omega)) dL_law_324 ?_
                have := hI.mood i
                refine lv_iconst (v := nI 1) F.1 F.2.1 dL_law_325 (by decide) ?_
                refine k_icmp_lt (tgt := 356) F (by omega) (by omega) dL_law_326 (by decide) (fun h326 => ?_) (fun h326 => ?_)
                · skip
                  exfalso; omega
                · skip
                  refine lv_aload F.1 F.2.1 dL_law_329 (lv_at hl 10 rfl) ?_
                  refine lv_iload F.1 F.2.1 dL_law_331 (lv_at hl 13 rfl) ?_
                  refine q_iald (f := fillN (S 3) (i + 1)) (v := S 3 i) F hK hP (((wSi cI cA z S) ++ (wCo cI a b S S2)).length + 0) (app_l rfl) (by omega) (by first | omega | decide) (if_pos (by omega)) dL_law_333 ?_
                  have := hI.mood i
                  refine lv_bipush (v := nI 9) F.1 F.2.1 dL_law_334 (by decide) ?_
                  refine k_icmp_gt (tgt := 356) F (by omega) (by omega) dL_law_336 (by decide) (fun h336 => ?_) (fun h336 => ?_)
                  · skip
                    exfalso; omega
                  · skip
                    refine lv_aload F.1 F.2.1 dL_law_339 (lv_at hl 11 rfl) ?_
                    refine lv_iload F.1 F.2.1 dL_law_341 (lv_at hl 13 rfl) ?_
                    refine q_iald (f := fillN (S 4) (i + 1)) (v := S 4 i) F hK hP (((wSi cI cA z S) ++ (wCo cI a b S S2)).length + 1) (app_l rfl) (by omega) (by first | omega | decide) (if_pos (by omega)) dL_law_343 ?_
                    have := hI.rest i
                    refine lv_if_lt (tgt := 356) F.1 F.2.1 dL_law_344 (by decide) (fun h344 => ?_) (fun h344 => ?_)
                    · exact absurd h344 (nI_pos (by omega))
                    · skip
                      refine lv_aload F.1 F.2.1 dL_law_347 (lv_at hl 11 rfl) ?_
                      refine lv_iload F.1 F.2.1 dL_law_349 (lv_at hl 13 rfl) ?_
                      refine q_iald (f := fillN (S 4) (i + 1)) (v := S 4 i) F hK hP (((wSi cI cA z S) ++ (wCo cI a b S S2)).length + 1) (app_l rfl) (by omega) (by first | omega | decide) (if_pos (by omega)) dL_law_351 ?_
                      have := hI.rest i
                      refine lv_iconst (v := nI 3) F.1 F.2.1 dL_law_352 (by decide) ?_
                      refine k_icmp_le (tgt := 358) F (by omega) (by omega) dL_law_353 (by decide) (fun h353 => ?_) (fun h353 => ?_)
                      · skip
                        refine k_inc (k := 13) (lv' := [(15, .int (nI (i + 1))), (10, .int (nI (awN S i + 0))), (11, .int (nI (sumN S i + S 3 i))), (9, .int (nI (etN S i + S 5 i))), (0, .ref x), (1, .ref (a 13)), (2, .ref (z 0)), (3, .int (nI t)), (5, .int (nI (S 0 0))), (6, .int (nI (S 0 1))), (7, .int (nI (S 0 2))), (12, .ref q223), (13, .ref q229), (14, .ref q235)]) F dL_law_358 hl rfl (by decide) rfl (fun ls hl => ?_)
                        refine lv_goto (tgt := 242) F.1 F.2.1 dL_law_361 (by decide) ?_
                        have e_73 : (etN S i + S 5 i) = etN S (i + 1) := by first | rfl | omega
                        rw [e_73] at hl
                        have e_74 : (awN S i + 0) = awN S (i + 1) := by show awN S i = _; rw [show awN S (i + 1) = if S 4 i = 0 then awN S i + 1 else awN S i from rfl, if_neg h309]
                        rw [e_74] at hl
                        have e_75 : (sumN S i + S 3 i) = sumN S (i + 1) := by first | rfl | omega
                        rw [e_75] at hl
                        exact ih242 (i + 1) (by omega) (by omega)  (ce242 + 1 + 1 + 1) (sl242 + 6 + 6 + 6) (by omega) (by omega) _ _ _ hP hD hS (lv_sub hl [4, 5, 6, 7, 8, 9, 10, 3, 1, 2, 11, 12, 13, 0] rfl)
                      · skip
                        exfalso; omega
              · skip
                refine lv_iconst (v := nI 1) F.1 F.2.1 dL_law_312 (by decide) ?_
                refine lv_goto (tgt := 317) F.1 F.2.1 dL_law_313 (by decide) ?_
                refine k_iadd F dL_law_317 ?_
                refine lv_istore (lv' := [(10, .int (nI (awN S i + 1))), (11, .int (nI (sumN S i + S 3 i))), (9, .int (nI (etN S i + S 5 i))), (0, .ref x), (1, .ref (a 13)), (2, .ref (z 0)), (3, .int (nI t)), (5, .int (nI (S 0 0))), (6, .int (nI (S 0 1))), (7, .int (nI (S 0 2))), (12, .ref q223), (13, .ref q229), (14, .ref q235), (15, .int (nI i))]) F.1 F.2.1 dL_law_318 hl (by decide) rfl (fun ls hl => ?_)
                refine lv_aload F.1 F.2.1 dL_law_320 (lv_at hl 10 rfl) ?_
                refine lv_iload F.1 F.2.1 dL_law_322 (lv_at hl 13 rfl) ?_
                refine q_iald (f := fillN (S 3) (i + 1)) (v := S 3 i) F hK hP (((wSi cI cA z S) ++ (wCo cI a b S S2)).length + 0) (app_l rfl) (by omega) (by first | omega | decide) (if_pos (by omega)) dL_law_324 ?_
                have := hI.mood i
                refine lv_iconst (v := nI 1) F.1 F.2.1 dL_law_325 (by decide) ?_
                refine k_icmp_lt (tgt := 356) F (by omega) (by omega) dL_law_326 (by decide) (fun h326 => ?_) (fun h326 => ?_)
                · skip
                  exfalso; omega
                · skip
                  refine lv_aload F.1 F.2.1 dL_law_329 (lv_at hl 10 rfl) ?_
                  refine lv_iload F.1 F.2.1 dL_law_331 (lv_at hl 13 rfl) ?_
                  refine q_iald (f := fillN (S 3) (i + 1)) (v := S 3 i) F hK hP (((wSi cI cA z S) ++ (wCo cI a b S S2)).length + 0) (app_l rfl) (by omega) (by first | omega | decide) (if_pos (by omega)) dL_law_333 ?_
                  have := hI.mood i
                  refine lv_bipush (v := nI 9) F.1 F.2.1 dL_law_334 (by decide) ?_
                  refine k_icmp_gt (tgt := 356) F (by omega) (by omega) dL_law_336 (by decide) (fun h336 => ?_) (fun h336 => ?_)
                  · skip
                    exfalso; omega
                  · skip
                    refine lv_aload F.1 F.2.1 dL_law_339 (lv_at hl 11 rfl) ?_
                    refine lv_iload F.1 F.2.1 dL_law_341 (lv_at hl 13 rfl) ?_
                    refine q_iald (f := fillN (S 4) (i + 1)) (v := S 4 i) F hK hP (((wSi cI cA z S) ++ (wCo cI a b S S2)).length + 1) (app_l rfl) (by omega) (by first | omega | decide) (if_pos (by omega)) dL_law_343 ?_
                    have := hI.rest i
                    refine lv_if_lt (tgt := 356) F.1 F.2.1 dL_law_344 (by decide) (fun h344 => ?_) (fun h344 => ?_)
                    · exact absurd h344 (nI_pos (by omega))
                    · skip
                      refine lv_aload F.1 F.2.1 dL_law_347 (lv_at hl 11 rfl) ?_
                      refine lv_iload F.1 F.2.1 dL_law_349 (lv_at hl 13 rfl) ?_
                      refine q_iald (f := fillN (S 4) (i + 1)) (v := S 4 i) F hK hP (((wSi cI cA z S) ++ (wCo cI a b S S2)).length + 1) (app_l rfl) (by omega) (by first | omega | decide) (if_pos (by omega)) dL_law_351 ?_
                      have := hI.rest i
                      refine lv_iconst (v := nI 3) F.1 F.2.1 dL_law_352 (by decide) ?_
                      refine k_icmp_le (tgt := 358) F (by omega) (by omega) dL_law_353 (by decide) (fun h353 => ?_) (fun h353 => ?_)
                      · skip
                        refine k_inc (k := 13) (lv' := [(15, .int (nI (i + 1))), (10, .int (nI (awN S i + 1))), (11, .int (nI (sumN S i + S 3 i))), (9, .int (nI (etN S i + S 5 i))), (0, .ref x), (1, .ref (a 13)), (2, .ref (z 0)), (3, .int (nI t)), (5, .int (nI (S 0 0))), (6, .int (nI (S 0 1))), (7, .int (nI (S 0 2))), (12, .ref q223), (13, .ref q229), (14, .ref q235)]) F dL_law_358 hl rfl (by decide) rfl (fun ls hl => ?_)
                        refine lv_goto (tgt := 242) F.1 F.2.1 dL_law_361 (by decide) ?_
                        have e_76 : (etN S i + S 5 i) = etN S (i + 1) := by first | rfl | omega
                        rw [e_76] at hl
                        have e_77 : (awN S i + 1) = awN S (i + 1) := by rw [show awN S (i + 1) = if S 4 i = 0 then awN S i + 1 else awN S i from rfl, if_pos h309]
                        rw [e_77] at hl
                        have e_78 : (sumN S i + S 3 i) = sumN S (i + 1) := by first | rfl | omega
                        rw [e_78] at hl
                        exact ih242 (i + 1) (by omega) (by omega)  (ce242 + 1 + 1 + 1) (sl242 + 6 + 6 + 6) (by omega) (by omega) _ _ _ hP hD hS (lv_sub hl [4, 5, 6, 7, 8, 9, 10, 3, 1, 2, 11, 12, 13, 0] rfl)
                      · skip
                        exfalso; omega
        have e_79 : 0 = etN S 0 := by first | rfl | omega
        rw [e_79] at hl
        have e_80 : 0 = awN S 0 := by first | rfl | omega
        rw [e_80] at hl
        have e_81 : 0 = sumN S 0 := by first | rfl | omega
        rw [e_81] at hl
        exact loop242 ((S 0 1) + 1) 0 (by omega) (by omega)  (ce95 + 1 + 1 + 1) (sl95 + S 0 1 + S 0 1 + S 0 1) (by omega) (by omega) _ _ _ hP hD hS (lv_sub hl [7, 8, 9, 10, 11, 12, 13, 6, 5, 4, 3, 2, 1, 0] rfl)
      · skip
        have hz9 : (hisG S g (blw (X >>> (nI 2 &&& 31)) 9) = 0 ↔ cntN S g (S 0 1) = 0) ∧ cntN S g (S 0 1) ≤ hisG S g (blw (X >>> (nI 2 &&& 31)) 9) := his_z hI g _ _ (Nat.le_refl _)
        have hm9 : hisG S g ((blw (X >>> (nI 2 &&& 31)) 9) + 1) ≤ hisG S g (blw (X >>> (nI 2 &&& 31)) 9) := hisG_m S g (by omega)
        obtain ⟨bL, hb1, hb2, hb3⟩ := ld_get S (show g < S 0 0 by omega)
        refine lv_aload_n F.1 F.2.1 dL_law_102 rfl (lv_at hl 1 rfl) ?_
        refine lv_iload F.1 F.2.1 dL_law_103 (lv_at hl 8 rfl) ?_
        refine lv_iload F.1 F.2.1 dL_law_105 (lv_at hl 7 rfl) ?_
        have ok_82 : rHiss S (nI g) (nI (blw (X >>> (nI 2 &&& 31)) 9)) = (0, nI (hisG S g (blw (X >>> (nI 2 &&& 31)) 9))) := ok_hiss hI (by omega) (by omega)
        refine x_tI (n := 2) (rest := []) (v := nI (hisG S g (blw (X >>> (nI 2 &&& 31)) 9))) (w1 := (wCo cI a b S S2)) F (c_X3_hissOf l D cI hst a b S S2 (nI g) (nI (blw (X >>> (nI 2 &&& 31)) 9)) (by first | exact hI | exact hJ)) (by rw [ok_82]; rfl) (by rw [ok_82]) rfl gL_law_X3_hissOf rfl (by decide +kernel) ⟨Nat.le_of_ble_eq_true rfl, Nat.le_of_ble_eq_true rfl⟩ rfl hl.1 rfl (Nat.le_of_ble_eq_true rfl) dL_law_107 ⟨show ce95 + 2 ≤ 600130 by omega, show sl95 + 12 ≤ 7301080 by omega⟩ hK hX hP hD hS ap_t rfl rfl ((wSi cI cA z S) ++ (wCo cI a b S S2)) (congrArg _ (List.append_nil _)) (q0 := 0) (ci := 3) rfl rfl (fun H locs hP hD hS => ?_)
        have := hisG_le hI g (blw (X >>> (nI 2 &&& 31)) 9)
        refine lv_istore (lv' := [(10, .int (nI (hisG S g (blw (X >>> (nI 2 &&& 31)) 9)))), (0, .ref x), (1, .ref (a 13)), (2, .ref (z 0)), (3, .int (nI t)), (5, .int (nI (S 0 0))), (6, .int (nI (S 0 1))), (7, .int (nI (S 0 2))), (8, .int (nI (blw (X >>> (nI 2 &&& 31)) 9))), (9, .int (nI g))]) F.1 F.2.1 dL_law_110 hl (by decide) rfl (fun ls hl => ?_)
        refine lv_iload F.1 F.2.1 dL_law_112 (lv_at hl 0 rfl) ?_
        refine k_if_ne (tgt := 121) F (by omega) dL_law_114 (by decide) (fun h114 => ?_) (fun h114 => ?_)
        · skip
          refine lv_iconst (v := nI 0) F.1 F.2.1 dL_law_121 (by decide) ?_
          refine lv_aload_n F.1 F.2.1 dL_law_122 rfl (lv_at hl 2 rfl) ?_
          refine lv_iload F.1 F.2.1 dL_law_123 (lv_at hl 9 rfl) ?_
          have ok_83 : r1 (S 0 0) (nI g) (nI (cntN S (cl (nI g)) (S 0 1))) = (0, nI (cntN S g (S 0 1))) := by rw [cl_nI (show g < 2 ^ 31 by omega)]; exact r1_y (okI_nI (by omega) (by omega))
          refine x_tI (n := 1) (rest := [.int (nI 0)]) (v := nI (cntN S g (S 0 1))) (w1 := (wCo cI a b S S2)) F (c_X3_awakeAt l D cI hst a b S S2 (nI g) (by first | exact hI | exact hJ)) (by rw [ok_83]; rfl) (by rw [ok_83]) rfl gL_law_X3_awakeAt rfl (by decide +kernel) ⟨Nat.le_of_ble_eq_true rfl, Nat.le_of_ble_eq_true rfl⟩ rfl hl.1 rfl (Nat.le_of_ble_eq_true rfl) dL_law_125 ⟨show ce95 + 2 + 1 ≤ 600130 by omega, show sl95 + 12 + 6 ≤ 7301080 by omega⟩ hK hX hP hD hS ap_t rfl rfl ((wSi cI cA z S) ++ (wCo cI a b S S2)) (congrArg _ (List.append_nil _)) (q0 := 0) (ci := 3) rfl rfl (fun H locs hP hD hS => ?_)
          have := cnt_le S g (S 0 1)
          refine k_if_ne (tgt := 135) F (by omega) dL_law_128 (by decide) (fun h128 => ?_) (fun h128 => ?_)
          · skip
            refine lv_iconst (v := nI 0) F.1 F.2.1 dL_law_135 (by decide) ?_
            refine lv_icmp_ne (tgt := 204) F.1 F.2.1 dL_law_136 (by decide) (fun h136 => ?_) (fun h136 => ?_)
            · skip
              exact absurd h136 (by decide)
            · skip
              refine lv_iload F.1 F.2.1 dL_law_139 (lv_at hl 0 rfl) ?_
              refine lv_aload_n F.1 F.2.1 dL_law_141 rfl (lv_at hl 2 rfl) ?_
              refine lv_iload F.1 F.2.1 dL_law_142 (lv_at hl 9 rfl) ?_
              have ok_84 : r1 (S 0 0) (nI g) (nI (cntN S (cl (nI g)) (S 0 1))) = (0, nI (cntN S g (S 0 1))) := by rw [cl_nI (show g < 2 ^ 31 by omega)]; exact r1_y (okI_nI (by omega) (by omega))
              refine x_tI (n := 1) (rest := [.int (nI (hisG S g (blw (X >>> (nI 2 &&& 31)) 9)))]) (v := nI (cntN S g (S 0 1))) (w1 := (wCo cI a b S S2)) F (c_X3_awakeAt l D cI hst a b S S2 (nI g) (by first | exact hI | exact hJ)) (by rw [ok_84]; rfl) (by rw [ok_84]) rfl gL_law_X3_awakeAt rfl (by decide +kernel) ⟨Nat.le_of_ble_eq_true rfl, Nat.le_of_ble_eq_true rfl⟩ rfl hl.1 rfl (Nat.le_of_ble_eq_true rfl) dL_law_144 ⟨show ce95 + 2 + 1 + 1 ≤ 600130 by omega, show sl95 + 12 + 6 + 6 ≤ 7301080 by omega⟩ hK hX hP hD hS ap_t rfl rfl ((wSi cI cA z S) ++ (wCo cI a b S S2)) (congrArg _ (List.append_nil _)) (q0 := 0) (ci := 3) rfl rfl (fun H locs hP hD hS => ?_)
              have := cnt_le S g (S 0 1)
              refine k_icmp_lt (tgt := 204) F (by omega) (by omega) dL_law_147 (by decide) (fun h147 => ?_) (fun h147 => ?_)
              · skip
                exfalso; omega
              · skip
                refine lv_aload_n F.1 F.2.1 dL_law_150 rfl (lv_at hl 2 rfl) ?_
                refine lv_iload F.1 F.2.1 dL_law_151 (lv_at hl 9 rfl) ?_
                refine lv_iload F.1 F.2.1 dL_law_153 (lv_at hl 8 rfl) ?_
                refine lv_iconst (v := nI 1) F.1 F.2.1 dL_law_155 (by decide) ?_
                refine k_iadd F dL_law_156 ?_
                have ok_85 : rHiss S (nI g) (nI ((blw (X >>> (nI 2 &&& 31)) 9) + 1)) = (0, nI (hisG S g ((blw (X >>> (nI 2 &&& 31)) 9) + 1))) := ok_hiss hI (by omega) (by omega)
                refine x_tI (n := 2) (rest := []) (v := nI (hisG S g ((blw (X >>> (nI 2 &&& 31)) 9) + 1))) (w1 := (wCo cI a b S S2)) F (c_X3_hissOf l D cI hst a b S S2 (nI g) (nI ((blw (X >>> (nI 2 &&& 31)) 9) + 1)) (by first | exact hI | exact hJ)) (by rw [ok_85]; rfl) (by rw [ok_85]) rfl gL_law_X3_hissOf rfl (by decide +kernel) ⟨Nat.le_of_ble_eq_true rfl, Nat.le_of_ble_eq_true rfl⟩ rfl hl.1 rfl (Nat.le_of_ble_eq_true rfl) dL_law_157 ⟨show ce95 + 2 + 1 + 1 + 2 ≤ 600130 by omega, show sl95 + 12 + 6 + 6 + 12 ≤ 7301080 by omega⟩ hK hX hP hD hS ap_t rfl rfl ((wSi cI cA z S) ++ (wCo cI a b S S2)) (congrArg _ (List.append_nil _)) (q0 := 0) (ci := 3) rfl rfl (fun H locs hP hD hS => ?_)
                have := hisG_le hI g ((blw (X >>> (nI 2 &&& 31)) 9) + 1)
                refine lv_iload F.1 F.2.1 dL_law_160 (lv_at hl 0 rfl) ?_
                refine k_icmp_gt (tgt := 204) F (by omega) (by omega) dL_law_162 (by decide) (fun h162 => ?_) (fun h162 => ?_)
                · skip
                  exfalso; omega
                · skip
                  refine lv_aload_n F.1 F.2.1 dL_law_165 rfl (lv_at hl 2 rfl) ?_
                  refine lv_iload F.1 F.2.1 dL_law_166 (lv_at hl 9 rfl) ?_
                  refine lv_iconst (v := nI 0) F.1 F.2.1 dL_law_168 (by decide) ?_
                  have ok_86 : rHiss S (nI g) (nI 0) = (0, nI (hisG S g 0)) := ok_hiss hI (by omega) (by omega)
                  refine x_tI (n := 2) (rest := []) (v := nI (hisG S g 0)) (w1 := (wCo cI a b S S2)) F (c_X3_hissOf l D cI hst a b S S2 (nI g) (nI 0) (by first | exact hI | exact hJ)) (by rw [ok_86]; rfl) (by rw [ok_86]) rfl gL_law_X3_hissOf rfl (by decide +kernel) ⟨Nat.le_of_ble_eq_true rfl, Nat.le_of_ble_eq_true rfl⟩ rfl hl.1 rfl (Nat.le_of_ble_eq_true rfl) dL_law_169 ⟨show ce95 + 2 + 1 + 1 + 2 + 2 ≤ 600130 by omega, show sl95 + 12 + 6 + 6 + 12 + 12 ≤ 7301080 by omega⟩ hK hX hP hD hS ap_t rfl rfl ((wSi cI cA z S) ++ (wCo cI a b S S2)) (congrArg _ (List.append_nil _)) (q0 := 0) (ci := 3) rfl rfl (fun H locs hP hD hS => ?_)
                  have := hisG_le hI g 0
                  refine lv_aload_n F.1 F.2.1 dL_law_172 rfl (lv_at hl 2 rfl) ?_
                  refine lv_aload_n F.1 F.2.1 dL_law_173 rfl (lv_at hl 2 rfl) ?_
                  refine x_pI (n := 0) (rest := [.ref (a 13), .int (nI (hisG S g 0))]) (v := oI (ldN S (S 0 0)).1) F (c_X3_loudestGate l D cI a b S S2 (by first | exact hI | exact hJ)) gL_law_X3_loudestGate rfl (by decide +kernel) ⟨Nat.le_of_ble_eq_true rfl, Nat.le_of_ble_eq_true rfl⟩ rfl hl.1 rfl (Nat.le_of_ble_eq_true rfl) dL_law_174 ⟨show ce95 + 2 + 1 + 1 + 2 + 2 ≤ 600130 by omega, show sl95 + 12 + 6 + 6 + 12 + 12 ≤ 7301080 by omega⟩ hK hP hS ap_t (q0 := 0) (ci := 3) rfl rfl (fun H locs hP hS => ?_)
                  rw [hb1, oI_succ]
                  refine lv_iconst (v := nI 0) F.1 F.2.1 dL_law_177 (by decide) ?_
                  have ok_87 : rHiss S (nI bL) (nI 0) = (0, nI (hisG S bL 0)) := ok_hiss hI (by omega) (by omega)
                  refine x_tI (n := 2) (rest := [.int (nI (hisG S g 0))]) (v := nI (hisG S bL 0)) (w1 := (wCo cI a b S S2)) F (c_X3_hissOf l D cI hst a b S S2 (nI bL) (nI 0) (by first | exact hI | exact hJ)) (by rw [ok_87]; rfl) (by rw [ok_87]) rfl gL_law_X3_hissOf rfl (by decide +kernel) ⟨Nat.le_of_ble_eq_true rfl, Nat.le_of_ble_eq_true rfl⟩ rfl hl.1 rfl (Nat.le_of_ble_eq_true rfl) dL_law_178 ⟨show ce95 + 2 + 1 + 1 + 2 + 2 + 2 ≤ 600130 by omega, show sl95 + 12 + 6 + 6 + 12 + 12 + 12 ≤ 7301080 by omega⟩ hK hX hP hD hS ap_t rfl rfl ((wSi cI cA z S) ++ (wCo cI a b S S2)) (congrArg _ (List.append_nil _)) (q0 := 0) (ci := 3) rfl rfl (fun H locs hP hD hS => ?_)
                  have := hisG_le hI bL 0
                  refine k_icmp_gt (tgt := 204) F (by omega) (by omega) dL_law_181 (by decide) (fun h181 => ?_) (fun h181 => ?_)
                  · skip
                    exfalso; omega
                  · skip
                    refine lv_aload_n F.1 F.2.1 dL_law_184 rfl (lv_at hl 2 rfl) ?_
                    refine lv_iload F.1 F.2.1 dL_law_185 (lv_at hl 9 rfl) ?_
                    have ok_88 : r1 (S 0 0) (nI g) (nI (S 1 (cl (nI g)))) = (0, nI (S 1 g)) := by rw [cl_nI (show g < 2 ^ 31 by omega)]; exact r1_y (okI_nI (by omega) (by omega))
                    refine x_tI (n := 1) (rest := []) (v := nI (S 1 g)) (w1 := (wCo cI a b S S2)) F (c_X3_rankOf l D cI hst a b S S2 (nI g) (by first | exact hI | exact hJ)) (by rw [ok_88]; rfl) (by rw [ok_88]) rfl gL_law_X3_rankOf rfl (by decide +kernel) ⟨Nat.le_of_ble_eq_true rfl, Nat.le_of_ble_eq_true rfl⟩ rfl hl.1 rfl (Nat.le_of_ble_eq_true rfl) dL_law_187 ⟨show ce95 + 2 + 1 + 1 + 2 + 2 + 2 + 1 ≤ 600130 by omega, show sl95 + 12 + 6 + 6 + 12 + 12 + 12 + 6 ≤ 7301080 by omega⟩ hK hX hP hD hS ap_t rfl rfl ((wSi cI cA z S) ++ (wCo cI a b S S2)) (congrArg _ (List.append_nil _)) (q0 := 0) (ci := 3) rfl rfl (fun H locs hP hD hS => ?_)
                    have := hI.rank g
                    refine lv_if_lt (tgt := 204) F.1 F.2.1 dL_law_190 (by decide) (fun h190 => ?_) (fun h190 => ?_)
                    · exact absurd h190 (nI_pos (by omega))
                    · skip
                      refine lv_aload_n F.1 F.2.1 dL_law_193 rfl (lv_at hl 2 rfl) ?_
                      refine lv_iload F.1 F.2.1 dL_law_194 (lv_at hl 9 rfl) ?_
                      have ok_89 : r1 (S 0 0) (nI g) (nI (S 1 (cl (nI g)))) = (0, nI (S 1 g)) := by rw [cl_nI (show g < 2 ^ 31 by omega)]; exact r1_y (okI_nI (by omega) (by omega))
                      refine x_tI (n := 1) (rest := []) (v := nI (S 1 g)) (w1 := (wCo cI a b S S2)) F (c_X3_rankOf l D cI hst a b S S2 (nI g) (by first | exact hI | exact hJ)) (by rw [ok_89]; rfl) (by rw [ok_89]) rfl gL_law_X3_rankOf rfl (by decide +kernel) ⟨Nat.le_of_ble_eq_true rfl, Nat.le_of_ble_eq_true rfl⟩ rfl hl.1 rfl (Nat.le_of_ble_eq_true rfl) dL_law_196 ⟨show ce95 + 2 + 1 + 1 + 2 + 2 + 2 + 1 + 1 ≤ 600130 by omega, show sl95 + 12 + 6 + 6 + 12 + 12 + 12 + 6 + 6 ≤ 7301080 by omega⟩ hK hX hP hD hS ap_t rfl rfl ((wSi cI cA z S) ++ (wCo cI a b S S2)) (congrArg _ (List.append_nil _)) (q0 := 0) (ci := 3) rfl rfl (fun H locs hP hD hS => ?_)
                      have := hI.rank g
                      refine lv_bipush (v := nI 9) F.1 F.2.1 dL_law_199 (by decide) ?_
                      refine k_icmp_le (tgt := 206) F (by omega) (by omega) dL_law_201 (by decide) (fun h201 => ?_) (fun h201 => ?_)
                      · skip
                        refine k_inc (k := 9) (lv' := [(9, .int (nI (g + 1))), (10, .int (nI (hisG S g (blw (X >>> (nI 2 &&& 31)) 9)))), (0, .ref x), (1, .ref (a 13)), (2, .ref (z 0)), (3, .int (nI t)), (5, .int (nI (S 0 0))), (6, .int (nI (S 0 1))), (7, .int (nI (S 0 2))), (8, .int (nI (blw (X >>> (nI 2 &&& 31)) 9)))]) F dL_law_206 hl rfl (by decide) rfl (fun ls hl => ?_)
                        refine lv_goto (tgt := 95) F.1 F.2.1 dL_law_209 (by decide) ?_
                        exact ih95 (g + 1) (by omega) (by omega)  (ce95 + 2 + 1 + 1 + 2 + 2 + 2 + 1 + 1) (sl95 + 12 + 6 + 6 + 12 + 12 + 12 + 6 + 6) (by omega) (by omega) _ _ _ hP hD hS (lv_sub hl [2, 3, 4, 5, 6, 7, 8, 9, 0] rfl)
                      · skip
                        exfalso; omega
          · skip
            refine lv_iconst (v := nI 1) F.1 F.2.1 dL_law_131 (by decide) ?_
            refine lv_goto (tgt := 136) F.1 F.2.1 dL_law_132 (by decide) ?_
            refine k_icmp_ne (tgt := 204) F (by omega) (by omega) dL_law_136 (by decide) (fun h136 => ?_) (fun h136 => ?_)
            · skip
              exfalso; omega
            · skip
              exact absurd h136 (by decide)
        · skip
          refine lv_iconst (v := nI 1) F.1 F.2.1 dL_law_117 (by decide) ?_
          refine lv_goto (tgt := 122) F.1 F.2.1 dL_law_118 (by decide) ?_
          refine lv_aload_n F.1 F.2.1 dL_law_122 rfl (lv_at hl 2 rfl) ?_
          refine lv_iload F.1 F.2.1 dL_law_123 (lv_at hl 9 rfl) ?_
          have ok_90 : r1 (S 0 0) (nI g) (nI (cntN S (cl (nI g)) (S 0 1))) = (0, nI (cntN S g (S 0 1))) := by rw [cl_nI (show g < 2 ^ 31 by omega)]; exact r1_y (okI_nI (by omega) (by omega))
          refine x_tI (n := 1) (rest := [.int (nI 1)]) (v := nI (cntN S g (S 0 1))) (w1 := (wCo cI a b S S2)) F (c_X3_awakeAt l D cI hst a b S S2 (nI g) (by first | exact hI | exact hJ)) (by rw [ok_90]; rfl) (by rw [ok_90]) rfl gL_law_X3_awakeAt rfl (by decide +kernel) ⟨Nat.le_of_ble_eq_true rfl, Nat.le_of_ble_eq_true rfl⟩ rfl hl.1 rfl (Nat.le_of_ble_eq_true rfl) dL_law_125 ⟨show ce95 + 2 + 1 ≤ 600130 by omega, show sl95 + 12 + 6 ≤ 7301080 by omega⟩ hK hX hP hD hS ap_t rfl rfl ((wSi cI cA z S) ++ (wCo cI a b S S2)) (congrArg _ (List.append_nil _)) (q0 := 0) (ci := 3) rfl rfl (fun H locs hP hD hS => ?_)
          have := cnt_le S g (S 0 1)
          refine k_if_ne (tgt := 135) F (by omega) dL_law_128 (by decide) (fun h128 => ?_) (fun h128 => ?_)
          · skip
            refine lv_iconst (v := nI 0) F.1 F.2.1 dL_law_135 (by decide) ?_
            refine k_icmp_ne (tgt := 204) F (by omega) (by omega) dL_law_136 (by decide) (fun h136 => ?_) (fun h136 => ?_)
            · skip
              exfalso; omega
            · skip
              exact absurd h136 (by decide)
          · skip
            refine lv_iconst (v := nI 1) F.1 F.2.1 dL_law_131 (by decide) ?_
            refine lv_goto (tgt := 136) F.1 F.2.1 dL_law_132 (by decide) ?_
            refine lv_icmp_ne (tgt := 204) F.1 F.2.1 dL_law_136 (by decide) (fun h136 => ?_) (fun h136 => ?_)
            · skip
              exact absurd h136 (by decide)
            · skip
              refine lv_iload F.1 F.2.1 dL_law_139 (lv_at hl 0 rfl) ?_
              refine lv_aload_n F.1 F.2.1 dL_law_141 rfl (lv_at hl 2 rfl) ?_
              refine lv_iload F.1 F.2.1 dL_law_142 (lv_at hl 9 rfl) ?_
              have ok_91 : r1 (S 0 0) (nI g) (nI (cntN S (cl (nI g)) (S 0 1))) = (0, nI (cntN S g (S 0 1))) := by rw [cl_nI (show g < 2 ^ 31 by omega)]; exact r1_y (okI_nI (by omega) (by omega))
              refine x_tI (n := 1) (rest := [.int (nI (hisG S g (blw (X >>> (nI 2 &&& 31)) 9)))]) (v := nI (cntN S g (S 0 1))) (w1 := (wCo cI a b S S2)) F (c_X3_awakeAt l D cI hst a b S S2 (nI g) (by first | exact hI | exact hJ)) (by rw [ok_91]; rfl) (by rw [ok_91]) rfl gL_law_X3_awakeAt rfl (by decide +kernel) ⟨Nat.le_of_ble_eq_true rfl, Nat.le_of_ble_eq_true rfl⟩ rfl hl.1 rfl (Nat.le_of_ble_eq_true rfl) dL_law_144 ⟨show ce95 + 2 + 1 + 1 ≤ 600130 by omega, show sl95 + 12 + 6 + 6 ≤ 7301080 by omega⟩ hK hX hP hD hS ap_t rfl rfl ((wSi cI cA z S) ++ (wCo cI a b S S2)) (congrArg _ (List.append_nil _)) (q0 := 0) (ci := 3) rfl rfl (fun H locs hP hD hS => ?_)
              have := cnt_le S g (S 0 1)
              refine k_icmp_lt (tgt := 204) F (by omega) (by omega) dL_law_147 (by decide) (fun h147 => ?_) (fun h147 => ?_)
              · skip
                exfalso; omega
              · skip
                refine lv_aload_n F.1 F.2.1 dL_law_150 rfl (lv_at hl 2 rfl) ?_
                refine lv_iload F.1 F.2.1 dL_law_151 (lv_at hl 9 rfl) ?_
                refine lv_iload F.1 F.2.1 dL_law_153 (lv_at hl 8 rfl) ?_
                refine lv_iconst (v := nI 1) F.1 F.2.1 dL_law_155 (by decide) ?_
                refine k_iadd F dL_law_156 ?_
                have ok_92 : rHiss S (nI g) (nI ((blw (X >>> (nI 2 &&& 31)) 9) + 1)) = (0, nI (hisG S g ((blw (X >>> (nI 2 &&& 31)) 9) + 1))) := ok_hiss hI (by omega) (by omega)
                refine x_tI (n := 2) (rest := []) (v := nI (hisG S g ((blw (X >>> (nI 2 &&& 31)) 9) + 1))) (w1 := (wCo cI a b S S2)) F (c_X3_hissOf l D cI hst a b S S2 (nI g) (nI ((blw (X >>> (nI 2 &&& 31)) 9) + 1)) (by first | exact hI | exact hJ)) (by rw [ok_92]; rfl) (by rw [ok_92]) rfl gL_law_X3_hissOf rfl (by decide +kernel) ⟨Nat.le_of_ble_eq_true rfl, Nat.le_of_ble_eq_true rfl⟩ rfl hl.1 rfl (Nat.le_of_ble_eq_true rfl) dL_law_157 ⟨show ce95 + 2 + 1 + 1 + 2 ≤ 600130 by omega, show sl95 + 12 + 6 + 6 + 12 ≤ 7301080 by omega⟩ hK hX hP hD hS ap_t rfl rfl ((wSi cI cA z S) ++ (wCo cI a b S S2)) (congrArg _ (List.append_nil _)) (q0 := 0) (ci := 3) rfl rfl (fun H locs hP hD hS => ?_)
                have := hisG_le hI g ((blw (X >>> (nI 2 &&& 31)) 9) + 1)
                refine lv_iload F.1 F.2.1 dL_law_160 (lv_at hl 0 rfl) ?_
                refine k_icmp_gt (tgt := 204) F (by omega) (by omega) dL_law_162 (by decide) (fun h162 => ?_) (fun h162 => ?_)
                · skip
                  exfalso; omega
                · skip
                  refine lv_aload_n F.1 F.2.1 dL_law_165 rfl (lv_at hl 2 rfl) ?_
                  refine lv_iload F.1 F.2.1 dL_law_166 (lv_at hl 9 rfl) ?_
                  refine lv_iconst (v := nI 0) F.1 F.2.1 dL_law_168 (by decide) ?_
                  have ok_93 : rHiss S (nI g) (nI 0) = (0, nI (hisG S g 0)) := ok_hiss hI (by omega) (by omega)
                  refine x_tI (n := 2) (rest := []) (v := nI (hisG S g 0)) (w1 := (wCo cI a b S S2)) F (c_X3_hissOf l D cI hst a b S S2 (nI g) (nI 0) (by first | exact hI | exact hJ)) (by rw [ok_93]; rfl) (by rw [ok_93]) rfl gL_law_X3_hissOf rfl (by decide +kernel) ⟨Nat.le_of_ble_eq_true rfl, Nat.le_of_ble_eq_true rfl⟩ rfl hl.1 rfl (Nat.le_of_ble_eq_true rfl) dL_law_169 ⟨show ce95 + 2 + 1 + 1 + 2 + 2 ≤ 600130 by omega, show sl95 + 12 + 6 + 6 + 12 + 12 ≤ 7301080 by omega⟩ hK hX hP hD hS ap_t rfl rfl ((wSi cI cA z S) ++ (wCo cI a b S S2)) (congrArg _ (List.append_nil _)) (q0 := 0) (ci := 3) rfl rfl (fun H locs hP hD hS => ?_)
                  have := hisG_le hI g 0
                  refine lv_aload_n F.1 F.2.1 dL_law_172 rfl (lv_at hl 2 rfl) ?_
                  refine lv_aload_n F.1 F.2.1 dL_law_173 rfl (lv_at hl 2 rfl) ?_
                  refine x_pI (n := 0) (rest := [.ref (a 13), .int (nI (hisG S g 0))]) (v := oI (ldN S (S 0 0)).1) F (c_X3_loudestGate l D cI a b S S2 (by first | exact hI | exact hJ)) gL_law_X3_loudestGate rfl (by decide +kernel) ⟨Nat.le_of_ble_eq_true rfl, Nat.le_of_ble_eq_true rfl⟩ rfl hl.1 rfl (Nat.le_of_ble_eq_true rfl) dL_law_174 ⟨show ce95 + 2 + 1 + 1 + 2 + 2 ≤ 600130 by omega, show sl95 + 12 + 6 + 6 + 12 + 12 ≤ 7301080 by omega⟩ hK hP hS ap_t (q0 := 0) (ci := 3) rfl rfl (fun H locs hP hS => ?_)
                  rw [hb1, oI_succ]
                  refine lv_iconst (v := nI 0) F.1 F.2.1 dL_law_177 (by decide) ?_
                  have ok_94 : rHiss S (nI bL) (nI 0) = (0, nI (hisG S bL 0)) := ok_hiss hI (by omega) (by omega)
                  refine x_tI (n := 2) (rest := [.int (nI (hisG S g 0))]) (v := nI (hisG S bL 0)) (w1 := (wCo cI a b S S2)) F (c_X3_hissOf l D cI hst a b S S2 (nI bL) (nI 0) (by first | exact hI | exact hJ)) (by rw [ok_94]; rfl) (by rw [ok_94]) rfl gL_law_X3_hissOf rfl (by decide +kernel) ⟨Nat.le_of_ble_eq_true rfl, Nat.le_of_ble_eq_true rfl⟩ rfl hl.1 rfl (Nat.le_of_ble_eq_true rfl) dL_law_178 ⟨show ce95 + 2 + 1 + 1 + 2 + 2 + 2 ≤ 600130 by omega, show sl95 + 12 + 6 + 6 + 12 + 12 + 12 ≤ 7301080 by omega⟩ hK hX hP hD hS ap_t rfl rfl ((wSi cI cA z S) ++ (wCo cI a b S S2)) (congrArg _ (List.append_nil _)) (q0 := 0) (ci := 3) rfl rfl (fun H locs hP hD hS => ?_)
                  have := hisG_le hI bL 0
                  refine k_icmp_gt (tgt := 204) F (by omega) (by omega) dL_law_181 (by decide) (fun h181 => ?_) (fun h181 => ?_)
                  · skip
                    exfalso; omega
                  · skip
                    refine lv_aload_n F.1 F.2.1 dL_law_184 rfl (lv_at hl 2 rfl) ?_
                    refine lv_iload F.1 F.2.1 dL_law_185 (lv_at hl 9 rfl) ?_
                    have ok_95 : r1 (S 0 0) (nI g) (nI (S 1 (cl (nI g)))) = (0, nI (S 1 g)) := by rw [cl_nI (show g < 2 ^ 31 by omega)]; exact r1_y (okI_nI (by omega) (by omega))
                    refine x_tI (n := 1) (rest := []) (v := nI (S 1 g)) (w1 := (wCo cI a b S S2)) F (c_X3_rankOf l D cI hst a b S S2 (nI g) (by first | exact hI | exact hJ)) (by rw [ok_95]; rfl) (by rw [ok_95]) rfl gL_law_X3_rankOf rfl (by decide +kernel) ⟨Nat.le_of_ble_eq_true rfl, Nat.le_of_ble_eq_true rfl⟩ rfl hl.1 rfl (Nat.le_of_ble_eq_true rfl) dL_law_187 ⟨show ce95 + 2 + 1 + 1 + 2 + 2 + 2 + 1 ≤ 600130 by omega, show sl95 + 12 + 6 + 6 + 12 + 12 + 12 + 6 ≤ 7301080 by omega⟩ hK hX hP hD hS ap_t rfl rfl ((wSi cI cA z S) ++ (wCo cI a b S S2)) (congrArg _ (List.append_nil _)) (q0 := 0) (ci := 3) rfl rfl (fun H locs hP hD hS => ?_)
                    have := hI.rank g
                    refine lv_if_lt (tgt := 204) F.1 F.2.1 dL_law_190 (by decide) (fun h190 => ?_) (fun h190 => ?_)
                    · exact absurd h190 (nI_pos (by omega))
                    · skip
                      refine lv_aload_n F.1 F.2.1 dL_law_193 rfl (lv_at hl 2 rfl) ?_
                      refine lv_iload F.1 F.2.1 dL_law_194 (lv_at hl 9 rfl) ?_
                      have ok_96 : r1 (S 0 0) (nI g) (nI (S 1 (cl (nI g)))) = (0, nI (S 1 g)) := by rw [cl_nI (show g < 2 ^ 31 by omega)]; exact r1_y (okI_nI (by omega) (by omega))
                      refine x_tI (n := 1) (rest := []) (v := nI (S 1 g)) (w1 := (wCo cI a b S S2)) F (c_X3_rankOf l D cI hst a b S S2 (nI g) (by first | exact hI | exact hJ)) (by rw [ok_96]; rfl) (by rw [ok_96]) rfl gL_law_X3_rankOf rfl (by decide +kernel) ⟨Nat.le_of_ble_eq_true rfl, Nat.le_of_ble_eq_true rfl⟩ rfl hl.1 rfl (Nat.le_of_ble_eq_true rfl) dL_law_196 ⟨show ce95 + 2 + 1 + 1 + 2 + 2 + 2 + 1 + 1 ≤ 600130 by omega, show sl95 + 12 + 6 + 6 + 12 + 12 + 12 + 6 + 6 ≤ 7301080 by omega⟩ hK hX hP hD hS ap_t rfl rfl ((wSi cI cA z S) ++ (wCo cI a b S S2)) (congrArg _ (List.append_nil _)) (q0 := 0) (ci := 3) rfl rfl (fun H locs hP hD hS => ?_)
                      have := hI.rank g
                      refine lv_bipush (v := nI 9) F.1 F.2.1 dL_law_199 (by decide) ?_
                      refine k_icmp_le (tgt := 206) F (by omega) (by omega) dL_law_201 (by decide) (fun h201 => ?_) (fun h201 => ?_)
                      · skip
                        refine k_inc (k := 9) (lv' := [(9, .int (nI (g + 1))), (10, .int (nI (hisG S g (blw (X >>> (nI 2 &&& 31)) 9)))), (0, .ref x), (1, .ref (a 13)), (2, .ref (z 0)), (3, .int (nI t)), (5, .int (nI (S 0 0))), (6, .int (nI (S 0 1))), (7, .int (nI (S 0 2))), (8, .int (nI (blw (X >>> (nI 2 &&& 31)) 9)))]) F dL_law_206 hl rfl (by decide) rfl (fun ls hl => ?_)
                        refine lv_goto (tgt := 95) F.1 F.2.1 dL_law_209 (by decide) ?_
                        exact ih95 (g + 1) (by omega) (by omega)  (ce95 + 2 + 1 + 1 + 2 + 2 + 2 + 1 + 1) (sl95 + 12 + 6 + 6 + 12 + 12 + 12 + 6 + 6) (by omega) (by omega) _ _ _ hP hD hS (lv_sub hl [2, 3, 4, 5, 6, 7, 8, 9, 0] rfl)
                      · skip
                        exfalso; omega
  exact loop95 ((S 0 0) + 1) 0 (by omega) (by omega)  (c0) (s0) (by omega) (by omega) _ _ _ hP hD hS (lv_sub hl [9, 8, 7, 6, 4, 3, 2, 1, 0] rfl)
