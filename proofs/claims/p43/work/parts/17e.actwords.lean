/-! what the codex answers where it may be asked; what stays of a state -/
theorem okR_nI {lo hi n : Nat} (h1 : lo ≤ n) (h2 : n ≤ hi) (h : hi < 2 ^ 31) : okR lo hi (nI n) := ⟨(nI_leI (by omega) (by omega)).mpr h1, (nI_leI (by omega) h).mpr h2⟩
section
variable {S : Nat → Nat → Nat}
theorem ok_addGate {x : Nat} (hx : x ≤ 9) (h0 : S 0 0 ≠ 6) (h2 : S 0 2 = 0) : rAddGate S (nI x) = (0, nI (S 0 0), gaS S x) := by
  unfold rAddGate
  rw [if_pos (okR_nI (by omega) hx (by decide)), if_pos ⟨h0, h2⟩, cl_nI (show x < 2 ^ 31 by omega)]
theorem ok_addGoose {g t : Nat} (hI : Inv S) (hg : g < S 0 0) (h1 : 1 ≤ t) (h9 : t ≤ 9) (hm : S 0 1 ≠ 8) : rAddGoose S (nI g) (nI t) = (0, nI (S 0 1), goA S g t) := by
  have := hI.gates
  unfold rAddGoose
  rw [if_pos (okI_nI hg (by omega)), if_pos (okR_nI h1 h9 (by decide)), if_pos hm, cl_nI (show g < 2 ^ 31 by omega), cl_nI (show t < 2 ^ 31 by omega)]
theorem ok_arrive {r v c : Nat} (hr : r ≤ 9) (hv : v ≤ 20) (hc : c ≤ 20) (h0 : S 0 0 ≠ 0) (h2 : S 0 2 ≠ 8) : rArrive S (nI r) (nI v) (nI c) = (0, nI (S 0 2), viA S r v c) := by
  unfold rArrive
  rw [if_pos ⟨okR_nI (by omega) hr (by decide), okR_nI (by omega) hv (by decide), okR_nI (by omega) hc (by decide)⟩, if_pos ⟨h0, h2⟩, cl_nI (show r < 2 ^ 31 by omega), cl_nI (show v < 2 ^ 31 by omega), cl_nI (show c < 2 ^ 31 by omega)]
theorem ok_setRank {g r : Nat} (hI : Inv S) (hg : g < S 0 0) (hr : r ≤ 9) : rSetRank S (nI g) (nI r) = (0, nI (S 1 g), setf S 1 g r) := by
  have := hI.gates
  unfold rSetRank
  rw [if_pos (okI_nI hg (by omega)), if_pos (okR_nI (by omega) hr (by decide)), cl_nI (show g < 2 ^ 31 by omega), cl_nI (show r < 2 ^ 31 by omega)]
theorem ok_lead {k g : Nat} (hI : Inv S) (hk : k < S 0 1) (hg : g < S 0 0) : rLead S (nI k) (nI g) = (0, nI (S 2 k), setf S 2 k g) := by
  have := hI.gates
  have := hI.geese
  unfold rLead
  rw [if_pos ⟨okI_nI hk (by omega), okI_nI hg (by omega)⟩, cl_nI (show k < 2 ^ 31 by omega), cl_nI (show g < 2 ^ 31 by omega)]
theorem ok_give {v c : Nat} (hI : Inv S) (hv : v < S 0 2) (h1 : 1 ≤ c) (hc : c ≤ 20) : rGive S (nI v) (nI c) = (0, nI (min 20 (S 8 v + c)), setf S 8 v (min 20 (S 8 v + c))) := by
  have := hI.guests
  unfold rGive
  rw [if_pos (okI_nI hv (by omega)), if_pos (okR_nI h1 hc (by decide)), cl_nI (show v < 2 ^ 31 by omega), cl_nI (show c < 2 ^ 31 by omega)]
theorem ok_bribe {v k : Nat} (hI : Inv S) (hv : v < S 0 2) (hk : k < S 0 1) (h1 : 0 < S 8 v) (h2 : ¬ S 0 0 ≤ S 7 v) (h3 : S 2 k = S 7 v) : rBribe S (nI v) (nI k) = (0, nI (max 1 (S 3 k - 1)), payS S v k) := by
  have := hI.guests
  have := hI.geese
  unfold rBribe
  rw [if_pos ⟨okI_nI hv (by omega), okI_nI hk (by omega)⟩, cl_nI (show v < 2 ^ 31 by omega), cl_nI (show k < 2 ^ 31 by omega), if_pos ⟨h1, h2, h3⟩]
theorem ok_pass {n : Nat} (h1 : 1 ≤ n) (h2 : n ≤ 60) : rPass S (nI n) = (0, cameI S n, beatsN S n) := by
  unfold rPass
  rw [if_pos (okR_nI h1 h2 (by decide)), cl_nI (show n < 2 ^ 31 by omega)]
theorem ok_hiss {g r : Nat} (hI : Inv S) (hg : g < S 0 0) (hr : r ≤ 9) : rHiss S (nI g) (nI r) = (0, nI (hisG S g r)) := by
  have := hI.gates
  unfold rHiss
  rw [if_pos (okI_nI hg (by omega)), if_pos (okR_nI (by omega) hr (by decide)), cl_nI (show g < 2 ^ 31 by omega), cl_nI (show r < 2 ^ 31 by omega)]
theorem LI_ga {x : Nat} (h : LI S) (hx : x ≤ 9) (h0 : S 0 0 ≠ 6) (h2 : S 0 2 = 0) : LI (gaS S x) := by
  have hI := inv_addGate h.1 (nI x)
  rw [ok_addGate hx h0 h2] at hI
  obtain ⟨h1, ⟨h3, h4, h5⟩, h6⟩ := h
  refine ⟨hI, ⟨h3, h4, fun j _ => ?_⟩, (etN_congr (S := gaS S x) (T := S) (S 0 1) (fun _ _ => rfl)).trans h6⟩
  exact (h4 j (by omega)).2
theorem LI_go {g t : Nat} (h : LI S) (hg : g < S 0 0) (h1 : 1 ≤ t) (h9 : t ≤ 9) (hm : S 0 1 ≠ 8) : LI (goA S g t) := by
  have hI := inv_addGoose h.1 (nI g) (nI t)
  rw [ok_addGoose h.1 hg h1 h9 hm] at hI
  obtain ⟨h2, ⟨h3, h4, h5⟩, h6⟩ := h
  refine ⟨hI, ⟨fun j hj => ?_, h4, h5⟩, ?_⟩
  · have hj : S 0 1 + 1 ≤ j := hj
    exact h3 j (by omega)
  · show etN (goA S g t) (S 0 1 + 1) = S 0 4
    show etN (goA S g t) (S 0 1) + S 5 (S 0 1) = S 0 4
    rw [etN_congr (S := goA S g t) (T := S) (S 0 1) (fun _ _ => rfl), h6, (h3 _ (Nat.le_refl _)).2]
    rfl
theorem LI_vi {r v c : Nat} (h : LI S) (hr : r ≤ 9) (hv : v ≤ 20) (hc : c ≤ 20) (h0 : S 0 0 ≠ 0) (h2 : S 0 2 ≠ 8) : LI (viA S r v c) := by
  have hI := inv_arrive h.1 (nI r) (nI v) (nI c)
  rw [ok_arrive hr hv hc h0 h2] at hI
  obtain ⟨h1, ⟨h3, h4, h5⟩, h6⟩ := h
  refine ⟨hI, ⟨h3, fun j hj => ?_, h5⟩, (etN_congr (S := viA S r v c) (T := S) (S 0 1) (fun _ _ => rfl)).trans h6⟩
  have hj : S 0 2 + 1 ≤ j := hj
  exact h4 j (by omega)
theorem LI_rank {g r : Nat} (h : LI S) (hg : g < S 0 0) (hr : r ≤ 9) : LI (setf S 1 g r) := by
  have hI := inv_setRank h.1 (nI g) (nI r)
  rw [ok_setRank h.1 hg hr] at hI
  exact ⟨hI, h.2.1, (etN_congr (S := setf S 1 g r) (T := S) (S 0 1) (fun _ _ => rfl)).trans h.2.2⟩
theorem LI_lead {k g : Nat} (h : LI S) (hk : k < S 0 1) (hg : g < S 0 0) : LI (setf S 2 k g) := by
  have hI := inv_lead h.1 (nI k) (nI g)
  rw [ok_lead h.1 hk hg] at hI
  exact ⟨hI, h.2.1, (etN_congr (S := setf S 2 k g) (T := S) (S 0 1) (fun _ _ => rfl)).trans h.2.2⟩
theorem LI_give {v c : Nat} (h : LI S) (hc : c ≤ 20) : LI (setf S 8 v c) := ⟨inv_corn h.1 v hc, h.2.1, (etN_congr (S := setf S 8 v c) (T := S) (S 0 1) (fun _ _ => rfl)).trans h.2.2⟩
theorem LI_pay {v k : Nat} (h : LI S) (hk : k < S 0 1) : LI (payS S v k) := by
  obtain ⟨h1, ⟨h2, h3, h4⟩, h5⟩ := h
  have e4 : ∀ j, payS S v k 4 j = if j = k then 3 else S 4 j := fun j => rfl
  have e5 : ∀ j, payS S v k 5 j = if j = k then S 5 k + 1 else S 5 j := fun j => rfl
  refine ⟨inv_payS h1 v k, ⟨fun j hj => ?_, h3, h4⟩, ?_⟩
  · have hj : S 0 1 ≤ j := hj
    rw [e4, e5, if_neg (by omega), if_neg (by omega)]
    exact h2 j hj
  · show etN (payS S v k) (S 0 1) = S 0 4 + 1
    rw [etN_up (S := S) (T := payS S v k) (k := k) (by rw [e5, if_pos rfl]) (fun j hj => by rw [e5, if_neg hj]) _ hk, h5]
end
/-! below, cell -/
def blw (v : Int32) (n : Nat) : Nat := (v &&& 2147483647).toNatClampNeg % n
theorem blw_lt (v : Int32) {n : Nat} (h : 0 < n) : blw v n < n := Nat.mod_lt _ h
set_option maxRecDepth 100000 in
set_option maxHeartbeats 4000000 in
theorem c_L_below (l : Launch) (D : va_G) (cI : ClassId) (v : Int32) (n : Nat) (h0 : 0 < n) (hn : n < 2 ^ 31) : PI l yL_below wsL_below 0 0 D [(cI, .int)] [.int v, .int (nI n)] [] (nI (blw v n)) := by
  refine k_bodyP (cc := cL_below) (maxL := 2) (ret := (some .int)) (by decide) rfl (Nat.le_of_ble_eq_true rfl) ?_
  intro p e s m args below meth c H ls F hr hlk hl hP hK hS
  have F : CallFix p m c cL_below 2 s args wsL_below RL := F
  have hl : lv_has ls 2 [(0, .int v), (1, .int (nI n))] := hl
  refine lv_iload_n F.1 F.2.1 dL_below_0 rfl (lv_at hl 0 rfl) ?_
  refine lv_ldc (v := 2147483647) F.1 F.2.1 F.2.2.2.1 (F.2.2.2.2 _ (List.mem_of_getElem? (i := 1) rfl)) dL_below_1 ?_
  refine lv_iand F.1 F.2.1 dL_below_3 ?_
  obtain ⟨j, hj, ej⟩ := pk_andE v (m := 2147483647) 31 (by decide)
  have e9 : blw v n = j % n := by unfold blw; rw [ej, nI_clamp hj]
  rw [ej]
  refine lv_iload_n F.1 F.2.1 dL_below_4 rfl (lv_at hl 1 rfl) ?_
  refine lv_irem F.1 F.2.1 dL_below_5 (fun q => by have := (nI_eq hn (b := 0) (by decide)).mp q; omega) ?_
  rw [pk_rem hj h0 hn]
  exact k_retP F hr hlk hS (by rw [e9]) rfl dL_below_6
/-- a cell of the script, or what stands for it -/
def celV (xs : Nat → Int32) (L k : Nat) : Int32 := if k < L then xs k else 790386105 * (nI k + nI 3)
def CE (l : Launch) (x L : Nat) (xs : Nat → Int32) (k : Nat) : Prop :=
  Met l yL_cell wsL_cell (rmN 0 0) (va_Pc [.ref x, .int (nI k)] (fun U => va_X x L xs U U.heap)) (va_Qi (fun r (_ : Unit) => r = celV xs L k) (fun _ _ => True) (fun _ => False)) 0 0 (fun _ => False)
set_option maxRecDepth 100000 in
set_option maxHeartbeats 4000000 in
theorem c_L_cell (l : Launch) (x L : Nat) (xs : Nat → Int32) (k : Nat) (hL : L ≤ 260) (hk : k < 1000) : CE l x L xs k := by
  refine Met.ofW (cc := cL_cell) (maxL := 2) (ret := (some .int)) (by decide) rfl ?_
  intro p e s m args below meth c s₁ B hml hv
  obtain ⟨rfl, hX⟩ := hv
  have hl := lv_entry [.ref x, .int (nI k)] (n := 2) (Nat.le_of_ble_eq_true rfl)
  rw [lg_entry_eq]
  generalize (lg_sl [.ref x, .int (nI k)] ++ List.replicate (2 - (lg_sl [.ref x, .int (nI k)]).length) Slot.unset).toArray = ls at hl ⊢
  have F : CallFix p m c cL_cell 2 s _ wsL_cell RL := ⟨B.exec, B.bytes, hml, findClass_of_methodNamed B.named, atoms_spec (ws := wsL_cell) B.pre⟩
  have hl : lv_has ls 2 [(0, .ref x), (1, .int (nI k))] := hl
  have hlk := B.notSynchronized
  have hr := B.returns
  have hxl : x < s.heap.size := by obtain ⟨scr, h1, -⟩ := hX; exact (Array.getElem?_eq_some_iff.mp h1).1
  have hS : va_S (fun _ => False) s.heap s.heap [] := va_S.rf
  refine lv_iload_n F.1 F.2.1 dL_cell_0 rfl (lv_at hl 1 rfl) ?_
  refine lv_aload_n F.1 F.2.1 dL_cell_1 rfl (lv_at hl 0 rfl) ?_
  refine va_slen F.1 F.2.1 hX hxl (fun h => h) hS dL_cell_2 ?_
  refine k_icmp_ge (tgt := 12) F (show k < 2 ^ 31 by omega) (show L < 2 ^ 31 by omega) dL_cell_3 (by decide) (fun h => ?_) (fun h => ?_)
  · refine lv_ldc (v := 790386105) F.1 F.2.1 F.2.2.2.1 (F.2.2.2.2 _ (List.mem_of_getElem? (i := 1) rfl)) dL_cell_12 ?_
    refine lv_iload_n F.1 F.2.1 dL_cell_14 rfl (lv_at hl 1 rfl) ?_
    refine lv_iconst (v := nI 3) F.1 F.2.1 dL_cell_15 (by decide) ?_
    refine lv_iadd F.1 F.2.1 dL_cell_16 ?_
    refine lv_imul F.1 F.2.1 dL_cell_17 ?_
    exact k_retP F hr hlk hS (by unfold celV; rw [if_neg (by omega)]) rfl dL_cell_18
  · refine lv_aload_n F.1 F.2.1 dL_cell_6 rfl (lv_at hl 0 rfl) ?_
    refine lv_iload_n F.1 F.2.1 dL_cell_7 rfl (lv_at hl 1 rfl) ?_
    refine va_sld F.1 F.2.1 hX hxl (fun h => h) hS (vp_in_nI (by omega) (by omega)) dL_cell_8 ?_
    rw [nI_clamp (show k < 2 ^ 31 by omega)]
    refine lv_goto (tgt := 18) F.1 F.2.1 dL_cell_9 (by decide) ?_
    exact k_retP F hr hlk hS (by unfold celV; rw [if_pos (by omega)]) rfl dL_cell_18
/-! act's contract, its end, its switch -/
abbrev wAc (cI cA : ClassId) (z a b : Nat → Nat) (S S2 : Nat → Nat → Nat) : va_W := wSi cI cA z S ++ wCo cI a b S S2
abbrev QAC (below : List Frame) (args : Array Value) (s : State) (D : va_G) (cI cA : ClassId) (mc ms : Nat) (w0 : va_W) (sz z0 n0 : Nat) (a b : Nat → Nat) (S2 : Nat → Nat → Nat) : State → Prop :=
  MQ below (va_Qi (fun r (u : (Nat → Nat) × (Nat → Nat → Nat)) => r = 1 ∧ u.1 0 = z0 ∧ LI u.2 ∧ u.2 0 3 ≤ n0) (fun u t => va_P D vwCl (wAc cI cA u.1 a b u.2 S2) t.heap ∧ va_D (va_A w0 sz) (wAc cI cA u.1 a b u.2 S2)) (va_B w0)) args s mc ms (va_A w0 sz)
def AC (l : Launch) (fr mc ms lo : Nat) (D : va_G) (cI cA : ClassId) (z a b : Nat → Nat) (S S2 : Nat → Nat → Nat) (x : Int32) : Prop :=
  ∀ sz : Nat, Met l yL_act wsL_act (rmG fr mc ms lo) (va_Pc [.ref (a 13), .ref (z 0), .int x] (fun U => U.heap.size = sz ∧ va_P D vwCl (wAc cI cA z a b S S2) U.heap ∧ KS D cI cA U ∧ KXA (va_A (wAc cI cA z a b S S2) sz) U ∧ va_D (fun _ => True) (wAc cI cA z a b S S2)))
    (va_Qi (fun r (u : (Nat → Nat) × (Nat → Nat → Nat)) => r = 1 ∧ u.1 0 = z 0 ∧ LI u.2 ∧ u.2 0 3 ≤ S 0 3 + 60) (fun u t => va_P D vwCl (wAc cI cA u.1 a b u.2 S2) t.heap ∧ va_D (va_A (wAc cI cA z a b S S2) sz) (wAc cI cA u.1 a b u.2 S2)) (va_B (wAc cI cA z a b S S2))) mc ms (va_A (wAc cI cA z a b S S2) sz)
theorem set_app1 {wr L L' : va_W} {j : Nat} {e : Nat × va_E} (h : L.set j e = L') : (wr ++ L).set (wr.length + j) e = wr ++ L' := by
  rw [List.set_append_right _ _ (Nat.le_add_right _ _), Nat.add_sub_cancel_left, h]
section
variable {p : Program} {l : Launch} {e : Env} {R : Room} {s : State} {m : MethodId} {args : Array Value} {below : List Frame} {meth : Method} {c : Code} {H : Heap} {locs : List Loc} {cells slots : Nat} {Q : State → Prop}
variable {cc : ByteArray} {pc nL : Nat} {ls : Array Slot} {rest st0 : List Value} {D : va_G} {cI cA : ClassId} {Ts : List Cond} {own : String} {mc ms : Nat}
theorem a_ret (F : CallFix p m c cc nL s args Ts own) {w0 : va_W} {sz z0 n0 : Nat} {z9 a b : Nat → Nat} {S9 S2 : Nat → Nat → Nat} (hr : meth.sig.returnType = some .boolean) (hlk : meth.locks = false) (hP : va_P D vwCl (wAc cI cA z9 a b S9 S2) H) (hD : va_D (va_A w0 sz) (wAc cI cA z9 a b S9 S2)) (hS : va_S (va_A w0 sz) s.heap H locs) (hz : s.heap.size = sz) (h0 : z9 0 = z0) (hL : LI S9) (hb : S9 0 3 ≤ n0) (hcm : cells ≤ mc) (hsm : slots ≤ ms) (hdg : decode cc pc = .ok (.ireturn, 1)) :
    W p l e R s m args below meth c H locs cells slots (QAC below args s D cI cA mc ms w0 sz z0 n0 a b S2) (F0 m pc ls [.int (nI 1)]) :=
  W.widen hcm hsm (W.zret F.1 F.2.1 hr rfl (fun t ht hW => ⟨⟨nI 1, (z9, S9), rfl, ⟨rfl, h0, hL, hb⟩, ⟨by show va_P D vwCl _ t.heap; rw [ht]; exact hP, hD⟩⟩, (by
    have h := hS.F ht
    exact ⟨h.1, fun q h1 h2 => h.2 q h1 (fun h3 => h3.elim h2 (fun h4 => absurd h1 (by omega)))⟩)⟩) hS.2.2 hdg hlk)
theorem a_tab (F : CallFix p m c cL_act nL s args Ts own) {x : Nat} (hx : x < 2 ^ 31) (h7 : 7 ≤ x)
    (k7 : x = 7 → W p l e R s m args below meth c H locs cells slots Q (F0 m 372 ls rest)) (k8 : x = 8 → W p l e R s m args below meth c H locs cells slots Q (F0 m 420 ls rest)) (k9 : x = 9 → W p l e R s m args below meth c H locs cells slots Q (F0 m 451 ls rest)) (k10 : x = 10 → W p l e R s m args below meth c H locs cells slots Q (F0 m 502 ls rest)) (kd : 10 < x → W p l e R s m args below meth c H locs cells slots Q (F0 m 560 ls rest)) :
    W p l e R s m args below meth c H locs cells slots Q (F0 m 343 ls (.int (nI x) :: rest)) := by
  have e : (nI x).toInt = (x : Int) := nI_toInt hx
  by_cases h : 10 < x
  · exact lv_tableOut (tgt := 560) F.1 F.2.1 dL_act_343 (by rw [e]; omega) (by decide) (kd h)
  · have h1 : ¬ (nI x).toInt < 7 := by rw [e]; omega
    have h2 : ¬ 10 < (nI x).toInt := by rw [e]; omega
    rcases (show x = 7 ∨ x = 8 ∨ x = 9 ∨ x = 10 by omega) with q | q | q | q
    · exact lv_tableIn (off := 29) (tgt := 372) F.1 F.2.1 dL_act_343 h1 h2 (by subst q; decide) (by decide) (k7 q)
    · exact lv_tableIn (off := 77) (tgt := 420) F.1 F.2.1 dL_act_343 h1 h2 (by subst q; decide) (by decide) (k8 q)
    · exact lv_tableIn (off := 108) (tgt := 451) F.1 F.2.1 dL_act_343 h1 h2 (by subst q; decide) (by decide) (k9 q)
    · exact lv_tableIn (off := 159) (tgt := 502) F.1 F.2.1 dL_act_343 h1 h2 (by subst q; decide) (by decide) (k10 q)
end
