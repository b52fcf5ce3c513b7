/-! arrays of int arrays: what the tables say of them, made, read, written -/
def AOA (U : State) : Prop := (Cond.arrayOver (.array .int)).before #[] U = true
theorem AOA.of {A : Array Value} {U : State} (h : (Cond.arrayOver (.array .int)).before A U = true) : AOA U := h
theorem AOA.use {A : Array Value} {U : State} (h : AOA U) : (Cond.arrayOver (.array .int)).before A U = true := h
theorem AOA.moved {u U : State} (hvm : u.vm.Alike U.vm) (h : AOA u) : AOA U := by
  obtain ⟨comp, c, k, h1, h2, h3, h4, h5⟩ := arrayOverA_spec h
  obtain ⟨k', hk', he⟩ := hvm.2.2 _ _ h3
  have hi : (U.vm.classes.findIdx? fun (x : Class) => match x.kind with | .array component _ => component == comp | _ => false) = some c := by
    first
      | exact (hvm.findIdx?_eq _ (fun _ => rfl)).trans h2
      | (rw [hvm.findIdx?_eq _ (fun _ => rfl)]; exact h2)
  have hkind : k'.kind = .array comp (.array .int) := by rw [he]; exact h4
  have f1 : U.vm.findClass (FieldType.array .int).toString = some comp := by rw [hvm.findClass]; exact h1
  have f2 : U.vm.findClass ("[" ++ (FieldType.array .int).toString) = some c := by rw [hvm.findClass]; exact h5
  unfold AOA Cond.before Cond.holds
  simp only [Cond.value]
  rw [f1, Option.bind_some]
  refine (congrArg (fun o : Option Nat => (o.bind (fun c => (U.vm.classes[c]?).map fun (k : Class) => match k.kind with | .array _ ty => decide (ty = FieldType.array .int) && decide (U.vm.findClass ("[" ++ (FieldType.array .int).toString) = some c) | _ => false) == some true)) hi).trans ?_
  simp [hk', hkind, f2]
def KS (D : va_G) (cI cA : ClassId) (U : State) : Prop := KK D [(cI, .int), (cA, .array .int)] U ∧ AOA U
section
variable {D : va_G} {cI cA : ClassId} {s U : State}
theorem KS.moved (hW : s.WarmedH U.vm) (h : KS D cI cA s) : KS D cI cA U := ⟨KK.moved hW h.1, AOA.moved hW.alike h.2⟩
theorem KS.call {g : JFrame} {mk : MethodId} {a : Array Value} (h : KS D cI cA U) : KS D cI cA (U.calling g mk a) := ⟨KK.call h.1, AOA.moved (u := U) (U := U.calling g mk a) (Vm.Alike.refl U.vm) h.2⟩
theorem KS.i (h : KS D cI cA s) : KK D [(cI, .int)] s := ⟨h.1.1.sub (tys' := [(cI, .int)]) [0] rfl, h.1.2⟩
theorem KS.comp (h : KS D cI cA s) : ∃ kA kI : Class, s.vm.classes[cA]? = some kA ∧ kA.kind = .array cI (.array .int) ∧ s.vm.classes[cI]? = some kI := by
  obtain ⟨comp, c, k, h1, -, h3, h4, h5⟩ := arrayOverA_spec h.2
  have hA : s.vm.findClass ("[" ++ (FieldType.array .int).toString) = some cA := (h.1.1.2 1 (cA, .array .int) rfl).2
  have hI : s.vm.findClass ("[" ++ FieldType.int.toString) = some cI := (h.1.1.2 0 (cI, .int) rfl).2
  have e1 : c = cA := Option.some.inj (h5.symm.trans hA)
  have e2 : comp = cI := Option.some.inj (h1.symm.trans hI)
  subst e1
  subst e2
  obtain ⟨kI, hkI, -⟩ := Vm.findClass_spec h1
  exact ⟨k, kI, h3, h4, hkI⟩
end
section
variable {p : Program} {l : Launch} {e : Env} {R : Room} {s : State} {m : MethodId} {args : Array Value} {below : List Frame} {meth : Method} {c : Code} {H : Heap} {locs : List Loc} {cells slots : Nat} {Q : State → Prop}
variable {cc : ByteArray} {pc nL index : Nat} {ls : Array Slot} {rest : List Value} {D : va_G} {A : Nat → Prop} {a : Nat} {cI cA : ClassId} {w : va_W} {H0 : Heap} {Ts : List Cond} {own : String}
theorem q_aald (S : CallFix p m c cc nL s args Ts own) (hKS : KS D cI cA s) (hP : va_P D vwCl w H) (q0 : Nat) {n k v : Nat} {f : Nat → Option Nat} (ha : w[q0]? = some (a, .inl (cA, n, .inr (.inr (.inr (.inr f)))))) (hk : k < n) (hn : n < 2 ^ 31) (hv : f k = some v) (hdg : decode cc pc = .ok (.aaload, 1))
    (kk : W p l e R s m args below meth c H locs cells slots Q (F0 m (pc + 1) ls (.ref v :: rest))) : W p l e R s m args below meth c H locs cells slots Q (F0 m pc ls (.int (nI k) :: .ref a :: rest)) := by
  have hin := vp_in_nI hk hn
  have e0 : (nI k).toNatClampNeg = k := nI_clamp (Nat.lt_trans hk hn)
  have hA : ArrOfT s cA (.array .int) := (hKS.1.1.2 1 (cA, .array .int) rfl).1
  exact W.aald (v := .ref v) (ty := .array .int) S.1 S.2.1 (hP q0 _ ha) (hA n (fun j => va_rf (f j))) rfl (fun q => by cases q) (by show ¬ (nI k < 0 ∨ (arrV _ _ _).slots.size ≤ _); rw [arrV_size]; exact hin) (by show (arrV _ _ _).slots[_]? = _; rw [e0, arrV_read _ _ hk, hv]; rfl) rfl rfl hdg kk
theorem q_aast (S : CallFix p m c cc nL s args Ts own) (hKS : KS D cI cA s) (hP : va_P D vwCl w H) (hD : va_D A w) (hS : va_S A H0 H locs) (q0 qk : Nat) {n k v n2 : Nat} {f : Nat → Option Nat} {g : Nat → Int32} (ha : w[q0]? = some (a, .inl (cA, n, .inr (.inr (.inr (.inr f)))))) (hv : w[qk]? = some (v, .inl (cI, n2, .inl g))) (hk : k < n) (hn : n < 2 ^ 31) (hdg : decode cc pc = .ok (.aastore, 1)) (w' : va_W) (hw : w.set q0 (a, .inl (cA, n, .inr (.inr (.inr (.inr (va_up f k (some v))))))) = w')
    (kk : ∀ (H1 : Heap) (locs1 : List Loc), va_P D vwCl w' H1 → va_D A w' → va_S A H0 H1 locs1 → W p l e R s m args below meth c H1 locs1 cells slots Q (F0 m (pc + 1) ls rest)) : W p l e R s m args below meth c H locs cells slots Q (F0 m pc ls (.ref v :: .int (nI k) :: .ref a :: rest)) := by
  have hin := vp_in_nI hk hn
  have e0 : (nI k).toNatClampNeg = k := nI_clamp (Nat.lt_trans hk hn)
  obtain ⟨kA, kI, k1, k2, hkI⟩ := hKS.comp
  have g1 : H[v]? = some (vp_cell cI (n2, .inl g)) := hP qk _ hv
  refine W.aast S.1 S.2.1 (hP q0 _ ha) (fun q h => by cases h) (fun h => by cases h) k1 k2 rfl hkI ⟨fun q => hin (Or.inl q), by show _ < (arrV _ _ _).slots.size; rw [arrV_size, e0]; exact hk⟩ g1 (fun q h => by cases h) hkI (va_asg _ _) rfl rfl hdg fun H1 e z oq => ?_
  refine kk H1 _ (by rw [← hw]; exact hP.set hD ha (by
    show H1[a]? = some (vp_cell _ _)
    rw [e, vp_cell_q, vp_cell_q, arrV_store, e0]
    congr 2
    funext q
    by_cases hq : q = k
    · subst hq
      simp [updV, va_up, va_rf]
    · simp [updV, va_up, hq]) oq) (by rw [← hw]; exact hD.set ha) (hS.put z oq (hD.2 q0 _ ha))
theorem q_tyA : (FieldType.array .int).toString = "[I" := by first | rfl | decide
theorem q_anew (S : CallFix p m c cc nL s args Ts own) (hcl : Cond.classLink own index "[I" ∈ Ts) (hKS : KS D cI cA s) (hP : va_P D vwCl w H) (hD : va_D A w) (hS : va_S A H0 H locs) (hA : ∀ q, H0.size ≤ q → A q) {k : Nat} (hk : k < 1000) (hf : cells + 1 ≤ R.cells ∧ slots + k ≤ R.slots) (hdg : decode cc pc = .ok (.anewarray index, 3))
    (kk : ∀ (q : Nat) (H1 : Heap), H.size ≤ q → va_P D vwCl (w ++ [(q, .inl (cA, k, .inr (.inr (.inr (.inr (fun _ => none))))))]) H1 → va_D A (w ++ [(q, .inl (cA, k, .inr (.inr (.inr (.inr (fun _ => none))))))]) → va_S A H0 H1 locs → W p l e R s m args below meth c H1 locs (cells + 1) (slots + k) Q (F0 m (pc + 3) ls (.ref q :: rest))) : W p l e R s m args below meth c H locs cells slots Q (F0 m pc ls (.int (nI k) :: rest)) := by
  have e0 : (nI k).toNatClampNeg = k := nI_clamp (by omega)
  have hk2 : slots + (nI k).toNatClampNeg ≤ R.slots := by rw [e0]; exact hf.2
  have hcl2 : (Cond.classLink own index (FieldType.array .int).toString).before args s = true := by rw [q_tyA]; exact S.2.2.2.2 _ hcl
  refine W.anewA S.1 S.2.1 S.2.2.2.1 hcl2 (AOA.use hKS.2) rfl hdg rfl (nI_pos (by omega)) (by rw [e0]; omega) hf.1 hk2 fun cB kB comp f1 f2 f3 f4 => ?_
  have hB : s.vm.findClass ("[" ++ (FieldType.array .int).toString) = some cA := (hKS.1.1.2 1 (cA, .array .int) rfl).2
  have e1 : cB = cA := Option.some.inj (f1.symm.trans hB)
  subst e1
  rw [e0]
  generalize hH1 : H.push ({ cls := cB, slots := Array.replicate k .null, vm := .none } : Cell) = H1
  have z1 : H1.size = H.size + 1 := by rw [← hH1, Array.size_push]
  have g1 : H1[H.size]? = some (arrV cB k (fun _ => .null)) := by rw [← hH1, Array.getElem?_push_size, ← arrV_new]
  have o1 : ∀ q : Nat, q < H.size → H1[q]? = H[q]? := fun q hq => by rw [← hH1, Array.getElem?_push, if_neg (Nat.ne_of_lt hq)]
  have hkp : ∀ (k : Nat) (x : Nat × va_E), w[k]? = some x → H1[x.1]? = H[x.1]? := fun k x hx => o1 x.1 ((hP k x hx).lt)
  refine kk H.size H1 (Nat.le_refl _) ((hP.kept hkp).app (fun k x hx => ?_)) (hD.push hP rfl (hA _ hS.1)) ⟨Nat.le_trans hS.1 (by omega), fun x h1 h2 => (o1 x (Nat.lt_of_lt_of_le h1 hS.1)).trans (hS.2.1 x h1 h2), hS.2.2⟩
  have hz : k < 1 := (List.getElem?_eq_some_iff.mp hx).1
  rw [show k = 0 by omega] at hx
  cases hx
  show H1[H.size]? = some (vp_cell _ _)
  rw [vp_cell_q]
  exact g1
/-- a read at any place of ints -/
theorem q_iald (S : CallFix p m c cc nL s args Ts own) (hKS : KS D cI cA s) (hP : va_P D vwCl w H) (q0 : Nat) {n k : Nat} {f : Nat → Nat} {v : Nat} (ha : w[q0]? = some (a, .inl (cI, n, .inl (row f)))) (hk : k < n) (hn : n < 2 ^ 31) (hv : f k = v) (hdg : decode cc pc = .ok (.iaload, 1))
    (kk : W p l e R s m args below meth c H locs cells slots Q (F0 m (pc + 1) ls (.int (nI v) :: rest))) : W p l e R s m args below meth c H locs cells slots Q (F0 m pc ls (.int (nI k) :: .ref a :: rest)) := by
  subst hv
  exact k_iald S hKS.1.1 hP q0 0 ha rfl hk hn hdg kk
theorem q_iast (S : CallFix p m c cc nL s args Ts own) (hKS : KS D cI cA s) (hP : va_P D vwCl w H) (hD : va_D A w) (hS : va_S A H0 H locs) (q0 : Nat) {n k x : Nat} {f : Nat → Nat} (ha : w[q0]? = some (a, .inl (cI, n, .inl (row f)))) (hk : k < n) (hn : n < 2 ^ 31) (hdg : decode cc pc = .ok (.iastore, 1)) (w' : va_W) (hw : w.set q0 (a, .inl (cI, n, .inl (row (updN f k x)))) = w')
    (kk : ∀ (H1 : Heap) (locs1 : List Loc), va_P D vwCl w' H1 → va_D A w' → va_S A H0 H1 locs1 → W p l e R s m args below meth c H1 locs1 cells slots Q (F0 m (pc + 1) ls rest)) : W p l e R s m args below meth c H locs cells slots Q (F0 m pc ls (.int (nI x) :: .int (nI k) :: .ref a :: rest)) :=
  k_iast S hKS.1.1 hP hD hS q0 0 ha rfl hk hn hdg w' hw kk
theorem q_alen (S : CallFix p m c cc nL s args Ts own) (hKS : KS D cI cA s) (hP : va_P D vwCl w H) (q0 : Nat) {n : Nat} {f : Nat → Int32} (ha : w[q0]? = some (a, .inl (cI, n, .inl f))) (hdg : decode cc pc = .ok (.arraylength, 1))
    (kk : W p l e R s m args below meth c H locs cells slots Q (F0 m (pc + 1) ls (.int (nI n) :: rest))) : W p l e R s m args below meth c H locs cells slots Q (F0 m pc ls (.ref a :: rest)) :=
  va_alen S.1 S.2.1 hKS.1.1 hP q0 0 (x := (n, .inl f)) ha rfl (v := nI n) rfl hdg kk
theorem q_alenA (S : CallFix p m c cc nL s args Ts own) (hKS : KS D cI cA s) (hP : va_P D vwCl w H) (q0 : Nat) {n : Nat} {f : Nat → Option Nat} (ha : w[q0]? = some (a, .inl (cA, n, .inr (.inr (.inr (.inr f)))))) (hdg : decode cc pc = .ok (.arraylength, 1))
    (kk : W p l e R s m args below meth c H locs cells slots Q (F0 m (pc + 1) ls (.int (nI n) :: rest))) : W p l e R s m args below meth c H locs cells slots Q (F0 m pc ls (.ref a :: rest)) :=
  va_alen S.1 S.2.1 hKS.1.1 hP q0 1 (x := (n, .inr (.inr (.inr (.inr f))))) ha rfl (v := nI n) rfl hdg kk
/-- a new array of ints, at no cell that was -/
theorem q_newa (S : CallFix p m c cc nL s args Ts own) (harr : Cond.arrayClass .int ∈ Ts) (hKS : KS D cI cA s) (hP : va_P D vwCl w H) (hD : va_D A w) (hS : va_S A H0 H locs) (hA : ∀ q, H0.size ≤ q → A q) {k : Nat} (hk : k < 1000) (hf : cells + 1 ≤ R.cells ∧ slots + k ≤ R.slots) (hdg : decode cc pc = .ok (.newarray .int, 2))
    (kk : ∀ (q : Nat) (H1 : Heap), va_P D vwCl (w ++ [(q, .inl (cI, k, .inl (row (fun _ => 0))))]) H1 → va_D A (w ++ [(q, .inl (cI, k, .inl (row (fun _ => 0))))]) → va_S A H0 H1 locs → W p l e R s m args below meth c H1 locs (cells + 1) (slots + k) Q (F0 m (pc + 2) ls (.ref q :: rest))) : W p l e R s m args below meth c H locs cells slots Q (F0 m pc ls (.int (nI k) :: rest)) := by
  refine va_newa (atype := .int) (ty := .int) (N' := k) (a0 := (k, .inl (row (fun _ => 0)))) S.1 S.2.1 (S.2.2.2.2 _ harr) rfl hKS.1.1 hP hD hS hA (fun cB => ?_) (nI_pos (by omega)) (nI_clamp (by omega)) ?_ hf.1 hf.2 hdg (fun q cB H1 hK2 hP2 hD2 hS2 => ?_)
  · rw [vp_cell_i]
    congr 1
  · have : componentBytes .int = 4 := rfl
    rw [this]
    omega
  · have e1 := va_nm_int (hKS.1.1.2 0 (cI, .int) rfl).2
    have e2 := va_nm_int (hK2.2 2 (cB, .int) rfl).2
    have e3 : cB = cI := Option.some.inj (e2.symm.trans e1)
    subst e3
    exact kk q H1 hP2 hD2 hS2
/-- a field that holds an array -/
theorem q_putr (S : CallFix p m c cc nL s args Ts own) {C : String} {T : u_T} {N ci : Nat} (hin : ∀ x ∈ u_ws C T N, x ∈ Ts) (ty0 : Nat → FieldType) (hty : ∀ k, k < N → parseFieldDescriptor (T k).2.2.1 = some (ty0 k)) (hnm : ∀ a, a < N → ∀ b, b < N → a ≠ b → (T a).2.1 ≠ (T b).2.1) (hKS : KS D cI cA s) (hP : va_P D vwCl w H) (hD : va_D A w) (hS : va_S A H0 H locs) (q0 : Nat) {fs : List Value} (he : w[q0]? = some (a, .inr (ci, fs))) (hc : vwCl[ci]? = some (C, T, N)) (k : Nat) (hk : k < N) (hm : Cond.fieldLink own index (T k).1 (T k).2.1 (T k).2.2.1 ∈ Ts) (hfin : (T k).2.2.2 = false) {ty : FieldType} {v : Nat} (hd : parseFieldDescriptor (T k).2.2.1 = some ty) (hn : narrow ty (.ref v) = .ref v) (hfit : fits ty (.ref v) = true) (hl : k < fs.length)
    (hdg : decode cc pc = .ok (.putfield index, 3)) (w' : va_W) (hw : w.set q0 (a, .inr (ci, fs.set k (.ref v))) = w') (kk : ∀ (H1 : Heap) (locs1 : List Loc), va_P D vwCl w' H1 → va_D A w' → va_S A H0 H1 locs1 → W p l e R s m args below meth c H1 locs1 cells slots Q (F0 m (pc + 3) ls rest)) : W p l e R s m args below meth c H locs cells slots Q (F0 m pc ls (.ref v :: .ref a :: rest)) :=
  va_put S.1 S.2.1 S.2.2.2.2 hin ty0 hty hnm S.2.2.2.1 hKS.1.1 hP hD hS q0 he hc k hk (S.2.2.2.2 _ hm) (fun _ h => h) hfin hd hn hfit hl hdg (fun H1 locs1 h1 h2 h3 => by
    rw [hw] at h1 h2
    exact kk H1 locs1 h1 h2 h3)
end
