/-! what makes cells that stay: with, addGate -/
def fillN (f : Nat → Nat) (i : Nat) : Nat → Nat := fun j => if j < i then f j else 0
def fillO (f : Nat → Option Nat) (i : Nat) : Nat → Option Nat := fun j => if j < i then f j else none
theorem fillN_0 (f : Nat → Nat) : fillN f 0 = fun _ => 0 := by funext j; unfold fillN; rw [if_neg (by omega)]
theorem fillO_0 (f : Nat → Option Nat) : fillO f 0 = fun _ => none := by funext j; unfold fillO; rw [if_neg (by omega)]
theorem fillN_s (f : Nat → Nat) (i : Nat) : updN (fillN f i) i (f i) = fillN f (i + 1) := by
  funext j
  show (if j = i then f i else if j < i then f j else 0) = if j < i + 1 then f j else 0
  by_cases h : j = i
  · subst h; rw [if_pos rfl, if_pos (by omega)]
  · rw [if_neg h]
    by_cases h2 : j < i
    · rw [if_pos h2, if_pos (by omega)]
    · rw [if_neg h2, if_neg (by omega)]
theorem fillO_s {f : Nat → Option Nat} {i x : Nat} (hx : f i = some x) : va_up (fillO f i) i (some x) = fillO f (i + 1) := by
  funext j
  show (if j = i then some x else if j < i then f j else none) = if j < i + 1 then f j else none
  by_cases h : j = i
  · subst h; rw [if_pos rfl, if_pos (by omega), hx]
  · rw [if_neg h]
    by_cases h2 : j < i
    · rw [if_pos h2, if_pos (by omega)]
    · rw [if_neg h2, if_neg (by omega)]
theorem cell_I {cI : ClassId} {n : Nat} {f g : Nat → Nat} (h : ∀ j, j < n → f j = g j) : vp_cell cI (n, .inl (row f)) = vp_cell cI (n, .inl (row g)) := by
  rw [vp_cell_i, vp_cell_i]
  unfold arrV
  congr 2
  funext j
  show Value.int (nI (f j.val)) = Value.int (nI (g j.val))
  rw [h j.val j.isLt]
theorem cell_O {cA : ClassId} {n : Nat} {f g : Nat → Option Nat} (h : ∀ j, j < n → f j = g j) : vp_cell cA (n, ilr f) = vp_cell cA (n, ilr g) := by
  rw [vp_cell_q, vp_cell_q]
  unfold arrV
  congr 2
  funext j
  show va_rf (f j.val) = va_rf (g j.val)
  rw [h j.val j.isLt]
section
variable {p : Program} {l : Launch} {e : Env} {R : Room} {s : State} {m : MethodId} {args : Array Value} {below : List Frame} {meth : Method} {c : Code} {H : Heap} {locs : List Loc} {cells slots : Nat} {Q : State → Prop}
variable {cc : ByteArray} {pc nL index : Nat} {ls : Array Slot} {rest st0 : List Value} {D : va_G} {A A0 : Nat → Prop} {a : Nat} {cI cA : ClassId} {w wr : va_W} {H0 : Heap} {Ts : List Cond} {own : String}
/-- a store of a row that is known by its cell -/
theorem q_aastH (S : CallFix p m c cc nL s args Ts own) (hKS : KS D cI cA s) (hP : va_P D vwCl w H) (hD : va_D A w) (hS : va_S A H0 H locs) (q0 : Nat) {n k v n2 : Nat} {f : Nat → Option Nat} {g : Nat → Int32} (ha : w[q0]? = some (a, .inl (cA, n, ilr f))) (hv : H[v]? = some (vp_cell cI (n2, .inl g))) (hk : k < n) (hn : n < 2 ^ 31) (hdg : decode cc pc = .ok (.aastore, 1)) (w' : va_W) (hw : w.set q0 (a, .inl (cA, n, ilr (va_up f k (some v)))) = w')
    (kk : ∀ (H1 : Heap) (locs1 : List Loc), va_P D vwCl w' H1 → va_D A w' → va_S A H0 H1 locs1 → W p l e R s m args below meth c H1 locs1 cells slots Q (F0 m (pc + 1) ls rest)) : W p l e R s m args below meth c H locs cells slots Q (F0 m pc ls (.ref v :: .int (nI k) :: .ref a :: rest)) := by
  have hin := vp_in_nI hk hn
  have e0 : (nI k).toNatClampNeg = k := nI_clamp (Nat.lt_trans hk hn)
  obtain ⟨kA, kI, k1, k2, hkI⟩ := hKS.comp
  refine W.aast S.1 S.2.1 (hP q0 _ ha) (fun q h => by cases h) (fun h => by cases h) k1 k2 rfl hkI ⟨fun q => hin (Or.inl q), by show _ < (arrV _ _ _).slots.size; rw [arrV_size, e0]; exact hk⟩ hv (fun q h => by cases h) hkI (va_asg _ _) rfl rfl hdg fun H1 e z oq => ?_
  refine kk H1 _ (by rw [← hw]; exact hP.set hD ha (by
    show H1[a]? = some (vp_cell _ _)
    rw [e, vp_cell_q, vp_cell_q, arrV_store, e0]
    congr 2
    funext q
    by_cases hq : q = k
    · subst hq
      simp [updV, va_up, va_rf]
    · simp [updV, va_up, hq]) oq) (by rw [← hw]; exact hD.set ha) (hS.put z oq (hD.2 q0 _ ha))
end
/-- a row of ints at a cell -/
def rowAt (cI : ClassId) (H : Heap) (x : Nat) : Prop := ∃ (n2 : Nat) (g : Nat → Int32), H[x]? = some (vp_cell cI (n2, .inl g))
theorem rowAt_of {D : va_G} {cI : ClassId} {w : va_W} {H : Heap} (hP : va_P D vwCl w H) {i x n2 : Nat} {g : Nat → Int32} (h : w[i]? = some (x, .inl (cI, n2, .inl g))) : rowAt cI H x := ⟨n2, g, hP i _ h⟩
theorem P_old {D : va_G} {A : Nat → Prop} {w : va_W} {H0 H : Heap} {locs : List Loc} (hP : va_P D vwCl w H0) (hS : va_S A H0 H locs) (hA : ∀ q, q < H0.size → ¬ A q) : va_P D vwCl w H := hP.kept (fun k q hq => hS.2.1 q.1 (hP k q hq).lt (hA q.1 (hP k q hq).lt))
theorem q_bodyH {l : Launch} {y : MethodName} {ws ws' : List Cond} {fr lo mc ms : Nat} {D : va_G} {cI cA : ClassId} {av : List Value} {w : va_W} {cc : ByteArray} {maxL : Nat} {ret : Option FieldType} {Qc : Array Value → State → Outcome → State → Prop} {free : Addr → Prop} {sz : Nat} (hy : plainName y.cls = true) (hw : ws = Cond.code y cc maxL ret :: ws') (hav : (lg_sl av).length ≤ maxL)
    (body : ∀ p e s m args below meth c ls, s.heap.size = sz → CallFix p m c cc maxL s args ws y.cls → meth.sig.returnType = ret → meth.locks = false → lv_has ls maxL (lv_args 0 av) → va_P D vwCl w s.heap → KS D cI cA s → va_D (fun _ => True) w →
      W p l e (rmG fr mc ms lo) s m args below meth c s.heap [] 0 0 (MQ below Qc args s mc ms free) (F0 m 0 ls [])) :
    Met l y ws (rmG fr mc ms lo) (va_Pc av (fun U => U.heap.size = sz ∧ va_P D vwCl w U.heap ∧ KS D cI cA U ∧ va_D (fun _ => True) w)) Qc mc ms free := by
  refine Met.ofW (cc := cc) (maxL := maxL) (ret := ret) hy hw ?_
  intro p e s m args below meth c s₁ B hml hv
  obtain ⟨rfl, hz, hP, hK, hD⟩ := hv
  have hl := lv_entry av (n := maxL) hav
  rw [lg_entry_eq]
  exact body p e s m _ below meth c _ hz ⟨B.exec, B.bytes, hml, findClass_of_methodNamed B.named, atoms_spec (ws := ws) B.pre⟩ B.returns B.notSynchronized hl hP hK hD
def WT (l : Launch) (D : va_G) (cI cA : ClassId) (a0 n : Nat) (f : Nat → Option Nat) (v : Nat) (w : va_W) : Prop :=
  ∀ sz : Nat, Met l yX4_with wsX4_with (rmG 0 1 9 0) (va_Pc [.ref a0, .ref v] (fun U => U.heap.size = sz ∧ va_P D vwCl w U.heap ∧ KS D cI cA U ∧ va_D (fun _ => True) w)) (va_Qr (fun _ : Unit => True) (fun _ q t => sz ≤ q ∧ va_P D vwCl [(q, .inl (cA, n + 1, ilr (va_up f n (some v))))] t.heap) (fun _ => False)) 1 9 (fun q => sz ≤ q)
set_option maxRecDepth 100000 in
set_option maxHeartbeats 4000000 in
theorem c_X4_with (l : Launch) (D : va_G) (cI cA : ClassId) (a0 n v q0 : Nat) (f : Nat → Option Nat) (w : va_W) (hn : n ≤ 8) (h0 : w[q0]? = some (a0, .inl (cA, n, ilr f))) (hv : ∀ H, va_P D vwCl w H → rowAt cI H v) (hf : ∀ k, k < n → ∃ x, f k = some x ∧ ∀ H, va_P D vwCl w H → rowAt cI H x) : WT l D cI cA a0 n f v w := by
  intro sz
  refine q_bodyH (cc := cX4_with) (maxL := 4) (ret := some (.array (.array .int))) (by decide) rfl (Nat.le_of_ble_eq_true rfl) ?_
  intro p e s m args below meth c ls hz F hr hlk hl hP0 hK hD0
  have F : CallFix p m c cX4_with 4 s args wsX4_with RX4 := F
  have hl : lv_has ls 4 [(0, .ref a0), (1, .ref v)] := hl
  have hA : ∀ q, q < s.heap.size → ¬ (fun q => sz ≤ q) q := fun q h1 h2 => by have h2 : sz ≤ q := h2; omega
  have hP : va_P D vwCl [] s.heap := fun k q h => by simp at h
  have hD : va_D (fun q => sz ≤ q) [] := ⟨fun i j p q h => by simp at h, fun k q h => by simp at h⟩
  have hS : va_S (fun q => sz ≤ q) s.heap s.heap [] := va_S.rf
  refine lv_aload_n F.1 F.2.1 dX4_with_0 rfl (lv_at hl 0 rfl) ?_
  refine q_alenA F hK hP0 q0 h0 dX4_with_1 ?_
  refine lv_iconst (v := nI 1) F.1 F.2.1 dX4_with_2 (by decide) ?_
  refine k_iadd F dX4_with_3 ?_
  refine q_anew F (List.mem_of_getElem? (i := 1) rfl) hK hP hD hS (fun q h => by show sz ≤ q; omega) (k := n + 1) (by omega) ⟨Nat.le_refl _, show 0 + (n + 1) ≤ 9 by omega⟩ dX4_with_4 (fun q H hq hP hD hS => ?_)
  have hP : va_P D vwCl [(q, .inl (cA, n + 1, ilr (fun _ => none)))] H := hP
  have hD : va_D (fun q => sz ≤ q) [(q, .inl (cA, n + 1, ilr (fun _ => none)))] := hD
  refine lv_astore_n (lv' := [(2, .ref q), (0, .ref a0), (1, .ref v)]) F.1 F.2.1 dX4_with_7 rfl hl (by decide) rfl (fun ls hl => ?_)
  refine lv_iconst (v := nI 0) F.1 F.2.1 dX4_with_8 (by decide) ?_
  refine lv_istore_n (lv' := [(3, .int (nI 0)), (2, .ref q), (0, .ref a0), (1, .ref v)]) F.1 F.2.1 dX4_with_9 rfl hl (by decide) rfl (fun ls hl => ?_)
  have loop : ∀ (r i : Nat), i ≤ n → n + 1 ≤ i + r → ∀ (H : Heap) (locs : List Loc) (ls : Array Slot), va_P D vwCl [(q, .inl (cA, n + 1, ilr (fillO f i)))] H → va_D (fun q => sz ≤ q) [(q, .inl (cA, n + 1, ilr (fillO f i)))] → va_S (fun q => sz ≤ q) s.heap H locs → lv_has ls 4 [(3, .int (nI i)), (2, .ref q), (0, .ref a0), (1, .ref v)] → W p l e (rmG 0 1 9 0) s m args below meth c H locs (0 + 1) (0 + (n + 1)) (MQ below (va_Qr (fun _ : Unit => True) (fun _ q t => sz ≤ q ∧ va_P D vwCl [(q, .inl (cA, n + 1, ilr (va_up f n (some v))))] t.heap) (fun _ => False)) args s 1 9 (fun q => sz ≤ q)) (F0 m 10 ls []) := by
    intro r
    induction r with
    | zero => intro i hi hr2; exact absurd hr2 (by omega)
    | succ r ih =>
      intro i hi hr2 H locs ls hP hD hS hl
      have hP1 := P_old hP0 hS hA
      refine lv_iload_n F.1 F.2.1 dX4_with_10 rfl (lv_at hl 0 rfl) ?_
      refine lv_aload_n F.1 F.2.1 dX4_with_11 rfl (lv_at hl 2 rfl) ?_
      refine q_alenA F hK hP1 q0 h0 dX4_with_12 ?_
      refine k_icmp_ge (tgt := 28) F (by omega) (by omega) dX4_with_13 (by decide) (fun h => ?_) (fun h => ?_)
      · refine lv_aload_n F.1 F.2.1 dX4_with_28 rfl (lv_at hl 1 rfl) ?_
        refine lv_aload_n F.1 F.2.1 dX4_with_29 rfl (lv_at hl 2 rfl) ?_
        refine q_alenA F hK hP1 q0 h0 dX4_with_30 ?_
        refine lv_aload_n F.1 F.2.1 dX4_with_31 rfl (lv_at hl 3 rfl) ?_
        obtain ⟨n2, g, hg⟩ := hv H hP1
        refine q_aastH F hK hP hD hS 0 rfl hg (show n < n + 1 by omega) (by omega) dX4_with_32 [(q, .inl (cA, n + 1, ilr (va_up (fillO f i) n (some v))))] rfl (fun H locs hP hD hS => ?_)
        refine lv_aload_n F.1 F.2.1 dX4_with_33 rfl (lv_at hl 1 rfl) ?_
        refine W.widen (Nat.le_refl _) (show 0 + (n + 1) ≤ 9 by omega) (W.aret F.1 F.2.1 hr (Or.inr ⟨_, rfl⟩) (Or.inr ⟨q, rfl⟩) (fun t ht hW => ⟨⟨(), q, rfl, trivial, by show sz ≤ q; omega, ?_⟩, ?_⟩) hS.2.2 dX4_with_34 hlk)
        · rw [ht]
          intro k x hx
          have hz2 : k < 1 := (List.getElem?_eq_some_iff.mp hx).1
          rw [show k = 0 by omega] at hx
          cases hx
          have h9 := hP 0 _ rfl
          show H[q]? = some (vp_cell _ _)
          rw [cell_O (g := va_up (fillO f i) n (some v)) (fun j hj => ?_)]
          · exact h9
          · unfold va_up
            by_cases e : j = n
            · rw [if_pos e, if_pos e]
            · rw [if_neg e, if_neg e]
              unfold fillO
              rw [if_pos (by omega)]
        · rw [va_F, ht]
          exact ⟨hS.1, fun x hx _ => hS.2.1 x hx (hA x hx)⟩
      · refine lv_aload_n F.1 F.2.1 dX4_with_16 rfl (lv_at hl 1 rfl) ?_
        refine lv_iload_n F.1 F.2.1 dX4_with_17 rfl (lv_at hl 0 rfl) ?_
        refine lv_aload_n F.1 F.2.1 dX4_with_18 rfl (lv_at hl 2 rfl) ?_
        refine lv_iload_n F.1 F.2.1 dX4_with_19 rfl (lv_at hl 0 rfl) ?_
        obtain ⟨x, hx, hrow⟩ := hf i (by omega)
        obtain ⟨n2, g, hg⟩ := hrow H hP1
        refine q_aald F hK hP1 q0 h0 (by omega) (by omega) hx dX4_with_20 ?_
        refine q_aastH F hK hP hD hS 0 rfl hg (show i < n + 1 by omega) (by omega) dX4_with_21 [(q, .inl (cA, n + 1, ilr (fillO f (i + 1))))] (by rw [← fillO_s hx]; rfl) (fun H locs hP hD hS => ?_)
        refine k_inc (k := 0) (lv' := [(3, .int (nI (i + 1))), (2, .ref q), (0, .ref a0), (1, .ref v)]) F dX4_with_22 hl rfl (by decide) rfl (fun ls hl => ?_)
        refine lv_goto (tgt := 10) F.1 F.2.1 dX4_with_25 (by decide) ?_
        exact ih (i + 1) (by omega) (by omega) H locs ls hP hD hS hl
  rw [← fillO_0 f] at hP hD
  exact loop (n + 1) 0 (by omega) (by omega) H [] ls hP hD hS hl
/-- its call: one more cell -/
theorem q_with {p : Program} {l : Launch} {e : Env} {R : Room} {s : State} {m : MethodId} {args : Array Value} {below : List Frame} {meth : Method} {c : Code} {H : Heap} {locs : List Loc} {cells slots : Nat} {Q : State → Prop} {cc : ByteArray} {pc nL index : Nat} {ls : Array Slot} {rest : List Value} {D : va_G} {A0 : Nat → Prop} {cI cA : ClassId} {w : va_W} {Ts : List Cond} {own : String} {a0 n v : Nat} {f : Nat → Option Nat}
    (S : CallFix p m c cc nL s args Ts own) (hM : WT l D cI cA a0 n f v w) (hT : GoodIn Ts (va_wsS own index yX4_with wsX4_with)) (hR : 1 ≤ R.frames ∧ 23 ≤ R.locals) (hsize : ls.size = nL) (hc8 : (rest.map fun v => v.category).sum ≤ 8) (hdg : decode cc pc = .ok (.invokestatic index, 3)) (hf : cells + 1 ≤ R.cells ∧ slots + 9 ≤ R.slots)
    (hK : KS D cI cA s) (hP : va_P D vwCl w H) (hD : va_D A0 w) (hS : va_S A0 s.heap H locs) (hA : ∀ q, s.heap.size ≤ q → A0 q)
    (kk : ∀ (q : Nat) (H1 : Heap) (locs1 : List Loc), va_P D vwCl (w ++ [(q, .inl (cA, n + 1, ilr (va_up f n (some v))))]) H1 → va_D A0 (w ++ [(q, .inl (cA, n + 1, ilr (va_up f n (some v))))]) → va_S A0 s.heap H1 locs1 → W p l e R s m args below meth c H1 locs1 (cells + 1) (slots + 9) Q (F0 m (pc + 3) ls (.ref q :: rest))) : W p l e R s m args below meth c H locs cells slots Q (F0 m pc ls (.ref v :: .ref a0 :: rest)) := by
  have h9 : s.heap.size ≤ H.size := hS.1
  refine va_callr (va_runS (As := [.ref a0, .ref v]) (rest := rest) S (hM H.size) (va_cwS 2 S.2.2.2.2 hT rfl rfl rfl (by decide +kernel) hR) ⟨blindGS, fun U hU hW => ⟨rfl, by rw [hU], by rw [hU]; exact hP, KS.moved hW hK, hD.weaken (fun _ _ _ _ => trivial)⟩⟩ rfl rfl hsize rfl (lv_room hc8) hdg hf) hS (fun q _ h => h.elim) (fun q h => hA q (Nat.le_trans hS.1 h)) (fun u ra t H1 locs1 ht hvm _ hB hz1 hk1 hS => ?_)
  obtain ⟨h1, h2⟩ := hB
  rw [ht] at h2
  have hP1 := keep_P hP hk1
  exact kk ra H1 locs1 (P_more hP1 (h2 0 _ rfl)) (D_re (D_more (H := H) (e := .inl (cA, n + 1, ilr (va_up f n (some v)))) hP hD h1 (hA _ (Nat.le_trans h9 h1))) rfl) hS
