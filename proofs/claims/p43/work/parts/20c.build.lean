/-! build: a codex and its picture out of the script -/
theorem ga_rank (S : Nat → Nat → Nat) (x : Nat) : gaS S x 1 (S 0 0) = x := by unfold gaS; rw [setf_at, if_neg (by omega), setf_at, if_pos ⟨rfl, rfl⟩]
theorem inv_S0 : Inv S0 := by simp [Inv, S0]
theorem LI_S0 : LI S0 := ⟨inv_S0, ⟨fun _ _ => ⟨rfl, rfl⟩, fun _ _ => ⟨rfl, rfl⟩, fun _ _ => rfl⟩, rfl⟩
abbrev KB (D : va_G) (cI cA : ClassId) (U : State) : Prop := KS D cI cA U ∧ va_Nw (.methodLinkNest RL 79 yX4_init "GooseCodexLaw") U
abbrev BUp (l : Launch) (D : va_G) (cI cA : ClassId) (a b : Nat → Nat) (x L : Nat) (xs : Nat → Int32) (sz : Nat) : Array Value → State → Prop := va_Pc [.ref (a 13), .ref x] (fun U => U.heap.size = sz ∧ va_P D vwCl (wCo cI a b S0 S0) U.heap ∧ KB D cI cA U ∧ KXA (va_A (wCo cI a b S0 S0) sz) U ∧ va_D (fun _ => True) (wCo cI a b S0 S0) ∧ va_X x L xs U U.heap ∧ x < sz ∧ ¬ va_B (wCo cI a b S0 S0) x)
abbrev BUq (D : va_G) (cI cA : ClassId) (a b : Nat → Nat) (sz : Nat) : Array Value → State → Outcome → State → Prop := va_Qr (fun u : (Nat → Nat) × (Nat → Nat → Nat) => LI u.2 ∧ u.2 0 3 ≤ 3180) (fun u r t => r = u.1 0 ∧ va_P D vwCl (wAc cI cA u.1 a b u.2 S0) t.heap ∧ va_D (va_A (wCo cI a b S0 S0) sz) (wAc cI cA u.1 a b u.2 S0)) (va_B (wCo cI a b S0 S0))
def BU (l : Launch) (D : va_G) (cI cA : ClassId) (a b : Nat → Nat) (x L : Nat) (xs : Nat → Int32) : Prop :=
  ∀ sz : Nat, Met l yL_build wsL_build (rmG 10 26530 132700 193) (BUp l D cI cA a b x L xs sz) (BUq D cI cA a b sz) 26530 132700 (va_A (wCo cI a b S0 S0) sz)
theorem blindBU {l : Launch} {D : va_G} {cI cA : ClassId} {a b : Nat → Nat} {x L : Nat} {xs : Nat → Int32} {sz : Nat} : FrameBlind (BUp l D cI cA a b x L xs sz) := fun aa U g mk q => ⟨q.1, q.2.1, q.2.2.1, ⟨KS.call q.2.2.2.1.1, va_Nw.same (u := U) (U := U.calling g mk aa) rfl rfl q.2.2.2.1.2⟩, KXA.call q.2.2.2.2.1, q.2.2.2.2.2.1, va_X.move (U := U.calling g mk aa) q.2.2.2.2.2.2.1 rfl (Vm.Alike.refl U.vm), q.2.2.2.2.2.2.2⟩
theorem q_bodyB {l : Launch} {D : va_G} {cI cA : ClassId} {a b : Nat → Nat} {x L : Nat} {xs : Nat → Int32} {sz : Nat}
    (body : ∀ p e s m args below meth c H ls, s.heap.size = sz → CallFix p m c cL_build 6 s args wsL_build RL → meth.sig.returnType = some (.object "GooseCodexLaw$Sim") → meth.locks = false → lv_has ls 6 (lv_args 0 [.ref (a 13), .ref x]) → va_P D vwCl (wCo cI a b S0 S0) H → KB D cI cA s → KXA (va_A (wCo cI a b S0 S0) sz) s → va_D (va_A (wCo cI a b S0 S0) sz) (wCo cI a b S0 S0) → va_X x L xs s s.heap → x < sz → ¬ va_B (wCo cI a b S0 S0) x → va_S (va_A (wCo cI a b S0 S0) sz) s.heap H [] →
      W p l e (rmG 10 26530 132700 193) s m args below meth c H [] 0 0 (MQ below (BUq D cI cA a b sz) args s 26530 132700 (va_A (wCo cI a b S0 S0) sz)) (F0 m 0 ls [])) :
    Met l yL_build wsL_build (rmG 10 26530 132700 193) (BUp l D cI cA a b x L xs sz) (BUq D cI cA a b sz) 26530 132700 (va_A (wCo cI a b S0 S0) sz) := by
  refine Met.ofW (cc := cL_build) (maxL := 6) (ret := (some (.object "GooseCodexLaw$Sim"))) (by decide) rfl ?_
  intro p e s m args below meth c s₁ B hml hv
  obtain ⟨rfl, hz, hP, hK, hX, hD, hx, hxl, hxB⟩ := hv
  have hl := lv_entry [.ref (a 13), .ref x] (n := 6) (Nat.le_of_ble_eq_true rfl)
  rw [lg_entry_eq]
  exact body p e s m _ below meth c s.heap _ hz ⟨B.exec, B.bytes, hml, findClass_of_methodNamed B.named, atoms_spec (ws := wsL_build) B.pre⟩ B.returns B.notSynchronized hl hP hK hX hD.self hx hxl hxB va_S.rf
theorem nL_build_X4 : ∀ x ∈ wsX40, x ∈ wsL_build := fun _ h => List.mem_cons_of_mem _ (List.mem_append_left _ (List.mem_append_left _ (List.mem_append_left _ (List.mem_append_left _ (List.mem_append_left _ (List.mem_append_left _ (List.mem_append_left _ (List.mem_append_right _ h))))))))
set_option maxRecDepth 100000 in
set_option maxHeartbeats 8000000 in
theorem c_L_build (l : Launch) (D : va_G) (cI cA : ClassId) (hst : l.stackTraces = false) (a b : Nat → Nat) (x L : Nat) (xs : Nat → Int32) (hL : L ≤ 260) : BU l D cI cA a b x L xs := by
  intro sz
  refine q_bodyB ?_
  intro p e s m args below meth c H ls hz F hr hlk hl hP hKN hX hD hx hxl hxB hS
  obtain ⟨hK, hN⟩ := hKN
  have F : CallFix p m c cL_build 6 s args wsL_build RL := F
  have hl : lv_has ls 6 [(0, .ref (a 13)), (1, .ref x)] := hl
  have hA : ∀ q, s.heap.size ≤ q → (va_A (wCo cI a b S0 S0) sz) q := fun q h => Or.inr (by omega)
  have hxA : ¬ (va_A (wCo cI a b S0 S0) sz) x := fun h => h.elim hxB (fun h => by omega)
  have hxl : x < s.heap.size := by omega
  refine k_newo (ci := 4) (fs := [.int 0, .int 0, .int 0, .null, .null, .null]) F nL_build_X4 tyX4 tyX4_ok (List.mem_of_getElem? (i := 1) rfl) (List.mem_of_getElem? (i := 2) rfl) (List.mem_of_getElem? (i := 3) rfl) hK.1.1 hP hD hS hA rfl (fun j hj => by rcases (show j = 0 ∨ j = 1 ∨ j = 2 ∨ j = 3 ∨ j = 4 ∨ j = 5 by omega) with rfl | rfl | rfl | rfl | rfl | rfl <;> rfl) ⟨show 0 + 1 ≤ 26530 by decide, show 0 + 6 ≤ 132700 by decide⟩ dL_build_0 (fun q0 H hP8 hD8 hS => ?_)
  refine lv_dup F.1 F.2.1 dL_build_3 rfl ?_
  refine k_ctorS (rest := [.ref q0]) F (c_X4_init l D cI cA q0) gL_build_X4_init_n79 hN (List.mem_of_getElem? (i := 3) rfl) (List.mem_of_getElem? (i := 5) rfl) ⟨Nat.le_of_ble_eq_true rfl, Nat.le_of_ble_eq_true rfl⟩ hl.1 (Nat.le_of_ble_eq_true rfl) dL_build_4 ⟨show 0 + 1 + 3 ≤ 26530 by decide, show 0 + 6 + 0 ≤ 132700 by decide⟩ hK hP8 hD8 hS hA (fun z0 H locs hz0 hP hD hS => ?_)
  subst hz0
  refine lv_astore_n (lv' := [(2, .ref (z0 0)), (0, .ref (a 13)), (1, .ref x)]) F.1 F.2.1 dL_build_7 rfl hl (by decide) rfl (fun ls hl => ?_)
  refine lv_iconst (v := nI 1) F.1 F.2.1 dL_build_8 (by decide) ?_
  refine lv_aload_n F.1 F.2.1 dL_build_9 rfl (lv_at hl 2 rfl) ?_
  refine lv_iconst (v := nI 1) F.1 F.2.1 dL_build_10 (by decide) ?_
  refine x_cell (k := 1) F hL (by decide) gL_build_L_cell ⟨Nat.le_of_ble_eq_true rfl, Nat.le_of_ble_eq_true rfl⟩ hl.1 (Nat.le_of_ble_eq_true rfl) dL_build_11 ⟨show 0 + 1 + 3 ≤ 26530 by decide, show 0 + 6 + 0 ≤ 132700 by decide⟩ hx hxl hxA hP hS (fun H locs hP hS => ?_)
  refine lv_bipush (v := nI 6) F.1 F.2.1 dL_build_14 (by decide) ?_
  refine x_pS (n := 2) (rest := [.int (nI 1)]) (v := nI (blw (celV xs L 1) 6)) F (c_L_below l D cI (celV xs L 1) 6 (by omega) (by omega)) gL_build_L_below rfl (by decide +kernel) ⟨Nat.le_of_ble_eq_true rfl, Nat.le_of_ble_eq_true rfl⟩ rfl hl.1 rfl (Nat.le_of_ble_eq_true rfl) dL_build_16 ⟨show 0 + 1 + 3 ≤ 26530 by decide, show 0 + 6 + 0 ≤ 132700 by decide⟩ hK hP hS (fun H locs hP hS => ?_)
  have hG := blw_lt (celV xs L 1) (n := 6) (by omega)
  refine k_iadd F dL_build_19 ?_
  refine lv_istore_n (lv' := [(3, .int (nI (1 + blw (celV xs L 1) 6))), (2, .ref (z0 0)), (0, .ref (a 13)), (1, .ref x)]) F.1 F.2.1 dL_build_20 rfl hl (by decide) rfl (fun ls hl => ?_)
  refine lv_iconst (v := nI 0) F.1 F.2.1 dL_build_21 (by decide) ?_
  refine lv_istore (lv' := [(4, .int (nI 0)), (3, .int (nI (1 + blw (celV xs L 1) 6))), (2, .ref (z0 0)), (0, .ref (a 13)), (1, .ref x)]) F.1 F.2.1 dL_build_22 hl (by decide) rfl (fun ls hl => ?_)
  have loop89 : ∀ (n k : Nat), k ≤ (10 + blw (celV xs L 0) 44) → (10 + blw (celV xs L 0) 44) + 1 ≤ k + n → ∀ (ce sl : Nat), ce ≤ 30 + 500 * k → sl ≤ 200 + 2500 * k → ∀ (z : Nat → Nat) (S : Nat → Nat → Nat), z 0 = z0 0 → LI S → S 0 3 ≤ 60 * k → ∀ (H : Heap) (locs : List Loc) (ls : Array Slot), va_P D vwCl (wAc cI cA z a b S S0) H → va_D (va_A (wCo cI a b S0 S0) sz) (wAc cI cA z a b S S0) → va_S (va_A (wCo cI a b S0 S0) sz) s.heap H locs → lv_has ls 6 [(5, .int (nI k)), (4, .int (nI (10 + blw (celV xs L 0) 44))), (2, .ref (z0 0)), (0, .ref (a 13)), (1, .ref x)] → W p l e (rmG 10 26530 132700 193) s m args below meth c H locs ce sl (MQ below (BUq D cI cA a b sz) args s 26530 132700 (va_A (wCo cI a b S0 S0) sz)) (F0 m 89 ls []) := by
    have hN := blw_lt (celV xs L 0) (n := 44) (by omega)
    intro n
    induction n with
    | zero => intro k hi hn; exact absurd hn (by omega)
    | succ n ih =>
      intro k hi hn ce sl hce hsl z S hz9 hLI hB H locs ls hP hD hS hl
      refine lv_iload F.1 F.2.1 dL_build_89 (lv_at hl 0 rfl) ?_
      refine lv_iload F.1 F.2.1 dL_build_91 (lv_at hl 1 rfl) ?_
      refine k_icmp_ge (tgt := 136) F (by omega) (by omega) dL_build_93 (by decide) (fun h93 => ?_) (fun h93 => ?_)
      · refine lv_aload_n F.1 F.2.1 dL_build_136 rfl (lv_at hl 2 rfl) ?_
        refine W.widen (show ce ≤ 26530 by omega) (show sl ≤ 132700 by omega) (W.aret F.1 F.2.1 hr (Or.inl ⟨_, rfl⟩) (Or.inr ⟨_, rfl⟩) (fun t ht hW => ⟨⟨(z, S), z0 0, rfl, ⟨hLI, show S 0 3 ≤ 3180 by omega⟩, ⟨hz9.symm, by rw [ht]; exact hP, hD⟩⟩, ?_⟩) hS.2.2 dL_build_137 hlk)
        have h := hS.F ht
        exact ⟨h.1, fun q h1 h2 => h.2 q h1 (fun h3 => h3.elim h2 (fun h4 => absurd h1 (by omega)))⟩
      · rw [← hz9] at hl
        refine lv_aload_n F.1 F.2.1 dL_build_96 rfl (lv_at hl 3 rfl) ?_
        refine lv_aload_n F.1 F.2.1 dL_build_97 rfl (lv_at hl 2 rfl) ?_
        refine lv_aload_n F.1 F.2.1 dL_build_98 rfl (lv_at hl 4 rfl) ?_
        refine lv_iload F.1 F.2.1 dL_build_99 (lv_at hl 0 rfl) ?_
        refine lv_bipush (v := nI 16) F.1 F.2.1 dL_build_101 (by decide) ?_
        refine lv_irem F.1 F.2.1 dL_build_103 (by decide) ?_
        rw [pk_rem (by omega) (by decide) (by decide)]
        refine x_cell (k := k % 16) F hL (by omega) gL_build_L_cell ⟨Nat.le_of_ble_eq_true rfl, Nat.le_of_ble_eq_true rfl⟩ hl.1 (Nat.le_of_ble_eq_true rfl) dL_build_104 ⟨show ce ≤ 26530 by omega, show sl ≤ 132700 by omega⟩ hx hxl hxA hP hS (fun H locs hP hS => ?_)
        refine lv_iload F.1 F.2.1 dL_build_107 (lv_at hl 0 rfl) ?_
        refine lv_bipush (v := nI 16) F.1 F.2.1 dL_build_109 (by decide) ?_
        refine lv_idiv F.1 F.2.1 dL_build_111 (by decide) ?_
        rw [pk_div (by omega) (by decide) (by decide)]
        refine lv_iconst (v := nI 3) F.1 F.2.1 dL_build_112 (by decide) ?_
        refine k_imul F dL_build_113 ?_
        refine lv_ishr F.1 F.2.1 dL_build_114 ?_
        refine lv_sipush (v := nI 673) F.1 F.2.1 dL_build_115 (by decide) ?_
        refine lv_iload F.1 F.2.1 dL_build_118 (lv_at hl 0 rfl) ?_
        refine k_imul F dL_build_120 ?_
        refine lv_iadd F.1 F.2.1 dL_build_121 ?_
        refine x_act (rest := []) F (c_L_act l D cI cA hst z a b S S0 _ hLI) gL_build_L_act ⟨Nat.le_of_ble_eq_true rfl, Nat.le_of_ble_eq_true rfl⟩ hl.1 (Nat.le_of_ble_eq_true rfl) dL_build_122 ⟨show ce + 500 ≤ 26530 by omega, show sl + 2500 ≤ 132700 by omega⟩ hK hX hP hD hS hA (fun z1 S1 H locs hz1 hL1 hB1 hP hD hS => ?_)
        refine k_if_ne (x := 1) (tgt := 130) F (by decide) dL_build_125 (by decide) (fun _ => ?_) (fun h => absurd h (by decide))
        refine k_inc (k := 0) (lv' := [(5, .int (nI (k + 1))), (4, .int (nI (10 + blw (celV xs L 0) 44))), (2, .ref (z 0)), (0, .ref (a 13)), (1, .ref x)]) F dL_build_130 hl rfl (by decide) rfl (fun ls hl => ?_)
        refine lv_goto (tgt := 89) F.1 F.2.1 dL_build_133 (by decide) ?_
        rw [hz9] at hl
        exact ih (k + 1) (by omega) (by omega) (ce + 500) (sl + 2500) (by omega) (by omega) z1 S1 (hz1.trans hz9) hL1 (by omega) H locs ls hP hD hS hl
  have loop24 : ∀ (n i : Nat), i ≤ (1 + blw (celV xs L 1) 6) → (1 + blw (celV xs L 1) 6) + 1 ≤ i + n → ∀ (ce sl : Nat), ce ≤ 4 + 3 * i → sl ≤ 6 + 19 * i → ∀ (z : Nat → Nat) (S : Nat → Nat → Nat), z 0 = z0 0 → LI S → S 0 0 = i → S 0 1 = 0 → S 0 2 = 0 → S 0 3 = 0 → ∀ (H : Heap) (locs : List Loc) (ls : Array Slot), va_P D vwCl (wAc cI cA z a b S S0) H → va_D (va_A (wCo cI a b S0 S0) sz) (wAc cI cA z a b S S0) → va_S (va_A (wCo cI a b S0 S0) sz) s.heap H locs → lv_has ls 6 [(4, .int (nI i)), (3, .int (nI (1 + blw (celV xs L 1) 6))), (2, .ref (z0 0)), (0, .ref (a 13)), (1, .ref x)] → W p l e (rmG 10 26530 132700 193) s m args below meth c H locs ce sl (MQ below (BUq D cI cA a b sz) args s 26530 132700 (va_A (wCo cI a b S0 S0) sz)) (F0 m 24 ls []) := by
    intro n
    induction n with
    | zero => intro i hi hn; exact absurd hn (by omega)
    | succ n ih =>
      intro i hi hn ce sl hce hsl z S hz9 hLI hS0 hS1 hS2 hS3 H locs ls hP hD hS hl
      refine lv_iload F.1 F.2.1 dL_build_24 (lv_at hl 0 rfl) ?_
      refine lv_iload_n F.1 F.2.1 dL_build_26 rfl (lv_at hl 1 rfl) ?_
      refine k_icmp_ge (tgt := 71) F (by omega) (by omega) dL_build_27 (by decide) (fun h27 => ?_) (fun h27 => ?_)
      · refine lv_bipush (v := nI 10) F.1 F.2.1 dL_build_71 (by decide) ?_
        refine lv_aload_n F.1 F.2.1 dL_build_73 rfl (lv_at hl 4 rfl) ?_
        refine lv_iconst (v := nI 0) F.1 F.2.1 dL_build_74 (by decide) ?_
        refine x_cell (k := 0) F hL (by decide) gL_build_L_cell ⟨Nat.le_of_ble_eq_true rfl, Nat.le_of_ble_eq_true rfl⟩ hl.1 (Nat.le_of_ble_eq_true rfl) dL_build_75 ⟨show ce ≤ 26530 by omega, show sl ≤ 132700 by omega⟩ hx hxl hxA hP hS (fun H locs hP hS => ?_)
        refine lv_bipush (v := nI 44) F.1 F.2.1 dL_build_78 (by decide) ?_
        refine x_pS (n := 2) (rest := [.int (nI 10)]) (v := nI (blw (celV xs L 0) 44)) F (c_L_below l D cI (celV xs L 0) 44 (by omega) (by omega)) gL_build_L_below rfl (by decide +kernel) ⟨Nat.le_of_ble_eq_true rfl, Nat.le_of_ble_eq_true rfl⟩ rfl hl.1 rfl (Nat.le_of_ble_eq_true rfl) dL_build_80 ⟨show ce ≤ 26530 by omega, show sl ≤ 132700 by omega⟩ hK hP hS (fun H locs hP hS => ?_)
        refine k_iadd F dL_build_83 ?_
        refine lv_istore (lv' := [(4, .int (nI (10 + blw (celV xs L 0) 44))), (3, .int (nI (1 + blw (celV xs L 1) 6))), (2, .ref (z0 0)), (0, .ref (a 13)), (1, .ref x)]) F.1 F.2.1 dL_build_84 hl (by decide) rfl (fun ls hl => ?_)
        refine lv_iconst (v := nI 0) F.1 F.2.1 dL_build_86 (by decide) ?_
        refine lv_istore (lv' := [(5, .int (nI 0)), (4, .int (nI (10 + blw (celV xs L 0) 44))), (3, .int (nI (1 + blw (celV xs L 1) 6))), (2, .ref (z0 0)), (0, .ref (a 13)), (1, .ref x)]) F.1 F.2.1 dL_build_87 hl (by decide) rfl (fun ls hl => ?_)
        exact loop89 ((10 + blw (celV xs L 0) 44) + 1) 0 (by omega) (by omega) ce sl (by omega) (by omega) z S hz9 hLI (by omega) H locs ls hP hD hS (lv_sub hl [0, 1, 3, 4, 5] rfl)
      · rw [← hz9] at hl
        refine lv_aload_n F.1 F.2.1 dL_build_30 rfl (lv_at hl 2 rfl) ?_
        refine lv_aload_n F.1 F.2.1 dL_build_31 rfl (lv_at hl 4 rfl) ?_
        refine lv_iconst (v := nI 2) F.1 F.2.1 dL_build_32 (by decide) ?_
        refine lv_iload F.1 F.2.1 dL_build_33 (lv_at hl 0 rfl) ?_
        refine k_iadd F dL_build_35 ?_
        refine x_cell (k := 2 + i) F hL (by omega) gL_build_L_cell ⟨Nat.le_of_ble_eq_true rfl, Nat.le_of_ble_eq_true rfl⟩ hl.1 (Nat.le_of_ble_eq_true rfl) dL_build_36 ⟨show ce ≤ 26530 by omega, show sl ≤ 132700 by omega⟩ hx hxl hxA hP hS (fun H locs hP hS => ?_)
        refine lv_bipush (v := nI 10) F.1 F.2.1 dL_build_39 (by decide) ?_
        refine x_pS (n := 2) (rest := [.ref (z 0)]) (v := nI (blw (celV xs L (2 + i)) 10)) F (c_L_below l D cI (celV xs L (2 + i)) 10 (by omega) (by omega)) gL_build_L_below rfl (by decide +kernel) ⟨Nat.le_of_ble_eq_true rfl, Nat.le_of_ble_eq_true rfl⟩ rfl hl.1 rfl (Nat.le_of_ble_eq_true rfl) dL_build_41 ⟨show ce ≤ 26530 by omega, show sl ≤ 132700 by omega⟩ hK hP hS (fun H locs hP hS => ?_)
        have hb9 := blw_lt (celV xs L (2 + i)) (n := 10) (by omega)
        generalize blw (celV xs L (2 + i)) 10 = y at hb9 ⊢
        refine q_addGate F (c_X4_addGate l D cI cA z S y (by omega)) gL_build_X4_addGate ⟨Nat.le_of_ble_eq_true rfl, Nat.le_of_ble_eq_true rfl⟩ hl.1 (Nat.le_of_ble_eq_true rfl) dL_build_44 ⟨show ce + 1 ≤ 26530 by omega, show sl + 7 ≤ 132700 by omega⟩ hK hP hD hS hA (fun q44 H locs hP hD hS => ?_)
        refine lv_aload_n F.1 F.2.1 dL_build_47 rfl (lv_at hl 3 rfl) ?_
        refine lv_aload_n F.1 F.2.1 dL_build_48 rfl (lv_at hl 2 rfl) ?_
        refine k_get (v := .ref (updN z 1 q44 1)) F nL_build_X4 hK.1.1 hP 0 (pre_at rfl) rfl 3 (by decide) (List.mem_of_getElem? (i := 4) rfl) rfl dL_build_49 ?_
        refine lv_iload F.1 F.2.1 dL_build_52 (lv_at hl 0 rfl) ?_
        refine q_iald (f := gaS S y 1) (v := y) F hK hP 1 (pre_at rfl) (show i < S 0 0 + 1 by omega) (show S 0 0 + 1 < 2 ^ 31 by omega) (by subst hS0; exact ga_rank S y) dL_build_54 ?_
        have ok_1 : rAddGate S (nI y) = (0, nI (S 0 0), (gaS S y)) := ok_addGate (by omega) (by omega) (by omega)
        refine x_tI (n := 1) (rest := []) (v := nI (S 0 0)) (w1 := (wCo cI a b (gaS S y) S0)) F (c_X3_addGate l D cI hst a b S S0 (nI y) hLI.1) (by rw [ok_1]; rfl) (by rw [ok_1]) (by rw [ok_1]) gL_build_X3_addGate rfl (by decide +kernel) ⟨Nat.le_of_ble_eq_true rfl, Nat.le_of_ble_eq_true rfl⟩ rfl hl.1 rfl (Nat.le_of_ble_eq_true rfl) dL_build_55 ⟨show ce + 1 + 2 ≤ 26530 by omega, show sl + 7 + 12 ≤ 132700 by omega⟩ hK hX hP hD hS ap_t rfl rfl ((wSi cI cA (updN z 1 q44) (gaS S y)) ++ (wCo cI a b (gaS S y) S0)) (congrArg _ (List.append_nil _)) (q0 := 0) (ci := 3) rfl rfl (fun H locs hP hD hS => ?_)
        refine lv_iload F.1 F.2.1 dL_build_58 (lv_at hl 0 rfl) ?_
        refine k_icmp_eq (tgt := 65) F (by omega) (by omega) dL_build_60 (by decide) (fun h60 => ?_) (fun h60 => absurd hS0 h60)
        refine k_inc (k := 0) (lv' := [(4, .int (nI (i + 1))), (3, .int (nI (1 + blw (celV xs L 1) 6))), (2, .ref (z 0)), (0, .ref (a 13)), (1, .ref x)]) F dL_build_65 hl rfl (by decide) rfl (fun ls hl => ?_)
        refine lv_goto (tgt := 24) F.1 F.2.1 dL_build_68 (by decide) ?_
        rw [hz9] at hl
        exact ih (i + 1) (by omega) (by omega) (ce + 1 + 2) (sl + 7 + 12) (by omega) (by omega) (updN z 1 q44) (gaS S y) hz9 (LI_ga hLI (by omega) (by omega) (by omega)) (by rw [← hS0]; rfl) hS1 hS2 hS3 H locs ls hP hD hS hl
  exact loop24 ((1 + blw (celV xs L 1) 6) + 1) 0 (by omega) (by omega) _ _ (by omega) (by omega) z0 S0 rfl LI_S0 rfl rfl rfl rfl H locs ls hP hD hS hl
