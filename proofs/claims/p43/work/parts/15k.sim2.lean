theorem nz_or (n : Nat) : n = 0 ∨ ∃ b, n = b + 1 := by
  cases n with
  | zero => exact Or.inl rfl
  | succ b => exact Or.inr ⟨b, rfl⟩
theorem nX4_pass_X4 : ∀ x ∈ wsX40, x ∈ wsX4_pass := fun _ h => List.mem_cons_of_mem _ (List.mem_append_right _ h)
set_option maxRecDepth 100000 in
set_option maxHeartbeats 4000000 in
theorem c_X4_pass (l : Launch) (D : va_G) (cI cA : ClassId) (z : Nat → Nat) (S : Nat → Nat → Nat) (hI : Inv S) : GV l yX4_pass wsX4_pass 2 8 32 48 D cI cA [.ref (z 0)] (wSi cI cA z S) (wSi cI cA z (beatS S)) := by
  intro sz
  refine q_bodyG (cc := cX4_pass) (maxL := 11) (ret := none) (by decide) rfl (Nat.le_of_ble_eq_true rfl) ?_
  intro p e s m args below meth c H ls hz F hr hlk hl hP hK hD hS
  have F : CallFix p m c cX4_pass 11 s args wsX4_pass RX4 := F
  have hl : lv_has ls 11 [(0, .ref (z 0))] := hl
  have hi0 := hI.gates
  have hi1 := hI.geese
  have hi2 := hI.guests
  refine lv_aload_n F.1 F.2.1 dX4_pass_0 rfl (lv_at hl 0 rfl) ?_
  refine k_get (v := .ref (z 2)) F nX4_pass_X4 hK.1.1 hP 0 rfl rfl 4 (by decide) (List.mem_of_getElem? (i := 1) rfl) rfl dX4_pass_1 ?_
  refine lv_astore_n (lv' := [(1, .ref (z 2)), (0, .ref (z 0))]) F.1 F.2.1 dX4_pass_4 rfl hl (by decide) rfl (fun ls hl => ?_)
  refine lv_aload_n F.1 F.2.1 dX4_pass_5 rfl (lv_at hl 0 rfl) ?_
  refine q_alenA F hK hP 2 rfl dX4_pass_6 ?_
  refine lv_istore_n (lv' := [(2, .int (nI (S 0 1))), (1, .ref (z 2)), (0, .ref (z 0))]) F.1 F.2.1 dX4_pass_7 rfl hl (by decide) rfl (fun ls hl => ?_)
  refine lv_iconst (v := nI 0) F.1 F.2.1 dX4_pass_8 (by decide) ?_
  refine lv_istore_n (lv' := [(3, .int (nI 0)), (2, .int (nI (S 0 1))), (1, .ref (z 2)), (0, .ref (z 0))]) F.1 F.2.1 dX4_pass_9 rfl hl (by decide) rfl (fun ls hl => ?_)
  have loop10 : ∀ (n : Nat) (i : Nat), i ≤ S 0 1 → S 0 1 + 1 ≤ i + n → ∀ (H : Heap) (locs : List Loc) (ls : Array Slot), va_P D vwCl (wSi cI cA z (setF S 4 (wakN S i))) H → va_D (va_A (wSi cI cA z S) sz) (wSi cI cA z (setF S 4 (wakN S i))) → va_S (va_A (wSi cI cA z S) sz) s.heap H locs → lv_has ls 11 [(0, .ref (z 0)), (1, .ref (z 2)), (2, .int (nI (S 0 1))), (3, .int (nI i))] → W p l e (rmG 2 8 32 48) s m args below meth c H locs (0) (0) (QGV below args s D 8 32 (wSi cI cA z S) sz (wSi cI cA z (beatS S))) (F0 m 10 ls []) := by
    intro n
    induction n with
    | zero => intro i hi hn; exact absurd hn (by omega)
    | succ n ih10 =>
      intro i hi hn  H locs ls hP hD hS hl
      refine lv_iload_n F.1 F.2.1 dX4_pass_10 rfl (lv_at hl 3 rfl) ?_
      refine lv_iload_n F.1 F.2.1 dX4_pass_11 rfl (lv_at hl 2 rfl) ?_
      refine k_icmp_ge (tgt := 41) F (by omega) (by omega) dX4_pass_12 (by decide) (fun h12 => ?_) (fun h12 => ?_)
      · skip
        refine lv_aload_n F.1 F.2.1 dX4_pass_41 rfl (lv_at hl 0 rfl) ?_
        refine k_get (v := .ref (z 3)) F nX4_pass_X4 hK.1.1 hP 0 rfl rfl 5 (by decide) (List.mem_of_getElem? (i := 2) rfl) rfl dX4_pass_42 ?_
        refine lv_astore_n (lv' := [(1, .ref (z 3)), (0, .ref (z 0)), (2, .int (nI (S 0 1))), (3, .int (nI i))]) F.1 F.2.1 dX4_pass_45 rfl hl (by decide) rfl (fun ls hl => ?_)
        refine lv_aload_n F.1 F.2.1 dX4_pass_46 rfl (lv_at hl 0 rfl) ?_
        refine q_alenA F hK hP 3 rfl dX4_pass_47 ?_
        refine lv_istore_n (lv' := [(2, .int (nI (S 0 2))), (1, .ref (z 3)), (0, .ref (z 0)), (3, .int (nI i))]) F.1 F.2.1 dX4_pass_48 rfl hl (by decide) rfl (fun ls hl => ?_)
        refine lv_iconst (v := nI 0) F.1 F.2.1 dX4_pass_49 (by decide) ?_
        refine lv_istore_n (lv' := [(3, .int (nI 0)), (2, .int (nI (S 0 2))), (1, .ref (z 3)), (0, .ref (z 0))]) F.1 F.2.1 dX4_pass_50 rfl hl (by decide) rfl (fun ls hl => ?_)
        have loop51 : ∀ (n : Nat) (i : Nat), i ≤ S 0 2 → S 0 2 + 1 ≤ i + n → ∀ (ce sl : Nat), ce ≤ i → sl ≤ 4 * i → ∀ (H : Heap) (locs : List Loc) (ls : Array Slot), va_P D vwCl (wSi cI cA z (movN (wakS S) i)) H → va_D (va_A (wSi cI cA z S) sz) (wSi cI cA z (movN (wakS S) i)) → va_S (va_A (wSi cI cA z S) sz) s.heap H locs → lv_has ls 11 [(0, .ref (z 0)), (1, .ref (z 3)), (2, .int (nI (S 0 2))), (3, .int (nI i))] → W p l e (rmG 2 8 32 48) s m args below meth c H locs (ce) (sl) (QGV below args s D 8 32 (wSi cI cA z S) sz (wSi cI cA z (beatS S))) (F0 m 51 ls []) := by
          intro n
          induction n with
          | zero => intro i hi hn; exact absurd hn (by omega)
          | succ n ih51 =>
            intro i hi hn  ce51 sl51 hce51 hsl51 H locs ls hP hD hS hl
            have hJ := inv_movN (inv_wakS hI) i
            have e0 : (movN (wakS S) i) 0 0 = S 0 0 := movN_sc (wakS S) 0 (by omega) i
            have e1 : (movN (wakS S) i) 0 1 = S 0 1 := movN_sc (wakS S) 1 (by omega) i
            have e2 : (movN (wakS S) i) 0 2 = S 0 2 := movN_sc (wakS S) 2 (by omega) i
            have hh9 := hisG_le hJ ((movN (wakS S) i) 7 i) ((movN (wakS S) i) 6 i)
            refine lv_iload_n F.1 F.2.1 dX4_pass_51 rfl (lv_at hl 3 rfl) ?_
            refine lv_iload_n F.1 F.2.1 dX4_pass_52 rfl (lv_at hl 2 rfl) ?_
            refine k_icmp_ge (tgt := 338) F (by omega) (by omega) dX4_pass_53 (by decide) (fun h53 => ?_) (fun h53 => ?_)
            · skip
              refine lv_aload_n F.1 F.2.1 dX4_pass_338 rfl (lv_at hl 0 rfl) ?_
              refine lv_dup F.1 F.2.1 dX4_pass_339 rfl ?_
              refine k_get (v := .int (nI ((movN (wakS S) i) 0 3))) F nX4_pass_X4 hK.1.1 hP 0 rfl rfl 0 (by decide) (List.mem_of_getElem? (i := 4) rfl) rfl dX4_pass_340 ?_
              refine lv_iconst (v := nI 1) F.1 F.2.1 dX4_pass_343 (by decide) ?_
              refine k_iadd F dX4_pass_344 ?_
              refine k_put F nX4_pass_X4 tyX4 tyX4_ok nmX4 hK.1.1 hP hD hS 0 rfl rfl 0 (by decide) (List.mem_of_getElem? (i := 4) rfl) rfl (by decide +kernel) (Nat.le_of_ble_eq_true rfl) dX4_pass_345 (wSi cI cA z (setf (movN (wakS S) i) 0 3 ((movN (wakS S) i) 0 3 + 1))) (wSi_s3 ((movN (wakS S) i) 0 3 + 1)) (fun H locs hP hD hS => ?_)
              exact k_retGV F hr hlk hP (by rw [show i = S 0 2 by omega]; rfl) hS hz (show ce51 ≤ 8 by omega) (show sl51 ≤ 32 by omega) dX4_pass_348
            · skip
              refine lv_aload_n F.1 F.2.1 dX4_pass_56 rfl (lv_at hl 1 rfl) ?_
              refine lv_iload_n F.1 F.2.1 dX4_pass_57 rfl (lv_at hl 3 rfl) ?_
              refine q_aald (v := z (12 + i)) F hK hP 3 rfl (show i < (movN (wakS S) i) 0 2 by omega) (show (movN (wakS S) i) 0 2 < 2 ^ 31 by omega) rfl dX4_pass_58 ?_
              refine lv_astore (lv' := [(4, .ref (z (12 + i))), (0, .ref (z 0)), (1, .ref (z 3)), (2, .int (nI (S 0 2))), (3, .int (nI i))]) F.1 F.2.1 dX4_pass_59 hl (by decide) rfl (fun ls hl => ?_)
              refine lv_aload_n F.1 F.2.1 dX4_pass_61 rfl (lv_at hl 1 rfl) ?_
              refine lv_aload F.1 F.2.1 dX4_pass_62 (lv_at hl 0 rfl) ?_
              refine q_pV (n := 1) (rest := []) (v := bI ((movN (wakS S) i) 0 0 ≤ (movN (wakS S) i) 7 i)) F (c_X4_isIn l D cI cA z (movN (wakS S) i) i hJ (by first | assumption | omega)) gX4_pass_X4_isIn rfl (by decide +kernel) ⟨Nat.le_of_ble_eq_true rfl, Nat.le_of_ble_eq_true rfl⟩ rfl hl.1 rfl (Nat.le_of_ble_eq_true rfl) dX4_pass_64 ⟨show ce51 ≤ 8 by omega, show sl51 ≤ 32 by omega⟩ hK hP hS ap_s (q0 := 0) (ci := 4) rfl rfl (fun H locs hP hS => ?_)
              refine k_ifeq_b (tgt := 73) F dX4_pass_67 (by decide) (fun h67 => ?_) (fun h67 => ?_)
              · skip
                refine lv_aload F.1 F.2.1 dX4_pass_73 (lv_at hl 0 rfl) ?_
                refine lv_iconst (v := nI 4) F.1 F.2.1 dX4_pass_75 (by decide) ?_
                refine q_iald (v := (movN (wakS S) i) 10 i) F hK hP (4 + (movN (wakS S) i) 0 1 + i) (wSi_v (show i < (movN (wakS S) i) 0 2 by omega)) (by decide) (by first | omega | decide) rfl dX4_pass_76 ?_
                have := hJ.back i
                refine k_if_le (tgt := 91) F (by omega) dX4_pass_77 (by decide) (fun h77 => ?_) (fun h77 => ?_)
                · skip
                  refine lv_aload_n F.1 F.2.1 dX4_pass_91 rfl (lv_at hl 1 rfl) ?_
                  refine lv_aload F.1 F.2.1 dX4_pass_92 (lv_at hl 0 rfl) ?_
                  refine q_pV (n := 1) (rest := []) (v := nI (hisG (movN (wakS S) i) ((movN (wakS S) i) 7 i) ((movN (wakS S) i) 6 i))) F (c_X4_hissAt l D cI cA z (movN (wakS S) i) i hJ (by first | assumption | omega)) gX4_pass_X4_hissAt rfl (by decide +kernel) ⟨Nat.le_of_ble_eq_true rfl, Nat.le_of_ble_eq_true rfl⟩ rfl hl.1 rfl (Nat.le_of_ble_eq_true rfl) dX4_pass_94 ⟨show ce51 ≤ 8 by omega, show sl51 ≤ 32 by omega⟩ hK hP hS ap_s (q0 := 0) (ci := 4) rfl rfl (fun H locs hP hS => ?_)
                  refine lv_istore (lv' := [(5, .int (nI (hisG (movN (wakS S) i) ((movN (wakS S) i) 7 i) ((movN (wakS S) i) 6 i)))), (4, .ref (z (12 + i))), (0, .ref (z 0)), (1, .ref (z 3)), (2, .int (nI (S 0 2))), (3, .int (nI i))]) F.1 F.2.1 dX4_pass_97 hl (by decide) rfl (fun ls hl => ?_)
                  refine lv_null F.1 F.2.1 dX4_pass_99 ?_
                  refine lv_astoreN (lv' := [(6, .null), (5, .int (nI (hisG (movN (wakS S) i) ((movN (wakS S) i) 7 i) ((movN (wakS S) i) 6 i)))), (4, .ref (z (12 + i))), (0, .ref (z 0)), (1, .ref (z 3)), (2, .int (nI (S 0 2))), (3, .int (nI i))]) F.1 F.2.1 dX4_pass_100 hl (by decide) rfl (fun ls hl => ?_)
                  refine lv_aload_n F.1 F.2.1 dX4_pass_102 rfl (lv_at hl 3 rfl) ?_
                  refine k_get (v := .ref (z 2)) F nX4_pass_X4 hK.1.1 hP 0 rfl rfl 4 (by decide) (List.mem_of_getElem? (i := 1) rfl) rfl dX4_pass_103 ?_
                  refine lv_astore (lv' := [(7, .ref (z 2)), (6, .null), (5, .int (nI (hisG (movN (wakS S) i) ((movN (wakS S) i) 7 i) ((movN (wakS S) i) 6 i)))), (4, .ref (z (12 + i))), (0, .ref (z 0)), (1, .ref (z 3)), (2, .int (nI (S 0 2))), (3, .int (nI i))]) F.1 F.2.1 dX4_pass_106 hl (by decide) rfl (fun ls hl => ?_)
                  refine lv_aload F.1 F.2.1 dX4_pass_108 (lv_at hl 0 rfl) ?_
                  refine q_alenA F hK hP 2 rfl dX4_pass_110 ?_
                  refine lv_istore (lv' := [(8, .int (nI ((movN (wakS S) i) 0 1))), (7, .ref (z 2)), (6, .null), (5, .int (nI (hisG (movN (wakS S) i) ((movN (wakS S) i) 7 i) ((movN (wakS S) i) 6 i)))), (4, .ref (z (12 + i))), (0, .ref (z 0)), (1, .ref (z 3)), (2, .int (nI (S 0 2))), (3, .int (nI i))]) F.1 F.2.1 dX4_pass_111 hl (by decide) rfl (fun ls hl => ?_)
                  refine lv_iconst (v := nI 0) F.1 F.2.1 dX4_pass_113 (by decide) ?_
                  refine lv_istore (lv' := [(9, .int (nI 0)), (8, .int (nI ((movN (wakS S) i) 0 1))), (7, .ref (z 2)), (6, .null), (5, .int (nI (hisG (movN (wakS S) i) ((movN (wakS S) i) 7 i) ((movN (wakS S) i) 6 i)))), (4, .ref (z (12 + i))), (0, .ref (z 0)), (1, .ref (z 3)), (2, .int (nI (S 0 2))), (3, .int (nI i))]) F.1 F.2.1 dX4_pass_114 hl (by decide) rfl (fun ls hl => ?_)
                  have loop116 : ∀ (n : Nat) (j : Nat), j ≤ S 0 1 → S 0 1 + 1 ≤ j + n → ∀ (H : Heap) (locs : List Loc) (ls : Array Slot), va_P D vwCl (wSi cI cA z (movN (wakS S) i)) H → va_D (va_A (wSi cI cA z S) sz) (wSi cI cA z (movN (wakS S) i)) → va_S (va_A (wSi cI cA z S) sz) s.heap H locs → lv_has ls 11 [(0, .ref (z 0)), (1, .ref (z 3)), (2, .int (nI (S 0 2))), (3, .int (nI i)), (4, .ref (z (12 + i))), (5, .int (nI (hisG (movN (wakS S) i) ((movN (wakS S) i) 7 i) ((movN (wakS S) i) 6 i)))), (6, va_rf (wrF z (frcN (movN (wakS S) i) ((movN (wakS S) i) 7 i) j).1)), (7, .ref (z 2)), (8, .int (nI (S 0 1))), (9, .int (nI j))] → W p l e (rmG 2 8 32 48) s m args below meth c H locs (ce51) (sl51) (QGV below args s D 8 32 (wSi cI cA z S) sz (wSi cI cA z (beatS S))) (F0 m 116 ls []) := by
                    intro n
                    induction n with
                    | zero => intro j hi hn; exact absurd hn (by omega)
                    | succ n ih116 =>
                      intro j hi hn  H locs ls hP hD hS hl
                      refine lv_iload F.1 F.2.1 dX4_pass_116 (lv_at hl 9 rfl) ?_
                      refine lv_iload F.1 F.2.1 dX4_pass_118 (lv_at hl 8 rfl) ?_
                      refine k_icmp_ge (tgt := 174) F (by omega) (by omega) dX4_pass_120 (by decide) (fun h120 => ?_) (fun h120 => ?_)
                      · skip
                        refine lv_iload F.1 F.2.1 dX4_pass_174 (lv_at hl 5 rfl) ?_
                        refine lv_aload F.1 F.2.1 dX4_pass_176 (lv_at hl 4 rfl) ?_
                        refine lv_iconst (v := nI 1) F.1 F.2.1 dX4_pass_178 (by decide) ?_
                        refine q_iald (v := (movN (wakS S) i) 9 i) F hK hP (4 + (movN (wakS S) i) 0 1 + i) (wSi_v (show i < (movN (wakS S) i) 0 2 by omega)) (by decide) (by first | omega | decide) rfl dX4_pass_179 ?_
                        have := hJ.brave i
                        refine k_icmp_gt (tgt := 263) F (by omega) (by omega) dX4_pass_180 (by decide) (fun h180 => ?_) (fun h180 => ?_)
                        · skip
                          refine lv_aload F.1 F.2.1 dX4_pass_263 (lv_at hl 4 rfl) ?_
                          refine lv_iconst (v := nI 2) F.1 F.2.1 dX4_pass_265 (by decide) ?_
                          refine q_iald (v := (movN (wakS S) i) 8 i) F hK hP (4 + (movN (wakS S) i) 0 1 + i) (wSi_v (show i < (movN (wakS S) i) 0 2 by omega)) (by decide) (by first | omega | decide) rfl dX4_pass_266 ?_
                          have := hJ.has i
                          refine k_if_le (tgt := 281) F (by omega) dX4_pass_267 (by decide) (fun h267 => ?_) (fun h267 => ?_)
                          · skip
                            refine lv_aload F.1 F.2.1 dX4_pass_281 (lv_at hl 4 rfl) ?_
                            refine lv_iconst (v := nI 4) F.1 F.2.1 dX4_pass_283 (by decide) ?_
                            refine lv_iload F.1 F.2.1 dX4_pass_284 (lv_at hl 5 rfl) ?_
                            refine x_gS (n := 1) (rest := [.int (nI 4), .ref (z (12 + i))]) (v := nI (grdN (hisG (movN (wakS S) i) ((movN (wakS S) i) 7 i) ((movN (wakS S) i) 6 i)))) F (c_X4_grade l D cI (hisG (movN (wakS S) i) ((movN (wakS S) i) 7 i) ((movN (wakS S) i) 6 i)) (by omega)) gX4_pass_X4_grade rfl (by decide +kernel) ⟨Nat.le_of_ble_eq_true rfl, Nat.le_of_ble_eq_true rfl⟩ rfl hl.1 rfl (Nat.le_of_ble_eq_true rfl) dX4_pass_286 ⟨show ce51 + 1 ≤ 8 by omega, show sl51 + 4 ≤ 32 by omega⟩ hK hP hS (fun q h => Or.inr (by omega)) (fun H locs hP hS => ?_)
                            refine q_iast (k := 4) (x := (grdN (hisG (movN (wakS S) i) ((movN (wakS S) i) 7 i) ((movN (wakS S) i) 6 i)))) F hK hP hD hS (4 + (movN (wakS S) i) 0 1 + i) (wSi_v (show i < (movN (wakS S) i) 0 2 by omega)) (by decide) (by first | omega | decide) dX4_pass_289 (wSi cI cA z (setf (movN (wakS S) i) 10 i (grdN (hisG (movN (wakS S) i) ((movN (wakS S) i) 7 i) ((movN (wakS S) i) 6 i))))) (wSi_sv 4 (grdN (hisG (movN (wakS S) i) ((movN (wakS S) i) 7 i) ((movN (wakS S) i) 6 i))) (show i < (movN (wakS S) i) 0 2 by omega) (by decide)) (fun H locs hP hD hS => ?_)
                            refine lv_aload F.1 F.2.1 dX4_pass_290 (lv_at hl 4 rfl) ?_
                            refine lv_iconst (v := nI 1) F.1 F.2.1 dX4_pass_292 (by decide) ?_
                            refine q_iald (v := (movN (wakS S) i) 9 i) F hK hP (4 + (movN (wakS S) i) 0 1 + i) (wSi_v (show i < (movN (wakS S) i) 0 2 by omega)) (by decide) (by first | omega | decide) rfl dX4_pass_293 ?_
                            have := hJ.brave i
                            refine lv_bipush (v := nI 20) F.1 F.2.1 dX4_pass_294 (by decide) ?_
                            refine k_icmp_ge (tgt := 307) F (by omega) (by omega) dX4_pass_296 (by decide) (fun h296 => ?_) (fun h296 => ?_)
                            · skip
                              refine lv_aload F.1 F.2.1 dX4_pass_307 (lv_at hl 4 rfl) ?_
                              refine lv_iconst (v := nI 3) F.1 F.2.1 dX4_pass_309 (by decide) ?_
                              refine q_iald (v := (movN (wakS S) i) 7 i) F hK hP (4 + (movN (wakS S) i) 0 1 + i) (wSi_v (show i < (movN (wakS S) i) 0 2 by omega)) (by decide) (by first | omega | decide) rfl dX4_pass_310 ?_
                              have := hJ.went i
                              refine k_if_le (tgt := 322) F (by omega) dX4_pass_311 (by decide) (fun h311 => ?_) (fun h311 => ?_)
                              · skip
                                refine lv_aload_n F.1 F.2.1 dX4_pass_322 rfl (lv_at hl 0 rfl) ?_
                                refine lv_dup F.1 F.2.1 dX4_pass_323 rfl ?_
                                refine k_get (v := .int (nI ((movN (wakS S) i) 0 5))) F nX4_pass_X4 hK.1.1 hP 0 rfl rfl 2 (by decide) (List.mem_of_getElem? (i := 3) rfl) rfl dX4_pass_324 ?_
                                refine lv_iconst (v := nI 1) F.1 F.2.1 dX4_pass_327 (by decide) ?_
                                refine k_iadd F dX4_pass_328 ?_
                                refine k_put F nX4_pass_X4 tyX4 tyX4_ok nmX4 hK.1.1 hP hD hS 0 rfl rfl 2 (by decide) (List.mem_of_getElem? (i := 3) rfl) rfl (by decide +kernel) (Nat.le_of_ble_eq_true rfl) dX4_pass_329 (wSi cI cA z (setf (setf (movN (wakS S) i) 10 i (grdN (hisG (movN (wakS S) i) ((movN (wakS S) i) 7 i) ((movN (wakS S) i) 6 i)))) 0 5 ((movN (wakS S) i) 0 5 + 1))) (wSi_s5 ((movN (wakS S) i) 0 5 + 1)) (fun H locs hP hD hS => ?_)
                                refine k_inc (k := 3) (lv' := [(3, .int (nI (i + 1))), (0, .ref (z 0)), (1, .ref (z 3)), (2, .int (nI (S 0 2))), (4, .ref (z (12 + i))), (5, .int (nI (hisG (movN (wakS S) i) ((movN (wakS S) i) 7 i) ((movN (wakS S) i) 6 i)))), (6, va_rf (wrF z (frcN (movN (wakS S) i) ((movN (wakS S) i) 7 i) j).1)), (7, .ref (z 2)), (8, .int (nI (S 0 1))), (9, .int (nI j))]) F dX4_pass_332 hl rfl (by decide) rfl (fun ls hl => ?_)
                                refine lv_goto (tgt := 51) F.1 F.2.1 dX4_pass_335 (by decide) ?_
                                have ew : (wSi cI cA z (setf (setf (movN (wakS S) i) 10 i (grdN (hisG (movN (wakS S) i) ((movN (wakS S) i) 7 i) ((movN (wakS S) i) 6 i)))) 0 5 ((movN (wakS S) i) 0 5 + 1))) = (wSi cI cA z (movN (wakS S) (i + 1))) := congrArg (wSi cI cA z) (Eq.trans (b := fallS (movN (wakS S) i) i (grdN (hisG (movN (wakS S) i) ((movN (wakS S) i) 7 i) ((movN (wakS S) i) 6 i)))) (by unfold fallS; rw [show min 20 ((movN (wakS S) i) 9 i + 1) = (movN (wakS S) i) 9 i by omega, setf_same (setf (movN (wakS S) i) 10 i (grdN (hisG (movN (wakS S) i) ((movN (wakS S) i) 7 i) ((movN (wakS S) i) 6 i)))) 9 i ((movN (wakS S) i) 9 i) rfl, show (movN (wakS S) i) 7 i - 1 = (movN (wakS S) i) 7 i by omega, setf_same (setf (movN (wakS S) i) 10 i (grdN (hisG (movN (wakS S) i) ((movN (wakS S) i) 7 i) ((movN (wakS S) i) 6 i)))) 7 i ((movN (wakS S) i) 7 i) rfl]) ((moveS_f (by omega) (by omega) (by omega)).trans (movN_n h67)))
                                have hP := P_eq ew hP
                                have hD := D_eq ew hD
                                exact ih51 (i + 1) (by omega) (by omega)  (ce51 + 1) (sl51 + 4) (by omega) (by omega) _ _ _ hP hD hS (lv_sub hl [1, 2, 3, 0] rfl)
                              · skip
                                refine lv_aload F.1 F.2.1 dX4_pass_314 (lv_at hl 4 rfl) ?_
                                refine lv_iconst (v := nI 3) F.1 F.2.1 dX4_pass_316 (by decide) ?_
                                refine lv_dup2_11 F.1 F.2.1 dX4_pass_317 rfl rfl ?_
                                refine q_iald (v := (movN (wakS S) i) 7 i) F hK hP (4 + (movN (wakS S) i) 0 1 + i) (wSi_v (show i < (movN (wakS S) i) 0 2 by omega)) (by decide) (by first | omega | decide) rfl dX4_pass_318 ?_
                                have := hJ.went i
                                refine lv_iconst (v := nI 1) F.1 F.2.1 dX4_pass_319 (by decide) ?_
                                refine k_isub F (by omega) dX4_pass_320 ?_
                                refine q_iast (k := 3) (x := ((movN (wakS S) i) 7 i - 1)) F hK hP hD hS (4 + (movN (wakS S) i) 0 1 + i) (wSi_v (show i < (movN (wakS S) i) 0 2 by omega)) (by decide) (by first | omega | decide) dX4_pass_321 (wSi cI cA z (setf (setf (movN (wakS S) i) 10 i (grdN (hisG (movN (wakS S) i) ((movN (wakS S) i) 7 i) ((movN (wakS S) i) 6 i)))) 7 i ((movN (wakS S) i) 7 i - 1))) (wSi_sv 3 ((movN (wakS S) i) 7 i - 1) (show i < (movN (wakS S) i) 0 2 by omega) (by decide)) (fun H locs hP hD hS => ?_)
                                refine lv_aload_n F.1 F.2.1 dX4_pass_322 rfl (lv_at hl 0 rfl) ?_
                                refine lv_dup F.1 F.2.1 dX4_pass_323 rfl ?_
                                refine k_get (v := .int (nI ((movN (wakS S) i) 0 5))) F nX4_pass_X4 hK.1.1 hP 0 rfl rfl 2 (by decide) (List.mem_of_getElem? (i := 3) rfl) rfl dX4_pass_324 ?_
                                refine lv_iconst (v := nI 1) F.1 F.2.1 dX4_pass_327 (by decide) ?_
                                refine k_iadd F dX4_pass_328 ?_
                                refine k_put F nX4_pass_X4 tyX4 tyX4_ok nmX4 hK.1.1 hP hD hS 0 rfl rfl 2 (by decide) (List.mem_of_getElem? (i := 3) rfl) rfl (by decide +kernel) (Nat.le_of_ble_eq_true rfl) dX4_pass_329 (wSi cI cA z (setf (setf (setf (movN (wakS S) i) 10 i (grdN (hisG (movN (wakS S) i) ((movN (wakS S) i) 7 i) ((movN (wakS S) i) 6 i)))) 7 i ((movN (wakS S) i) 7 i - 1)) 0 5 ((movN (wakS S) i) 0 5 + 1))) (wSi_s5 ((movN (wakS S) i) 0 5 + 1)) (fun H locs hP hD hS => ?_)
                                refine k_inc (k := 3) (lv' := [(3, .int (nI (i + 1))), (0, .ref (z 0)), (1, .ref (z 3)), (2, .int (nI (S 0 2))), (4, .ref (z (12 + i))), (5, .int (nI (hisG (movN (wakS S) i) ((movN (wakS S) i) 7 i) ((movN (wakS S) i) 6 i)))), (6, va_rf (wrF z (frcN (movN (wakS S) i) ((movN (wakS S) i) 7 i) j).1)), (7, .ref (z 2)), (8, .int (nI (S 0 1))), (9, .int (nI j))]) F dX4_pass_332 hl rfl (by decide) rfl (fun ls hl => ?_)
                                refine lv_goto (tgt := 51) F.1 F.2.1 dX4_pass_335 (by decide) ?_
                                have ew : (wSi cI cA z (setf (setf (setf (movN (wakS S) i) 10 i (grdN (hisG (movN (wakS S) i) ((movN (wakS S) i) 7 i) ((movN (wakS S) i) 6 i)))) 7 i ((movN (wakS S) i) 7 i - 1)) 0 5 ((movN (wakS S) i) 0 5 + 1))) = (wSi cI cA z (movN (wakS S) (i + 1))) := congrArg (wSi cI cA z) (Eq.trans (b := fallS (movN (wakS S) i) i (grdN (hisG (movN (wakS S) i) ((movN (wakS S) i) 7 i) ((movN (wakS S) i) 6 i)))) (by unfold fallS; rw [show min 20 ((movN (wakS S) i) 9 i + 1) = (movN (wakS S) i) 9 i by omega, setf_same (setf (movN (wakS S) i) 10 i (grdN (hisG (movN (wakS S) i) ((movN (wakS S) i) 7 i) ((movN (wakS S) i) 6 i)))) 9 i ((movN (wakS S) i) 9 i) rfl]) ((moveS_f (by omega) (by omega) (by omega)).trans (movN_n h67)))
                                have hP := P_eq ew hP
                                have hD := D_eq ew hD
                                exact ih51 (i + 1) (by omega) (by omega)  (ce51 + 1) (sl51 + 4) (by omega) (by omega) _ _ _ hP hD hS (lv_sub hl [1, 2, 3, 0] rfl)
                            · skip
                              refine lv_aload F.1 F.2.1 dX4_pass_299 (lv_at hl 4 rfl) ?_
                              refine lv_iconst (v := nI 1) F.1 F.2.1 dX4_pass_301 (by decide) ?_
                              refine lv_dup2_11 F.1 F.2.1 dX4_pass_302 rfl rfl ?_
                              refine q_iald (v := (movN (wakS S) i) 9 i) F hK hP (4 + (movN (wakS S) i) 0 1 + i) (wSi_v (show i < (movN (wakS S) i) 0 2 by omega)) (by decide) (by first | omega | decide) rfl dX4_pass_303 ?_
                              have := hJ.brave i
                              refine lv_iconst (v := nI 1) F.1 F.2.1 dX4_pass_304 (by decide) ?_
                              refine k_iadd F dX4_pass_305 ?_
                              refine q_iast (k := 1) (x := ((movN (wakS S) i) 9 i + 1)) F hK hP hD hS (4 + (movN (wakS S) i) 0 1 + i) (wSi_v (show i < (movN (wakS S) i) 0 2 by omega)) (by decide) (by first | omega | decide) dX4_pass_306 (wSi cI cA z (setf (setf (movN (wakS S) i) 10 i (grdN (hisG (movN (wakS S) i) ((movN (wakS S) i) 7 i) ((movN (wakS S) i) 6 i)))) 9 i ((movN (wakS S) i) 9 i + 1))) (wSi_sv 1 ((movN (wakS S) i) 9 i + 1) (show i < (movN (wakS S) i) 0 2 by omega) (by decide)) (fun H locs hP hD hS => ?_)
                              refine lv_aload F.1 F.2.1 dX4_pass_307 (lv_at hl 4 rfl) ?_
                              refine lv_iconst (v := nI 3) F.1 F.2.1 dX4_pass_309 (by decide) ?_
                              refine q_iald (v := (movN (wakS S) i) 7 i) F hK hP (4 + (movN (wakS S) i) 0 1 + i) (wSi_v (show i < (movN (wakS S) i) 0 2 by omega)) (by decide) (by first | omega | decide) rfl dX4_pass_310 ?_
                              have := hJ.went i
                              refine k_if_le (tgt := 322) F (by omega) dX4_pass_311 (by decide) (fun h311 => ?_) (fun h311 => ?_)
                              · skip
                                refine lv_aload_n F.1 F.2.1 dX4_pass_322 rfl (lv_at hl 0 rfl) ?_
                                refine lv_dup F.1 F.2.1 dX4_pass_323 rfl ?_
                                refine k_get (v := .int (nI ((movN (wakS S) i) 0 5))) F nX4_pass_X4 hK.1.1 hP 0 rfl rfl 2 (by decide) (List.mem_of_getElem? (i := 3) rfl) rfl dX4_pass_324 ?_
                                refine lv_iconst (v := nI 1) F.1 F.2.1 dX4_pass_327 (by decide) ?_
                                refine k_iadd F dX4_pass_328 ?_
                                refine k_put F nX4_pass_X4 tyX4 tyX4_ok nmX4 hK.1.1 hP hD hS 0 rfl rfl 2 (by decide) (List.mem_of_getElem? (i := 3) rfl) rfl (by decide +kernel) (Nat.le_of_ble_eq_true rfl) dX4_pass_329 (wSi cI cA z (setf (setf (setf (movN (wakS S) i) 10 i (grdN (hisG (movN (wakS S) i) ((movN (wakS S) i) 7 i) ((movN (wakS S) i) 6 i)))) 9 i ((movN (wakS S) i) 9 i + 1)) 0 5 ((movN (wakS S) i) 0 5 + 1))) (wSi_s5 ((movN (wakS S) i) 0 5 + 1)) (fun H locs hP hD hS => ?_)
                                refine k_inc (k := 3) (lv' := [(3, .int (nI (i + 1))), (0, .ref (z 0)), (1, .ref (z 3)), (2, .int (nI (S 0 2))), (4, .ref (z (12 + i))), (5, .int (nI (hisG (movN (wakS S) i) ((movN (wakS S) i) 7 i) ((movN (wakS S) i) 6 i)))), (6, va_rf (wrF z (frcN (movN (wakS S) i) ((movN (wakS S) i) 7 i) j).1)), (7, .ref (z 2)), (8, .int (nI (S 0 1))), (9, .int (nI j))]) F dX4_pass_332 hl rfl (by decide) rfl (fun ls hl => ?_)
                                refine lv_goto (tgt := 51) F.1 F.2.1 dX4_pass_335 (by decide) ?_
                                have ew : (wSi cI cA z (setf (setf (setf (movN (wakS S) i) 10 i (grdN (hisG (movN (wakS S) i) ((movN (wakS S) i) 7 i) ((movN (wakS S) i) 6 i)))) 9 i ((movN (wakS S) i) 9 i + 1)) 0 5 ((movN (wakS S) i) 0 5 + 1))) = (wSi cI cA z (movN (wakS S) (i + 1))) := congrArg (wSi cI cA z) (Eq.trans (b := fallS (movN (wakS S) i) i (grdN (hisG (movN (wakS S) i) ((movN (wakS S) i) 7 i) ((movN (wakS S) i) 6 i)))) (by unfold fallS; rw [show min 20 ((movN (wakS S) i) 9 i + 1) = (movN (wakS S) i) 9 i + 1 by omega, show (movN (wakS S) i) 7 i - 1 = (movN (wakS S) i) 7 i by omega, setf_same (setf (setf (movN (wakS S) i) 10 i (grdN (hisG (movN (wakS S) i) ((movN (wakS S) i) 7 i) ((movN (wakS S) i) 6 i)))) 9 i ((movN (wakS S) i) 9 i + 1)) 7 i ((movN (wakS S) i) 7 i) rfl]) ((moveS_f (by omega) (by omega) (by omega)).trans (movN_n h67)))
                                have hP := P_eq ew hP
                                have hD := D_eq ew hD
                                exact ih51 (i + 1) (by omega) (by omega)  (ce51 + 1) (sl51 + 4) (by omega) (by omega) _ _ _ hP hD hS (lv_sub hl [1, 2, 3, 0] rfl)
                              · skip
                                refine lv_aload F.1 F.2.1 dX4_pass_314 (lv_at hl 4 rfl) ?_
                                refine lv_iconst (v := nI 3) F.1 F.2.1 dX4_pass_316 (by decide) ?_
                                refine lv_dup2_11 F.1 F.2.1 dX4_pass_317 rfl rfl ?_
                                refine q_iald (v := (movN (wakS S) i) 7 i) F hK hP (4 + (movN (wakS S) i) 0 1 + i) (wSi_v (show i < (movN (wakS S) i) 0 2 by omega)) (by decide) (by first | omega | decide) rfl dX4_pass_318 ?_
                                have := hJ.went i
                                refine lv_iconst (v := nI 1) F.1 F.2.1 dX4_pass_319 (by decide) ?_
                                refine k_isub F (by omega) dX4_pass_320 ?_
                                refine q_iast (k := 3) (x := ((movN (wakS S) i) 7 i - 1)) F hK hP hD hS (4 + (movN (wakS S) i) 0 1 + i) (wSi_v (show i < (movN (wakS S) i) 0 2 by omega)) (by decide) (by first | omega | decide) dX4_pass_321 (wSi cI cA z (setf (setf (setf (movN (wakS S) i) 10 i (grdN (hisG (movN (wakS S) i) ((movN (wakS S) i) 7 i) ((movN (wakS S) i) 6 i)))) 9 i ((movN (wakS S) i) 9 i + 1)) 7 i ((movN (wakS S) i) 7 i - 1))) (wSi_sv 3 ((movN (wakS S) i) 7 i - 1) (show i < (movN (wakS S) i) 0 2 by omega) (by decide)) (fun H locs hP hD hS => ?_)
                                refine lv_aload_n F.1 F.2.1 dX4_pass_322 rfl (lv_at hl 0 rfl) ?_
                                refine lv_dup F.1 F.2.1 dX4_pass_323 rfl ?_
                                refine k_get (v := .int (nI ((movN (wakS S) i) 0 5))) F nX4_pass_X4 hK.1.1 hP 0 rfl rfl 2 (by decide) (List.mem_of_getElem? (i := 3) rfl) rfl dX4_pass_324 ?_
                                refine lv_iconst (v := nI 1) F.1 F.2.1 dX4_pass_327 (by decide) ?_
                                refine k_iadd F dX4_pass_328 ?_
                                refine k_put F nX4_pass_X4 tyX4 tyX4_ok nmX4 hK.1.1 hP hD hS 0 rfl rfl 2 (by decide) (List.mem_of_getElem? (i := 3) rfl) rfl (by decide +kernel) (Nat.le_of_ble_eq_true rfl) dX4_pass_329 (wSi cI cA z (setf (setf (setf (setf (movN (wakS S) i) 10 i (grdN (hisG (movN (wakS S) i) ((movN (wakS S) i) 7 i) ((movN (wakS S) i) 6 i)))) 9 i ((movN (wakS S) i) 9 i + 1)) 7 i ((movN (wakS S) i) 7 i - 1)) 0 5 ((movN (wakS S) i) 0 5 + 1))) (wSi_s5 ((movN (wakS S) i) 0 5 + 1)) (fun H locs hP hD hS => ?_)
                                refine k_inc (k := 3) (lv' := [(3, .int (nI (i + 1))), (0, .ref (z 0)), (1, .ref (z 3)), (2, .int (nI (S 0 2))), (4, .ref (z (12 + i))), (5, .int (nI (hisG (movN (wakS S) i) ((movN (wakS S) i) 7 i) ((movN (wakS S) i) 6 i)))), (6, va_rf (wrF z (frcN (movN (wakS S) i) ((movN (wakS S) i) 7 i) j).1)), (7, .ref (z 2)), (8, .int (nI (S 0 1))), (9, .int (nI j))]) F dX4_pass_332 hl rfl (by decide) rfl (fun ls hl => ?_)
                                refine lv_goto (tgt := 51) F.1 F.2.1 dX4_pass_335 (by decide) ?_
                                have ew : (wSi cI cA z (setf (setf (setf (setf (movN (wakS S) i) 10 i (grdN (hisG (movN (wakS S) i) ((movN (wakS S) i) 7 i) ((movN (wakS S) i) 6 i)))) 9 i ((movN (wakS S) i) 9 i + 1)) 7 i ((movN (wakS S) i) 7 i - 1)) 0 5 ((movN (wakS S) i) 0 5 + 1))) = (wSi cI cA z (movN (wakS S) (i + 1))) := congrArg (wSi cI cA z) (Eq.trans (b := fallS (movN (wakS S) i) i (grdN (hisG (movN (wakS S) i) ((movN (wakS S) i) 7 i) ((movN (wakS S) i) 6 i)))) (by unfold fallS; rw [show min 20 ((movN (wakS S) i) 9 i + 1) = (movN (wakS S) i) 9 i + 1 by omega]) ((moveS_f (by omega) (by omega) (by omega)).trans (movN_n h67)))
                                have hP := P_eq ew hP
                                have hD := D_eq ew hD
                                exact ih51 (i + 1) (by omega) (by omega)  (ce51 + 1) (sl51 + 4) (by omega) (by omega) _ _ _ hP hD hS (lv_sub hl [1, 2, 3, 0] rfl)
                          · skip
                            have ej : j = (movN (wakS S) i) 0 1 := by omega
                            subst ej
                            obtain ⟨k, hk1, hk2, hk3, hk4⟩ := frc_get hJ (t := (movN (wakS S) i) 7 i) (r := (movN (wakS S) i) 6 i) (by omega)
                            have hk5 := hJ.mood1 k hk2
                            rw [wrF_s hk1] at hl
                            refine lv_aload_n F.1 F.2.1 dX4_pass_270 rfl (lv_at hl 0 rfl) ?_
                            refine lv_aload F.1 F.2.1 dX4_pass_271 (lv_at hl 4 rfl) ?_
                            refine lv_aload F.1 F.2.1 dX4_pass_273 (lv_at hl 6 rfl) ?_
                            refine q_gV (n := 2) (rest := []) F (c_X4_feed l D cI cA z (movN (wakS S) i) i k hJ (by first | assumption | omega) (by first | assumption | omega) (by first | assumption | omega) (by first | assumption | omega)) gX4_pass_X4_feed rfl (by decide +kernel) ⟨Nat.le_of_ble_eq_true rfl, Nat.le_of_ble_eq_true rfl⟩ rfl hl.1 rfl (Nat.le_of_ble_eq_true rfl) dX4_pass_275 ⟨show ce51 ≤ 8 by omega, show sl51 ≤ 32 by omega⟩ hK hP hD hS (fun q h => Or.inr (by omega)) ap_s (wSi_ad rfl rfl) (wSi_lneq rfl rfl) (wSi cI cA z (payS (movN (wakS S) i) i k)) (List.append_nil _) (q0 := 0) (ci := 4) rfl rfl (fun H locs hP hD hS => ?_)
                            refine lv_goto (tgt := 332) F.1 F.2.1 dX4_pass_278 (by decide) ?_
                            refine k_inc (k := 3) (lv' := [(3, .int (nI (i + 1))), (0, .ref (z 0)), (1, .ref (z 3)), (2, .int (nI (S 0 2))), (4, .ref (z (12 + i))), (5, .int (nI (hisG (movN (wakS S) i) ((movN (wakS S) i) 7 i) ((movN (wakS S) i) 6 i)))), (6, .ref (z (4 + k))), (7, .ref (z 2)), (8, .int (nI (S 0 1))), (9, .int (nI ((movN (wakS S) i) 0 1)))]) F dX4_pass_332 hl rfl (by decide) rfl (fun ls hl => ?_)
                            refine lv_goto (tgt := 51) F.1 F.2.1 dX4_pass_335 (by decide) ?_
                            have ew : (wSi cI cA z (payS (movN (wakS S) i) i k)) = (wSi cI cA z (movN (wakS S) (i + 1))) := congrArg (wSi cI cA z) ((moveS_p (by omega) (by omega) (by omega) hk1).trans (movN_n h67))
                            have hP := P_eq ew hP
                            have hD := D_eq ew hD
                            exact ih51 (i + 1) (by omega) (by omega)  (ce51 + 0) (sl51 + 0) (by omega) (by omega) _ _ _ hP hD hS (lv_sub hl [1, 2, 3, 0] rfl)
                        · skip
                          have hl : lv_has ls 11 [(0, .ref (z 0)), (1, .ref (z 3)), (2, .int (nI (S 0 2))), (3, .int (nI i)), (4, .ref (z (12 + i))), (5, .int (nI (hisG (movN (wakS S) i) ((movN (wakS S) i) 7 i) ((movN (wakS S) i) 6 i)))), (7, .ref (z 2)), (8, .int (nI (S 0 1))), (9, .int (nI j))] := lv_sub hl [0, 1, 2, 3, 4, 5, 7, 8, 9] rfl
                          refine lv_aload_n F.1 F.2.1 dX4_pass_183 rfl (lv_at hl 0 rfl) ?_
                          refine k_get (v := .ref (z 2)) F nX4_pass_X4 hK.1.1 hP 0 rfl rfl 4 (by decide) (List.mem_of_getElem? (i := 1) rfl) rfl dX4_pass_184 ?_
                          refine lv_astore (lv' := [(7, .ref (z 2)), (0, .ref (z 0)), (1, .ref (z 3)), (2, .int (nI (S 0 2))), (3, .int (nI i)), (4, .ref (z (12 + i))), (5, .int (nI (hisG (movN (wakS S) i) ((movN (wakS S) i) 7 i) ((movN (wakS S) i) 6 i)))), (8, .int (nI (S 0 1))), (9, .int (nI j))]) F.1 F.2.1 dX4_pass_187 hl (by decide) rfl (fun ls hl => ?_)
                          refine lv_aload F.1 F.2.1 dX4_pass_189 (lv_at hl 0 rfl) ?_
                          refine q_alenA F hK hP 2 rfl dX4_pass_191 ?_
                          refine lv_istore (lv' := [(8, .int (nI ((movN (wakS S) i) 0 1))), (7, .ref (z 2)), (0, .ref (z 0)), (1, .ref (z 3)), (2, .int (nI (S 0 2))), (3, .int (nI i)), (4, .ref (z (12 + i))), (5, .int (nI (hisG (movN (wakS S) i) ((movN (wakS S) i) 7 i) ((movN (wakS S) i) 6 i)))), (9, .int (nI j))]) F.1 F.2.1 dX4_pass_192 hl (by decide) rfl (fun ls hl => ?_)
                          refine lv_iconst (v := nI 0) F.1 F.2.1 dX4_pass_194 (by decide) ?_
                          refine lv_istore (lv' := [(9, .int (nI 0)), (8, .int (nI ((movN (wakS S) i) 0 1))), (7, .ref (z 2)), (0, .ref (z 0)), (1, .ref (z 3)), (2, .int (nI (S 0 2))), (3, .int (nI i)), (4, .ref (z (12 + i))), (5, .int (nI (hisG (movN (wakS S) i) ((movN (wakS S) i) 7 i) ((movN (wakS S) i) 6 i))))]) F.1 F.2.1 dX4_pass_195 hl (by decide) rfl (fun ls hl => ?_)
                          have loop197 : ∀ (n : Nat) (q : Nat), q ≤ S 0 1 → S 0 1 + 1 ≤ q + n → ∀ (H : Heap) (locs : List Loc) (ls : Array Slot), va_P D vwCl (wSi cI cA z (setF (movN (wakS S) i) 3 (enrN (movN (wakS S) i) ((movN (wakS S) i) 7 i) q))) H → va_D (va_A (wSi cI cA z S) sz) (wSi cI cA z (setF (movN (wakS S) i) 3 (enrN (movN (wakS S) i) ((movN (wakS S) i) 7 i) q))) → va_S (va_A (wSi cI cA z S) sz) s.heap H locs → lv_has ls 11 [(0, .ref (z 0)), (1, .ref (z 3)), (2, .int (nI (S 0 2))), (3, .int (nI i)), (4, .ref (z (12 + i))), (7, .ref (z 2)), (8, .int (nI (S 0 1))), (9, .int (nI q))] → W p l e (rmG 2 8 32 48) s m args below meth c H locs (ce51) (sl51) (QGV below args s D 8 32 (wSi cI cA z S) sz (wSi cI cA z (beatS S))) (F0 m 197 ls []) := by
                            intro n
                            induction n with
                            | zero => intro q hi hn; exact absurd hn (by omega)
                            | succ n ih197 =>
                              intro q hi hn  H locs ls hP hD hS hl
                              refine lv_iload F.1 F.2.1 dX4_pass_197 (lv_at hl 7 rfl) ?_
                              refine lv_iload F.1 F.2.1 dX4_pass_199 (lv_at hl 6 rfl) ?_
                              refine k_icmp_ge (tgt := 252) F (by omega) (by omega) dX4_pass_201 (by decide) (fun h201 => ?_) (fun h201 => ?_)
                              · skip
                                refine lv_aload F.1 F.2.1 dX4_pass_252 (lv_at hl 4 rfl) ?_
                                refine lv_iconst (v := nI 3) F.1 F.2.1 dX4_pass_254 (by decide) ?_
                                refine lv_dup2_11 F.1 F.2.1 dX4_pass_255 rfl rfl ?_
                                refine q_iald (v := (movN (wakS S) i) 7 i) F hK hP (4 + (movN (wakS S) i) 0 1 + i) (wSi_v (show i < (movN (wakS S) i) 0 2 by omega)) (by decide) (by first | omega | decide) rfl dX4_pass_256 ?_
                                have := hJ.went i
                                refine lv_iconst (v := nI 1) F.1 F.2.1 dX4_pass_257 (by decide) ?_
                                refine k_iadd F dX4_pass_258 ?_
                                refine q_iast (k := 3) (x := ((movN (wakS S) i) 7 i + 1)) F hK hP hD hS (4 + (movN (wakS S) i) 0 1 + i) (wSi_v (show i < (movN (wakS S) i) 0 2 by omega)) (by decide) (by first | omega | decide) dX4_pass_259 (wSi cI cA z (setf (setF (movN (wakS S) i) 3 (enrN (movN (wakS S) i) ((movN (wakS S) i) 7 i) q)) 7 i ((movN (wakS S) i) 7 i + 1))) (wSi_sv 3 ((movN (wakS S) i) 7 i + 1) (show i < (movN (wakS S) i) 0 2 by omega) (by decide)) (fun H locs hP hD hS => ?_)
                                refine lv_goto (tgt := 332) F.1 F.2.1 dX4_pass_260 (by decide) ?_
                                refine k_inc (k := 3) (lv' := [(3, .int (nI (i + 1))), (0, .ref (z 0)), (1, .ref (z 3)), (2, .int (nI (S 0 2))), (4, .ref (z (12 + i))), (7, .ref (z 2)), (8, .int (nI (S 0 1))), (9, .int (nI q))]) F dX4_pass_332 hl rfl (by decide) rfl (fun ls hl => ?_)
                                refine lv_goto (tgt := 51) F.1 F.2.1 dX4_pass_335 (by decide) ?_
                                have ew : (wSi cI cA z (setf (setF (movN (wakS S) i) 3 (enrN (movN (wakS S) i) ((movN (wakS S) i) 7 i) q)) 7 i ((movN (wakS S) i) 7 i + 1))) = (wSi cI cA z (movN (wakS S) (i + 1))) := congrArg (wSi cI cA z) (by rw [show q = (movN (wakS S) i) 0 1 by omega, goS_c]; exact (moveS_d (by omega) (by omega)).trans (movN_n h67))
                                have hP := P_eq ew hP
                                have hD := D_eq ew hD
                                exact ih51 (i + 1) (by omega) (by omega)  (ce51) (sl51) (by omega) (by omega) _ _ _ hP hD hS (lv_sub hl [1, 2, 3, 0] rfl)
                              · skip
                                refine lv_aload F.1 F.2.1 dX4_pass_204 (lv_at hl 5 rfl) ?_
                                refine lv_iload F.1 F.2.1 dX4_pass_206 (lv_at hl 7 rfl) ?_
                                refine q_aald (v := z (4 + q)) F hK hP 2 rfl (show q < (movN (wakS S) i) 0 1 by omega) (show (movN (wakS S) i) 0 1 < 2 ^ 31 by omega) rfl dX4_pass_208 ?_
                                refine lv_astore (lv' := [(10, .ref (z (4 + q))), (0, .ref (z 0)), (1, .ref (z 3)), (2, .int (nI (S 0 2))), (3, .int (nI i)), (4, .ref (z (12 + i))), (7, .ref (z 2)), (8, .int (nI (S 0 1))), (9, .int (nI q))]) F.1 F.2.1 dX4_pass_209 hl (by decide) rfl (fun ls hl => ?_)
                                refine lv_aload F.1 F.2.1 dX4_pass_211 (lv_at hl 0 rfl) ?_
                                refine lv_iconst (v := nI 0) F.1 F.2.1 dX4_pass_213 (by decide) ?_
                                refine q_iald (v := (movN (wakS S) i) 2 q) F hK hP (4 + q) (wSi_g (show q < (movN (wakS S) i) 0 1 by omega)) (by decide) (by first | omega | decide) rfl dX4_pass_214 ?_
                                have := hJ.keep q
                                refine lv_aload F.1 F.2.1 dX4_pass_215 (lv_at hl 5 rfl) ?_
                                refine lv_iconst (v := nI 3) F.1 F.2.1 dX4_pass_217 (by decide) ?_
                                refine q_iald (v := (movN (wakS S) i) 7 i) F hK hP (4 + (movN (wakS S) i) 0 1 + i) (wSi_v (show i < (movN (wakS S) i) 0 2 by omega)) (by decide) (by first | omega | decide) rfl dX4_pass_218 ?_
                                have := hJ.went i
                                refine k_icmp_ne (tgt := 246) F (by omega) (by omega) dX4_pass_219 (by decide) (fun h219 => ?_) (fun h219 => ?_)
                                · skip
                                  refine k_inc (k := 8) (lv' := [(9, .int (nI (q + 1))), (10, .ref (z (4 + q))), (0, .ref (z 0)), (1, .ref (z 3)), (2, .int (nI (S 0 2))), (3, .int (nI i)), (4, .ref (z (12 + i))), (7, .ref (z 2)), (8, .int (nI (S 0 1)))]) F dX4_pass_246 hl rfl (by decide) rfl (fun ls hl => ?_)
                                  refine lv_goto (tgt := 197) F.1 F.2.1 dX4_pass_249 (by decide) ?_
                                  have ew : (wSi cI cA z (setF (movN (wakS S) i) 3 (enrN (movN (wakS S) i) ((movN (wakS S) i) 7 i) q))) = (wSi cI cA z (setF (movN (wakS S) i) 3 (enrN (movN (wakS S) i) ((movN (wakS S) i) 7 i) (q + 1)))) := by rw [enrN_n (fun x => h219 x.1)]
                                  have hP := P_eq ew hP
                                  have hD := D_eq ew hD
                                  exact ih197 (q + 1) (by omega) (by omega)  _ _ _ hP hD hS (lv_sub hl [2, 3, 4, 5, 6, 7, 8, 0] rfl)
                                · skip
                                  refine lv_aload F.1 F.2.1 dX4_pass_222 (lv_at hl 0 rfl) ?_
                                  refine lv_iconst (v := nI 2) F.1 F.2.1 dX4_pass_224 (by decide) ?_
                                  refine q_iald (v := (movN (wakS S) i) 4 q) F hK hP (4 + q) (wSi_g (show q < (movN (wakS S) i) 0 1 by omega)) (by decide) (by first | omega | decide) rfl dX4_pass_225 ?_
                                  have := hJ.rest q
                                  refine k_if_ne (tgt := 246) F (by omega) dX4_pass_226 (by decide) (fun h226 => ?_) (fun h226 => ?_)
                                  · skip
                                    refine k_inc (k := 8) (lv' := [(9, .int (nI (q + 1))), (10, .ref (z (4 + q))), (0, .ref (z 0)), (1, .ref (z 3)), (2, .int (nI (S 0 2))), (3, .int (nI i)), (4, .ref (z (12 + i))), (7, .ref (z 2)), (8, .int (nI (S 0 1)))]) F dX4_pass_246 hl rfl (by decide) rfl (fun ls hl => ?_)
                                    refine lv_goto (tgt := 197) F.1 F.2.1 dX4_pass_249 (by decide) ?_
                                    have ew : (wSi cI cA z (setF (movN (wakS S) i) 3 (enrN (movN (wakS S) i) ((movN (wakS S) i) 7 i) q))) = (wSi cI cA z (setF (movN (wakS S) i) 3 (enrN (movN (wakS S) i) ((movN (wakS S) i) 7 i) (q + 1)))) := by rw [enrN_n (fun x => h226 x.2)]
                                    have hP := P_eq ew hP
                                    have hD := D_eq ew hD
                                    exact ih197 (q + 1) (by omega) (by omega)  _ _ _ hP hD hS (lv_sub hl [2, 3, 4, 5, 6, 7, 8, 0] rfl)
                                  · skip
                                    refine lv_aload F.1 F.2.1 dX4_pass_229 (lv_at hl 0 rfl) ?_
                                    refine lv_iconst (v := nI 1) F.1 F.2.1 dX4_pass_231 (by decide) ?_
                                    refine q_iald (v := (enrN (movN (wakS S) i) ((movN (wakS S) i) 7 i) q) q) F hK hP (4 + q) (wSi_g (show q < (movN (wakS S) i) 0 1 by omega)) (by decide) (by first | omega | decide) rfl dX4_pass_232 ?_
                                    have hv9 : (enrN (movN (wakS S) i) ((movN (wakS S) i) 7 i) q) q = (movN (wakS S) i) 3 q ∧ (movN (wakS S) i) 3 q ≤ 9 := ⟨enrN_at _ _ _, hJ.mood q⟩
                                    refine lv_bipush (v := nI 9) F.1 F.2.1 dX4_pass_233 (by decide) ?_
                                    refine k_icmp_ge (tgt := 246) F (by omega) (by omega) dX4_pass_235 (by decide) (fun h235 => ?_) (fun h235 => ?_)
                                    · skip
                                      refine k_inc (k := 8) (lv' := [(9, .int (nI (q + 1))), (10, .ref (z (4 + q))), (0, .ref (z 0)), (1, .ref (z 3)), (2, .int (nI (S 0 2))), (3, .int (nI i)), (4, .ref (z (12 + i))), (7, .ref (z 2)), (8, .int (nI (S 0 1)))]) F dX4_pass_246 hl rfl (by decide) rfl (fun ls hl => ?_)
                                      refine lv_goto (tgt := 197) F.1 F.2.1 dX4_pass_249 (by decide) ?_
                                      have ew : (wSi cI cA z (setF (movN (wakS S) i) 3 (enrN (movN (wakS S) i) ((movN (wakS S) i) 7 i) q))) = (wSi cI cA z (setF (movN (wakS S) i) 3 (enrN (movN (wakS S) i) ((movN (wakS S) i) 7 i) (q + 1)))) := by rw [enrN_9 ⟨h219, h226⟩ (by omega)]
                                      have hP := P_eq ew hP
                                      have hD := D_eq ew hD
                                      exact ih197 (q + 1) (by omega) (by omega)  _ _ _ hP hD hS (lv_sub hl [2, 3, 4, 5, 6, 7, 8, 0] rfl)
                                    · skip
                                      refine lv_aload F.1 F.2.1 dX4_pass_238 (lv_at hl 0 rfl) ?_
                                      refine lv_iconst (v := nI 1) F.1 F.2.1 dX4_pass_240 (by decide) ?_
                                      refine lv_dup2_11 F.1 F.2.1 dX4_pass_241 rfl rfl ?_
                                      refine q_iald (v := (enrN (movN (wakS S) i) ((movN (wakS S) i) 7 i) q) q) F hK hP (4 + q) (wSi_g (show q < (movN (wakS S) i) 0 1 by omega)) (by decide) (by first | omega | decide) rfl dX4_pass_242 ?_
                                      have hv9 : (enrN (movN (wakS S) i) ((movN (wakS S) i) 7 i) q) q = (movN (wakS S) i) 3 q ∧ (movN (wakS S) i) 3 q ≤ 9 := ⟨enrN_at _ _ _, hJ.mood q⟩
                                      refine lv_iconst (v := nI 1) F.1 F.2.1 dX4_pass_243 (by decide) ?_
                                      refine k_iadd F dX4_pass_244 ?_
                                      refine q_iast (k := 1) (x := ((enrN (movN (wakS S) i) ((movN (wakS S) i) 7 i) q) q + 1)) F hK hP hD hS (4 + q) (wSi_g (show q < (movN (wakS S) i) 0 1 by omega)) (by decide) (by first | omega | decide) dX4_pass_245 (wSi cI cA z (setf (setF (movN (wakS S) i) 3 (enrN (movN (wakS S) i) ((movN (wakS S) i) 7 i) q)) 3 q ((enrN (movN (wakS S) i) ((movN (wakS S) i) 7 i) q) q + 1))) (wSi_sg 1 ((enrN (movN (wakS S) i) ((movN (wakS S) i) 7 i) q) q + 1) (show q < (movN (wakS S) i) 0 1 by omega) (by decide)) (fun H locs hP hD hS => ?_)
                                      refine k_inc (k := 8) (lv' := [(9, .int (nI (q + 1))), (10, .ref (z (4 + q))), (0, .ref (z 0)), (1, .ref (z 3)), (2, .int (nI (S 0 2))), (3, .int (nI i)), (4, .ref (z (12 + i))), (7, .ref (z 2)), (8, .int (nI (S 0 1)))]) F dX4_pass_246 hl rfl (by decide) rfl (fun ls hl => ?_)
                                      refine lv_goto (tgt := 197) F.1 F.2.1 dX4_pass_249 (by decide) ?_
                                      have ew : (wSi cI cA z (setf (setF (movN (wakS S) i) 3 (enrN (movN (wakS S) i) ((movN (wakS S) i) 7 i) q)) 3 q ((enrN (movN (wakS S) i) ((movN (wakS S) i) 7 i) q) q + 1))) = (wSi cI cA z (setF (movN (wakS S) i) 3 (enrN (movN (wakS S) i) ((movN (wakS S) i) 7 i) (q + 1)))) := by rw [enrN_at, show (movN (wakS S) i) 3 q + 1 = min 9 ((movN (wakS S) i) 3 q + 1) by omega, enrN_y ⟨h219, h226⟩]
                                      have hP := P_eq ew hP
                                      have hD := D_eq ew hD
                                      exact ih197 (q + 1) (by omega) (by omega)  _ _ _ hP hD hS (lv_sub hl [2, 3, 4, 5, 6, 7, 8, 0] rfl)
                          have e_1 : (movN (wakS S) i) 0 1 = S 0 1 := by first | rfl | omega | (simp [*]; done)
                          rw [e_1] at hl
                          have ew : (wSi cI cA z (movN (wakS S) i)) = (wSi cI cA z (setF (movN (wakS S) i) 3 (enrN (movN (wakS S) i) ((movN (wakS S) i) 7 i) 0))) := by rw [enrN_0]
                          have hP := P_eq ew hP
                          have hD := D_eq ew hD
                          exact loop197 ((S 0 1) + 1) 0 (by omega) (by omega)  _ _ _ hP hD hS (lv_sub hl [3, 4, 5, 6, 7, 2, 1, 0] rfl)
                      · skip
                        refine lv_aload F.1 F.2.1 dX4_pass_123 (lv_at hl 7 rfl) ?_
                        refine lv_iload F.1 F.2.1 dX4_pass_125 (lv_at hl 9 rfl) ?_
                        refine q_aald (v := z (4 + j)) F hK hP 2 rfl (show j < (movN (wakS S) i) 0 1 by omega) (show (movN (wakS S) i) 0 1 < 2 ^ 31 by omega) rfl dX4_pass_127 ?_
                        refine lv_astore (lv' := [(10, .ref (z (4 + j))), (0, .ref (z 0)), (1, .ref (z 3)), (2, .int (nI (S 0 2))), (3, .int (nI i)), (4, .ref (z (12 + i))), (5, .int (nI (hisG (movN (wakS S) i) ((movN (wakS S) i) 7 i) ((movN (wakS S) i) 6 i)))), (6, va_rf (wrF z (frcN (movN (wakS S) i) ((movN (wakS S) i) 7 i) j).1)), (7, .ref (z 2)), (8, .int (nI (S 0 1))), (9, .int (nI j))]) F.1 F.2.1 dX4_pass_128 hl (by decide) rfl (fun ls hl => ?_)
                        refine lv_aload F.1 F.2.1 dX4_pass_130 (lv_at hl 0 rfl) ?_
                        refine lv_iconst (v := nI 0) F.1 F.2.1 dX4_pass_132 (by decide) ?_
                        refine q_iald (v := (movN (wakS S) i) 2 j) F hK hP (4 + j) (wSi_g (show j < (movN (wakS S) i) 0 1 by omega)) (by decide) (by first | omega | decide) rfl dX4_pass_133 ?_
                        have := hJ.keep j
                        refine lv_aload F.1 F.2.1 dX4_pass_134 (lv_at hl 5 rfl) ?_
                        refine lv_iconst (v := nI 3) F.1 F.2.1 dX4_pass_136 (by decide) ?_
                        refine q_iald (v := (movN (wakS S) i) 7 i) F hK hP (4 + (movN (wakS S) i) 0 1 + i) (wSi_v (show i < (movN (wakS S) i) 0 2 by omega)) (by decide) (by first | omega | decide) rfl dX4_pass_137 ?_
                        have := hJ.went i
                        refine k_icmp_ne (tgt := 168) F (by omega) (by omega) dX4_pass_138 (by decide) (fun h138 => ?_) (fun h138 => ?_)
                        · skip
                          refine k_inc (k := 10) (lv' := [(9, .int (nI (j + 1))), (10, .ref (z (4 + j))), (0, .ref (z 0)), (1, .ref (z 3)), (2, .int (nI (S 0 2))), (3, .int (nI i)), (4, .ref (z (12 + i))), (5, .int (nI (hisG (movN (wakS S) i) ((movN (wakS S) i) 7 i) ((movN (wakS S) i) 6 i)))), (6, va_rf (wrF z (frcN (movN (wakS S) i) ((movN (wakS S) i) 7 i) j).1)), (7, .ref (z 2)), (8, .int (nI (S 0 1)))]) F dX4_pass_168 hl rfl (by decide) rfl (fun ls hl => ?_)
                          refine lv_goto (tgt := 116) F.1 F.2.1 dX4_pass_171 (by decide) ?_
                          have e_2 : (va_rf (wrF z (frcN (movN (wakS S) i) ((movN (wakS S) i) 7 i) j).1) : Value) = va_rf (wrF z (frcN (movN (wakS S) i) ((movN (wakS S) i) 7 i) (j + 1)).1) := by rw [(show (frcN (movN (wakS S) i) ((movN (wakS S) i) 7 i) (j + 1)) = if awk (movN (wakS S) i) j ((movN (wakS S) i) 7 i) ∧ (frcN (movN (wakS S) i) ((movN (wakS S) i) 7 i) j).2 < (movN (wakS S) i) 3 j then (j + 1, (movN (wakS S) i) 3 j) else (frcN (movN (wakS S) i) ((movN (wakS S) i) 7 i) j) from rfl), if_neg (fun x => h138 x.1.1)]
                          rw [e_2] at hl
                          exact ih116 (j + 1) (by omega) (by omega)  _ _ _ hP hD hS (lv_sub hl [2, 3, 4, 5, 6, 7, 8, 9, 10, 0] rfl)
                        · skip
                          refine lv_aload F.1 F.2.1 dX4_pass_141 (lv_at hl 0 rfl) ?_
                          refine lv_iconst (v := nI 2) F.1 F.2.1 dX4_pass_143 (by decide) ?_
                          refine q_iald (v := (movN (wakS S) i) 4 j) F hK hP (4 + j) (wSi_g (show j < (movN (wakS S) i) 0 1 by omega)) (by decide) (by first | omega | decide) rfl dX4_pass_144 ?_
                          have := hJ.rest j
                          refine k_if_ne (tgt := 168) F (by omega) dX4_pass_145 (by decide) (fun h145 => ?_) (fun h145 => ?_)
                          · skip
                            refine k_inc (k := 10) (lv' := [(9, .int (nI (j + 1))), (10, .ref (z (4 + j))), (0, .ref (z 0)), (1, .ref (z 3)), (2, .int (nI (S 0 2))), (3, .int (nI i)), (4, .ref (z (12 + i))), (5, .int (nI (hisG (movN (wakS S) i) ((movN (wakS S) i) 7 i) ((movN (wakS S) i) 6 i)))), (6, va_rf (wrF z (frcN (movN (wakS S) i) ((movN (wakS S) i) 7 i) j).1)), (7, .ref (z 2)), (8, .int (nI (S 0 1)))]) F dX4_pass_168 hl rfl (by decide) rfl (fun ls hl => ?_)
                            refine lv_goto (tgt := 116) F.1 F.2.1 dX4_pass_171 (by decide) ?_
                            have e_3 : (va_rf (wrF z (frcN (movN (wakS S) i) ((movN (wakS S) i) 7 i) j).1) : Value) = va_rf (wrF z (frcN (movN (wakS S) i) ((movN (wakS S) i) 7 i) (j + 1)).1) := by rw [(show (frcN (movN (wakS S) i) ((movN (wakS S) i) 7 i) (j + 1)) = if awk (movN (wakS S) i) j ((movN (wakS S) i) 7 i) ∧ (frcN (movN (wakS S) i) ((movN (wakS S) i) 7 i) j).2 < (movN (wakS S) i) 3 j then (j + 1, (movN (wakS S) i) 3 j) else (frcN (movN (wakS S) i) ((movN (wakS S) i) 7 i) j) from rfl), if_neg (fun x => h145 x.1.2)]
                            rw [e_3] at hl
                            exact ih116 (j + 1) (by omega) (by omega)  _ _ _ hP hD hS (lv_sub hl [2, 3, 4, 5, 6, 7, 8, 9, 10, 0] rfl)
                          · skip
                            have hm9 := hJ.mood1 j (by omega)
                            rcases nz_or (frcN (movN (wakS S) i) ((movN (wakS S) i) 7 i) j).1 with hb9 | ⟨b9, hb9⟩
                            · skip
                              rw [wrF_0 hb9] at hl
                              refine lv_aloadN F.1 F.2.1 dX4_pass_148 (lv_at hl 7 rfl) ?_
                              refine lv_ifnullN (tgt := 164) F.1 F.2.1 dX4_pass_150 (by decide) ?_
                              refine lv_aload F.1 F.2.1 dX4_pass_164 (lv_at hl 0 rfl) ?_
                              refine lv_astore (lv' := [(6, .ref (z (4 + j))), (10, .ref (z (4 + j))), (0, .ref (z 0)), (1, .ref (z 3)), (2, .int (nI (S 0 2))), (3, .int (nI i)), (4, .ref (z (12 + i))), (5, .int (nI (hisG (movN (wakS S) i) ((movN (wakS S) i) 7 i) ((movN (wakS S) i) 6 i)))), (7, .ref (z 2)), (8, .int (nI (S 0 1))), (9, .int (nI j))]) F.1 F.2.1 dX4_pass_166 hl (by decide) rfl (fun ls hl => ?_)
                              refine k_inc (k := 10) (lv' := [(9, .int (nI (j + 1))), (6, .ref (z (4 + j))), (10, .ref (z (4 + j))), (0, .ref (z 0)), (1, .ref (z 3)), (2, .int (nI (S 0 2))), (3, .int (nI i)), (4, .ref (z (12 + i))), (5, .int (nI (hisG (movN (wakS S) i) ((movN (wakS S) i) 7 i) ((movN (wakS S) i) 6 i)))), (7, .ref (z 2)), (8, .int (nI (S 0 1)))]) F dX4_pass_168 hl rfl (by decide) rfl (fun ls hl => ?_)
                              refine lv_goto (tgt := 116) F.1 F.2.1 dX4_pass_171 (by decide) ?_
                              have e_4 : (.ref (z (4 + j)) : Value) = va_rf (wrF z (frcN (movN (wakS S) i) ((movN (wakS S) i) 7 i) (j + 1)).1) := by rw [(show (frcN (movN (wakS S) i) ((movN (wakS S) i) 7 i) (j + 1)) = if awk (movN (wakS S) i) j ((movN (wakS S) i) 7 i) ∧ (frcN (movN (wakS S) i) ((movN (wakS S) i) 7 i) j).2 < (movN (wakS S) i) 3 j then (j + 1, (movN (wakS S) i) 3 j) else (frcN (movN (wakS S) i) ((movN (wakS S) i) 7 i) j) from rfl), if_pos ⟨⟨h138, h145⟩, by have := (frc_val (movN (wakS S) i) ((movN (wakS S) i) 7 i) j).2 hb9; omega⟩]; exact (wrF_s rfl).symm
                              rw [e_4] at hl
                              exact ih116 (j + 1) (by omega) (by omega)  _ _ _ hP hD hS (lv_sub hl [3, 4, 5, 6, 7, 8, 1, 9, 10, 0] rfl)
                            · skip
                              rw [wrF_s hb9] at hl
                              obtain ⟨hf1, hf2, hf3⟩ := (frc_val (movN (wakS S) i) ((movN (wakS S) i) 7 i) j).1 b9 hb9
                              refine lv_aload F.1 F.2.1 dX4_pass_148 (lv_at hl 7 rfl) ?_
                              refine lv_ifnull F.1 F.2.1 dX4_pass_150 ?_
                              refine lv_aload F.1 F.2.1 dX4_pass_153 (lv_at hl 0 rfl) ?_
                              refine lv_iconst (v := nI 1) F.1 F.2.1 dX4_pass_155 (by decide) ?_
                              refine q_iald (v := (movN (wakS S) i) 3 j) F hK hP (4 + j) (wSi_g (show j < (movN (wakS S) i) 0 1 by omega)) (by decide) (by first | omega | decide) rfl dX4_pass_156 ?_
                              have := hJ.mood j
                              refine lv_aload F.1 F.2.1 dX4_pass_157 (lv_at hl 7 rfl) ?_
                              refine lv_iconst (v := nI 1) F.1 F.2.1 dX4_pass_159 (by decide) ?_
                              refine q_iald (v := (movN (wakS S) i) 3 b9) F hK hP (4 + b9) (wSi_g (show b9 < (movN (wakS S) i) 0 1 by omega)) (by decide) (by first | omega | decide) rfl dX4_pass_160 ?_
                              have := hJ.mood b9
                              refine k_icmp_le (tgt := 168) F (by omega) (by omega) dX4_pass_161 (by decide) (fun h161 => ?_) (fun h161 => ?_)
                              · skip
                                refine k_inc (k := 10) (lv' := [(9, .int (nI (j + 1))), (10, .ref (z (4 + j))), (0, .ref (z 0)), (1, .ref (z 3)), (2, .int (nI (S 0 2))), (3, .int (nI i)), (4, .ref (z (12 + i))), (5, .int (nI (hisG (movN (wakS S) i) ((movN (wakS S) i) 7 i) ((movN (wakS S) i) 6 i)))), (6, .ref (z (4 + b9))), (7, .ref (z 2)), (8, .int (nI (S 0 1)))]) F dX4_pass_168 hl rfl (by decide) rfl (fun ls hl => ?_)
                                refine lv_goto (tgt := 116) F.1 F.2.1 dX4_pass_171 (by decide) ?_
                                have e_5 : (.ref (z (4 + b9)) : Value) = va_rf (wrF z (frcN (movN (wakS S) i) ((movN (wakS S) i) 7 i) (j + 1)).1) := by rw [(show (frcN (movN (wakS S) i) ((movN (wakS S) i) 7 i) (j + 1)) = if awk (movN (wakS S) i) j ((movN (wakS S) i) 7 i) ∧ (frcN (movN (wakS S) i) ((movN (wakS S) i) 7 i) j).2 < (movN (wakS S) i) 3 j then (j + 1, (movN (wakS S) i) 3 j) else (frcN (movN (wakS S) i) ((movN (wakS S) i) 7 i) j) from rfl), if_neg (fun x => by have := x.2; omega)]; exact (wrF_s hb9).symm
                                rw [e_5] at hl
                                exact ih116 (j + 1) (by omega) (by omega)  _ _ _ hP hD hS (lv_sub hl [2, 3, 4, 5, 6, 7, 8, 9, 10, 0] rfl)
                              · skip
                                refine lv_aload F.1 F.2.1 dX4_pass_164 (lv_at hl 0 rfl) ?_
                                refine lv_astore (lv' := [(6, .ref (z (4 + j))), (10, .ref (z (4 + j))), (0, .ref (z 0)), (1, .ref (z 3)), (2, .int (nI (S 0 2))), (3, .int (nI i)), (4, .ref (z (12 + i))), (5, .int (nI (hisG (movN (wakS S) i) ((movN (wakS S) i) 7 i) ((movN (wakS S) i) 6 i)))), (7, .ref (z 2)), (8, .int (nI (S 0 1))), (9, .int (nI j))]) F.1 F.2.1 dX4_pass_166 hl (by decide) rfl (fun ls hl => ?_)
                                refine k_inc (k := 10) (lv' := [(9, .int (nI (j + 1))), (6, .ref (z (4 + j))), (10, .ref (z (4 + j))), (0, .ref (z 0)), (1, .ref (z 3)), (2, .int (nI (S 0 2))), (3, .int (nI i)), (4, .ref (z (12 + i))), (5, .int (nI (hisG (movN (wakS S) i) ((movN (wakS S) i) 7 i) ((movN (wakS S) i) 6 i)))), (7, .ref (z 2)), (8, .int (nI (S 0 1)))]) F dX4_pass_168 hl rfl (by decide) rfl (fun ls hl => ?_)
                                refine lv_goto (tgt := 116) F.1 F.2.1 dX4_pass_171 (by decide) ?_
                                have e_6 : (.ref (z (4 + j)) : Value) = va_rf (wrF z (frcN (movN (wakS S) i) ((movN (wakS S) i) 7 i) (j + 1)).1) := by rw [(show (frcN (movN (wakS S) i) ((movN (wakS S) i) 7 i) (j + 1)) = if awk (movN (wakS S) i) j ((movN (wakS S) i) 7 i) ∧ (frcN (movN (wakS S) i) ((movN (wakS S) i) 7 i) j).2 < (movN (wakS S) i) 3 j then (j + 1, (movN (wakS S) i) 3 j) else (frcN (movN (wakS S) i) ((movN (wakS S) i) 7 i) j) from rfl), if_pos ⟨⟨h138, h145⟩, by omega⟩]; exact (wrF_s rfl).symm
                                rw [e_6] at hl
                                exact ih116 (j + 1) (by omega) (by omega)  _ _ _ hP hD hS (lv_sub hl [3, 4, 5, 6, 7, 8, 1, 9, 10, 0] rfl)
                  have e_7 : (.null : Value) = va_rf (wrF z (frcN (movN (wakS S) i) ((movN (wakS S) i) 7 i) 0).1) := rfl
                  rw [e_7] at hl
                  have e_8 : (movN (wakS S) i) 0 1 = S 0 1 := by first | rfl | omega
                  rw [e_8] at hl
                  exact loop116 ((S 0 1) + 1) 0 (by omega) (by omega)  _ _ _ hP hD hS (lv_sub hl [6, 7, 8, 9, 5, 4, 3, 2, 1, 0] rfl)
                · skip
                  refine lv_aload F.1 F.2.1 dX4_pass_80 (lv_at hl 0 rfl) ?_
                  refine lv_iconst (v := nI 4) F.1 F.2.1 dX4_pass_82 (by decide) ?_
                  refine lv_dup2_11 F.1 F.2.1 dX4_pass_83 rfl rfl ?_
                  refine q_iald (v := (movN (wakS S) i) 10 i) F hK hP (4 + (movN (wakS S) i) 0 1 + i) (wSi_v (show i < (movN (wakS S) i) 0 2 by omega)) (by decide) (by first | omega | decide) rfl dX4_pass_84 ?_
                  have := hJ.back i
                  refine lv_iconst (v := nI 1) F.1 F.2.1 dX4_pass_85 (by decide) ?_
                  refine k_isub F (by omega) dX4_pass_86 ?_
                  refine q_iast (k := 4) (x := ((movN (wakS S) i) 10 i - 1)) F hK hP hD hS (4 + (movN (wakS S) i) 0 1 + i) (wSi_v (show i < (movN (wakS S) i) 0 2 by omega)) (by decide) (by first | omega | decide) dX4_pass_87 (wSi cI cA z (setf (movN (wakS S) i) 10 i ((movN (wakS S) i) 10 i - 1))) (wSi_sv 4 ((movN (wakS S) i) 10 i - 1) (show i < (movN (wakS S) i) 0 2 by omega) (by decide)) (fun H locs hP hD hS => ?_)
                  refine lv_goto (tgt := 332) F.1 F.2.1 dX4_pass_88 (by decide) ?_
                  refine k_inc (k := 4) (lv' := [(3, .int (nI (i + 1))), (4, .ref (z (12 + i))), (0, .ref (z 0)), (1, .ref (z 3)), (2, .int (nI (S 0 2)))]) F dX4_pass_332 hl rfl (by decide) rfl (fun ls hl => ?_)
                  refine lv_goto (tgt := 51) F.1 F.2.1 dX4_pass_335 (by decide) ?_
                  have ew : (wSi cI cA z (setf (movN (wakS S) i) 10 i ((movN (wakS S) i) 10 i - 1))) = (wSi cI cA z (movN (wakS S) (i + 1))) := congrArg (wSi cI cA z) ((moveS_r h77).trans (movN_n h67))
                  have hP := P_eq ew hP
                  have hD := D_eq ew hD
                  exact ih51 (i + 1) (by omega) (by omega)  (ce51) (sl51) (by omega) (by omega) _ _ _ hP hD hS (lv_sub hl [2, 3, 4, 0] rfl)
              · skip
                refine lv_goto (tgt := 332) F.1 F.2.1 dX4_pass_70 (by decide) ?_
                refine k_inc (k := 4) (lv' := [(3, .int (nI (i + 1))), (4, .ref (z (12 + i))), (0, .ref (z 0)), (1, .ref (z 3)), (2, .int (nI (S 0 2)))]) F dX4_pass_332 hl rfl (by decide) rfl (fun ls hl => ?_)
                refine lv_goto (tgt := 51) F.1 F.2.1 dX4_pass_335 (by decide) ?_
                have ew : (wSi cI cA z (movN (wakS S) i)) = (wSi cI cA z (movN (wakS S) (i + 1))) := congrArg (wSi cI cA z) (movN_y h67)
                have hP := P_eq ew hP
                have hD := D_eq ew hD
                exact ih51 (i + 1) (by omega) (by omega)  (ce51) (sl51) (by omega) (by omega) _ _ _ hP hD hS (lv_sub hl [2, 3, 4, 0] rfl)
        have ew : (wSi cI cA z (setF S 4 (wakN S i))) = (wSi cI cA z (movN (wakS S) 0)) := by rw [show i = S 0 1 by omega]; rfl
        have hP := P_eq ew hP
        have hD := D_eq ew hD
        exact loop51 ((S 0 2) + 1) 0 (by omega) (by omega)  (0) (0) (by omega) (by omega) _ _ _ hP hD hS (lv_sub hl [3, 2, 1, 0] rfl)
      · skip
        refine lv_aload_n F.1 F.2.1 dX4_pass_15 rfl (lv_at hl 1 rfl) ?_
        refine lv_iload_n F.1 F.2.1 dX4_pass_16 rfl (lv_at hl 3 rfl) ?_
        refine q_aald (v := z (4 + i)) F hK hP 2 rfl (show i < S 0 1 by omega) (show S 0 1 < 2 ^ 31 by omega) rfl dX4_pass_17 ?_
        refine lv_astore (lv' := [(4, .ref (z (4 + i))), (0, .ref (z 0)), (1, .ref (z 2)), (2, .int (nI (S 0 1))), (3, .int (nI i))]) F.1 F.2.1 dX4_pass_18 hl (by decide) rfl (fun ls hl => ?_)
        refine lv_aload F.1 F.2.1 dX4_pass_20 (lv_at hl 0 rfl) ?_
        refine lv_iconst (v := nI 2) F.1 F.2.1 dX4_pass_22 (by decide) ?_
        refine q_iald (v := (wakN S i) i) F hK hP (4 + i) (wSi_g (show i < S 0 1 by omega)) (by decide) (by first | omega | decide) rfl dX4_pass_23 ?_
        have hv9 : (wakN S i) i ≤ 3 := by rw [wakN_at]; exact hI.rest i
        refine k_if_le (tgt := 35) F (by omega) dX4_pass_24 (by decide) (fun h24 => ?_) (fun h24 => ?_)
        · skip
          refine k_inc (k := 4) (lv' := [(3, .int (nI (i + 1))), (4, .ref (z (4 + i))), (0, .ref (z 0)), (1, .ref (z 2)), (2, .int (nI (S 0 1)))]) F dX4_pass_35 hl rfl (by decide) rfl (fun ls hl => ?_)
          refine lv_goto (tgt := 10) F.1 F.2.1 dX4_pass_38 (by decide) ?_
          have ew : (wSi cI cA z (setF S 4 (wakN S i))) = (wSi cI cA z (setF S 4 (wakN S (i + 1)))) := by first | rw [wakN_0] | rw [wakN_at, wakN_y] | rw [wakN_n ((wakN_at S i).symm.trans h24)]
          have hP := P_eq ew hP
          have hD := D_eq ew hD
          exact ih10 (i + 1) (by omega) (by omega)  _ _ _ hP hD hS (lv_sub hl [2, 3, 4, 0] rfl)
        · skip
          refine lv_aload F.1 F.2.1 dX4_pass_27 (lv_at hl 0 rfl) ?_
          refine lv_iconst (v := nI 2) F.1 F.2.1 dX4_pass_29 (by decide) ?_
          refine lv_dup2_11 F.1 F.2.1 dX4_pass_30 rfl rfl ?_
          refine q_iald (v := (wakN S i) i) F hK hP (4 + i) (wSi_g (show i < S 0 1 by omega)) (by decide) (by first | omega | decide) rfl dX4_pass_31 ?_
          have hv9 : (wakN S i) i ≤ 3 := by rw [wakN_at]; exact hI.rest i
          refine lv_iconst (v := nI 1) F.1 F.2.1 dX4_pass_32 (by decide) ?_
          refine k_isub F (by omega) dX4_pass_33 ?_
          refine q_iast (k := 2) (x := ((wakN S i) i - 1)) F hK hP hD hS (4 + i) (wSi_g (show i < S 0 1 by omega)) (by decide) (by first | omega | decide) dX4_pass_34 (wSi cI cA z (setf (setF S 4 (wakN S i)) 4 i ((wakN S i) i - 1))) (wSi_sg 2 ((wakN S i) i - 1) (show i < S 0 1 by omega) (by decide)) (fun H locs hP hD hS => ?_)
          refine k_inc (k := 4) (lv' := [(3, .int (nI (i + 1))), (4, .ref (z (4 + i))), (0, .ref (z 0)), (1, .ref (z 2)), (2, .int (nI (S 0 1)))]) F dX4_pass_35 hl rfl (by decide) rfl (fun ls hl => ?_)
          refine lv_goto (tgt := 10) F.1 F.2.1 dX4_pass_38 (by decide) ?_
          have ew : (wSi cI cA z (setf (setF S 4 (wakN S i)) 4 i ((wakN S i) i - 1))) = (wSi cI cA z (setF S 4 (wakN S (i + 1)))) := by first | rw [wakN_0] | rw [wakN_at, wakN_y] | rw [wakN_n ((wakN_at S i).symm.trans h24)]
          have hP := P_eq ew hP
          have hD := D_eq ew hD
          exact ih10 (i + 1) (by omega) (by omega)  _ _ _ hP hD hS (lv_sub hl [2, 3, 4, 0] rfl)
  have ew : (wSi cI cA z S) = (wSi cI cA z (setF S 4 (wakN S 0))) := by first | rw [wakN_0] | rw [wakN_at, wakN_y] | rw [wakN_n ((wakN_at S i).symm.trans h24)]
  have hP := P_eq ew hP
  have hD := D_eq ew hD
  exact loop10 ((S 0 1) + 1) 0 (by omega) (by omega)  _ _ _ hP hD hS (lv_sub hl [3, 2, 1, 0] rfl)
set_option maxRecDepth 100000 in
set_option maxHeartbeats 4000000 in
theorem c_X4_behind (l : Launch) (D : va_G) (cI cA : ClassId) (z : Nat → Nat) (S : Nat → Nat → Nat) (b : Nat) (hI : Inv S) (hb : b ≤ 60) : GS l yX4_behind wsX4_behind 3 480 1920 78 D cI cA [.ref (z 0), .int (nI b)] (wSi cI cA z S) (wSi cI cA z (beatsN S b)) (cameI S b) := by
  intro sz
  refine q_bodyG (cc := cX4_behind) (maxL := 4) (ret := (some .int)) (by decide) rfl (Nat.le_of_ble_eq_true rfl) ?_
  intro p e s m args below meth c H ls hz F hr hlk hl hP hK hD hS
  have F : CallFix p m c cX4_behind 4 s args wsX4_behind RX4 := F
  have hl : lv_has ls 4 [(0, .ref (z 0)), (1, .int (nI b))] := hl
  have hi0 := hI.gates
  have hi1 := hI.geese
  have hi2 := hI.guests
  refine lv_aload_n F.1 F.2.1 dX4_behind_0 rfl (lv_at hl 0 rfl) ?_
  refine q_pV (n := 0) (rest := []) (v := nI (inN S (S 0 2))) F (c_X4_inFarm l D cI cA z S (by first | exact hI | exact inv_beatsN hI _)) gX4_behind_X4_inFarm rfl (by decide +kernel) ⟨Nat.le_of_ble_eq_true rfl, Nat.le_of_ble_eq_true rfl⟩ rfl hl.1 rfl (Nat.le_of_ble_eq_true rfl) dX4_behind_1 ⟨show 0 ≤ 480 by omega, show 0 ≤ 1920 by omega⟩ hK hP hS ap_s (q0 := 0) (ci := 4) rfl rfl (fun H locs hP hS => ?_)
  refine lv_istore_n (lv' := [(2, .int (nI (inN S (S 0 2)))), (0, .ref (z 0)), (1, .int (nI b))]) F.1 F.2.1 dX4_behind_4 rfl hl (by decide) rfl (fun ls hl => ?_)
  refine lv_iconst (v := nI 0) F.1 F.2.1 dX4_behind_5 (by decide) ?_
  refine lv_istore_n (lv' := [(3, .int (nI 0)), (2, .int (nI (inN S (S 0 2)))), (0, .ref (z 0)), (1, .int (nI b))]) F.1 F.2.1 dX4_behind_6 rfl hl (by decide) rfl (fun ls hl => ?_)
  have loop7 : ∀ (n : Nat) (i : Nat), i ≤ b → b + 1 ≤ i + n → ∀ (ce sl : Nat), ce ≤ 8 * i → sl ≤ 32 * i → ∀ (H : Heap) (locs : List Loc) (ls : Array Slot), va_P D vwCl (wSi cI cA z (beatsN S i)) H → va_D (va_A (wSi cI cA z S) sz) (wSi cI cA z (beatsN S i)) → va_S (va_A (wSi cI cA z S) sz) s.heap H locs → lv_has ls 4 [(0, .ref (z 0)), (1, .int (nI b)), (2, .int (nI (inN S (S 0 2)))), (3, .int (nI i))] → W p l e (rmG 3 480 1920 78) s m args below meth c H locs (ce) (sl) (QGI below args s D 480 1920 (wSi cI cA z S) sz (wSi cI cA z (beatsN S b)) (cameI S b)) (F0 m 7 ls []) := by
    intro n
    induction n with
    | zero => intro i hi hn; exact absurd hn (by omega)
    | succ n ih7 =>
      intro i hi hn  ce7 sl7 hce7 hsl7 H locs ls hP hD hS hl
      refine lv_iload_n F.1 F.2.1 dX4_behind_7 rfl (lv_at hl 3 rfl) ?_
      refine lv_iload_n F.1 F.2.1 dX4_behind_8 rfl (lv_at hl 1 rfl) ?_
      refine k_icmp_ge (tgt := 22) F (by omega) (by omega) dX4_behind_9 (by decide) (fun h9 => ?_) (fun h9 => ?_)
      · skip
        refine lv_aload_n F.1 F.2.1 dX4_behind_22 rfl (lv_at hl 0 rfl) ?_
        refine q_pV (n := 0) (rest := []) (v := nI (inN (beatsN S i) ((beatsN S i) 0 2))) F (c_X4_inFarm l D cI cA z (beatsN S i) (by first | exact hI | exact inv_beatsN hI _)) gX4_behind_X4_inFarm rfl (by decide +kernel) ⟨Nat.le_of_ble_eq_true rfl, Nat.le_of_ble_eq_true rfl⟩ rfl hl.1 rfl (Nat.le_of_ble_eq_true rfl) dX4_behind_23 ⟨show ce7 ≤ 480 by omega, show sl7 ≤ 1920 by omega⟩ hK hP hS ap_s (q0 := 0) (ci := 4) rfl rfl (fun H locs hP hS => ?_)
        refine lv_iload_n F.1 F.2.1 dX4_behind_26 rfl (lv_at hl 2 rfl) ?_
        refine lv_isub F.1 F.2.1 dX4_behind_27 ?_
        exact k_retGI F hr hlk hP (by rw [show i = b by omega]) hS hz (by rw [show i = b by omega]; rfl) rfl (show ce7 ≤ 480 by omega) (show sl7 ≤ 1920 by omega) dX4_behind_28
      · skip
        refine lv_aload_n F.1 F.2.1 dX4_behind_12 rfl (lv_at hl 0 rfl) ?_
        refine q_gV (n := 0) (rest := []) F (c_X4_pass l D cI cA z (beatsN S i) (inv_beatsN hI i)) gX4_behind_X4_pass rfl (by decide +kernel) ⟨Nat.le_of_ble_eq_true rfl, Nat.le_of_ble_eq_true rfl⟩ rfl hl.1 rfl (Nat.le_of_ble_eq_true rfl) dX4_behind_13 ⟨show ce7 + 8 ≤ 480 by omega, show sl7 + 32 ≤ 1920 by omega⟩ hK hP hD hS (fun q h => Or.inr (by omega)) ap_s (wSi_ad (beatS_sc _ 1 (by omega)) (beatS_sc _ 2 (by omega))) (wSi_lneq (beatS_sc _ 1 (by omega)) (beatS_sc _ 2 (by omega))) (wSi cI cA z (beatS (beatsN S i))) (List.append_nil _) (q0 := 0) (ci := 4) rfl rfl (fun H locs hP hD hS => ?_)
        refine k_inc (k := 3) (lv' := [(3, .int (nI (i + 1))), (0, .ref (z 0)), (1, .int (nI b)), (2, .int (nI (inN S (S 0 2))))]) F dX4_behind_16 hl rfl (by decide) rfl (fun ls hl => ?_)
        refine lv_goto (tgt := 7) F.1 F.2.1 dX4_behind_19 (by decide) ?_
        have ew : (wSi cI cA z (beatS (beatsN S i))) = (wSi cI cA z (beatsN S (i + 1))) := rfl
        have hP := P_eq ew hP
        have hD := D_eq ew hD
        exact ih7 (i + 1) (by omega) (by omega)  (ce7 + 8) (sl7 + 32) (by omega) (by omega) _ _ _ hP hD hS (lv_sub hl [1, 2, 3, 0] rfl)
  have ew : (wSi cI cA z S) = (wSi cI cA z (beatsN S 0)) := rfl
  have hP := P_eq ew hP
  have hD := D_eq ew hD
  exact loop7 (b + 1) 0 (by omega) (by omega)  (0) (0) (by omega) (by omega) _ _ _ hP hD hS (lv_sub hl [2, 3, 1, 0] rfl)
