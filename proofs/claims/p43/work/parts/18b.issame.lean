theorem nX4_isSame_X4 : ∀ x ∈ wsX40, x ∈ wsX4_isSame := fun _ h => List.mem_cons_of_mem _ (List.mem_append_left _ (List.mem_append_left _ (List.mem_append_left _ (List.mem_append_left _ (List.mem_append_left _ (List.mem_append_left _ (List.mem_append_right _ h)))))))
set_option maxRecDepth 100000 in
set_option maxHeartbeats 4000000 in
theorem c_X4_isSame (l : Launch) (D : va_G) (cI cA : ClassId) (hst : l.stackTraces = false) (z a b : Nat → Nat) (S S2 : Nat → Nat → Nat) (hI : Inv S) (hb : S 0 3 < 2 ^ 31) : XS l yX4_isSame wsX4_isSame 9 140 800 157 D cI cA [.ref (z 0), .ref (a 13)] ((wSi cI cA z S) ++ (wCo cI a b S S2)) ((wSi cI cA z S) ++ (wCo cI a b S S2)) (nI 1) := by
  intro sz
  refine q_bodyX (cc := cX4_isSame) (maxL := 10) (ret := (some .boolean)) (by decide) rfl (Nat.le_of_ble_eq_true rfl) ?_
  intro p e s m args below meth c H ls hz F hr hlk hl hP hK hX hD hS
  have F : CallFix p m c cX4_isSame 10 s args wsX4_isSame RX4 := F
  have hl : lv_has ls 10 [(0, .ref (z 0)), (1, .ref (a 13))] := hl
  have hi0 := hI.gates
  have hi1 := hI.geese
  have hi2 := hI.guests
  refine lv_aload_n F.1 F.2.1 dX4_isSame_0 rfl (lv_at hl 0 rfl) ?_
  refine k_get (v := .ref (z 1)) F nX4_isSame_X4 hK.1.1 hP 0 (pre_at rfl) rfl 3 (by decide) (List.mem_of_getElem? (i := 1) rfl) rfl dX4_isSame_1 ?_
  refine q_alen F hK hP 1 (pre_at rfl) dX4_isSame_4 ?_
  refine lv_istore_n (lv' := [(2, .int (nI (S 0 0))), (0, .ref (z 0)), (1, .ref (a 13))]) F.1 F.2.1 dX4_isSame_5 rfl hl (by decide) rfl (fun ls hl => ?_)
  refine lv_aload_n F.1 F.2.1 dX4_isSame_6 rfl (lv_at hl 2 rfl) ?_
  refine x_pI (n := 0) (rest := []) (v := nI (S 0 3)) F (c_X3_beats l D cI a b S S2 hI) gX4_isSame_X3_beats rfl (by decide +kernel) ⟨Nat.le_of_ble_eq_true rfl, Nat.le_of_ble_eq_true rfl⟩ rfl hl.1 rfl (Nat.le_of_ble_eq_true rfl) dX4_isSame_7 ⟨show 0 ≤ 140 by omega, show 0 ≤ 800 by omega⟩ hK hP hS ap_t (q0 := 0) (ci := 3) rfl rfl (fun H locs hP hS => ?_)
  refine lv_aload_n F.1 F.2.1 dX4_isSame_10 rfl (lv_at hl 1 rfl) ?_
  refine k_get (v := .int (nI (S 0 3))) F nX4_isSame_X4 hK.1.1 hP 0 (pre_at rfl) rfl 0 (by decide) (List.mem_of_getElem? (i := 2) rfl) rfl dX4_isSame_11 ?_
  refine lv_icmp_ne (tgt := 82) F.1 F.2.1 dX4_isSame_14 (by decide) (fun h14 => ?_) (fun h14 => ?_)
  · skip
    exact absurd rfl h14
  · skip
    refine lv_aload_n F.1 F.2.1 dX4_isSame_17 rfl (lv_at hl 2 rfl) ?_
    refine x_pI (n := 0) (rest := []) (v := nI (S 0 0)) F (c_X3_gates l D cI a b S S2 hI) gX4_isSame_X3_gates rfl (by decide +kernel) ⟨Nat.le_of_ble_eq_true rfl, Nat.le_of_ble_eq_true rfl⟩ rfl hl.1 rfl (Nat.le_of_ble_eq_true rfl) dX4_isSame_18 ⟨show 0 ≤ 140 by omega, show 0 ≤ 800 by omega⟩ hK hP hS ap_t (q0 := 0) (ci := 3) rfl rfl (fun H locs hP hS => ?_)
    refine lv_iload_n F.1 F.2.1 dX4_isSame_21 rfl (lv_at hl 0 rfl) ?_
    refine lv_icmp_ne (tgt := 82) F.1 F.2.1 dX4_isSame_22 (by decide) (fun h22 => ?_) (fun h22 => ?_)
    · skip
      exact absurd rfl h22
    · skip
      refine lv_aload_n F.1 F.2.1 dX4_isSame_25 rfl (lv_at hl 2 rfl) ?_
      refine x_pI (n := 0) (rest := []) (v := nI (S 0 1)) F (c_X3_geese l D cI a b S S2 hI) gX4_isSame_X3_geese rfl (by decide +kernel) ⟨Nat.le_of_ble_eq_true rfl, Nat.le_of_ble_eq_true rfl⟩ rfl hl.1 rfl (Nat.le_of_ble_eq_true rfl) dX4_isSame_26 ⟨show 0 ≤ 140 by omega, show 0 ≤ 800 by omega⟩ hK hP hS ap_t (q0 := 0) (ci := 3) rfl rfl (fun H locs hP hS => ?_)
      refine lv_aload_n F.1 F.2.1 dX4_isSame_29 rfl (lv_at hl 1 rfl) ?_
      refine k_get (v := .ref (z 2)) F nX4_isSame_X4 hK.1.1 hP 0 (pre_at rfl) rfl 4 (by decide) (List.mem_of_getElem? (i := 3) rfl) rfl dX4_isSame_30 ?_
      refine q_alenA F hK hP 2 (pre_at rfl) dX4_isSame_33 ?_
      refine lv_icmp_ne (tgt := 82) F.1 F.2.1 dX4_isSame_34 (by decide) (fun h34 => ?_) (fun h34 => ?_)
      · skip
        exact absurd rfl h34
      · skip
        refine lv_aload_n F.1 F.2.1 dX4_isSame_37 rfl (lv_at hl 2 rfl) ?_
        refine x_pI (n := 0) (rest := []) (v := nI (S 0 2)) F (c_X3_visitors l D cI a b S S2 hI) gX4_isSame_X3_visitors rfl (by decide +kernel) ⟨Nat.le_of_ble_eq_true rfl, Nat.le_of_ble_eq_true rfl⟩ rfl hl.1 rfl (Nat.le_of_ble_eq_true rfl) dX4_isSame_38 ⟨show 0 ≤ 140 by omega, show 0 ≤ 800 by omega⟩ hK hP hS ap_t (q0 := 0) (ci := 3) rfl rfl (fun H locs hP hS => ?_)
        refine lv_aload_n F.1 F.2.1 dX4_isSame_41 rfl (lv_at hl 1 rfl) ?_
        refine k_get (v := .ref (z 3)) F nX4_isSame_X4 hK.1.1 hP 0 (pre_at rfl) rfl 5 (by decide) (List.mem_of_getElem? (i := 4) rfl) rfl dX4_isSame_42 ?_
        refine q_alenA F hK hP 3 (pre_at rfl) dX4_isSame_45 ?_
        refine lv_icmp_ne (tgt := 82) F.1 F.2.1 dX4_isSame_46 (by decide) (fun h46 => ?_) (fun h46 => ?_)
        · skip
          exact absurd rfl h46
        · skip
          refine lv_aload_n F.1 F.2.1 dX4_isSame_49 rfl (lv_at hl 2 rfl) ?_
          refine x_pI (n := 0) (rest := []) (v := nI (inN S (S 0 2))) F (c_X3_inFarm l D cI a b S S2 hI) gX4_isSame_X3_inFarm rfl (by decide +kernel) ⟨Nat.le_of_ble_eq_true rfl, Nat.le_of_ble_eq_true rfl⟩ rfl hl.1 rfl (Nat.le_of_ble_eq_true rfl) dX4_isSame_50 ⟨show 0 ≤ 140 by omega, show 0 ≤ 800 by omega⟩ hK hP hS ap_t (q0 := 0) (ci := 3) rfl rfl (fun H locs hP hS => ?_)
          refine lv_aload_n F.1 F.2.1 dX4_isSame_53 rfl (lv_at hl 1 rfl) ?_
          refine q_pV (n := 0) (rest := [.int (nI (inN S (S 0 2)))]) (v := nI (inN S (S 0 2))) F (c_X4_inFarm l D cI cA z S hI) gX4_isSame_X4_inFarm rfl (by decide +kernel) ⟨Nat.le_of_ble_eq_true rfl, Nat.le_of_ble_eq_true rfl⟩ rfl hl.1 rfl (Nat.le_of_ble_eq_true rfl) dX4_isSame_54 ⟨show 0 ≤ 140 by omega, show 0 ≤ 800 by omega⟩ hK hP hS rfl (q0 := 0) (ci := 4) rfl rfl (fun H locs hP hS => ?_)
          refine lv_icmp_ne (tgt := 82) F.1 F.2.1 dX4_isSame_57 (by decide) (fun h57 => ?_) (fun h57 => ?_)
          · skip
            exact absurd rfl h57
          · skip
            refine lv_aload_n F.1 F.2.1 dX4_isSame_60 rfl (lv_at hl 2 rfl) ?_
            refine x_pI (n := 0) (rest := []) (v := nI (S 0 4)) F (c_X3_bribes l D cI a b S S2 hI) gX4_isSame_X3_bribes rfl (by decide +kernel) ⟨Nat.le_of_ble_eq_true rfl, Nat.le_of_ble_eq_true rfl⟩ rfl hl.1 rfl (Nat.le_of_ble_eq_true rfl) dX4_isSame_61 ⟨show 0 ≤ 140 by omega, show 0 ≤ 800 by omega⟩ hK hP hS ap_t (q0 := 0) (ci := 3) rfl rfl (fun H locs hP hS => ?_)
            refine lv_aload_n F.1 F.2.1 dX4_isSame_64 rfl (lv_at hl 1 rfl) ?_
            refine k_get (v := .int (nI (S 0 4))) F nX4_isSame_X4 hK.1.1 hP 0 (pre_at rfl) rfl 1 (by decide) (List.mem_of_getElem? (i := 5) rfl) rfl dX4_isSame_65 ?_
            refine lv_icmp_ne (tgt := 82) F.1 F.2.1 dX4_isSame_68 (by decide) (fun h68 => ?_) (fun h68 => ?_)
            · skip
              exact absurd rfl h68
            · skip
              refine lv_aload_n F.1 F.2.1 dX4_isSame_71 rfl (lv_at hl 2 rfl) ?_
              refine x_pI (n := 0) (rest := []) (v := nI (S 0 5)) F (c_X3_retreats l D cI a b S S2 hI) gX4_isSame_X3_retreats rfl (by decide +kernel) ⟨Nat.le_of_ble_eq_true rfl, Nat.le_of_ble_eq_true rfl⟩ rfl hl.1 rfl (Nat.le_of_ble_eq_true rfl) dX4_isSame_72 ⟨show 0 ≤ 140 by omega, show 0 ≤ 800 by omega⟩ hK hP hS ap_t (q0 := 0) (ci := 3) rfl rfl (fun H locs hP hS => ?_)
              refine lv_aload_n F.1 F.2.1 dX4_isSame_75 rfl (lv_at hl 1 rfl) ?_
              refine k_get (v := .int (nI (S 0 5))) F nX4_isSame_X4 hK.1.1 hP 0 (pre_at rfl) rfl 2 (by decide) (List.mem_of_getElem? (i := 6) rfl) rfl dX4_isSame_76 ?_
              refine lv_icmp_eq (tgt := 84) F.1 F.2.1 dX4_isSame_79 (by decide) (fun h79 => ?_) (fun h79 => ?_)
              · skip
                refine lv_iconst (v := (-1)) F.1 F.2.1 dX4_isSame_84 (by decide) ?_
                refine lv_istore_n (lv' := [(3, .int (-1)), (2, .int (nI (S 0 0))), (0, .ref (z 0)), (1, .ref (a 13))]) F.1 F.2.1 dX4_isSame_85 rfl hl (by decide) rfl (fun ls hl => ?_)
                refine lv_iconst (v := nI 0) F.1 F.2.1 dX4_isSame_86 (by decide) ?_
                refine lv_istore (lv' := [(4, .int (nI 0)), (3, .int (-1)), (2, .int (nI (S 0 0))), (0, .ref (z 0)), (1, .ref (a 13))]) F.1 F.2.1 dX4_isSame_87 hl (by decide) rfl (fun ls hl => ?_)
                have loop89 : ∀ (n : Nat) (g : Nat), g ≤ S 0 0 → S 0 0 + 1 ≤ g + n → ∀ (ce sl : Nat), ce ≤ 4 * g → sl ≤ 24 * g → ∀ (H : Heap) (locs : List Loc) (ls : Array Slot), va_P D vwCl ((wSi cI cA z S) ++ (wCo cI a b S S2)) H → va_D (va_A ((wSi cI cA z S) ++ (wCo cI a b S S2)) sz) ((wSi cI cA z S) ++ (wCo cI a b S S2)) → va_S (va_A ((wSi cI cA z S) ++ (wCo cI a b S S2)) sz) s.heap H locs → lv_has ls 10 [(0, .ref (z 0)), (1, .ref (a 13)), (2, .int (nI (S 0 0))), (3, .int (oI (ldN S g).1)), (4, .int (nI g))] → W p l e (rmG 9 140 800 157) s m args below meth c H locs (ce) (sl) (QGI below args s D 140 800 ((wSi cI cA z S) ++ (wCo cI a b S S2)) sz ((wSi cI cA z S) ++ (wCo cI a b S S2)) (nI 1)) (F0 m 89 ls []) := by
                  intro n
                  induction n with
                  | zero => intro g hi hn; exact absurd hn (by omega)
                  | succ n ih89 =>
                    intro g hi hn  ce89 sl89 hce89 hsl89 H locs ls hP hD hS hl
                    refine lv_iload F.1 F.2.1 dX4_isSame_89 (lv_at hl 4 rfl) ?_
                    refine lv_iload_n F.1 F.2.1 dX4_isSame_91 rfl (lv_at hl 2 rfl) ?_
                    refine k_icmp_ge (tgt := 238) F (by omega) (by omega) dX4_isSame_92 (by decide) (fun h92 => ?_) (fun h92 => ?_)
                    · skip
                      refine lv_iconst (v := nI 0) F.1 F.2.1 dX4_isSame_238 (by decide) ?_
                      refine lv_istore (lv' := [(4, .int (nI 0)), (0, .ref (z 0)), (1, .ref (a 13)), (2, .int (nI (S 0 0))), (3, .int (oI (ldN S g).1))]) F.1 F.2.1 dX4_isSame_239 hl (by decide) rfl (fun ls hl => ?_)
                      refine lv_iconst (v := nI 0) F.1 F.2.1 dX4_isSame_241 (by decide) ?_
                      refine lv_istore (lv' := [(5, .int (nI 0)), (4, .int (nI 0)), (0, .ref (z 0)), (1, .ref (a 13)), (2, .int (nI (S 0 0))), (3, .int (oI (ldN S g).1))]) F.1 F.2.1 dX4_isSame_242 hl (by decide) rfl (fun ls hl => ?_)
                      have loop244 : ∀ (n : Nat) (k : Nat), k ≤ S 0 1 → S 0 1 + 1 ≤ k + n → ∀ (ce sl : Nat), ce ≤ 24 + 4 * k → sl ≤ 144 + 24 * k → ∀ (H : Heap) (locs : List Loc) (ls : Array Slot), va_P D vwCl ((wSi cI cA z S) ++ (wCo cI a b S S2)) H → va_D (va_A ((wSi cI cA z S) ++ (wCo cI a b S S2)) sz) ((wSi cI cA z S) ++ (wCo cI a b S S2)) → va_S (va_A ((wSi cI cA z S) ++ (wCo cI a b S S2)) sz) s.heap H locs → lv_has ls 10 [(0, .ref (z 0)), (1, .ref (a 13)), (2, .int (nI (S 0 0))), (3, .int (oI (ldN S (S 0 0)).1)), (4, .int (nI (sumN S k))), (5, .int (nI k))] → W p l e (rmG 9 140 800 157) s m args below meth c H locs (ce) (sl) (QGI below args s D 140 800 ((wSi cI cA z S) ++ (wCo cI a b S S2)) sz ((wSi cI cA z S) ++ (wCo cI a b S S2)) (nI 1)) (F0 m 244 ls []) := by
                        intro n
                        induction n with
                        | zero => intro k hi hn; exact absurd hn (by omega)
                        | succ n ih244 =>
                          intro k hi hn  ce244 sl244 hce244 hsl244 H locs ls hP hD hS hl
                          refine lv_iload F.1 F.2.1 dX4_isSame_244 (lv_at hl 5 rfl) ?_
                          refine lv_aload_n F.1 F.2.1 dX4_isSame_246 rfl (lv_at hl 0 rfl) ?_
                          refine k_get (v := .ref (z 2)) F nX4_isSame_X4 hK.1.1 hP 0 (pre_at rfl) rfl 4 (by decide) (List.mem_of_getElem? (i := 3) rfl) rfl dX4_isSame_247 ?_
                          refine q_alenA F hK hP 2 (pre_at rfl) dX4_isSame_250 ?_
                          refine k_icmp_ge (tgt := 332) F (by omega) (by omega) dX4_isSame_251 (by decide) (fun h251 => ?_) (fun h251 => ?_)
                          · skip
                            refine lv_iconst (v := nI 0) F.1 F.2.1 dX4_isSame_332 (by decide) ?_
                            refine lv_istore (lv' := [(5, .int (nI 0)), (0, .ref (z 0)), (1, .ref (a 13)), (2, .int (nI (S 0 0))), (3, .int (oI (ldN S (S 0 0)).1)), (4, .int (nI (sumN S k)))]) F.1 F.2.1 dX4_isSame_333 hl (by decide) rfl (fun ls hl => ?_)
                            have loop335 : ∀ (n : Nat) (v : Nat), v ≤ S 0 2 → S 0 2 + 1 ≤ v + n → ∀ (ce sl : Nat), ce ≤ 56 + 9 * v → sl ≤ 336 + 52 * v → ∀ (H : Heap) (locs : List Loc) (ls : Array Slot), va_P D vwCl ((wSi cI cA z S) ++ (wCo cI a b S S2)) H → va_D (va_A ((wSi cI cA z S) ++ (wCo cI a b S S2)) sz) ((wSi cI cA z S) ++ (wCo cI a b S S2)) → va_S (va_A ((wSi cI cA z S) ++ (wCo cI a b S S2)) sz) s.heap H locs → lv_has ls 10 [(0, .ref (z 0)), (1, .ref (a 13)), (2, .int (nI (S 0 0))), (3, .int (oI (ldN S (S 0 0)).1)), (4, .int (nI (sumN S (S 0 1)))), (5, .int (nI v))] → W p l e (rmG 9 140 800 157) s m args below meth c H locs (ce) (sl) (QGI below args s D 140 800 ((wSi cI cA z S) ++ (wCo cI a b S S2)) sz ((wSi cI cA z S) ++ (wCo cI a b S S2)) (nI 1)) (F0 m 335 ls []) := by
                              intro n
                              induction n with
                              | zero => intro v hi hn; exact absurd hn (by omega)
                              | succ n ih335 =>
                                intro v hi hn  ce335 sl335 hce335 hsl335 H locs ls hP hD hS hl
                                refine lv_iload F.1 F.2.1 dX4_isSame_335 (lv_at hl 5 rfl) ?_
                                refine lv_aload_n F.1 F.2.1 dX4_isSame_337 rfl (lv_at hl 0 rfl) ?_
                                refine k_get (v := .ref (z 3)) F nX4_isSame_X4 hK.1.1 hP 0 (pre_at rfl) rfl 5 (by decide) (List.mem_of_getElem? (i := 4) rfl) rfl dX4_isSame_338 ?_
                                refine q_alenA F hK hP 3 (pre_at rfl) dX4_isSame_341 ?_
                                refine k_icmp_ge (tgt := 494) F (by omega) (by omega) dX4_isSame_342 (by decide) (fun h342 => ?_) (fun h342 => ?_)
                                · skip
                                  refine lv_aload_n F.1 F.2.1 dX4_isSame_494 rfl (lv_at hl 1 rfl) ?_
                                  refine x_pI (n := 0) (rest := []) (v := oI (ldN S (S 0 0)).1) F (c_X3_loudestGate l D cI a b S S2 hI) gX4_isSame_X3_loudestGate rfl (by decide +kernel) ⟨Nat.le_of_ble_eq_true rfl, Nat.le_of_ble_eq_true rfl⟩ rfl hl.1 rfl (Nat.le_of_ble_eq_true rfl) dX4_isSame_495 ⟨show ce335 ≤ 140 by omega, show sl335 ≤ 800 by omega⟩ hK hP hS ap_t (q0 := 0) (ci := 3) rfl rfl (fun H locs hP hS => ?_)
                                  refine lv_iload_n F.1 F.2.1 dX4_isSame_498 rfl (lv_at hl 3 rfl) ?_
                                  refine lv_icmp_ne (tgt := 536) F.1 F.2.1 dX4_isSame_499 (by decide) (fun h499 => ?_) (fun h499 => ?_)
                                  · skip
                                    exact absurd rfl h499
                                  · skip
                                    refine lv_aload_n F.1 F.2.1 dX4_isSame_502 rfl (lv_at hl 1 rfl) ?_
                                    refine x_pD (n := 0) (rest := []) (v := (meanD S)) F (c_X3_meanTemper l D cI a b S S2 hI) gX4_isSame_X3_meanTemper rfl (by decide +kernel) ⟨Nat.le_of_ble_eq_true rfl, Nat.le_of_ble_eq_true rfl⟩ rfl hl.1 rfl (Nat.le_of_ble_eq_true rfl) dX4_isSame_503 ⟨show ce335 ≤ 140 by omega, show sl335 ≤ 800 by omega⟩ hK hP hS ap_t (q0 := 0) (ci := 3) rfl rfl (fun H locs hP hS => ?_)
                                    refine lv_aload_n F.1 F.2.1 dX4_isSame_506 rfl (lv_at hl 0 rfl) ?_
                                    refine k_get (v := .ref (z 2)) F nX4_isSame_X4 hK.1.1 hP 0 (pre_at rfl) rfl 4 (by decide) (List.mem_of_getElem? (i := 3) rfl) rfl dX4_isSame_507 ?_
                                    refine q_alenA F hK hP 2 (pre_at rfl) dX4_isSame_510 ?_
                                    refine k_if_ne (tgt := 518) F (by omega) dX4_isSame_511 (by decide) (fun h511 => ?_) (fun h511 => ?_)
                                    · skip
                                      refine lv_iload F.1 F.2.1 dX4_isSame_518 (lv_at hl 4 rfl) ?_
                                      refine lv_i2d F.1 F.2.1 dX4_isSame_520 ?_
                                      refine lv_aload_n F.1 F.2.1 dX4_isSame_521 rfl (lv_at hl 0 rfl) ?_
                                      refine k_get (v := .ref (z 2)) F nX4_isSame_X4 hK.1.1 hP 0 (pre_at rfl) rfl 4 (by decide) (List.mem_of_getElem? (i := 3) rfl) rfl dX4_isSame_522 ?_
                                      refine q_alenA F hK hP 2 (pre_at rfl) dX4_isSame_525 ?_
                                      refine lv_i2d F.1 F.2.1 dX4_isSame_526 ?_
                                      refine lv_ddiv F.1 F.2.1 dX4_isSame_527 (mean_ok (by have := sumN_le S hI.mood (S 0 1); omega) hi1 h511) ?_
                                      refine lv_dcmp F.1 F.2.1 dX4_isSame_528 ?_
                                      refine lv_if_ne (tgt := 536) F.1 F.2.1 dX4_isSame_529 (by decide) (fun h529 => ?_) (fun h529 => ?_)
                                      · exact absurd (by unfold meanD; rw [if_neg h511]; exact mean_cmp (by have := sumN_le S hI.mood (S 0 1); omega) hi1 h511) h529
                                      · skip
                                        refine lv_iconst (v := nI 1) F.1 F.2.1 dX4_isSame_532 (by decide) ?_
                                        refine lv_goto (tgt := 537) F.1 F.2.1 dX4_isSame_533 (by decide) ?_
                                        exact k_retGI F hr hlk hP rfl hS hz rfl (by first | rfl | (split <;> rfl)) (show ce335 ≤ 140 by omega) (show sl335 ≤ 800 by omega) dX4_isSame_537
                                    · skip
                                      refine lv_dconst0 F.1 F.2.1 dX4_isSame_514 ?_
                                      refine lv_goto (tgt := 528) F.1 F.2.1 dX4_isSame_515 (by decide) ?_
                                      refine lv_dcmp F.1 F.2.1 dX4_isSame_528 ?_
                                      refine lv_if_ne (tgt := 536) F.1 F.2.1 dX4_isSame_529 (by decide) (fun h529 => ?_) (fun h529 => ?_)
                                      · exact absurd (by unfold meanD; rw [if_pos h511]; exact mean_cmp0) h529
                                      · skip
                                        refine lv_iconst (v := nI 1) F.1 F.2.1 dX4_isSame_532 (by decide) ?_
                                        refine lv_goto (tgt := 537) F.1 F.2.1 dX4_isSame_533 (by decide) ?_
                                        exact k_retGI F hr hlk hP rfl hS hz rfl (by first | rfl | (split <;> rfl)) (show ce335 ≤ 140 by omega) (show sl335 ≤ 800 by omega) dX4_isSame_537
                                · skip
                                  refine lv_aload_n F.1 F.2.1 dX4_isSame_345 rfl (lv_at hl 0 rfl) ?_
                                  refine k_get (v := .ref (z 3)) F nX4_isSame_X4 hK.1.1 hP 0 (pre_at rfl) rfl 5 (by decide) (List.mem_of_getElem? (i := 4) rfl) rfl dX4_isSame_346 ?_
                                  refine lv_iload F.1 F.2.1 dX4_isSame_349 (lv_at hl 5 rfl) ?_
                                  refine q_aald (v := z (12 + v)) F hK hP 3 (pre_at rfl) (show v < S 0 2 by omega) (show S 0 2 < 2 ^ 31 by omega) rfl dX4_isSame_351 ?_
                                  refine lv_astore (lv' := [(6, .ref (z (12 + v))), (0, .ref (z 0)), (1, .ref (a 13)), (2, .int (nI (S 0 0))), (3, .int (oI (ldN S (S 0 0)).1)), (4, .int (nI (sumN S (S 0 1)))), (5, .int (nI v))]) F.1 F.2.1 dX4_isSame_352 hl (by decide) rfl (fun ls hl => ?_)
                                  refine lv_aload_n F.1 F.2.1 dX4_isSame_354 rfl (lv_at hl 1 rfl) ?_
                                  refine lv_aload F.1 F.2.1 dX4_isSame_355 (lv_at hl 0 rfl) ?_
                                  refine q_pV (n := 1) (rest := []) (v := nI (hisG S (S 7 v) (S 6 v))) F (c_X4_hissAt l D cI cA z S v hI (by first | assumption | omega)) gX4_isSame_X4_hissAt rfl (by decide +kernel) ⟨Nat.le_of_ble_eq_true rfl, Nat.le_of_ble_eq_true rfl⟩ rfl hl.1 rfl (Nat.le_of_ble_eq_true rfl) dX4_isSame_357 ⟨show ce335 ≤ 140 by omega, show sl335 ≤ 800 by omega⟩ hK hP hS rfl (q0 := 0) (ci := 4) rfl rfl (fun H locs hP hS => ?_)
                                  have := hisG_le hI (S 7 v) (S 6 v)
                                  have := hI.brave v
                                  refine lv_istore (lv' := [(7, .int (nI (hisG S (S 7 v) (S 6 v)))), (6, .ref (z (12 + v))), (0, .ref (z 0)), (1, .ref (a 13)), (2, .int (nI (S 0 0))), (3, .int (oI (ldN S (S 0 0)).1)), (4, .int (nI (sumN S (S 0 1)))), (5, .int (nI v))]) F.1 F.2.1 dX4_isSame_360 hl (by decide) rfl (fun ls hl => ?_)
                                  refine lv_aload_n F.1 F.2.1 dX4_isSame_362 rfl (lv_at hl 3 rfl) ?_
                                  refine lv_iload F.1 F.2.1 dX4_isSame_363 (lv_at hl 7 rfl) ?_
                                  have ok_1 : r1 (S 0 2) (nI v) (nI (S 7 (cl (nI v)))) = (0, nI (S 7 v)) := by rw [cl_nI (show v < 2 ^ 31 by omega)]; exact r1_y (okI_nI (by omega) (by omega))
                                  refine x_tI (n := 1) (rest := []) (v := nI (S 7 v)) (w1 := (wCo cI a b S S2)) F (c_X3_passedBy l D cI hst a b S S2 (nI v) hI) (by rw [ok_1]; rfl) (by rw [ok_1]) rfl gX4_isSame_X3_passedBy rfl (by decide +kernel) ⟨Nat.le_of_ble_eq_true rfl, Nat.le_of_ble_eq_true rfl⟩ rfl hl.1 rfl (Nat.le_of_ble_eq_true rfl) dX4_isSame_365 ⟨show ce335 + 1 ≤ 140 by omega, show sl335 + 6 ≤ 800 by omega⟩ hK hX hP hD hS ap_t rfl rfl ((wSi cI cA z S) ++ (wCo cI a b S S2)) (congrArg _ (List.append_nil _)) (q0 := 0) (ci := 3) rfl rfl (fun H locs hP hD hS => ?_)
                                  refine lv_aload F.1 F.2.1 dX4_isSame_368 (lv_at hl 1 rfl) ?_
                                  refine lv_iconst (v := nI 3) F.1 F.2.1 dX4_isSame_370 (by decide) ?_
                                  refine q_iald (v := S 7 v) F hK hP (4 + S 0 1 + v) (pre_at (wSi_v (show v < S 0 2 by omega))) (by decide) (by first | omega | decide) rfl dX4_isSame_371 ?_
                                  have := hI.went v
                                  refine lv_icmp_ne (tgt := 486) F.1 F.2.1 dX4_isSame_372 (by decide) (fun h372 => ?_) (fun h372 => ?_)
                                  · skip
                                    exact absurd rfl h372
                                  · skip
                                    refine lv_aload_n F.1 F.2.1 dX4_isSame_375 rfl (lv_at hl 3 rfl) ?_
                                    refine lv_iload F.1 F.2.1 dX4_isSame_376 (lv_at hl 7 rfl) ?_
                                    have ok_2 : r1 (S 0 2) (nI v) (bI (S 0 0 ≤ S 7 (cl (nI v)))) = (0, bI (S 0 0 ≤ S 7 v)) := by rw [cl_nI (show v < 2 ^ 31 by omega)]; exact r1_y (okI_nI (by omega) (by omega))
                                    refine x_tI (n := 1) (rest := []) (v := bI (S 0 0 ≤ S 7 v)) (w1 := (wCo cI a b S S2)) F (c_X3_isInFarm l D cI hst a b S S2 (nI v) hI) (by rw [ok_2]; rfl) (by rw [ok_2]) rfl gX4_isSame_X3_isInFarm rfl (by decide +kernel) ⟨Nat.le_of_ble_eq_true rfl, Nat.le_of_ble_eq_true rfl⟩ rfl hl.1 rfl (Nat.le_of_ble_eq_true rfl) dX4_isSame_378 ⟨show ce335 + 1 + 1 ≤ 140 by omega, show sl335 + 6 + 6 ≤ 800 by omega⟩ hK hX hP hD hS ap_t rfl rfl ((wSi cI cA z S) ++ (wCo cI a b S S2)) (congrArg _ (List.append_nil _)) (q0 := 0) (ci := 3) rfl rfl (fun H locs hP hD hS => ?_)
                                    refine lv_aload_n F.1 F.2.1 dX4_isSame_381 rfl (lv_at hl 2 rfl) ?_
                                    refine lv_aload F.1 F.2.1 dX4_isSame_382 (lv_at hl 1 rfl) ?_
                                    refine q_pV (n := 1) (rest := [.int (bI (S 0 0 ≤ S 7 v))]) (v := bI (S 0 0 ≤ S 7 v)) F (c_X4_isIn l D cI cA z S v hI (by first | assumption | omega)) gX4_isSame_X4_isIn rfl (by decide +kernel) ⟨Nat.le_of_ble_eq_true rfl, Nat.le_of_ble_eq_true rfl⟩ rfl hl.1 rfl (Nat.le_of_ble_eq_true rfl) dX4_isSame_384 ⟨show ce335 + 1 + 1 ≤ 140 by omega, show sl335 + 6 + 6 ≤ 800 by omega⟩ hK hP hS rfl (q0 := 0) (ci := 4) rfl rfl (fun H locs hP hS => ?_)
                                    refine lv_icmp_ne (tgt := 486) F.1 F.2.1 dX4_isSame_387 (by decide) (fun h387 => ?_) (fun h387 => ?_)
                                    · skip
                                      exact absurd rfl h387
                                    · skip
                                      refine lv_aload_n F.1 F.2.1 dX4_isSame_390 rfl (lv_at hl 3 rfl) ?_
                                      refine lv_iload F.1 F.2.1 dX4_isSame_391 (lv_at hl 7 rfl) ?_
                                      have ok_3 : r1 (S 0 2) (nI v) (nI (S 8 (cl (nI v)))) = (0, nI (S 8 v)) := by rw [cl_nI (show v < 2 ^ 31 by omega)]; exact r1_y (okI_nI (by omega) (by omega))
                                      refine x_tI (n := 1) (rest := []) (v := nI (S 8 v)) (w1 := (wCo cI a b S S2)) F (c_X3_cornsOf l D cI hst a b S S2 (nI v) hI) (by rw [ok_3]; rfl) (by rw [ok_3]) rfl gX4_isSame_X3_cornsOf rfl (by decide +kernel) ⟨Nat.le_of_ble_eq_true rfl, Nat.le_of_ble_eq_true rfl⟩ rfl hl.1 rfl (Nat.le_of_ble_eq_true rfl) dX4_isSame_393 ⟨show ce335 + 1 + 1 + 1 ≤ 140 by omega, show sl335 + 6 + 6 + 6 ≤ 800 by omega⟩ hK hX hP hD hS ap_t rfl rfl ((wSi cI cA z S) ++ (wCo cI a b S S2)) (congrArg _ (List.append_nil _)) (q0 := 0) (ci := 3) rfl rfl (fun H locs hP hD hS => ?_)
                                      refine lv_aload F.1 F.2.1 dX4_isSame_396 (lv_at hl 1 rfl) ?_
                                      refine lv_iconst (v := nI 2) F.1 F.2.1 dX4_isSame_398 (by decide) ?_
                                      refine q_iald (v := S 8 v) F hK hP (4 + S 0 1 + v) (pre_at (wSi_v (show v < S 0 2 by omega))) (by decide) (by first | omega | decide) rfl dX4_isSame_399 ?_
                                      have := hI.has v
                                      refine lv_icmp_ne (tgt := 486) F.1 F.2.1 dX4_isSame_400 (by decide) (fun h400 => ?_) (fun h400 => ?_)
                                      · skip
                                        exact absurd rfl h400
                                      · skip
                                        refine lv_aload_n F.1 F.2.1 dX4_isSame_403 rfl (lv_at hl 3 rfl) ?_
                                        refine lv_iload F.1 F.2.1 dX4_isSame_404 (lv_at hl 7 rfl) ?_
                                        have ok_4 : r1 (S 0 2) (nI v) (nI (S 9 (cl (nI v)))) = (0, nI (S 9 v)) := by rw [cl_nI (show v < 2 ^ 31 by omega)]; exact r1_y (okI_nI (by omega) (by omega))
                                        refine x_tI (n := 1) (rest := []) (v := nI (S 9 v)) (w1 := (wCo cI a b S S2)) F (c_X3_nerveOf l D cI hst a b S S2 (nI v) hI) (by rw [ok_4]; rfl) (by rw [ok_4]) rfl gX4_isSame_X3_nerveOf rfl (by decide +kernel) ⟨Nat.le_of_ble_eq_true rfl, Nat.le_of_ble_eq_true rfl⟩ rfl hl.1 rfl (Nat.le_of_ble_eq_true rfl) dX4_isSame_406 ⟨show ce335 + 1 + 1 + 1 + 1 ≤ 140 by omega, show sl335 + 6 + 6 + 6 + 6 ≤ 800 by omega⟩ hK hX hP hD hS ap_t rfl rfl ((wSi cI cA z S) ++ (wCo cI a b S S2)) (congrArg _ (List.append_nil _)) (q0 := 0) (ci := 3) rfl rfl (fun H locs hP hD hS => ?_)
                                        refine lv_aload F.1 F.2.1 dX4_isSame_409 (lv_at hl 1 rfl) ?_
                                        refine lv_iconst (v := nI 1) F.1 F.2.1 dX4_isSame_411 (by decide) ?_
                                        refine q_iald (v := S 9 v) F hK hP (4 + S 0 1 + v) (pre_at (wSi_v (show v < S 0 2 by omega))) (by decide) (by first | omega | decide) rfl dX4_isSame_412 ?_
                                        have := hI.brave v
                                        refine lv_icmp_ne (tgt := 486) F.1 F.2.1 dX4_isSame_413 (by decide) (fun h413 => ?_) (fun h413 => ?_)
                                        · skip
                                          exact absurd rfl h413
                                        · skip
                                          refine lv_aload_n F.1 F.2.1 dX4_isSame_416 rfl (lv_at hl 3 rfl) ?_
                                          refine lv_iload F.1 F.2.1 dX4_isSame_417 (lv_at hl 7 rfl) ?_
                                          have ok_5 : r1 (S 0 2) (nI v) (nI (S 10 (cl (nI v)))) = (0, nI (S 10 v)) := by rw [cl_nI (show v < 2 ^ 31 by omega)]; exact r1_y (okI_nI (by omega) (by omega))
                                          refine x_tI (n := 1) (rest := []) (v := nI (S 10 v)) (w1 := (wCo cI a b S S2)) F (c_X3_retreatOf l D cI hst a b S S2 (nI v) hI) (by rw [ok_5]; rfl) (by rw [ok_5]) rfl gX4_isSame_X3_retreatOf rfl (by decide +kernel) ⟨Nat.le_of_ble_eq_true rfl, Nat.le_of_ble_eq_true rfl⟩ rfl hl.1 rfl (Nat.le_of_ble_eq_true rfl) dX4_isSame_419 ⟨show ce335 + 1 + 1 + 1 + 1 + 1 ≤ 140 by omega, show sl335 + 6 + 6 + 6 + 6 + 6 ≤ 800 by omega⟩ hK hX hP hD hS ap_t rfl rfl ((wSi cI cA z S) ++ (wCo cI a b S S2)) (congrArg _ (List.append_nil _)) (q0 := 0) (ci := 3) rfl rfl (fun H locs hP hD hS => ?_)
                                          refine lv_aload F.1 F.2.1 dX4_isSame_422 (lv_at hl 1 rfl) ?_
                                          refine lv_iconst (v := nI 4) F.1 F.2.1 dX4_isSame_424 (by decide) ?_
                                          refine q_iald (v := S 10 v) F hK hP (4 + S 0 1 + v) (pre_at (wSi_v (show v < S 0 2 by omega))) (by decide) (by first | omega | decide) rfl dX4_isSame_425 ?_
                                          have := hI.back v
                                          refine lv_icmp_ne (tgt := 486) F.1 F.2.1 dX4_isSame_426 (by decide) (fun h426 => ?_) (fun h426 => ?_)
                                          · skip
                                            exact absurd rfl h426
                                          · skip
                                            refine lv_aload_n F.1 F.2.1 dX4_isSame_429 rfl (lv_at hl 3 rfl) ?_
                                            refine lv_iload F.1 F.2.1 dX4_isSame_430 (lv_at hl 7 rfl) ?_
                                            have ok_6 : r1 (S 0 2) (nI v) (nI (hisG S (S 7 (cl (nI v))) (S 6 (cl (nI v))))) = (0, nI (hisG S (S 7 v) (S 6 v))) := by rw [cl_nI (show v < 2 ^ 31 by omega)]; exact r1_y (okI_nI (by omega) (by omega))
                                            refine x_tI (n := 1) (rest := []) (v := nI (hisG S (S 7 v) (S 6 v))) (w1 := (wCo cI a b S S2)) F (c_X3_hissAt l D cI hst a b S S2 (nI v) hI) (by rw [ok_6]; rfl) (by rw [ok_6]) rfl gX4_isSame_X3_hissAt rfl (by decide +kernel) ⟨Nat.le_of_ble_eq_true rfl, Nat.le_of_ble_eq_true rfl⟩ rfl hl.1 rfl (Nat.le_of_ble_eq_true rfl) dX4_isSame_432 ⟨show ce335 + 1 + 1 + 1 + 1 + 1 + 1 ≤ 140 by omega, show sl335 + 6 + 6 + 6 + 6 + 6 + 6 ≤ 800 by omega⟩ hK hX hP hD hS ap_t rfl rfl ((wSi cI cA z S) ++ (wCo cI a b S S2)) (congrArg _ (List.append_nil _)) (q0 := 0) (ci := 3) rfl rfl (fun H locs hP hD hS => ?_)
                                            refine lv_iload F.1 F.2.1 dX4_isSame_435 (lv_at hl 0 rfl) ?_
                                            refine lv_icmp_ne (tgt := 486) F.1 F.2.1 dX4_isSame_437 (by decide) (fun h437 => ?_) (fun h437 => ?_)
                                            · skip
                                              exact absurd rfl h437
                                            · skip
                                              refine lv_aload_n F.1 F.2.1 dX4_isSame_440 rfl (lv_at hl 3 rfl) ?_
                                              refine lv_iload F.1 F.2.1 dX4_isSame_441 (lv_at hl 7 rfl) ?_
                                              have ok_7 : r1 (S 0 2) (nI v) (nI (grdN (hisG S (S 7 (cl (nI v))) (S 6 (cl (nI v)))))) = (0, nI (grdN (hisG S (S 7 v) (S 6 v)))) := by rw [cl_nI (show v < 2 ^ 31 by omega)]; exact r1_y (okI_nI (by omega) (by omega))
                                              refine x_tI (n := 1) (rest := []) (v := nI (grdN (hisG S (S 7 v) (S 6 v)))) (w1 := (wCo cI a b S S2)) F (c_X3_gradeFor l D cI hst a b S S2 (nI v) hI) (by rw [ok_7]; rfl) (by rw [ok_7]) rfl gX4_isSame_X3_gradeFor rfl (by decide +kernel) ⟨Nat.le_of_ble_eq_true rfl, Nat.le_of_ble_eq_true rfl⟩ rfl hl.1 rfl (Nat.le_of_ble_eq_true rfl) dX4_isSame_443 ⟨show ce335 + 1 + 1 + 1 + 1 + 1 + 1 + 1 ≤ 140 by omega, show sl335 + 6 + 6 + 6 + 6 + 6 + 6 + 6 ≤ 800 by omega⟩ hK hX hP hD hS ap_t rfl rfl ((wSi cI cA z S) ++ (wCo cI a b S S2)) (congrArg _ (List.append_nil _)) (q0 := 0) (ci := 3) rfl rfl (fun H locs hP hD hS => ?_)
                                              refine lv_iload F.1 F.2.1 dX4_isSame_446 (lv_at hl 0 rfl) ?_
                                              refine x_gS (n := 1) (rest := [.int (nI (grdN (hisG S (S 7 v) (S 6 v))))]) (v := nI (grdN (hisG S (S 7 v) (S 6 v)))) F (c_X4_grade l D cI (hisG S (S 7 v) (S 6 v)) (by omega)) gX4_isSame_X4_grade rfl (by decide +kernel) ⟨Nat.le_of_ble_eq_true rfl, Nat.le_of_ble_eq_true rfl⟩ rfl hl.1 rfl (Nat.le_of_ble_eq_true rfl) dX4_isSame_448 ⟨show ce335 + 1 + 1 + 1 + 1 + 1 + 1 + 1 + 1 ≤ 140 by omega, show sl335 + 6 + 6 + 6 + 6 + 6 + 6 + 6 + 4 ≤ 800 by omega⟩ hK hP hS (fun q h => Or.inr (by omega)) (fun H locs hP hS => ?_)
                                              refine lv_icmp_ne (tgt := 486) F.1 F.2.1 dX4_isSame_451 (by decide) (fun h451 => ?_) (fun h451 => ?_)
                                              · skip
                                                exact absurd rfl h451
                                              · skip
                                                refine lv_aload_n F.1 F.2.1 dX4_isSame_454 rfl (lv_at hl 3 rfl) ?_
                                                refine lv_iload F.1 F.2.1 dX4_isSame_455 (lv_at hl 7 rfl) ?_
                                                have ok_8 : r1 (S 0 2) (nI v) (bI (dareP S (cl (nI v)))) = (0, bI (dareP S v)) := by rw [cl_nI (show v < 2 ^ 31 by omega)]; exact r1_y (okI_nI (by omega) (by omega))
                                                refine x_tI (n := 1) (rest := []) (v := bI (dareP S v)) (w1 := (wCo cI a b S S2)) F (c_X3_dares l D cI hst a b S S2 (nI v) hI) (by rw [ok_8]; rfl) (by rw [ok_8]) rfl gX4_isSame_X3_dares rfl (by decide +kernel) ⟨Nat.le_of_ble_eq_true rfl, Nat.le_of_ble_eq_true rfl⟩ rfl hl.1 rfl (Nat.le_of_ble_eq_true rfl) dX4_isSame_457 ⟨show ce335 + 1 + 1 + 1 + 1 + 1 + 1 + 1 + 1 + 1 ≤ 140 by omega, show sl335 + 6 + 6 + 6 + 6 + 6 + 6 + 6 + 4 + 6 ≤ 800 by omega⟩ hK hX hP hD hS ap_t rfl rfl ((wSi cI cA z S) ++ (wCo cI a b S S2)) (congrArg _ (List.append_nil _)) (q0 := 0) (ci := 3) rfl rfl (fun H locs hP hD hS => ?_)
                                                refine lv_aload_n F.1 F.2.1 dX4_isSame_460 rfl (lv_at hl 2 rfl) ?_
                                                refine lv_aload F.1 F.2.1 dX4_isSame_461 (lv_at hl 1 rfl) ?_
                                                refine q_pV (n := 1) (rest := [.int (bI (dareP S v))]) (v := bI (S 0 0 ≤ S 7 v)) F (c_X4_isIn l D cI cA z S v hI (by first | assumption | omega)) gX4_isSame_X4_isIn rfl (by decide +kernel) ⟨Nat.le_of_ble_eq_true rfl, Nat.le_of_ble_eq_true rfl⟩ rfl hl.1 rfl (Nat.le_of_ble_eq_true rfl) dX4_isSame_463 ⟨show ce335 + 1 + 1 + 1 + 1 + 1 + 1 + 1 + 1 + 1 ≤ 140 by omega, show sl335 + 6 + 6 + 6 + 6 + 6 + 6 + 6 + 4 + 6 ≤ 800 by omega⟩ hK hP hS rfl (q0 := 0) (ci := 4) rfl rfl (fun H locs hP hS => ?_)
                                                refine k_ifne_b (tgt := 482) F dX4_isSame_466 (by decide) (fun h466 => ?_) (fun h466 => ?_)
                                                · skip
                                                  refine lv_iconst (v := nI 0) F.1 F.2.1 dX4_isSame_482 (by decide) ?_
                                                  refine lv_icmp_eq (tgt := 488) F.1 F.2.1 dX4_isSame_483 (by decide) (fun h483 => ?_) (fun h483 => ?_)
                                                  · skip
                                                    refine k_inc (k := 7) (lv' := [(5, .int (nI (v + 1))), (7, .int (nI (hisG S (S 7 v) (S 6 v)))), (6, .ref (z (12 + v))), (0, .ref (z 0)), (1, .ref (a 13)), (2, .int (nI (S 0 0))), (3, .int (oI (ldN S (S 0 0)).1)), (4, .int (nI (sumN S (S 0 1))))]) F dX4_isSame_488 hl rfl (by decide) rfl (fun ls hl => ?_)
                                                    refine lv_goto (tgt := 335) F.1 F.2.1 dX4_isSame_491 (by decide) ?_
                                                    exact ih335 (v + 1) (by omega) (by omega)  (ce335 + 1 + 1 + 1 + 1 + 1 + 1 + 1 + 1 + 1) (sl335 + 6 + 6 + 6 + 6 + 6 + 6 + 6 + 4 + 6) (by omega) (by omega) _ _ _ hP hD hS (lv_sub hl [3, 4, 5, 6, 7, 0] rfl)
                                                  · skip
                                                    exact absurd (fin0 (b := dareP S v) (fun q => q.1 h466)).symm h483
                                                · skip
                                                  refine lv_iload F.1 F.2.1 dX4_isSame_469 (lv_at hl 0 rfl) ?_
                                                  refine lv_aload F.1 F.2.1 dX4_isSame_471 (lv_at hl 1 rfl) ?_
                                                  refine lv_iconst (v := nI 1) F.1 F.2.1 dX4_isSame_473 (by decide) ?_
                                                  refine q_iald (v := S 9 v) F hK hP (4 + S 0 1 + v) (pre_at (wSi_v (show v < S 0 2 by omega))) (by decide) (by first | omega | decide) rfl dX4_isSame_474 ?_
                                                  have := hI.brave v
                                                  refine k_icmp_gt (tgt := 482) F (by omega) (by omega) dX4_isSame_475 (by decide) (fun h475 => ?_) (fun h475 => ?_)
                                                  · skip
                                                    refine lv_iconst (v := nI 0) F.1 F.2.1 dX4_isSame_482 (by decide) ?_
                                                    refine lv_icmp_eq (tgt := 488) F.1 F.2.1 dX4_isSame_483 (by decide) (fun h483 => ?_) (fun h483 => ?_)
                                                    · skip
                                                      refine k_inc (k := 7) (lv' := [(5, .int (nI (v + 1))), (7, .int (nI (hisG S (S 7 v) (S 6 v)))), (6, .ref (z (12 + v))), (0, .ref (z 0)), (1, .ref (a 13)), (2, .int (nI (S 0 0))), (3, .int (oI (ldN S (S 0 0)).1)), (4, .int (nI (sumN S (S 0 1))))]) F dX4_isSame_488 hl rfl (by decide) rfl (fun ls hl => ?_)
                                                      refine lv_goto (tgt := 335) F.1 F.2.1 dX4_isSame_491 (by decide) ?_
                                                      exact ih335 (v + 1) (by omega) (by omega)  (ce335 + 1 + 1 + 1 + 1 + 1 + 1 + 1 + 1 + 1) (sl335 + 6 + 6 + 6 + 6 + 6 + 6 + 6 + 4 + 6) (by omega) (by omega) _ _ _ hP hD hS (lv_sub hl [3, 4, 5, 6, 7, 0] rfl)
                                                    · skip
                                                      exact absurd (fin0 (b := dareP S v) (fun q => absurd q.2 (by omega))).symm h483
                                                  · skip
                                                    refine lv_iconst (v := nI 1) F.1 F.2.1 dX4_isSame_478 (by decide) ?_
                                                    refine lv_goto (tgt := 483) F.1 F.2.1 dX4_isSame_479 (by decide) ?_
                                                    refine lv_icmp_eq (tgt := 488) F.1 F.2.1 dX4_isSame_483 (by decide) (fun h483 => ?_) (fun h483 => ?_)
                                                    · skip
                                                      refine k_inc (k := 7) (lv' := [(5, .int (nI (v + 1))), (7, .int (nI (hisG S (S 7 v) (S 6 v)))), (6, .ref (z (12 + v))), (0, .ref (z 0)), (1, .ref (a 13)), (2, .int (nI (S 0 0))), (3, .int (oI (ldN S (S 0 0)).1)), (4, .int (nI (sumN S (S 0 1))))]) F dX4_isSame_488 hl rfl (by decide) rfl (fun ls hl => ?_)
                                                      refine lv_goto (tgt := 335) F.1 F.2.1 dX4_isSame_491 (by decide) ?_
                                                      exact ih335 (v + 1) (by omega) (by omega)  (ce335 + 1 + 1 + 1 + 1 + 1 + 1 + 1 + 1 + 1) (sl335 + 6 + 6 + 6 + 6 + 6 + 6 + 6 + 4 + 6) (by omega) (by omega) _ _ _ hP hD hS (lv_sub hl [3, 4, 5, 6, 7, 0] rfl)
                                                    · skip
                                                      exact absurd (fin1 (b := dareP S v) ⟨h466, by omega⟩).symm h483
                            have e_9 : sumN S k = (sumN S (S 0 1)) := by first | rfl | omega | (rw [show k = S 0 1 by omega])
                            rw [e_9] at hl
                            exact loop335 ((S 0 2) + 1) 0 (by omega) (by omega)  (ce244) (sl244) (by omega) (by omega) _ _ _ hP hD hS (lv_sub hl [1, 2, 3, 4, 5, 0] rfl)
                          · skip
                            refine lv_aload_n F.1 F.2.1 dX4_isSame_254 rfl (lv_at hl 0 rfl) ?_
                            refine k_get (v := .ref (z 2)) F nX4_isSame_X4 hK.1.1 hP 0 (pre_at rfl) rfl 4 (by decide) (List.mem_of_getElem? (i := 3) rfl) rfl dX4_isSame_255 ?_
                            refine lv_iload F.1 F.2.1 dX4_isSame_258 (lv_at hl 5 rfl) ?_
                            refine q_aald (v := z (4 + k)) F hK hP 2 (pre_at rfl) (show k < S 0 1 by omega) (show S 0 1 < 2 ^ 31 by omega) rfl dX4_isSame_260 ?_
                            refine lv_astore (lv' := [(6, .ref (z (4 + k))), (0, .ref (z 0)), (1, .ref (a 13)), (2, .int (nI (S 0 0))), (3, .int (oI (ldN S (S 0 0)).1)), (4, .int (nI (sumN S k))), (5, .int (nI k))]) F.1 F.2.1 dX4_isSame_261 hl (by decide) rfl (fun ls hl => ?_)
                            refine lv_iload F.1 F.2.1 dX4_isSame_263 (lv_at hl 5 rfl) ?_
                            refine lv_aload F.1 F.2.1 dX4_isSame_265 (lv_at hl 0 rfl) ?_
                            refine lv_iconst (v := nI 1) F.1 F.2.1 dX4_isSame_267 (by decide) ?_
                            refine q_iald (v := S 3 k) F hK hP (4 + k) (pre_at (wSi_g (show k < S 0 1 by omega))) (by decide) (by first | omega | decide) rfl dX4_isSame_268 ?_
                            have := hI.mood k
                            refine k_iadd F dX4_isSame_269 ?_
                            refine lv_istore (lv' := [(4, .int (nI (sumN S k + S 3 k))), (6, .ref (z (4 + k))), (0, .ref (z 0)), (1, .ref (a 13)), (2, .int (nI (S 0 0))), (3, .int (oI (ldN S (S 0 0)).1)), (5, .int (nI k))]) F.1 F.2.1 dX4_isSame_270 hl (by decide) rfl (fun ls hl => ?_)
                            refine lv_aload_n F.1 F.2.1 dX4_isSame_272 rfl (lv_at hl 3 rfl) ?_
                            refine lv_iload F.1 F.2.1 dX4_isSame_273 (lv_at hl 6 rfl) ?_
                            have ok_10 : r1 (S 0 1) (nI k) (nI (S 2 (cl (nI k)))) = (0, nI (S 2 k)) := by rw [cl_nI (show k < 2 ^ 31 by omega)]; exact r1_y (okI_nI (by omega) (by omega))
                            refine x_tI (n := 1) (rest := []) (v := nI (S 2 k)) (w1 := (wCo cI a b S S2)) F (c_X3_gateOf l D cI hst a b S S2 (nI k) hI) (by rw [ok_10]; rfl) (by rw [ok_10]) rfl gX4_isSame_X3_gateOf rfl (by decide +kernel) ⟨Nat.le_of_ble_eq_true rfl, Nat.le_of_ble_eq_true rfl⟩ rfl hl.1 rfl (Nat.le_of_ble_eq_true rfl) dX4_isSame_275 ⟨show ce244 + 1 ≤ 140 by omega, show sl244 + 6 ≤ 800 by omega⟩ hK hX hP hD hS ap_t rfl rfl ((wSi cI cA z S) ++ (wCo cI a b S S2)) (congrArg _ (List.append_nil _)) (q0 := 0) (ci := 3) rfl rfl (fun H locs hP hD hS => ?_)
                            refine lv_aload F.1 F.2.1 dX4_isSame_278 (lv_at hl 1 rfl) ?_
                            refine lv_iconst (v := nI 0) F.1 F.2.1 dX4_isSame_280 (by decide) ?_
                            refine q_iald (v := S 2 k) F hK hP (4 + k) (pre_at (wSi_g (show k < S 0 1 by omega))) (by decide) (by first | omega | decide) rfl dX4_isSame_281 ?_
                            have := hI.keep k
                            refine lv_icmp_ne (tgt := 324) F.1 F.2.1 dX4_isSame_282 (by decide) (fun h282 => ?_) (fun h282 => ?_)
                            · skip
                              exact absurd rfl h282
                            · skip
                              refine lv_aload_n F.1 F.2.1 dX4_isSame_285 rfl (lv_at hl 3 rfl) ?_
                              refine lv_iload F.1 F.2.1 dX4_isSame_286 (lv_at hl 6 rfl) ?_
                              have ok_11 : r1 (S 0 1) (nI k) (nI (S 3 (cl (nI k)))) = (0, nI (S 3 k)) := by rw [cl_nI (show k < 2 ^ 31 by omega)]; exact r1_y (okI_nI (by omega) (by omega))
                              refine x_tI (n := 1) (rest := []) (v := nI (S 3 k)) (w1 := (wCo cI a b S S2)) F (c_X3_temperOf l D cI hst a b S S2 (nI k) hI) (by rw [ok_11]; rfl) (by rw [ok_11]) rfl gX4_isSame_X3_temperOf rfl (by decide +kernel) ⟨Nat.le_of_ble_eq_true rfl, Nat.le_of_ble_eq_true rfl⟩ rfl hl.1 rfl (Nat.le_of_ble_eq_true rfl) dX4_isSame_288 ⟨show ce244 + 1 + 1 ≤ 140 by omega, show sl244 + 6 + 6 ≤ 800 by omega⟩ hK hX hP hD hS ap_t rfl rfl ((wSi cI cA z S) ++ (wCo cI a b S S2)) (congrArg _ (List.append_nil _)) (q0 := 0) (ci := 3) rfl rfl (fun H locs hP hD hS => ?_)
                              refine lv_aload F.1 F.2.1 dX4_isSame_291 (lv_at hl 1 rfl) ?_
                              refine lv_iconst (v := nI 1) F.1 F.2.1 dX4_isSame_293 (by decide) ?_
                              refine q_iald (v := S 3 k) F hK hP (4 + k) (pre_at (wSi_g (show k < S 0 1 by omega))) (by decide) (by first | omega | decide) rfl dX4_isSame_294 ?_
                              have := hI.mood k
                              refine lv_icmp_ne (tgt := 324) F.1 F.2.1 dX4_isSame_295 (by decide) (fun h295 => ?_) (fun h295 => ?_)
                              · skip
                                exact absurd rfl h295
                              · skip
                                refine lv_aload_n F.1 F.2.1 dX4_isSame_298 rfl (lv_at hl 3 rfl) ?_
                                refine lv_iload F.1 F.2.1 dX4_isSame_299 (lv_at hl 6 rfl) ?_
                                have ok_12 : r1 (S 0 1) (nI k) (nI (S 4 (cl (nI k)))) = (0, nI (S 4 k)) := by rw [cl_nI (show k < 2 ^ 31 by omega)]; exact r1_y (okI_nI (by omega) (by omega))
                                refine x_tI (n := 1) (rest := []) (v := nI (S 4 k)) (w1 := (wCo cI a b S S2)) F (c_X3_calmFor l D cI hst a b S S2 (nI k) hI) (by rw [ok_12]; rfl) (by rw [ok_12]) rfl gX4_isSame_X3_calmFor rfl (by decide +kernel) ⟨Nat.le_of_ble_eq_true rfl, Nat.le_of_ble_eq_true rfl⟩ rfl hl.1 rfl (Nat.le_of_ble_eq_true rfl) dX4_isSame_301 ⟨show ce244 + 1 + 1 + 1 ≤ 140 by omega, show sl244 + 6 + 6 + 6 ≤ 800 by omega⟩ hK hX hP hD hS ap_t rfl rfl ((wSi cI cA z S) ++ (wCo cI a b S S2)) (congrArg _ (List.append_nil _)) (q0 := 0) (ci := 3) rfl rfl (fun H locs hP hD hS => ?_)
                                refine lv_aload F.1 F.2.1 dX4_isSame_304 (lv_at hl 1 rfl) ?_
                                refine lv_iconst (v := nI 2) F.1 F.2.1 dX4_isSame_306 (by decide) ?_
                                refine q_iald (v := S 4 k) F hK hP (4 + k) (pre_at (wSi_g (show k < S 0 1 by omega))) (by decide) (by first | omega | decide) rfl dX4_isSame_307 ?_
                                have := hI.rest k
                                refine lv_icmp_ne (tgt := 324) F.1 F.2.1 dX4_isSame_308 (by decide) (fun h308 => ?_) (fun h308 => ?_)
                                · skip
                                  exact absurd rfl h308
                                · skip
                                  refine lv_aload_n F.1 F.2.1 dX4_isSame_311 rfl (lv_at hl 3 rfl) ?_
                                  refine lv_iload F.1 F.2.1 dX4_isSame_312 (lv_at hl 6 rfl) ?_
                                  have ok_13 : r1 (S 0 1) (nI k) (nI (S 5 (cl (nI k)))) = (0, nI (S 5 k)) := by rw [cl_nI (show k < 2 ^ 31 by omega)]; exact r1_y (okI_nI (by omega) (by omega))
                                  refine x_tI (n := 1) (rest := []) (v := nI (S 5 k)) (w1 := (wCo cI a b S S2)) F (c_X3_eatenBy l D cI hst a b S S2 (nI k) hI) (by rw [ok_13]; rfl) (by rw [ok_13]) rfl gX4_isSame_X3_eatenBy rfl (by decide +kernel) ⟨Nat.le_of_ble_eq_true rfl, Nat.le_of_ble_eq_true rfl⟩ rfl hl.1 rfl (Nat.le_of_ble_eq_true rfl) dX4_isSame_314 ⟨show ce244 + 1 + 1 + 1 + 1 ≤ 140 by omega, show sl244 + 6 + 6 + 6 + 6 ≤ 800 by omega⟩ hK hX hP hD hS ap_t rfl rfl ((wSi cI cA z S) ++ (wCo cI a b S S2)) (congrArg _ (List.append_nil _)) (q0 := 0) (ci := 3) rfl rfl (fun H locs hP hD hS => ?_)
                                  refine lv_aload F.1 F.2.1 dX4_isSame_317 (lv_at hl 1 rfl) ?_
                                  refine lv_iconst (v := nI 3) F.1 F.2.1 dX4_isSame_319 (by decide) ?_
                                  refine q_iald (v := S 5 k) F hK hP (4 + k) (pre_at (wSi_g (show k < S 0 1 by omega))) (by decide) (by first | omega | decide) rfl dX4_isSame_320 ?_
                                  refine lv_icmp_eq (tgt := 326) F.1 F.2.1 dX4_isSame_321 (by decide) (fun h321 => ?_) (fun h321 => ?_)
                                  · skip
                                    refine k_inc (k := 6) (lv' := [(5, .int (nI (k + 1))), (4, .int (nI (sumN S k + S 3 k))), (6, .ref (z (4 + k))), (0, .ref (z 0)), (1, .ref (a 13)), (2, .int (nI (S 0 0))), (3, .int (oI (ldN S (S 0 0)).1))]) F dX4_isSame_326 hl rfl (by decide) rfl (fun ls hl => ?_)
                                    refine lv_goto (tgt := 244) F.1 F.2.1 dX4_isSame_329 (by decide) ?_
                                    have e_14 : (sumN S k + S 3 k) = sumN S (k + 1) := by first | rfl | omega | (rw [show g = S 0 0 by omega])
                                    rw [e_14] at hl
                                    exact ih244 (k + 1) (by omega) (by omega)  (ce244 + 1 + 1 + 1 + 1) (sl244 + 6 + 6 + 6 + 6) (by omega) (by omega) _ _ _ hP hD hS (lv_sub hl [3, 4, 5, 6, 1, 0] rfl)
                                  · skip
                                    exact absurd rfl h321
                      have e_15 : oI (ldN S g).1 = oI (ldN S (S 0 0)).1 := by first | rfl | omega | (rw [show g = S 0 0 by omega])
                      rw [e_15] at hl
                      have e_16 : 0 = sumN S 0 := by first | rfl | omega | (rw [show g = S 0 0 by omega])
                      rw [e_16] at hl
                      exact loop244 ((S 0 1) + 1) 0 (by omega) (by omega)  (ce89) (sl89) (by omega) (by omega) _ _ _ hP hD hS (lv_sub hl [2, 3, 4, 5, 1, 0] rfl)
                    · skip
                      refine lv_iconst (v := nI 0) F.1 F.2.1 dX4_isSame_95 (by decide) ?_
                      refine lv_istore (lv' := [(5, .int (nI 0)), (0, .ref (z 0)), (1, .ref (a 13)), (2, .int (nI (S 0 0))), (3, .int (oI (ldN S g).1)), (4, .int (nI g))]) F.1 F.2.1 dX4_isSame_96 hl (by decide) rfl (fun ls hl => ?_)
                      refine lv_aload_n F.1 F.2.1 dX4_isSame_98 rfl (lv_at hl 1 rfl) ?_
                      refine k_get (v := .ref (z 2)) F nX4_isSame_X4 hK.1.1 hP 0 (pre_at rfl) rfl 4 (by decide) (List.mem_of_getElem? (i := 3) rfl) rfl dX4_isSame_99 ?_
                      refine lv_astore (lv' := [(6, .ref (z 2)), (5, .int (nI 0)), (0, .ref (z 0)), (1, .ref (a 13)), (2, .int (nI (S 0 0))), (3, .int (oI (ldN S g).1)), (4, .int (nI g))]) F.1 F.2.1 dX4_isSame_102 hl (by decide) rfl (fun ls hl => ?_)
                      refine lv_aload F.1 F.2.1 dX4_isSame_104 (lv_at hl 0 rfl) ?_
                      refine q_alenA F hK hP 2 (pre_at rfl) dX4_isSame_106 ?_
                      refine lv_istore (lv' := [(7, .int (nI (S 0 1))), (6, .ref (z 2)), (5, .int (nI 0)), (0, .ref (z 0)), (1, .ref (a 13)), (2, .int (nI (S 0 0))), (3, .int (oI (ldN S g).1)), (4, .int (nI g))]) F.1 F.2.1 dX4_isSame_107 hl (by decide) rfl (fun ls hl => ?_)
                      refine lv_iconst (v := nI 0) F.1 F.2.1 dX4_isSame_109 (by decide) ?_
                      refine lv_istore (lv' := [(8, .int (nI 0)), (7, .int (nI (S 0 1))), (6, .ref (z 2)), (5, .int (nI 0)), (0, .ref (z 0)), (1, .ref (a 13)), (2, .int (nI (S 0 0))), (3, .int (oI (ldN S g).1)), (4, .int (nI g))]) F.1 F.2.1 dX4_isSame_110 hl (by decide) rfl (fun ls hl => ?_)
                      have loop112 : ∀ (n : Nat) (j : Nat), j ≤ S 0 1 → S 0 1 + 1 ≤ j + n → ∀ (H : Heap) (locs : List Loc) (ls : Array Slot), va_P D vwCl ((wSi cI cA z S) ++ (wCo cI a b S S2)) H → va_D (va_A ((wSi cI cA z S) ++ (wCo cI a b S S2)) sz) ((wSi cI cA z S) ++ (wCo cI a b S S2)) → va_S (va_A ((wSi cI cA z S) ++ (wCo cI a b S S2)) sz) s.heap H locs → lv_has ls 10 [(0, .ref (z 0)), (1, .ref (a 13)), (2, .int (nI (S 0 0))), (3, .int (oI (ldN S g).1)), (4, .int (nI g)), (5, .int (nI (cntN S g j))), (6, .ref (z 2)), (7, .int (nI (S 0 1))), (8, .int (nI j))] → W p l e (rmG 9 140 800 157) s m args below meth c H locs (ce89) (sl89) (QGI below args s D 140 800 ((wSi cI cA z S) ++ (wCo cI a b S S2)) sz ((wSi cI cA z S) ++ (wCo cI a b S S2)) (nI 1)) (F0 m 112 ls []) := by
                        intro n
                        induction n with
                        | zero => intro j hi hn; exact absurd hn (by omega)
                        | succ n ih112 =>
                          intro j hi hn  H locs ls hP hD hS hl
                          refine lv_iload F.1 F.2.1 dX4_isSame_112 (lv_at hl 8 rfl) ?_
                          refine lv_iload F.1 F.2.1 dX4_isSame_114 (lv_at hl 7 rfl) ?_
                          refine k_icmp_ge (tgt := 151) F (by omega) (by omega) dX4_isSame_116 (by decide) (fun h116 => ?_) (fun h116 => ?_)
                          · skip
                            have ej : j = S 0 1 := by omega
                            subst ej
                            rcases nz_or (ldN S g).1 with hb9 | ⟨b9, hb9⟩
                            · skip
                              have hl : lv_has ls 10 [(0, .ref (z 0)), (1, .ref (a 13)), (2, .int (nI (S 0 0))), (3, .int (-1)), (4, .int (nI g)), (5, .int (nI (cntN S g (S 0 1)))), (6, .ref (z 2)), (7, .int (nI (S 0 1)))] := by rw [hb9, oI_0] at hl; exact lv_sub hl [0, 1, 2, 3, 4, 5, 6, 7] rfl
                              refine lv_iload_n F.1 F.2.1 dX4_isSame_151 rfl (lv_at hl 3 rfl) ?_
                              refine lv_if_lt (tgt := 171) F.1 F.2.1 dX4_isSame_152 (by decide) (fun h152 => ?_) (fun h152 => ?_)
                              · skip
                                refine lv_iload F.1 F.2.1 dX4_isSame_171 (lv_at hl 4 rfl) ?_
                                refine lv_istore_n (lv' := [(3, .int (nI g)), (0, .ref (z 0)), (1, .ref (a 13)), (2, .int (nI (S 0 0))), (4, .int (nI g)), (5, .int (nI (cntN S g (S 0 1)))), (6, .ref (z 2)), (7, .int (nI (S 0 1)))]) F.1 F.2.1 dX4_isSame_173 rfl hl (by decide) rfl (fun ls hl => ?_)
                                refine lv_aload_n F.1 F.2.1 dX4_isSame_174 rfl (lv_at hl 2 rfl) ?_
                                refine lv_iload F.1 F.2.1 dX4_isSame_175 (lv_at hl 4 rfl) ?_
                                have ok_17 : r1 (S 0 0) (nI g) (nI (S 1 (cl (nI g)))) = (0, nI (S 1 g)) := by rw [cl_nI (show g < 2 ^ 31 by omega)]; exact r1_y (okI_nI (by omega) (by omega))
                                refine x_tI (n := 1) (rest := []) (v := nI (S 1 g)) (w1 := (wCo cI a b S S2)) F (c_X3_rankOf l D cI hst a b S S2 (nI g) hI) (by rw [ok_17]; rfl) (by rw [ok_17]) rfl gX4_isSame_X3_rankOf rfl (by decide +kernel) ⟨Nat.le_of_ble_eq_true rfl, Nat.le_of_ble_eq_true rfl⟩ rfl hl.1 rfl (Nat.le_of_ble_eq_true rfl) dX4_isSame_177 ⟨show ce89 + 1 ≤ 140 by omega, show sl89 + 6 ≤ 800 by omega⟩ hK hX hP hD hS ap_t rfl rfl ((wSi cI cA z S) ++ (wCo cI a b S S2)) (congrArg _ (List.append_nil _)) (q0 := 0) (ci := 3) rfl rfl (fun H locs hP hD hS => ?_)
                                refine lv_aload_n F.1 F.2.1 dX4_isSame_180 rfl (lv_at hl 1 rfl) ?_
                                refine k_get (v := .ref (z 1)) F nX4_isSame_X4 hK.1.1 hP 0 (pre_at rfl) rfl 3 (by decide) (List.mem_of_getElem? (i := 1) rfl) rfl dX4_isSame_181 ?_
                                refine lv_iload F.1 F.2.1 dX4_isSame_184 (lv_at hl 4 rfl) ?_
                                refine q_iald (f := S 1) (v := S 1 g) F hK hP 1 (pre_at rfl) (show g < S 0 0 by omega) (show S 0 0 < 2 ^ 31 by omega) rfl dX4_isSame_186 ?_
                                have := hI.rank g
                                refine lv_icmp_ne (tgt := 230) F.1 F.2.1 dX4_isSame_187 (by decide) (fun h187 => ?_) (fun h187 => ?_)
                                · skip
                                  exact absurd rfl h187
                                · skip
                                  refine lv_aload_n F.1 F.2.1 dX4_isSame_190 rfl (lv_at hl 2 rfl) ?_
                                  refine lv_iload F.1 F.2.1 dX4_isSame_191 (lv_at hl 4 rfl) ?_
                                  have ok_18 : r1 (S 0 0) (nI g) (nI (cntN S (cl (nI g)) (S 0 1))) = (0, nI (cntN S g (S 0 1))) := by rw [cl_nI (show g < 2 ^ 31 by omega)]; exact r1_y (okI_nI (by omega) (by omega))
                                  refine x_tI (n := 1) (rest := []) (v := nI (cntN S g (S 0 1))) (w1 := (wCo cI a b S S2)) F (c_X3_awakeAt l D cI hst a b S S2 (nI g) hI) (by rw [ok_18]; rfl) (by rw [ok_18]) rfl gX4_isSame_X3_awakeAt rfl (by decide +kernel) ⟨Nat.le_of_ble_eq_true rfl, Nat.le_of_ble_eq_true rfl⟩ rfl hl.1 rfl (Nat.le_of_ble_eq_true rfl) dX4_isSame_193 ⟨show ce89 + 1 + 1 ≤ 140 by omega, show sl89 + 6 + 6 ≤ 800 by omega⟩ hK hX hP hD hS ap_t rfl rfl ((wSi cI cA z S) ++ (wCo cI a b S S2)) (congrArg _ (List.append_nil _)) (q0 := 0) (ci := 3) rfl rfl (fun H locs hP hD hS => ?_)
                                  refine lv_iload F.1 F.2.1 dX4_isSame_196 (lv_at hl 5 rfl) ?_
                                  refine lv_icmp_ne (tgt := 230) F.1 F.2.1 dX4_isSame_198 (by decide) (fun h198 => ?_) (fun h198 => ?_)
                                  · skip
                                    exact absurd rfl h198
                                  · skip
                                    refine lv_aload_n F.1 F.2.1 dX4_isSame_201 rfl (lv_at hl 2 rfl) ?_
                                    refine lv_iload F.1 F.2.1 dX4_isSame_202 (lv_at hl 4 rfl) ?_
                                    refine lv_aload_n F.1 F.2.1 dX4_isSame_204 rfl (lv_at hl 1 rfl) ?_
                                    refine k_get (v := .int (nI (S 0 3))) F nX4_isSame_X4 hK.1.1 hP 0 (pre_at rfl) rfl 0 (by decide) (List.mem_of_getElem? (i := 2) rfl) rfl dX4_isSame_205 ?_
                                    refine lv_bipush (v := nI 10) F.1 F.2.1 dX4_isSame_208 (by decide) ?_
                                    refine lv_irem F.1 F.2.1 dX4_isSame_210 (by decide) ?_
                                    rw [pk_rem (by omega) (by decide) (by decide)]
                                    have ok_19 : rHiss S (nI g) (nI (S 0 3 % 10)) = (0, nI (hisG S g (S 0 3 % 10))) := ok_hiss hI (by omega) (by omega)
                                    refine x_tI (n := 2) (rest := []) (v := nI (hisG S g (S 0 3 % 10))) (w1 := (wCo cI a b S S2)) F (c_X3_hissOf l D cI hst a b S S2 (nI g) (nI (S 0 3 % 10)) hI) (by rw [ok_19]; rfl) (by rw [ok_19]) rfl gX4_isSame_X3_hissOf rfl (by decide +kernel) ⟨Nat.le_of_ble_eq_true rfl, Nat.le_of_ble_eq_true rfl⟩ rfl hl.1 rfl (Nat.le_of_ble_eq_true rfl) dX4_isSame_211 ⟨show ce89 + 1 + 1 + 2 ≤ 140 by omega, show sl89 + 6 + 6 + 12 ≤ 800 by omega⟩ hK hX hP hD hS ap_t rfl rfl ((wSi cI cA z S) ++ (wCo cI a b S S2)) (congrArg _ (List.append_nil _)) (q0 := 0) (ci := 3) rfl rfl (fun H locs hP hD hS => ?_)
                                    refine lv_aload_n F.1 F.2.1 dX4_isSame_214 rfl (lv_at hl 1 rfl) ?_
                                    refine lv_iload F.1 F.2.1 dX4_isSame_215 (lv_at hl 4 rfl) ?_
                                    refine lv_aload_n F.1 F.2.1 dX4_isSame_217 rfl (lv_at hl 1 rfl) ?_
                                    refine k_get (v := .int (nI (S 0 3))) F nX4_isSame_X4 hK.1.1 hP 0 (pre_at rfl) rfl 0 (by decide) (List.mem_of_getElem? (i := 2) rfl) rfl dX4_isSame_218 ?_
                                    refine lv_bipush (v := nI 10) F.1 F.2.1 dX4_isSame_221 (by decide) ?_
                                    refine lv_irem F.1 F.2.1 dX4_isSame_223 (by decide) ?_
                                    rw [pk_rem (by omega) (by decide) (by decide)]
                                    refine q_pV (n := 2) (rest := [.int (nI (hisG S g (S 0 3 % 10)))]) (v := nI (hisG S g (S 0 3 % 10))) F (c_X4_hiss l D cI cA z S g (S 0 3 % 10) hI (by first | assumption | omega) (by first | assumption | omega)) gX4_isSame_X4_hiss rfl (by decide +kernel) ⟨Nat.le_of_ble_eq_true rfl, Nat.le_of_ble_eq_true rfl⟩ rfl hl.1 rfl (Nat.le_of_ble_eq_true rfl) dX4_isSame_224 ⟨show ce89 + 1 + 1 + 2 ≤ 140 by omega, show sl89 + 6 + 6 + 12 ≤ 800 by omega⟩ hK hP hS rfl (q0 := 0) (ci := 4) rfl rfl (fun H locs hP hS => ?_)
                                    have := hisG_le hI g (S 0 3 % 10)
                                    refine lv_icmp_eq (tgt := 232) F.1 F.2.1 dX4_isSame_227 (by decide) (fun h227 => ?_) (fun h227 => ?_)
                                    · skip
                                      refine k_inc (k := 4) (lv' := [(4, .int (nI (g + 1))), (3, .int (nI g)), (0, .ref (z 0)), (1, .ref (a 13)), (2, .int (nI (S 0 0))), (5, .int (nI (cntN S g (S 0 1)))), (6, .ref (z 2)), (7, .int (nI (S 0 1)))]) F dX4_isSame_232 hl rfl (by decide) rfl (fun ls hl => ?_)
                                      refine lv_goto (tgt := 89) F.1 F.2.1 dX4_isSame_235 (by decide) ?_
                                      have e_20 : nI g = oI (ldN S (g + 1)).1 := by rw [(show ldN S (g + 1) = if (ldN S g).1 = 0 ∨ (ldN S g).2 < hisG S g 0 then (g + 1, hisG S g 0) else ldN S g from rfl), if_pos (Or.inl hb9)]; exact (oI_succ g).symm
                                      rw [e_20] at hl
                                      exact ih89 (g + 1) (by omega) (by omega)  (ce89 + 1 + 1 + 2) (sl89 + 6 + 6 + 12) (by omega) (by omega) _ _ _ hP hD hS (lv_sub hl [2, 3, 4, 1, 0] rfl)
                                    · skip
                                      exact absurd rfl h227
                              · exact absurd (show (-1 : Int32) < 0 by decide) h152
                            · skip
                              have hl : lv_has ls 10 [(0, .ref (z 0)), (1, .ref (a 13)), (2, .int (nI (S 0 0))), (3, .int (nI b9)), (4, .int (nI g)), (5, .int (nI (cntN S g (S 0 1)))), (6, .ref (z 2)), (7, .int (nI (S 0 1)))] := by rw [hb9, oI_succ] at hl; exact lv_sub hl [0, 1, 2, 3, 4, 5, 6, 7] rfl
                              obtain ⟨hv1, hv2⟩ := ldN_val S g b9 hb9
                              refine lv_iload_n F.1 F.2.1 dX4_isSame_151 rfl (lv_at hl 3 rfl) ?_
                              refine lv_if_lt (tgt := 171) F.1 F.2.1 dX4_isSame_152 (by decide) (fun h152 => ?_) (fun h152 => ?_)
                              · exact absurd h152 (nI_pos (by omega))
                              · skip
                                refine lv_aload_n F.1 F.2.1 dX4_isSame_155 rfl (lv_at hl 0 rfl) ?_
                                refine lv_iload F.1 F.2.1 dX4_isSame_156 (lv_at hl 4 rfl) ?_
                                refine lv_iconst (v := nI 0) F.1 F.2.1 dX4_isSame_158 (by decide) ?_
                                refine q_pV (n := 2) (rest := []) (v := nI (hisG S g 0)) F (c_X4_hiss l D cI cA z S g 0 hI (by first | assumption | omega) (by first | assumption | omega)) gX4_isSame_X4_hiss rfl (by decide +kernel) ⟨Nat.le_of_ble_eq_true rfl, Nat.le_of_ble_eq_true rfl⟩ rfl hl.1 rfl (Nat.le_of_ble_eq_true rfl) dX4_isSame_159 ⟨show ce89 ≤ 140 by omega, show sl89 ≤ 800 by omega⟩ hK hP hS rfl (q0 := 0) (ci := 4) rfl rfl (fun H locs hP hS => ?_)
                                have := hisG_le hI g 0
                                refine lv_aload_n F.1 F.2.1 dX4_isSame_162 rfl (lv_at hl 0 rfl) ?_
                                refine lv_iload_n F.1 F.2.1 dX4_isSame_163 rfl (lv_at hl 3 rfl) ?_
                                refine lv_iconst (v := nI 0) F.1 F.2.1 dX4_isSame_164 (by decide) ?_
                                refine q_pV (n := 2) (rest := [.int (nI (hisG S g 0))]) (v := nI (hisG S b9 0)) F (c_X4_hiss l D cI cA z S b9 0 hI (by first | assumption | omega) (by first | assumption | omega)) gX4_isSame_X4_hiss rfl (by decide +kernel) ⟨Nat.le_of_ble_eq_true rfl, Nat.le_of_ble_eq_true rfl⟩ rfl hl.1 rfl (Nat.le_of_ble_eq_true rfl) dX4_isSame_165 ⟨show ce89 ≤ 140 by omega, show sl89 ≤ 800 by omega⟩ hK hP hS rfl (q0 := 0) (ci := 4) rfl rfl (fun H locs hP hS => ?_)
                                have := hisG_le hI b9 0
                                refine k_icmp_le (tgt := 174) F (by omega) (by omega) dX4_isSame_168 (by decide) (fun h168 => ?_) (fun h168 => ?_)
                                · skip
                                  refine lv_aload_n F.1 F.2.1 dX4_isSame_174 rfl (lv_at hl 1 rfl) ?_
                                  refine lv_iload F.1 F.2.1 dX4_isSame_175 (lv_at hl 4 rfl) ?_
                                  have ok_21 : r1 (S 0 0) (nI g) (nI (S 1 (cl (nI g)))) = (0, nI (S 1 g)) := by rw [cl_nI (show g < 2 ^ 31 by omega)]; exact r1_y (okI_nI (by omega) (by omega))
                                  refine x_tI (n := 1) (rest := []) (v := nI (S 1 g)) (w1 := (wCo cI a b S S2)) F (c_X3_rankOf l D cI hst a b S S2 (nI g) hI) (by rw [ok_21]; rfl) (by rw [ok_21]) rfl gX4_isSame_X3_rankOf rfl (by decide +kernel) ⟨Nat.le_of_ble_eq_true rfl, Nat.le_of_ble_eq_true rfl⟩ rfl hl.1 rfl (Nat.le_of_ble_eq_true rfl) dX4_isSame_177 ⟨show ce89 + 1 ≤ 140 by omega, show sl89 + 6 ≤ 800 by omega⟩ hK hX hP hD hS ap_t rfl rfl ((wSi cI cA z S) ++ (wCo cI a b S S2)) (congrArg _ (List.append_nil _)) (q0 := 0) (ci := 3) rfl rfl (fun H locs hP hD hS => ?_)
                                  refine lv_aload_n F.1 F.2.1 dX4_isSame_180 rfl (lv_at hl 0 rfl) ?_
                                  refine k_get (v := .ref (z 1)) F nX4_isSame_X4 hK.1.1 hP 0 (pre_at rfl) rfl 3 (by decide) (List.mem_of_getElem? (i := 1) rfl) rfl dX4_isSame_181 ?_
                                  refine lv_iload F.1 F.2.1 dX4_isSame_184 (lv_at hl 4 rfl) ?_
                                  refine q_iald (f := S 1) (v := S 1 g) F hK hP 1 (pre_at rfl) (show g < S 0 0 by omega) (show S 0 0 < 2 ^ 31 by omega) rfl dX4_isSame_186 ?_
                                  have := hI.rank g
                                  refine lv_icmp_ne (tgt := 230) F.1 F.2.1 dX4_isSame_187 (by decide) (fun h187 => ?_) (fun h187 => ?_)
                                  · skip
                                    exact absurd rfl h187
                                  · skip
                                    refine lv_aload_n F.1 F.2.1 dX4_isSame_190 rfl (lv_at hl 1 rfl) ?_
                                    refine lv_iload F.1 F.2.1 dX4_isSame_191 (lv_at hl 4 rfl) ?_
                                    have ok_22 : r1 (S 0 0) (nI g) (nI (cntN S (cl (nI g)) (S 0 1))) = (0, nI (cntN S g (S 0 1))) := by rw [cl_nI (show g < 2 ^ 31 by omega)]; exact r1_y (okI_nI (by omega) (by omega))
                                    refine x_tI (n := 1) (rest := []) (v := nI (cntN S g (S 0 1))) (w1 := (wCo cI a b S S2)) F (c_X3_awakeAt l D cI hst a b S S2 (nI g) hI) (by rw [ok_22]; rfl) (by rw [ok_22]) rfl gX4_isSame_X3_awakeAt rfl (by decide +kernel) ⟨Nat.le_of_ble_eq_true rfl, Nat.le_of_ble_eq_true rfl⟩ rfl hl.1 rfl (Nat.le_of_ble_eq_true rfl) dX4_isSame_193 ⟨show ce89 + 1 + 1 ≤ 140 by omega, show sl89 + 6 + 6 ≤ 800 by omega⟩ hK hX hP hD hS ap_t rfl rfl ((wSi cI cA z S) ++ (wCo cI a b S S2)) (congrArg _ (List.append_nil _)) (q0 := 0) (ci := 3) rfl rfl (fun H locs hP hD hS => ?_)
                                    refine lv_iload F.1 F.2.1 dX4_isSame_196 (lv_at hl 5 rfl) ?_
                                    refine lv_icmp_ne (tgt := 230) F.1 F.2.1 dX4_isSame_198 (by decide) (fun h198 => ?_) (fun h198 => ?_)
                                    · skip
                                      exact absurd rfl h198
                                    · skip
                                      refine lv_aload_n F.1 F.2.1 dX4_isSame_201 rfl (lv_at hl 1 rfl) ?_
                                      refine lv_iload F.1 F.2.1 dX4_isSame_202 (lv_at hl 4 rfl) ?_
                                      refine lv_aload_n F.1 F.2.1 dX4_isSame_204 rfl (lv_at hl 0 rfl) ?_
                                      refine k_get (v := .int (nI (S 0 3))) F nX4_isSame_X4 hK.1.1 hP 0 (pre_at rfl) rfl 0 (by decide) (List.mem_of_getElem? (i := 2) rfl) rfl dX4_isSame_205 ?_
                                      refine lv_bipush (v := nI 10) F.1 F.2.1 dX4_isSame_208 (by decide) ?_
                                      refine lv_irem F.1 F.2.1 dX4_isSame_210 (by decide) ?_
                                      rw [pk_rem (by omega) (by decide) (by decide)]
                                      have ok_23 : rHiss S (nI g) (nI (S 0 3 % 10)) = (0, nI (hisG S g (S 0 3 % 10))) := ok_hiss hI (by omega) (by omega)
                                      refine x_tI (n := 2) (rest := []) (v := nI (hisG S g (S 0 3 % 10))) (w1 := (wCo cI a b S S2)) F (c_X3_hissOf l D cI hst a b S S2 (nI g) (nI (S 0 3 % 10)) hI) (by rw [ok_23]; rfl) (by rw [ok_23]) rfl gX4_isSame_X3_hissOf rfl (by decide +kernel) ⟨Nat.le_of_ble_eq_true rfl, Nat.le_of_ble_eq_true rfl⟩ rfl hl.1 rfl (Nat.le_of_ble_eq_true rfl) dX4_isSame_211 ⟨show ce89 + 1 + 1 + 2 ≤ 140 by omega, show sl89 + 6 + 6 + 12 ≤ 800 by omega⟩ hK hX hP hD hS ap_t rfl rfl ((wSi cI cA z S) ++ (wCo cI a b S S2)) (congrArg _ (List.append_nil _)) (q0 := 0) (ci := 3) rfl rfl (fun H locs hP hD hS => ?_)
                                      refine lv_aload_n F.1 F.2.1 dX4_isSame_214 rfl (lv_at hl 0 rfl) ?_
                                      refine lv_iload F.1 F.2.1 dX4_isSame_215 (lv_at hl 4 rfl) ?_
                                      refine lv_aload_n F.1 F.2.1 dX4_isSame_217 rfl (lv_at hl 0 rfl) ?_
                                      refine k_get (v := .int (nI (S 0 3))) F nX4_isSame_X4 hK.1.1 hP 0 (pre_at rfl) rfl 0 (by decide) (List.mem_of_getElem? (i := 2) rfl) rfl dX4_isSame_218 ?_
                                      refine lv_bipush (v := nI 10) F.1 F.2.1 dX4_isSame_221 (by decide) ?_
                                      refine lv_irem F.1 F.2.1 dX4_isSame_223 (by decide) ?_
                                      rw [pk_rem (by omega) (by decide) (by decide)]
                                      refine q_pV (n := 2) (rest := [.int (nI (hisG S g (S 0 3 % 10)))]) (v := nI (hisG S g (S 0 3 % 10))) F (c_X4_hiss l D cI cA z S g (S 0 3 % 10) hI (by first | assumption | omega) (by first | assumption | omega)) gX4_isSame_X4_hiss rfl (by decide +kernel) ⟨Nat.le_of_ble_eq_true rfl, Nat.le_of_ble_eq_true rfl⟩ rfl hl.1 rfl (Nat.le_of_ble_eq_true rfl) dX4_isSame_224 ⟨show ce89 + 1 + 1 + 2 ≤ 140 by omega, show sl89 + 6 + 6 + 12 ≤ 800 by omega⟩ hK hP hS rfl (q0 := 0) (ci := 4) rfl rfl (fun H locs hP hS => ?_)
                                      have := hisG_le hI g (S 0 3 % 10)
                                      refine lv_icmp_eq (tgt := 232) F.1 F.2.1 dX4_isSame_227 (by decide) (fun h227 => ?_) (fun h227 => ?_)
                                      · skip
                                        refine k_inc (k := 4) (lv' := [(4, .int (nI (g + 1))), (0, .ref (z 0)), (1, .ref (a 13)), (2, .int (nI (S 0 0))), (3, .int (nI b9)), (5, .int (nI (cntN S g (S 0 1)))), (6, .ref (z 2)), (7, .int (nI (S 0 1)))]) F dX4_isSame_232 hl rfl (by decide) rfl (fun ls hl => ?_)
                                        refine lv_goto (tgt := 89) F.1 F.2.1 dX4_isSame_235 (by decide) ?_
                                        have e_24 : nI b9 = oI (ldN S (g + 1)).1 := by rw [(show ldN S (g + 1) = if (ldN S g).1 = 0 ∨ (ldN S g).2 < hisG S g 0 then (g + 1, hisG S g 0) else ldN S g from rfl), if_neg (by omega), hb9]; exact (oI_succ b9).symm
                                        rw [e_24] at hl
                                        exact ih89 (g + 1) (by omega) (by omega)  (ce89 + 1 + 1 + 2) (sl89 + 6 + 6 + 12) (by omega) (by omega) _ _ _ hP hD hS (lv_sub hl [1, 2, 3, 4, 0] rfl)
                                      · skip
                                        exact absurd rfl h227
                                · skip
                                  refine lv_iload F.1 F.2.1 dX4_isSame_171 (lv_at hl 4 rfl) ?_
                                  refine lv_istore_n (lv' := [(3, .int (nI g)), (0, .ref (z 0)), (1, .ref (a 13)), (2, .int (nI (S 0 0))), (4, .int (nI g)), (5, .int (nI (cntN S g (S 0 1)))), (6, .ref (z 2)), (7, .int (nI (S 0 1)))]) F.1 F.2.1 dX4_isSame_173 rfl hl (by decide) rfl (fun ls hl => ?_)
                                  refine lv_aload_n F.1 F.2.1 dX4_isSame_174 rfl (lv_at hl 2 rfl) ?_
                                  refine lv_iload F.1 F.2.1 dX4_isSame_175 (lv_at hl 4 rfl) ?_
                                  have ok_25 : r1 (S 0 0) (nI g) (nI (S 1 (cl (nI g)))) = (0, nI (S 1 g)) := by rw [cl_nI (show g < 2 ^ 31 by omega)]; exact r1_y (okI_nI (by omega) (by omega))
                                  refine x_tI (n := 1) (rest := []) (v := nI (S 1 g)) (w1 := (wCo cI a b S S2)) F (c_X3_rankOf l D cI hst a b S S2 (nI g) hI) (by rw [ok_25]; rfl) (by rw [ok_25]) rfl gX4_isSame_X3_rankOf rfl (by decide +kernel) ⟨Nat.le_of_ble_eq_true rfl, Nat.le_of_ble_eq_true rfl⟩ rfl hl.1 rfl (Nat.le_of_ble_eq_true rfl) dX4_isSame_177 ⟨show ce89 + 1 ≤ 140 by omega, show sl89 + 6 ≤ 800 by omega⟩ hK hX hP hD hS ap_t rfl rfl ((wSi cI cA z S) ++ (wCo cI a b S S2)) (congrArg _ (List.append_nil _)) (q0 := 0) (ci := 3) rfl rfl (fun H locs hP hD hS => ?_)
                                  refine lv_aload_n F.1 F.2.1 dX4_isSame_180 rfl (lv_at hl 1 rfl) ?_
                                  refine k_get (v := .ref (z 1)) F nX4_isSame_X4 hK.1.1 hP 0 (pre_at rfl) rfl 3 (by decide) (List.mem_of_getElem? (i := 1) rfl) rfl dX4_isSame_181 ?_
                                  refine lv_iload F.1 F.2.1 dX4_isSame_184 (lv_at hl 4 rfl) ?_
                                  refine q_iald (f := S 1) (v := S 1 g) F hK hP 1 (pre_at rfl) (show g < S 0 0 by omega) (show S 0 0 < 2 ^ 31 by omega) rfl dX4_isSame_186 ?_
                                  have := hI.rank g
                                  refine lv_icmp_ne (tgt := 230) F.1 F.2.1 dX4_isSame_187 (by decide) (fun h187 => ?_) (fun h187 => ?_)
                                  · skip
                                    exact absurd rfl h187
                                  · skip
                                    refine lv_aload_n F.1 F.2.1 dX4_isSame_190 rfl (lv_at hl 2 rfl) ?_
                                    refine lv_iload F.1 F.2.1 dX4_isSame_191 (lv_at hl 4 rfl) ?_
                                    have ok_26 : r1 (S 0 0) (nI g) (nI (cntN S (cl (nI g)) (S 0 1))) = (0, nI (cntN S g (S 0 1))) := by rw [cl_nI (show g < 2 ^ 31 by omega)]; exact r1_y (okI_nI (by omega) (by omega))
                                    refine x_tI (n := 1) (rest := []) (v := nI (cntN S g (S 0 1))) (w1 := (wCo cI a b S S2)) F (c_X3_awakeAt l D cI hst a b S S2 (nI g) hI) (by rw [ok_26]; rfl) (by rw [ok_26]) rfl gX4_isSame_X3_awakeAt rfl (by decide +kernel) ⟨Nat.le_of_ble_eq_true rfl, Nat.le_of_ble_eq_true rfl⟩ rfl hl.1 rfl (Nat.le_of_ble_eq_true rfl) dX4_isSame_193 ⟨show ce89 + 1 + 1 ≤ 140 by omega, show sl89 + 6 + 6 ≤ 800 by omega⟩ hK hX hP hD hS ap_t rfl rfl ((wSi cI cA z S) ++ (wCo cI a b S S2)) (congrArg _ (List.append_nil _)) (q0 := 0) (ci := 3) rfl rfl (fun H locs hP hD hS => ?_)
                                    refine lv_iload F.1 F.2.1 dX4_isSame_196 (lv_at hl 5 rfl) ?_
                                    refine lv_icmp_ne (tgt := 230) F.1 F.2.1 dX4_isSame_198 (by decide) (fun h198 => ?_) (fun h198 => ?_)
                                    · skip
                                      exact absurd rfl h198
                                    · skip
                                      refine lv_aload_n F.1 F.2.1 dX4_isSame_201 rfl (lv_at hl 2 rfl) ?_
                                      refine lv_iload F.1 F.2.1 dX4_isSame_202 (lv_at hl 4 rfl) ?_
                                      refine lv_aload_n F.1 F.2.1 dX4_isSame_204 rfl (lv_at hl 1 rfl) ?_
                                      refine k_get (v := .int (nI (S 0 3))) F nX4_isSame_X4 hK.1.1 hP 0 (pre_at rfl) rfl 0 (by decide) (List.mem_of_getElem? (i := 2) rfl) rfl dX4_isSame_205 ?_
                                      refine lv_bipush (v := nI 10) F.1 F.2.1 dX4_isSame_208 (by decide) ?_
                                      refine lv_irem F.1 F.2.1 dX4_isSame_210 (by decide) ?_
                                      rw [pk_rem (by omega) (by decide) (by decide)]
                                      have ok_27 : rHiss S (nI g) (nI (S 0 3 % 10)) = (0, nI (hisG S g (S 0 3 % 10))) := ok_hiss hI (by omega) (by omega)
                                      refine x_tI (n := 2) (rest := []) (v := nI (hisG S g (S 0 3 % 10))) (w1 := (wCo cI a b S S2)) F (c_X3_hissOf l D cI hst a b S S2 (nI g) (nI (S 0 3 % 10)) hI) (by rw [ok_27]; rfl) (by rw [ok_27]) rfl gX4_isSame_X3_hissOf rfl (by decide +kernel) ⟨Nat.le_of_ble_eq_true rfl, Nat.le_of_ble_eq_true rfl⟩ rfl hl.1 rfl (Nat.le_of_ble_eq_true rfl) dX4_isSame_211 ⟨show ce89 + 1 + 1 + 2 ≤ 140 by omega, show sl89 + 6 + 6 + 12 ≤ 800 by omega⟩ hK hX hP hD hS ap_t rfl rfl ((wSi cI cA z S) ++ (wCo cI a b S S2)) (congrArg _ (List.append_nil _)) (q0 := 0) (ci := 3) rfl rfl (fun H locs hP hD hS => ?_)
                                      refine lv_aload_n F.1 F.2.1 dX4_isSame_214 rfl (lv_at hl 1 rfl) ?_
                                      refine lv_iload F.1 F.2.1 dX4_isSame_215 (lv_at hl 4 rfl) ?_
                                      refine lv_aload_n F.1 F.2.1 dX4_isSame_217 rfl (lv_at hl 1 rfl) ?_
                                      refine k_get (v := .int (nI (S 0 3))) F nX4_isSame_X4 hK.1.1 hP 0 (pre_at rfl) rfl 0 (by decide) (List.mem_of_getElem? (i := 2) rfl) rfl dX4_isSame_218 ?_
                                      refine lv_bipush (v := nI 10) F.1 F.2.1 dX4_isSame_221 (by decide) ?_
                                      refine lv_irem F.1 F.2.1 dX4_isSame_223 (by decide) ?_
                                      rw [pk_rem (by omega) (by decide) (by decide)]
                                      refine q_pV (n := 2) (rest := [.int (nI (hisG S g (S 0 3 % 10)))]) (v := nI (hisG S g (S 0 3 % 10))) F (c_X4_hiss l D cI cA z S g (S 0 3 % 10) hI (by first | assumption | omega) (by first | assumption | omega)) gX4_isSame_X4_hiss rfl (by decide +kernel) ⟨Nat.le_of_ble_eq_true rfl, Nat.le_of_ble_eq_true rfl⟩ rfl hl.1 rfl (Nat.le_of_ble_eq_true rfl) dX4_isSame_224 ⟨show ce89 + 1 + 1 + 2 ≤ 140 by omega, show sl89 + 6 + 6 + 12 ≤ 800 by omega⟩ hK hP hS rfl (q0 := 0) (ci := 4) rfl rfl (fun H locs hP hS => ?_)
                                      have := hisG_le hI g (S 0 3 % 10)
                                      refine lv_icmp_eq (tgt := 232) F.1 F.2.1 dX4_isSame_227 (by decide) (fun h227 => ?_) (fun h227 => ?_)
                                      · skip
                                        refine k_inc (k := 4) (lv' := [(4, .int (nI (g + 1))), (3, .int (nI g)), (0, .ref (z 0)), (1, .ref (a 13)), (2, .int (nI (S 0 0))), (5, .int (nI (cntN S g (S 0 1)))), (6, .ref (z 2)), (7, .int (nI (S 0 1)))]) F dX4_isSame_232 hl rfl (by decide) rfl (fun ls hl => ?_)
                                        refine lv_goto (tgt := 89) F.1 F.2.1 dX4_isSame_235 (by decide) ?_
                                        have e_28 : nI g = oI (ldN S (g + 1)).1 := by rw [(show ldN S (g + 1) = if (ldN S g).1 = 0 ∨ (ldN S g).2 < hisG S g 0 then (g + 1, hisG S g 0) else ldN S g from rfl), if_pos (Or.inr (by omega))]; exact (oI_succ g).symm
                                        rw [e_28] at hl
                                        exact ih89 (g + 1) (by omega) (by omega)  (ce89 + 1 + 1 + 2) (sl89 + 6 + 6 + 12) (by omega) (by omega) _ _ _ hP hD hS (lv_sub hl [2, 3, 4, 1, 0] rfl)
                                      · skip
                                        exact absurd rfl h227
                          · skip
                            refine lv_aload F.1 F.2.1 dX4_isSame_119 (lv_at hl 6 rfl) ?_
                            refine lv_iload F.1 F.2.1 dX4_isSame_121 (lv_at hl 8 rfl) ?_
                            refine q_aald (v := z (4 + j)) F hK hP 2 (pre_at rfl) (show j < S 0 1 by omega) (show S 0 1 < 2 ^ 31 by omega) rfl dX4_isSame_123 ?_
                            refine lv_astore (lv' := [(9, .ref (z (4 + j))), (0, .ref (z 0)), (1, .ref (a 13)), (2, .int (nI (S 0 0))), (3, .int (oI (ldN S g).1)), (4, .int (nI g)), (5, .int (nI (cntN S g j))), (6, .ref (z 2)), (7, .int (nI (S 0 1))), (8, .int (nI j))]) F.1 F.2.1 dX4_isSame_124 hl (by decide) rfl (fun ls hl => ?_)
                            refine lv_aload F.1 F.2.1 dX4_isSame_126 (lv_at hl 0 rfl) ?_
                            refine lv_iconst (v := nI 0) F.1 F.2.1 dX4_isSame_128 (by decide) ?_
                            refine q_iald (v := S 2 j) F hK hP (4 + j) (pre_at (wSi_g (show j < S 0 1 by omega))) (by decide) (by first | omega | decide) rfl dX4_isSame_129 ?_
                            have := hI.keep j
                            refine lv_iload F.1 F.2.1 dX4_isSame_130 (lv_at hl 5 rfl) ?_
                            refine k_icmp_ne (tgt := 145) F (by omega) (by omega) dX4_isSame_132 (by decide) (fun h132 => ?_) (fun h132 => ?_)
                            · skip
                              refine k_inc (k := 9) (lv' := [(8, .int (nI (j + 1))), (9, .ref (z (4 + j))), (0, .ref (z 0)), (1, .ref (a 13)), (2, .int (nI (S 0 0))), (3, .int (oI (ldN S g).1)), (4, .int (nI g)), (5, .int (nI (cntN S g j))), (6, .ref (z 2)), (7, .int (nI (S 0 1)))]) F dX4_isSame_145 hl rfl (by decide) rfl (fun ls hl => ?_)
                              refine lv_goto (tgt := 112) F.1 F.2.1 dX4_isSame_148 (by decide) ?_
                              have e_29 : cntN S g j = cntN S g (j + 1) := by rw [(show cntN S g (j + 1) = if awk S j g then cntN S g j + 1 else cntN S g j from rfl), if_neg (fun q => h132 q.1)]
                              rw [e_29] at hl
                              exact ih112 (j + 1) (by omega) (by omega)  _ _ _ hP hD hS (lv_sub hl [2, 3, 4, 5, 6, 7, 8, 9, 0] rfl)
                            · skip
                              refine lv_aload F.1 F.2.1 dX4_isSame_135 (lv_at hl 0 rfl) ?_
                              refine lv_iconst (v := nI 2) F.1 F.2.1 dX4_isSame_137 (by decide) ?_
                              refine q_iald (v := S 4 j) F hK hP (4 + j) (pre_at (wSi_g (show j < S 0 1 by omega))) (by decide) (by first | omega | decide) rfl dX4_isSame_138 ?_
                              have := hI.rest j
                              refine k_if_ne (tgt := 145) F (by omega) dX4_isSame_139 (by decide) (fun h139 => ?_) (fun h139 => ?_)
                              · skip
                                refine k_inc (k := 9) (lv' := [(8, .int (nI (j + 1))), (9, .ref (z (4 + j))), (0, .ref (z 0)), (1, .ref (a 13)), (2, .int (nI (S 0 0))), (3, .int (oI (ldN S g).1)), (4, .int (nI g)), (5, .int (nI (cntN S g j))), (6, .ref (z 2)), (7, .int (nI (S 0 1)))]) F dX4_isSame_145 hl rfl (by decide) rfl (fun ls hl => ?_)
                                refine lv_goto (tgt := 112) F.1 F.2.1 dX4_isSame_148 (by decide) ?_
                                have e_30 : cntN S g j = cntN S g (j + 1) := by rw [(show cntN S g (j + 1) = if awk S j g then cntN S g j + 1 else cntN S g j from rfl), if_neg (fun q => h139 q.2)]
                                rw [e_30] at hl
                                exact ih112 (j + 1) (by omega) (by omega)  _ _ _ hP hD hS (lv_sub hl [2, 3, 4, 5, 6, 7, 8, 9, 0] rfl)
                              · skip
                                refine k_inc (k := 6) (lv' := [(5, .int (nI (cntN S g j + 1))), (9, .ref (z (4 + j))), (0, .ref (z 0)), (1, .ref (a 13)), (2, .int (nI (S 0 0))), (3, .int (oI (ldN S g).1)), (4, .int (nI g)), (6, .ref (z 2)), (7, .int (nI (S 0 1))), (8, .int (nI j))]) F dX4_isSame_142 hl rfl (by decide) rfl (fun ls hl => ?_)
                                refine k_inc (k := 9) (lv' := [(8, .int (nI (j + 1))), (5, .int (nI (cntN S g j + 1))), (9, .ref (z (4 + j))), (0, .ref (z 0)), (1, .ref (a 13)), (2, .int (nI (S 0 0))), (3, .int (oI (ldN S g).1)), (4, .int (nI g)), (6, .ref (z 2)), (7, .int (nI (S 0 1)))]) F dX4_isSame_145 hl rfl (by decide) rfl (fun ls hl => ?_)
                                refine lv_goto (tgt := 112) F.1 F.2.1 dX4_isSame_148 (by decide) ?_
                                have e_31 : (cntN S g j + 1) = cntN S g (j + 1) := by rw [(show cntN S g (j + 1) = if awk S j g then cntN S g j + 1 else cntN S g j from rfl), if_pos (And.intro h132 h139)]
                                rw [e_31] at hl
                                exact ih112 (j + 1) (by omega) (by omega)  _ _ _ hP hD hS (lv_sub hl [3, 4, 5, 6, 7, 1, 8, 9, 0] rfl)
                      have e_32 : 0 = cntN S g 0 := by first | rfl | omega
                      rw [e_32] at hl
                      exact loop112 ((S 0 1) + 1) 0 (by omega) (by omega)  _ _ _ hP hD hS (lv_sub hl [4, 5, 6, 7, 8, 3, 2, 1, 0] rfl)
                have e_33 : (-1) = oI (ldN S 0).1 := oI_0.symm
                rw [e_33] at hl
                exact loop89 ((S 0 0) + 1) 0 (by omega) (by omega)  (0) (0) (by omega) (by omega) _ _ _ hP hD hS (lv_sub hl [3, 4, 2, 1, 0] rfl)
              · skip
                exact absurd rfl h79
