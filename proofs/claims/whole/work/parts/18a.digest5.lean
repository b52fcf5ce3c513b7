theorem u_eq {f : Nat → Int32} {k : Nat} {v : Int32} : upd f k v k = v := by unfold upd; rw [if_pos rfl]
theorem u_ne {f : Nat → Int32} {k j : Nat} {v : Int32} (h : j ≠ k) : upd f k v j = f j := by unfold upd; rw [if_neg h]
theorem nX4_digest_X4 : ∀ x ∈ wsX40, x ∈ wsX4_digest := fun _ h => List.mem_cons_of_mem _ (List.mem_append_right _ h)
set_option maxRecDepth 100000 in
set_option maxHeartbeats 4000000 in
theorem c_X4_digest (l : Launch) (D : va_G) (cI : ClassId) (u : Nat → Nat) (S : Nat → Nat → Nat) (th : Int32) (K : Nat → Nat) (hI : Inv S) : GL l yX4_digest wsX4_digest 7 25 200 158 D [(cI, .int)] [.ref (u 0)] (wMo cI u S th K) (wMo cI u S (nI 0) (kepN S K (S 0 2))) (dgst S) := by
  intro sz
  refine k_bodyG (cc := cX4_digest) (maxL := 10) (ret := (some .long)) (by decide) rfl (Nat.le_of_ble_eq_true rfl) ?_
  intro p e s m args below meth c H ls hz F hr hlk hl hP hK hD hS
  have F : CallFix p m c cX4_digest 10 s args wsX4_digest RX4 := F
  have hl : lv_has ls 10 [(0, .ref (u 0))] := hl
  have hi0 := hI.gates
  have hi1 := hI.geese
  have hi2 := hI.guests
  refine lv_aload_n F.1 F.2.1 dX4_digest_0 rfl (lv_at hl 0 rfl) ?_
  refine lv_iconst (v := nI 0) F.1 F.2.1 dX4_digest_1 (by decide) ?_
  refine k_put F nX4_digest_X4 tyX4 tyX4_ok nmX4 hK.1 hP hD hS 0 rfl rfl 0 (by decide) (List.mem_of_getElem? (i := 1) rfl) rfl (by decide +kernel) (Nat.le_of_ble_eq_true rfl) dX4_digest_2 (wMo cI u S (nI 0) K) wMo_f0 (fun H locs hP hD hS => ?_)
  refine lv_bipush (v := nI 8) F.1 F.2.1 dX4_digest_5 (by decide) ?_
  refine k_newa F (List.mem_of_getElem? (i := 2) rfl) hK hP hD hS (fun q h => Or.inr (by omega)) (k := 8) (by decide) ⟨show 0 + 1 ≤ 25 by omega, show 0 + 8 ≤ 200 by omega⟩ dX4_digest_7 (fun q7 H hP hD hS => ?_)
  refine lv_dup F.1 F.2.1 dX4_digest_9 rfl ?_
  refine lv_iconst (v := nI 0) F.1 F.2.1 dX4_digest_10 (by decide) ?_
  refine lv_aload_n F.1 F.2.1 dX4_digest_11 rfl (lv_at hl 0 rfl) ?_
  refine k_get (v := .ref (u 4)) F nX4_digest_X4 hK.1 hP 0 rfl rfl 7 (by decide) (List.mem_of_getElem? (i := 3) rfl) rfl dX4_digest_12 ?_
  refine lv_iconst (v := nI 0) F.1 F.2.1 dX4_digest_15 (by decide) ?_
  refine k_iald (f := encN S) (n := 59) F hK.1 hP 4 0 rfl rfl (by omega) (by decide) dX4_digest_16 ?_
  refine k_iasx (f := row (fun _ => 0)) (k := 0) (x := nI (S 0 3)) F hK.1 hP hD hS 6 0 rfl rfl (by decide) (by decide) dX4_digest_17 ((wMo cI u S (nI 0) K) ++ [(q7, .inl (cI, 8, .inl (upd (row (fun _ => 0)) 0 (nI (S 0 3)))))]) rfl (fun H locs hP hD hS => ?_)
  refine lv_dup F.1 F.2.1 dX4_digest_18 rfl ?_
  refine lv_iconst (v := nI 1) F.1 F.2.1 dX4_digest_19 (by decide) ?_
  refine lv_aload_n F.1 F.2.1 dX4_digest_20 rfl (lv_at hl 0 rfl) ?_
  refine k_get (v := .int (nI (S 0 0))) F nX4_digest_X4 hK.1 hP 0 rfl rfl 1 (by decide) (List.mem_of_getElem? (i := 4) rfl) rfl dX4_digest_21 ?_
  refine k_iasx (f := upd (row (fun _ => 0)) 0 (nI (S 0 3))) (k := 1) (x := nI (S 0 0)) F hK.1 hP hD hS 6 0 rfl rfl (by decide) (by decide) dX4_digest_24 ((wMo cI u S (nI 0) K) ++ [(q7, .inl (cI, 8, .inl (upd (upd (row (fun _ => 0)) 0 (nI (S 0 3))) 1 (nI (S 0 0)))))]) rfl (fun H locs hP hD hS => ?_)
  refine lv_dup F.1 F.2.1 dX4_digest_25 rfl ?_
  refine lv_iconst (v := nI 2) F.1 F.2.1 dX4_digest_26 (by decide) ?_
  refine lv_aload_n F.1 F.2.1 dX4_digest_27 rfl (lv_at hl 0 rfl) ?_
  refine k_get (v := .int (nI (S 0 1))) F nX4_digest_X4 hK.1 hP 0 rfl rfl 2 (by decide) (List.mem_of_getElem? (i := 5) rfl) rfl dX4_digest_28 ?_
  refine k_iasx (f := upd (upd (row (fun _ => 0)) 0 (nI (S 0 3))) 1 (nI (S 0 0))) (k := 2) (x := nI (S 0 1)) F hK.1 hP hD hS 6 0 rfl rfl (by decide) (by decide) dX4_digest_31 ((wMo cI u S (nI 0) K) ++ [(q7, .inl (cI, 8, .inl (upd (upd (upd (row (fun _ => 0)) 0 (nI (S 0 3))) 1 (nI (S 0 0))) 2 (nI (S 0 1)))))]) rfl (fun H locs hP hD hS => ?_)
  refine lv_dup F.1 F.2.1 dX4_digest_32 rfl ?_
  refine lv_iconst (v := nI 3) F.1 F.2.1 dX4_digest_33 (by decide) ?_
  refine lv_aload_n F.1 F.2.1 dX4_digest_34 rfl (lv_at hl 0 rfl) ?_
  refine k_get (v := .int (nI (S 0 2))) F nX4_digest_X4 hK.1 hP 0 rfl rfl 3 (by decide) (List.mem_of_getElem? (i := 6) rfl) rfl dX4_digest_35 ?_
  refine k_iasx (f := upd (upd (upd (row (fun _ => 0)) 0 (nI (S 0 3))) 1 (nI (S 0 0))) 2 (nI (S 0 1))) (k := 3) (x := nI (S 0 2)) F hK.1 hP hD hS 6 0 rfl rfl (by decide) (by decide) dX4_digest_38 ((wMo cI u S (nI 0) K) ++ [(q7, .inl (cI, 8, .inl (upd (upd (upd (upd (row (fun _ => 0)) 0 (nI (S 0 3))) 1 (nI (S 0 0))) 2 (nI (S 0 1))) 3 (nI (S 0 2)))))]) rfl (fun H locs hP hD hS => ?_)
  refine lv_dup F.1 F.2.1 dX4_digest_39 rfl ?_
  refine lv_iconst (v := nI 4) F.1 F.2.1 dX4_digest_40 (by decide) ?_
  refine lv_aload_n F.1 F.2.1 dX4_digest_41 rfl (lv_at hl 0 rfl) ?_
  refine k_pV (n := 0) (rest := [.int (nI 4), .ref q7, .ref q7]) (v := nI (inN S (S 0 2))) F (c_X4_inside l D cI u S (nI 0) K hI) gX4_digest_X4_inside rfl (by decide +kernel) ⟨Nat.le_of_ble_eq_true rfl, Nat.le_of_ble_eq_true rfl⟩ rfl hl.1 rfl (Nat.le_of_ble_eq_true rfl) dX4_digest_42 ⟨show 0 + 1 ≤ 25 by omega, show 0 + 8 ≤ 200 by omega⟩ hK hP hS [0, 1, 2, 3, 4, 5] rfl (q0 := 0) (ci := 4) rfl rfl (fun H locs hP hS => ?_)
  refine k_iasx (f := upd (upd (upd (upd (row (fun _ => 0)) 0 (nI (S 0 3))) 1 (nI (S 0 0))) 2 (nI (S 0 1))) 3 (nI (S 0 2))) (k := 4) (x := nI (inN S (S 0 2))) F hK.1 hP hD hS 6 0 rfl rfl (by decide) (by decide) dX4_digest_45 ((wMo cI u S (nI 0) K) ++ [(q7, .inl (cI, 8, .inl (upd (upd (upd (upd (upd (row (fun _ => 0)) 0 (nI (S 0 3))) 1 (nI (S 0 0))) 2 (nI (S 0 1))) 3 (nI (S 0 2))) 4 (nI (inN S (S 0 2))))))]) rfl (fun H locs hP hD hS => ?_)
  refine lv_dup F.1 F.2.1 dX4_digest_46 rfl ?_
  refine lv_iconst (v := nI 5) F.1 F.2.1 dX4_digest_47 (by decide) ?_
  refine lv_aload_n F.1 F.2.1 dX4_digest_48 rfl (lv_at hl 0 rfl) ?_
  refine k_get (v := .ref (u 4)) F nX4_digest_X4 hK.1 hP 0 rfl rfl 7 (by decide) (List.mem_of_getElem? (i := 3) rfl) rfl dX4_digest_49 ?_
  refine lv_iconst (v := nI 1) F.1 F.2.1 dX4_digest_52 (by decide) ?_
  refine k_iald (f := encN S) (n := 59) F hK.1 hP 4 0 rfl rfl (by omega) (by decide) dX4_digest_53 ?_
  refine k_iasx (f := upd (upd (upd (upd (upd (row (fun _ => 0)) 0 (nI (S 0 3))) 1 (nI (S 0 0))) 2 (nI (S 0 1))) 3 (nI (S 0 2))) 4 (nI (inN S (S 0 2)))) (k := 5) (x := nI (S 0 4)) F hK.1 hP hD hS 6 0 rfl rfl (by decide) (by decide) dX4_digest_54 ((wMo cI u S (nI 0) K) ++ [(q7, .inl (cI, 8, .inl (upd (upd (upd (upd (upd (upd (row (fun _ => 0)) 0 (nI (S 0 3))) 1 (nI (S 0 0))) 2 (nI (S 0 1))) 3 (nI (S 0 2))) 4 (nI (inN S (S 0 2)))) 5 (nI (S 0 4)))))]) rfl (fun H locs hP hD hS => ?_)
  refine lv_dup F.1 F.2.1 dX4_digest_55 rfl ?_
  refine lv_bipush (v := nI 6) F.1 F.2.1 dX4_digest_56 (by decide) ?_
  refine lv_aload_n F.1 F.2.1 dX4_digest_58 rfl (lv_at hl 0 rfl) ?_
  refine k_get (v := .ref (u 4)) F nX4_digest_X4 hK.1 hP 0 rfl rfl 7 (by decide) (List.mem_of_getElem? (i := 3) rfl) rfl dX4_digest_59 ?_
  refine lv_iconst (v := nI 2) F.1 F.2.1 dX4_digest_62 (by decide) ?_
  refine k_iald (f := encN S) (n := 59) F hK.1 hP 4 0 rfl rfl (by omega) (by decide) dX4_digest_63 ?_
  refine k_iasx (f := upd (upd (upd (upd (upd (upd (row (fun _ => 0)) 0 (nI (S 0 3))) 1 (nI (S 0 0))) 2 (nI (S 0 1))) 3 (nI (S 0 2))) 4 (nI (inN S (S 0 2)))) 5 (nI (S 0 4))) (k := 6) (x := nI (S 0 5)) F hK.1 hP hD hS 6 0 rfl rfl (by decide) (by decide) dX4_digest_64 ((wMo cI u S (nI 0) K) ++ [(q7, .inl (cI, 8, .inl (upd (upd (upd (upd (upd (upd (upd (row (fun _ => 0)) 0 (nI (S 0 3))) 1 (nI (S 0 0))) 2 (nI (S 0 1))) 3 (nI (S 0 2))) 4 (nI (inN S (S 0 2)))) 5 (nI (S 0 4))) 6 (nI (S 0 5)))))]) rfl (fun H locs hP hD hS => ?_)
  refine lv_dup F.1 F.2.1 dX4_digest_65 rfl ?_
  refine lv_bipush (v := nI 7) F.1 F.2.1 dX4_digest_66 (by decide) ?_
  refine lv_aload_n F.1 F.2.1 dX4_digest_68 rfl (lv_at hl 0 rfl) ?_
  refine k_pV (n := 0) (rest := [.int (nI 7), .ref q7, .ref q7]) (v := oI (ldN S (S 0 0)).1) F (c_X4_loudest l D cI u S (nI 0) K hI) gX4_digest_X4_loudest rfl (by decide +kernel) ⟨Nat.le_of_ble_eq_true rfl, Nat.le_of_ble_eq_true rfl⟩ rfl hl.1 rfl (Nat.le_of_ble_eq_true rfl) dX4_digest_69 ⟨show 0 + 1 ≤ 25 by omega, show 0 + 8 ≤ 200 by omega⟩ hK hP hS [0, 1, 2, 3, 4, 5] rfl (q0 := 0) (ci := 4) rfl rfl (fun H locs hP hS => ?_)
  refine k_iasx (f := upd (upd (upd (upd (upd (upd (upd (row (fun _ => 0)) 0 (nI (S 0 3))) 1 (nI (S 0 0))) 2 (nI (S 0 1))) 3 (nI (S 0 2))) 4 (nI (inN S (S 0 2)))) 5 (nI (S 0 4))) 6 (nI (S 0 5))) (k := 7) (x := oI (ldN S (S 0 0)).1) F hK.1 hP hD hS 6 0 rfl rfl (by decide) (by decide) dX4_digest_72 ((wMo cI u S (nI 0) K) ++ [(q7, .inl (cI, 8, .inl (upd (upd (upd (upd (upd (upd (upd (upd (row (fun _ => 0)) 0 (nI (S 0 3))) 1 (nI (S 0 0))) 2 (nI (S 0 1))) 3 (nI (S 0 2))) 4 (nI (inN S (S 0 2)))) 5 (nI (S 0 4))) 6 (nI (S 0 5))) 7 (oI (ldN S (S 0 0)).1))))]) rfl (fun H locs hP hD hS => ?_)
  refine lv_astore_n (lv' := [(1, .ref q7), (0, .ref (u 0))]) F.1 F.2.1 dX4_digest_73 rfl hl (by decide) rfl (fun ls hl => ?_)
  refine lv_ldc2 (v := 1973) F.1 F.2.1 F.2.2.2.1 (F.2.2.2.2 _ (List.mem_of_getElem? (i := 7) rfl)) dX4_digest_74 ?_
  refine lv_lstore_n (lv' := [(2, .long 1973), (1, .ref q7), (0, .ref (u 0))]) F.1 F.2.1 dX4_digest_77 rfl hl (by decide) rfl (fun ls hl => ?_)
  refine lv_aload_n F.1 F.2.1 dX4_digest_78 rfl (lv_at hl 1 rfl) ?_
  refine lv_astore (lv' := [(4, .ref q7), (2, .long 1973), (1, .ref q7), (0, .ref (u 0))]) F.1 F.2.1 dX4_digest_79 hl (by decide) rfl (fun ls hl => ?_)
  refine lv_aload F.1 F.2.1 dX4_digest_81 (lv_at hl 0 rfl) ?_
  refine k_alen (n := 8) F hK.1 hP 6 0 rfl rfl dX4_digest_83 ?_
  refine lv_istore (lv' := [(5, .int (nI 8)), (4, .ref q7), (2, .long 1973), (1, .ref q7), (0, .ref (u 0))]) F.1 F.2.1 dX4_digest_84 hl (by decide) rfl (fun ls hl => ?_)
  refine lv_iconst (v := nI 0) F.1 F.2.1 dX4_digest_86 (by decide) ?_
  refine lv_istore (lv' := [(6, .int (nI 0)), (5, .int (nI 8)), (4, .ref q7), (2, .long 1973), (1, .ref q7), (0, .ref (u 0))]) F.1 F.2.1 dX4_digest_87 hl (by decide) rfl (fun ls hl => ?_)
  refine lv_iload F.1 F.2.1 dX4_digest_89 (lv_at hl 0 rfl) ?_
  refine lv_iload F.1 F.2.1 dX4_digest_91 (lv_at hl 1 rfl) ?_
  refine k_icmp_ge (tgt := 119) F (by omega) (by omega) dX4_digest_93 (by decide) (fun h93 => ?_) (fun h93 => ?_)
  · skip
    exact absurd h93 (by decide)
  · skip
    refine lv_aload F.1 F.2.1 dX4_digest_96 (lv_at hl 2 rfl) ?_
    refine lv_iload F.1 F.2.1 dX4_digest_98 (lv_at hl 0 rfl) ?_
    refine k_ialx (k := 0) (v := nI (S 0 3)) F hK.1 hP 6 0 rfl rfl (by decide) (by decide) ((u_ne (by decide)).trans ((u_ne (by decide)).trans ((u_ne (by decide)).trans ((u_ne (by decide)).trans ((u_ne (by decide)).trans ((u_ne (by decide)).trans ((u_ne (by decide)).trans u_eq))))))) dX4_digest_100 ?_
    refine lv_istore (lv' := [(7, .int (nI (S 0 3))), (6, .int (nI 0)), (5, .int (nI 8)), (4, .ref q7), (2, .long 1973), (1, .ref q7), (0, .ref (u 0))]) F.1 F.2.1 dX4_digest_101 hl (by decide) rfl (fun ls hl => ?_)
    refine lv_lload_n F.1 F.2.1 dX4_digest_103 rfl (lv_at hl 4 rfl) ?_
    refine lv_ldc2 (v := 31) F.1 F.2.1 F.2.2.2.1 (F.2.2.2.2 _ (List.mem_of_getElem? (i := 8) rfl)) dX4_digest_104 ?_
    refine lv_lmul F.1 F.2.1 dX4_digest_107 ?_
    refine lv_iload F.1 F.2.1 dX4_digest_108 (lv_at hl 0 rfl) ?_
    refine lv_i2l (v := (nI (S 0 3)).toInt64) F.1 F.2.1 dX4_digest_110 rfl ?_
    refine lv_ladd F.1 F.2.1 dX4_digest_111 ?_
    refine lv_lstore_n (lv' := [(2, .long (mxL 1973 ((nI (S 0 3)).toInt64))), (7, .int (nI (S 0 3))), (6, .int (nI 0)), (5, .int (nI 8)), (4, .ref q7), (1, .ref q7), (0, .ref (u 0))]) F.1 F.2.1 dX4_digest_112 rfl hl (by decide) rfl (fun ls hl => ?_)
    refine k_inc (k := 2) (lv' := [(6, .int (nI 1)), (2, .long (mxL 1973 ((nI (S 0 3)).toInt64))), (7, .int (nI (S 0 3))), (5, .int (nI 8)), (4, .ref q7), (1, .ref q7), (0, .ref (u 0))]) F dX4_digest_113 hl rfl (by decide) rfl (fun ls hl => ?_)
    refine lv_goto (tgt := 89) F.1 F.2.1 dX4_digest_116 (by decide) ?_
    refine lv_iload F.1 F.2.1 dX4_digest_89 (lv_at hl 0 rfl) ?_
    refine lv_iload F.1 F.2.1 dX4_digest_91 (lv_at hl 3 rfl) ?_
    refine k_icmp_ge (tgt := 119) F (by omega) (by omega) dX4_digest_93 (by decide) (fun h93 => ?_) (fun h93 => ?_)
    · skip
      exact absurd h93 (by decide)
    · skip
      refine lv_aload F.1 F.2.1 dX4_digest_96 (lv_at hl 4 rfl) ?_
      refine lv_iload F.1 F.2.1 dX4_digest_98 (lv_at hl 0 rfl) ?_
      refine k_ialx (k := 1) (v := nI (S 0 0)) F hK.1 hP 6 0 rfl rfl (by decide) (by decide) ((u_ne (by decide)).trans ((u_ne (by decide)).trans ((u_ne (by decide)).trans ((u_ne (by decide)).trans ((u_ne (by decide)).trans ((u_ne (by decide)).trans u_eq)))))) dX4_digest_100 ?_
      refine lv_istore (lv' := [(7, .int (nI (S 0 0))), (6, .int (nI 1)), (2, .long (mxL 1973 ((nI (S 0 3)).toInt64))), (5, .int (nI 8)), (4, .ref q7), (1, .ref q7), (0, .ref (u 0))]) F.1 F.2.1 dX4_digest_101 hl (by decide) rfl (fun ls hl => ?_)
      refine lv_lload_n F.1 F.2.1 dX4_digest_103 rfl (lv_at hl 2 rfl) ?_
      refine lv_ldc2 (v := 31) F.1 F.2.1 F.2.2.2.1 (F.2.2.2.2 _ (List.mem_of_getElem? (i := 8) rfl)) dX4_digest_104 ?_
      refine lv_lmul F.1 F.2.1 dX4_digest_107 ?_
      refine lv_iload F.1 F.2.1 dX4_digest_108 (lv_at hl 0 rfl) ?_
      refine lv_i2l (v := (nI (S 0 0)).toInt64) F.1 F.2.1 dX4_digest_110 rfl ?_
      refine lv_ladd F.1 F.2.1 dX4_digest_111 ?_
      refine lv_lstore_n (lv' := [(2, .long (mxL (mxL 1973 ((nI (S 0 3)).toInt64)) ((nI (S 0 0)).toInt64))), (7, .int (nI (S 0 0))), (6, .int (nI 1)), (5, .int (nI 8)), (4, .ref q7), (1, .ref q7), (0, .ref (u 0))]) F.1 F.2.1 dX4_digest_112 rfl hl (by decide) rfl (fun ls hl => ?_)
      refine k_inc (k := 2) (lv' := [(6, .int (nI 2)), (2, .long (mxL (mxL 1973 ((nI (S 0 3)).toInt64)) ((nI (S 0 0)).toInt64))), (7, .int (nI (S 0 0))), (5, .int (nI 8)), (4, .ref q7), (1, .ref q7), (0, .ref (u 0))]) F dX4_digest_113 hl rfl (by decide) rfl (fun ls hl => ?_)
      refine lv_goto (tgt := 89) F.1 F.2.1 dX4_digest_116 (by decide) ?_
      refine lv_iload F.1 F.2.1 dX4_digest_89 (lv_at hl 0 rfl) ?_
      refine lv_iload F.1 F.2.1 dX4_digest_91 (lv_at hl 3 rfl) ?_
      refine k_icmp_ge (tgt := 119) F (by omega) (by omega) dX4_digest_93 (by decide) (fun h93 => ?_) (fun h93 => ?_)
      · skip
        exact absurd h93 (by decide)
      · skip
        refine lv_aload F.1 F.2.1 dX4_digest_96 (lv_at hl 4 rfl) ?_
        refine lv_iload F.1 F.2.1 dX4_digest_98 (lv_at hl 0 rfl) ?_
        refine k_ialx (k := 2) (v := nI (S 0 1)) F hK.1 hP 6 0 rfl rfl (by decide) (by decide) ((u_ne (by decide)).trans ((u_ne (by decide)).trans ((u_ne (by decide)).trans ((u_ne (by decide)).trans ((u_ne (by decide)).trans u_eq))))) dX4_digest_100 ?_
        refine lv_istore (lv' := [(7, .int (nI (S 0 1))), (6, .int (nI 2)), (2, .long (mxL (mxL 1973 ((nI (S 0 3)).toInt64)) ((nI (S 0 0)).toInt64))), (5, .int (nI 8)), (4, .ref q7), (1, .ref q7), (0, .ref (u 0))]) F.1 F.2.1 dX4_digest_101 hl (by decide) rfl (fun ls hl => ?_)
        refine lv_lload_n F.1 F.2.1 dX4_digest_103 rfl (lv_at hl 2 rfl) ?_
        refine lv_ldc2 (v := 31) F.1 F.2.1 F.2.2.2.1 (F.2.2.2.2 _ (List.mem_of_getElem? (i := 8) rfl)) dX4_digest_104 ?_
        refine lv_lmul F.1 F.2.1 dX4_digest_107 ?_
        refine lv_iload F.1 F.2.1 dX4_digest_108 (lv_at hl 0 rfl) ?_
        refine lv_i2l (v := (nI (S 0 1)).toInt64) F.1 F.2.1 dX4_digest_110 rfl ?_
        refine lv_ladd F.1 F.2.1 dX4_digest_111 ?_
        refine lv_lstore_n (lv' := [(2, .long (mxL (mxL (mxL 1973 ((nI (S 0 3)).toInt64)) ((nI (S 0 0)).toInt64)) ((nI (S 0 1)).toInt64))), (7, .int (nI (S 0 1))), (6, .int (nI 2)), (5, .int (nI 8)), (4, .ref q7), (1, .ref q7), (0, .ref (u 0))]) F.1 F.2.1 dX4_digest_112 rfl hl (by decide) rfl (fun ls hl => ?_)
        refine k_inc (k := 2) (lv' := [(6, .int (nI 3)), (2, .long (mxL (mxL (mxL 1973 ((nI (S 0 3)).toInt64)) ((nI (S 0 0)).toInt64)) ((nI (S 0 1)).toInt64))), (7, .int (nI (S 0 1))), (5, .int (nI 8)), (4, .ref q7), (1, .ref q7), (0, .ref (u 0))]) F dX4_digest_113 hl rfl (by decide) rfl (fun ls hl => ?_)
        refine lv_goto (tgt := 89) F.1 F.2.1 dX4_digest_116 (by decide) ?_
        refine lv_iload F.1 F.2.1 dX4_digest_89 (lv_at hl 0 rfl) ?_
        refine lv_iload F.1 F.2.1 dX4_digest_91 (lv_at hl 3 rfl) ?_
        refine k_icmp_ge (tgt := 119) F (by omega) (by omega) dX4_digest_93 (by decide) (fun h93 => ?_) (fun h93 => ?_)
        · skip
          exact absurd h93 (by decide)
        · skip
          refine lv_aload F.1 F.2.1 dX4_digest_96 (lv_at hl 4 rfl) ?_
          refine lv_iload F.1 F.2.1 dX4_digest_98 (lv_at hl 0 rfl) ?_
          refine k_ialx (k := 3) (v := nI (S 0 2)) F hK.1 hP 6 0 rfl rfl (by decide) (by decide) ((u_ne (by decide)).trans ((u_ne (by decide)).trans ((u_ne (by decide)).trans ((u_ne (by decide)).trans u_eq)))) dX4_digest_100 ?_
          refine lv_istore (lv' := [(7, .int (nI (S 0 2))), (6, .int (nI 3)), (2, .long (mxL (mxL (mxL 1973 ((nI (S 0 3)).toInt64)) ((nI (S 0 0)).toInt64)) ((nI (S 0 1)).toInt64))), (5, .int (nI 8)), (4, .ref q7), (1, .ref q7), (0, .ref (u 0))]) F.1 F.2.1 dX4_digest_101 hl (by decide) rfl (fun ls hl => ?_)
          refine lv_lload_n F.1 F.2.1 dX4_digest_103 rfl (lv_at hl 2 rfl) ?_
          refine lv_ldc2 (v := 31) F.1 F.2.1 F.2.2.2.1 (F.2.2.2.2 _ (List.mem_of_getElem? (i := 8) rfl)) dX4_digest_104 ?_
          refine lv_lmul F.1 F.2.1 dX4_digest_107 ?_
          refine lv_iload F.1 F.2.1 dX4_digest_108 (lv_at hl 0 rfl) ?_
          refine lv_i2l (v := (nI (S 0 2)).toInt64) F.1 F.2.1 dX4_digest_110 rfl ?_
          refine lv_ladd F.1 F.2.1 dX4_digest_111 ?_
          refine lv_lstore_n (lv' := [(2, .long (mxL (mxL (mxL (mxL 1973 ((nI (S 0 3)).toInt64)) ((nI (S 0 0)).toInt64)) ((nI (S 0 1)).toInt64)) ((nI (S 0 2)).toInt64))), (7, .int (nI (S 0 2))), (6, .int (nI 3)), (5, .int (nI 8)), (4, .ref q7), (1, .ref q7), (0, .ref (u 0))]) F.1 F.2.1 dX4_digest_112 rfl hl (by decide) rfl (fun ls hl => ?_)
          refine k_inc (k := 2) (lv' := [(6, .int (nI 4)), (2, .long (mxL (mxL (mxL (mxL 1973 ((nI (S 0 3)).toInt64)) ((nI (S 0 0)).toInt64)) ((nI (S 0 1)).toInt64)) ((nI (S 0 2)).toInt64))), (7, .int (nI (S 0 2))), (5, .int (nI 8)), (4, .ref q7), (1, .ref q7), (0, .ref (u 0))]) F dX4_digest_113 hl rfl (by decide) rfl (fun ls hl => ?_)
          refine lv_goto (tgt := 89) F.1 F.2.1 dX4_digest_116 (by decide) ?_
          refine lv_iload F.1 F.2.1 dX4_digest_89 (lv_at hl 0 rfl) ?_
          refine lv_iload F.1 F.2.1 dX4_digest_91 (lv_at hl 3 rfl) ?_
          refine k_icmp_ge (tgt := 119) F (by omega) (by omega) dX4_digest_93 (by decide) (fun h93 => ?_) (fun h93 => ?_)
          · skip
            exact absurd h93 (by decide)
          · skip
            refine lv_aload F.1 F.2.1 dX4_digest_96 (lv_at hl 4 rfl) ?_
            refine lv_iload F.1 F.2.1 dX4_digest_98 (lv_at hl 0 rfl) ?_
            refine k_ialx (k := 4) (v := nI (inN S (S 0 2))) F hK.1 hP 6 0 rfl rfl (by decide) (by decide) ((u_ne (by decide)).trans ((u_ne (by decide)).trans ((u_ne (by decide)).trans u_eq))) dX4_digest_100 ?_
            refine lv_istore (lv' := [(7, .int (nI (inN S (S 0 2)))), (6, .int (nI 4)), (2, .long (mxL (mxL (mxL (mxL 1973 ((nI (S 0 3)).toInt64)) ((nI (S 0 0)).toInt64)) ((nI (S 0 1)).toInt64)) ((nI (S 0 2)).toInt64))), (5, .int (nI 8)), (4, .ref q7), (1, .ref q7), (0, .ref (u 0))]) F.1 F.2.1 dX4_digest_101 hl (by decide) rfl (fun ls hl => ?_)
            refine lv_lload_n F.1 F.2.1 dX4_digest_103 rfl (lv_at hl 2 rfl) ?_
            refine lv_ldc2 (v := 31) F.1 F.2.1 F.2.2.2.1 (F.2.2.2.2 _ (List.mem_of_getElem? (i := 8) rfl)) dX4_digest_104 ?_
            refine lv_lmul F.1 F.2.1 dX4_digest_107 ?_
            refine lv_iload F.1 F.2.1 dX4_digest_108 (lv_at hl 0 rfl) ?_
            refine lv_i2l (v := (nI (inN S (S 0 2))).toInt64) F.1 F.2.1 dX4_digest_110 rfl ?_
            refine lv_ladd F.1 F.2.1 dX4_digest_111 ?_
            refine lv_lstore_n (lv' := [(2, .long (mxL (mxL (mxL (mxL (mxL 1973 ((nI (S 0 3)).toInt64)) ((nI (S 0 0)).toInt64)) ((nI (S 0 1)).toInt64)) ((nI (S 0 2)).toInt64)) ((nI (inN S (S 0 2))).toInt64))), (7, .int (nI (inN S (S 0 2)))), (6, .int (nI 4)), (5, .int (nI 8)), (4, .ref q7), (1, .ref q7), (0, .ref (u 0))]) F.1 F.2.1 dX4_digest_112 rfl hl (by decide) rfl (fun ls hl => ?_)
            refine k_inc (k := 2) (lv' := [(6, .int (nI 5)), (2, .long (mxL (mxL (mxL (mxL (mxL 1973 ((nI (S 0 3)).toInt64)) ((nI (S 0 0)).toInt64)) ((nI (S 0 1)).toInt64)) ((nI (S 0 2)).toInt64)) ((nI (inN S (S 0 2))).toInt64))), (7, .int (nI (inN S (S 0 2)))), (5, .int (nI 8)), (4, .ref q7), (1, .ref q7), (0, .ref (u 0))]) F dX4_digest_113 hl rfl (by decide) rfl (fun ls hl => ?_)
            refine lv_goto (tgt := 89) F.1 F.2.1 dX4_digest_116 (by decide) ?_
            refine lv_iload F.1 F.2.1 dX4_digest_89 (lv_at hl 0 rfl) ?_
            refine lv_iload F.1 F.2.1 dX4_digest_91 (lv_at hl 3 rfl) ?_
            refine k_icmp_ge (tgt := 119) F (by omega) (by omega) dX4_digest_93 (by decide) (fun h93 => ?_) (fun h93 => ?_)
            · skip
              exact absurd h93 (by decide)
            · skip
              refine lv_aload F.1 F.2.1 dX4_digest_96 (lv_at hl 4 rfl) ?_
              refine lv_iload F.1 F.2.1 dX4_digest_98 (lv_at hl 0 rfl) ?_
              refine k_ialx (k := 5) (v := nI (S 0 4)) F hK.1 hP 6 0 rfl rfl (by decide) (by decide) ((u_ne (by decide)).trans ((u_ne (by decide)).trans u_eq)) dX4_digest_100 ?_
              refine lv_istore (lv' := [(7, .int (nI (S 0 4))), (6, .int (nI 5)), (2, .long (mxL (mxL (mxL (mxL (mxL 1973 ((nI (S 0 3)).toInt64)) ((nI (S 0 0)).toInt64)) ((nI (S 0 1)).toInt64)) ((nI (S 0 2)).toInt64)) ((nI (inN S (S 0 2))).toInt64))), (5, .int (nI 8)), (4, .ref q7), (1, .ref q7), (0, .ref (u 0))]) F.1 F.2.1 dX4_digest_101 hl (by decide) rfl (fun ls hl => ?_)
              refine lv_lload_n F.1 F.2.1 dX4_digest_103 rfl (lv_at hl 2 rfl) ?_
              refine lv_ldc2 (v := 31) F.1 F.2.1 F.2.2.2.1 (F.2.2.2.2 _ (List.mem_of_getElem? (i := 8) rfl)) dX4_digest_104 ?_
              refine lv_lmul F.1 F.2.1 dX4_digest_107 ?_
              refine lv_iload F.1 F.2.1 dX4_digest_108 (lv_at hl 0 rfl) ?_
              refine lv_i2l (v := (nI (S 0 4)).toInt64) F.1 F.2.1 dX4_digest_110 rfl ?_
              refine lv_ladd F.1 F.2.1 dX4_digest_111 ?_
              refine lv_lstore_n (lv' := [(2, .long (mxL (mxL (mxL (mxL (mxL (mxL 1973 ((nI (S 0 3)).toInt64)) ((nI (S 0 0)).toInt64)) ((nI (S 0 1)).toInt64)) ((nI (S 0 2)).toInt64)) ((nI (inN S (S 0 2))).toInt64)) ((nI (S 0 4)).toInt64))), (7, .int (nI (S 0 4))), (6, .int (nI 5)), (5, .int (nI 8)), (4, .ref q7), (1, .ref q7), (0, .ref (u 0))]) F.1 F.2.1 dX4_digest_112 rfl hl (by decide) rfl (fun ls hl => ?_)
              refine k_inc (k := 2) (lv' := [(6, .int (nI 6)), (2, .long (mxL (mxL (mxL (mxL (mxL (mxL 1973 ((nI (S 0 3)).toInt64)) ((nI (S 0 0)).toInt64)) ((nI (S 0 1)).toInt64)) ((nI (S 0 2)).toInt64)) ((nI (inN S (S 0 2))).toInt64)) ((nI (S 0 4)).toInt64))), (7, .int (nI (S 0 4))), (5, .int (nI 8)), (4, .ref q7), (1, .ref q7), (0, .ref (u 0))]) F dX4_digest_113 hl rfl (by decide) rfl (fun ls hl => ?_)
              refine lv_goto (tgt := 89) F.1 F.2.1 dX4_digest_116 (by decide) ?_
              refine lv_iload F.1 F.2.1 dX4_digest_89 (lv_at hl 0 rfl) ?_
              refine lv_iload F.1 F.2.1 dX4_digest_91 (lv_at hl 3 rfl) ?_
              refine k_icmp_ge (tgt := 119) F (by omega) (by omega) dX4_digest_93 (by decide) (fun h93 => ?_) (fun h93 => ?_)
              · skip
                exact absurd h93 (by decide)
              · skip
                refine lv_aload F.1 F.2.1 dX4_digest_96 (lv_at hl 4 rfl) ?_
                refine lv_iload F.1 F.2.1 dX4_digest_98 (lv_at hl 0 rfl) ?_
                refine k_ialx (k := 6) (v := nI (S 0 5)) F hK.1 hP 6 0 rfl rfl (by decide) (by decide) ((u_ne (by decide)).trans u_eq) dX4_digest_100 ?_
                refine lv_istore (lv' := [(7, .int (nI (S 0 5))), (6, .int (nI 6)), (2, .long (mxL (mxL (mxL (mxL (mxL (mxL 1973 ((nI (S 0 3)).toInt64)) ((nI (S 0 0)).toInt64)) ((nI (S 0 1)).toInt64)) ((nI (S 0 2)).toInt64)) ((nI (inN S (S 0 2))).toInt64)) ((nI (S 0 4)).toInt64))), (5, .int (nI 8)), (4, .ref q7), (1, .ref q7), (0, .ref (u 0))]) F.1 F.2.1 dX4_digest_101 hl (by decide) rfl (fun ls hl => ?_)
                refine lv_lload_n F.1 F.2.1 dX4_digest_103 rfl (lv_at hl 2 rfl) ?_
                refine lv_ldc2 (v := 31) F.1 F.2.1 F.2.2.2.1 (F.2.2.2.2 _ (List.mem_of_getElem? (i := 8) rfl)) dX4_digest_104 ?_
                refine lv_lmul F.1 F.2.1 dX4_digest_107 ?_
                refine lv_iload F.1 F.2.1 dX4_digest_108 (lv_at hl 0 rfl) ?_
                refine lv_i2l (v := (nI (S 0 5)).toInt64) F.1 F.2.1 dX4_digest_110 rfl ?_
                refine lv_ladd F.1 F.2.1 dX4_digest_111 ?_
                refine lv_lstore_n (lv' := [(2, .long (mxL (mxL (mxL (mxL (mxL (mxL (mxL 1973 ((nI (S 0 3)).toInt64)) ((nI (S 0 0)).toInt64)) ((nI (S 0 1)).toInt64)) ((nI (S 0 2)).toInt64)) ((nI (inN S (S 0 2))).toInt64)) ((nI (S 0 4)).toInt64)) ((nI (S 0 5)).toInt64))), (7, .int (nI (S 0 5))), (6, .int (nI 6)), (5, .int (nI 8)), (4, .ref q7), (1, .ref q7), (0, .ref (u 0))]) F.1 F.2.1 dX4_digest_112 rfl hl (by decide) rfl (fun ls hl => ?_)
                refine k_inc (k := 2) (lv' := [(6, .int (nI 7)), (2, .long (mxL (mxL (mxL (mxL (mxL (mxL (mxL 1973 ((nI (S 0 3)).toInt64)) ((nI (S 0 0)).toInt64)) ((nI (S 0 1)).toInt64)) ((nI (S 0 2)).toInt64)) ((nI (inN S (S 0 2))).toInt64)) ((nI (S 0 4)).toInt64)) ((nI (S 0 5)).toInt64))), (7, .int (nI (S 0 5))), (5, .int (nI 8)), (4, .ref q7), (1, .ref q7), (0, .ref (u 0))]) F dX4_digest_113 hl rfl (by decide) rfl (fun ls hl => ?_)
                refine lv_goto (tgt := 89) F.1 F.2.1 dX4_digest_116 (by decide) ?_
                refine lv_iload F.1 F.2.1 dX4_digest_89 (lv_at hl 0 rfl) ?_
                refine lv_iload F.1 F.2.1 dX4_digest_91 (lv_at hl 3 rfl) ?_
                refine k_icmp_ge (tgt := 119) F (by omega) (by omega) dX4_digest_93 (by decide) (fun h93 => ?_) (fun h93 => ?_)
                · skip
                  exact absurd h93 (by decide)
                · skip
                  refine lv_aload F.1 F.2.1 dX4_digest_96 (lv_at hl 4 rfl) ?_
                  refine lv_iload F.1 F.2.1 dX4_digest_98 (lv_at hl 0 rfl) ?_
                  refine k_ialx (k := 7) (v := oI (ldN S (S 0 0)).1) F hK.1 hP 6 0 rfl rfl (by decide) (by decide) u_eq dX4_digest_100 ?_
                  refine lv_istore (lv' := [(7, .int (oI (ldN S (S 0 0)).1)), (6, .int (nI 7)), (2, .long (mxL (mxL (mxL (mxL (mxL (mxL (mxL 1973 ((nI (S 0 3)).toInt64)) ((nI (S 0 0)).toInt64)) ((nI (S 0 1)).toInt64)) ((nI (S 0 2)).toInt64)) ((nI (inN S (S 0 2))).toInt64)) ((nI (S 0 4)).toInt64)) ((nI (S 0 5)).toInt64))), (5, .int (nI 8)), (4, .ref q7), (1, .ref q7), (0, .ref (u 0))]) F.1 F.2.1 dX4_digest_101 hl (by decide) rfl (fun ls hl => ?_)
                  refine lv_lload_n F.1 F.2.1 dX4_digest_103 rfl (lv_at hl 2 rfl) ?_
                  refine lv_ldc2 (v := 31) F.1 F.2.1 F.2.2.2.1 (F.2.2.2.2 _ (List.mem_of_getElem? (i := 8) rfl)) dX4_digest_104 ?_
                  refine lv_lmul F.1 F.2.1 dX4_digest_107 ?_
                  refine lv_iload F.1 F.2.1 dX4_digest_108 (lv_at hl 0 rfl) ?_
                  refine lv_i2l (v := (oI (ldN S (S 0 0)).1).toInt64) F.1 F.2.1 dX4_digest_110 rfl ?_
                  refine lv_ladd F.1 F.2.1 dX4_digest_111 ?_
                  refine lv_lstore_n (lv' := [(2, .long (mxL (mxL (mxL (mxL (mxL (mxL (mxL (mxL 1973 ((nI (S 0 3)).toInt64)) ((nI (S 0 0)).toInt64)) ((nI (S 0 1)).toInt64)) ((nI (S 0 2)).toInt64)) ((nI (inN S (S 0 2))).toInt64)) ((nI (S 0 4)).toInt64)) ((nI (S 0 5)).toInt64)) ((oI (ldN S (S 0 0)).1).toInt64))), (7, .int (oI (ldN S (S 0 0)).1)), (6, .int (nI 7)), (5, .int (nI 8)), (4, .ref q7), (1, .ref q7), (0, .ref (u 0))]) F.1 F.2.1 dX4_digest_112 rfl hl (by decide) rfl (fun ls hl => ?_)
                  refine k_inc (k := 2) (lv' := [(6, .int (nI 8)), (2, .long (mxL (mxL (mxL (mxL (mxL (mxL (mxL (mxL 1973 ((nI (S 0 3)).toInt64)) ((nI (S 0 0)).toInt64)) ((nI (S 0 1)).toInt64)) ((nI (S 0 2)).toInt64)) ((nI (inN S (S 0 2))).toInt64)) ((nI (S 0 4)).toInt64)) ((nI (S 0 5)).toInt64)) ((oI (ldN S (S 0 0)).1).toInt64))), (7, .int (oI (ldN S (S 0 0)).1)), (5, .int (nI 8)), (4, .ref q7), (1, .ref q7), (0, .ref (u 0))]) F dX4_digest_113 hl rfl (by decide) rfl (fun ls hl => ?_)
                  refine lv_goto (tgt := 89) F.1 F.2.1 dX4_digest_116 (by decide) ?_
                  refine lv_iload F.1 F.2.1 dX4_digest_89 (lv_at hl 0 rfl) ?_
                  refine lv_iload F.1 F.2.1 dX4_digest_91 (lv_at hl 3 rfl) ?_
                  refine k_icmp_ge (tgt := 119) F (by omega) (by omega) dX4_digest_93 (by decide) (fun h93 => ?_) (fun h93 => ?_)
                  · skip
                    refine lv_iconst (v := nI 0) F.1 F.2.1 dX4_digest_119 (by decide) ?_
                    refine lv_istore (lv' := [(4, .int (nI 0)), (6, .int (nI 8)), (2, .long (mxL (mxL (mxL (mxL (mxL (mxL (mxL (mxL 1973 ((nI (S 0 3)).toInt64)) ((nI (S 0 0)).toInt64)) ((nI (S 0 1)).toInt64)) ((nI (S 0 2)).toInt64)) ((nI (inN S (S 0 2))).toInt64)) ((nI (S 0 4)).toInt64)) ((nI (S 0 5)).toInt64)) ((oI (ldN S (S 0 0)).1).toInt64))), (7, .int (oI (ldN S (S 0 0)).1)), (5, .int (nI 8)), (1, .ref q7), (0, .ref (u 0))]) F.1 F.2.1 dX4_digest_120 hl (by decide) rfl (fun ls hl => ?_)
                    have loop122 : ∀ (n : Nat) (i : Nat), i ≤ S 0 0 → S 0 0 + 1 ≤ i + n → ∀ (H : Heap) (locs : List Loc) (ls : Array Slot), va_P D vwCl (wMo cI u S (nI 0) K) H → va_D (va_A (wMo cI u S th K) sz) (wMo cI u S (nI 0) K) → va_S (va_A (wMo cI u S th K) sz) s.heap H locs → lv_has ls 10 [(0, .ref (u 0)), (2, .long (dgG S (dg0 S) i)), (4, .int (nI i))] → W p l e (rmG 7 25 200 158) s m args below meth c H locs (0 + 1) (0 + 8) (QGL below args s D 25 200 (wMo cI u S th K) sz (wMo cI u S (nI 0) (kepN S K (S 0 2))) (dgst S)) (F0 m 122 ls []) := by
                      intro n
                      induction n with
                      | zero => intro i hi hn; exact absurd hn (by omega)
                      | succ n ih122 =>
                        intro i hi hn  H locs ls hP hD hS hl
                        refine lv_iload F.1 F.2.1 dX4_digest_122 (lv_at hl 2 rfl) ?_
                        refine lv_aload_n F.1 F.2.1 dX4_digest_124 rfl (lv_at hl 0 rfl) ?_
                        refine k_get (v := .int (nI (S 0 0))) F nX4_digest_X4 hK.1 hP 0 rfl rfl 1 (by decide) (List.mem_of_getElem? (i := 4) rfl) rfl dX4_digest_125 ?_
                        refine k_icmp_ge (tgt := 166) F (by omega) (by omega) dX4_digest_128 (by decide) (fun h128 => ?_) (fun h128 => ?_)
                        · skip
                          refine lv_iconst (v := nI 0) F.1 F.2.1 dX4_digest_166 (by decide) ?_
                          refine lv_istore (lv' := [(4, .int (nI 0)), (0, .ref (u 0)), (2, .long (dgG S (dg0 S) i))]) F.1 F.2.1 dX4_digest_167 hl (by decide) rfl (fun ls hl => ?_)
                          have loop169 : ∀ (n : Nat) (i : Nat), i ≤ S 0 1 → S 0 1 + 1 ≤ i + n → ∀ (ce sl : Nat), ce ≤ 1 + i → sl ≤ 8 + 4 * i → ∀ (H : Heap) (locs : List Loc) (ls : Array Slot), va_P D vwCl (wMo cI u S (nI 0) K) H → va_D (va_A (wMo cI u S th K) sz) (wMo cI u S (nI 0) K) → va_S (va_A (wMo cI u S th K) sz) s.heap H locs → lv_has ls 10 [(0, .ref (u 0)), (2, .long (dgK S (dgG S (dg0 S) (S 0 0)) i)), (4, .int (nI i))] → W p l e (rmG 7 25 200 158) s m args below meth c H locs (ce) (sl) (QGL below args s D 25 200 (wMo cI u S th K) sz (wMo cI u S (nI 0) (kepN S K (S 0 2))) (dgst S)) (F0 m 169 ls []) := by
                            intro n
                            induction n with
                            | zero => intro i hi hn; exact absurd hn (by omega)
                            | succ n ih169 =>
                              intro i hi hn  ce169 sl169 hce169 hsl169 H locs ls hP hD hS hl
                              refine lv_iload F.1 F.2.1 dX4_digest_169 (lv_at hl 2 rfl) ?_
                              refine lv_aload_n F.1 F.2.1 dX4_digest_171 rfl (lv_at hl 0 rfl) ?_
                              refine k_get (v := .int (nI (S 0 1))) F nX4_digest_X4 hK.1 hP 0 rfl rfl 2 (by decide) (List.mem_of_getElem? (i := 5) rfl) rfl dX4_digest_172 ?_
                              refine k_icmp_ge (tgt := 271) F (by omega) (by omega) dX4_digest_175 (by decide) (fun h175 => ?_) (fun h175 => ?_)
                              · skip
                                refine lv_iconst (v := nI 0) F.1 F.2.1 dX4_digest_271 (by decide) ?_
                                refine lv_istore (lv' := [(4, .int (nI 0)), (0, .ref (u 0)), (2, .long (dgK S (dgG S (dg0 S) (S 0 0)) i))]) F.1 F.2.1 dX4_digest_272 hl (by decide) rfl (fun ls hl => ?_)
                                have loop274 : ∀ (n : Nat) (i : Nat), i ≤ S 0 2 → S 0 2 + 1 ≤ i + n → ∀ (ce sl : Nat), ce ≤ 9 + 2 * i → sl ≤ 40 + 20 * i → ∀ (H : Heap) (locs : List Loc) (ls : Array Slot), va_P D vwCl (wMo cI u S (nI 0) (kepN S K i)) H → va_D (va_A (wMo cI u S th K) sz) (wMo cI u S (nI 0) (kepN S K i)) → va_S (va_A (wMo cI u S th K) sz) s.heap H locs → lv_has ls 10 [(0, .ref (u 0)), (2, .long (dgV S (dgK S (dgG S (dg0 S) (S 0 0)) (S 0 1)) i)), (4, .int (nI i))] → W p l e (rmG 7 25 200 158) s m args below meth c H locs (ce) (sl) (QGL below args s D 25 200 (wMo cI u S th K) sz (wMo cI u S (nI 0) (kepN S K (S 0 2))) (dgst S)) (F0 m 274 ls []) := by
                                  intro n
                                  induction n with
                                  | zero => intro i hi hn; exact absurd hn (by omega)
                                  | succ n ih274 =>
                                    intro i hi hn  ce274 sl274 hce274 hsl274 H locs ls hP hD hS hl
                                    refine lv_iload F.1 F.2.1 dX4_digest_274 (lv_at hl 2 rfl) ?_
                                    refine lv_aload_n F.1 F.2.1 dX4_digest_276 rfl (lv_at hl 0 rfl) ?_
                                    refine k_get (v := .int (nI (S 0 2))) F nX4_digest_X4 hK.1 hP 0 rfl rfl 3 (by decide) (List.mem_of_getElem? (i := 6) rfl) rfl dX4_digest_277 ?_
                                    refine k_icmp_ge (tgt := 443) F (by omega) (by omega) dX4_digest_280 (by decide) (fun h280 => ?_) (fun h280 => ?_)
                                    · skip
                                      refine lv_lload_n F.1 F.2.1 dX4_digest_443 rfl (lv_at hl 1 rfl) ?_
                                      exact k_retGL F hr hlk hP (by rw [show i = S 0 2 by omega]) hS hz (by rw [show i = S 0 2 by omega]; rfl) (show ce274 ≤ 25 by omega) (show sl274 ≤ 200 by omega) dX4_digest_444
                                    · skip
                                      refine lv_bipush (v := nI 10) F.1 F.2.1 dX4_digest_283 (by decide) ?_
                                      refine k_newa F (List.mem_of_getElem? (i := 2) rfl) hK hP hD hS (fun q h => Or.inr (by omega)) (k := 10) (by decide) ⟨show ce274 + 1 ≤ 25 by omega, show sl274 + 10 ≤ 200 by omega⟩ dX4_digest_285 (fun q285 H hP hD hS => ?_)
                                      refine lv_dup F.1 F.2.1 dX4_digest_287 rfl ?_
                                      refine lv_iconst (v := nI 0) F.1 F.2.1 dX4_digest_288 (by decide) ?_
                                      refine lv_aload_n F.1 F.2.1 dX4_digest_289 rfl (lv_at hl 0 rfl) ?_
                                      refine lv_iload F.1 F.2.1 dX4_digest_290 (lv_at hl 2 rfl) ?_
                                      refine lv_iconst (v := nI 0) F.1 F.2.1 dX4_digest_292 (by decide) ?_
                                      refine k_pV (n := 2) (rest := [.int (nI 0), .ref q285, .ref q285]) (v := nI (S 7 i)) F (c_X4_vi l D cI u S (nI 0) (kepN S K i) i 0 (by first | assumption | omega) (by first | assumption | omega)) gX4_digest_X4_vi rfl (by decide +kernel) ⟨Nat.le_of_ble_eq_true rfl, Nat.le_of_ble_eq_true rfl⟩ rfl hl.1 rfl (Nat.le_of_ble_eq_true rfl) dX4_digest_293 ⟨show ce274 + 1 ≤ 25 by omega, show sl274 + 10 ≤ 200 by omega⟩ hK hP hS [0, 1, 2, 3, 4, 5] rfl (q0 := 0) (ci := 4) rfl rfl (fun H locs hP hS => ?_)
                                      refine k_iasx (f := row (fun _ => 0)) (k := 0) (x := nI (S 7 i)) F hK.1 hP hD hS 6 0 rfl rfl (by decide) (by decide) dX4_digest_296 ((wMo cI u S (nI 0) (kepN S K i)) ++ [(q285, .inl (cI, 10, .inl (upd (row (fun _ => 0)) 0 (nI (S 7 i)))))]) rfl (fun H locs hP hD hS => ?_)
                                      refine lv_dup F.1 F.2.1 dX4_digest_297 rfl ?_
                                      refine lv_iconst (v := nI 1) F.1 F.2.1 dX4_digest_298 (by decide) ?_
                                      refine lv_aload_n F.1 F.2.1 dX4_digest_299 rfl (lv_at hl 0 rfl) ?_
                                      refine lv_iload F.1 F.2.1 dX4_digest_300 (lv_at hl 2 rfl) ?_
                                      refine lv_iconst (v := nI 1) F.1 F.2.1 dX4_digest_302 (by decide) ?_
                                      refine k_pV (n := 2) (rest := [.int (nI 1), .ref q285, .ref q285]) (v := nI (S 8 i)) F (c_X4_vi l D cI u S (nI 0) (kepN S K i) i 1 (by first | assumption | omega) (by first | assumption | omega)) gX4_digest_X4_vi rfl (by decide +kernel) ⟨Nat.le_of_ble_eq_true rfl, Nat.le_of_ble_eq_true rfl⟩ rfl hl.1 rfl (Nat.le_of_ble_eq_true rfl) dX4_digest_303 ⟨show ce274 + 1 ≤ 25 by omega, show sl274 + 10 ≤ 200 by omega⟩ hK hP hS [0, 1, 2, 3, 4, 5] rfl (q0 := 0) (ci := 4) rfl rfl (fun H locs hP hS => ?_)
                                      refine k_iasx (f := upd (row (fun _ => 0)) 0 (nI (S 7 i))) (k := 1) (x := nI (S 8 i)) F hK.1 hP hD hS 6 0 rfl rfl (by decide) (by decide) dX4_digest_306 ((wMo cI u S (nI 0) (kepN S K i)) ++ [(q285, .inl (cI, 10, .inl (upd (upd (row (fun _ => 0)) 0 (nI (S 7 i))) 1 (nI (S 8 i)))))]) rfl (fun H locs hP hD hS => ?_)
                                      refine lv_dup F.1 F.2.1 dX4_digest_307 rfl ?_
                                      refine lv_iconst (v := nI 2) F.1 F.2.1 dX4_digest_308 (by decide) ?_
                                      refine lv_aload_n F.1 F.2.1 dX4_digest_309 rfl (lv_at hl 0 rfl) ?_
                                      refine lv_iload F.1 F.2.1 dX4_digest_310 (lv_at hl 2 rfl) ?_
                                      refine lv_iconst (v := nI 2) F.1 F.2.1 dX4_digest_312 (by decide) ?_
                                      refine k_pV (n := 2) (rest := [.int (nI 2), .ref q285, .ref q285]) (v := nI (S 9 i)) F (c_X4_vi l D cI u S (nI 0) (kepN S K i) i 2 (by first | assumption | omega) (by first | assumption | omega)) gX4_digest_X4_vi rfl (by decide +kernel) ⟨Nat.le_of_ble_eq_true rfl, Nat.le_of_ble_eq_true rfl⟩ rfl hl.1 rfl (Nat.le_of_ble_eq_true rfl) dX4_digest_313 ⟨show ce274 + 1 ≤ 25 by omega, show sl274 + 10 ≤ 200 by omega⟩ hK hP hS [0, 1, 2, 3, 4, 5] rfl (q0 := 0) (ci := 4) rfl rfl (fun H locs hP hS => ?_)
                                      refine k_iasx (f := upd (upd (row (fun _ => 0)) 0 (nI (S 7 i))) 1 (nI (S 8 i))) (k := 2) (x := nI (S 9 i)) F hK.1 hP hD hS 6 0 rfl rfl (by decide) (by decide) dX4_digest_316 ((wMo cI u S (nI 0) (kepN S K i)) ++ [(q285, .inl (cI, 10, .inl (upd (upd (upd (row (fun _ => 0)) 0 (nI (S 7 i))) 1 (nI (S 8 i))) 2 (nI (S 9 i)))))]) rfl (fun H locs hP hD hS => ?_)
                                      refine lv_dup F.1 F.2.1 dX4_digest_317 rfl ?_
                                      refine lv_iconst (v := nI 3) F.1 F.2.1 dX4_digest_318 (by decide) ?_
                                      refine lv_aload_n F.1 F.2.1 dX4_digest_319 rfl (lv_at hl 0 rfl) ?_
                                      refine lv_iload F.1 F.2.1 dX4_digest_320 (lv_at hl 2 rfl) ?_
                                      refine lv_iconst (v := nI 3) F.1 F.2.1 dX4_digest_322 (by decide) ?_
                                      refine k_pV (n := 2) (rest := [.int (nI 3), .ref q285, .ref q285]) (v := nI (S 10 i)) F (c_X4_vi l D cI u S (nI 0) (kepN S K i) i 3 (by first | assumption | omega) (by first | assumption | omega)) gX4_digest_X4_vi rfl (by decide +kernel) ⟨Nat.le_of_ble_eq_true rfl, Nat.le_of_ble_eq_true rfl⟩ rfl hl.1 rfl (Nat.le_of_ble_eq_true rfl) dX4_digest_323 ⟨show ce274 + 1 ≤ 25 by omega, show sl274 + 10 ≤ 200 by omega⟩ hK hP hS [0, 1, 2, 3, 4, 5] rfl (q0 := 0) (ci := 4) rfl rfl (fun H locs hP hS => ?_)
                                      refine k_iasx (f := upd (upd (upd (row (fun _ => 0)) 0 (nI (S 7 i))) 1 (nI (S 8 i))) 2 (nI (S 9 i))) (k := 3) (x := nI (S 10 i)) F hK.1 hP hD hS 6 0 rfl rfl (by decide) (by decide) dX4_digest_326 ((wMo cI u S (nI 0) (kepN S K i)) ++ [(q285, .inl (cI, 10, .inl (upd (upd (upd (upd (row (fun _ => 0)) 0 (nI (S 7 i))) 1 (nI (S 8 i))) 2 (nI (S 9 i))) 3 (nI (S 10 i)))))]) rfl (fun H locs hP hD hS => ?_)
                                      refine lv_dup F.1 F.2.1 dX4_digest_327 rfl ?_
                                      refine lv_iconst (v := nI 4) F.1 F.2.1 dX4_digest_328 (by decide) ?_
                                      refine lv_aload_n F.1 F.2.1 dX4_digest_329 rfl (lv_at hl 0 rfl) ?_
                                      refine lv_iload F.1 F.2.1 dX4_digest_330 (lv_at hl 2 rfl) ?_
                                      refine k_pV (n := 1) (rest := [.int (nI 4), .ref q285, .ref q285]) (v := nI (hisG S (S 7 i) (S 6 i))) F (c_X4_hissNow l D cI u S (nI 0) (kepN S K i) i hI (by first | assumption | omega)) gX4_digest_X4_hissNow rfl (by decide +kernel) ⟨Nat.le_of_ble_eq_true rfl, Nat.le_of_ble_eq_true rfl⟩ rfl hl.1 rfl (Nat.le_of_ble_eq_true rfl) dX4_digest_332 ⟨show ce274 + 1 ≤ 25 by omega, show sl274 + 10 ≤ 200 by omega⟩ hK hP hS [0, 1, 2, 3, 4, 5] rfl (q0 := 0) (ci := 4) rfl rfl (fun H locs hP hS => ?_)
                                      refine k_iasx (f := upd (upd (upd (upd (row (fun _ => 0)) 0 (nI (S 7 i))) 1 (nI (S 8 i))) 2 (nI (S 9 i))) 3 (nI (S 10 i))) (k := 4) (x := nI (hisG S (S 7 i) (S 6 i))) F hK.1 hP hD hS 6 0 rfl rfl (by decide) (by decide) dX4_digest_335 ((wMo cI u S (nI 0) (kepN S K i)) ++ [(q285, .inl (cI, 10, .inl (upd (upd (upd (upd (upd (row (fun _ => 0)) 0 (nI (S 7 i))) 1 (nI (S 8 i))) 2 (nI (S 9 i))) 3 (nI (S 10 i))) 4 (nI (hisG S (S 7 i) (S 6 i))))))]) rfl (fun H locs hP hD hS => ?_)
                                      refine lv_dup F.1 F.2.1 dX4_digest_336 rfl ?_
                                      refine lv_iconst (v := nI 5) F.1 F.2.1 dX4_digest_337 (by decide) ?_
                                      refine lv_aload_n F.1 F.2.1 dX4_digest_338 rfl (lv_at hl 0 rfl) ?_
                                      refine lv_iload F.1 F.2.1 dX4_digest_339 (lv_at hl 2 rfl) ?_
                                      refine k_pV (n := 1) (rest := [.int (nI 5), .ref q285, .ref q285]) (v := bI (dareP S i)) F (c_X4_dare l D cI u S (nI 0) (kepN S K i) i hI (by first | assumption | omega)) gX4_digest_X4_dare rfl (by decide +kernel) ⟨Nat.le_of_ble_eq_true rfl, Nat.le_of_ble_eq_true rfl⟩ rfl hl.1 rfl (Nat.le_of_ble_eq_true rfl) dX4_digest_341 ⟨show ce274 + 1 ≤ 25 by omega, show sl274 + 10 ≤ 200 by omega⟩ hK hP hS [0, 1, 2, 3, 4, 5] rfl (q0 := 0) (ci := 4) rfl rfl (fun H locs hP hS => ?_)
                                      refine k_ifeq_b (tgt := 351) F dX4_digest_344 (by decide) (fun h344 => ?_) (fun h344 => ?_)
                                      · skip
                                        refine lv_iconst (v := nI 0) F.1 F.2.1 dX4_digest_351 (by decide) ?_
                                        refine lv_topi (fun y9 hy9 => ?_)
                                        have hy9 : y9 = bI (dareP S i) := hy9.trans (fin0 h344)
                                        subst hy9
                                        refine k_iasx (f := upd (upd (upd (upd (upd (row (fun _ => 0)) 0 (nI (S 7 i))) 1 (nI (S 8 i))) 2 (nI (S 9 i))) 3 (nI (S 10 i))) 4 (nI (hisG S (S 7 i) (S 6 i)))) (k := 5) (x := bI (dareP S i)) F hK.1 hP hD hS 6 0 rfl rfl (by decide) (by decide) dX4_digest_352 ((wMo cI u S (nI 0) (kepN S K i)) ++ [(q285, .inl (cI, 10, .inl (upd (upd (upd (upd (upd (upd (row (fun _ => 0)) 0 (nI (S 7 i))) 1 (nI (S 8 i))) 2 (nI (S 9 i))) 3 (nI (S 10 i))) 4 (nI (hisG S (S 7 i) (S 6 i)))) 5 (bI (dareP S i)))))]) rfl (fun H locs hP hD hS => ?_)
                                        refine lv_dup F.1 F.2.1 dX4_digest_353 rfl ?_
                                        refine lv_bipush (v := nI 6) F.1 F.2.1 dX4_digest_354 (by decide) ?_
                                        refine lv_aload_n F.1 F.2.1 dX4_digest_356 rfl (lv_at hl 0 rfl) ?_
                                        refine lv_iload F.1 F.2.1 dX4_digest_357 (lv_at hl 2 rfl) ?_
                                        refine k_mI (n := 1) (rest := [.int (nI 6), .ref q285, .ref q285]) (v := arrI S i 60) F (c_X4_until l D cI u S (nI 0) (kepN S K i) i hI (by first | assumption | omega)) gX4_digest_X4_until rfl (by decide +kernel) ⟨Nat.le_of_ble_eq_true rfl, Nat.le_of_ble_eq_true rfl⟩ rfl hl.1 rfl (Nat.le_of_ble_eq_true rfl) dX4_digest_359 ⟨show ce274 + 1 ≤ 25 by omega, show sl274 + 10 ≤ 200 by omega⟩ hK hP hD hS [0, 1, 2, 3, 4, 5] rfl rfl rfl ((wMo cI u S (nI 0) (encN S)) ++ [(q285, .inl (cI, 10, .inl (upd (upd (upd (upd (upd (upd (row (fun _ => 0)) 0 (nI (S 7 i))) 1 (nI (S 8 i))) 2 (nI (S 9 i))) 3 (nI (S 10 i))) 4 (nI (hisG S (S 7 i) (S 6 i)))) 5 (bI (dareP S i)))))]) wMo_msE wMo_adE (q0 := 0) (ci := 4) rfl rfl (fun H locs hP hD hS => ?_)
                                        refine k_iasx (f := upd (upd (upd (upd (upd (upd (row (fun _ => 0)) 0 (nI (S 7 i))) 1 (nI (S 8 i))) 2 (nI (S 9 i))) 3 (nI (S 10 i))) 4 (nI (hisG S (S 7 i) (S 6 i)))) 5 (bI (dareP S i))) (k := 6) (x := arrI S i 60) F hK.1 hP hD hS 6 0 rfl rfl (by decide) (by decide) dX4_digest_362 ((wMo cI u S (nI 0) (encN S)) ++ [(q285, .inl (cI, 10, .inl (upd (upd (upd (upd (upd (upd (upd (row (fun _ => 0)) 0 (nI (S 7 i))) 1 (nI (S 8 i))) 2 (nI (S 9 i))) 3 (nI (S 10 i))) 4 (nI (hisG S (S 7 i) (S 6 i)))) 5 (bI (dareP S i))) 6 (arrI S i 60))))]) rfl (fun H locs hP hD hS => ?_)
                                        refine lv_dup F.1 F.2.1 dX4_digest_363 rfl ?_
                                        refine lv_bipush (v := nI 7) F.1 F.2.1 dX4_digest_364 (by decide) ?_
                                        refine lv_aload_n F.1 F.2.1 dX4_digest_366 rfl (lv_at hl 0 rfl) ?_
                                        refine lv_iload F.1 F.2.1 dX4_digest_367 (lv_at hl 2 rfl) ?_
                                        refine k_pV (n := 1) (rest := [.int (nI 7), .ref q285, .ref q285]) (v := oI (frcN S (S 7 i) (S 0 1)).1) F (c_X4_toBribe l D cI u S (nI 0) (encN S) i hI (by first | assumption | omega)) gX4_digest_X4_toBribe rfl (by decide +kernel) ⟨Nat.le_of_ble_eq_true rfl, Nat.le_of_ble_eq_true rfl⟩ rfl hl.1 rfl (Nat.le_of_ble_eq_true rfl) dX4_digest_369 ⟨show ce274 + 1 ≤ 25 by omega, show sl274 + 10 ≤ 200 by omega⟩ hK hP hS [0, 1, 2, 3, 4, 5] rfl (q0 := 0) (ci := 4) rfl rfl (fun H locs hP hS => ?_)
                                        refine k_iasx (f := upd (upd (upd (upd (upd (upd (upd (row (fun _ => 0)) 0 (nI (S 7 i))) 1 (nI (S 8 i))) 2 (nI (S 9 i))) 3 (nI (S 10 i))) 4 (nI (hisG S (S 7 i) (S 6 i)))) 5 (bI (dareP S i))) 6 (arrI S i 60)) (k := 7) (x := oI (frcN S (S 7 i) (S 0 1)).1) F hK.1 hP hD hS 6 0 rfl rfl (by decide) (by decide) dX4_digest_372 ((wMo cI u S (nI 0) (encN S)) ++ [(q285, .inl (cI, 10, .inl (upd (upd (upd (upd (upd (upd (upd (upd (row (fun _ => 0)) 0 (nI (S 7 i))) 1 (nI (S 8 i))) 2 (nI (S 9 i))) 3 (nI (S 10 i))) 4 (nI (hisG S (S 7 i) (S 6 i)))) 5 (bI (dareP S i))) 6 (arrI S i 60)) 7 (oI (frcN S (S 7 i) (S 0 1)).1))))]) rfl (fun H locs hP hD hS => ?_)
                                        refine lv_dup F.1 F.2.1 dX4_digest_373 rfl ?_
                                        refine lv_bipush (v := nI 8) F.1 F.2.1 dX4_digest_374 (by decide) ?_
                                        refine lv_aload_n F.1 F.2.1 dX4_digest_376 rfl (lv_at hl 0 rfl) ?_
                                        refine lv_iload F.1 F.2.1 dX4_digest_377 (lv_at hl 2 rfl) ?_
                                        refine k_gI (n := 1) (rest := [.int (nI 8), .ref q285, .ref q285]) (v := nI (calmN S i)) F (c_X4_calmWanted l D cI u S (nI 0) (encN S) i hI (by first | assumption | omega)) gX4_digest_X4_calmWanted rfl (by decide +kernel) ⟨Nat.le_of_ble_eq_true rfl, Nat.le_of_ble_eq_true rfl⟩ rfl hl.1 rfl (Nat.le_of_ble_eq_true rfl) dX4_digest_379 ⟨show ce274 + 1 + 1 ≤ 25 by omega, show sl274 + 10 + 10 ≤ 200 by omega⟩ hK hP hD hS (fun q h => Or.inr (by omega)) [0, 1, 2, 3, 4, 5] rfl rfl rfl ((wMo cI u S (nI 0) (encN S)) ++ [(q285, .inl (cI, 10, .inl (upd (upd (upd (upd (upd (upd (upd (upd (row (fun _ => 0)) 0 (nI (S 7 i))) 1 (nI (S 8 i))) 2 (nI (S 9 i))) 3 (nI (S 10 i))) 4 (nI (hisG S (S 7 i) (S 6 i)))) 5 (bI (dareP S i))) 6 (arrI S i 60)) 7 (oI (frcN S (S 7 i) (S 0 1)).1))))]) wMo_msE wMo_adE (q0 := 0) (ci := 4) rfl rfl (fun H locs hP hD hS => ?_)
                                        refine k_iasx (f := upd (upd (upd (upd (upd (upd (upd (upd (row (fun _ => 0)) 0 (nI (S 7 i))) 1 (nI (S 8 i))) 2 (nI (S 9 i))) 3 (nI (S 10 i))) 4 (nI (hisG S (S 7 i) (S 6 i)))) 5 (bI (dareP S i))) 6 (arrI S i 60)) 7 (oI (frcN S (S 7 i) (S 0 1)).1)) (k := 8) (x := nI (calmN S i)) F hK.1 hP hD hS 6 0 rfl rfl (by decide) (by decide) dX4_digest_382 ((wMo cI u S (nI 0) (encN S)) ++ [(q285, .inl (cI, 10, .inl (upd (upd (upd (upd (upd (upd (upd (upd (upd (row (fun _ => 0)) 0 (nI (S 7 i))) 1 (nI (S 8 i))) 2 (nI (S 9 i))) 3 (nI (S 10 i))) 4 (nI (hisG S (S 7 i) (S 6 i)))) 5 (bI (dareP S i))) 6 (arrI S i 60)) 7 (oI (frcN S (S 7 i) (S 0 1)).1)) 8 (nI (calmN S i)))))]) rfl (fun H locs hP hD hS => ?_)
                                        refine lv_dup F.1 F.2.1 dX4_digest_383 rfl ?_
                                        refine lv_bipush (v := nI 9) F.1 F.2.1 dX4_digest_384 (by decide) ?_
                                        refine lv_aload_n F.1 F.2.1 dX4_digest_386 rfl (lv_at hl 0 rfl) ?_
                                        refine lv_iload F.1 F.2.1 dX4_digest_387 (lv_at hl 2 rfl) ?_
                                        refine k_pV (n := 1) (rest := [.int (nI 9), .ref q285, .ref q285]) (v := oI (rkN S i 10)) F (c_X4_ranked l D cI u S (nI 0) (encN S) i hI (by first | assumption | omega)) gX4_digest_X4_ranked rfl (by decide +kernel) ⟨Nat.le_of_ble_eq_true rfl, Nat.le_of_ble_eq_true rfl⟩ rfl hl.1 rfl (Nat.le_of_ble_eq_true rfl) dX4_digest_389 ⟨show ce274 + 1 + 1 ≤ 25 by omega, show sl274 + 10 + 10 ≤ 200 by omega⟩ hK hP hS [0, 1, 2, 3, 4, 5] rfl (q0 := 0) (ci := 4) rfl rfl (fun H locs hP hS => ?_)
                                        refine k_iasx (f := upd (upd (upd (upd (upd (upd (upd (upd (upd (row (fun _ => 0)) 0 (nI (S 7 i))) 1 (nI (S 8 i))) 2 (nI (S 9 i))) 3 (nI (S 10 i))) 4 (nI (hisG S (S 7 i) (S 6 i)))) 5 (bI (dareP S i))) 6 (arrI S i 60)) 7 (oI (frcN S (S 7 i) (S 0 1)).1)) 8 (nI (calmN S i))) (k := 9) (x := oI (rkN S i 10)) F hK.1 hP hD hS 6 0 rfl rfl (by decide) (by decide) dX4_digest_392 ((wMo cI u S (nI 0) (encN S)) ++ [(q285, .inl (cI, 10, .inl (upd (upd (upd (upd (upd (upd (upd (upd (upd (upd (row (fun _ => 0)) 0 (nI (S 7 i))) 1 (nI (S 8 i))) 2 (nI (S 9 i))) 3 (nI (S 10 i))) 4 (nI (hisG S (S 7 i) (S 6 i)))) 5 (bI (dareP S i))) 6 (arrI S i 60)) 7 (oI (frcN S (S 7 i) (S 0 1)).1)) 8 (nI (calmN S i))) 9 (oI (rkN S i 10)))))]) rfl (fun H locs hP hD hS => ?_)
                                        refine lv_astore (lv' := [(5, .ref q285), (0, .ref (u 0)), (2, .long (dgV S (dgK S (dgG S (dg0 S) (S 0 0)) (S 0 1)) i)), (4, .int (nI i))]) F.1 F.2.1 dX4_digest_393 hl (by decide) rfl (fun ls hl => ?_)
                                        refine lv_aload F.1 F.2.1 dX4_digest_395 (lv_at hl 0 rfl) ?_
                                        refine lv_astore (lv' := [(6, .ref q285), (5, .ref q285), (0, .ref (u 0)), (2, .long (dgV S (dgK S (dgG S (dg0 S) (S 0 0)) (S 0 1)) i)), (4, .int (nI i))]) F.1 F.2.1 dX4_digest_397 hl (by decide) rfl (fun ls hl => ?_)
                                        refine lv_aload F.1 F.2.1 dX4_digest_399 (lv_at hl 0 rfl) ?_
                                        refine k_alen (n := 10) F hK.1 hP 6 0 rfl rfl dX4_digest_401 ?_
                                        refine lv_istore (lv' := [(7, .int (nI 10)), (6, .ref q285), (5, .ref q285), (0, .ref (u 0)), (2, .long (dgV S (dgK S (dgG S (dg0 S) (S 0 0)) (S 0 1)) i)), (4, .int (nI i))]) F.1 F.2.1 dX4_digest_402 hl (by decide) rfl (fun ls hl => ?_)
                                        refine lv_iconst (v := nI 0) F.1 F.2.1 dX4_digest_404 (by decide) ?_
                                        refine lv_istore (lv' := [(8, .int (nI 0)), (7, .int (nI 10)), (6, .ref q285), (5, .ref q285), (0, .ref (u 0)), (2, .long (dgV S (dgK S (dgG S (dg0 S) (S 0 0)) (S 0 1)) i)), (4, .int (nI i))]) F.1 F.2.1 dX4_digest_405 hl (by decide) rfl (fun ls hl => ?_)
                                        refine lv_iload F.1 F.2.1 dX4_digest_407 (lv_at hl 0 rfl) ?_
                                        refine lv_iload F.1 F.2.1 dX4_digest_409 (lv_at hl 1 rfl) ?_
                                        refine k_icmp_ge (tgt := 437) F (by omega) (by omega) dX4_digest_411 (by decide) (fun h411 => ?_) (fun h411 => ?_)
                                        · skip
                                          exact absurd h411 (by decide)
                                        · skip
                                          refine lv_aload F.1 F.2.1 dX4_digest_414 (lv_at hl 2 rfl) ?_
                                          refine lv_iload F.1 F.2.1 dX4_digest_416 (lv_at hl 0 rfl) ?_
                                          refine k_ialx (k := 0) (v := nI (S 7 i)) F hK.1 hP 6 0 rfl rfl (by decide) (by decide) ((u_ne (by decide)).trans ((u_ne (by decide)).trans ((u_ne (by decide)).trans ((u_ne (by decide)).trans ((u_ne (by decide)).trans ((u_ne (by decide)).trans ((u_ne (by decide)).trans ((u_ne (by decide)).trans ((u_ne (by decide)).trans u_eq))))))))) dX4_digest_418 ?_
                                          refine lv_istore (lv' := [(9, .int (nI (S 7 i))), (8, .int (nI 0)), (7, .int (nI 10)), (6, .ref q285), (5, .ref q285), (0, .ref (u 0)), (2, .long (dgV S (dgK S (dgG S (dg0 S) (S 0 0)) (S 0 1)) i)), (4, .int (nI i))]) F.1 F.2.1 dX4_digest_419 hl (by decide) rfl (fun ls hl => ?_)
                                          refine lv_lload_n F.1 F.2.1 dX4_digest_421 rfl (lv_at hl 6 rfl) ?_
                                          refine lv_ldc2 (v := 31) F.1 F.2.1 F.2.2.2.1 (F.2.2.2.2 _ (List.mem_of_getElem? (i := 8) rfl)) dX4_digest_422 ?_
                                          refine lv_lmul F.1 F.2.1 dX4_digest_425 ?_
                                          refine lv_iload F.1 F.2.1 dX4_digest_426 (lv_at hl 0 rfl) ?_
                                          refine lv_i2l (v := (nI (S 7 i)).toInt64) F.1 F.2.1 dX4_digest_428 rfl ?_
                                          refine lv_ladd F.1 F.2.1 dX4_digest_429 ?_
                                          refine lv_lstore_n (lv' := [(2, .long (mxL (dgV S (dgK S (dgG S (dg0 S) (S 0 0)) (S 0 1)) i) ((nI (S 7 i)).toInt64))), (9, .int (nI (S 7 i))), (8, .int (nI 0)), (7, .int (nI 10)), (6, .ref q285), (5, .ref q285), (0, .ref (u 0)), (4, .int (nI i))]) F.1 F.2.1 dX4_digest_430 rfl hl (by decide) rfl (fun ls hl => ?_)
                                          refine k_inc (k := 2) (lv' := [(8, .int (nI 1)), (2, .long (mxL (dgV S (dgK S (dgG S (dg0 S) (S 0 0)) (S 0 1)) i) ((nI (S 7 i)).toInt64))), (9, .int (nI (S 7 i))), (7, .int (nI 10)), (6, .ref q285), (5, .ref q285), (0, .ref (u 0)), (4, .int (nI i))]) F dX4_digest_431 hl rfl (by decide) rfl (fun ls hl => ?_)
                                          refine lv_goto (tgt := 407) F.1 F.2.1 dX4_digest_434 (by decide) ?_
                                          refine lv_iload F.1 F.2.1 dX4_digest_407 (lv_at hl 0 rfl) ?_
                                          refine lv_iload F.1 F.2.1 dX4_digest_409 (lv_at hl 3 rfl) ?_
                                          refine k_icmp_ge (tgt := 437) F (by omega) (by omega) dX4_digest_411 (by decide) (fun h411 => ?_) (fun h411 => ?_)
                                          · skip
                                            exact absurd h411 (by decide)
                                          · skip
                                            refine lv_aload F.1 F.2.1 dX4_digest_414 (lv_at hl 4 rfl) ?_
                                            refine lv_iload F.1 F.2.1 dX4_digest_416 (lv_at hl 0 rfl) ?_
                                            refine k_ialx (k := 1) (v := nI (S 8 i)) F hK.1 hP 6 0 rfl rfl (by decide) (by decide) ((u_ne (by decide)).trans ((u_ne (by decide)).trans ((u_ne (by decide)).trans ((u_ne (by decide)).trans ((u_ne (by decide)).trans ((u_ne (by decide)).trans ((u_ne (by decide)).trans ((u_ne (by decide)).trans u_eq)))))))) dX4_digest_418 ?_
                                            refine lv_istore (lv' := [(9, .int (nI (S 8 i))), (8, .int (nI 1)), (2, .long (mxL (dgV S (dgK S (dgG S (dg0 S) (S 0 0)) (S 0 1)) i) ((nI (S 7 i)).toInt64))), (7, .int (nI 10)), (6, .ref q285), (5, .ref q285), (0, .ref (u 0)), (4, .int (nI i))]) F.1 F.2.1 dX4_digest_419 hl (by decide) rfl (fun ls hl => ?_)
                                            refine lv_lload_n F.1 F.2.1 dX4_digest_421 rfl (lv_at hl 2 rfl) ?_
                                            refine lv_ldc2 (v := 31) F.1 F.2.1 F.2.2.2.1 (F.2.2.2.2 _ (List.mem_of_getElem? (i := 8) rfl)) dX4_digest_422 ?_
                                            refine lv_lmul F.1 F.2.1 dX4_digest_425 ?_
                                            refine lv_iload F.1 F.2.1 dX4_digest_426 (lv_at hl 0 rfl) ?_
                                            refine lv_i2l (v := (nI (S 8 i)).toInt64) F.1 F.2.1 dX4_digest_428 rfl ?_
                                            refine lv_ladd F.1 F.2.1 dX4_digest_429 ?_
                                            refine lv_lstore_n (lv' := [(2, .long (mxL (mxL (dgV S (dgK S (dgG S (dg0 S) (S 0 0)) (S 0 1)) i) ((nI (S 7 i)).toInt64)) ((nI (S 8 i)).toInt64))), (9, .int (nI (S 8 i))), (8, .int (nI 1)), (7, .int (nI 10)), (6, .ref q285), (5, .ref q285), (0, .ref (u 0)), (4, .int (nI i))]) F.1 F.2.1 dX4_digest_430 rfl hl (by decide) rfl (fun ls hl => ?_)
                                            refine k_inc (k := 2) (lv' := [(8, .int (nI 2)), (2, .long (mxL (mxL (dgV S (dgK S (dgG S (dg0 S) (S 0 0)) (S 0 1)) i) ((nI (S 7 i)).toInt64)) ((nI (S 8 i)).toInt64))), (9, .int (nI (S 8 i))), (7, .int (nI 10)), (6, .ref q285), (5, .ref q285), (0, .ref (u 0)), (4, .int (nI i))]) F dX4_digest_431 hl rfl (by decide) rfl (fun ls hl => ?_)
                                            refine lv_goto (tgt := 407) F.1 F.2.1 dX4_digest_434 (by decide) ?_
                                            refine lv_iload F.1 F.2.1 dX4_digest_407 (lv_at hl 0 rfl) ?_
                                            refine lv_iload F.1 F.2.1 dX4_digest_409 (lv_at hl 3 rfl) ?_
                                            refine k_icmp_ge (tgt := 437) F (by omega) (by omega) dX4_digest_411 (by decide) (fun h411 => ?_) (fun h411 => ?_)
                                            · skip
                                              exact absurd h411 (by decide)
                                            · skip
                                              refine lv_aload F.1 F.2.1 dX4_digest_414 (lv_at hl 4 rfl) ?_
                                              refine lv_iload F.1 F.2.1 dX4_digest_416 (lv_at hl 0 rfl) ?_
                                              refine k_ialx (k := 2) (v := nI (S 9 i)) F hK.1 hP 6 0 rfl rfl (by decide) (by decide) ((u_ne (by decide)).trans ((u_ne (by decide)).trans ((u_ne (by decide)).trans ((u_ne (by decide)).trans ((u_ne (by decide)).trans ((u_ne (by decide)).trans ((u_ne (by decide)).trans u_eq))))))) dX4_digest_418 ?_
                                              refine lv_istore (lv' := [(9, .int (nI (S 9 i))), (8, .int (nI 2)), (2, .long (mxL (mxL (dgV S (dgK S (dgG S (dg0 S) (S 0 0)) (S 0 1)) i) ((nI (S 7 i)).toInt64)) ((nI (S 8 i)).toInt64))), (7, .int (nI 10)), (6, .ref q285), (5, .ref q285), (0, .ref (u 0)), (4, .int (nI i))]) F.1 F.2.1 dX4_digest_419 hl (by decide) rfl (fun ls hl => ?_)
                                              refine lv_lload_n F.1 F.2.1 dX4_digest_421 rfl (lv_at hl 2 rfl) ?_
                                              refine lv_ldc2 (v := 31) F.1 F.2.1 F.2.2.2.1 (F.2.2.2.2 _ (List.mem_of_getElem? (i := 8) rfl)) dX4_digest_422 ?_
                                              refine lv_lmul F.1 F.2.1 dX4_digest_425 ?_
                                              refine lv_iload F.1 F.2.1 dX4_digest_426 (lv_at hl 0 rfl) ?_
                                              refine lv_i2l (v := (nI (S 9 i)).toInt64) F.1 F.2.1 dX4_digest_428 rfl ?_
                                              refine lv_ladd F.1 F.2.1 dX4_digest_429 ?_
                                              refine lv_lstore_n (lv' := [(2, .long (mxL (mxL (mxL (dgV S (dgK S (dgG S (dg0 S) (S 0 0)) (S 0 1)) i) ((nI (S 7 i)).toInt64)) ((nI (S 8 i)).toInt64)) ((nI (S 9 i)).toInt64))), (9, .int (nI (S 9 i))), (8, .int (nI 2)), (7, .int (nI 10)), (6, .ref q285), (5, .ref q285), (0, .ref (u 0)), (4, .int (nI i))]) F.1 F.2.1 dX4_digest_430 rfl hl (by decide) rfl (fun ls hl => ?_)
                                              refine k_inc (k := 2) (lv' := [(8, .int (nI 3)), (2, .long (mxL (mxL (mxL (dgV S (dgK S (dgG S (dg0 S) (S 0 0)) (S 0 1)) i) ((nI (S 7 i)).toInt64)) ((nI (S 8 i)).toInt64)) ((nI (S 9 i)).toInt64))), (9, .int (nI (S 9 i))), (7, .int (nI 10)), (6, .ref q285), (5, .ref q285), (0, .ref (u 0)), (4, .int (nI i))]) F dX4_digest_431 hl rfl (by decide) rfl (fun ls hl => ?_)
                                              refine lv_goto (tgt := 407) F.1 F.2.1 dX4_digest_434 (by decide) ?_
                                              refine lv_iload F.1 F.2.1 dX4_digest_407 (lv_at hl 0 rfl) ?_
                                              refine lv_iload F.1 F.2.1 dX4_digest_409 (lv_at hl 3 rfl) ?_
                                              refine k_icmp_ge (tgt := 437) F (by omega) (by omega) dX4_digest_411 (by decide) (fun h411 => ?_) (fun h411 => ?_)
                                              · skip
                                                exact absurd h411 (by decide)
                                              · skip
                                                refine lv_aload F.1 F.2.1 dX4_digest_414 (lv_at hl 4 rfl) ?_
                                                refine lv_iload F.1 F.2.1 dX4_digest_416 (lv_at hl 0 rfl) ?_
                                                refine k_ialx (k := 3) (v := nI (S 10 i)) F hK.1 hP 6 0 rfl rfl (by decide) (by decide) ((u_ne (by decide)).trans ((u_ne (by decide)).trans ((u_ne (by decide)).trans ((u_ne (by decide)).trans ((u_ne (by decide)).trans ((u_ne (by decide)).trans u_eq)))))) dX4_digest_418 ?_
                                                refine lv_istore (lv' := [(9, .int (nI (S 10 i))), (8, .int (nI 3)), (2, .long (mxL (mxL (mxL (dgV S (dgK S (dgG S (dg0 S) (S 0 0)) (S 0 1)) i) ((nI (S 7 i)).toInt64)) ((nI (S 8 i)).toInt64)) ((nI (S 9 i)).toInt64))), (7, .int (nI 10)), (6, .ref q285), (5, .ref q285), (0, .ref (u 0)), (4, .int (nI i))]) F.1 F.2.1 dX4_digest_419 hl (by decide) rfl (fun ls hl => ?_)
                                                refine lv_lload_n F.1 F.2.1 dX4_digest_421 rfl (lv_at hl 2 rfl) ?_
                                                refine lv_ldc2 (v := 31) F.1 F.2.1 F.2.2.2.1 (F.2.2.2.2 _ (List.mem_of_getElem? (i := 8) rfl)) dX4_digest_422 ?_
                                                refine lv_lmul F.1 F.2.1 dX4_digest_425 ?_
                                                refine lv_iload F.1 F.2.1 dX4_digest_426 (lv_at hl 0 rfl) ?_
                                                refine lv_i2l (v := (nI (S 10 i)).toInt64) F.1 F.2.1 dX4_digest_428 rfl ?_
                                                refine lv_ladd F.1 F.2.1 dX4_digest_429 ?_
                                                refine lv_lstore_n (lv' := [(2, .long (mxL (mxL (mxL (mxL (dgV S (dgK S (dgG S (dg0 S) (S 0 0)) (S 0 1)) i) ((nI (S 7 i)).toInt64)) ((nI (S 8 i)).toInt64)) ((nI (S 9 i)).toInt64)) ((nI (S 10 i)).toInt64))), (9, .int (nI (S 10 i))), (8, .int (nI 3)), (7, .int (nI 10)), (6, .ref q285), (5, .ref q285), (0, .ref (u 0)), (4, .int (nI i))]) F.1 F.2.1 dX4_digest_430 rfl hl (by decide) rfl (fun ls hl => ?_)
                                                refine k_inc (k := 2) (lv' := [(8, .int (nI 4)), (2, .long (mxL (mxL (mxL (mxL (dgV S (dgK S (dgG S (dg0 S) (S 0 0)) (S 0 1)) i) ((nI (S 7 i)).toInt64)) ((nI (S 8 i)).toInt64)) ((nI (S 9 i)).toInt64)) ((nI (S 10 i)).toInt64))), (9, .int (nI (S 10 i))), (7, .int (nI 10)), (6, .ref q285), (5, .ref q285), (0, .ref (u 0)), (4, .int (nI i))]) F dX4_digest_431 hl rfl (by decide) rfl (fun ls hl => ?_)
                                                refine lv_goto (tgt := 407) F.1 F.2.1 dX4_digest_434 (by decide) ?_
                                                refine lv_iload F.1 F.2.1 dX4_digest_407 (lv_at hl 0 rfl) ?_
                                                refine lv_iload F.1 F.2.1 dX4_digest_409 (lv_at hl 3 rfl) ?_
                                                refine k_icmp_ge (tgt := 437) F (by omega) (by omega) dX4_digest_411 (by decide) (fun h411 => ?_) (fun h411 => ?_)
                                                · skip
                                                  exact absurd h411 (by decide)
                                                · skip
                                                  refine lv_aload F.1 F.2.1 dX4_digest_414 (lv_at hl 4 rfl) ?_
                                                  refine lv_iload F.1 F.2.1 dX4_digest_416 (lv_at hl 0 rfl) ?_
                                                  refine k_ialx (k := 4) (v := nI (hisG S (S 7 i) (S 6 i))) F hK.1 hP 6 0 rfl rfl (by decide) (by decide) ((u_ne (by decide)).trans ((u_ne (by decide)).trans ((u_ne (by decide)).trans ((u_ne (by decide)).trans ((u_ne (by decide)).trans u_eq))))) dX4_digest_418 ?_
                                                  refine lv_istore (lv' := [(9, .int (nI (hisG S (S 7 i) (S 6 i)))), (8, .int (nI 4)), (2, .long (mxL (mxL (mxL (mxL (dgV S (dgK S (dgG S (dg0 S) (S 0 0)) (S 0 1)) i) ((nI (S 7 i)).toInt64)) ((nI (S 8 i)).toInt64)) ((nI (S 9 i)).toInt64)) ((nI (S 10 i)).toInt64))), (7, .int (nI 10)), (6, .ref q285), (5, .ref q285), (0, .ref (u 0)), (4, .int (nI i))]) F.1 F.2.1 dX4_digest_419 hl (by decide) rfl (fun ls hl => ?_)
                                                  refine lv_lload_n F.1 F.2.1 dX4_digest_421 rfl (lv_at hl 2 rfl) ?_
                                                  refine lv_ldc2 (v := 31) F.1 F.2.1 F.2.2.2.1 (F.2.2.2.2 _ (List.mem_of_getElem? (i := 8) rfl)) dX4_digest_422 ?_
                                                  refine lv_lmul F.1 F.2.1 dX4_digest_425 ?_
                                                  refine lv_iload F.1 F.2.1 dX4_digest_426 (lv_at hl 0 rfl) ?_
                                                  refine lv_i2l (v := (nI (hisG S (S 7 i) (S 6 i))).toInt64) F.1 F.2.1 dX4_digest_428 rfl ?_
                                                  refine lv_ladd F.1 F.2.1 dX4_digest_429 ?_
                                                  refine lv_lstore_n (lv' := [(2, .long (mxL (mxL (mxL (mxL (mxL (dgV S (dgK S (dgG S (dg0 S) (S 0 0)) (S 0 1)) i) ((nI (S 7 i)).toInt64)) ((nI (S 8 i)).toInt64)) ((nI (S 9 i)).toInt64)) ((nI (S 10 i)).toInt64)) ((nI (hisG S (S 7 i) (S 6 i))).toInt64))), (9, .int (nI (hisG S (S 7 i) (S 6 i)))), (8, .int (nI 4)), (7, .int (nI 10)), (6, .ref q285), (5, .ref q285), (0, .ref (u 0)), (4, .int (nI i))]) F.1 F.2.1 dX4_digest_430 rfl hl (by decide) rfl (fun ls hl => ?_)
                                                  refine k_inc (k := 2) (lv' := [(8, .int (nI 5)), (2, .long (mxL (mxL (mxL (mxL (mxL (dgV S (dgK S (dgG S (dg0 S) (S 0 0)) (S 0 1)) i) ((nI (S 7 i)).toInt64)) ((nI (S 8 i)).toInt64)) ((nI (S 9 i)).toInt64)) ((nI (S 10 i)).toInt64)) ((nI (hisG S (S 7 i) (S 6 i))).toInt64))), (9, .int (nI (hisG S (S 7 i) (S 6 i)))), (7, .int (nI 10)), (6, .ref q285), (5, .ref q285), (0, .ref (u 0)), (4, .int (nI i))]) F dX4_digest_431 hl rfl (by decide) rfl (fun ls hl => ?_)
                                                  refine lv_goto (tgt := 407) F.1 F.2.1 dX4_digest_434 (by decide) ?_
                                                  refine lv_iload F.1 F.2.1 dX4_digest_407 (lv_at hl 0 rfl) ?_
                                                  refine lv_iload F.1 F.2.1 dX4_digest_409 (lv_at hl 3 rfl) ?_
                                                  refine k_icmp_ge (tgt := 437) F (by omega) (by omega) dX4_digest_411 (by decide) (fun h411 => ?_) (fun h411 => ?_)
                                                  · skip
                                                    exact absurd h411 (by decide)
                                                  · skip
                                                    refine lv_aload F.1 F.2.1 dX4_digest_414 (lv_at hl 4 rfl) ?_
                                                    refine lv_iload F.1 F.2.1 dX4_digest_416 (lv_at hl 0 rfl) ?_
                                                    refine k_ialx (k := 5) (v := bI (dareP S i)) F hK.1 hP 6 0 rfl rfl (by decide) (by decide) ((u_ne (by decide)).trans ((u_ne (by decide)).trans ((u_ne (by decide)).trans ((u_ne (by decide)).trans u_eq)))) dX4_digest_418 ?_
                                                    refine lv_istore (lv' := [(9, .int (bI (dareP S i))), (8, .int (nI 5)), (2, .long (mxL (mxL (mxL (mxL (mxL (dgV S (dgK S (dgG S (dg0 S) (S 0 0)) (S 0 1)) i) ((nI (S 7 i)).toInt64)) ((nI (S 8 i)).toInt64)) ((nI (S 9 i)).toInt64)) ((nI (S 10 i)).toInt64)) ((nI (hisG S (S 7 i) (S 6 i))).toInt64))), (7, .int (nI 10)), (6, .ref q285), (5, .ref q285), (0, .ref (u 0)), (4, .int (nI i))]) F.1 F.2.1 dX4_digest_419 hl (by decide) rfl (fun ls hl => ?_)
                                                    refine lv_lload_n F.1 F.2.1 dX4_digest_421 rfl (lv_at hl 2 rfl) ?_
                                                    refine lv_ldc2 (v := 31) F.1 F.2.1 F.2.2.2.1 (F.2.2.2.2 _ (List.mem_of_getElem? (i := 8) rfl)) dX4_digest_422 ?_
                                                    refine lv_lmul F.1 F.2.1 dX4_digest_425 ?_
                                                    refine lv_iload F.1 F.2.1 dX4_digest_426 (lv_at hl 0 rfl) ?_
                                                    refine lv_i2l (v := (bI (dareP S i)).toInt64) F.1 F.2.1 dX4_digest_428 rfl ?_
                                                    refine lv_ladd F.1 F.2.1 dX4_digest_429 ?_
                                                    refine lv_lstore_n (lv' := [(2, .long (mxL (mxL (mxL (mxL (mxL (mxL (dgV S (dgK S (dgG S (dg0 S) (S 0 0)) (S 0 1)) i) ((nI (S 7 i)).toInt64)) ((nI (S 8 i)).toInt64)) ((nI (S 9 i)).toInt64)) ((nI (S 10 i)).toInt64)) ((nI (hisG S (S 7 i) (S 6 i))).toInt64)) ((bI (dareP S i)).toInt64))), (9, .int (bI (dareP S i))), (8, .int (nI 5)), (7, .int (nI 10)), (6, .ref q285), (5, .ref q285), (0, .ref (u 0)), (4, .int (nI i))]) F.1 F.2.1 dX4_digest_430 rfl hl (by decide) rfl (fun ls hl => ?_)
                                                    refine k_inc (k := 2) (lv' := [(8, .int (nI 6)), (2, .long (mxL (mxL (mxL (mxL (mxL (mxL (dgV S (dgK S (dgG S (dg0 S) (S 0 0)) (S 0 1)) i) ((nI (S 7 i)).toInt64)) ((nI (S 8 i)).toInt64)) ((nI (S 9 i)).toInt64)) ((nI (S 10 i)).toInt64)) ((nI (hisG S (S 7 i) (S 6 i))).toInt64)) ((bI (dareP S i)).toInt64))), (9, .int (bI (dareP S i))), (7, .int (nI 10)), (6, .ref q285), (5, .ref q285), (0, .ref (u 0)), (4, .int (nI i))]) F dX4_digest_431 hl rfl (by decide) rfl (fun ls hl => ?_)
                                                    refine lv_goto (tgt := 407) F.1 F.2.1 dX4_digest_434 (by decide) ?_
                                                    refine lv_iload F.1 F.2.1 dX4_digest_407 (lv_at hl 0 rfl) ?_
                                                    refine lv_iload F.1 F.2.1 dX4_digest_409 (lv_at hl 3 rfl) ?_
                                                    refine k_icmp_ge (tgt := 437) F (by omega) (by omega) dX4_digest_411 (by decide) (fun h411 => ?_) (fun h411 => ?_)
                                                    · skip
                                                      exact absurd h411 (by decide)
                                                    · skip
                                                      refine lv_aload F.1 F.2.1 dX4_digest_414 (lv_at hl 4 rfl) ?_
                                                      refine lv_iload F.1 F.2.1 dX4_digest_416 (lv_at hl 0 rfl) ?_
                                                      refine k_ialx (k := 6) (v := arrI S i 60) F hK.1 hP 6 0 rfl rfl (by decide) (by decide) ((u_ne (by decide)).trans ((u_ne (by decide)).trans ((u_ne (by decide)).trans u_eq))) dX4_digest_418 ?_
                                                      refine lv_istore (lv' := [(9, .int (arrI S i 60)), (8, .int (nI 6)), (2, .long (mxL (mxL (mxL (mxL (mxL (mxL (dgV S (dgK S (dgG S (dg0 S) (S 0 0)) (S 0 1)) i) ((nI (S 7 i)).toInt64)) ((nI (S 8 i)).toInt64)) ((nI (S 9 i)).toInt64)) ((nI (S 10 i)).toInt64)) ((nI (hisG S (S 7 i) (S 6 i))).toInt64)) ((bI (dareP S i)).toInt64))), (7, .int (nI 10)), (6, .ref q285), (5, .ref q285), (0, .ref (u 0)), (4, .int (nI i))]) F.1 F.2.1 dX4_digest_419 hl (by decide) rfl (fun ls hl => ?_)
                                                      refine lv_lload_n F.1 F.2.1 dX4_digest_421 rfl (lv_at hl 2 rfl) ?_
                                                      refine lv_ldc2 (v := 31) F.1 F.2.1 F.2.2.2.1 (F.2.2.2.2 _ (List.mem_of_getElem? (i := 8) rfl)) dX4_digest_422 ?_
                                                      refine lv_lmul F.1 F.2.1 dX4_digest_425 ?_
                                                      refine lv_iload F.1 F.2.1 dX4_digest_426 (lv_at hl 0 rfl) ?_
                                                      refine lv_i2l (v := (arrI S i 60).toInt64) F.1 F.2.1 dX4_digest_428 rfl ?_
                                                      refine lv_ladd F.1 F.2.1 dX4_digest_429 ?_
                                                      refine lv_lstore_n (lv' := [(2, .long (mxL (mxL (mxL (mxL (mxL (mxL (mxL (dgV S (dgK S (dgG S (dg0 S) (S 0 0)) (S 0 1)) i) ((nI (S 7 i)).toInt64)) ((nI (S 8 i)).toInt64)) ((nI (S 9 i)).toInt64)) ((nI (S 10 i)).toInt64)) ((nI (hisG S (S 7 i) (S 6 i))).toInt64)) ((bI (dareP S i)).toInt64)) ((arrI S i 60).toInt64))), (9, .int (arrI S i 60)), (8, .int (nI 6)), (7, .int (nI 10)), (6, .ref q285), (5, .ref q285), (0, .ref (u 0)), (4, .int (nI i))]) F.1 F.2.1 dX4_digest_430 rfl hl (by decide) rfl (fun ls hl => ?_)
                                                      refine k_inc (k := 2) (lv' := [(8, .int (nI 7)), (2, .long (mxL (mxL (mxL (mxL (mxL (mxL (mxL (dgV S (dgK S (dgG S (dg0 S) (S 0 0)) (S 0 1)) i) ((nI (S 7 i)).toInt64)) ((nI (S 8 i)).toInt64)) ((nI (S 9 i)).toInt64)) ((nI (S 10 i)).toInt64)) ((nI (hisG S (S 7 i) (S 6 i))).toInt64)) ((bI (dareP S i)).toInt64)) ((arrI S i 60).toInt64))), (9, .int (arrI S i 60)), (7, .int (nI 10)), (6, .ref q285), (5, .ref q285), (0, .ref (u 0)), (4, .int (nI i))]) F dX4_digest_431 hl rfl (by decide) rfl (fun ls hl => ?_)
                                                      refine lv_goto (tgt := 407) F.1 F.2.1 dX4_digest_434 (by decide) ?_
                                                      refine lv_iload F.1 F.2.1 dX4_digest_407 (lv_at hl 0 rfl) ?_
                                                      refine lv_iload F.1 F.2.1 dX4_digest_409 (lv_at hl 3 rfl) ?_
                                                      refine k_icmp_ge (tgt := 437) F (by omega) (by omega) dX4_digest_411 (by decide) (fun h411 => ?_) (fun h411 => ?_)
                                                      · skip
                                                        exact absurd h411 (by decide)
                                                      · skip
                                                        refine lv_aload F.1 F.2.1 dX4_digest_414 (lv_at hl 4 rfl) ?_
                                                        refine lv_iload F.1 F.2.1 dX4_digest_416 (lv_at hl 0 rfl) ?_
                                                        refine k_ialx (k := 7) (v := oI (frcN S (S 7 i) (S 0 1)).1) F hK.1 hP 6 0 rfl rfl (by decide) (by decide) ((u_ne (by decide)).trans ((u_ne (by decide)).trans u_eq)) dX4_digest_418 ?_
                                                        refine lv_istore (lv' := [(9, .int (oI (frcN S (S 7 i) (S 0 1)).1)), (8, .int (nI 7)), (2, .long (mxL (mxL (mxL (mxL (mxL (mxL (mxL (dgV S (dgK S (dgG S (dg0 S) (S 0 0)) (S 0 1)) i) ((nI (S 7 i)).toInt64)) ((nI (S 8 i)).toInt64)) ((nI (S 9 i)).toInt64)) ((nI (S 10 i)).toInt64)) ((nI (hisG S (S 7 i) (S 6 i))).toInt64)) ((bI (dareP S i)).toInt64)) ((arrI S i 60).toInt64))), (7, .int (nI 10)), (6, .ref q285), (5, .ref q285), (0, .ref (u 0)), (4, .int (nI i))]) F.1 F.2.1 dX4_digest_419 hl (by decide) rfl (fun ls hl => ?_)
                                                        refine lv_lload_n F.1 F.2.1 dX4_digest_421 rfl (lv_at hl 2 rfl) ?_
                                                        refine lv_ldc2 (v := 31) F.1 F.2.1 F.2.2.2.1 (F.2.2.2.2 _ (List.mem_of_getElem? (i := 8) rfl)) dX4_digest_422 ?_
                                                        refine lv_lmul F.1 F.2.1 dX4_digest_425 ?_
                                                        refine lv_iload F.1 F.2.1 dX4_digest_426 (lv_at hl 0 rfl) ?_
                                                        refine lv_i2l (v := (oI (frcN S (S 7 i) (S 0 1)).1).toInt64) F.1 F.2.1 dX4_digest_428 rfl ?_
                                                        refine lv_ladd F.1 F.2.1 dX4_digest_429 ?_
                                                        refine lv_lstore_n (lv' := [(2, .long (mxL (mxL (mxL (mxL (mxL (mxL (mxL (mxL (dgV S (dgK S (dgG S (dg0 S) (S 0 0)) (S 0 1)) i) ((nI (S 7 i)).toInt64)) ((nI (S 8 i)).toInt64)) ((nI (S 9 i)).toInt64)) ((nI (S 10 i)).toInt64)) ((nI (hisG S (S 7 i) (S 6 i))).toInt64)) ((bI (dareP S i)).toInt64)) ((arrI S i 60).toInt64)) ((oI (frcN S (S 7 i) (S 0 1)).1).toInt64))), (9, .int (oI (frcN S (S 7 i) (S 0 1)).1)), (8, .int (nI 7)), (7, .int (nI 10)), (6, .ref q285), (5, .ref q285), (0, .ref (u 0)), (4, .int (nI i))]) F.1 F.2.1 dX4_digest_430 rfl hl (by decide) rfl (fun ls hl => ?_)
                                                        refine k_inc (k := 2) (lv' := [(8, .int (nI 8)), (2, .long (mxL (mxL (mxL (mxL (mxL (mxL (mxL (mxL (dgV S (dgK S (dgG S (dg0 S) (S 0 0)) (S 0 1)) i) ((nI (S 7 i)).toInt64)) ((nI (S 8 i)).toInt64)) ((nI (S 9 i)).toInt64)) ((nI (S 10 i)).toInt64)) ((nI (hisG S (S 7 i) (S 6 i))).toInt64)) ((bI (dareP S i)).toInt64)) ((arrI S i 60).toInt64)) ((oI (frcN S (S 7 i) (S 0 1)).1).toInt64))), (9, .int (oI (frcN S (S 7 i) (S 0 1)).1)), (7, .int (nI 10)), (6, .ref q285), (5, .ref q285), (0, .ref (u 0)), (4, .int (nI i))]) F dX4_digest_431 hl rfl (by decide) rfl (fun ls hl => ?_)
                                                        refine lv_goto (tgt := 407) F.1 F.2.1 dX4_digest_434 (by decide) ?_
                                                        refine lv_iload F.1 F.2.1 dX4_digest_407 (lv_at hl 0 rfl) ?_
                                                        refine lv_iload F.1 F.2.1 dX4_digest_409 (lv_at hl 3 rfl) ?_
                                                        refine k_icmp_ge (tgt := 437) F (by omega) (by omega) dX4_digest_411 (by decide) (fun h411 => ?_) (fun h411 => ?_)
                                                        · skip
                                                          exact absurd h411 (by decide)
                                                        · skip
                                                          refine lv_aload F.1 F.2.1 dX4_digest_414 (lv_at hl 4 rfl) ?_
                                                          refine lv_iload F.1 F.2.1 dX4_digest_416 (lv_at hl 0 rfl) ?_
                                                          refine k_ialx (k := 8) (v := nI (calmN S i)) F hK.1 hP 6 0 rfl rfl (by decide) (by decide) ((u_ne (by decide)).trans u_eq) dX4_digest_418 ?_
                                                          refine lv_istore (lv' := [(9, .int (nI (calmN S i))), (8, .int (nI 8)), (2, .long (mxL (mxL (mxL (mxL (mxL (mxL (mxL (mxL (dgV S (dgK S (dgG S (dg0 S) (S 0 0)) (S 0 1)) i) ((nI (S 7 i)).toInt64)) ((nI (S 8 i)).toInt64)) ((nI (S 9 i)).toInt64)) ((nI (S 10 i)).toInt64)) ((nI (hisG S (S 7 i) (S 6 i))).toInt64)) ((bI (dareP S i)).toInt64)) ((arrI S i 60).toInt64)) ((oI (frcN S (S 7 i) (S 0 1)).1).toInt64))), (7, .int (nI 10)), (6, .ref q285), (5, .ref q285), (0, .ref (u 0)), (4, .int (nI i))]) F.1 F.2.1 dX4_digest_419 hl (by decide) rfl (fun ls hl => ?_)
                                                          refine lv_lload_n F.1 F.2.1 dX4_digest_421 rfl (lv_at hl 2 rfl) ?_
                                                          refine lv_ldc2 (v := 31) F.1 F.2.1 F.2.2.2.1 (F.2.2.2.2 _ (List.mem_of_getElem? (i := 8) rfl)) dX4_digest_422 ?_
                                                          refine lv_lmul F.1 F.2.1 dX4_digest_425 ?_
                                                          refine lv_iload F.1 F.2.1 dX4_digest_426 (lv_at hl 0 rfl) ?_
                                                          refine lv_i2l (v := (nI (calmN S i)).toInt64) F.1 F.2.1 dX4_digest_428 rfl ?_
                                                          refine lv_ladd F.1 F.2.1 dX4_digest_429 ?_
                                                          refine lv_lstore_n (lv' := [(2, .long (mxL (mxL (mxL (mxL (mxL (mxL (mxL (mxL (mxL (dgV S (dgK S (dgG S (dg0 S) (S 0 0)) (S 0 1)) i) ((nI (S 7 i)).toInt64)) ((nI (S 8 i)).toInt64)) ((nI (S 9 i)).toInt64)) ((nI (S 10 i)).toInt64)) ((nI (hisG S (S 7 i) (S 6 i))).toInt64)) ((bI (dareP S i)).toInt64)) ((arrI S i 60).toInt64)) ((oI (frcN S (S 7 i) (S 0 1)).1).toInt64)) ((nI (calmN S i)).toInt64))), (9, .int (nI (calmN S i))), (8, .int (nI 8)), (7, .int (nI 10)), (6, .ref q285), (5, .ref q285), (0, .ref (u 0)), (4, .int (nI i))]) F.1 F.2.1 dX4_digest_430 rfl hl (by decide) rfl (fun ls hl => ?_)
                                                          refine k_inc (k := 2) (lv' := [(8, .int (nI 9)), (2, .long (mxL (mxL (mxL (mxL (mxL (mxL (mxL (mxL (mxL (dgV S (dgK S (dgG S (dg0 S) (S 0 0)) (S 0 1)) i) ((nI (S 7 i)).toInt64)) ((nI (S 8 i)).toInt64)) ((nI (S 9 i)).toInt64)) ((nI (S 10 i)).toInt64)) ((nI (hisG S (S 7 i) (S 6 i))).toInt64)) ((bI (dareP S i)).toInt64)) ((arrI S i 60).toInt64)) ((oI (frcN S (S 7 i) (S 0 1)).1).toInt64)) ((nI (calmN S i)).toInt64))), (9, .int (nI (calmN S i))), (7, .int (nI 10)), (6, .ref q285), (5, .ref q285), (0, .ref (u 0)), (4, .int (nI i))]) F dX4_digest_431 hl rfl (by decide) rfl (fun ls hl => ?_)
                                                          refine lv_goto (tgt := 407) F.1 F.2.1 dX4_digest_434 (by decide) ?_
                                                          refine lv_iload F.1 F.2.1 dX4_digest_407 (lv_at hl 0 rfl) ?_
                                                          refine lv_iload F.1 F.2.1 dX4_digest_409 (lv_at hl 3 rfl) ?_
                                                          refine k_icmp_ge (tgt := 437) F (by omega) (by omega) dX4_digest_411 (by decide) (fun h411 => ?_) (fun h411 => ?_)
                                                          · skip
                                                            exact absurd h411 (by decide)
                                                          · skip
                                                            refine lv_aload F.1 F.2.1 dX4_digest_414 (lv_at hl 4 rfl) ?_
                                                            refine lv_iload F.1 F.2.1 dX4_digest_416 (lv_at hl 0 rfl) ?_
                                                            refine k_ialx (k := 9) (v := oI (rkN S i 10)) F hK.1 hP 6 0 rfl rfl (by decide) (by decide) u_eq dX4_digest_418 ?_
                                                            refine lv_istore (lv' := [(9, .int (oI (rkN S i 10))), (8, .int (nI 9)), (2, .long (mxL (mxL (mxL (mxL (mxL (mxL (mxL (mxL (mxL (dgV S (dgK S (dgG S (dg0 S) (S 0 0)) (S 0 1)) i) ((nI (S 7 i)).toInt64)) ((nI (S 8 i)).toInt64)) ((nI (S 9 i)).toInt64)) ((nI (S 10 i)).toInt64)) ((nI (hisG S (S 7 i) (S 6 i))).toInt64)) ((bI (dareP S i)).toInt64)) ((arrI S i 60).toInt64)) ((oI (frcN S (S 7 i) (S 0 1)).1).toInt64)) ((nI (calmN S i)).toInt64))), (7, .int (nI 10)), (6, .ref q285), (5, .ref q285), (0, .ref (u 0)), (4, .int (nI i))]) F.1 F.2.1 dX4_digest_419 hl (by decide) rfl (fun ls hl => ?_)
                                                            refine lv_lload_n F.1 F.2.1 dX4_digest_421 rfl (lv_at hl 2 rfl) ?_
                                                            refine lv_ldc2 (v := 31) F.1 F.2.1 F.2.2.2.1 (F.2.2.2.2 _ (List.mem_of_getElem? (i := 8) rfl)) dX4_digest_422 ?_
                                                            refine lv_lmul F.1 F.2.1 dX4_digest_425 ?_
                                                            refine lv_iload F.1 F.2.1 dX4_digest_426 (lv_at hl 0 rfl) ?_
                                                            refine lv_i2l (v := (oI (rkN S i 10)).toInt64) F.1 F.2.1 dX4_digest_428 rfl ?_
                                                            refine lv_ladd F.1 F.2.1 dX4_digest_429 ?_
                                                            refine lv_lstore_n (lv' := [(2, .long (mxL (mxL (mxL (mxL (mxL (mxL (mxL (mxL (mxL (mxL (dgV S (dgK S (dgG S (dg0 S) (S 0 0)) (S 0 1)) i) ((nI (S 7 i)).toInt64)) ((nI (S 8 i)).toInt64)) ((nI (S 9 i)).toInt64)) ((nI (S 10 i)).toInt64)) ((nI (hisG S (S 7 i) (S 6 i))).toInt64)) ((bI (dareP S i)).toInt64)) ((arrI S i 60).toInt64)) ((oI (frcN S (S 7 i) (S 0 1)).1).toInt64)) ((nI (calmN S i)).toInt64)) ((oI (rkN S i 10)).toInt64))), (9, .int (oI (rkN S i 10))), (8, .int (nI 9)), (7, .int (nI 10)), (6, .ref q285), (5, .ref q285), (0, .ref (u 0)), (4, .int (nI i))]) F.1 F.2.1 dX4_digest_430 rfl hl (by decide) rfl (fun ls hl => ?_)
                                                            refine k_inc (k := 2) (lv' := [(8, .int (nI 10)), (2, .long (mxL (mxL (mxL (mxL (mxL (mxL (mxL (mxL (mxL (mxL (dgV S (dgK S (dgG S (dg0 S) (S 0 0)) (S 0 1)) i) ((nI (S 7 i)).toInt64)) ((nI (S 8 i)).toInt64)) ((nI (S 9 i)).toInt64)) ((nI (S 10 i)).toInt64)) ((nI (hisG S (S 7 i) (S 6 i))).toInt64)) ((bI (dareP S i)).toInt64)) ((arrI S i 60).toInt64)) ((oI (frcN S (S 7 i) (S 0 1)).1).toInt64)) ((nI (calmN S i)).toInt64)) ((oI (rkN S i 10)).toInt64))), (9, .int (oI (rkN S i 10))), (7, .int (nI 10)), (6, .ref q285), (5, .ref q285), (0, .ref (u 0)), (4, .int (nI i))]) F dX4_digest_431 hl rfl (by decide) rfl (fun ls hl => ?_)
                                                            refine lv_goto (tgt := 407) F.1 F.2.1 dX4_digest_434 (by decide) ?_
                                                            refine lv_iload F.1 F.2.1 dX4_digest_407 (lv_at hl 0 rfl) ?_
                                                            refine lv_iload F.1 F.2.1 dX4_digest_409 (lv_at hl 3 rfl) ?_
                                                            refine k_icmp_ge (tgt := 437) F (by omega) (by omega) dX4_digest_411 (by decide) (fun h411 => ?_) (fun h411 => ?_)
                                                            · skip
                                                              refine k_inc (k := 7) (lv' := [(4, .int (nI (i + 1))), (8, .int (nI 10)), (2, .long (mxL (mxL (mxL (mxL (mxL (mxL (mxL (mxL (mxL (mxL (dgV S (dgK S (dgG S (dg0 S) (S 0 0)) (S 0 1)) i) ((nI (S 7 i)).toInt64)) ((nI (S 8 i)).toInt64)) ((nI (S 9 i)).toInt64)) ((nI (S 10 i)).toInt64)) ((nI (hisG S (S 7 i) (S 6 i))).toInt64)) ((bI (dareP S i)).toInt64)) ((arrI S i 60).toInt64)) ((oI (frcN S (S 7 i) (S 0 1)).1).toInt64)) ((nI (calmN S i)).toInt64)) ((oI (rkN S i 10)).toInt64))), (9, .int (oI (rkN S i 10))), (7, .int (nI 10)), (6, .ref q285), (5, .ref q285), (0, .ref (u 0))]) F dX4_digest_437 hl rfl (by decide) rfl (fun ls hl => ?_)
                                                              refine lv_goto (tgt := 274) F.1 F.2.1 dX4_digest_440 (by decide) ?_
                                                              have e_1 : (mxL (mxL (mxL (mxL (mxL (mxL (mxL (mxL (mxL (mxL (dgV S (dgK S (dgG S (dg0 S) (S 0 0)) (S 0 1)) i) ((nI (S 7 i)).toInt64)) ((nI (S 8 i)).toInt64)) ((nI (S 9 i)).toInt64)) ((nI (S 10 i)).toInt64)) ((nI (hisG S (S 7 i) (S 6 i))).toInt64)) ((bI (dareP S i)).toInt64)) ((arrI S i 60).toInt64)) ((oI (frcN S (S 7 i) (S 0 1)).1).toInt64)) ((nI (calmN S i)).toInt64)) ((oI (rkN S i 10)).toInt64)) = (dgV S (dgK S (dgG S (dg0 S) (S 0 0)) (S 0 1)) (i + 1)) := rfl
                                                              rw [e_1] at hl
                                                              have hP := P_pre hP
                                                              have hD := D_pre hD
                                                              have ew : (wMo cI u S (nI 0) (encN S)) = (wMo cI u S (nI 0) (kepN S K (i + 1))) := wMo_kep
                                                              have hP := P_eq ew hP
                                                              have hD := D_eq ew hD
                                                              exact ih274 (i + 1) (by omega) (by omega)  (ce274 + 1 + 1) (sl274 + 10 + 10) (by omega) (by omega) _ _ _ hP hD hS (lv_sub hl [7, 2, 0] rfl)
                                                            · skip
                                                              exact absurd h411 (by decide)
                                      · skip
                                        refine lv_iconst (v := nI 1) F.1 F.2.1 dX4_digest_347 (by decide) ?_
                                        refine lv_goto (tgt := 352) F.1 F.2.1 dX4_digest_348 (by decide) ?_
                                        refine lv_topi (fun y9 hy9 => ?_)
                                        have hy9 : y9 = bI (dareP S i) := hy9.trans (fin1 h344)
                                        subst hy9
                                        refine k_iasx (f := upd (upd (upd (upd (upd (row (fun _ => 0)) 0 (nI (S 7 i))) 1 (nI (S 8 i))) 2 (nI (S 9 i))) 3 (nI (S 10 i))) 4 (nI (hisG S (S 7 i) (S 6 i)))) (k := 5) (x := bI (dareP S i)) F hK.1 hP hD hS 6 0 rfl rfl (by decide) (by decide) dX4_digest_352 ((wMo cI u S (nI 0) (kepN S K i)) ++ [(q285, .inl (cI, 10, .inl (upd (upd (upd (upd (upd (upd (row (fun _ => 0)) 0 (nI (S 7 i))) 1 (nI (S 8 i))) 2 (nI (S 9 i))) 3 (nI (S 10 i))) 4 (nI (hisG S (S 7 i) (S 6 i)))) 5 (bI (dareP S i)))))]) rfl (fun H locs hP hD hS => ?_)
                                        refine lv_dup F.1 F.2.1 dX4_digest_353 rfl ?_
                                        refine lv_bipush (v := nI 6) F.1 F.2.1 dX4_digest_354 (by decide) ?_
                                        refine lv_aload_n F.1 F.2.1 dX4_digest_356 rfl (lv_at hl 0 rfl) ?_
                                        refine lv_iload F.1 F.2.1 dX4_digest_357 (lv_at hl 2 rfl) ?_
                                        refine k_mI (n := 1) (rest := [.int (nI 6), .ref q285, .ref q285]) (v := arrI S i 60) F (c_X4_until l D cI u S (nI 0) (kepN S K i) i hI (by first | assumption | omega)) gX4_digest_X4_until rfl (by decide +kernel) ⟨Nat.le_of_ble_eq_true rfl, Nat.le_of_ble_eq_true rfl⟩ rfl hl.1 rfl (Nat.le_of_ble_eq_true rfl) dX4_digest_359 ⟨show ce274 + 1 ≤ 25 by omega, show sl274 + 10 ≤ 200 by omega⟩ hK hP hD hS [0, 1, 2, 3, 4, 5] rfl rfl rfl ((wMo cI u S (nI 0) (encN S)) ++ [(q285, .inl (cI, 10, .inl (upd (upd (upd (upd (upd (upd (row (fun _ => 0)) 0 (nI (S 7 i))) 1 (nI (S 8 i))) 2 (nI (S 9 i))) 3 (nI (S 10 i))) 4 (nI (hisG S (S 7 i) (S 6 i)))) 5 (bI (dareP S i)))))]) wMo_msE wMo_adE (q0 := 0) (ci := 4) rfl rfl (fun H locs hP hD hS => ?_)
                                        refine k_iasx (f := upd (upd (upd (upd (upd (upd (row (fun _ => 0)) 0 (nI (S 7 i))) 1 (nI (S 8 i))) 2 (nI (S 9 i))) 3 (nI (S 10 i))) 4 (nI (hisG S (S 7 i) (S 6 i)))) 5 (bI (dareP S i))) (k := 6) (x := arrI S i 60) F hK.1 hP hD hS 6 0 rfl rfl (by decide) (by decide) dX4_digest_362 ((wMo cI u S (nI 0) (encN S)) ++ [(q285, .inl (cI, 10, .inl (upd (upd (upd (upd (upd (upd (upd (row (fun _ => 0)) 0 (nI (S 7 i))) 1 (nI (S 8 i))) 2 (nI (S 9 i))) 3 (nI (S 10 i))) 4 (nI (hisG S (S 7 i) (S 6 i)))) 5 (bI (dareP S i))) 6 (arrI S i 60))))]) rfl (fun H locs hP hD hS => ?_)
                                        refine lv_dup F.1 F.2.1 dX4_digest_363 rfl ?_
                                        refine lv_bipush (v := nI 7) F.1 F.2.1 dX4_digest_364 (by decide) ?_
                                        refine lv_aload_n F.1 F.2.1 dX4_digest_366 rfl (lv_at hl 0 rfl) ?_
                                        refine lv_iload F.1 F.2.1 dX4_digest_367 (lv_at hl 2 rfl) ?_
                                        refine k_pV (n := 1) (rest := [.int (nI 7), .ref q285, .ref q285]) (v := oI (frcN S (S 7 i) (S 0 1)).1) F (c_X4_toBribe l D cI u S (nI 0) (encN S) i hI (by first | assumption | omega)) gX4_digest_X4_toBribe rfl (by decide +kernel) ⟨Nat.le_of_ble_eq_true rfl, Nat.le_of_ble_eq_true rfl⟩ rfl hl.1 rfl (Nat.le_of_ble_eq_true rfl) dX4_digest_369 ⟨show ce274 + 1 ≤ 25 by omega, show sl274 + 10 ≤ 200 by omega⟩ hK hP hS [0, 1, 2, 3, 4, 5] rfl (q0 := 0) (ci := 4) rfl rfl (fun H locs hP hS => ?_)
                                        refine k_iasx (f := upd (upd (upd (upd (upd (upd (upd (row (fun _ => 0)) 0 (nI (S 7 i))) 1 (nI (S 8 i))) 2 (nI (S 9 i))) 3 (nI (S 10 i))) 4 (nI (hisG S (S 7 i) (S 6 i)))) 5 (bI (dareP S i))) 6 (arrI S i 60)) (k := 7) (x := oI (frcN S (S 7 i) (S 0 1)).1) F hK.1 hP hD hS 6 0 rfl rfl (by decide) (by decide) dX4_digest_372 ((wMo cI u S (nI 0) (encN S)) ++ [(q285, .inl (cI, 10, .inl (upd (upd (upd (upd (upd (upd (upd (upd (row (fun _ => 0)) 0 (nI (S 7 i))) 1 (nI (S 8 i))) 2 (nI (S 9 i))) 3 (nI (S 10 i))) 4 (nI (hisG S (S 7 i) (S 6 i)))) 5 (bI (dareP S i))) 6 (arrI S i 60)) 7 (oI (frcN S (S 7 i) (S 0 1)).1))))]) rfl (fun H locs hP hD hS => ?_)
                                        refine lv_dup F.1 F.2.1 dX4_digest_373 rfl ?_
                                        refine lv_bipush (v := nI 8) F.1 F.2.1 dX4_digest_374 (by decide) ?_
                                        refine lv_aload_n F.1 F.2.1 dX4_digest_376 rfl (lv_at hl 0 rfl) ?_
                                        refine lv_iload F.1 F.2.1 dX4_digest_377 (lv_at hl 2 rfl) ?_
                                        refine k_gI (n := 1) (rest := [.int (nI 8), .ref q285, .ref q285]) (v := nI (calmN S i)) F (c_X4_calmWanted l D cI u S (nI 0) (encN S) i hI (by first | assumption | omega)) gX4_digest_X4_calmWanted rfl (by decide +kernel) ⟨Nat.le_of_ble_eq_true rfl, Nat.le_of_ble_eq_true rfl⟩ rfl hl.1 rfl (Nat.le_of_ble_eq_true rfl) dX4_digest_379 ⟨show ce274 + 1 + 1 ≤ 25 by omega, show sl274 + 10 + 10 ≤ 200 by omega⟩ hK hP hD hS (fun q h => Or.inr (by omega)) [0, 1, 2, 3, 4, 5] rfl rfl rfl ((wMo cI u S (nI 0) (encN S)) ++ [(q285, .inl (cI, 10, .inl (upd (upd (upd (upd (upd (upd (upd (upd (row (fun _ => 0)) 0 (nI (S 7 i))) 1 (nI (S 8 i))) 2 (nI (S 9 i))) 3 (nI (S 10 i))) 4 (nI (hisG S (S 7 i) (S 6 i)))) 5 (bI (dareP S i))) 6 (arrI S i 60)) 7 (oI (frcN S (S 7 i) (S 0 1)).1))))]) wMo_msE wMo_adE (q0 := 0) (ci := 4) rfl rfl (fun H locs hP hD hS => ?_)
                                        refine k_iasx (f := upd (upd (upd (upd (upd (upd (upd (upd (row (fun _ => 0)) 0 (nI (S 7 i))) 1 (nI (S 8 i))) 2 (nI (S 9 i))) 3 (nI (S 10 i))) 4 (nI (hisG S (S 7 i) (S 6 i)))) 5 (bI (dareP S i))) 6 (arrI S i 60)) 7 (oI (frcN S (S 7 i) (S 0 1)).1)) (k := 8) (x := nI (calmN S i)) F hK.1 hP hD hS 6 0 rfl rfl (by decide) (by decide) dX4_digest_382 ((wMo cI u S (nI 0) (encN S)) ++ [(q285, .inl (cI, 10, .inl (upd (upd (upd (upd (upd (upd (upd (upd (upd (row (fun _ => 0)) 0 (nI (S 7 i))) 1 (nI (S 8 i))) 2 (nI (S 9 i))) 3 (nI (S 10 i))) 4 (nI (hisG S (S 7 i) (S 6 i)))) 5 (bI (dareP S i))) 6 (arrI S i 60)) 7 (oI (frcN S (S 7 i) (S 0 1)).1)) 8 (nI (calmN S i)))))]) rfl (fun H locs hP hD hS => ?_)
                                        refine lv_dup F.1 F.2.1 dX4_digest_383 rfl ?_
                                        refine lv_bipush (v := nI 9) F.1 F.2.1 dX4_digest_384 (by decide) ?_
                                        refine lv_aload_n F.1 F.2.1 dX4_digest_386 rfl (lv_at hl 0 rfl) ?_
                                        refine lv_iload F.1 F.2.1 dX4_digest_387 (lv_at hl 2 rfl) ?_
                                        refine k_pV (n := 1) (rest := [.int (nI 9), .ref q285, .ref q285]) (v := oI (rkN S i 10)) F (c_X4_ranked l D cI u S (nI 0) (encN S) i hI (by first | assumption | omega)) gX4_digest_X4_ranked rfl (by decide +kernel) ⟨Nat.le_of_ble_eq_true rfl, Nat.le_of_ble_eq_true rfl⟩ rfl hl.1 rfl (Nat.le_of_ble_eq_true rfl) dX4_digest_389 ⟨show ce274 + 1 + 1 ≤ 25 by omega, show sl274 + 10 + 10 ≤ 200 by omega⟩ hK hP hS [0, 1, 2, 3, 4, 5] rfl (q0 := 0) (ci := 4) rfl rfl (fun H locs hP hS => ?_)
                                        refine k_iasx (f := upd (upd (upd (upd (upd (upd (upd (upd (upd (row (fun _ => 0)) 0 (nI (S 7 i))) 1 (nI (S 8 i))) 2 (nI (S 9 i))) 3 (nI (S 10 i))) 4 (nI (hisG S (S 7 i) (S 6 i)))) 5 (bI (dareP S i))) 6 (arrI S i 60)) 7 (oI (frcN S (S 7 i) (S 0 1)).1)) 8 (nI (calmN S i))) (k := 9) (x := oI (rkN S i 10)) F hK.1 hP hD hS 6 0 rfl rfl (by decide) (by decide) dX4_digest_392 ((wMo cI u S (nI 0) (encN S)) ++ [(q285, .inl (cI, 10, .inl (upd (upd (upd (upd (upd (upd (upd (upd (upd (upd (row (fun _ => 0)) 0 (nI (S 7 i))) 1 (nI (S 8 i))) 2 (nI (S 9 i))) 3 (nI (S 10 i))) 4 (nI (hisG S (S 7 i) (S 6 i)))) 5 (bI (dareP S i))) 6 (arrI S i 60)) 7 (oI (frcN S (S 7 i) (S 0 1)).1)) 8 (nI (calmN S i))) 9 (oI (rkN S i 10)))))]) rfl (fun H locs hP hD hS => ?_)
                                        refine lv_astore (lv' := [(5, .ref q285), (0, .ref (u 0)), (2, .long (dgV S (dgK S (dgG S (dg0 S) (S 0 0)) (S 0 1)) i)), (4, .int (nI i))]) F.1 F.2.1 dX4_digest_393 hl (by decide) rfl (fun ls hl => ?_)
                                        refine lv_aload F.1 F.2.1 dX4_digest_395 (lv_at hl 0 rfl) ?_
                                        refine lv_astore (lv' := [(6, .ref q285), (5, .ref q285), (0, .ref (u 0)), (2, .long (dgV S (dgK S (dgG S (dg0 S) (S 0 0)) (S 0 1)) i)), (4, .int (nI i))]) F.1 F.2.1 dX4_digest_397 hl (by decide) rfl (fun ls hl => ?_)
                                        refine lv_aload F.1 F.2.1 dX4_digest_399 (lv_at hl 0 rfl) ?_
                                        refine k_alen (n := 10) F hK.1 hP 6 0 rfl rfl dX4_digest_401 ?_
                                        refine lv_istore (lv' := [(7, .int (nI 10)), (6, .ref q285), (5, .ref q285), (0, .ref (u 0)), (2, .long (dgV S (dgK S (dgG S (dg0 S) (S 0 0)) (S 0 1)) i)), (4, .int (nI i))]) F.1 F.2.1 dX4_digest_402 hl (by decide) rfl (fun ls hl => ?_)
                                        refine lv_iconst (v := nI 0) F.1 F.2.1 dX4_digest_404 (by decide) ?_
                                        refine lv_istore (lv' := [(8, .int (nI 0)), (7, .int (nI 10)), (6, .ref q285), (5, .ref q285), (0, .ref (u 0)), (2, .long (dgV S (dgK S (dgG S (dg0 S) (S 0 0)) (S 0 1)) i)), (4, .int (nI i))]) F.1 F.2.1 dX4_digest_405 hl (by decide) rfl (fun ls hl => ?_)
                                        refine lv_iload F.1 F.2.1 dX4_digest_407 (lv_at hl 0 rfl) ?_
                                        refine lv_iload F.1 F.2.1 dX4_digest_409 (lv_at hl 1 rfl) ?_
                                        refine k_icmp_ge (tgt := 437) F (by omega) (by omega) dX4_digest_411 (by decide) (fun h411 => ?_) (fun h411 => ?_)
                                        · skip
                                          exact absurd h411 (by decide)
                                        · skip
                                          refine lv_aload F.1 F.2.1 dX4_digest_414 (lv_at hl 2 rfl) ?_
                                          refine lv_iload F.1 F.2.1 dX4_digest_416 (lv_at hl 0 rfl) ?_
                                          refine k_ialx (k := 0) (v := nI (S 7 i)) F hK.1 hP 6 0 rfl rfl (by decide) (by decide) ((u_ne (by decide)).trans ((u_ne (by decide)).trans ((u_ne (by decide)).trans ((u_ne (by decide)).trans ((u_ne (by decide)).trans ((u_ne (by decide)).trans ((u_ne (by decide)).trans ((u_ne (by decide)).trans ((u_ne (by decide)).trans u_eq))))))))) dX4_digest_418 ?_
                                          refine lv_istore (lv' := [(9, .int (nI (S 7 i))), (8, .int (nI 0)), (7, .int (nI 10)), (6, .ref q285), (5, .ref q285), (0, .ref (u 0)), (2, .long (dgV S (dgK S (dgG S (dg0 S) (S 0 0)) (S 0 1)) i)), (4, .int (nI i))]) F.1 F.2.1 dX4_digest_419 hl (by decide) rfl (fun ls hl => ?_)
                                          refine lv_lload_n F.1 F.2.1 dX4_digest_421 rfl (lv_at hl 6 rfl) ?_
                                          refine lv_ldc2 (v := 31) F.1 F.2.1 F.2.2.2.1 (F.2.2.2.2 _ (List.mem_of_getElem? (i := 8) rfl)) dX4_digest_422 ?_
                                          refine lv_lmul F.1 F.2.1 dX4_digest_425 ?_
                                          refine lv_iload F.1 F.2.1 dX4_digest_426 (lv_at hl 0 rfl) ?_
                                          refine lv_i2l (v := (nI (S 7 i)).toInt64) F.1 F.2.1 dX4_digest_428 rfl ?_
                                          refine lv_ladd F.1 F.2.1 dX4_digest_429 ?_
                                          refine lv_lstore_n (lv' := [(2, .long (mxL (dgV S (dgK S (dgG S (dg0 S) (S 0 0)) (S 0 1)) i) ((nI (S 7 i)).toInt64))), (9, .int (nI (S 7 i))), (8, .int (nI 0)), (7, .int (nI 10)), (6, .ref q285), (5, .ref q285), (0, .ref (u 0)), (4, .int (nI i))]) F.1 F.2.1 dX4_digest_430 rfl hl (by decide) rfl (fun ls hl => ?_)
                                          refine k_inc (k := 2) (lv' := [(8, .int (nI 1)), (2, .long (mxL (dgV S (dgK S (dgG S (dg0 S) (S 0 0)) (S 0 1)) i) ((nI (S 7 i)).toInt64))), (9, .int (nI (S 7 i))), (7, .int (nI 10)), (6, .ref q285), (5, .ref q285), (0, .ref (u 0)), (4, .int (nI i))]) F dX4_digest_431 hl rfl (by decide) rfl (fun ls hl => ?_)
                                          refine lv_goto (tgt := 407) F.1 F.2.1 dX4_digest_434 (by decide) ?_
                                          refine lv_iload F.1 F.2.1 dX4_digest_407 (lv_at hl 0 rfl) ?_
                                          refine lv_iload F.1 F.2.1 dX4_digest_409 (lv_at hl 3 rfl) ?_
                                          refine k_icmp_ge (tgt := 437) F (by omega) (by omega) dX4_digest_411 (by decide) (fun h411 => ?_) (fun h411 => ?_)
                                          · skip
                                            exact absurd h411 (by decide)
                                          · skip
                                            refine lv_aload F.1 F.2.1 dX4_digest_414 (lv_at hl 4 rfl) ?_
                                            refine lv_iload F.1 F.2.1 dX4_digest_416 (lv_at hl 0 rfl) ?_
                                            refine k_ialx (k := 1) (v := nI (S 8 i)) F hK.1 hP 6 0 rfl rfl (by decide) (by decide) ((u_ne (by decide)).trans ((u_ne (by decide)).trans ((u_ne (by decide)).trans ((u_ne (by decide)).trans ((u_ne (by decide)).trans ((u_ne (by decide)).trans ((u_ne (by decide)).trans ((u_ne (by decide)).trans u_eq)))))))) dX4_digest_418 ?_
                                            refine lv_istore (lv' := [(9, .int (nI (S 8 i))), (8, .int (nI 1)), (2, .long (mxL (dgV S (dgK S (dgG S (dg0 S) (S 0 0)) (S 0 1)) i) ((nI (S 7 i)).toInt64))), (7, .int (nI 10)), (6, .ref q285), (5, .ref q285), (0, .ref (u 0)), (4, .int (nI i))]) F.1 F.2.1 dX4_digest_419 hl (by decide) rfl (fun ls hl => ?_)
                                            refine lv_lload_n F.1 F.2.1 dX4_digest_421 rfl (lv_at hl 2 rfl) ?_
                                            refine lv_ldc2 (v := 31) F.1 F.2.1 F.2.2.2.1 (F.2.2.2.2 _ (List.mem_of_getElem? (i := 8) rfl)) dX4_digest_422 ?_
                                            refine lv_lmul F.1 F.2.1 dX4_digest_425 ?_
                                            refine lv_iload F.1 F.2.1 dX4_digest_426 (lv_at hl 0 rfl) ?_
                                            refine lv_i2l (v := (nI (S 8 i)).toInt64) F.1 F.2.1 dX4_digest_428 rfl ?_
                                            refine lv_ladd F.1 F.2.1 dX4_digest_429 ?_
                                            refine lv_lstore_n (lv' := [(2, .long (mxL (mxL (dgV S (dgK S (dgG S (dg0 S) (S 0 0)) (S 0 1)) i) ((nI (S 7 i)).toInt64)) ((nI (S 8 i)).toInt64))), (9, .int (nI (S 8 i))), (8, .int (nI 1)), (7, .int (nI 10)), (6, .ref q285), (5, .ref q285), (0, .ref (u 0)), (4, .int (nI i))]) F.1 F.2.1 dX4_digest_430 rfl hl (by decide) rfl (fun ls hl => ?_)
                                            refine k_inc (k := 2) (lv' := [(8, .int (nI 2)), (2, .long (mxL (mxL (dgV S (dgK S (dgG S (dg0 S) (S 0 0)) (S 0 1)) i) ((nI (S 7 i)).toInt64)) ((nI (S 8 i)).toInt64))), (9, .int (nI (S 8 i))), (7, .int (nI 10)), (6, .ref q285), (5, .ref q285), (0, .ref (u 0)), (4, .int (nI i))]) F dX4_digest_431 hl rfl (by decide) rfl (fun ls hl => ?_)
                                            refine lv_goto (tgt := 407) F.1 F.2.1 dX4_digest_434 (by decide) ?_
                                            refine lv_iload F.1 F.2.1 dX4_digest_407 (lv_at hl 0 rfl) ?_
                                            refine lv_iload F.1 F.2.1 dX4_digest_409 (lv_at hl 3 rfl) ?_
                                            refine k_icmp_ge (tgt := 437) F (by omega) (by omega) dX4_digest_411 (by decide) (fun h411 => ?_) (fun h411 => ?_)
                                            · skip
                                              exact absurd h411 (by decide)
                                            · skip
                                              refine lv_aload F.1 F.2.1 dX4_digest_414 (lv_at hl 4 rfl) ?_
                                              refine lv_iload F.1 F.2.1 dX4_digest_416 (lv_at hl 0 rfl) ?_
                                              refine k_ialx (k := 2) (v := nI (S 9 i)) F hK.1 hP 6 0 rfl rfl (by decide) (by decide) ((u_ne (by decide)).trans ((u_ne (by decide)).trans ((u_ne (by decide)).trans ((u_ne (by decide)).trans ((u_ne (by decide)).trans ((u_ne (by decide)).trans ((u_ne (by decide)).trans u_eq))))))) dX4_digest_418 ?_
                                              refine lv_istore (lv' := [(9, .int (nI (S 9 i))), (8, .int (nI 2)), (2, .long (mxL (mxL (dgV S (dgK S (dgG S (dg0 S) (S 0 0)) (S 0 1)) i) ((nI (S 7 i)).toInt64)) ((nI (S 8 i)).toInt64))), (7, .int (nI 10)), (6, .ref q285), (5, .ref q285), (0, .ref (u 0)), (4, .int (nI i))]) F.1 F.2.1 dX4_digest_419 hl (by decide) rfl (fun ls hl => ?_)
                                              refine lv_lload_n F.1 F.2.1 dX4_digest_421 rfl (lv_at hl 2 rfl) ?_
                                              refine lv_ldc2 (v := 31) F.1 F.2.1 F.2.2.2.1 (F.2.2.2.2 _ (List.mem_of_getElem? (i := 8) rfl)) dX4_digest_422 ?_
                                              refine lv_lmul F.1 F.2.1 dX4_digest_425 ?_
                                              refine lv_iload F.1 F.2.1 dX4_digest_426 (lv_at hl 0 rfl) ?_
                                              refine lv_i2l (v := (nI (S 9 i)).toInt64) F.1 F.2.1 dX4_digest_428 rfl ?_
                                              refine lv_ladd F.1 F.2.1 dX4_digest_429 ?_
                                              refine lv_lstore_n (lv' := [(2, .long (mxL (mxL (mxL (dgV S (dgK S (dgG S (dg0 S) (S 0 0)) (S 0 1)) i) ((nI (S 7 i)).toInt64)) ((nI (S 8 i)).toInt64)) ((nI (S 9 i)).toInt64))), (9, .int (nI (S 9 i))), (8, .int (nI 2)), (7, .int (nI 10)), (6, .ref q285), (5, .ref q285), (0, .ref (u 0)), (4, .int (nI i))]) F.1 F.2.1 dX4_digest_430 rfl hl (by decide) rfl (fun ls hl => ?_)
                                              refine k_inc (k := 2) (lv' := [(8, .int (nI 3)), (2, .long (mxL (mxL (mxL (dgV S (dgK S (dgG S (dg0 S) (S 0 0)) (S 0 1)) i) ((nI (S 7 i)).toInt64)) ((nI (S 8 i)).toInt64)) ((nI (S 9 i)).toInt64))), (9, .int (nI (S 9 i))), (7, .int (nI 10)), (6, .ref q285), (5, .ref q285), (0, .ref (u 0)), (4, .int (nI i))]) F dX4_digest_431 hl rfl (by decide) rfl (fun ls hl => ?_)
                                              refine lv_goto (tgt := 407) F.1 F.2.1 dX4_digest_434 (by decide) ?_
                                              refine lv_iload F.1 F.2.1 dX4_digest_407 (lv_at hl 0 rfl) ?_
                                              refine lv_iload F.1 F.2.1 dX4_digest_409 (lv_at hl 3 rfl) ?_
                                              refine k_icmp_ge (tgt := 437) F (by omega) (by omega) dX4_digest_411 (by decide) (fun h411 => ?_) (fun h411 => ?_)
                                              · skip
                                                exact absurd h411 (by decide)
                                              · skip
                                                refine lv_aload F.1 F.2.1 dX4_digest_414 (lv_at hl 4 rfl) ?_
                                                refine lv_iload F.1 F.2.1 dX4_digest_416 (lv_at hl 0 rfl) ?_
                                                refine k_ialx (k := 3) (v := nI (S 10 i)) F hK.1 hP 6 0 rfl rfl (by decide) (by decide) ((u_ne (by decide)).trans ((u_ne (by decide)).trans ((u_ne (by decide)).trans ((u_ne (by decide)).trans ((u_ne (by decide)).trans ((u_ne (by decide)).trans u_eq)))))) dX4_digest_418 ?_
                                                refine lv_istore (lv' := [(9, .int (nI (S 10 i))), (8, .int (nI 3)), (2, .long (mxL (mxL (mxL (dgV S (dgK S (dgG S (dg0 S) (S 0 0)) (S 0 1)) i) ((nI (S 7 i)).toInt64)) ((nI (S 8 i)).toInt64)) ((nI (S 9 i)).toInt64))), (7, .int (nI 10)), (6, .ref q285), (5, .ref q285), (0, .ref (u 0)), (4, .int (nI i))]) F.1 F.2.1 dX4_digest_419 hl (by decide) rfl (fun ls hl => ?_)
                                                refine lv_lload_n F.1 F.2.1 dX4_digest_421 rfl (lv_at hl 2 rfl) ?_
                                                refine lv_ldc2 (v := 31) F.1 F.2.1 F.2.2.2.1 (F.2.2.2.2 _ (List.mem_of_getElem? (i := 8) rfl)) dX4_digest_422 ?_
                                                refine lv_lmul F.1 F.2.1 dX4_digest_425 ?_
                                                refine lv_iload F.1 F.2.1 dX4_digest_426 (lv_at hl 0 rfl) ?_
                                                refine lv_i2l (v := (nI (S 10 i)).toInt64) F.1 F.2.1 dX4_digest_428 rfl ?_
                                                refine lv_ladd F.1 F.2.1 dX4_digest_429 ?_
                                                refine lv_lstore_n (lv' := [(2, .long (mxL (mxL (mxL (mxL (dgV S (dgK S (dgG S (dg0 S) (S 0 0)) (S 0 1)) i) ((nI (S 7 i)).toInt64)) ((nI (S 8 i)).toInt64)) ((nI (S 9 i)).toInt64)) ((nI (S 10 i)).toInt64))), (9, .int (nI (S 10 i))), (8, .int (nI 3)), (7, .int (nI 10)), (6, .ref q285), (5, .ref q285), (0, .ref (u 0)), (4, .int (nI i))]) F.1 F.2.1 dX4_digest_430 rfl hl (by decide) rfl (fun ls hl => ?_)
                                                refine k_inc (k := 2) (lv' := [(8, .int (nI 4)), (2, .long (mxL (mxL (mxL (mxL (dgV S (dgK S (dgG S (dg0 S) (S 0 0)) (S 0 1)) i) ((nI (S 7 i)).toInt64)) ((nI (S 8 i)).toInt64)) ((nI (S 9 i)).toInt64)) ((nI (S 10 i)).toInt64))), (9, .int (nI (S 10 i))), (7, .int (nI 10)), (6, .ref q285), (5, .ref q285), (0, .ref (u 0)), (4, .int (nI i))]) F dX4_digest_431 hl rfl (by decide) rfl (fun ls hl => ?_)
                                                refine lv_goto (tgt := 407) F.1 F.2.1 dX4_digest_434 (by decide) ?_
                                                refine lv_iload F.1 F.2.1 dX4_digest_407 (lv_at hl 0 rfl) ?_
                                                refine lv_iload F.1 F.2.1 dX4_digest_409 (lv_at hl 3 rfl) ?_
                                                refine k_icmp_ge (tgt := 437) F (by omega) (by omega) dX4_digest_411 (by decide) (fun h411 => ?_) (fun h411 => ?_)
                                                · skip
                                                  exact absurd h411 (by decide)
                                                · skip
                                                  refine lv_aload F.1 F.2.1 dX4_digest_414 (lv_at hl 4 rfl) ?_
                                                  refine lv_iload F.1 F.2.1 dX4_digest_416 (lv_at hl 0 rfl) ?_
                                                  refine k_ialx (k := 4) (v := nI (hisG S (S 7 i) (S 6 i))) F hK.1 hP 6 0 rfl rfl (by decide) (by decide) ((u_ne (by decide)).trans ((u_ne (by decide)).trans ((u_ne (by decide)).trans ((u_ne (by decide)).trans ((u_ne (by decide)).trans u_eq))))) dX4_digest_418 ?_
                                                  refine lv_istore (lv' := [(9, .int (nI (hisG S (S 7 i) (S 6 i)))), (8, .int (nI 4)), (2, .long (mxL (mxL (mxL (mxL (dgV S (dgK S (dgG S (dg0 S) (S 0 0)) (S 0 1)) i) ((nI (S 7 i)).toInt64)) ((nI (S 8 i)).toInt64)) ((nI (S 9 i)).toInt64)) ((nI (S 10 i)).toInt64))), (7, .int (nI 10)), (6, .ref q285), (5, .ref q285), (0, .ref (u 0)), (4, .int (nI i))]) F.1 F.2.1 dX4_digest_419 hl (by decide) rfl (fun ls hl => ?_)
                                                  refine lv_lload_n F.1 F.2.1 dX4_digest_421 rfl (lv_at hl 2 rfl) ?_
                                                  refine lv_ldc2 (v := 31) F.1 F.2.1 F.2.2.2.1 (F.2.2.2.2 _ (List.mem_of_getElem? (i := 8) rfl)) dX4_digest_422 ?_
                                                  refine lv_lmul F.1 F.2.1 dX4_digest_425 ?_
                                                  refine lv_iload F.1 F.2.1 dX4_digest_426 (lv_at hl 0 rfl) ?_
                                                  refine lv_i2l (v := (nI (hisG S (S 7 i) (S 6 i))).toInt64) F.1 F.2.1 dX4_digest_428 rfl ?_
                                                  refine lv_ladd F.1 F.2.1 dX4_digest_429 ?_
                                                  refine lv_lstore_n (lv' := [(2, .long (mxL (mxL (mxL (mxL (mxL (dgV S (dgK S (dgG S (dg0 S) (S 0 0)) (S 0 1)) i) ((nI (S 7 i)).toInt64)) ((nI (S 8 i)).toInt64)) ((nI (S 9 i)).toInt64)) ((nI (S 10 i)).toInt64)) ((nI (hisG S (S 7 i) (S 6 i))).toInt64))), (9, .int (nI (hisG S (S 7 i) (S 6 i)))), (8, .int (nI 4)), (7, .int (nI 10)), (6, .ref q285), (5, .ref q285), (0, .ref (u 0)), (4, .int (nI i))]) F.1 F.2.1 dX4_digest_430 rfl hl (by decide) rfl (fun ls hl => ?_)
                                                  refine k_inc (k := 2) (lv' := [(8, .int (nI 5)), (2, .long (mxL (mxL (mxL (mxL (mxL (dgV S (dgK S (dgG S (dg0 S) (S 0 0)) (S 0 1)) i) ((nI (S 7 i)).toInt64)) ((nI (S 8 i)).toInt64)) ((nI (S 9 i)).toInt64)) ((nI (S 10 i)).toInt64)) ((nI (hisG S (S 7 i) (S 6 i))).toInt64))), (9, .int (nI (hisG S (S 7 i) (S 6 i)))), (7, .int (nI 10)), (6, .ref q285), (5, .ref q285), (0, .ref (u 0)), (4, .int (nI i))]) F dX4_digest_431 hl rfl (by decide) rfl (fun ls hl => ?_)
                                                  refine lv_goto (tgt := 407) F.1 F.2.1 dX4_digest_434 (by decide) ?_
                                                  refine lv_iload F.1 F.2.1 dX4_digest_407 (lv_at hl 0 rfl) ?_
                                                  refine lv_iload F.1 F.2.1 dX4_digest_409 (lv_at hl 3 rfl) ?_
                                                  refine k_icmp_ge (tgt := 437) F (by omega) (by omega) dX4_digest_411 (by decide) (fun h411 => ?_) (fun h411 => ?_)
                                                  · skip
                                                    exact absurd h411 (by decide)
                                                  · skip
                                                    refine lv_aload F.1 F.2.1 dX4_digest_414 (lv_at hl 4 rfl) ?_
                                                    refine lv_iload F.1 F.2.1 dX4_digest_416 (lv_at hl 0 rfl) ?_
                                                    refine k_ialx (k := 5) (v := bI (dareP S i)) F hK.1 hP 6 0 rfl rfl (by decide) (by decide) ((u_ne (by decide)).trans ((u_ne (by decide)).trans ((u_ne (by decide)).trans ((u_ne (by decide)).trans u_eq)))) dX4_digest_418 ?_
                                                    refine lv_istore (lv' := [(9, .int (bI (dareP S i))), (8, .int (nI 5)), (2, .long (mxL (mxL (mxL (mxL (mxL (dgV S (dgK S (dgG S (dg0 S) (S 0 0)) (S 0 1)) i) ((nI (S 7 i)).toInt64)) ((nI (S 8 i)).toInt64)) ((nI (S 9 i)).toInt64)) ((nI (S 10 i)).toInt64)) ((nI (hisG S (S 7 i) (S 6 i))).toInt64))), (7, .int (nI 10)), (6, .ref q285), (5, .ref q285), (0, .ref (u 0)), (4, .int (nI i))]) F.1 F.2.1 dX4_digest_419 hl (by decide) rfl (fun ls hl => ?_)
                                                    refine lv_lload_n F.1 F.2.1 dX4_digest_421 rfl (lv_at hl 2 rfl) ?_
                                                    refine lv_ldc2 (v := 31) F.1 F.2.1 F.2.2.2.1 (F.2.2.2.2 _ (List.mem_of_getElem? (i := 8) rfl)) dX4_digest_422 ?_
                                                    refine lv_lmul F.1 F.2.1 dX4_digest_425 ?_
                                                    refine lv_iload F.1 F.2.1 dX4_digest_426 (lv_at hl 0 rfl) ?_
                                                    refine lv_i2l (v := (bI (dareP S i)).toInt64) F.1 F.2.1 dX4_digest_428 rfl ?_
                                                    refine lv_ladd F.1 F.2.1 dX4_digest_429 ?_
                                                    refine lv_lstore_n (lv' := [(2, .long (mxL (mxL (mxL (mxL (mxL (mxL (dgV S (dgK S (dgG S (dg0 S) (S 0 0)) (S 0 1)) i) ((nI (S 7 i)).toInt64)) ((nI (S 8 i)).toInt64)) ((nI (S 9 i)).toInt64)) ((nI (S 10 i)).toInt64)) ((nI (hisG S (S 7 i) (S 6 i))).toInt64)) ((bI (dareP S i)).toInt64))), (9, .int (bI (dareP S i))), (8, .int (nI 5)), (7, .int (nI 10)), (6, .ref q285), (5, .ref q285), (0, .ref (u 0)), (4, .int (nI i))]) F.1 F.2.1 dX4_digest_430 rfl hl (by decide) rfl (fun ls hl => ?_)
                                                    refine k_inc (k := 2) (lv' := [(8, .int (nI 6)), (2, .long (mxL (mxL (mxL (mxL (mxL (mxL (dgV S (dgK S (dgG S (dg0 S) (S 0 0)) (S 0 1)) i) ((nI (S 7 i)).toInt64)) ((nI (S 8 i)).toInt64)) ((nI (S 9 i)).toInt64)) ((nI (S 10 i)).toInt64)) ((nI (hisG S (S 7 i) (S 6 i))).toInt64)) ((bI (dareP S i)).toInt64))), (9, .int (bI (dareP S i))), (7, .int (nI 10)), (6, .ref q285), (5, .ref q285), (0, .ref (u 0)), (4, .int (nI i))]) F dX4_digest_431 hl rfl (by decide) rfl (fun ls hl => ?_)
                                                    refine lv_goto (tgt := 407) F.1 F.2.1 dX4_digest_434 (by decide) ?_
                                                    refine lv_iload F.1 F.2.1 dX4_digest_407 (lv_at hl 0 rfl) ?_
                                                    refine lv_iload F.1 F.2.1 dX4_digest_409 (lv_at hl 3 rfl) ?_
                                                    refine k_icmp_ge (tgt := 437) F (by omega) (by omega) dX4_digest_411 (by decide) (fun h411 => ?_) (fun h411 => ?_)
                                                    · skip
                                                      exact absurd h411 (by decide)
                                                    · skip
                                                      refine lv_aload F.1 F.2.1 dX4_digest_414 (lv_at hl 4 rfl) ?_
                                                      refine lv_iload F.1 F.2.1 dX4_digest_416 (lv_at hl 0 rfl) ?_
                                                      refine k_ialx (k := 6) (v := arrI S i 60) F hK.1 hP 6 0 rfl rfl (by decide) (by decide) ((u_ne (by decide)).trans ((u_ne (by decide)).trans ((u_ne (by decide)).trans u_eq))) dX4_digest_418 ?_
                                                      refine lv_istore (lv' := [(9, .int (arrI S i 60)), (8, .int (nI 6)), (2, .long (mxL (mxL (mxL (mxL (mxL (mxL (dgV S (dgK S (dgG S (dg0 S) (S 0 0)) (S 0 1)) i) ((nI (S 7 i)).toInt64)) ((nI (S 8 i)).toInt64)) ((nI (S 9 i)).toInt64)) ((nI (S 10 i)).toInt64)) ((nI (hisG S (S 7 i) (S 6 i))).toInt64)) ((bI (dareP S i)).toInt64))), (7, .int (nI 10)), (6, .ref q285), (5, .ref q285), (0, .ref (u 0)), (4, .int (nI i))]) F.1 F.2.1 dX4_digest_419 hl (by decide) rfl (fun ls hl => ?_)
                                                      refine lv_lload_n F.1 F.2.1 dX4_digest_421 rfl (lv_at hl 2 rfl) ?_
                                                      refine lv_ldc2 (v := 31) F.1 F.2.1 F.2.2.2.1 (F.2.2.2.2 _ (List.mem_of_getElem? (i := 8) rfl)) dX4_digest_422 ?_
                                                      refine lv_lmul F.1 F.2.1 dX4_digest_425 ?_
                                                      refine lv_iload F.1 F.2.1 dX4_digest_426 (lv_at hl 0 rfl) ?_
                                                      refine lv_i2l (v := (arrI S i 60).toInt64) F.1 F.2.1 dX4_digest_428 rfl ?_
                                                      refine lv_ladd F.1 F.2.1 dX4_digest_429 ?_
                                                      refine lv_lstore_n (lv' := [(2, .long (mxL (mxL (mxL (mxL (mxL (mxL (mxL (dgV S (dgK S (dgG S (dg0 S) (S 0 0)) (S 0 1)) i) ((nI (S 7 i)).toInt64)) ((nI (S 8 i)).toInt64)) ((nI (S 9 i)).toInt64)) ((nI (S 10 i)).toInt64)) ((nI (hisG S (S 7 i) (S 6 i))).toInt64)) ((bI (dareP S i)).toInt64)) ((arrI S i 60).toInt64))), (9, .int (arrI S i 60)), (8, .int (nI 6)), (7, .int (nI 10)), (6, .ref q285), (5, .ref q285), (0, .ref (u 0)), (4, .int (nI i))]) F.1 F.2.1 dX4_digest_430 rfl hl (by decide) rfl (fun ls hl => ?_)
                                                      refine k_inc (k := 2) (lv' := [(8, .int (nI 7)), (2, .long (mxL (mxL (mxL (mxL (mxL (mxL (mxL (dgV S (dgK S (dgG S (dg0 S) (S 0 0)) (S 0 1)) i) ((nI (S 7 i)).toInt64)) ((nI (S 8 i)).toInt64)) ((nI (S 9 i)).toInt64)) ((nI (S 10 i)).toInt64)) ((nI (hisG S (S 7 i) (S 6 i))).toInt64)) ((bI (dareP S i)).toInt64)) ((arrI S i 60).toInt64))), (9, .int (arrI S i 60)), (7, .int (nI 10)), (6, .ref q285), (5, .ref q285), (0, .ref (u 0)), (4, .int (nI i))]) F dX4_digest_431 hl rfl (by decide) rfl (fun ls hl => ?_)
                                                      refine lv_goto (tgt := 407) F.1 F.2.1 dX4_digest_434 (by decide) ?_
                                                      refine lv_iload F.1 F.2.1 dX4_digest_407 (lv_at hl 0 rfl) ?_
                                                      refine lv_iload F.1 F.2.1 dX4_digest_409 (lv_at hl 3 rfl) ?_
                                                      refine k_icmp_ge (tgt := 437) F (by omega) (by omega) dX4_digest_411 (by decide) (fun h411 => ?_) (fun h411 => ?_)
                                                      · skip
                                                        exact absurd h411 (by decide)
                                                      · skip
                                                        refine lv_aload F.1 F.2.1 dX4_digest_414 (lv_at hl 4 rfl) ?_
                                                        refine lv_iload F.1 F.2.1 dX4_digest_416 (lv_at hl 0 rfl) ?_
                                                        refine k_ialx (k := 7) (v := oI (frcN S (S 7 i) (S 0 1)).1) F hK.1 hP 6 0 rfl rfl (by decide) (by decide) ((u_ne (by decide)).trans ((u_ne (by decide)).trans u_eq)) dX4_digest_418 ?_
                                                        refine lv_istore (lv' := [(9, .int (oI (frcN S (S 7 i) (S 0 1)).1)), (8, .int (nI 7)), (2, .long (mxL (mxL (mxL (mxL (mxL (mxL (mxL (dgV S (dgK S (dgG S (dg0 S) (S 0 0)) (S 0 1)) i) ((nI (S 7 i)).toInt64)) ((nI (S 8 i)).toInt64)) ((nI (S 9 i)).toInt64)) ((nI (S 10 i)).toInt64)) ((nI (hisG S (S 7 i) (S 6 i))).toInt64)) ((bI (dareP S i)).toInt64)) ((arrI S i 60).toInt64))), (7, .int (nI 10)), (6, .ref q285), (5, .ref q285), (0, .ref (u 0)), (4, .int (nI i))]) F.1 F.2.1 dX4_digest_419 hl (by decide) rfl (fun ls hl => ?_)
                                                        refine lv_lload_n F.1 F.2.1 dX4_digest_421 rfl (lv_at hl 2 rfl) ?_
                                                        refine lv_ldc2 (v := 31) F.1 F.2.1 F.2.2.2.1 (F.2.2.2.2 _ (List.mem_of_getElem? (i := 8) rfl)) dX4_digest_422 ?_
                                                        refine lv_lmul F.1 F.2.1 dX4_digest_425 ?_
                                                        refine lv_iload F.1 F.2.1 dX4_digest_426 (lv_at hl 0 rfl) ?_
                                                        refine lv_i2l (v := (oI (frcN S (S 7 i) (S 0 1)).1).toInt64) F.1 F.2.1 dX4_digest_428 rfl ?_
                                                        refine lv_ladd F.1 F.2.1 dX4_digest_429 ?_
                                                        refine lv_lstore_n (lv' := [(2, .long (mxL (mxL (mxL (mxL (mxL (mxL (mxL (mxL (dgV S (dgK S (dgG S (dg0 S) (S 0 0)) (S 0 1)) i) ((nI (S 7 i)).toInt64)) ((nI (S 8 i)).toInt64)) ((nI (S 9 i)).toInt64)) ((nI (S 10 i)).toInt64)) ((nI (hisG S (S 7 i) (S 6 i))).toInt64)) ((bI (dareP S i)).toInt64)) ((arrI S i 60).toInt64)) ((oI (frcN S (S 7 i) (S 0 1)).1).toInt64))), (9, .int (oI (frcN S (S 7 i) (S 0 1)).1)), (8, .int (nI 7)), (7, .int (nI 10)), (6, .ref q285), (5, .ref q285), (0, .ref (u 0)), (4, .int (nI i))]) F.1 F.2.1 dX4_digest_430 rfl hl (by decide) rfl (fun ls hl => ?_)
                                                        refine k_inc (k := 2) (lv' := [(8, .int (nI 8)), (2, .long (mxL (mxL (mxL (mxL (mxL (mxL (mxL (mxL (dgV S (dgK S (dgG S (dg0 S) (S 0 0)) (S 0 1)) i) ((nI (S 7 i)).toInt64)) ((nI (S 8 i)).toInt64)) ((nI (S 9 i)).toInt64)) ((nI (S 10 i)).toInt64)) ((nI (hisG S (S 7 i) (S 6 i))).toInt64)) ((bI (dareP S i)).toInt64)) ((arrI S i 60).toInt64)) ((oI (frcN S (S 7 i) (S 0 1)).1).toInt64))), (9, .int (oI (frcN S (S 7 i) (S 0 1)).1)), (7, .int (nI 10)), (6, .ref q285), (5, .ref q285), (0, .ref (u 0)), (4, .int (nI i))]) F dX4_digest_431 hl rfl (by decide) rfl (fun ls hl => ?_)
                                                        refine lv_goto (tgt := 407) F.1 F.2.1 dX4_digest_434 (by decide) ?_
                                                        refine lv_iload F.1 F.2.1 dX4_digest_407 (lv_at hl 0 rfl) ?_
                                                        refine lv_iload F.1 F.2.1 dX4_digest_409 (lv_at hl 3 rfl) ?_
                                                        refine k_icmp_ge (tgt := 437) F (by omega) (by omega) dX4_digest_411 (by decide) (fun h411 => ?_) (fun h411 => ?_)
                                                        · skip
                                                          exact absurd h411 (by decide)
                                                        · skip
                                                          refine lv_aload F.1 F.2.1 dX4_digest_414 (lv_at hl 4 rfl) ?_
                                                          refine lv_iload F.1 F.2.1 dX4_digest_416 (lv_at hl 0 rfl) ?_
                                                          refine k_ialx (k := 8) (v := nI (calmN S i)) F hK.1 hP 6 0 rfl rfl (by decide) (by decide) ((u_ne (by decide)).trans u_eq) dX4_digest_418 ?_
                                                          refine lv_istore (lv' := [(9, .int (nI (calmN S i))), (8, .int (nI 8)), (2, .long (mxL (mxL (mxL (mxL (mxL (mxL (mxL (mxL (dgV S (dgK S (dgG S (dg0 S) (S 0 0)) (S 0 1)) i) ((nI (S 7 i)).toInt64)) ((nI (S 8 i)).toInt64)) ((nI (S 9 i)).toInt64)) ((nI (S 10 i)).toInt64)) ((nI (hisG S (S 7 i) (S 6 i))).toInt64)) ((bI (dareP S i)).toInt64)) ((arrI S i 60).toInt64)) ((oI (frcN S (S 7 i) (S 0 1)).1).toInt64))), (7, .int (nI 10)), (6, .ref q285), (5, .ref q285), (0, .ref (u 0)), (4, .int (nI i))]) F.1 F.2.1 dX4_digest_419 hl (by decide) rfl (fun ls hl => ?_)
                                                          refine lv_lload_n F.1 F.2.1 dX4_digest_421 rfl (lv_at hl 2 rfl) ?_
                                                          refine lv_ldc2 (v := 31) F.1 F.2.1 F.2.2.2.1 (F.2.2.2.2 _ (List.mem_of_getElem? (i := 8) rfl)) dX4_digest_422 ?_
                                                          refine lv_lmul F.1 F.2.1 dX4_digest_425 ?_
                                                          refine lv_iload F.1 F.2.1 dX4_digest_426 (lv_at hl 0 rfl) ?_
                                                          refine lv_i2l (v := (nI (calmN S i)).toInt64) F.1 F.2.1 dX4_digest_428 rfl ?_
                                                          refine lv_ladd F.1 F.2.1 dX4_digest_429 ?_
                                                          refine lv_lstore_n (lv' := [(2, .long (mxL (mxL (mxL (mxL (mxL (mxL (mxL (mxL (mxL (dgV S (dgK S (dgG S (dg0 S) (S 0 0)) (S 0 1)) i) ((nI (S 7 i)).toInt64)) ((nI (S 8 i)).toInt64)) ((nI (S 9 i)).toInt64)) ((nI (S 10 i)).toInt64)) ((nI (hisG S (S 7 i) (S 6 i))).toInt64)) ((bI (dareP S i)).toInt64)) ((arrI S i 60).toInt64)) ((oI (frcN S (S 7 i) (S 0 1)).1).toInt64)) ((nI (calmN S i)).toInt64))), (9, .int (nI (calmN S i))), (8, .int (nI 8)), (7, .int (nI 10)), (6, .ref q285), (5, .ref q285), (0, .ref (u 0)), (4, .int (nI i))]) F.1 F.2.1 dX4_digest_430 rfl hl (by decide) rfl (fun ls hl => ?_)
                                                          refine k_inc (k := 2) (lv' := [(8, .int (nI 9)), (2, .long (mxL (mxL (mxL (mxL (mxL (mxL (mxL (mxL (mxL (dgV S (dgK S (dgG S (dg0 S) (S 0 0)) (S 0 1)) i) ((nI (S 7 i)).toInt64)) ((nI (S 8 i)).toInt64)) ((nI (S 9 i)).toInt64)) ((nI (S 10 i)).toInt64)) ((nI (hisG S (S 7 i) (S 6 i))).toInt64)) ((bI (dareP S i)).toInt64)) ((arrI S i 60).toInt64)) ((oI (frcN S (S 7 i) (S 0 1)).1).toInt64)) ((nI (calmN S i)).toInt64))), (9, .int (nI (calmN S i))), (7, .int (nI 10)), (6, .ref q285), (5, .ref q285), (0, .ref (u 0)), (4, .int (nI i))]) F dX4_digest_431 hl rfl (by decide) rfl (fun ls hl => ?_)
                                                          refine lv_goto (tgt := 407) F.1 F.2.1 dX4_digest_434 (by decide) ?_
                                                          refine lv_iload F.1 F.2.1 dX4_digest_407 (lv_at hl 0 rfl) ?_
                                                          refine lv_iload F.1 F.2.1 dX4_digest_409 (lv_at hl 3 rfl) ?_
                                                          refine k_icmp_ge (tgt := 437) F (by omega) (by omega) dX4_digest_411 (by decide) (fun h411 => ?_) (fun h411 => ?_)
                                                          · skip
                                                            exact absurd h411 (by decide)
                                                          · skip
                                                            refine lv_aload F.1 F.2.1 dX4_digest_414 (lv_at hl 4 rfl) ?_
                                                            refine lv_iload F.1 F.2.1 dX4_digest_416 (lv_at hl 0 rfl) ?_
                                                            refine k_ialx (k := 9) (v := oI (rkN S i 10)) F hK.1 hP 6 0 rfl rfl (by decide) (by decide) u_eq dX4_digest_418 ?_
                                                            refine lv_istore (lv' := [(9, .int (oI (rkN S i 10))), (8, .int (nI 9)), (2, .long (mxL (mxL (mxL (mxL (mxL (mxL (mxL (mxL (mxL (dgV S (dgK S (dgG S (dg0 S) (S 0 0)) (S 0 1)) i) ((nI (S 7 i)).toInt64)) ((nI (S 8 i)).toInt64)) ((nI (S 9 i)).toInt64)) ((nI (S 10 i)).toInt64)) ((nI (hisG S (S 7 i) (S 6 i))).toInt64)) ((bI (dareP S i)).toInt64)) ((arrI S i 60).toInt64)) ((oI (frcN S (S 7 i) (S 0 1)).1).toInt64)) ((nI (calmN S i)).toInt64))), (7, .int (nI 10)), (6, .ref q285), (5, .ref q285), (0, .ref (u 0)), (4, .int (nI i))]) F.1 F.2.1 dX4_digest_419 hl (by decide) rfl (fun ls hl => ?_)
                                                            refine lv_lload_n F.1 F.2.1 dX4_digest_421 rfl (lv_at hl 2 rfl) ?_
                                                            refine lv_ldc2 (v := 31) F.1 F.2.1 F.2.2.2.1 (F.2.2.2.2 _ (List.mem_of_getElem? (i := 8) rfl)) dX4_digest_422 ?_
                                                            refine lv_lmul F.1 F.2.1 dX4_digest_425 ?_
                                                            refine lv_iload F.1 F.2.1 dX4_digest_426 (lv_at hl 0 rfl) ?_
                                                            refine lv_i2l (v := (oI (rkN S i 10)).toInt64) F.1 F.2.1 dX4_digest_428 rfl ?_
                                                            refine lv_ladd F.1 F.2.1 dX4_digest_429 ?_
                                                            refine lv_lstore_n (lv' := [(2, .long (mxL (mxL (mxL (mxL (mxL (mxL (mxL (mxL (mxL (mxL (dgV S (dgK S (dgG S (dg0 S) (S 0 0)) (S 0 1)) i) ((nI (S 7 i)).toInt64)) ((nI (S 8 i)).toInt64)) ((nI (S 9 i)).toInt64)) ((nI (S 10 i)).toInt64)) ((nI (hisG S (S 7 i) (S 6 i))).toInt64)) ((bI (dareP S i)).toInt64)) ((arrI S i 60).toInt64)) ((oI (frcN S (S 7 i) (S 0 1)).1).toInt64)) ((nI (calmN S i)).toInt64)) ((oI (rkN S i 10)).toInt64))), (9, .int (oI (rkN S i 10))), (8, .int (nI 9)), (7, .int (nI 10)), (6, .ref q285), (5, .ref q285), (0, .ref (u 0)), (4, .int (nI i))]) F.1 F.2.1 dX4_digest_430 rfl hl (by decide) rfl (fun ls hl => ?_)
                                                            refine k_inc (k := 2) (lv' := [(8, .int (nI 10)), (2, .long (mxL (mxL (mxL (mxL (mxL (mxL (mxL (mxL (mxL (mxL (dgV S (dgK S (dgG S (dg0 S) (S 0 0)) (S 0 1)) i) ((nI (S 7 i)).toInt64)) ((nI (S 8 i)).toInt64)) ((nI (S 9 i)).toInt64)) ((nI (S 10 i)).toInt64)) ((nI (hisG S (S 7 i) (S 6 i))).toInt64)) ((bI (dareP S i)).toInt64)) ((arrI S i 60).toInt64)) ((oI (frcN S (S 7 i) (S 0 1)).1).toInt64)) ((nI (calmN S i)).toInt64)) ((oI (rkN S i 10)).toInt64))), (9, .int (oI (rkN S i 10))), (7, .int (nI 10)), (6, .ref q285), (5, .ref q285), (0, .ref (u 0)), (4, .int (nI i))]) F dX4_digest_431 hl rfl (by decide) rfl (fun ls hl => ?_)
                                                            refine lv_goto (tgt := 407) F.1 F.2.1 dX4_digest_434 (by decide) ?_
                                                            refine lv_iload F.1 F.2.1 dX4_digest_407 (lv_at hl 0 rfl) ?_
                                                            refine lv_iload F.1 F.2.1 dX4_digest_409 (lv_at hl 3 rfl) ?_
                                                            refine k_icmp_ge (tgt := 437) F (by omega) (by omega) dX4_digest_411 (by decide) (fun h411 => ?_) (fun h411 => ?_)
                                                            · skip
                                                              refine k_inc (k := 7) (lv' := [(4, .int (nI (i + 1))), (8, .int (nI 10)), (2, .long (mxL (mxL (mxL (mxL (mxL (mxL (mxL (mxL (mxL (mxL (dgV S (dgK S (dgG S (dg0 S) (S 0 0)) (S 0 1)) i) ((nI (S 7 i)).toInt64)) ((nI (S 8 i)).toInt64)) ((nI (S 9 i)).toInt64)) ((nI (S 10 i)).toInt64)) ((nI (hisG S (S 7 i) (S 6 i))).toInt64)) ((bI (dareP S i)).toInt64)) ((arrI S i 60).toInt64)) ((oI (frcN S (S 7 i) (S 0 1)).1).toInt64)) ((nI (calmN S i)).toInt64)) ((oI (rkN S i 10)).toInt64))), (9, .int (oI (rkN S i 10))), (7, .int (nI 10)), (6, .ref q285), (5, .ref q285), (0, .ref (u 0))]) F dX4_digest_437 hl rfl (by decide) rfl (fun ls hl => ?_)
                                                              refine lv_goto (tgt := 274) F.1 F.2.1 dX4_digest_440 (by decide) ?_
                                                              have e_2 : (mxL (mxL (mxL (mxL (mxL (mxL (mxL (mxL (mxL (mxL (dgV S (dgK S (dgG S (dg0 S) (S 0 0)) (S 0 1)) i) ((nI (S 7 i)).toInt64)) ((nI (S 8 i)).toInt64)) ((nI (S 9 i)).toInt64)) ((nI (S 10 i)).toInt64)) ((nI (hisG S (S 7 i) (S 6 i))).toInt64)) ((bI (dareP S i)).toInt64)) ((arrI S i 60).toInt64)) ((oI (frcN S (S 7 i) (S 0 1)).1).toInt64)) ((nI (calmN S i)).toInt64)) ((oI (rkN S i 10)).toInt64)) = (dgV S (dgK S (dgG S (dg0 S) (S 0 0)) (S 0 1)) (i + 1)) := rfl
                                                              rw [e_2] at hl
                                                              have hP := P_pre hP
                                                              have hD := D_pre hD
                                                              have ew : (wMo cI u S (nI 0) (encN S)) = (wMo cI u S (nI 0) (kepN S K (i + 1))) := wMo_kep
                                                              have hP := P_eq ew hP
                                                              have hD := D_eq ew hD
                                                              exact ih274 (i + 1) (by omega) (by omega)  (ce274 + 1 + 1) (sl274 + 10 + 10) (by omega) (by omega) _ _ _ hP hD hS (lv_sub hl [7, 2, 0] rfl)
                                                            · skip
                                                              exact absurd h411 (by decide)
                                have e_3 : (dgK S (dgG S (dg0 S) (S 0 0)) i) = (dgV S (dgK S (dgG S (dg0 S) (S 0 0)) (S 0 1)) 0) := (by rw [show i = S 0 1 by omega]; rfl)
                                rw [e_3] at hl
                                have ew : (wMo cI u S (nI 0) K) = (wMo cI u S (nI 0) (kepN S K 0)) := rfl
                                have hP := P_eq ew hP
                                have hD := D_eq ew hD
                                exact loop274 ((S 0 2) + 1) 0 (by omega) (by omega)  (ce169) (sl169) (by omega) (by omega) _ _ _ hP hD hS (lv_sub hl [1, 2, 0] rfl)
                              · skip
                                refine lv_iconst (v := nI 4) F.1 F.2.1 dX4_digest_178 (by decide) ?_
                                refine k_newa F (List.mem_of_getElem? (i := 2) rfl) hK hP hD hS (fun q h => Or.inr (by omega)) (k := 4) (by decide) ⟨show ce169 + 1 ≤ 25 by omega, show sl169 + 4 ≤ 200 by omega⟩ dX4_digest_179 (fun q179 H hP hD hS => ?_)
                                refine lv_dup F.1 F.2.1 dX4_digest_181 rfl ?_
                                refine lv_iconst (v := nI 0) F.1 F.2.1 dX4_digest_182 (by decide) ?_
                                refine lv_aload_n F.1 F.2.1 dX4_digest_183 rfl (lv_at hl 0 rfl) ?_
                                refine k_get (v := .ref (u 2)) F nX4_digest_X4 hK.1 hP 0 rfl rfl 5 (by decide) (List.mem_of_getElem? (i := 10) rfl) rfl dX4_digest_184 ?_
                                refine lv_iload F.1 F.2.1 dX4_digest_187 (lv_at hl 2 rfl) ?_
                                refine k_iald (f := S 2) (n := 8) F hK.1 hP 2 0 rfl rfl (by omega) (by decide) dX4_digest_189 ?_
                                refine k_iasx (f := row (fun _ => 0)) (k := 0) (x := nI (S 2 i)) F hK.1 hP hD hS 6 0 rfl rfl (by decide) (by decide) dX4_digest_190 ((wMo cI u S (nI 0) K) ++ [(q179, .inl (cI, 4, .inl (upd (row (fun _ => 0)) 0 (nI (S 2 i)))))]) rfl (fun H locs hP hD hS => ?_)
                                refine lv_dup F.1 F.2.1 dX4_digest_191 rfl ?_
                                refine lv_iconst (v := nI 1) F.1 F.2.1 dX4_digest_192 (by decide) ?_
                                refine lv_aload_n F.1 F.2.1 dX4_digest_193 rfl (lv_at hl 0 rfl) ?_
                                refine lv_iload F.1 F.2.1 dX4_digest_194 (lv_at hl 2 rfl) ?_
                                refine lv_iconst (v := nI 0) F.1 F.2.1 dX4_digest_196 (by decide) ?_
                                refine k_pV (n := 2) (rest := [.int (nI 1), .ref q179, .ref q179]) (v := nI (S 3 i)) F (c_X4_go l D cI u S (nI 0) K i 0 (by first | assumption | omega) (by first | assumption | omega)) gX4_digest_X4_go rfl (by decide +kernel) ⟨Nat.le_of_ble_eq_true rfl, Nat.le_of_ble_eq_true rfl⟩ rfl hl.1 rfl (Nat.le_of_ble_eq_true rfl) dX4_digest_197 ⟨show ce169 + 1 ≤ 25 by omega, show sl169 + 4 ≤ 200 by omega⟩ hK hP hS [0, 1, 2, 3, 4, 5] rfl (q0 := 0) (ci := 4) rfl rfl (fun H locs hP hS => ?_)
                                refine k_iasx (f := upd (row (fun _ => 0)) 0 (nI (S 2 i))) (k := 1) (x := nI (S 3 i)) F hK.1 hP hD hS 6 0 rfl rfl (by decide) (by decide) dX4_digest_200 ((wMo cI u S (nI 0) K) ++ [(q179, .inl (cI, 4, .inl (upd (upd (row (fun _ => 0)) 0 (nI (S 2 i))) 1 (nI (S 3 i)))))]) rfl (fun H locs hP hD hS => ?_)
                                refine lv_dup F.1 F.2.1 dX4_digest_201 rfl ?_
                                refine lv_iconst (v := nI 2) F.1 F.2.1 dX4_digest_202 (by decide) ?_
                                refine lv_aload_n F.1 F.2.1 dX4_digest_203 rfl (lv_at hl 0 rfl) ?_
                                refine lv_iload F.1 F.2.1 dX4_digest_204 (lv_at hl 2 rfl) ?_
                                refine lv_iconst (v := nI 1) F.1 F.2.1 dX4_digest_206 (by decide) ?_
                                refine k_pV (n := 2) (rest := [.int (nI 2), .ref q179, .ref q179]) (v := nI (S 4 i)) F (c_X4_go l D cI u S (nI 0) K i 1 (by first | assumption | omega) (by first | assumption | omega)) gX4_digest_X4_go rfl (by decide +kernel) ⟨Nat.le_of_ble_eq_true rfl, Nat.le_of_ble_eq_true rfl⟩ rfl hl.1 rfl (Nat.le_of_ble_eq_true rfl) dX4_digest_207 ⟨show ce169 + 1 ≤ 25 by omega, show sl169 + 4 ≤ 200 by omega⟩ hK hP hS [0, 1, 2, 3, 4, 5] rfl (q0 := 0) (ci := 4) rfl rfl (fun H locs hP hS => ?_)
                                refine k_iasx (f := upd (upd (row (fun _ => 0)) 0 (nI (S 2 i))) 1 (nI (S 3 i))) (k := 2) (x := nI (S 4 i)) F hK.1 hP hD hS 6 0 rfl rfl (by decide) (by decide) dX4_digest_210 ((wMo cI u S (nI 0) K) ++ [(q179, .inl (cI, 4, .inl (upd (upd (upd (row (fun _ => 0)) 0 (nI (S 2 i))) 1 (nI (S 3 i))) 2 (nI (S 4 i)))))]) rfl (fun H locs hP hD hS => ?_)
                                refine lv_dup F.1 F.2.1 dX4_digest_211 rfl ?_
                                refine lv_iconst (v := nI 3) F.1 F.2.1 dX4_digest_212 (by decide) ?_
                                refine lv_aload_n F.1 F.2.1 dX4_digest_213 rfl (lv_at hl 0 rfl) ?_
                                refine lv_iload F.1 F.2.1 dX4_digest_214 (lv_at hl 2 rfl) ?_
                                refine lv_iconst (v := nI 2) F.1 F.2.1 dX4_digest_216 (by decide) ?_
                                refine k_pV (n := 2) (rest := [.int (nI 3), .ref q179, .ref q179]) (v := nI (S 5 i)) F (c_X4_go l D cI u S (nI 0) K i 2 (by first | assumption | omega) (by first | assumption | omega)) gX4_digest_X4_go rfl (by decide +kernel) ⟨Nat.le_of_ble_eq_true rfl, Nat.le_of_ble_eq_true rfl⟩ rfl hl.1 rfl (Nat.le_of_ble_eq_true rfl) dX4_digest_217 ⟨show ce169 + 1 ≤ 25 by omega, show sl169 + 4 ≤ 200 by omega⟩ hK hP hS [0, 1, 2, 3, 4, 5] rfl (q0 := 0) (ci := 4) rfl rfl (fun H locs hP hS => ?_)
                                refine k_iasx (f := upd (upd (upd (row (fun _ => 0)) 0 (nI (S 2 i))) 1 (nI (S 3 i))) 2 (nI (S 4 i))) (k := 3) (x := nI (S 5 i)) F hK.1 hP hD hS 6 0 rfl rfl (by decide) (by decide) dX4_digest_220 ((wMo cI u S (nI 0) K) ++ [(q179, .inl (cI, 4, .inl (upd (upd (upd (upd (row (fun _ => 0)) 0 (nI (S 2 i))) 1 (nI (S 3 i))) 2 (nI (S 4 i))) 3 (nI (S 5 i)))))]) rfl (fun H locs hP hD hS => ?_)
                                refine lv_astore (lv' := [(5, .ref q179), (0, .ref (u 0)), (2, .long (dgK S (dgG S (dg0 S) (S 0 0)) i)), (4, .int (nI i))]) F.1 F.2.1 dX4_digest_221 hl (by decide) rfl (fun ls hl => ?_)
                                refine lv_aload F.1 F.2.1 dX4_digest_223 (lv_at hl 0 rfl) ?_
                                refine lv_astore (lv' := [(6, .ref q179), (5, .ref q179), (0, .ref (u 0)), (2, .long (dgK S (dgG S (dg0 S) (S 0 0)) i)), (4, .int (nI i))]) F.1 F.2.1 dX4_digest_225 hl (by decide) rfl (fun ls hl => ?_)
                                refine lv_aload F.1 F.2.1 dX4_digest_227 (lv_at hl 0 rfl) ?_
                                refine k_alen (n := 4) F hK.1 hP 6 0 rfl rfl dX4_digest_229 ?_
                                refine lv_istore (lv' := [(7, .int (nI 4)), (6, .ref q179), (5, .ref q179), (0, .ref (u 0)), (2, .long (dgK S (dgG S (dg0 S) (S 0 0)) i)), (4, .int (nI i))]) F.1 F.2.1 dX4_digest_230 hl (by decide) rfl (fun ls hl => ?_)
                                refine lv_iconst (v := nI 0) F.1 F.2.1 dX4_digest_232 (by decide) ?_
                                refine lv_istore (lv' := [(8, .int (nI 0)), (7, .int (nI 4)), (6, .ref q179), (5, .ref q179), (0, .ref (u 0)), (2, .long (dgK S (dgG S (dg0 S) (S 0 0)) i)), (4, .int (nI i))]) F.1 F.2.1 dX4_digest_233 hl (by decide) rfl (fun ls hl => ?_)
                                refine lv_iload F.1 F.2.1 dX4_digest_235 (lv_at hl 0 rfl) ?_
                                refine lv_iload F.1 F.2.1 dX4_digest_237 (lv_at hl 1 rfl) ?_
                                refine k_icmp_ge (tgt := 265) F (by omega) (by omega) dX4_digest_239 (by decide) (fun h239 => ?_) (fun h239 => ?_)
                                · skip
                                  exact absurd h239 (by decide)
                                · skip
                                  refine lv_aload F.1 F.2.1 dX4_digest_242 (lv_at hl 2 rfl) ?_
                                  refine lv_iload F.1 F.2.1 dX4_digest_244 (lv_at hl 0 rfl) ?_
                                  refine k_ialx (k := 0) (v := nI (S 2 i)) F hK.1 hP 6 0 rfl rfl (by decide) (by decide) ((u_ne (by decide)).trans ((u_ne (by decide)).trans ((u_ne (by decide)).trans u_eq))) dX4_digest_246 ?_
                                  refine lv_istore (lv' := [(9, .int (nI (S 2 i))), (8, .int (nI 0)), (7, .int (nI 4)), (6, .ref q179), (5, .ref q179), (0, .ref (u 0)), (2, .long (dgK S (dgG S (dg0 S) (S 0 0)) i)), (4, .int (nI i))]) F.1 F.2.1 dX4_digest_247 hl (by decide) rfl (fun ls hl => ?_)
                                  refine lv_lload_n F.1 F.2.1 dX4_digest_249 rfl (lv_at hl 6 rfl) ?_
                                  refine lv_ldc2 (v := 31) F.1 F.2.1 F.2.2.2.1 (F.2.2.2.2 _ (List.mem_of_getElem? (i := 8) rfl)) dX4_digest_250 ?_
                                  refine lv_lmul F.1 F.2.1 dX4_digest_253 ?_
                                  refine lv_iload F.1 F.2.1 dX4_digest_254 (lv_at hl 0 rfl) ?_
                                  refine lv_i2l (v := (nI (S 2 i)).toInt64) F.1 F.2.1 dX4_digest_256 rfl ?_
                                  refine lv_ladd F.1 F.2.1 dX4_digest_257 ?_
                                  refine lv_lstore_n (lv' := [(2, .long (mxL (dgK S (dgG S (dg0 S) (S 0 0)) i) ((nI (S 2 i)).toInt64))), (9, .int (nI (S 2 i))), (8, .int (nI 0)), (7, .int (nI 4)), (6, .ref q179), (5, .ref q179), (0, .ref (u 0)), (4, .int (nI i))]) F.1 F.2.1 dX4_digest_258 rfl hl (by decide) rfl (fun ls hl => ?_)
                                  refine k_inc (k := 2) (lv' := [(8, .int (nI 1)), (2, .long (mxL (dgK S (dgG S (dg0 S) (S 0 0)) i) ((nI (S 2 i)).toInt64))), (9, .int (nI (S 2 i))), (7, .int (nI 4)), (6, .ref q179), (5, .ref q179), (0, .ref (u 0)), (4, .int (nI i))]) F dX4_digest_259 hl rfl (by decide) rfl (fun ls hl => ?_)
                                  refine lv_goto (tgt := 235) F.1 F.2.1 dX4_digest_262 (by decide) ?_
                                  refine lv_iload F.1 F.2.1 dX4_digest_235 (lv_at hl 0 rfl) ?_
                                  refine lv_iload F.1 F.2.1 dX4_digest_237 (lv_at hl 3 rfl) ?_
                                  refine k_icmp_ge (tgt := 265) F (by omega) (by omega) dX4_digest_239 (by decide) (fun h239 => ?_) (fun h239 => ?_)
                                  · skip
                                    exact absurd h239 (by decide)
                                  · skip
                                    refine lv_aload F.1 F.2.1 dX4_digest_242 (lv_at hl 4 rfl) ?_
                                    refine lv_iload F.1 F.2.1 dX4_digest_244 (lv_at hl 0 rfl) ?_
                                    refine k_ialx (k := 1) (v := nI (S 3 i)) F hK.1 hP 6 0 rfl rfl (by decide) (by decide) ((u_ne (by decide)).trans ((u_ne (by decide)).trans u_eq)) dX4_digest_246 ?_
                                    refine lv_istore (lv' := [(9, .int (nI (S 3 i))), (8, .int (nI 1)), (2, .long (mxL (dgK S (dgG S (dg0 S) (S 0 0)) i) ((nI (S 2 i)).toInt64))), (7, .int (nI 4)), (6, .ref q179), (5, .ref q179), (0, .ref (u 0)), (4, .int (nI i))]) F.1 F.2.1 dX4_digest_247 hl (by decide) rfl (fun ls hl => ?_)
                                    refine lv_lload_n F.1 F.2.1 dX4_digest_249 rfl (lv_at hl 2 rfl) ?_
                                    refine lv_ldc2 (v := 31) F.1 F.2.1 F.2.2.2.1 (F.2.2.2.2 _ (List.mem_of_getElem? (i := 8) rfl)) dX4_digest_250 ?_
                                    refine lv_lmul F.1 F.2.1 dX4_digest_253 ?_
                                    refine lv_iload F.1 F.2.1 dX4_digest_254 (lv_at hl 0 rfl) ?_
                                    refine lv_i2l (v := (nI (S 3 i)).toInt64) F.1 F.2.1 dX4_digest_256 rfl ?_
                                    refine lv_ladd F.1 F.2.1 dX4_digest_257 ?_
                                    refine lv_lstore_n (lv' := [(2, .long (mxL (mxL (dgK S (dgG S (dg0 S) (S 0 0)) i) ((nI (S 2 i)).toInt64)) ((nI (S 3 i)).toInt64))), (9, .int (nI (S 3 i))), (8, .int (nI 1)), (7, .int (nI 4)), (6, .ref q179), (5, .ref q179), (0, .ref (u 0)), (4, .int (nI i))]) F.1 F.2.1 dX4_digest_258 rfl hl (by decide) rfl (fun ls hl => ?_)
                                    refine k_inc (k := 2) (lv' := [(8, .int (nI 2)), (2, .long (mxL (mxL (dgK S (dgG S (dg0 S) (S 0 0)) i) ((nI (S 2 i)).toInt64)) ((nI (S 3 i)).toInt64))), (9, .int (nI (S 3 i))), (7, .int (nI 4)), (6, .ref q179), (5, .ref q179), (0, .ref (u 0)), (4, .int (nI i))]) F dX4_digest_259 hl rfl (by decide) rfl (fun ls hl => ?_)
                                    refine lv_goto (tgt := 235) F.1 F.2.1 dX4_digest_262 (by decide) ?_
                                    refine lv_iload F.1 F.2.1 dX4_digest_235 (lv_at hl 0 rfl) ?_
                                    refine lv_iload F.1 F.2.1 dX4_digest_237 (lv_at hl 3 rfl) ?_
                                    refine k_icmp_ge (tgt := 265) F (by omega) (by omega) dX4_digest_239 (by decide) (fun h239 => ?_) (fun h239 => ?_)
                                    · skip
                                      exact absurd h239 (by decide)
                                    · skip
                                      refine lv_aload F.1 F.2.1 dX4_digest_242 (lv_at hl 4 rfl) ?_
                                      refine lv_iload F.1 F.2.1 dX4_digest_244 (lv_at hl 0 rfl) ?_
                                      refine k_ialx (k := 2) (v := nI (S 4 i)) F hK.1 hP 6 0 rfl rfl (by decide) (by decide) ((u_ne (by decide)).trans u_eq) dX4_digest_246 ?_
                                      refine lv_istore (lv' := [(9, .int (nI (S 4 i))), (8, .int (nI 2)), (2, .long (mxL (mxL (dgK S (dgG S (dg0 S) (S 0 0)) i) ((nI (S 2 i)).toInt64)) ((nI (S 3 i)).toInt64))), (7, .int (nI 4)), (6, .ref q179), (5, .ref q179), (0, .ref (u 0)), (4, .int (nI i))]) F.1 F.2.1 dX4_digest_247 hl (by decide) rfl (fun ls hl => ?_)
                                      refine lv_lload_n F.1 F.2.1 dX4_digest_249 rfl (lv_at hl 2 rfl) ?_
                                      refine lv_ldc2 (v := 31) F.1 F.2.1 F.2.2.2.1 (F.2.2.2.2 _ (List.mem_of_getElem? (i := 8) rfl)) dX4_digest_250 ?_
                                      refine lv_lmul F.1 F.2.1 dX4_digest_253 ?_
                                      refine lv_iload F.1 F.2.1 dX4_digest_254 (lv_at hl 0 rfl) ?_
                                      refine lv_i2l (v := (nI (S 4 i)).toInt64) F.1 F.2.1 dX4_digest_256 rfl ?_
                                      refine lv_ladd F.1 F.2.1 dX4_digest_257 ?_
                                      refine lv_lstore_n (lv' := [(2, .long (mxL (mxL (mxL (dgK S (dgG S (dg0 S) (S 0 0)) i) ((nI (S 2 i)).toInt64)) ((nI (S 3 i)).toInt64)) ((nI (S 4 i)).toInt64))), (9, .int (nI (S 4 i))), (8, .int (nI 2)), (7, .int (nI 4)), (6, .ref q179), (5, .ref q179), (0, .ref (u 0)), (4, .int (nI i))]) F.1 F.2.1 dX4_digest_258 rfl hl (by decide) rfl (fun ls hl => ?_)
                                      refine k_inc (k := 2) (lv' := [(8, .int (nI 3)), (2, .long (mxL (mxL (mxL (dgK S (dgG S (dg0 S) (S 0 0)) i) ((nI (S 2 i)).toInt64)) ((nI (S 3 i)).toInt64)) ((nI (S 4 i)).toInt64))), (9, .int (nI (S 4 i))), (7, .int (nI 4)), (6, .ref q179), (5, .ref q179), (0, .ref (u 0)), (4, .int (nI i))]) F dX4_digest_259 hl rfl (by decide) rfl (fun ls hl => ?_)
                                      refine lv_goto (tgt := 235) F.1 F.2.1 dX4_digest_262 (by decide) ?_
                                      refine lv_iload F.1 F.2.1 dX4_digest_235 (lv_at hl 0 rfl) ?_
                                      refine lv_iload F.1 F.2.1 dX4_digest_237 (lv_at hl 3 rfl) ?_
                                      refine k_icmp_ge (tgt := 265) F (by omega) (by omega) dX4_digest_239 (by decide) (fun h239 => ?_) (fun h239 => ?_)
                                      · skip
                                        exact absurd h239 (by decide)
                                      · skip
                                        refine lv_aload F.1 F.2.1 dX4_digest_242 (lv_at hl 4 rfl) ?_
                                        refine lv_iload F.1 F.2.1 dX4_digest_244 (lv_at hl 0 rfl) ?_
                                        refine k_ialx (k := 3) (v := nI (S 5 i)) F hK.1 hP 6 0 rfl rfl (by decide) (by decide) u_eq dX4_digest_246 ?_
                                        refine lv_istore (lv' := [(9, .int (nI (S 5 i))), (8, .int (nI 3)), (2, .long (mxL (mxL (mxL (dgK S (dgG S (dg0 S) (S 0 0)) i) ((nI (S 2 i)).toInt64)) ((nI (S 3 i)).toInt64)) ((nI (S 4 i)).toInt64))), (7, .int (nI 4)), (6, .ref q179), (5, .ref q179), (0, .ref (u 0)), (4, .int (nI i))]) F.1 F.2.1 dX4_digest_247 hl (by decide) rfl (fun ls hl => ?_)
                                        refine lv_lload_n F.1 F.2.1 dX4_digest_249 rfl (lv_at hl 2 rfl) ?_
                                        refine lv_ldc2 (v := 31) F.1 F.2.1 F.2.2.2.1 (F.2.2.2.2 _ (List.mem_of_getElem? (i := 8) rfl)) dX4_digest_250 ?_
                                        refine lv_lmul F.1 F.2.1 dX4_digest_253 ?_
                                        refine lv_iload F.1 F.2.1 dX4_digest_254 (lv_at hl 0 rfl) ?_
                                        refine lv_i2l (v := (nI (S 5 i)).toInt64) F.1 F.2.1 dX4_digest_256 rfl ?_
                                        refine lv_ladd F.1 F.2.1 dX4_digest_257 ?_
                                        refine lv_lstore_n (lv' := [(2, .long (mxL (mxL (mxL (mxL (dgK S (dgG S (dg0 S) (S 0 0)) i) ((nI (S 2 i)).toInt64)) ((nI (S 3 i)).toInt64)) ((nI (S 4 i)).toInt64)) ((nI (S 5 i)).toInt64))), (9, .int (nI (S 5 i))), (8, .int (nI 3)), (7, .int (nI 4)), (6, .ref q179), (5, .ref q179), (0, .ref (u 0)), (4, .int (nI i))]) F.1 F.2.1 dX4_digest_258 rfl hl (by decide) rfl (fun ls hl => ?_)
                                        refine k_inc (k := 2) (lv' := [(8, .int (nI 4)), (2, .long (mxL (mxL (mxL (mxL (dgK S (dgG S (dg0 S) (S 0 0)) i) ((nI (S 2 i)).toInt64)) ((nI (S 3 i)).toInt64)) ((nI (S 4 i)).toInt64)) ((nI (S 5 i)).toInt64))), (9, .int (nI (S 5 i))), (7, .int (nI 4)), (6, .ref q179), (5, .ref q179), (0, .ref (u 0)), (4, .int (nI i))]) F dX4_digest_259 hl rfl (by decide) rfl (fun ls hl => ?_)
                                        refine lv_goto (tgt := 235) F.1 F.2.1 dX4_digest_262 (by decide) ?_
                                        refine lv_iload F.1 F.2.1 dX4_digest_235 (lv_at hl 0 rfl) ?_
                                        refine lv_iload F.1 F.2.1 dX4_digest_237 (lv_at hl 3 rfl) ?_
                                        refine k_icmp_ge (tgt := 265) F (by omega) (by omega) dX4_digest_239 (by decide) (fun h239 => ?_) (fun h239 => ?_)
                                        · skip
                                          refine k_inc (k := 7) (lv' := [(4, .int (nI (i + 1))), (8, .int (nI 4)), (2, .long (mxL (mxL (mxL (mxL (dgK S (dgG S (dg0 S) (S 0 0)) i) ((nI (S 2 i)).toInt64)) ((nI (S 3 i)).toInt64)) ((nI (S 4 i)).toInt64)) ((nI (S 5 i)).toInt64))), (9, .int (nI (S 5 i))), (7, .int (nI 4)), (6, .ref q179), (5, .ref q179), (0, .ref (u 0))]) F dX4_digest_265 hl rfl (by decide) rfl (fun ls hl => ?_)
                                          refine lv_goto (tgt := 169) F.1 F.2.1 dX4_digest_268 (by decide) ?_
                                          have e_4 : (mxL (mxL (mxL (mxL (dgK S (dgG S (dg0 S) (S 0 0)) i) ((nI (S 2 i)).toInt64)) ((nI (S 3 i)).toInt64)) ((nI (S 4 i)).toInt64)) ((nI (S 5 i)).toInt64)) = (dgK S (dgG S (dg0 S) (S 0 0)) (i + 1)) := rfl
                                          rw [e_4] at hl
                                          have hP := P_pre hP
                                          have hD := D_pre hD
                                          exact ih169 (i + 1) (by omega) (by omega)  (ce169 + 1) (sl169 + 4) (by omega) (by omega) _ _ _ hP hD hS (lv_sub hl [7, 2, 0] rfl)
                                        · skip
                                          exact absurd h239 (by decide)
                          have e_5 : (dgG S (dg0 S) i) = (dgK S (dgG S (dg0 S) (S 0 0)) 0) := (by rw [show i = S 0 0 by omega]; rfl)
                          rw [e_5] at hl
                          exact loop169 ((S 0 1) + 1) 0 (by omega) (by omega)  (0 + 1) (0 + 8) (by omega) (by omega) _ _ _ hP hD hS (lv_sub hl [1, 2, 0] rfl)
                        · skip
                          refine lv_lload_n F.1 F.2.1 dX4_digest_131 rfl (lv_at hl 1 rfl) ?_
                          refine lv_ldc2 (v := 31) F.1 F.2.1 F.2.2.2.1 (F.2.2.2.2 _ (List.mem_of_getElem? (i := 8) rfl)) dX4_digest_132 ?_
                          refine lv_lmul F.1 F.2.1 dX4_digest_135 ?_
                          refine lv_aload_n F.1 F.2.1 dX4_digest_136 rfl (lv_at hl 0 rfl) ?_
                          refine k_get (v := .ref (u 1)) F nX4_digest_X4 hK.1 hP 0 rfl rfl 4 (by decide) (List.mem_of_getElem? (i := 9) rfl) rfl dX4_digest_137 ?_
                          refine lv_iload F.1 F.2.1 dX4_digest_140 (lv_at hl 2 rfl) ?_
                          refine k_iald (f := S 1) (n := 6) F hK.1 hP 1 0 rfl rfl (by omega) (by decide) dX4_digest_142 ?_
                          refine lv_i2l (v := (nI (S 1 i)).toInt64) F.1 F.2.1 dX4_digest_143 rfl ?_
                          refine lv_ladd F.1 F.2.1 dX4_digest_144 ?_
                          refine lv_lstore_n (lv' := [(2, .long (mxL (dgG S (dg0 S) i) ((nI (S 1 i)).toInt64))), (0, .ref (u 0)), (4, .int (nI i))]) F.1 F.2.1 dX4_digest_145 rfl hl (by decide) rfl (fun ls hl => ?_)
                          refine lv_lload_n F.1 F.2.1 dX4_digest_146 rfl (lv_at hl 0 rfl) ?_
                          refine lv_ldc2 (v := 31) F.1 F.2.1 F.2.2.2.1 (F.2.2.2.2 _ (List.mem_of_getElem? (i := 8) rfl)) dX4_digest_147 ?_
                          refine lv_lmul F.1 F.2.1 dX4_digest_150 ?_
                          refine lv_aload_n F.1 F.2.1 dX4_digest_151 rfl (lv_at hl 1 rfl) ?_
                          refine lv_iload F.1 F.2.1 dX4_digest_152 (lv_at hl 2 rfl) ?_
                          refine k_pV (n := 1) (rest := [.long ((mxL (dgG S (dg0 S) i) ((nI (S 1 i)).toInt64)) * 31)]) (v := nI (cntN S i (S 0 1))) F (c_X4_awake l D cI u S (nI 0) K i hI (by first | assumption | omega)) gX4_digest_X4_awake rfl (by decide +kernel) ⟨Nat.le_of_ble_eq_true rfl, Nat.le_of_ble_eq_true rfl⟩ rfl hl.1 rfl (Nat.le_of_ble_eq_true rfl) dX4_digest_154 ⟨show 0 + 1 ≤ 25 by omega, show 0 + 8 ≤ 200 by omega⟩ hK hP hS [0, 1, 2, 3, 4, 5] rfl (q0 := 0) (ci := 4) rfl rfl (fun H locs hP hS => ?_)
                          refine lv_i2l (v := (nI (cntN S i (S 0 1))).toInt64) F.1 F.2.1 dX4_digest_157 rfl ?_
                          refine lv_ladd F.1 F.2.1 dX4_digest_158 ?_
                          refine lv_lstore_n (lv' := [(2, .long (mxL (mxL (dgG S (dg0 S) i) ((nI (S 1 i)).toInt64)) ((nI (cntN S i (S 0 1))).toInt64))), (0, .ref (u 0)), (4, .int (nI i))]) F.1 F.2.1 dX4_digest_159 rfl hl (by decide) rfl (fun ls hl => ?_)
                          refine k_inc (k := 2) (lv' := [(4, .int (nI (i + 1))), (2, .long (mxL (mxL (dgG S (dg0 S) i) ((nI (S 1 i)).toInt64)) ((nI (cntN S i (S 0 1))).toInt64))), (0, .ref (u 0))]) F dX4_digest_160 hl rfl (by decide) rfl (fun ls hl => ?_)
                          refine lv_goto (tgt := 122) F.1 F.2.1 dX4_digest_163 (by decide) ?_
                          have e_6 : (mxL (mxL (dgG S (dg0 S) i) ((nI (S 1 i)).toInt64)) ((nI (cntN S i (S 0 1))).toInt64)) = (dgG S (dg0 S) (i + 1)) := rfl
                          rw [e_6] at hl
                          exact ih122 (i + 1) (by omega) (by omega)  _ _ _ hP hD hS (lv_sub hl [2, 1, 0] rfl)
                    have e_7 : (mxL (mxL (mxL (mxL (mxL (mxL (mxL (mxL 1973 ((nI (S 0 3)).toInt64)) ((nI (S 0 0)).toInt64)) ((nI (S 0 1)).toInt64)) ((nI (S 0 2)).toInt64)) ((nI (inN S (S 0 2))).toInt64)) ((nI (S 0 4)).toInt64)) ((nI (S 0 5)).toInt64)) ((oI (ldN S (S 0 0)).1).toInt64)) = (dgG S (dg0 S) 0) := rfl
                    rw [e_7] at hl
                    have hP := P_pre hP
                    have hD := D_pre hD
                    exact loop122 ((S 0 0) + 1) 0 (by omega) (by omega)  _ _ _ hP hD hS (lv_sub hl [6, 2, 0] rfl)
                  · skip
                    exact absurd h93 (by decide)
