/-! the law's switch and its loop -/
def lcPC (k : Nat) : Nat := [212, 268, 336, 416, 484, 552, 620, 688, 744, 757, 770, 783, 796, 809, 822, 835, 891, 947, 1015, 1028, 1084, 1140, 1196, 1252, 1308, 1371, 1427, 1483, 1539, 1595, 1651, 1714, 1770, 1826, 1882, 1938, 1994, 2050, 2118, 2159].getD k 0
theorem lc_offs : ∀ k, k < 40 → (#[173, 229, 297, 377, 445, 513, 581, 649, 705, 718, 731, 744, 757, 770, 783, 796, 852, 908, 976, 989, 1045, 1101, 1157, 1213, 1269, 1332, 1388, 1444, 1500, 1556, 1612, 1675, 1731, 1787, 1843, 1899, 1955, 2011, 2079, 2120] : Array Int)[k]? = some ((lcPC k : Int) - 39) := by decide
theorem len_gt {L i : Nat} (hL : L ≤ 2048) (hi : i ≤ 2048) : (nI L - nI 4 < nI i) ↔ ¬ i + 4 ≤ L := by
  rw [Int32.lt_iff_toInt_lt, pk_sub_toInt (by omega) (by omega), nI_toInt (by omega)]
  omega
theorem inv_S0 : Inv S0 := by simp [Inv, S0]
section
variable {p : Program} {l : Launch} {e : Env} {s : State} {m : MethodId} {args : Array Value} {below : List Frame} {meth : Method} {c : Code} {H : Heap} {locs : List Loc} {cells slots : Nat} {Q : State → Prop}
variable {ls : Array Slot} {D : va_G} {A0 : Nat → Prop} {cI cL : ClassId} {u a b : Nat → Nat} {o x L : Nat} {xs : Nat → Int32} {S : Nat → Nat → Nat} {th : Int32} {K : Nat → Nat} {S2 : Nat → Nat → Nat} {f : Nat → Int64}
/-- the case that the switch comes to -/
theorem l_case (F : LF p s m c args) (X : LX l s D A0 cI cL x L xs) {i : Nat} (hi : i + 4 ≤ L) (hc : cells + 149 ≤ 601024) (hs : slots + 944 ≤ 7293033) (G : LG s D A0 cI cL u o a b x i S th K S2 f H locs ls) (N : LN p l e s m args below meth c Q D A0 cI cL u o a b x i cells slots) : ∀ k, k < 40 → W p l e room_1 s m args below meth c H locs cells slots Q (F0 m (lcPC k) ls [])
  | 0, _ => lc_0 F X hi hc hs G N
  | 1, _ => lc_1 F X hi hc hs G N
  | 2, _ => lc_2 F X hi hc hs G N
  | 3, _ => lc_3 F X hi hc hs G N
  | 4, _ => lc_4 F X hi hc hs G N
  | 5, _ => lc_5 F X hi hc hs G N
  | 6, _ => lc_6 F X hi hc hs G N
  | 7, _ => lc_7 F X hi hc hs G N
  | 8, _ => lc_8 F X hi hc hs G N
  | 9, _ => lc_9 F X hi hc hs G N
  | 10, _ => lc_10 F X hi hc hs G N
  | 11, _ => lc_11 F X hi hc hs G N
  | 12, _ => lc_12 F X hi hc hs G N
  | 13, _ => lc_13 F X hi hc hs G N
  | 14, _ => lc_14 F X hi hc hs G N
  | 15, _ => lc_15 F X hi hc hs G N
  | 16, _ => lc_16 F X hi hc hs G N
  | 17, _ => lc_17 F X hi hc hs G N
  | 18, _ => lc_18 F X hi hc hs G N
  | 19, _ => lc_19 F X hi hc hs G N
  | 20, _ => lc_20 F X hi hc hs G N
  | 21, _ => lc_21 F X hi hc hs G N
  | 22, _ => lc_22 F X hi hc hs G N
  | 23, _ => lc_23 F X hi hc hs G N
  | 24, _ => lc_24 F X hi hc hs G N
  | 25, _ => lc_25 F X hi hc hs G N
  | 26, _ => lc_26 F X hi hc hs G N
  | 27, _ => lc_27 F X hi hc hs G N
  | 28, _ => lc_28 F X hi hc hs G N
  | 29, _ => lc_29 F X hi hc hs G N
  | 30, _ => lc_30 F X hi hc hs G N
  | 31, _ => lc_31 F X hi hc hs G N
  | 32, _ => lc_32 F X hi hc hs G N
  | 33, _ => lc_33 F X hi hc hs G N
  | 34, _ => lc_34 F X hi hc hs G N
  | 35, _ => lc_35 F X hi hc hs G N
  | 36, _ => lc_36 F X hi hc hs G N
  | 37, _ => lc_37 F X hi hc hs G N
  | 38, _ => lc_38 F X hi hc hs G N
  | 39, _ => lc_39 F X hi hc hs G N
  | k + 40, h => absurd h (by omega)
theorem l_body (F : LF p s m c args) (X : LX l s D A0 cI cL x L xs) {i : Nat} (hi : i + 4 ≤ L) (hc : cells + 149 ≤ 601024) (hs : slots + 944 ≤ 7293033) (G : LG s D A0 cI cL u o a b x i S th K S2 f H locs ls) (N : LN p l e s m args below meth c Q D A0 cI cL u o a b x i cells slots) : W p l e room_1 s m args below meth c H locs cells slots Q (F0 m 32 ls []) := by
  have G0 := G
  obtain ⟨hI, hP, hD, hS, hl⟩ := G
  refine w_rd0 F X (by omega) hS 1 0 hl rfl rfl dL_law_32 dL_law_33 dL_law_35 ?_
  refine lv_bipush (v := nI 63) F.1 F.2.1 dL_law_36 (by decide) ?_
  refine lv_iand F.1 F.2.1 dL_law_38 ?_
  generalize xs i &&& nI 63 = v
  by_cases h : v.toInt < 0 ∨ 39 < v.toInt
  · refine lv_tableOut (tgt := 2173) F.1 F.2.1 dL_law_39 h (by decide) ?_
    exact W.widen (by omega) (by omega) (N S th K S2 f H locs ls ⟨hI, hP, hD, hS, hl⟩)
  · have h1 : ¬ v.toInt < 0 := fun q => h (Or.inl q)
    have h2 : ¬ 39 < v.toInt := fun q => h (Or.inr q)
    have hk : v.toInt.toNat < 40 := by omega
    refine lv_tableIn (off := (lcPC v.toInt.toNat : Int) - 39) (tgt := lcPC v.toInt.toNat) F.1 F.2.1 dL_law_39 h1 h2 ?_ (by omega) ?_
    · rw [show (v.toInt - 0).toNat = v.toInt.toNat by omega]
      exact lc_offs _ hk
    · exact l_case F X hi hc hs G0 N _ hk
set_option maxRecDepth 100000 in
theorem l_loop (F : LF p s m c args) (X : LX l s D A0 cI cL x L xs) (kx : ∀ (H : Heap) (locs : List Loc) (ls : Array Slot), va_S A0 s.heap H locs → W p l e room_1 s m args below meth c H locs 601024 7293033 Q (F0 m 2179 ls [])) : ∀ (n i cells slots : Nat), i ≤ 2048 → L < i + 4 * n + 4 → cells + 149 * n ≤ 601024 → slots + 944 * n ≤ 7293033 → ∀ (S : Nat → Nat → Nat) (th : Int32) (K : Nat → Nat) (S2 : Nat → Nat → Nat) (f : Nat → Int64) (H : Heap) (locs : List Loc) (ls : Array Slot), LG s D A0 cI cL u o a b x i S th K S2 f H locs ls → W p l e room_1 s m args below meth c H locs cells slots Q (F0 m 23 ls []) := by
  intro n
  induction n with
  | zero =>
    intro i cells slots hi hn hc hs S th K S2 f H locs ls G
    obtain ⟨hI, hP, hD, hS, hl⟩ := G
    obtain ⟨-, -, -, -, -, -, hX, hxl, hxA, hL⟩ := id X
    refine lv_iload F.1 F.2.1 dL_law_23 (lv_at hl 0 rfl) ?_
    refine lv_aload_n F.1 F.2.1 dL_law_25 rfl (lv_at hl 1 rfl) ?_
    refine va_slen F.1 F.2.1 hX hxl hxA hS dL_law_26 ?_
    refine lv_iconst (v := nI 4) F.1 F.2.1 dL_law_27 (by decide) ?_
    refine lv_isub F.1 F.2.1 dL_law_28 ?_
    refine lv_icmp_gt (tgt := 2179) F.1 F.2.1 dL_law_29 (by decide) (fun h => ?_) (fun h => absurd ((len_gt hL hi).mpr (by omega)) h)
    exact W.widen (by omega) (by omega) (kx H locs ls hS)
  | succ n ih =>
    intro i cells slots hi hn hc hs S th K S2 f H locs ls G
    have G0 := G
    obtain ⟨hI, hP, hD, hS, hl⟩ := G
    obtain ⟨-, -, -, -, -, -, hX, hxl, hxA, hL⟩ := id X
    refine lv_iload F.1 F.2.1 dL_law_23 (lv_at hl 0 rfl) ?_
    refine lv_aload_n F.1 F.2.1 dL_law_25 rfl (lv_at hl 1 rfl) ?_
    refine va_slen F.1 F.2.1 hX hxl hxA hS dL_law_26 ?_
    refine lv_iconst (v := nI 4) F.1 F.2.1 dL_law_27 (by decide) ?_
    refine lv_isub F.1 F.2.1 dL_law_28 ?_
    refine lv_icmp_gt (tgt := 2179) F.1 F.2.1 dL_law_29 (by decide) (fun h => ?_) (fun h => ?_)
    · exact W.widen (by omega) (by omega) (kx H locs ls hS)
    · have hi4 : i + 4 ≤ L := Decidable.byContradiction fun q => h ((len_gt hL hi).mpr q)
      have hc1 : cells + 149 ≤ 601024 := by omega
      have hs1 : slots + 944 ≤ 7293033 := by omega
      refine l_body F X hi4 hc1 hs1 G0 ?_
      intro S th K S2 f H locs ls G
      obtain ⟨hI, hP, hD, hS, hl⟩ := G
      refine lv_iinc (k := 0) (v := nI (i + 4)) (lv' := [(4, .int (nI (i + 4))), (0, .ref x), (1, .ref (a 13)), (2, .ref (u 0)), (3, .ref o)]) F.1 F.2.1 dL_law_2173 hl rfl (by rw [show Int32.ofInt 4 = nI 4 by decide, nI_add]) (by decide) rfl (fun ls hl => ?_)
      refine lv_goto (tgt := 23) F.1 F.2.1 dL_law_2176 (by decide) ?_
      exact ih (i + 4) (cells + 149) (slots + 944) (by omega) (by omega) (by omega) (by omega) S th K S2 f H locs ls ⟨hI, hP, hD, hS, hl⟩
end
