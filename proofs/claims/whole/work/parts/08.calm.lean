theorem remN_mono {S : Nat → Nat → Nat} {t x m g n : Nat} (hg : g < n) : remN S t x m (g + 1) n ≤ remN S t x m g n := by
  by_cases c : S 3 g = m ∧ awk S g t
  · have := remN_step (x := x) c.1 c.2 n hg
    omega
  · exact Nat.le_of_eq (remN_same c n)
theorem cal_rem {S : Nat → Nat → Nat} {w t x m : Nat} {p : Nat × Nat} {g n : Nat} (hg : g < n) (h : remN S t x m g n ≤ (calI S w t x m p g).1) : remN S t x m (g + 1) n ≤ (calI S w t x m p (g + 1)).1 := by
  simp only [calI]
  split
  · rename_i q
    have := remN_step (x := x) q.2.1 q.2.2 n hg
    show _ ≤ _ - _
    omega
  · exact Nat.le_trans (remN_mono hg) h
theorem cal_out {S : Nat → Nat → Nat} {w t x h n j : Nat} (hj : j < 9) (hr2 : remN S t x (9 - j) n n ≤ (calI S w t x (9 - j) (calO S w t x h n j) n).1) : remN S t x (9 - (j + 1)) 0 n ≤ (calO S w t x h n (j + 1)).1 := by
  have e8 := remN_low (S := S) (t := t) (x := x) (m := 9 - (j + 1)) (g := n) n (Nat.le_refl _)
  rw [show 9 - (j + 1) + 1 = 9 - j by omega] at e8
  rw [← e8]
  exact hr2
theorem nX0_fewestToCalm_X0 : ∀ x ∈ wsX00, x ∈ wsX0_fewestToCalm := fun _ h => List.mem_cons_of_mem _ (List.mem_append_left _ (List.mem_append_left _ (List.mem_append_right _ h)))
theorem nX0_fewestToCalm_X1 : ∀ x ∈ wsX10, x ∈ wsX0_fewestToCalm := fun _ h => List.mem_cons_of_mem _ (List.mem_append_right _ h)
theorem nX0_fewestToCalm_X2 : ∀ x ∈ wsX20, x ∈ wsX0_fewestToCalm := fun _ h => List.mem_cons_of_mem _ (List.mem_append_left _ (List.mem_append_right _ h))
set_option maxRecDepth 100000 in
set_option maxHeartbeats 4000000 in
theorem c_X0_fewestToCalm (l : Launch) (D : va_G) (cI : ClassId) (a : Nat → Nat) (S : Nat → Nat → Nat) (v : Nat) (hI : Inv S) (hv : v < 8) : PI l yX0_fewestToCalm wsX0_fewestToCalm 4 89 D [(cI, .int)] [.ref (a 0), .int (nI v)] (wFa cI a S) (nI (calmN S v)) := by
  refine k_bodyP (cc := cX0_fewestToCalm) (maxL := 8) (ret := (some .int)) (by decide) rfl (Nat.le_of_ble_eq_true rfl) ?_
  intro p e s m args below meth c H ls F hr hlk hl hP hK hS
  have F : CallFix p m c cX0_fewestToCalm 8 s args wsX0_fewestToCalm RX0 := F
  have hl : lv_has ls 8 [(0, .ref (a 0)), (1, .int (nI v))] := hl
  have hi0 := hI.gates
  have hi1 := hI.geese
  have hi2 := hI.guests
  have hh9 := hisG_le hI (S 7 v) (S 6 v)
  have hw9 := hI.went v
  have ho9 := hI.own v
  have hb9 := hI.brave v
  have hl9 := lackN_le hI (S 7 v) (S 6 v)
  refine lv_aload_n F.1 F.2.1 dX0_fewestToCalm_0 rfl (lv_at hl 0 rfl) ?_
  refine k_get (v := .ref (a 7)) F nX0_fewestToCalm_X0 hK.1 hP 0 rfl rfl 3 (by decide) (List.mem_of_getElem? (i := 1) rfl) rfl dX0_fewestToCalm_1 ?_
  refine k_get (v := .ref (a 11)) F nX0_fewestToCalm_X2 hK.1 hP 7 rfl rfl 4 (by decide) (List.mem_of_getElem? (i := 2) rfl) rfl dX0_fewestToCalm_4 ?_
  refine lv_iload_n F.1 F.2.1 dX0_fewestToCalm_7 rfl (lv_at hl 1 rfl) ?_
  refine k_iald (f := S 7) (n := 8) F hK.1 hP 11 0 rfl rfl (by omega) (by decide) dX0_fewestToCalm_8 ?_
  have := hI.went v
  refine lv_istore_n (lv' := [(2, .int (nI (S 7 v))), (0, .ref (a 0)), (1, .int (nI v))]) F.1 F.2.1 dX0_fewestToCalm_9 rfl hl (by decide) rfl (fun ls hl => ?_)
  refine lv_aload_n F.1 F.2.1 dX0_fewestToCalm_10 rfl (lv_at hl 1 rfl) ?_
  refine lv_iload_n F.1 F.2.1 dX0_fewestToCalm_11 rfl (lv_at hl 0 rfl) ?_
  refine lv_aload_n F.1 F.2.1 dX0_fewestToCalm_12 rfl (lv_at hl 1 rfl) ?_
  refine k_get (v := .ref (a 7)) F nX0_fewestToCalm_X0 hK.1 hP 0 rfl rfl 3 (by decide) (List.mem_of_getElem? (i := 1) rfl) rfl dX0_fewestToCalm_13 ?_
  refine k_get (v := .ref (a 8)) F nX0_fewestToCalm_X2 hK.1 hP 7 rfl rfl 1 (by decide) (List.mem_of_getElem? (i := 3) rfl) rfl dX0_fewestToCalm_16 ?_
  refine lv_iload_n F.1 F.2.1 dX0_fewestToCalm_19 rfl (lv_at hl 2 rfl) ?_
  refine k_iald (f := S 6) (n := 8) F hK.1 hP 8 0 rfl rfl (by omega) (by decide) dX0_fewestToCalm_20 ?_
  have := hI.own v
  refine k_pV (n := 2) (rest := []) (v := nI (lackN S (S 7 v) (S 6 v))) F (c_X0_rankLack l D cI a S (S 7 v) (S 6 v) hI (by first | assumption | omega) (by first | assumption | omega)) gX0_fewestToCalm_X0_rankLack rfl (by decide +kernel) ⟨Nat.le_of_ble_eq_true rfl, Nat.le_of_ble_eq_true rfl⟩ rfl hl.1 rfl (Nat.le_of_ble_eq_true rfl) dX0_fewestToCalm_21 ⟨Nat.zero_le _, Nat.zero_le _⟩ hK hP hS [0, 1, 2, 3, 4, 5, 6, 7, 8, 9, 10, 11, 12] rfl (q0 := 0) (ci := 0) rfl rfl (fun H locs hP hS => ?_)
  refine lv_istore_n (lv' := [(3, .int (nI (lackN S (S 7 v) (S 6 v)))), (2, .int (nI (S 7 v))), (0, .ref (a 0)), (1, .int (nI v))]) F.1 F.2.1 dX0_fewestToCalm_24 rfl hl (by decide) rfl (fun ls hl => ?_)
  refine lv_aload_n F.1 F.2.1 dX0_fewestToCalm_25 rfl (lv_at hl 2 rfl) ?_
  refine lv_iload_n F.1 F.2.1 dX0_fewestToCalm_26 rfl (lv_at hl 3 rfl) ?_
  refine k_pV (n := 1) (rest := []) (v := nI (hisG S (S 7 v) (S 6 v))) F (c_X0_guestHiss l D cI a S v hI (by first | assumption | omega)) gX0_fewestToCalm_X0_guestHiss rfl (by decide +kernel) ⟨Nat.le_of_ble_eq_true rfl, Nat.le_of_ble_eq_true rfl⟩ rfl hl.1 rfl (Nat.le_of_ble_eq_true rfl) dX0_fewestToCalm_27 ⟨Nat.zero_le _, Nat.zero_le _⟩ hK hP hS [0, 1, 2, 3, 4, 5, 6, 7, 8, 9, 10, 11, 12] rfl (q0 := 0) (ci := 0) rfl rfl (fun H locs hP hS => ?_)
  refine lv_istore (lv' := [(4, .int (nI (hisG S (S 7 v) (S 6 v)))), (3, .int (nI (lackN S (S 7 v) (S 6 v)))), (2, .int (nI (S 7 v))), (0, .ref (a 0)), (1, .int (nI v))]) F.1 F.2.1 dX0_fewestToCalm_30 hl (by decide) rfl (fun ls hl => ?_)
  refine lv_iconst (v := nI 0) F.1 F.2.1 dX0_fewestToCalm_32 (by decide) ?_
  refine lv_istore (lv' := [(5, .int (nI 0)), (4, .int (nI (hisG S (S 7 v) (S 6 v)))), (3, .int (nI (lackN S (S 7 v) (S 6 v)))), (2, .int (nI (S 7 v))), (0, .ref (a 0)), (1, .int (nI v))]) F.1 F.2.1 dX0_fewestToCalm_33 hl (by decide) rfl (fun ls hl => ?_)
  refine lv_bipush (v := nI 9) F.1 F.2.1 dX0_fewestToCalm_35 (by decide) ?_
  refine lv_istore (lv' := [(6, .int (nI 9)), (5, .int (nI 0)), (4, .int (nI (hisG S (S 7 v) (S 6 v)))), (3, .int (nI (lackN S (S 7 v) (S 6 v)))), (2, .int (nI (S 7 v))), (0, .ref (a 0)), (1, .int (nI v))]) F.1 F.2.1 dX0_fewestToCalm_37 hl (by decide) rfl (fun ls hl => ?_)
  have loop39 : ∀ (n : Nat) (j : Nat), j ≤ 9 → 9 + 1 ≤ j + n → (remN S (S 7 v) (lackN S (S 7 v) (S 6 v)) (9 - j) 0 (S 0 1) ≤ (calO S (S 9 v) (S 7 v) (lackN S (S 7 v) (S 6 v)) (hisG S (S 7 v) (S 6 v)) (S 0 1) j).1) → ((calO S (S 9 v) (S 7 v) (lackN S (S 7 v) (S 6 v)) (hisG S (S 7 v) (S 6 v)) (S 0 1) j).1 ≤ 144) → ∀ (H : Heap) (locs : List Loc) (ls : Array Slot), va_P D vwCl (wFa cI a S) H → va_S (fun _ => False) s.heap H locs → lv_has ls 8 [(0, .ref (a 0)), (1, .int (nI v)), (2, .int (nI (S 7 v))), (3, .int (nI (lackN S (S 7 v) (S 6 v)))), (4, .int (nI ((calO S (S 9 v) (S 7 v) (lackN S (S 7 v) (S 6 v)) (hisG S (S 7 v) (S 6 v)) (S 0 1) j).1))), (5, .int (nI ((calO S (S 9 v) (S 7 v) (lackN S (S 7 v) (S 6 v)) (hisG S (S 7 v) (S 6 v)) (S 0 1) j).2))), (6, .int (nI (9 - j)))] → W p l e (rmN 4 89) s m args below meth c H locs 0 0 (QPI below args s (nI (calmN S v))) (F0 m 39 ls []) := by
    intro n
    induction n with
    | zero => intro j hi hn; exact absurd hn (by omega)
    | succ n ih39 =>
      intro j hi hn hq1 hu H locs ls hP hS hl
      refine lv_iload F.1 F.2.1 dX0_fewestToCalm_39 (lv_at hl 6 rfl) ?_
      refine lv_iconst (v := nI 1) F.1 F.2.1 dX0_fewestToCalm_41 (by decide) ?_
      refine k_icmp_lt (tgt := 126) F (by omega) (by omega) dX0_fewestToCalm_42 (by decide) (fun h42 => ?_) (fun h42 => ?_)
      · skip
        refine lv_iload F.1 F.2.1 dX0_fewestToCalm_126 (lv_at hl 5 rfl) ?_
        exact k_retP F hr hlk hS (by rw [show j = 9 by omega]; rfl) rfl dX0_fewestToCalm_128
      · skip
        refine lv_iconst (v := nI 0) F.1 F.2.1 dX0_fewestToCalm_45 (by decide) ?_
        refine lv_istore (lv' := [(7, .int (nI 0)), (0, .ref (a 0)), (1, .int (nI v)), (2, .int (nI (S 7 v))), (3, .int (nI (lackN S (S 7 v) (S 6 v)))), (4, .int (nI ((calO S (S 9 v) (S 7 v) (lackN S (S 7 v) (S 6 v)) (hisG S (S 7 v) (S 6 v)) (S 0 1) j).1))), (5, .int (nI ((calO S (S 9 v) (S 7 v) (lackN S (S 7 v) (S 6 v)) (hisG S (S 7 v) (S 6 v)) (S 0 1) j).2))), (6, .int (nI (9 - j)))]) F.1 F.2.1 dX0_fewestToCalm_46 hl (by decide) rfl (fun ls hl => ?_)
        have loop48 : ∀ (n : Nat) (i : Nat), i ≤ S 0 1 → S 0 1 + 1 ≤ i + n → (remN S (S 7 v) (lackN S (S 7 v) (S 6 v)) (9 - j) i (S 0 1) ≤ (calI S (S 9 v) (S 7 v) (lackN S (S 7 v) (S 6 v)) (9 - j) (calO S (S 9 v) (S 7 v) (lackN S (S 7 v) (S 6 v)) (hisG S (S 7 v) (S 6 v)) (S 0 1) j) i).1) → ∀ (H : Heap) (locs : List Loc) (ls : Array Slot), va_P D vwCl (wFa cI a S) H → va_S (fun _ => False) s.heap H locs → lv_has ls 8 [(0, .ref (a 0)), (1, .int (nI v)), (2, .int (nI (S 7 v))), (3, .int (nI (lackN S (S 7 v) (S 6 v)))), (4, .int (nI ((calI S (S 9 v) (S 7 v) (lackN S (S 7 v) (S 6 v)) (9 - j) (calO S (S 9 v) (S 7 v) (lackN S (S 7 v) (S 6 v)) (hisG S (S 7 v) (S 6 v)) (S 0 1) j) i).1))), (5, .int (nI ((calI S (S 9 v) (S 7 v) (lackN S (S 7 v) (S 6 v)) (9 - j) (calO S (S 9 v) (S 7 v) (lackN S (S 7 v) (S 6 v)) (hisG S (S 7 v) (S 6 v)) (S 0 1) j) i).2))), (6, .int (nI (9 - j))), (7, .int (nI i))] → W p l e (rmN 4 89) s m args below meth c H locs 0 0 (QPI below args s (nI (calmN S v))) (F0 m 48 ls []) := by
          intro n
          induction n with
          | zero => intro i hi hn; exact absurd hn (by omega)
          | succ n ih48 =>
            intro i hi hn hr2 H locs ls hP hS hl
            have hu2 := (calI_le S (S 9 v) (S 7 v) (lackN S (S 7 v) (S 6 v)) (9 - j) (calO S (S 9 v) (S 7 v) (lackN S (S 7 v) (S 6 v)) (hisG S (S 7 v) (S 6 v)) (S 0 1) j) i).1
            refine lv_iload F.1 F.2.1 dX0_fewestToCalm_48 (lv_at hl 7 rfl) ?_
            refine lv_aload_n F.1 F.2.1 dX0_fewestToCalm_50 rfl (lv_at hl 0 rfl) ?_
            refine k_get (v := .ref (a 2)) F nX0_fewestToCalm_X0 hK.1 hP 0 rfl rfl 2 (by decide) (List.mem_of_getElem? (i := 4) rfl) rfl dX0_fewestToCalm_51 ?_
            refine k_get (v := .int (nI (S 0 1))) F nX0_fewestToCalm_X1 hK.1 hP 2 rfl rfl 0 (by decide) (List.mem_of_getElem? (i := 5) rfl) rfl dX0_fewestToCalm_54 ?_
            refine k_icmp_ge (tgt := 120) F (by omega) (by omega) dX0_fewestToCalm_57 (by decide) (fun h57 => ?_) (fun h57 => ?_)
            · skip
              refine k_dec (k := 6) (lv' := [(6, .int (nI ((9 - j) - 1))), (0, .ref (a 0)), (1, .int (nI v)), (2, .int (nI (S 7 v))), (3, .int (nI (lackN S (S 7 v) (S 6 v)))), (4, .int (nI ((calI S (S 9 v) (S 7 v) (lackN S (S 7 v) (S 6 v)) (9 - j) (calO S (S 9 v) (S 7 v) (lackN S (S 7 v) (S 6 v)) (hisG S (S 7 v) (S 6 v)) (S 0 1) j) i).1))), (5, .int (nI ((calI S (S 9 v) (S 7 v) (lackN S (S 7 v) (S 6 v)) (9 - j) (calO S (S 9 v) (S 7 v) (lackN S (S 7 v) (S 6 v)) (hisG S (S 7 v) (S 6 v)) (S 0 1) j) i).2))), (7, .int (nI i))]) F (by omega) dX0_fewestToCalm_120 hl rfl (by decide) rfl (fun ls hl => ?_)
              refine lv_goto (tgt := 39) F.1 F.2.1 dX0_fewestToCalm_123 (by decide) ?_
              have e_1 : (calI S (S 9 v) (S 7 v) (lackN S (S 7 v) (S 6 v)) (9 - j) (calO S (S 9 v) (S 7 v) (lackN S (S 7 v) (S 6 v)) (hisG S (S 7 v) (S 6 v)) (S 0 1) j) i).1 = (calO S (S 9 v) (S 7 v) (lackN S (S 7 v) (S 6 v)) (hisG S (S 7 v) (S 6 v)) (S 0 1) (j + 1)).1 := by first | rfl | omega | (rw [show i = S 0 1 by omega]; rfl)
              rw [e_1] at hl
              have e_2 : (calI S (S 9 v) (S 7 v) (lackN S (S 7 v) (S 6 v)) (9 - j) (calO S (S 9 v) (S 7 v) (lackN S (S 7 v) (S 6 v)) (hisG S (S 7 v) (S 6 v)) (S 0 1) j) i).2 = (calO S (S 9 v) (S 7 v) (lackN S (S 7 v) (S 6 v)) (hisG S (S 7 v) (S 6 v)) (S 0 1) (j + 1)).2 := by first | rfl | omega | (rw [show i = S 0 1 by omega]; rfl)
              rw [e_2] at hl
              have e_3 : ((9 - j) - 1) = (9 - (j + 1)) := by first | rfl | omega | (rw [show i = S 0 1 by omega]; rfl)
              rw [e_3] at hl
              have e9 : i = S 0 1 := by omega
              rw [e9] at hr2
              exact ih39 (j + 1) (by omega) (by omega) (cal_out (by omega) hr2) (Nat.le_trans (calI_le _ _ _ _ _ _ _).1 hu) _ _ _ hP hS (lv_sub hl [1, 2, 3, 4, 5, 6, 0] rfl)
            · skip
              refine lv_iload F.1 F.2.1 dX0_fewestToCalm_60 (lv_at hl 4 rfl) ?_
              refine lv_aload_n F.1 F.2.1 dX0_fewestToCalm_62 rfl (lv_at hl 0 rfl) ?_
              refine k_get (v := .ref (a 7)) F nX0_fewestToCalm_X0 hK.1 hP 0 rfl rfl 3 (by decide) (List.mem_of_getElem? (i := 1) rfl) rfl dX0_fewestToCalm_63 ?_
              refine k_get (v := .ref (a 9)) F nX0_fewestToCalm_X2 hK.1 hP 7 rfl rfl 2 (by decide) (List.mem_of_getElem? (i := 6) rfl) rfl dX0_fewestToCalm_66 ?_
              refine lv_iload_n F.1 F.2.1 dX0_fewestToCalm_69 rfl (lv_at hl 1 rfl) ?_
              refine k_iald (f := S 9) (n := 8) F hK.1 hP 9 0 rfl rfl (by omega) (by decide) dX0_fewestToCalm_70 ?_
              have := hI.brave v
              refine k_icmp_le (tgt := 114) F (by omega) (by omega) dX0_fewestToCalm_71 (by decide) (fun h71 => ?_) (fun h71 => ?_)
              · skip
                refine k_inc (k := 7) (lv' := [(7, .int (nI (i + 1))), (0, .ref (a 0)), (1, .int (nI v)), (2, .int (nI (S 7 v))), (3, .int (nI (lackN S (S 7 v) (S 6 v)))), (4, .int (nI ((calI S (S 9 v) (S 7 v) (lackN S (S 7 v) (S 6 v)) (9 - j) (calO S (S 9 v) (S 7 v) (lackN S (S 7 v) (S 6 v)) (hisG S (S 7 v) (S 6 v)) (S 0 1) j) i).1))), (5, .int (nI ((calI S (S 9 v) (S 7 v) (lackN S (S 7 v) (S 6 v)) (9 - j) (calO S (S 9 v) (S 7 v) (lackN S (S 7 v) (S 6 v)) (hisG S (S 7 v) (S 6 v)) (S 0 1) j) i).2))), (6, .int (nI (9 - j)))]) F dX0_fewestToCalm_114 hl rfl (by decide) rfl (fun ls hl => ?_)
                refine lv_goto (tgt := 48) F.1 F.2.1 dX0_fewestToCalm_117 (by decide) ?_
                have e_4 : (calI S (S 9 v) (S 7 v) (lackN S (S 7 v) (S 6 v)) (9 - j) (calO S (S 9 v) (S 7 v) (lackN S (S 7 v) (S 6 v)) (hisG S (S 7 v) (S 6 v)) (S 0 1) j) i).1 = (calI S (S 9 v) (S 7 v) (lackN S (S 7 v) (S 6 v)) (9 - j) (calO S (S 9 v) (S 7 v) (lackN S (S 7 v) (S 6 v)) (hisG S (S 7 v) (S 6 v)) (S 0 1) j) (i + 1)).1 := by simp only [calI]; rw [if_neg (fun q => Nat.not_lt.mpr h71 q.1)]
                rw [e_4] at hl
                have e_5 : (calI S (S 9 v) (S 7 v) (lackN S (S 7 v) (S 6 v)) (9 - j) (calO S (S 9 v) (S 7 v) (lackN S (S 7 v) (S 6 v)) (hisG S (S 7 v) (S 6 v)) (S 0 1) j) i).2 = (calI S (S 9 v) (S 7 v) (lackN S (S 7 v) (S 6 v)) (9 - j) (calO S (S 9 v) (S 7 v) (lackN S (S 7 v) (S 6 v)) (hisG S (S 7 v) (S 6 v)) (S 0 1) j) (i + 1)).2 := by simp only [calI]; rw [if_neg (fun q => Nat.not_lt.mpr h71 q.1)]
                rw [e_5] at hl
                exact ih48 (i + 1) (by omega) (by omega) (cal_rem (by omega) hr2) _ _ _ hP hS (lv_sub hl [1, 2, 3, 4, 5, 6, 7, 0] rfl)
              · skip
                refine lv_aload_n F.1 F.2.1 dX0_fewestToCalm_74 rfl (lv_at hl 0 rfl) ?_
                refine k_get (v := .ref (a 2)) F nX0_fewestToCalm_X0 hK.1 hP 0 rfl rfl 2 (by decide) (List.mem_of_getElem? (i := 4) rfl) rfl dX0_fewestToCalm_75 ?_
                refine k_get (v := .ref (a 4)) F nX0_fewestToCalm_X1 hK.1 hP 2 rfl rfl 2 (by decide) (List.mem_of_getElem? (i := 7) rfl) rfl dX0_fewestToCalm_78 ?_
                refine lv_iload F.1 F.2.1 dX0_fewestToCalm_81 (lv_at hl 7 rfl) ?_
                refine k_iald (f := S 3) (n := 8) F hK.1 hP 4 0 rfl rfl (by omega) (by decide) dX0_fewestToCalm_83 ?_
                have := hI.mood i
                refine lv_iload F.1 F.2.1 dX0_fewestToCalm_84 (lv_at hl 6 rfl) ?_
                refine k_icmp_ne (tgt := 114) F (by omega) (by omega) dX0_fewestToCalm_86 (by decide) (fun h86 => ?_) (fun h86 => ?_)
                · skip
                  refine k_inc (k := 7) (lv' := [(7, .int (nI (i + 1))), (0, .ref (a 0)), (1, .int (nI v)), (2, .int (nI (S 7 v))), (3, .int (nI (lackN S (S 7 v) (S 6 v)))), (4, .int (nI ((calI S (S 9 v) (S 7 v) (lackN S (S 7 v) (S 6 v)) (9 - j) (calO S (S 9 v) (S 7 v) (lackN S (S 7 v) (S 6 v)) (hisG S (S 7 v) (S 6 v)) (S 0 1) j) i).1))), (5, .int (nI ((calI S (S 9 v) (S 7 v) (lackN S (S 7 v) (S 6 v)) (9 - j) (calO S (S 9 v) (S 7 v) (lackN S (S 7 v) (S 6 v)) (hisG S (S 7 v) (S 6 v)) (S 0 1) j) i).2))), (6, .int (nI (9 - j)))]) F dX0_fewestToCalm_114 hl rfl (by decide) rfl (fun ls hl => ?_)
                  refine lv_goto (tgt := 48) F.1 F.2.1 dX0_fewestToCalm_117 (by decide) ?_
                  have e_6 : (calI S (S 9 v) (S 7 v) (lackN S (S 7 v) (S 6 v)) (9 - j) (calO S (S 9 v) (S 7 v) (lackN S (S 7 v) (S 6 v)) (hisG S (S 7 v) (S 6 v)) (S 0 1) j) i).1 = (calI S (S 9 v) (S 7 v) (lackN S (S 7 v) (S 6 v)) (9 - j) (calO S (S 9 v) (S 7 v) (lackN S (S 7 v) (S 6 v)) (hisG S (S 7 v) (S 6 v)) (S 0 1) j) (i + 1)).1 := by simp only [calI]; rw [if_neg (fun q => h86 q.2.1)]
                  rw [e_6] at hl
                  have e_7 : (calI S (S 9 v) (S 7 v) (lackN S (S 7 v) (S 6 v)) (9 - j) (calO S (S 9 v) (S 7 v) (lackN S (S 7 v) (S 6 v)) (hisG S (S 7 v) (S 6 v)) (S 0 1) j) i).2 = (calI S (S 9 v) (S 7 v) (lackN S (S 7 v) (S 6 v)) (9 - j) (calO S (S 9 v) (S 7 v) (lackN S (S 7 v) (S 6 v)) (hisG S (S 7 v) (S 6 v)) (S 0 1) j) (i + 1)).2 := by simp only [calI]; rw [if_neg (fun q => h86 q.2.1)]
                  rw [e_7] at hl
                  exact ih48 (i + 1) (by omega) (by omega) (cal_rem (by omega) hr2) _ _ _ hP hS (lv_sub hl [1, 2, 3, 4, 5, 6, 7, 0] rfl)
                · skip
                  refine lv_aload_n F.1 F.2.1 dX0_fewestToCalm_89 rfl (lv_at hl 0 rfl) ?_
                  refine k_get (v := .ref (a 2)) F nX0_fewestToCalm_X0 hK.1 hP 0 rfl rfl 2 (by decide) (List.mem_of_getElem? (i := 4) rfl) rfl dX0_fewestToCalm_90 ?_
                  refine lv_iload F.1 F.2.1 dX0_fewestToCalm_93 (lv_at hl 7 rfl) ?_
                  refine lv_iload_n F.1 F.2.1 dX0_fewestToCalm_95 rfl (lv_at hl 2 rfl) ?_
                  refine k_pV (n := 2) (rest := []) (v := bI (S 2 i = (S 7 v) ∧ S 4 i = 0)) F (c_X1_isAwakeThere l D cI a S i (S 7 v) hI.bd.k (by first | assumption | omega) (by first | assumption | omega)) gX0_fewestToCalm_X1_isAwakeThere rfl (by decide +kernel) ⟨Nat.le_of_ble_eq_true rfl, Nat.le_of_ble_eq_true rfl⟩ rfl hl.1 rfl (Nat.le_of_ble_eq_true rfl) dX0_fewestToCalm_96 ⟨Nat.zero_le _, Nat.zero_le _⟩ hK hP hS [2, 3, 4, 5, 6] rfl (q0 := 2) (ci := 1) rfl rfl (fun H locs hP hS => ?_)
                  refine k_ifeq_b (tgt := 114) F dX0_fewestToCalm_99 (by decide) (fun h99 => ?_) (fun h99 => ?_)
                  · skip
                    refine k_inc (k := 7) (lv' := [(7, .int (nI (i + 1))), (0, .ref (a 0)), (1, .int (nI v)), (2, .int (nI (S 7 v))), (3, .int (nI (lackN S (S 7 v) (S 6 v)))), (4, .int (nI ((calI S (S 9 v) (S 7 v) (lackN S (S 7 v) (S 6 v)) (9 - j) (calO S (S 9 v) (S 7 v) (lackN S (S 7 v) (S 6 v)) (hisG S (S 7 v) (S 6 v)) (S 0 1) j) i).1))), (5, .int (nI ((calI S (S 9 v) (S 7 v) (lackN S (S 7 v) (S 6 v)) (9 - j) (calO S (S 9 v) (S 7 v) (lackN S (S 7 v) (S 6 v)) (hisG S (S 7 v) (S 6 v)) (S 0 1) j) i).2))), (6, .int (nI (9 - j)))]) F dX0_fewestToCalm_114 hl rfl (by decide) rfl (fun ls hl => ?_)
                    refine lv_goto (tgt := 48) F.1 F.2.1 dX0_fewestToCalm_117 (by decide) ?_
                    have e_8 : (calI S (S 9 v) (S 7 v) (lackN S (S 7 v) (S 6 v)) (9 - j) (calO S (S 9 v) (S 7 v) (lackN S (S 7 v) (S 6 v)) (hisG S (S 7 v) (S 6 v)) (S 0 1) j) i).1 = (calI S (S 9 v) (S 7 v) (lackN S (S 7 v) (S 6 v)) (9 - j) (calO S (S 9 v) (S 7 v) (lackN S (S 7 v) (S 6 v)) (hisG S (S 7 v) (S 6 v)) (S 0 1) j) (i + 1)).1 := by simp only [calI]; rw [if_neg (fun q => h99 q.2.2)]
                    rw [e_8] at hl
                    have e_9 : (calI S (S 9 v) (S 7 v) (lackN S (S 7 v) (S 6 v)) (9 - j) (calO S (S 9 v) (S 7 v) (lackN S (S 7 v) (S 6 v)) (hisG S (S 7 v) (S 6 v)) (S 0 1) j) i).2 = (calI S (S 9 v) (S 7 v) (lackN S (S 7 v) (S 6 v)) (9 - j) (calO S (S 9 v) (S 7 v) (lackN S (S 7 v) (S 6 v)) (hisG S (S 7 v) (S 6 v)) (S 0 1) j) (i + 1)).2 := by simp only [calI]; rw [if_neg (fun q => h99 q.2.2)]
                    rw [e_9] at hl
                    exact ih48 (i + 1) (by omega) (by omega) (cal_rem (by omega) hr2) _ _ _ hP hS (lv_sub hl [1, 2, 3, 4, 5, 6, 7, 0] rfl)
                  · skip
                    have hs9 := remN_step (x := (lackN S (S 7 v) (S 6 v))) h86 h99 (S 0 1) (by omega)
                    refine lv_iload F.1 F.2.1 dX0_fewestToCalm_102 (lv_at hl 4 rfl) ?_
                    refine lv_iload F.1 F.2.1 dX0_fewestToCalm_104 (lv_at hl 6 rfl) ?_
                    refine lv_iload_n F.1 F.2.1 dX0_fewestToCalm_106 rfl (lv_at hl 3 rfl) ?_
                    refine k_iadd F dX0_fewestToCalm_107 ?_
                    refine k_isub F (by omega) dX0_fewestToCalm_108 ?_
                    refine lv_istore (lv' := [(4, .int (nI ((calI S (S 9 v) (S 7 v) (lackN S (S 7 v) (S 6 v)) (9 - j) (calO S (S 9 v) (S 7 v) (lackN S (S 7 v) (S 6 v)) (hisG S (S 7 v) (S 6 v)) (S 0 1) j) i).1 - ((9 - j) + (lackN S (S 7 v) (S 6 v)))))), (0, .ref (a 0)), (1, .int (nI v)), (2, .int (nI (S 7 v))), (3, .int (nI (lackN S (S 7 v) (S 6 v)))), (5, .int (nI ((calI S (S 9 v) (S 7 v) (lackN S (S 7 v) (S 6 v)) (9 - j) (calO S (S 9 v) (S 7 v) (lackN S (S 7 v) (S 6 v)) (hisG S (S 7 v) (S 6 v)) (S 0 1) j) i).2))), (6, .int (nI (9 - j))), (7, .int (nI i))]) F.1 F.2.1 dX0_fewestToCalm_109 hl (by decide) rfl (fun ls hl => ?_)
                    refine k_inc (k := 5) (lv' := [(5, .int (nI ((calI S (S 9 v) (S 7 v) (lackN S (S 7 v) (S 6 v)) (9 - j) (calO S (S 9 v) (S 7 v) (lackN S (S 7 v) (S 6 v)) (hisG S (S 7 v) (S 6 v)) (S 0 1) j) i).2 + 1))), (4, .int (nI ((calI S (S 9 v) (S 7 v) (lackN S (S 7 v) (S 6 v)) (9 - j) (calO S (S 9 v) (S 7 v) (lackN S (S 7 v) (S 6 v)) (hisG S (S 7 v) (S 6 v)) (S 0 1) j) i).1 - ((9 - j) + (lackN S (S 7 v) (S 6 v)))))), (0, .ref (a 0)), (1, .int (nI v)), (2, .int (nI (S 7 v))), (3, .int (nI (lackN S (S 7 v) (S 6 v)))), (6, .int (nI (9 - j))), (7, .int (nI i))]) F dX0_fewestToCalm_111 hl rfl (by decide) rfl (fun ls hl => ?_)
                    refine k_inc (k := 7) (lv' := [(7, .int (nI (i + 1))), (5, .int (nI ((calI S (S 9 v) (S 7 v) (lackN S (S 7 v) (S 6 v)) (9 - j) (calO S (S 9 v) (S 7 v) (lackN S (S 7 v) (S 6 v)) (hisG S (S 7 v) (S 6 v)) (S 0 1) j) i).2 + 1))), (4, .int (nI ((calI S (S 9 v) (S 7 v) (lackN S (S 7 v) (S 6 v)) (9 - j) (calO S (S 9 v) (S 7 v) (lackN S (S 7 v) (S 6 v)) (hisG S (S 7 v) (S 6 v)) (S 0 1) j) i).1 - ((9 - j) + (lackN S (S 7 v) (S 6 v)))))), (0, .ref (a 0)), (1, .int (nI v)), (2, .int (nI (S 7 v))), (3, .int (nI (lackN S (S 7 v) (S 6 v)))), (6, .int (nI (9 - j)))]) F dX0_fewestToCalm_114 hl rfl (by decide) rfl (fun ls hl => ?_)
                    refine lv_goto (tgt := 48) F.1 F.2.1 dX0_fewestToCalm_117 (by decide) ?_
                    have e_10 : ((calI S (S 9 v) (S 7 v) (lackN S (S 7 v) (S 6 v)) (9 - j) (calO S (S 9 v) (S 7 v) (lackN S (S 7 v) (S 6 v)) (hisG S (S 7 v) (S 6 v)) (S 0 1) j) i).1 - ((9 - j) + (lackN S (S 7 v) (S 6 v)))) = (calI S (S 9 v) (S 7 v) (lackN S (S 7 v) (S 6 v)) (9 - j) (calO S (S 9 v) (S 7 v) (lackN S (S 7 v) (S 6 v)) (hisG S (S 7 v) (S 6 v)) (S 0 1) j) (i + 1)).1 := by simp only [calI]; rw [if_pos (And.intro (Nat.not_le.mp h71) (And.intro h86 h99))]
                    rw [e_10] at hl
                    have e_11 : ((calI S (S 9 v) (S 7 v) (lackN S (S 7 v) (S 6 v)) (9 - j) (calO S (S 9 v) (S 7 v) (lackN S (S 7 v) (S 6 v)) (hisG S (S 7 v) (S 6 v)) (S 0 1) j) i).2 + 1) = (calI S (S 9 v) (S 7 v) (lackN S (S 7 v) (S 6 v)) (9 - j) (calO S (S 9 v) (S 7 v) (lackN S (S 7 v) (S 6 v)) (hisG S (S 7 v) (S 6 v)) (S 0 1) j) (i + 1)).2 := by simp only [calI]; rw [if_pos (And.intro (Nat.not_le.mp h71) (And.intro h86 h99))]
                    rw [e_11] at hl
                    exact ih48 (i + 1) (by omega) (by omega) (cal_rem (by omega) hr2) _ _ _ hP hS (lv_sub hl [3, 4, 5, 6, 2, 1, 7, 0] rfl)
        have e_12 : (calO S (S 9 v) (S 7 v) (lackN S (S 7 v) (S 6 v)) (hisG S (S 7 v) (S 6 v)) (S 0 1) j).1 = (calI S (S 9 v) (S 7 v) (lackN S (S 7 v) (S 6 v)) (9 - j) (calO S (S 9 v) (S 7 v) (lackN S (S 7 v) (S 6 v)) (hisG S (S 7 v) (S 6 v)) (S 0 1) j) 0).1 := rfl
        rw [e_12] at hl
        have e_13 : (calO S (S 9 v) (S 7 v) (lackN S (S 7 v) (S 6 v)) (hisG S (S 7 v) (S 6 v)) (S 0 1) j).2 = (calI S (S 9 v) (S 7 v) (lackN S (S 7 v) (S 6 v)) (9 - j) (calO S (S 9 v) (S 7 v) (lackN S (S 7 v) (S 6 v)) (hisG S (S 7 v) (S 6 v)) (S 0 1) j) 0).2 := rfl
        rw [e_13] at hl
        exact loop48 ((S 0 1) + 1) 0 (by omega) (by omega) hq1 _ _ _ hP hS (lv_sub hl [1, 2, 3, 4, 5, 6, 7, 0] rfl)
  have e_14 : hisG S (S 7 v) (S 6 v) = (calO S (S 9 v) (S 7 v) (lackN S (S 7 v) (S 6 v)) (hisG S (S 7 v) (S 6 v)) (S 0 1) 0).1 := by first | rfl | omega | (rw [show i = S 0 1 by omega]; rfl)
  rw [e_14] at hl
  have e_15 : 0 = (calO S (S 9 v) (S 7 v) (lackN S (S 7 v) (S 6 v)) (hisG S (S 7 v) (S 6 v)) (S 0 1) 0).2 := by first | rfl | omega | (rw [show i = S 0 1 by omega]; rfl)
  rw [e_15] at hl
  have e_16 : 9 = (9 - 0) := by first | rfl | omega | (rw [show i = S 0 1 by omega]; rfl)
  rw [e_16] at hl
  exact loop39 (9 + 1) 0 (by omega) (by omega) (by rw [remN_all hI.mood]; exact Nat.le_refl _) hh9 _ _ _ hP hS (lv_sub hl [5, 6, 4, 3, 2, 1, 0] rfl)
