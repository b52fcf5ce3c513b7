/-! words of the picture's methods -/
def ovN (n : Nat) : Nat := match n with
  | 0 => 0
  | 1 => 5
  | 2 => 10
  | _ => 20
def gdN (h : Nat) : Nat → Nat
  | 0 => 0
  | n + 1 => if ovN n < h then gdN h n + 1 else gdN h n
theorem gd_le (h : Nat) : ∀ n, gdN h n ≤ n
  | 0 => Nat.le_refl _
  | n + 1 => by
    have := gd_le h n
    unfold gdN
    split <;> omega
theorem gd_4 (h : Nat) : gdN h 4 = grdN h := by
  have e : gdN h 4 = if 20 < h then (if 10 < h then (if 5 < h then (if 0 < h then 0 + 1 else 0) + 1 else (if 0 < h then 0 + 1 else 0)) + 1 else (if 5 < h then (if 0 < h then 0 + 1 else 0) + 1 else (if 0 < h then 0 + 1 else 0))) + 1 else (if 10 < h then (if 5 < h then (if 0 < h then 0 + 1 else 0) + 1 else (if 0 < h then 0 + 1 else 0)) + 1 else (if 5 < h then (if 0 < h then 0 + 1 else 0) + 1 else (if 0 < h then 0 + 1 else 0))) := rfl
  rw [e]
  unfold grdN
  repeat' split
  all_goals omega
theorem ov_at {i : Nat} (h : i < 4) : updN (updN (updN (updN (fun _ => 0) 0 0) 1 5) 2 10) 3 20 i = ovN i := by
  rcases (show i = 0 ∨ i = 1 ∨ i = 2 ∨ i = 3 by omega) with rfl | rfl | rfl | rfl <;> rfl
theorem ov_le (i : Nat) : ovN i ≤ 20 := by unfold ovN; split <;> omega
theorem frc_val (S : Nat → Nat → Nat) (t : Nat) : ∀ n, (∀ b, (frcN S t n).1 = b + 1 → (frcN S t n).2 = S 3 b ∧ b < n ∧ awk S b t) ∧ ((frcN S t n).1 = 0 → (frcN S t n).2 = 0)
  | 0 => ⟨fun b h => absurd h (by simp [frcN]), fun _ => rfl⟩
  | n + 1 => by
    obtain ⟨h1, h2⟩ := frc_val S t n
    unfold frcN
    by_cases c : awk S n t ∧ (frcN S t n).2 < S 3 n
    · rw [if_pos c]
      refine ⟨fun b h => ?_, fun h => absurd h (by simp)⟩
      have e : n = b := by simpa using h
      subst e
      exact ⟨rfl, by omega, c.1⟩
    · rw [if_neg c]
      exact ⟨fun b h => ⟨(h1 b h).1, by have := (h1 b h).2.1; omega, (h1 b h).2.2⟩, h2⟩
/-- the fiercest, as a reference -/
def wrF (z : Nat → Nat) (n : Nat) : Option Nat := if n = 0 then none else some (z (4 + (n - 1)))
theorem wrF_0 {z : Nat → Nat} {n : Nat} (h : n = 0) : va_rf (wrF z n) = .null := by unfold wrF; rw [if_pos h]; rfl
theorem wrF_s {z : Nat → Nat} {n b : Nat} (h : n = b + 1) : va_rf (wrF z n) = .ref (z (4 + b)) := by
  unfold wrF
  rw [if_neg (by omega), show n - 1 = b by omega]
  rfl
theorem enrN_9 {S : Nat → Nat → Nat} {t i : Nat} (h : awk S i t) (h9 : S 3 i = 9) : setF S 3 (enrN S t i) = setF S 3 (enrN S t (i + 1)) := by
  rw [← enrN_y h]
  refine (setf_same _ _ _ _ ?_).symm
  show (if (3:Nat) = 3 then enrN S t i else S 3) i = min 9 (S 3 i + 1)
  rw [if_pos rfl, enrN_at]
  omega
theorem goS_c (S : Nat → Nat → Nat) (v x : Nat) (g : Nat → Nat) : setf (setF S 3 g) 7 v x = setF (setf S 7 v x) 3 g := by
  funext a j
  by_cases h7 : a = 7
  · subst h7; rfl
  · by_cases h3 : a = 3
    · subst h3; rfl
    · simp [setF, h7, h3]
theorem lack_in {S : Nat → Nat → Nat} {t r : Nat} (h : t < S 0 0) : lackN S t r = S 1 t - r := by
  unfold lackN
  rw [if_pos h]
  omega
theorem nX4_isIn_X4 : ∀ x ∈ wsX40, x ∈ wsX4_isIn := fun _ h => List.mem_cons_of_mem _ (List.mem_append_right _ h)
set_option maxRecDepth 100000 in
set_option maxHeartbeats 4000000 in
theorem c_X4_isIn (l : Launch) (D : va_G) (cI cA : ClassId) (z : Nat → Nat) (S : Nat → Nat → Nat) (v : Nat) (hI : Inv S) (hv : v < S 0 2) : PS l yX4_isIn wsX4_isIn 0 0 D cI cA [.ref (z 0), .ref (z (12 + v))] (wSi cI cA z S) (bI (S 0 0 ≤ S 7 v)) := by
  refine q_bodyP (cc := cX4_isIn) (maxL := 2) (ret := (some .boolean)) (by decide) rfl (Nat.le_of_ble_eq_true rfl) ?_
  intro p e s m args below meth c H ls F hr hlk hl hP hK hS
  have F : CallFix p m c cX4_isIn 2 s args wsX4_isIn RX4 := F
  have hl : lv_has ls 2 [(0, .ref (z 0)), (1, .ref (z (12 + v)))] := hl
  have hi0 := hI.gates
  have hi1 := hI.geese
  have hi2 := hI.guests
  refine lv_aload_n F.1 F.2.1 dX4_isIn_0 rfl (lv_at hl 1 rfl) ?_
  refine lv_iconst (v := nI 3) F.1 F.2.1 dX4_isIn_1 (by decide) ?_
  refine q_iald (v := S 7 v) F hK hP (4 + S 0 1 + v) (wSi_v (show v < S 0 2 by omega)) (by decide) (by first | omega | decide) rfl dX4_isIn_2 ?_
  have := hI.went v
  refine lv_aload_n F.1 F.2.1 dX4_isIn_3 rfl (lv_at hl 0 rfl) ?_
  refine k_get (v := .ref (z 1)) F nX4_isIn_X4 hK.1.1 hP 0 rfl rfl 3 (by decide) (List.mem_of_getElem? (i := 1) rfl) rfl dX4_isIn_4 ?_
  refine q_alen F hK hP 1 rfl dX4_isIn_7 ?_
  refine k_icmp_ne (tgt := 15) F (by omega) (by omega) dX4_isIn_8 (by decide) (fun h8 => ?_) (fun h8 => ?_)
  · skip
    refine lv_iconst (v := nI 0) F.1 F.2.1 dX4_isIn_15 (by decide) ?_
    exact k_retP F hr hlk hS (fin0 (by omega)) (by first | rfl | (split <;> rfl)) dX4_isIn_16
  · skip
    refine lv_iconst (v := nI 1) F.1 F.2.1 dX4_isIn_11 (by decide) ?_
    refine lv_goto (tgt := 16) F.1 F.2.1 dX4_isIn_12 (by decide) ?_
    exact k_retP F hr hlk hS (fin1 (by omega)) (by first | rfl | (split <;> rfl)) dX4_isIn_16
theorem nX4_hiss_X4 : ∀ x ∈ wsX40, x ∈ wsX4_hiss := fun _ h => List.mem_cons_of_mem _ (List.mem_append_right _ h)
set_option maxRecDepth 100000 in
set_option maxHeartbeats 4000000 in
theorem c_X4_hiss (l : Launch) (D : va_G) (cI cA : ClassId) (z : Nat → Nat) (S : Nat → Nat → Nat) (t : Nat) (r : Nat) (hI : Inv S) (hg : t < S 0 0) (hr : r < 2 ^ 30) : PS l yX4_hiss wsX4_hiss 0 0 D cI cA [.ref (z 0), .int (nI t), .int (nI r)] (wSi cI cA z S) (nI (hisG S t r)) := by
  refine q_bodyP (cc := cX4_hiss) (maxL := 8) (ret := (some .int)) (by decide) rfl (Nat.le_of_ble_eq_true rfl) ?_
  intro p e s m args below meth c H ls F hr hlk hl hP hK hS
  have F : CallFix p m c cX4_hiss 8 s args wsX4_hiss RX4 := F
  have hl : lv_has ls 8 [(0, .ref (z 0)), (1, .int (nI t)), (2, .int (nI r))] := hl
  have hi0 := hI.gates
  have hi1 := hI.geese
  have hi2 := hI.guests
  refine lv_iconst (v := nI 0) F.1 F.2.1 dX4_hiss_0 (by decide) ?_
  refine lv_istore_n (lv' := [(3, .int (nI 0)), (0, .ref (z 0)), (1, .int (nI t)), (2, .int (nI r))]) F.1 F.2.1 dX4_hiss_1 rfl hl (by decide) rfl (fun ls hl => ?_)
  refine lv_aload_n F.1 F.2.1 dX4_hiss_2 rfl (lv_at hl 1 rfl) ?_
  refine k_get (v := .ref (z 2)) F nX4_hiss_X4 hK.1.1 hP 0 rfl rfl 4 (by decide) (List.mem_of_getElem? (i := 1) rfl) rfl dX4_hiss_3 ?_
  refine lv_astore (lv' := [(4, .ref (z 2)), (3, .int (nI 0)), (0, .ref (z 0)), (1, .int (nI t)), (2, .int (nI r))]) F.1 F.2.1 dX4_hiss_6 hl (by decide) rfl (fun ls hl => ?_)
  refine lv_aload F.1 F.2.1 dX4_hiss_8 (lv_at hl 0 rfl) ?_
  refine q_alenA F hK hP 2 rfl dX4_hiss_10 ?_
  refine lv_istore (lv' := [(5, .int (nI (S 0 1))), (4, .ref (z 2)), (3, .int (nI 0)), (0, .ref (z 0)), (1, .int (nI t)), (2, .int (nI r))]) F.1 F.2.1 dX4_hiss_11 hl (by decide) rfl (fun ls hl => ?_)
  refine lv_iconst (v := nI 0) F.1 F.2.1 dX4_hiss_13 (by decide) ?_
  refine lv_istore (lv' := [(6, .int (nI 0)), (5, .int (nI (S 0 1))), (4, .ref (z 2)), (3, .int (nI 0)), (0, .ref (z 0)), (1, .int (nI t)), (2, .int (nI r))]) F.1 F.2.1 dX4_hiss_14 hl (by decide) rfl (fun ls hl => ?_)
  have loop16 : ∀ (n : Nat) (i : Nat), i ≤ S 0 1 → S 0 1 + 1 ≤ i + n → ∀ (H : Heap) (locs : List Loc) (ls : Array Slot), va_P D vwCl (wSi cI cA z S) H → va_S (fun _ => False) s.heap H locs → lv_has ls 8 [(0, .ref (z 0)), (1, .int (nI t)), (2, .int (nI r)), (3, .int (nI (hisN S t (lackN S t r) i))), (4, .ref (z 2)), (5, .int (nI (S 0 1))), (6, .int (nI i))] → W p l e (rmN 0 0) s m args below meth c H locs (0) (0) (QPI below args s (nI (hisG S t r))) (F0 m 16 ls []) := by
    intro n
    induction n with
    | zero => intro i hi hn; exact absurd hn (by omega)
    | succ n ih16 =>
      intro i hi hn  H locs ls hP hS hl
      refine lv_iload F.1 F.2.1 dX4_hiss_16 (lv_at hl 6 rfl) ?_
      refine lv_iload F.1 F.2.1 dX4_hiss_18 (lv_at hl 5 rfl) ?_
      refine k_icmp_ge (tgt := 82) F (by omega) (by omega) dX4_hiss_20 (by decide) (fun h20 => ?_) (fun h20 => ?_)
      · skip
        refine lv_iload_n F.1 F.2.1 dX4_hiss_82 rfl (lv_at hl 3 rfl) ?_
        exact k_retP F hr hlk hS (by rw [show i = S 0 1 by omega]; rfl) rfl dX4_hiss_83
      · skip
        refine lv_aload F.1 F.2.1 dX4_hiss_23 (lv_at hl 4 rfl) ?_
        refine lv_iload F.1 F.2.1 dX4_hiss_25 (lv_at hl 6 rfl) ?_
        refine q_aald (v := z (4 + i)) F hK hP 2 rfl (show i < S 0 1 by omega) (show S 0 1 < 2 ^ 31 by omega) rfl dX4_hiss_27 ?_
        refine lv_astore (lv' := [(7, .ref (z (4 + i))), (0, .ref (z 0)), (1, .int (nI t)), (2, .int (nI r)), (3, .int (nI (hisN S t (lackN S t r) i))), (4, .ref (z 2)), (5, .int (nI (S 0 1))), (6, .int (nI i))]) F.1 F.2.1 dX4_hiss_28 hl (by decide) rfl (fun ls hl => ?_)
        refine lv_aload F.1 F.2.1 dX4_hiss_30 (lv_at hl 0 rfl) ?_
        refine lv_iconst (v := nI 0) F.1 F.2.1 dX4_hiss_32 (by decide) ?_
        refine q_iald (v := S 2 i) F hK hP (4 + i) (wSi_g (show i < S 0 1 by omega)) (by decide) (by first | omega | decide) rfl dX4_hiss_33 ?_
        have := hI.keep i
        refine lv_iload_n F.1 F.2.1 dX4_hiss_34 rfl (lv_at hl 2 rfl) ?_
        refine k_icmp_ne (tgt := 76) F (by omega) (by omega) dX4_hiss_35 (by decide) (fun h35 => ?_) (fun h35 => ?_)
        · skip
          refine k_inc (k := 7) (lv' := [(6, .int (nI (i + 1))), (7, .ref (z (4 + i))), (0, .ref (z 0)), (1, .int (nI t)), (2, .int (nI r)), (3, .int (nI (hisN S t (lackN S t r) i))), (4, .ref (z 2)), (5, .int (nI (S 0 1)))]) F dX4_hiss_76 hl rfl (by decide) rfl (fun ls hl => ?_)
          refine lv_goto (tgt := 16) F.1 F.2.1 dX4_hiss_79 (by decide) ?_
          have e_1 : hisN S t (lackN S t r) i = hisN S t (lackN S t r) (i + 1) := by rw [(show hisN S t (lackN S t r) (i + 1) = if awk S i t then hisN S t (lackN S t r) i + (S 3 i + lackN S t r) else hisN S t (lackN S t r) i from rfl), if_neg (fun q => h35 q.1)]
          rw [e_1] at hl
          exact ih16 (i + 1) (by omega) (by omega)  _ _ _ hP hS (lv_sub hl [2, 3, 4, 5, 6, 7, 0] rfl)
        · skip
          refine lv_aload F.1 F.2.1 dX4_hiss_38 (lv_at hl 0 rfl) ?_
          refine lv_iconst (v := nI 2) F.1 F.2.1 dX4_hiss_40 (by decide) ?_
          refine q_iald (v := S 4 i) F hK hP (4 + i) (wSi_g (show i < S 0 1 by omega)) (by decide) (by first | omega | decide) rfl dX4_hiss_41 ?_
          have := hI.rest i
          refine k_if_le (tgt := 48) F (by omega) dX4_hiss_42 (by decide) (fun h42 => ?_) (fun h42 => ?_)
          · skip
            refine lv_iload_n F.1 F.2.1 dX4_hiss_48 rfl (lv_at hl 4 rfl) ?_
            refine lv_aload F.1 F.2.1 dX4_hiss_49 (lv_at hl 0 rfl) ?_
            refine lv_iconst (v := nI 1) F.1 F.2.1 dX4_hiss_51 (by decide) ?_
            refine q_iald (v := S 3 i) F hK hP (4 + i) (wSi_g (show i < S 0 1 by omega)) (by decide) (by first | omega | decide) rfl dX4_hiss_52 ?_
            have := hI.mood i
            refine k_iadd F dX4_hiss_53 ?_
            refine lv_istore_n (lv' := [(3, .int (nI (hisN S t (lackN S t r) i + S 3 i))), (7, .ref (z (4 + i))), (0, .ref (z 0)), (1, .int (nI t)), (2, .int (nI r)), (4, .ref (z 2)), (5, .int (nI (S 0 1))), (6, .int (nI i))]) F.1 F.2.1 dX4_hiss_54 rfl hl (by decide) rfl (fun ls hl => ?_)
            refine lv_aload_n F.1 F.2.1 dX4_hiss_55 rfl (lv_at hl 2 rfl) ?_
            refine k_get (v := .ref (z 1)) F nX4_hiss_X4 hK.1.1 hP 0 rfl rfl 3 (by decide) (List.mem_of_getElem? (i := 2) rfl) rfl dX4_hiss_56 ?_
            refine lv_iload_n F.1 F.2.1 dX4_hiss_59 rfl (lv_at hl 3 rfl) ?_
            refine q_iald (f := S 1) (v := S 1 t) F hK hP 1 rfl (by omega) (by first | omega | decide) rfl dX4_hiss_60 ?_
            have := hI.rank t
            refine lv_iload_n F.1 F.2.1 dX4_hiss_61 rfl (lv_at hl 4 rfl) ?_
            refine k_icmp_le (tgt := 76) F (by omega) (by omega) dX4_hiss_62 (by decide) (fun h62 => ?_) (fun h62 => ?_)
            · skip
              refine k_inc (k := 7) (lv' := [(6, .int (nI (i + 1))), (3, .int (nI (hisN S t (lackN S t r) i + S 3 i))), (7, .ref (z (4 + i))), (0, .ref (z 0)), (1, .int (nI t)), (2, .int (nI r)), (4, .ref (z 2)), (5, .int (nI (S 0 1)))]) F dX4_hiss_76 hl rfl (by decide) rfl (fun ls hl => ?_)
              refine lv_goto (tgt := 16) F.1 F.2.1 dX4_hiss_79 (by decide) ?_
              have e_2 : (hisN S t (lackN S t r) i + S 3 i) = hisN S t (lackN S t r) (i + 1) := by rw [(show hisN S t (lackN S t r) (i + 1) = if awk S i t then hisN S t (lackN S t r) i + (S 3 i + lackN S t r) else hisN S t (lackN S t r) i from rfl), if_pos (And.intro h35 h42), lack_in hg]; omega
              rw [e_2] at hl
              exact ih16 (i + 1) (by omega) (by omega)  _ _ _ hP hS (lv_sub hl [3, 4, 5, 1, 6, 7, 0] rfl)
            · skip
              refine lv_iload_n F.1 F.2.1 dX4_hiss_65 rfl (lv_at hl 0 rfl) ?_
              refine lv_aload_n F.1 F.2.1 dX4_hiss_66 rfl (lv_at hl 2 rfl) ?_
              refine k_get (v := .ref (z 1)) F nX4_hiss_X4 hK.1.1 hP 0 rfl rfl 3 (by decide) (List.mem_of_getElem? (i := 2) rfl) rfl dX4_hiss_67 ?_
              refine lv_iload_n F.1 F.2.1 dX4_hiss_70 rfl (lv_at hl 3 rfl) ?_
              refine q_iald (f := S 1) (v := S 1 t) F hK hP 1 rfl (by omega) (by first | omega | decide) rfl dX4_hiss_71 ?_
              have := hI.rank t
              refine lv_iload_n F.1 F.2.1 dX4_hiss_72 rfl (lv_at hl 4 rfl) ?_
              refine k_isub F (by omega) dX4_hiss_73 ?_
              refine k_iadd F dX4_hiss_74 ?_
              refine lv_istore_n (lv' := [(3, .int (nI ((hisN S t (lackN S t r) i + S 3 i) + (S 1 t - r)))), (7, .ref (z (4 + i))), (0, .ref (z 0)), (1, .int (nI t)), (2, .int (nI r)), (4, .ref (z 2)), (5, .int (nI (S 0 1))), (6, .int (nI i))]) F.1 F.2.1 dX4_hiss_75 rfl hl (by decide) rfl (fun ls hl => ?_)
              refine k_inc (k := 7) (lv' := [(6, .int (nI (i + 1))), (3, .int (nI ((hisN S t (lackN S t r) i + S 3 i) + (S 1 t - r)))), (7, .ref (z (4 + i))), (0, .ref (z 0)), (1, .int (nI t)), (2, .int (nI r)), (4, .ref (z 2)), (5, .int (nI (S 0 1)))]) F dX4_hiss_76 hl rfl (by decide) rfl (fun ls hl => ?_)
              refine lv_goto (tgt := 16) F.1 F.2.1 dX4_hiss_79 (by decide) ?_
              have e_3 : ((hisN S t (lackN S t r) i + S 3 i) + (S 1 t - r)) = hisN S t (lackN S t r) (i + 1) := by rw [(show hisN S t (lackN S t r) (i + 1) = if awk S i t then hisN S t (lackN S t r) i + (S 3 i + lackN S t r) else hisN S t (lackN S t r) i from rfl), if_pos (And.intro h35 h42), lack_in hg]; omega
              rw [e_3] at hl
              exact ih16 (i + 1) (by omega) (by omega)  _ _ _ hP hS (lv_sub hl [3, 4, 5, 1, 6, 7, 0] rfl)
          · skip
            refine lv_goto (tgt := 76) F.1 F.2.1 dX4_hiss_45 (by decide) ?_
            refine k_inc (k := 7) (lv' := [(6, .int (nI (i + 1))), (7, .ref (z (4 + i))), (0, .ref (z 0)), (1, .int (nI t)), (2, .int (nI r)), (3, .int (nI (hisN S t (lackN S t r) i))), (4, .ref (z 2)), (5, .int (nI (S 0 1)))]) F dX4_hiss_76 hl rfl (by decide) rfl (fun ls hl => ?_)
            refine lv_goto (tgt := 16) F.1 F.2.1 dX4_hiss_79 (by decide) ?_
            have e_4 : hisN S t (lackN S t r) i = hisN S t (lackN S t r) (i + 1) := by rw [(show hisN S t (lackN S t r) (i + 1) = if awk S i t then hisN S t (lackN S t r) i + (S 3 i + lackN S t r) else hisN S t (lackN S t r) i from rfl), if_neg (fun q => by have := q.2; omega)]
            rw [e_4] at hl
            exact ih16 (i + 1) (by omega) (by omega)  _ _ _ hP hS (lv_sub hl [2, 3, 4, 5, 6, 7, 0] rfl)
  have e_5 : 0 = hisN S t (lackN S t r) 0 := rfl
  rw [e_5] at hl
  exact loop16 ((S 0 1) + 1) 0 (by omega) (by omega)  _ _ _ hP hS (lv_sub hl [4, 5, 6, 3, 2, 1, 0] rfl)
set_option maxRecDepth 100000 in
set_option maxHeartbeats 4000000 in
theorem c_X4_hissAt (l : Launch) (D : va_G) (cI cA : ClassId) (z : Nat → Nat) (S : Nat → Nat → Nat) (v : Nat) (hI : Inv S) (hv : v < S 0 2) : PS l yX4_hissAt wsX4_hissAt 1 27 D cI cA [.ref (z 0), .ref (z (12 + v))] (wSi cI cA z S) (nI (hisG S (S 7 v) (S 6 v))) := by
  refine q_bodyP (cc := cX4_hissAt) (maxL := 2) (ret := (some .int)) (by decide) rfl (Nat.le_of_ble_eq_true rfl) ?_
  intro p e s m args below meth c H ls F hr hlk hl hP hK hS
  have F : CallFix p m c cX4_hissAt 2 s args wsX4_hissAt RX4 := F
  have hl : lv_has ls 2 [(0, .ref (z 0)), (1, .ref (z (12 + v)))] := hl
  have hi0 := hI.gates
  have hi1 := hI.geese
  have hi2 := hI.guests
  have hw9 := hI.went v
  have ho9 := hI.own v
  refine lv_aload_n F.1 F.2.1 dX4_hissAt_0 rfl (lv_at hl 0 rfl) ?_
  refine lv_aload_n F.1 F.2.1 dX4_hissAt_1 rfl (lv_at hl 1 rfl) ?_
  refine q_pV (n := 1) (rest := []) (v := bI (S 0 0 ≤ S 7 v)) F (c_X4_isIn l D cI cA z S v hI (by first | assumption | omega)) gX4_hissAt_X4_isIn rfl (by decide +kernel) ⟨Nat.le_of_ble_eq_true rfl, Nat.le_of_ble_eq_true rfl⟩ rfl hl.1 rfl (Nat.le_of_ble_eq_true rfl) dX4_hissAt_2 ⟨Nat.zero_le _, Nat.zero_le _⟩ hK hP hS ap_s (q0 := 0) (ci := 4) rfl rfl (fun H locs hP hS => ?_)
  refine k_ifeq_b (tgt := 12) F dX4_hissAt_5 (by decide) (fun h5 => ?_) (fun h5 => ?_)
  · skip
    refine lv_aload_n F.1 F.2.1 dX4_hissAt_12 rfl (lv_at hl 0 rfl) ?_
    refine lv_aload_n F.1 F.2.1 dX4_hissAt_13 rfl (lv_at hl 1 rfl) ?_
    refine lv_iconst (v := nI 3) F.1 F.2.1 dX4_hissAt_14 (by decide) ?_
    refine q_iald (v := S 7 v) F hK hP (4 + S 0 1 + v) (wSi_v (show v < S 0 2 by omega)) (by decide) (by first | omega | decide) rfl dX4_hissAt_15 ?_
    have := hI.went v
    refine lv_aload_n F.1 F.2.1 dX4_hissAt_16 rfl (lv_at hl 1 rfl) ?_
    refine lv_iconst (v := nI 0) F.1 F.2.1 dX4_hissAt_17 (by decide) ?_
    refine q_iald (v := S 6 v) F hK hP (4 + S 0 1 + v) (wSi_v (show v < S 0 2 by omega)) (by decide) (by first | omega | decide) rfl dX4_hissAt_18 ?_
    have := hI.own v
    refine q_pV (n := 2) (rest := []) (v := nI (hisG S (S 7 v) (S 6 v))) F (c_X4_hiss l D cI cA z S (S 7 v) (S 6 v) hI (by omega) (by omega)) gX4_hissAt_X4_hiss rfl (by decide +kernel) ⟨Nat.le_of_ble_eq_true rfl, Nat.le_of_ble_eq_true rfl⟩ rfl hl.1 rfl (Nat.le_of_ble_eq_true rfl) dX4_hissAt_19 ⟨Nat.zero_le _, Nat.zero_le _⟩ hK hP hS ap_s (q0 := 0) (ci := 4) rfl rfl (fun H locs hP hS => ?_)
    exact k_retP F hr hlk hS rfl rfl dX4_hissAt_22
  · skip
    refine lv_iconst (v := nI 0) F.1 F.2.1 dX4_hissAt_8 (by decide) ?_
    refine lv_goto (tgt := 22) F.1 F.2.1 dX4_hissAt_9 (by decide) ?_
    exact k_retP F hr hlk hS (by rw [hisG_farm hI h5]) rfl dX4_hissAt_22
set_option maxRecDepth 100000 in
set_option maxHeartbeats 4000000 in
theorem c_X4_grade (l : Launch) (D : va_G) (cI : ClassId) (h : Nat) (hh : h < 2 ^ 31) : GI l yX4_grade wsX4_grade 0 1 4 0 D [(cI, .int)] [.int (nI h)] [] [] (nI (grdN h)) := by
  intro sz
  refine k_bodyG (cc := cX4_grade) (maxL := 7) (ret := (some .int)) (by decide) rfl (Nat.le_of_ble_eq_true rfl) ?_
  intro p e s m args below meth c H ls hz F hr hlk hl hP hK hD hS
  have F : CallFix p m c cX4_grade 7 s args wsX4_grade RX4 := F
  have hl : lv_has ls 7 [(0, .int (nI h))] := hl
  refine lv_iconst (v := nI 4) F.1 F.2.1 dX4_grade_0 (by decide) ?_
  refine k_newa F (List.mem_of_getElem? (i := 1) rfl) hK hP hD hS (fun q h => Or.inr (by omega)) (k := 4) (by decide) ⟨show 0 + 1 ≤ 1 by omega, show 0 + 4 ≤ 4 by omega⟩ dX4_grade_1 (fun q1 H hP hD hS => ?_)
  refine lv_dup F.1 F.2.1 dX4_grade_3 rfl ?_
  refine lv_iconst (v := nI 0) F.1 F.2.1 dX4_grade_4 (by decide) ?_
  refine lv_iconst (v := nI 0) F.1 F.2.1 dX4_grade_5 (by decide) ?_
  refine k_iast (f := fun _ => 0) (n := 4) (k := 0) (x := 0) F hK.1 hP hD hS 0 0 rfl rfl (by omega) (by decide) dX4_grade_6 ([] ++ [(q1, .inl (cI, 4, .inl (row (updN (fun _ => 0) 0 0))))]) rfl (fun H locs hP hD hS => ?_)
  refine lv_dup F.1 F.2.1 dX4_grade_7 rfl ?_
  refine lv_iconst (v := nI 1) F.1 F.2.1 dX4_grade_8 (by decide) ?_
  refine lv_iconst (v := nI 5) F.1 F.2.1 dX4_grade_9 (by decide) ?_
  refine k_iast (f := updN (fun _ => 0) 0 0) (n := 4) (k := 1) (x := 5) F hK.1 hP hD hS 0 0 rfl rfl (by omega) (by decide) dX4_grade_10 ([] ++ [(q1, .inl (cI, 4, .inl (row (updN (updN (fun _ => 0) 0 0) 1 5))))]) rfl (fun H locs hP hD hS => ?_)
  refine lv_dup F.1 F.2.1 dX4_grade_11 rfl ?_
  refine lv_iconst (v := nI 2) F.1 F.2.1 dX4_grade_12 (by decide) ?_
  refine lv_bipush (v := nI 10) F.1 F.2.1 dX4_grade_13 (by decide) ?_
  refine k_iast (f := updN (updN (fun _ => 0) 0 0) 1 5) (n := 4) (k := 2) (x := 10) F hK.1 hP hD hS 0 0 rfl rfl (by omega) (by decide) dX4_grade_15 ([] ++ [(q1, .inl (cI, 4, .inl (row (updN (updN (updN (fun _ => 0) 0 0) 1 5) 2 10))))]) rfl (fun H locs hP hD hS => ?_)
  refine lv_dup F.1 F.2.1 dX4_grade_16 rfl ?_
  refine lv_iconst (v := nI 3) F.1 F.2.1 dX4_grade_17 (by decide) ?_
  refine lv_bipush (v := nI 20) F.1 F.2.1 dX4_grade_18 (by decide) ?_
  refine k_iast (f := updN (updN (updN (fun _ => 0) 0 0) 1 5) 2 10) (n := 4) (k := 3) (x := 20) F hK.1 hP hD hS 0 0 rfl rfl (by omega) (by decide) dX4_grade_20 ([] ++ [(q1, .inl (cI, 4, .inl (row (updN (updN (updN (updN (fun _ => 0) 0 0) 1 5) 2 10) 3 20))))]) rfl (fun H locs hP hD hS => ?_)
  refine lv_astore_n (lv' := [(1, .ref q1), (0, .int (nI h))]) F.1 F.2.1 dX4_grade_21 rfl hl (by decide) rfl (fun ls hl => ?_)
  refine lv_iconst (v := nI 0) F.1 F.2.1 dX4_grade_22 (by decide) ?_
  refine lv_istore_n (lv' := [(2, .int (nI 0)), (1, .ref q1), (0, .int (nI h))]) F.1 F.2.1 dX4_grade_23 rfl hl (by decide) rfl (fun ls hl => ?_)
  refine lv_aload_n F.1 F.2.1 dX4_grade_24 rfl (lv_at hl 1 rfl) ?_
  refine lv_astore_n (lv' := [(3, .ref q1), (2, .int (nI 0)), (1, .ref q1), (0, .int (nI h))]) F.1 F.2.1 dX4_grade_25 rfl hl (by decide) rfl (fun ls hl => ?_)
  refine lv_aload_n F.1 F.2.1 dX4_grade_26 rfl (lv_at hl 0 rfl) ?_
  refine k_alen (n := 4) F hK.1 hP 0 0 rfl rfl dX4_grade_27 ?_
  refine lv_istore (lv' := [(4, .int (nI 4)), (3, .ref q1), (2, .int (nI 0)), (1, .ref q1), (0, .int (nI h))]) F.1 F.2.1 dX4_grade_28 hl (by decide) rfl (fun ls hl => ?_)
  refine lv_iconst (v := nI 0) F.1 F.2.1 dX4_grade_30 (by decide) ?_
  refine lv_istore (lv' := [(5, .int (nI 0)), (4, .int (nI 4)), (3, .ref q1), (2, .int (nI 0)), (1, .ref q1), (0, .int (nI h))]) F.1 F.2.1 dX4_grade_31 hl (by decide) rfl (fun ls hl => ?_)
  have loop33 : ∀ (n : Nat) (i : Nat), i ≤ 4 → 4 + 1 ≤ i + n → ∀ (H : Heap) (locs : List Loc) (ls : Array Slot), va_P D vwCl ([] ++ [(q1, .inl (cI, 4, .inl (row (updN (updN (updN (updN (fun _ => 0) 0 0) 1 5) 2 10) 3 20))))]) H → va_D (va_A [] sz) ([] ++ [(q1, .inl (cI, 4, .inl (row (updN (updN (updN (updN (fun _ => 0) 0 0) 1 5) 2 10) 3 20))))]) → va_S (va_A [] sz) s.heap H locs → lv_has ls 7 [(0, .int (nI h)), (1, .ref q1), (2, .int (nI (gdN h i))), (3, .ref q1), (4, .int (nI 4)), (5, .int (nI i))] → W p l e (rmG 0 1 4 0) s m args below meth c H locs (0 + 1) (0 + 4) (QGI below args s D 1 4 [] sz [] (nI (grdN h))) (F0 m 33 ls []) := by
    intro n
    induction n with
    | zero => intro i hi hn; exact absurd hn (by omega)
    | succ n ih33 =>
      intro i hi hn  H locs ls hP hD hS hl
      refine lv_iload F.1 F.2.1 dX4_grade_33 (lv_at hl 5 rfl) ?_
      refine lv_iload F.1 F.2.1 dX4_grade_35 (lv_at hl 4 rfl) ?_
      refine k_icmp_ge (tgt := 61) F (by omega) (by omega) dX4_grade_37 (by decide) (fun h37 => ?_) (fun h37 => ?_)
      · skip
        refine lv_iload_n F.1 F.2.1 dX4_grade_61 rfl (lv_at hl 2 rfl) ?_
        have hP := P_pre hP
        exact k_retGI F hr hlk hP rfl hS hz (by rw [show i = 4 by omega, gd_4]) rfl (show 0 + 1 ≤ 1 by omega) (show 0 + 4 ≤ 4 by omega) dX4_grade_62
      · skip
        refine lv_aload_n F.1 F.2.1 dX4_grade_40 rfl (lv_at hl 3 rfl) ?_
        refine lv_iload F.1 F.2.1 dX4_grade_41 (lv_at hl 5 rfl) ?_
        refine k_iald (f := updN (updN (updN (updN (fun _ => 0) 0 0) 1 5) 2 10) 3 20) (n := 4) F hK.1 hP 0 0 rfl rfl (by omega) (by decide) dX4_grade_43 ?_
        rw [ov_at (by omega)]
        have ho9 := ov_le i
        refine lv_istore (lv' := [(6, .int (nI (ovN i))), (0, .int (nI h)), (1, .ref q1), (2, .int (nI (gdN h i))), (3, .ref q1), (4, .int (nI 4)), (5, .int (nI i))]) F.1 F.2.1 dX4_grade_44 hl (by decide) rfl (fun ls hl => ?_)
        refine lv_iload_n F.1 F.2.1 dX4_grade_46 rfl (lv_at hl 1 rfl) ?_
        refine lv_iload F.1 F.2.1 dX4_grade_47 (lv_at hl 0 rfl) ?_
        refine k_icmp_le (tgt := 55) F (by omega) (by omega) dX4_grade_49 (by decide) (fun h49 => ?_) (fun h49 => ?_)
        · skip
          refine k_inc (k := 6) (lv' := [(5, .int (nI (i + 1))), (6, .int (nI (ovN i))), (0, .int (nI h)), (1, .ref q1), (2, .int (nI (gdN h i))), (3, .ref q1), (4, .int (nI 4))]) F dX4_grade_55 hl rfl (by decide) rfl (fun ls hl => ?_)
          refine lv_goto (tgt := 33) F.1 F.2.1 dX4_grade_58 (by decide) ?_
          have e_1 : gdN h i = gdN h (i + 1) := by rw [(show gdN h (i + 1) = if ovN i < h then gdN h i + 1 else gdN h i from rfl), if_neg (by omega)]
          rw [e_1] at hl
          exact ih33 (i + 1) (by omega) (by omega)  _ _ _ hP hD hS (lv_sub hl [2, 3, 4, 5, 6, 0] rfl)
        · skip
          refine k_inc (k := 3) (lv' := [(2, .int (nI (gdN h i + 1))), (6, .int (nI (ovN i))), (0, .int (nI h)), (1, .ref q1), (3, .ref q1), (4, .int (nI 4)), (5, .int (nI i))]) F dX4_grade_52 hl rfl (by decide) rfl (fun ls hl => ?_)
          refine k_inc (k := 6) (lv' := [(5, .int (nI (i + 1))), (2, .int (nI (gdN h i + 1))), (6, .int (nI (ovN i))), (0, .int (nI h)), (1, .ref q1), (3, .ref q1), (4, .int (nI 4))]) F dX4_grade_55 hl rfl (by decide) rfl (fun ls hl => ?_)
          refine lv_goto (tgt := 33) F.1 F.2.1 dX4_grade_58 (by decide) ?_
          have e_2 : (gdN h i + 1) = gdN h (i + 1) := by rw [(show gdN h (i + 1) = if ovN i < h then gdN h i + 1 else gdN h i from rfl), if_pos (by omega)]
          rw [e_2] at hl
          exact ih33 (i + 1) (by omega) (by omega)  _ _ _ hP hD hS (lv_sub hl [3, 4, 1, 5, 6, 0] rfl)
  have e_3 : 0 = gdN h 0 := rfl
  rw [e_3] at hl
  exact loop33 (4 + 1) 0 (by omega) (by omega)  _ _ _ hP hD hS (lv_sub hl [5, 4, 3, 2, 1, 0] rfl)
theorem nX4_feed_X4 : ∀ x ∈ wsX40, x ∈ wsX4_feed := fun _ h => List.mem_cons_of_mem _ (List.mem_append_right _ h)
set_option maxRecDepth 100000 in
set_option maxHeartbeats 4000000 in
theorem c_X4_feed (l : Launch) (D : va_G) (cI cA : ClassId) (z : Nat → Nat) (S : Nat → Nat → Nat) (v : Nat) (k : Nat) (hI : Inv S) (hv : v < S 0 2) (hk : k < S 0 1) (h1 : 1 ≤ S 8 v) (hm : 1 ≤ S 3 k) : GV l yX4_feed wsX4_feed 0 0 0 0 D cI cA [.ref (z 0), .ref (z (12 + v)), .ref (z (4 + k))] (wSi cI cA z S) (wSi cI cA z (payS S v k)) := by
  intro sz
  refine q_bodyG (cc := cX4_feed) (maxL := 3) (ret := none) (by decide) rfl (Nat.le_of_ble_eq_true rfl) ?_
  intro p e s m args below meth c H ls hz F hr hlk hl hP hK hD hS
  have F : CallFix p m c cX4_feed 3 s args wsX4_feed RX4 := F
  have hl : lv_has ls 3 [(0, .ref (z 0)), (1, .ref (z (12 + v))), (2, .ref (z (4 + k)))] := hl
  have hi0 := hI.gates
  have hi1 := hI.geese
  have hi2 := hI.guests
  refine lv_aload_n F.1 F.2.1 dX4_feed_0 rfl (lv_at hl 1 rfl) ?_
  refine lv_iconst (v := nI 2) F.1 F.2.1 dX4_feed_1 (by decide) ?_
  refine lv_dup2_11 F.1 F.2.1 dX4_feed_2 rfl rfl ?_
  refine q_iald (v := S 8 v) F hK hP (4 + S 0 1 + v) (wSi_v (show v < S 0 2 by omega)) (by decide) (by first | omega | decide) rfl dX4_feed_3 ?_
  have := hI.has v
  refine lv_iconst (v := nI 1) F.1 F.2.1 dX4_feed_4 (by decide) ?_
  refine k_isub F (by omega) dX4_feed_5 ?_
  refine q_iast (k := 2) (x := (S 8 v - 1)) F hK hP hD hS (4 + S 0 1 + v) (wSi_v (show v < S 0 2 by omega)) (by decide) (by first | omega | decide) dX4_feed_6 (wSi cI cA z (setf S 8 v (S 8 v - 1))) (wSi_sv 2 (S 8 v - 1) (show v < S 0 2 by omega) (by decide)) (fun H locs hP hD hS => ?_)
  refine lv_aload_n F.1 F.2.1 dX4_feed_7 rfl (lv_at hl 2 rfl) ?_
  refine lv_iconst (v := nI 3) F.1 F.2.1 dX4_feed_8 (by decide) ?_
  refine lv_dup2_11 F.1 F.2.1 dX4_feed_9 rfl rfl ?_
  refine q_iald (v := S 5 k) F hK hP (4 + k) (wSi_g (show k < S 0 1 by omega)) (by decide) (by first | omega | decide) rfl dX4_feed_10 ?_
  refine lv_iconst (v := nI 1) F.1 F.2.1 dX4_feed_11 (by decide) ?_
  refine k_iadd F dX4_feed_12 ?_
  refine q_iast (k := 3) (x := (S 5 k + 1)) F hK hP hD hS (4 + k) (wSi_g (show k < S 0 1 by omega)) (by decide) (by first | omega | decide) dX4_feed_13 (wSi cI cA z (setf (setf S 8 v (S 8 v - 1)) 5 k (S 5 k + 1))) (wSi_sg 3 (S 5 k + 1) (show k < S 0 1 by omega) (by decide)) (fun H locs hP hD hS => ?_)
  refine lv_aload_n F.1 F.2.1 dX4_feed_14 rfl (lv_at hl 2 rfl) ?_
  refine lv_iconst (v := nI 2) F.1 F.2.1 dX4_feed_15 (by decide) ?_
  refine lv_iconst (v := nI 3) F.1 F.2.1 dX4_feed_16 (by decide) ?_
  refine q_iast (k := 2) (x := 3) F hK hP hD hS (4 + k) (wSi_g (show k < S 0 1 by omega)) (by decide) (by first | omega | decide) dX4_feed_17 (wSi cI cA z (setf (setf (setf S 8 v (S 8 v - 1)) 5 k (S 5 k + 1)) 4 k 3)) (wSi_sg 2 3 (show k < S 0 1 by omega) (by decide)) (fun H locs hP hD hS => ?_)
  refine lv_aload_n F.1 F.2.1 dX4_feed_18 rfl (lv_at hl 2 rfl) ?_
  refine lv_iconst (v := nI 1) F.1 F.2.1 dX4_feed_19 (by decide) ?_
  refine q_iald (v := S 3 k) F hK hP (4 + k) (wSi_g (show k < S 0 1 by omega)) (by decide) (by first | omega | decide) rfl dX4_feed_20 ?_
  have := hI.mood k
  refine lv_iconst (v := nI 1) F.1 F.2.1 dX4_feed_21 (by decide) ?_
  refine k_icmp_le (tgt := 32) F (by omega) (by omega) dX4_feed_22 (by decide) (fun h22 => ?_) (fun h22 => ?_)
  · skip
    refine lv_aload_n F.1 F.2.1 dX4_feed_32 rfl (lv_at hl 0 rfl) ?_
    refine lv_dup F.1 F.2.1 dX4_feed_33 rfl ?_
    refine k_get (v := .int (nI (S 0 4))) F nX4_feed_X4 hK.1.1 hP 0 rfl rfl 1 (by decide) (List.mem_of_getElem? (i := 1) rfl) rfl dX4_feed_34 ?_
    refine lv_iconst (v := nI 1) F.1 F.2.1 dX4_feed_37 (by decide) ?_
    refine k_iadd F dX4_feed_38 ?_
    refine k_put F nX4_feed_X4 tyX4 tyX4_ok nmX4 hK.1.1 hP hD hS 0 rfl rfl 1 (by decide) (List.mem_of_getElem? (i := 1) rfl) rfl (by decide +kernel) (Nat.le_of_ble_eq_true rfl) dX4_feed_39 (wSi cI cA z (setf (setf (setf (setf S 8 v (S 8 v - 1)) 5 k (S 5 k + 1)) 4 k 3) 0 4 (S 0 4 + 1))) (wSi_s4 (S 0 4 + 1)) (fun H locs hP hD hS => ?_)
    exact k_retGV F hr hlk hP (congrArg (wSi cI cA z) (by show setf (setf (setf (setf S 8 v (S 8 v - 1)) 5 k (S 5 k + 1)) 4 k 3) 0 4 (S 0 4 + 1) = payS S v k; unfold payS; rw [show max 1 (S 3 k - 1) = S 3 k by omega, setf_same (setf (setf (setf S 8 v (S 8 v - 1)) 5 k (S 5 k + 1)) 4 k 3) 3 k (S 3 k) rfl])) hS hz (show 0 ≤ 0 by omega) (show 0 ≤ 0 by omega) dX4_feed_42
  · skip
    refine lv_aload_n F.1 F.2.1 dX4_feed_25 rfl (lv_at hl 2 rfl) ?_
    refine lv_iconst (v := nI 1) F.1 F.2.1 dX4_feed_26 (by decide) ?_
    refine lv_dup2_11 F.1 F.2.1 dX4_feed_27 rfl rfl ?_
    refine q_iald (v := S 3 k) F hK hP (4 + k) (wSi_g (show k < S 0 1 by omega)) (by decide) (by first | omega | decide) rfl dX4_feed_28 ?_
    have := hI.mood k
    refine lv_iconst (v := nI 1) F.1 F.2.1 dX4_feed_29 (by decide) ?_
    refine k_isub F (by omega) dX4_feed_30 ?_
    refine q_iast (k := 1) (x := (S 3 k - 1)) F hK hP hD hS (4 + k) (wSi_g (show k < S 0 1 by omega)) (by decide) (by first | omega | decide) dX4_feed_31 (wSi cI cA z (setf (setf (setf (setf S 8 v (S 8 v - 1)) 5 k (S 5 k + 1)) 4 k 3) 3 k (S 3 k - 1))) (wSi_sg 1 (S 3 k - 1) (show k < S 0 1 by omega) (by decide)) (fun H locs hP hD hS => ?_)
    refine lv_aload_n F.1 F.2.1 dX4_feed_32 rfl (lv_at hl 0 rfl) ?_
    refine lv_dup F.1 F.2.1 dX4_feed_33 rfl ?_
    refine k_get (v := .int (nI (S 0 4))) F nX4_feed_X4 hK.1.1 hP 0 rfl rfl 1 (by decide) (List.mem_of_getElem? (i := 1) rfl) rfl dX4_feed_34 ?_
    refine lv_iconst (v := nI 1) F.1 F.2.1 dX4_feed_37 (by decide) ?_
    refine k_iadd F dX4_feed_38 ?_
    refine k_put F nX4_feed_X4 tyX4 tyX4_ok nmX4 hK.1.1 hP hD hS 0 rfl rfl 1 (by decide) (List.mem_of_getElem? (i := 1) rfl) rfl (by decide +kernel) (Nat.le_of_ble_eq_true rfl) dX4_feed_39 (wSi cI cA z (setf (setf (setf (setf (setf S 8 v (S 8 v - 1)) 5 k (S 5 k + 1)) 4 k 3) 3 k (S 3 k - 1)) 0 4 (S 0 4 + 1))) (wSi_s4 (S 0 4 + 1)) (fun H locs hP hD hS => ?_)
    exact k_retGV F hr hlk hP (congrArg (wSi cI cA z) (by unfold payS; rw [show max 1 (S 3 k - 1) = S 3 k - 1 by omega])) hS hz (show 0 ≤ 0 by omega) (show 0 ≤ 0 by omega) dX4_feed_42
theorem nX4_inFarm_X4 : ∀ x ∈ wsX40, x ∈ wsX4_inFarm := fun _ h => List.mem_cons_of_mem _ (List.mem_append_right _ h)
set_option maxRecDepth 100000 in
set_option maxHeartbeats 4000000 in
theorem c_X4_inFarm (l : Launch) (D : va_G) (cI cA : ClassId) (z : Nat → Nat) (S : Nat → Nat → Nat) (hI : Inv S) : PS l yX4_inFarm wsX4_inFarm 1 21 D cI cA [.ref (z 0)] (wSi cI cA z S) (nI (inN S (S 0 2))) := by
  refine q_bodyP (cc := cX4_inFarm) (maxL := 6) (ret := (some .int)) (by decide) rfl (Nat.le_of_ble_eq_true rfl) ?_
  intro p e s m args below meth c H ls F hr hlk hl hP hK hS
  have F : CallFix p m c cX4_inFarm 6 s args wsX4_inFarm RX4 := F
  have hl : lv_has ls 6 [(0, .ref (z 0))] := hl
  have hi0 := hI.gates
  have hi1 := hI.geese
  have hi2 := hI.guests
  refine lv_iconst (v := nI 0) F.1 F.2.1 dX4_inFarm_0 (by decide) ?_
  refine lv_istore_n (lv' := [(1, .int (nI 0)), (0, .ref (z 0))]) F.1 F.2.1 dX4_inFarm_1 rfl hl (by decide) rfl (fun ls hl => ?_)
  refine lv_aload_n F.1 F.2.1 dX4_inFarm_2 rfl (lv_at hl 1 rfl) ?_
  refine k_get (v := .ref (z 3)) F nX4_inFarm_X4 hK.1.1 hP 0 rfl rfl 5 (by decide) (List.mem_of_getElem? (i := 1) rfl) rfl dX4_inFarm_3 ?_
  refine lv_astore_n (lv' := [(2, .ref (z 3)), (1, .int (nI 0)), (0, .ref (z 0))]) F.1 F.2.1 dX4_inFarm_6 rfl hl (by decide) rfl (fun ls hl => ?_)
  refine lv_aload_n F.1 F.2.1 dX4_inFarm_7 rfl (lv_at hl 0 rfl) ?_
  refine q_alenA F hK hP 3 rfl dX4_inFarm_8 ?_
  refine lv_istore_n (lv' := [(3, .int (nI (S 0 2))), (2, .ref (z 3)), (1, .int (nI 0)), (0, .ref (z 0))]) F.1 F.2.1 dX4_inFarm_9 rfl hl (by decide) rfl (fun ls hl => ?_)
  refine lv_iconst (v := nI 0) F.1 F.2.1 dX4_inFarm_10 (by decide) ?_
  refine lv_istore (lv' := [(4, .int (nI 0)), (3, .int (nI (S 0 2))), (2, .ref (z 3)), (1, .int (nI 0)), (0, .ref (z 0))]) F.1 F.2.1 dX4_inFarm_11 hl (by decide) rfl (fun ls hl => ?_)
  have loop13 : ∀ (n : Nat) (i : Nat), i ≤ S 0 2 → S 0 2 + 1 ≤ i + n → ∀ (H : Heap) (locs : List Loc) (ls : Array Slot), va_P D vwCl (wSi cI cA z S) H → va_S (fun _ => False) s.heap H locs → lv_has ls 6 [(0, .ref (z 0)), (1, .int (nI (inN S i))), (2, .ref (z 3)), (3, .int (nI (S 0 2))), (4, .int (nI i))] → W p l e (rmN 1 21) s m args below meth c H locs (0) (0) (QPI below args s (nI (inN S (S 0 2)))) (F0 m 13 ls []) := by
    intro n
    induction n with
    | zero => intro i hi hn; exact absurd hn (by omega)
    | succ n ih13 =>
      intro i hi hn  H locs ls hP hS hl
      refine lv_iload F.1 F.2.1 dX4_inFarm_13 (lv_at hl 4 rfl) ?_
      refine lv_iload_n F.1 F.2.1 dX4_inFarm_15 rfl (lv_at hl 3 rfl) ?_
      refine k_icmp_ge (tgt := 43) F (by omega) (by omega) dX4_inFarm_16 (by decide) (fun h16 => ?_) (fun h16 => ?_)
      · skip
        refine lv_iload_n F.1 F.2.1 dX4_inFarm_43 rfl (lv_at hl 1 rfl) ?_
        exact k_retP F hr hlk hS (by rw [show i = S 0 2 by omega]) rfl dX4_inFarm_44
      · skip
        refine lv_aload_n F.1 F.2.1 dX4_inFarm_19 rfl (lv_at hl 2 rfl) ?_
        refine lv_iload F.1 F.2.1 dX4_inFarm_20 (lv_at hl 4 rfl) ?_
        refine q_aald (v := z (12 + i)) F hK hP 3 rfl (show i < S 0 2 by omega) (show S 0 2 < 2 ^ 31 by omega) rfl dX4_inFarm_22 ?_
        refine lv_astore (lv' := [(5, .ref (z (12 + i))), (0, .ref (z 0)), (1, .int (nI (inN S i))), (2, .ref (z 3)), (3, .int (nI (S 0 2))), (4, .int (nI i))]) F.1 F.2.1 dX4_inFarm_23 hl (by decide) rfl (fun ls hl => ?_)
        refine lv_aload_n F.1 F.2.1 dX4_inFarm_25 rfl (lv_at hl 1 rfl) ?_
        refine lv_aload F.1 F.2.1 dX4_inFarm_26 (lv_at hl 0 rfl) ?_
        refine q_pV (n := 1) (rest := []) (v := bI (S 0 0 ≤ S 7 i)) F (c_X4_isIn l D cI cA z S i hI (by first | assumption | omega)) gX4_inFarm_X4_isIn rfl (by decide +kernel) ⟨Nat.le_of_ble_eq_true rfl, Nat.le_of_ble_eq_true rfl⟩ rfl hl.1 rfl (Nat.le_of_ble_eq_true rfl) dX4_inFarm_28 ⟨Nat.zero_le _, Nat.zero_le _⟩ hK hP hS ap_s (q0 := 0) (ci := 4) rfl rfl (fun H locs hP hS => ?_)
        refine k_ifeq_b (tgt := 37) F dX4_inFarm_31 (by decide) (fun h31 => ?_) (fun h31 => ?_)
        · skip
          refine k_inc (k := 5) (lv' := [(4, .int (nI (i + 1))), (5, .ref (z (12 + i))), (0, .ref (z 0)), (1, .int (nI (inN S i))), (2, .ref (z 3)), (3, .int (nI (S 0 2)))]) F dX4_inFarm_37 hl rfl (by decide) rfl (fun ls hl => ?_)
          refine lv_goto (tgt := 13) F.1 F.2.1 dX4_inFarm_40 (by decide) ?_
          have e_1 : inN S i = inN S (i + 1) := by rw [(show inN S (i + 1) = if S 0 0 ≤ S 7 i then inN S i + 1 else inN S i from rfl), if_neg h31]
          rw [e_1] at hl
          exact ih13 (i + 1) (by omega) (by omega)  _ _ _ hP hS (lv_sub hl [2, 3, 4, 5, 0] rfl)
        · skip
          refine k_inc (k := 2) (lv' := [(1, .int (nI (inN S i + 1))), (5, .ref (z (12 + i))), (0, .ref (z 0)), (2, .ref (z 3)), (3, .int (nI (S 0 2))), (4, .int (nI i))]) F dX4_inFarm_34 hl rfl (by decide) rfl (fun ls hl => ?_)
          refine k_inc (k := 5) (lv' := [(4, .int (nI (i + 1))), (1, .int (nI (inN S i + 1))), (5, .ref (z (12 + i))), (0, .ref (z 0)), (2, .ref (z 3)), (3, .int (nI (S 0 2)))]) F dX4_inFarm_37 hl rfl (by decide) rfl (fun ls hl => ?_)
          refine lv_goto (tgt := 13) F.1 F.2.1 dX4_inFarm_40 (by decide) ?_
          have e_2 : (inN S i + 1) = inN S (i + 1) := by rw [(show inN S (i + 1) = if S 0 0 ≤ S 7 i then inN S i + 1 else inN S i from rfl), if_pos h31]
          rw [e_2] at hl
          exact ih13 (i + 1) (by omega) (by omega)  _ _ _ hP hS (lv_sub hl [3, 1, 4, 5, 0] rfl)
  have e_3 : 0 = inN S 0 := rfl
  rw [e_3] at hl
  exact loop13 ((S 0 2) + 1) 0 (by omega) (by omega)  _ _ _ hP hS (lv_sub hl [4, 3, 2, 1, 0] rfl)
