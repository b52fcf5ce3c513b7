/-! how many geese of a temper; calming by them -/
def mcF (S : Nat → Nat → Nat) (t : Nat) : Nat → Nat → Nat
  | 0 => fun _ => 0
  | n + 1 => if awk S n t then updN (mcF S t n) (S 3 n) (mcF S t n (S 3 n) + 1) else mcF S t n
theorem mcF_y {S : Nat → Nat → Nat} {t n : Nat} (h : awk S n t) : mcF S t (n + 1) = updN (mcF S t n) (S 3 n) (mcF S t n (S 3 n) + 1) := if_pos h
theorem mcF_n {S : Nat → Nat → Nat} {t n : Nat} (h : ¬ awk S n t) : mcF S t (n + 1) = mcF S t n := if_neg h
theorem mcF_le (S : Nat → Nat → Nat) (t : Nat) : ∀ n m, mcF S t n m ≤ n
  | 0, _ => Nat.le_refl _
  | n + 1, m => by
    have h1 := mcF_le S t n m
    have h2 := mcF_le S t n (S 3 n)
    by_cases a : awk S n t
    · rw [mcF_y a]
      show (if m = S 3 n then mcF S t n (S 3 n) + 1 else mcF S t n m) ≤ n + 1
      split <;> omega
    · rw [mcF_n a]; omega
def itN (w d : Nat) (p : Nat × Nat) : Nat → Nat × Nat
  | 0 => p
  | n + 1 => if w < (itN w d p n).1 then ((itN w d p n).1 - d, (itN w d p n).2 + 1) else itN w d p n
theorem itN_y {w d : Nat} {p : Nat × Nat} {n : Nat} (h : w < (itN w d p n).1) : itN w d p (n + 1) = ((itN w d p n).1 - d, (itN w d p n).2 + 1) := if_pos h
theorem itN_n {w d : Nat} {p : Nat × Nat} {n : Nat} (h : ¬ w < (itN w d p n).1) : itN w d p (n + 1) = itN w d p n := if_neg h
theorem itN_le (w d : Nat) (p : Nat × Nat) : ∀ n, (itN w d p n).1 ≤ p.1 ∧ (itN w d p n).2 ≤ p.2 + n
  | 0 => ⟨Nat.le_refl _, Nat.le_refl _⟩
  | n + 1 => by
    have h := itN_le w d p n
    by_cases c : w < (itN w d p n).1
    · rw [itN_y c]; exact ⟨by show _ - _ ≤ _; omega, by show _ + 1 ≤ _; omega⟩
    · rw [itN_n c]; omega
theorem it_cal (S : Nat → Nat → Nat) (w t x m : Nat) (p : Nat × Nat) : ∀ n, itN w (m + x) p (mcF S t n m) = calI S w t x m p n
  | 0 => rfl
  | n + 1 => by
    have ih := it_cal S w t x m p n
    show _ = if w < (calI S w t x m p n).1 ∧ S 3 n = m ∧ awk S n t then ((calI S w t x m p n).1 - (m + x), (calI S w t x m p n).2 + 1) else calI S w t x m p n
    by_cases a : awk S n t
    · by_cases b : S 3 n = m
      · have e : mcF S t (n + 1) m = mcF S t n m + 1 := by
          rw [mcF_y a]
          show (if m = S 3 n then mcF S t n (S 3 n) + 1 else mcF S t n m) = _
          rw [if_pos b.symm, b]
        rw [e]
        by_cases c : w < (calI S w t x m p n).1
        · rw [if_pos ⟨c, b, a⟩, itN_y (by rw [ih]; exact c), ih]
        · rw [if_neg (fun q => c q.1), itN_n (by rw [ih]; exact c), ih]
      · have e : mcF S t (n + 1) m = mcF S t n m := by
          rw [mcF_y a]
          show (if m = S 3 n then mcF S t n (S 3 n) + 1 else mcF S t n m) = _
          rw [if_neg (fun q => b q.symm)]
        rw [e, ih, if_neg (fun q => b q.2.1)]
    · rw [mcF_n a, ih, if_neg (fun q => a q.2.2)]
theorem rem_cnt (S : Nat → Nat → Nat) (t x m : Nat) : ∀ n, remN S t x (m + 1) 0 n = mcF S t n (m + 1) * (m + 1 + x) + remN S t x m 0 n
  | 0 => by show 0 = 0 * (m + 1 + x) + 0; rw [Nat.zero_mul]
  | n + 1 => by
    have ih := rem_cnt S t x m n
    show (if awk S n t ∧ (S 3 n < m + 1 ∨ (S 3 n = m + 1 ∧ 0 ≤ n)) then remN S t x (m + 1) 0 n + (S 3 n + x) else remN S t x (m + 1) 0 n) = _ + (if awk S n t ∧ (S 3 n < m ∨ (S 3 n = m ∧ 0 ≤ n)) then remN S t x m 0 n + (S 3 n + x) else remN S t x m 0 n)
    by_cases a : awk S n t
    · rw [mcF_y a]
      show _ = (if m + 1 = S 3 n then mcF S t n (S 3 n) + 1 else mcF S t n (m + 1)) * _ + _
      by_cases b : S 3 n = m + 1
      · rw [if_pos ⟨a, Or.inr ⟨b, Nat.zero_le _⟩⟩, if_pos b.symm, if_neg (by rintro ⟨-, q⟩; omega), ih, b, Nat.succ_mul]
        omega
      · have e7 : (if m + 1 = S 3 n then mcF S t n (S 3 n) + 1 else mcF S t n (m + 1)) = mcF S t n (m + 1) := if_neg (fun q => b q.symm)
        rw [e7]
        by_cases d : S 3 n ≤ m
        · have c1 : awk S n t ∧ (S 3 n < m + 1 ∨ (S 3 n = m + 1 ∧ 0 ≤ n)) := ⟨a, Or.inl (by omega)⟩
          have c2 : awk S n t ∧ (S 3 n < m ∨ (S 3 n = m ∧ 0 ≤ n)) := ⟨a, by omega⟩
          rw [if_pos c1, if_pos c2, ih]; omega
        · have c1 : ¬ (awk S n t ∧ (S 3 n < m + 1 ∨ (S 3 n = m + 1 ∧ 0 ≤ n))) := fun q => by have := q.2; omega
          have c2 : ¬ (awk S n t ∧ (S 3 n < m ∨ (S 3 n = m ∧ 0 ≤ n))) := fun q => by have := q.2; omega
          rw [if_neg c1, if_neg c2, ih]
    · rw [if_neg (fun q => a q.1), if_neg (fun q => a q.1), mcF_n a, ih]
theorem it_rem {c i d r h : Nat} (hi : i < c) (hr : (c - i) * d + r ≤ h) : (c - (i + 1)) * d + r ≤ h - d ∧ d ≤ h := by
  obtain ⟨k, rfl⟩ : ∃ k, c = i + 1 + k := ⟨c - (i + 1), by omega⟩
  rw [show i + 1 + k - i = k + 1 by omega, Nat.succ_mul] at hr
  rw [show i + 1 + k - (i + 1) = k by omega]
  omega
theorem it_out {c d r h : Nat} (hr : (c - c) * d + r ≤ h) : r ≤ h := by
  rw [Nat.sub_self, Nat.zero_mul] at hr
  omega
theorem it_stay {w d : Nat} {p : Nat × Nat} {i : Nat} (h : ¬ w < (itN w d p i).1) : ∀ k, itN w d p (i + k) = itN w d p i
  | 0 => rfl
  | k + 1 => by
    have ih := it_stay (d := d) h k
    show (if w < (itN w d p (i + k)).1 then _ else itN w d p (i + k)) = _
    rw [ih]
    exact if_neg h
theorem it_to {w d : Nat} {p : Nat × Nat} {i m : Nat} (h : ¬ w < (itN w d p i).1) (hm : i ≤ m) : itN w d p m = itN w d p i := by
  obtain ⟨k, rfl⟩ : ∃ k, m = i + k := ⟨m - i, by omega⟩
  exact it_stay h k
theorem calI_0 (S : Nat → Nat → Nat) (w t x m : Nat) : ∀ n, calI S w t x m (0, 0) n = (0, 0)
  | 0 => rfl
  | n + 1 => by
    have ih := calI_0 S w t x m n
    show (if w < (calI S w t x m (0, 0) n).1 ∧ S 3 n = m ∧ awk S n t then _ else calI S w t x m (0, 0) n) = _
    rw [ih]
    exact if_neg (fun q => absurd q.1 (Nat.not_lt_zero _))
theorem calO_0 (S : Nat → Nat → Nat) (w t x n : Nat) : ∀ j, calO S w t x 0 n j = (0, 0)
  | 0 => rfl
  | j + 1 => by
    show calI S w t x (9 - j) (calO S w t x 0 n j) n = _
    rw [calO_0 S w t x n j, calI_0]
theorem calm_farm {S : Nat → Nat → Nat} (hI : Inv S) {v : Nat} (h : S 0 0 ≤ S 7 v) : calmN S v = 0 := by
  unfold calmN
  rw [hisG_farm hI h, calO_0]
/-! the digest -/
def mxL (d v : Int64) : Int64 := d * 31 + v
def dg0 (S : Nat → Nat → Nat) : Int64 := mxL (mxL (mxL (mxL (mxL (mxL (mxL (mxL 1973 (nI (S 0 3)).toInt64) (nI (S 0 0)).toInt64) (nI (S 0 1)).toInt64) (nI (S 0 2)).toInt64) (nI (inN S (S 0 2))).toInt64) (nI (S 0 4)).toInt64) (nI (S 0 5)).toInt64) (oI (ldN S (S 0 0)).1).toInt64
def dgG (S : Nat → Nat → Nat) (x : Int64) : Nat → Int64
  | 0 => x
  | n + 1 => mxL (mxL (dgG S x n) (nI (S 1 n)).toInt64) (nI (cntN S n (S 0 1))).toInt64
def dgK (S : Nat → Nat → Nat) (x : Int64) : Nat → Int64
  | 0 => x
  | n + 1 => mxL (mxL (mxL (mxL (dgK S x n) (nI (S 2 n)).toInt64) (nI (S 3 n)).toInt64) (nI (S 4 n)).toInt64) (nI (S 5 n)).toInt64
def dgV (S : Nat → Nat → Nat) (x : Int64) : Nat → Int64
  | 0 => x
  | n + 1 => mxL (mxL (mxL (mxL (mxL (mxL (mxL (mxL (mxL (mxL (dgV S x n) (nI (S 7 n)).toInt64) (nI (S 8 n)).toInt64) (nI (S 9 n)).toInt64) (nI (S 10 n)).toInt64) (nI (hisG S (S 7 n) (S 6 n))).toInt64) (bI (dareP S n)).toInt64) (arrI S n 60).toInt64) (oI (frcN S (S 7 n) (S 0 1)).1).toInt64) (nI (calmN S n)).toInt64) (oI (rkN S n 10)).toInt64
def dgst (S : Nat → Nat → Nat) : Int64 := dgV S (dgK S (dgG S (dg0 S) (S 0 0)) (S 0 1)) (S 0 2)
/-- what is kept behind the first n visitors of a digest -/
def kepN (S : Nat → Nat → Nat) (K : Nat → Nat) : Nat → Nat → Nat
  | 0 => K
  | _ + 1 => encN S
theorem wMo_kep {cI : ClassId} {u : Nat → Nat} {S : Nat → Nat → Nat} {th : Int32} {K : Nat → Nat} {n : Nat} : wMo cI u S th (encN S) = wMo cI u S th (kepN S K (n + 1)) := rfl
theorem nX4_calmWanted_X4 : ∀ x ∈ wsX40, x ∈ wsX4_calmWanted := fun _ h => List.mem_cons_of_mem _ (List.mem_append_right _ h)
set_option maxRecDepth 100000 in
set_option maxHeartbeats 4000000 in
theorem c_X4_calmWanted (l : Launch) (D : va_G) (cI : ClassId) (u : Nat → Nat) (S : Nat → Nat → Nat) (th : Int32) (K : Nat → Nat) (v : Nat) (hI : Inv S) (hv : v < 8) : GI l yX4_calmWanted wsX4_calmWanted 4 1 10 89 D [(cI, .int)] [.ref (u 0), .int (nI v)] (wMo cI u S th K) (wMo cI u S th K) (nI (calmN S v)) := by
  intro sz
  refine k_bodyG (cc := cX4_calmWanted) (maxL := 8) (ret := (some .int)) (by decide) rfl (Nat.le_of_ble_eq_true rfl) ?_
  intro p e s m args below meth c H ls hz F hr hlk hl hP hK hD hS
  have F : CallFix p m c cX4_calmWanted 8 s args wsX4_calmWanted RX4 := F
  have hl : lv_has ls 8 [(0, .ref (u 0)), (1, .int (nI v))] := hl
  have hi0 := hI.gates
  have hi1 := hI.geese
  have hi2 := hI.guests
  have hh9 := hisG_le hI (S 7 v) (S 6 v)
  have hw9 := hI.went v
  have ho9 := hI.own v
  have hb9 := hI.brave v
  have hl9 := lackN_le hI (S 7 v) (S 6 v)
  refine lv_aload_n F.1 F.2.1 dX4_calmWanted_0 rfl (lv_at hl 0 rfl) ?_
  refine lv_iload_n F.1 F.2.1 dX4_calmWanted_1 rfl (lv_at hl 1 rfl) ?_
  refine k_pV (n := 1) (rest := []) (v := bI (S 0 0 ≤ S 7 v)) F (c_X4_isIn_ l D cI u S th K v hI (by first | assumption | omega)) gX4_calmWanted_X4_isIn_ rfl (by decide +kernel) ⟨Nat.le_of_ble_eq_true rfl, Nat.le_of_ble_eq_true rfl⟩ rfl hl.1 rfl (Nat.le_of_ble_eq_true rfl) dX4_calmWanted_2 ⟨show 0 ≤ 1 by omega, show 0 ≤ 10 by omega⟩ hK hP hS [0, 1, 2, 3, 4, 5] rfl (q0 := 0) (ci := 4) rfl rfl (fun H locs hP hS => ?_)
  refine k_ifeq_b (tgt := 10) F dX4_calmWanted_5 (by decide) (fun h5 => ?_) (fun h5 => ?_)
  · skip
    refine lv_aload_n F.1 F.2.1 dX4_calmWanted_10 rfl (lv_at hl 0 rfl) ?_
    refine lv_iload_n F.1 F.2.1 dX4_calmWanted_11 rfl (lv_at hl 1 rfl) ?_
    refine lv_iconst (v := nI 0) F.1 F.2.1 dX4_calmWanted_12 (by decide) ?_
    refine k_pV (n := 2) (rest := []) (v := nI (S 7 v)) F (c_X4_vi l D cI u S th K v 0 (by first | assumption | omega) (by first | assumption | omega)) gX4_calmWanted_X4_vi rfl (by decide +kernel) ⟨Nat.le_of_ble_eq_true rfl, Nat.le_of_ble_eq_true rfl⟩ rfl hl.1 rfl (Nat.le_of_ble_eq_true rfl) dX4_calmWanted_13 ⟨show 0 ≤ 1 by omega, show 0 ≤ 10 by omega⟩ hK hP hS [0, 1, 2, 3, 4, 5] rfl (q0 := 0) (ci := 4) rfl rfl (fun H locs hP hS => ?_)
    refine lv_istore_n (lv' := [(2, .int (nI (S 7 v))), (0, .ref (u 0)), (1, .int (nI v))]) F.1 F.2.1 dX4_calmWanted_16 rfl hl (by decide) rfl (fun ls hl => ?_)
    refine lv_aload_n F.1 F.2.1 dX4_calmWanted_17 rfl (lv_at hl 1 rfl) ?_
    refine lv_iload_n F.1 F.2.1 dX4_calmWanted_18 rfl (lv_at hl 2 rfl) ?_
    refine k_pV (n := 1) (rest := []) (v := nI (hisG S (S 7 v) (S 6 v))) F (c_X4_hissNow l D cI u S th K v hI (by first | assumption | omega)) gX4_calmWanted_X4_hissNow rfl (by decide +kernel) ⟨Nat.le_of_ble_eq_true rfl, Nat.le_of_ble_eq_true rfl⟩ rfl hl.1 rfl (Nat.le_of_ble_eq_true rfl) dX4_calmWanted_19 ⟨show 0 ≤ 1 by omega, show 0 ≤ 10 by omega⟩ hK hP hS [0, 1, 2, 3, 4, 5] rfl (q0 := 0) (ci := 4) rfl rfl (fun H locs hP hS => ?_)
    refine lv_istore_n (lv' := [(3, .int (nI (hisG S (S 7 v) (S 6 v)))), (2, .int (nI (S 7 v))), (0, .ref (u 0)), (1, .int (nI v))]) F.1 F.2.1 dX4_calmWanted_22 rfl hl (by decide) rfl (fun ls hl => ?_)
    refine lv_iconst (v := nI 0) F.1 F.2.1 dX4_calmWanted_23 (by decide) ?_
    refine lv_istore (lv' := [(4, .int (nI 0)), (3, .int (nI (hisG S (S 7 v) (S 6 v)))), (2, .int (nI (S 7 v))), (0, .ref (u 0)), (1, .int (nI v))]) F.1 F.2.1 dX4_calmWanted_24 hl (by decide) rfl (fun ls hl => ?_)
    refine lv_bipush (v := nI 10) F.1 F.2.1 dX4_calmWanted_26 (by decide) ?_
    refine k_newa F (List.mem_of_getElem? (i := 1) rfl) hK hP hD hS (fun q h => Or.inr (by omega)) (k := 10) (by decide) ⟨show 0 + 1 ≤ 1 by omega, show 0 + 10 ≤ 10 by omega⟩ dX4_calmWanted_28 (fun q28 H hP hD hS => ?_)
    refine lv_astore (lv' := [(5, .ref q28), (4, .int (nI 0)), (3, .int (nI (hisG S (S 7 v) (S 6 v)))), (2, .int (nI (S 7 v))), (0, .ref (u 0)), (1, .int (nI v))]) F.1 F.2.1 dX4_calmWanted_30 hl (by decide) rfl (fun ls hl => ?_)
    refine lv_iconst (v := nI 0) F.1 F.2.1 dX4_calmWanted_32 (by decide) ?_
    refine lv_istore (lv' := [(6, .int (nI 0)), (5, .ref q28), (4, .int (nI 0)), (3, .int (nI (hisG S (S 7 v) (S 6 v)))), (2, .int (nI (S 7 v))), (0, .ref (u 0)), (1, .int (nI v))]) F.1 F.2.1 dX4_calmWanted_33 hl (by decide) rfl (fun ls hl => ?_)
    have loop35 : ∀ (n : Nat) (i : Nat), i ≤ S 0 1 → S 0 1 + 1 ≤ i + n → ∀ (H : Heap) (locs : List Loc) (ls : Array Slot), va_P D vwCl ((wMo cI u S th K) ++ [(q28, .inl (cI, 10, .inl (row (mcF S (S 7 v) i))))]) H → va_D (va_A (wMo cI u S th K) sz) ((wMo cI u S th K) ++ [(q28, .inl (cI, 10, .inl (row (mcF S (S 7 v) i))))]) → va_S (va_A (wMo cI u S th K) sz) s.heap H locs → lv_has ls 8 [(0, .ref (u 0)), (1, .int (nI v)), (2, .int (nI (S 7 v))), (3, .int (nI (hisG S (S 7 v) (S 6 v)))), (4, .int (nI 0)), (5, .ref q28), (6, .int (nI i))] → W p l e (rmG 4 1 10 89) s m args below meth c H locs (0 + 1) (0 + 10) (QGI below args s D 1 10 (wMo cI u S th K) sz (wMo cI u S th K) (nI (calmN S v))) (F0 m 35 ls []) := by
      intro n
      induction n with
      | zero => intro i hi hn; exact absurd hn (by omega)
      | succ n ih35 =>
        intro i hi hn  H locs ls hP hD hS hl
        refine lv_iload F.1 F.2.1 dX4_calmWanted_35 (lv_at hl 6 rfl) ?_
        refine lv_aload_n F.1 F.2.1 dX4_calmWanted_37 rfl (lv_at hl 0 rfl) ?_
        refine k_get (v := .int (nI (S 0 1))) F nX4_calmWanted_X4 hK.1 hP 0 rfl rfl 2 (by decide) (List.mem_of_getElem? (i := 2) rfl) rfl dX4_calmWanted_38 ?_
        refine k_icmp_ge (tgt := 74) F (by omega) (by omega) dX4_calmWanted_41 (by decide) (fun h41 => ?_) (fun h41 => ?_)
        · skip
          refine lv_bipush (v := nI 9) F.1 F.2.1 dX4_calmWanted_74 (by decide) ?_
          refine lv_istore (lv' := [(6, .int (nI 9)), (0, .ref (u 0)), (1, .int (nI v)), (2, .int (nI (S 7 v))), (3, .int (nI (hisG S (S 7 v) (S 6 v)))), (4, .int (nI 0)), (5, .ref q28)]) F.1 F.2.1 dX4_calmWanted_76 hl (by decide) rfl (fun ls hl => ?_)
          have loop78 : ∀ (n : Nat) (j : Nat), j ≤ 9 → 9 + 1 ≤ j + n → (remN S (S 7 v) (lackN S (S 7 v) (S 6 v)) (9 - j) 0 (S 0 1) ≤ (calO S (S 9 v) (S 7 v) (lackN S (S 7 v) (S 6 v)) (hisG S (S 7 v) (S 6 v)) (S 0 1) j).1) → ((calO S (S 9 v) (S 7 v) (lackN S (S 7 v) (S 6 v)) (hisG S (S 7 v) (S 6 v)) (S 0 1) j).1 ≤ 144) → ∀ (H : Heap) (locs : List Loc) (ls : Array Slot), va_P D vwCl ((wMo cI u S th K) ++ [(q28, .inl (cI, 10, .inl (row (mcF S (S 7 v) (S 0 1)))))]) H → va_D (va_A (wMo cI u S th K) sz) ((wMo cI u S th K) ++ [(q28, .inl (cI, 10, .inl (row (mcF S (S 7 v) (S 0 1)))))]) → va_S (va_A (wMo cI u S th K) sz) s.heap H locs → lv_has ls 8 [(0, .ref (u 0)), (1, .int (nI v)), (2, .int (nI (S 7 v))), (5, .ref q28), (3, .int (nI ((calO S (S 9 v) (S 7 v) (lackN S (S 7 v) (S 6 v)) (hisG S (S 7 v) (S 6 v)) (S 0 1) j).1))), (4, .int (nI ((calO S (S 9 v) (S 7 v) (lackN S (S 7 v) (S 6 v)) (hisG S (S 7 v) (S 6 v)) (S 0 1) j).2))), (6, .int (nI (9 - j)))] → W p l e (rmG 4 1 10 89) s m args below meth c H locs (0 + 1) (0 + 10) (QGI below args s D 1 10 (wMo cI u S th K) sz (wMo cI u S th K) (nI (calmN S v))) (F0 m 78 ls []) := by
            intro n
            induction n with
            | zero => intro j hi hn; exact absurd hn (by omega)
            | succ n ih78 =>
              intro j hi hn hq1 hu H locs ls hP hD hS hl
              refine lv_iload F.1 F.2.1 dX4_calmWanted_78 (lv_at hl 6 rfl) ?_
              refine k_if_le (tgt := 138) F (by omega) dX4_calmWanted_80 (by decide) (fun h80 => ?_) (fun h80 => ?_)
              · skip
                refine lv_iload F.1 F.2.1 dX4_calmWanted_138 (lv_at hl 5 rfl) ?_
                have hP := P_pre hP
                exact k_retGI F hr hlk hP rfl hS hz (by rw [show j = 9 by omega]; rfl) rfl (show 0 + 1 ≤ 1 by omega) (show 0 + 10 ≤ 10 by omega) dX4_calmWanted_140
              · skip
                refine lv_iconst (v := nI 0) F.1 F.2.1 dX4_calmWanted_83 (by decide) ?_
                refine lv_istore (lv' := [(7, .int (nI 0)), (0, .ref (u 0)), (1, .int (nI v)), (2, .int (nI (S 7 v))), (5, .ref q28), (3, .int (nI ((calO S (S 9 v) (S 7 v) (lackN S (S 7 v) (S 6 v)) (hisG S (S 7 v) (S 6 v)) (S 0 1) j).1))), (4, .int (nI ((calO S (S 9 v) (S 7 v) (lackN S (S 7 v) (S 6 v)) (hisG S (S 7 v) (S 6 v)) (S 0 1) j).2))), (6, .int (nI (9 - j)))]) F.1 F.2.1 dX4_calmWanted_84 hl (by decide) rfl (fun ls hl => ?_)
                have loop86 : ∀ (n : Nat) (i : Nat), i ≤ (mcF S (S 7 v) (S 0 1) (9 - j)) → (mcF S (S 7 v) (S 0 1) (9 - j)) + 1 ≤ i + n → (((mcF S (S 7 v) (S 0 1) (9 - j)) - i) * ((9 - j) + lackN S (S 7 v) (S 6 v)) + remN S (S 7 v) (lackN S (S 7 v) (S 6 v)) (8 - j) 0 (S 0 1) ≤ (itN (S 9 v) ((9 - j) + (lackN S (S 7 v) (S 6 v))) (calO S (S 9 v) (S 7 v) (lackN S (S 7 v) (S 6 v)) (hisG S (S 7 v) (S 6 v)) (S 0 1) j) i).1) → ∀ (H : Heap) (locs : List Loc) (ls : Array Slot), va_P D vwCl ((wMo cI u S th K) ++ [(q28, .inl (cI, 10, .inl (row (mcF S (S 7 v) (S 0 1)))))]) H → va_D (va_A (wMo cI u S th K) sz) ((wMo cI u S th K) ++ [(q28, .inl (cI, 10, .inl (row (mcF S (S 7 v) (S 0 1)))))]) → va_S (va_A (wMo cI u S th K) sz) s.heap H locs → lv_has ls 8 [(0, .ref (u 0)), (1, .int (nI v)), (2, .int (nI (S 7 v))), (5, .ref q28), (3, .int (nI ((itN (S 9 v) ((9 - j) + (lackN S (S 7 v) (S 6 v))) (calO S (S 9 v) (S 7 v) (lackN S (S 7 v) (S 6 v)) (hisG S (S 7 v) (S 6 v)) (S 0 1) j) i).1))), (4, .int (nI ((itN (S 9 v) ((9 - j) + (lackN S (S 7 v) (S 6 v))) (calO S (S 9 v) (S 7 v) (lackN S (S 7 v) (S 6 v)) (hisG S (S 7 v) (S 6 v)) (S 0 1) j) i).2))), (6, .int (nI (9 - j))), (7, .int (nI i))] → W p l e (rmG 4 1 10 89) s m args below meth c H locs (0 + 1) (0 + 10) (QGI below args s D 1 10 (wMo cI u S th K) sz (wMo cI u S th K) (nI (calmN S v))) (F0 m 86 ls []) := by
                  intro n
                  induction n with
                  | zero => intro i hi hn; exact absurd hn (by omega)
                  | succ n ih86 =>
                    intro i hi hn hr2 H locs ls hP hD hS hl
                    have hu2 := (itN_le (S 9 v) ((9 - j) + lackN S (S 7 v) (S 6 v)) (calO S (S 9 v) (S 7 v) (lackN S (S 7 v) (S 6 v)) (hisG S (S 7 v) (S 6 v)) (S 0 1) j) i).1
                    have hm2 := mcF_le S (S 7 v) (S 0 1) (9 - j)
                    refine lv_iload F.1 F.2.1 dX4_calmWanted_86 (lv_at hl 7 rfl) ?_
                    refine lv_aload F.1 F.2.1 dX4_calmWanted_88 (lv_at hl 3 rfl) ?_
                    refine lv_iload F.1 F.2.1 dX4_calmWanted_90 (lv_at hl 6 rfl) ?_
                    refine k_iald (f := mcF S (S 7 v) (S 0 1)) (n := 10) F hK.1 hP 6 0 rfl rfl (by omega) (by decide) dX4_calmWanted_92 ?_
                    have hc9 := mcF_le S (S 7 v) (S 0 1) (9 - j)
                    refine k_icmp_ge (tgt := 132) F (by omega) (by omega) dX4_calmWanted_93 (by decide) (fun h93 => ?_) (fun h93 => ?_)
                    · skip
                      refine k_dec (k := 6) (lv' := [(6, .int (nI ((9 - j) - 1))), (0, .ref (u 0)), (1, .int (nI v)), (2, .int (nI (S 7 v))), (5, .ref q28), (3, .int (nI ((itN (S 9 v) ((9 - j) + (lackN S (S 7 v) (S 6 v))) (calO S (S 9 v) (S 7 v) (lackN S (S 7 v) (S 6 v)) (hisG S (S 7 v) (S 6 v)) (S 0 1) j) i).1))), (4, .int (nI ((itN (S 9 v) ((9 - j) + (lackN S (S 7 v) (S 6 v))) (calO S (S 9 v) (S 7 v) (lackN S (S 7 v) (S 6 v)) (hisG S (S 7 v) (S 6 v)) (S 0 1) j) i).2))), (7, .int (nI i))]) F (by omega) dX4_calmWanted_132 hl rfl (by decide) rfl (fun ls hl => ?_)
                      refine lv_goto (tgt := 78) F.1 F.2.1 dX4_calmWanted_135 (by decide) ?_
                      have e_1 : (itN (S 9 v) ((9 - j) + (lackN S (S 7 v) (S 6 v))) (calO S (S 9 v) (S 7 v) (lackN S (S 7 v) (S 6 v)) (hisG S (S 7 v) (S 6 v)) (S 0 1) j) i).1 = (calO S (S 9 v) (S 7 v) (lackN S (S 7 v) (S 6 v)) (hisG S (S 7 v) (S 6 v)) (S 0 1) (j + 1)).1 := (by rw [show i = (mcF S (S 7 v) (S 0 1) (9 - j)) by omega, it_cal]; rfl)
                      rw [e_1] at hl
                      have e_2 : (itN (S 9 v) ((9 - j) + (lackN S (S 7 v) (S 6 v))) (calO S (S 9 v) (S 7 v) (lackN S (S 7 v) (S 6 v)) (hisG S (S 7 v) (S 6 v)) (S 0 1) j) i).2 = (calO S (S 9 v) (S 7 v) (lackN S (S 7 v) (S 6 v)) (hisG S (S 7 v) (S 6 v)) (S 0 1) (j + 1)).2 := (by rw [show i = (mcF S (S 7 v) (S 0 1) (9 - j)) by omega, it_cal]; rfl)
                      rw [e_2] at hl
                      have e_3 : ((9 - j) - 1) = (9 - (j + 1)) := by first | rfl | omega
                      rw [e_3] at hl
                      have e9 : i = (mcF S (S 7 v) (S 0 1) (9 - j)) := by omega
                      rw [e9] at hr2
                      have o9 := it_out hr2
                      rw [it_cal] at o9
                      exact ih78 (j + 1) (by omega) (by omega) (by rw [show 9 - (j + 1) = 8 - j by omega]; exact o9) (Nat.le_trans (calI_le _ _ _ _ _ _ _).1 hu) _ _ _ hP hD hS (lv_sub hl [1, 2, 3, 4, 5, 6, 0] rfl)
                    · skip
                      refine lv_iload_n F.1 F.2.1 dX4_calmWanted_96 rfl (lv_at hl 4 rfl) ?_
                      refine lv_aload_n F.1 F.2.1 dX4_calmWanted_97 rfl (lv_at hl 0 rfl) ?_
                      refine lv_iload_n F.1 F.2.1 dX4_calmWanted_98 rfl (lv_at hl 1 rfl) ?_
                      refine lv_iconst (v := nI 2) F.1 F.2.1 dX4_calmWanted_99 (by decide) ?_
                      refine k_pV (n := 2) (rest := [.int (nI ((itN (S 9 v) ((9 - j) + (lackN S (S 7 v) (S 6 v))) (calO S (S 9 v) (S 7 v) (lackN S (S 7 v) (S 6 v)) (hisG S (S 7 v) (S 6 v)) (S 0 1) j) i).1))]) (v := nI (S 9 v)) F (c_X4_vi l D cI u S th K v 2 (by first | assumption | omega) (by first | assumption | omega)) gX4_calmWanted_X4_vi rfl (by decide +kernel) ⟨Nat.le_of_ble_eq_true rfl, Nat.le_of_ble_eq_true rfl⟩ rfl hl.1 rfl (Nat.le_of_ble_eq_true rfl) dX4_calmWanted_100 ⟨show 0 + 1 ≤ 1 by omega, show 0 + 10 ≤ 10 by omega⟩ hK hP hS [0, 1, 2, 3, 4, 5] rfl (q0 := 0) (ci := 4) rfl rfl (fun H locs hP hS => ?_)
                      refine k_icmp_le (tgt := 132) F (by omega) (by omega) dX4_calmWanted_103 (by decide) (fun h103 => ?_) (fun h103 => ?_)
                      · skip
                        refine k_dec (k := 6) (lv' := [(6, .int (nI ((9 - j) - 1))), (0, .ref (u 0)), (1, .int (nI v)), (2, .int (nI (S 7 v))), (5, .ref q28), (3, .int (nI ((itN (S 9 v) ((9 - j) + (lackN S (S 7 v) (S 6 v))) (calO S (S 9 v) (S 7 v) (lackN S (S 7 v) (S 6 v)) (hisG S (S 7 v) (S 6 v)) (S 0 1) j) i).1))), (4, .int (nI ((itN (S 9 v) ((9 - j) + (lackN S (S 7 v) (S 6 v))) (calO S (S 9 v) (S 7 v) (lackN S (S 7 v) (S 6 v)) (hisG S (S 7 v) (S 6 v)) (S 0 1) j) i).2))), (7, .int (nI i))]) F (by omega) dX4_calmWanted_132 hl rfl (by decide) rfl (fun ls hl => ?_)
                        refine lv_goto (tgt := 78) F.1 F.2.1 dX4_calmWanted_135 (by decide) ?_
                        have e_4 : (itN (S 9 v) ((9 - j) + (lackN S (S 7 v) (S 6 v))) (calO S (S 9 v) (S 7 v) (lackN S (S 7 v) (S 6 v)) (hisG S (S 7 v) (S 6 v)) (S 0 1) j) i).1 = (calO S (S 9 v) (S 7 v) (lackN S (S 7 v) (S 6 v)) (hisG S (S 7 v) (S 6 v)) (S 0 1) (j + 1)).1 := (by rw [← it_to (m := (mcF S (S 7 v) (S 0 1) (9 - j))) (Nat.not_lt.mpr h103) (by omega), it_cal]; rfl)
                        rw [e_4] at hl
                        have e_5 : (itN (S 9 v) ((9 - j) + (lackN S (S 7 v) (S 6 v))) (calO S (S 9 v) (S 7 v) (lackN S (S 7 v) (S 6 v)) (hisG S (S 7 v) (S 6 v)) (S 0 1) j) i).2 = (calO S (S 9 v) (S 7 v) (lackN S (S 7 v) (S 6 v)) (hisG S (S 7 v) (S 6 v)) (S 0 1) (j + 1)).2 := (by rw [← it_to (m := (mcF S (S 7 v) (S 0 1) (9 - j))) (Nat.not_lt.mpr h103) (by omega), it_cal]; rfl)
                        rw [e_5] at hl
                        have e_6 : ((9 - j) - 1) = (9 - (j + 1)) := by first | rfl | omega
                        rw [e_6] at hl
                        have o9 := Nat.le_trans (Nat.le_add_left _ _) hr2
                        rw [← it_to (m := (mcF S (S 7 v) (S 0 1) (9 - j))) (Nat.not_lt.mpr h103) (by omega), it_cal] at o9
                        exact ih78 (j + 1) (by omega) (by omega) (by rw [show 9 - (j + 1) = 8 - j by omega]; exact o9) (Nat.le_trans (calI_le _ _ _ _ _ _ _).1 hu) _ _ _ hP hD hS (lv_sub hl [1, 2, 3, 4, 5, 6, 0] rfl)
                      · skip
                        have hi9 := it_rem (c := (mcF S (S 7 v) (S 0 1) (9 - j))) (i := i) (by omega) hr2
                        refine lv_iload_n F.1 F.2.1 dX4_calmWanted_106 rfl (lv_at hl 4 rfl) ?_
                        refine lv_iload F.1 F.2.1 dX4_calmWanted_107 (lv_at hl 6 rfl) ?_
                        refine lv_aload_n F.1 F.2.1 dX4_calmWanted_109 rfl (lv_at hl 0 rfl) ?_
                        refine lv_iload_n F.1 F.2.1 dX4_calmWanted_110 rfl (lv_at hl 2 rfl) ?_
                        refine lv_aload_n F.1 F.2.1 dX4_calmWanted_111 rfl (lv_at hl 0 rfl) ?_
                        refine k_get (v := .ref (u 3)) F nX4_calmWanted_X4 hK.1 hP 0 rfl rfl 6 (by decide) (List.mem_of_getElem? (i := 3) rfl) rfl dX4_calmWanted_112 ?_
                        refine lv_iload_n F.1 F.2.1 dX4_calmWanted_115 rfl (lv_at hl 1 rfl) ?_
                        refine k_iald (f := S 6) (n := 8) F hK.1 hP 3 0 rfl rfl (by omega) (by decide) dX4_calmWanted_116 ?_
                        refine k_pV (n := 2) (rest := [.int (nI (9 - j)), .int (nI ((itN (S 9 v) ((9 - j) + (lackN S (S 7 v) (S 6 v))) (calO S (S 9 v) (S 7 v) (lackN S (S 7 v) (S 6 v)) (hisG S (S 7 v) (S 6 v)) (S 0 1) j) i).1))]) (v := nI (lackN S (S 7 v) (S 6 v))) F (c_X4_more l D cI u S th K (S 7 v) (S 6 v) hI (by first | assumption | omega) (by first | assumption | omega)) gX4_calmWanted_X4_more rfl (by decide +kernel) ⟨Nat.le_of_ble_eq_true rfl, Nat.le_of_ble_eq_true rfl⟩ rfl hl.1 rfl (Nat.le_of_ble_eq_true rfl) dX4_calmWanted_117 ⟨show 0 + 1 ≤ 1 by omega, show 0 + 10 ≤ 10 by omega⟩ hK hP hS [0, 1, 2, 3, 4, 5] rfl (q0 := 0) (ci := 4) rfl rfl (fun H locs hP hS => ?_)
                        refine k_iadd F dX4_calmWanted_120 ?_
                        refine k_isub F (by omega) dX4_calmWanted_121 ?_
                        refine lv_istore_n (lv' := [(3, .int (nI ((itN (S 9 v) ((9 - j) + (lackN S (S 7 v) (S 6 v))) (calO S (S 9 v) (S 7 v) (lackN S (S 7 v) (S 6 v)) (hisG S (S 7 v) (S 6 v)) (S 0 1) j) i).1 - ((9 - j) + lackN S (S 7 v) (S 6 v))))), (0, .ref (u 0)), (1, .int (nI v)), (2, .int (nI (S 7 v))), (5, .ref q28), (4, .int (nI ((itN (S 9 v) ((9 - j) + (lackN S (S 7 v) (S 6 v))) (calO S (S 9 v) (S 7 v) (lackN S (S 7 v) (S 6 v)) (hisG S (S 7 v) (S 6 v)) (S 0 1) j) i).2))), (6, .int (nI (9 - j))), (7, .int (nI i))]) F.1 F.2.1 dX4_calmWanted_122 rfl hl (by decide) rfl (fun ls hl => ?_)
                        refine k_inc (k := 5) (lv' := [(4, .int (nI ((itN (S 9 v) ((9 - j) + (lackN S (S 7 v) (S 6 v))) (calO S (S 9 v) (S 7 v) (lackN S (S 7 v) (S 6 v)) (hisG S (S 7 v) (S 6 v)) (S 0 1) j) i).2 + 1))), (3, .int (nI ((itN (S 9 v) ((9 - j) + (lackN S (S 7 v) (S 6 v))) (calO S (S 9 v) (S 7 v) (lackN S (S 7 v) (S 6 v)) (hisG S (S 7 v) (S 6 v)) (S 0 1) j) i).1 - ((9 - j) + lackN S (S 7 v) (S 6 v))))), (0, .ref (u 0)), (1, .int (nI v)), (2, .int (nI (S 7 v))), (5, .ref q28), (6, .int (nI (9 - j))), (7, .int (nI i))]) F dX4_calmWanted_123 hl rfl (by decide) rfl (fun ls hl => ?_)
                        refine k_inc (k := 7) (lv' := [(7, .int (nI (i + 1))), (4, .int (nI ((itN (S 9 v) ((9 - j) + (lackN S (S 7 v) (S 6 v))) (calO S (S 9 v) (S 7 v) (lackN S (S 7 v) (S 6 v)) (hisG S (S 7 v) (S 6 v)) (S 0 1) j) i).2 + 1))), (3, .int (nI ((itN (S 9 v) ((9 - j) + (lackN S (S 7 v) (S 6 v))) (calO S (S 9 v) (S 7 v) (lackN S (S 7 v) (S 6 v)) (hisG S (S 7 v) (S 6 v)) (S 0 1) j) i).1 - ((9 - j) + lackN S (S 7 v) (S 6 v))))), (0, .ref (u 0)), (1, .int (nI v)), (2, .int (nI (S 7 v))), (5, .ref q28), (6, .int (nI (9 - j)))]) F dX4_calmWanted_126 hl rfl (by decide) rfl (fun ls hl => ?_)
                        refine lv_goto (tgt := 86) F.1 F.2.1 dX4_calmWanted_129 (by decide) ?_
                        have e_7 : ((itN (S 9 v) ((9 - j) + (lackN S (S 7 v) (S 6 v))) (calO S (S 9 v) (S 7 v) (lackN S (S 7 v) (S 6 v)) (hisG S (S 7 v) (S 6 v)) (S 0 1) j) i).1 - ((9 - j) + lackN S (S 7 v) (S 6 v))) = (itN (S 9 v) ((9 - j) + (lackN S (S 7 v) (S 6 v))) (calO S (S 9 v) (S 7 v) (lackN S (S 7 v) (S 6 v)) (hisG S (S 7 v) (S 6 v)) (S 0 1) j) (i + 1)).1 := (by rw [itN_y (Nat.not_le.mp h103)])
                        rw [e_7] at hl
                        have e_8 : ((itN (S 9 v) ((9 - j) + (lackN S (S 7 v) (S 6 v))) (calO S (S 9 v) (S 7 v) (lackN S (S 7 v) (S 6 v)) (hisG S (S 7 v) (S 6 v)) (S 0 1) j) i).2 + 1) = (itN (S 9 v) ((9 - j) + (lackN S (S 7 v) (S 6 v))) (calO S (S 9 v) (S 7 v) (lackN S (S 7 v) (S 6 v)) (hisG S (S 7 v) (S 6 v)) (S 0 1) j) (i + 1)).2 := (by rw [itN_y (Nat.not_le.mp h103)])
                        rw [e_8] at hl
                        exact ih86 (i + 1) (by omega) (by omega) (by rw [itN_y (Nat.not_le.mp h103)]; exact (it_rem (by omega) hr2).1) _ _ _ hP hD hS (lv_sub hl [3, 4, 5, 6, 2, 1, 7, 0] rfl)
                have e_9 : (calO S (S 9 v) (S 7 v) (lackN S (S 7 v) (S 6 v)) (hisG S (S 7 v) (S 6 v)) (S 0 1) j).1 = (itN (S 9 v) ((9 - j) + (lackN S (S 7 v) (S 6 v))) (calO S (S 9 v) (S 7 v) (lackN S (S 7 v) (S 6 v)) (hisG S (S 7 v) (S 6 v)) (S 0 1) j) 0).1 := by first | rfl | omega
                rw [e_9] at hl
                have e_10 : (calO S (S 9 v) (S 7 v) (lackN S (S 7 v) (S 6 v)) (hisG S (S 7 v) (S 6 v)) (S 0 1) j).2 = (itN (S 9 v) ((9 - j) + (lackN S (S 7 v) (S 6 v))) (calO S (S 9 v) (S 7 v) (lackN S (S 7 v) (S 6 v)) (hisG S (S 7 v) (S 6 v)) (S 0 1) j) 0).2 := by first | rfl | omega
                rw [e_10] at hl
                have c9 := rem_cnt S (S 7 v) (lackN S (S 7 v) (S 6 v)) (8 - j) (S 0 1)
                rw [show 8 - j + 1 = 9 - j by omega] at c9
                exact loop86 ((mcF S (S 7 v) (S 0 1) (9 - j)) + 1) 0 (by omega) (by omega) (by rw [Nat.sub_zero, ← c9]; exact hq1) _ _ _ hP hD hS (lv_sub hl [1, 2, 3, 4, 5, 6, 7, 0] rfl)
          have e_11 : hisG S (S 7 v) (S 6 v) = (calO S (S 9 v) (S 7 v) (lackN S (S 7 v) (S 6 v)) (hisG S (S 7 v) (S 6 v)) (S 0 1) 0).1 := by first | rfl | omega
          rw [e_11] at hl
          have e_12 : 0 = (calO S (S 9 v) (S 7 v) (lackN S (S 7 v) (S 6 v)) (hisG S (S 7 v) (S 6 v)) (S 0 1) 0).2 := by first | rfl | omega
          rw [e_12] at hl
          have e_13 : 9 = (9 - 0) := by first | rfl | omega
          rw [e_13] at hl
          have ew : ((wMo cI u S th K) ++ [(q28, .inl (cI, 10, .inl (row (mcF S (S 7 v) i))))]) = ((wMo cI u S th K) ++ [(q28, .inl (cI, 10, .inl (row (mcF S (S 7 v) (S 0 1)))))]) := by rw [show i = S 0 1 by omega]
          have hP := P_eq ew hP
          have hD := D_eq ew hD
          exact loop78 (9 + 1) 0 (by omega) (by omega) (by rw [remN_all hI.mood]; exact Nat.le_refl _) hh9 _ _ _ hP hD hS (lv_sub hl [1, 2, 3, 6, 4, 5, 0] rfl)
        · skip
          refine lv_aload_n F.1 F.2.1 dX4_calmWanted_44 rfl (lv_at hl 0 rfl) ?_
          refine lv_iload F.1 F.2.1 dX4_calmWanted_45 (lv_at hl 6 rfl) ?_
          refine lv_iload_n F.1 F.2.1 dX4_calmWanted_47 rfl (lv_at hl 2 rfl) ?_
          have hk2 := hI.keep i
          have hm9 := hI.mood i
          refine k_pV (n := 2) (rest := []) (v := bI (S 2 i = (S 7 v) ∧ S 4 i = 0)) F (c_X4_isAwake l D cI u S th K i (S 7 v) hI.bd.k (by first | assumption | omega) (by first | assumption | omega)) gX4_calmWanted_X4_isAwake rfl (by decide +kernel) ⟨Nat.le_of_ble_eq_true rfl, Nat.le_of_ble_eq_true rfl⟩ rfl hl.1 rfl (Nat.le_of_ble_eq_true rfl) dX4_calmWanted_48 ⟨show 0 + 1 ≤ 1 by omega, show 0 + 10 ≤ 10 by omega⟩ hK hP hS [0, 1, 2, 3, 4, 5] rfl (q0 := 0) (ci := 4) rfl rfl (fun H locs hP hS => ?_)
          refine k_ifeq_b (tgt := 68) F dX4_calmWanted_51 (by decide) (fun h51 => ?_) (fun h51 => ?_)
          · skip
            refine k_inc (k := 6) (lv' := [(6, .int (nI (i + 1))), (0, .ref (u 0)), (1, .int (nI v)), (2, .int (nI (S 7 v))), (3, .int (nI (hisG S (S 7 v) (S 6 v)))), (4, .int (nI 0)), (5, .ref q28)]) F dX4_calmWanted_68 hl rfl (by decide) rfl (fun ls hl => ?_)
            refine lv_goto (tgt := 35) F.1 F.2.1 dX4_calmWanted_71 (by decide) ?_
            have ew : ((wMo cI u S th K) ++ [(q28, .inl (cI, 10, .inl (row (mcF S (S 7 v) i))))]) = ((wMo cI u S th K) ++ [(q28, .inl (cI, 10, .inl (row (mcF S (S 7 v) (i + 1)))))]) := by rw [mcF_n h51]
            have hP := P_eq ew hP
            have hD := D_eq ew hD
            exact ih35 (i + 1) (by omega) (by omega)  _ _ _ hP hD hS (lv_sub hl [1, 2, 3, 4, 5, 6, 0] rfl)
          · skip
            refine lv_aload F.1 F.2.1 dX4_calmWanted_54 (lv_at hl 5 rfl) ?_
            refine lv_aload_n F.1 F.2.1 dX4_calmWanted_56 rfl (lv_at hl 0 rfl) ?_
            refine lv_iload F.1 F.2.1 dX4_calmWanted_57 (lv_at hl 6 rfl) ?_
            refine lv_iconst (v := nI 0) F.1 F.2.1 dX4_calmWanted_59 (by decide) ?_
            refine k_pV (n := 2) (rest := [.ref q28]) (v := nI (S 3 i)) F (c_X4_go l D cI u S th K i 0 (by first | assumption | omega) (by first | assumption | omega)) gX4_calmWanted_X4_go rfl (by decide +kernel) ⟨Nat.le_of_ble_eq_true rfl, Nat.le_of_ble_eq_true rfl⟩ rfl hl.1 rfl (Nat.le_of_ble_eq_true rfl) dX4_calmWanted_60 ⟨show 0 + 1 ≤ 1 by omega, show 0 + 10 ≤ 10 by omega⟩ hK hP hS [0, 1, 2, 3, 4, 5] rfl (q0 := 0) (ci := 4) rfl rfl (fun H locs hP hS => ?_)
            refine lv_dup2_11 F.1 F.2.1 dX4_calmWanted_63 rfl rfl ?_
            refine k_iald (f := mcF S (S 7 v) i) (n := 10) F hK.1 hP 6 0 rfl rfl (by omega) (by decide) dX4_calmWanted_64 ?_
            refine lv_iconst (v := nI 1) F.1 F.2.1 dX4_calmWanted_65 (by decide) ?_
            refine k_iadd F dX4_calmWanted_66 ?_
            refine k_iast (f := mcF S (S 7 v) i) (n := 10) (k := (S 3 i)) (x := ((mcF S (S 7 v) i) (S 3 i) + 1)) F hK.1 hP hD hS 6 0 rfl rfl (by omega) (by decide) dX4_calmWanted_67 ((wMo cI u S th K) ++ [(q28, .inl (cI, 10, .inl (row (updN (mcF S (S 7 v) i) (S 3 i) ((mcF S (S 7 v) i) (S 3 i) + 1)))))]) rfl (fun H locs hP hD hS => ?_)
            refine k_inc (k := 6) (lv' := [(6, .int (nI (i + 1))), (0, .ref (u 0)), (1, .int (nI v)), (2, .int (nI (S 7 v))), (3, .int (nI (hisG S (S 7 v) (S 6 v)))), (4, .int (nI 0)), (5, .ref q28)]) F dX4_calmWanted_68 hl rfl (by decide) rfl (fun ls hl => ?_)
            refine lv_goto (tgt := 35) F.1 F.2.1 dX4_calmWanted_71 (by decide) ?_
            have ew : ((wMo cI u S th K) ++ [(q28, .inl (cI, 10, .inl (row (updN (mcF S (S 7 v) i) (S 3 i) ((mcF S (S 7 v) i) (S 3 i) + 1)))))]) = ((wMo cI u S th K) ++ [(q28, .inl (cI, 10, .inl (row (mcF S (S 7 v) (i + 1)))))]) := by rw [mcF_y h51]
            have hP := P_eq ew hP
            have hD := D_eq ew hD
            exact ih35 (i + 1) (by omega) (by omega)  _ _ _ hP hD hS (lv_sub hl [1, 2, 3, 4, 5, 6, 0] rfl)
    have ew : ((wMo cI u S th K) ++ [(q28, .inl (cI, 10, .inl (row (fun _ => 0))))]) = ((wMo cI u S th K) ++ [(q28, .inl (cI, 10, .inl (row (mcF S (S 7 v) 0))))]) := rfl
    have hP := P_eq ew hP
    have hD := D_eq ew hD
    exact loop35 ((S 0 1) + 1) 0 (by omega) (by omega)  _ _ _ hP hD hS (lv_sub hl [5, 6, 4, 3, 2, 1, 0] rfl)
  · skip
    refine lv_iconst (v := nI 0) F.1 F.2.1 dX4_calmWanted_8 (by decide) ?_
    exact k_retGI F hr hlk hP rfl hS hz (by rw [calm_farm hI h5]) rfl (show 0 ≤ 1 by omega) (show 0 ≤ 10 by omega) dX4_calmWanted_9
theorem nX4_bribesWanted_X4 : ∀ x ∈ wsX40, x ∈ wsX4_bribesWanted := fun _ h => List.mem_cons_of_mem _ (List.mem_append_right _ h)
set_option maxRecDepth 100000 in
set_option maxHeartbeats 4000000 in
theorem c_X4_bribesWanted (l : Launch) (D : va_G) (cI : ClassId) (u : Nat → Nat) (S : Nat → Nat → Nat) (th : Int32) (K : Nat → Nat) (x1 : Int32) (hI : Inv S) : GI l yX4_bribesWanted wsX4_bribesWanted 5 1 10 116 D [(cI, .int)] [.ref (u 0), .int x1] (wMo cI u S th K) (wMo cI u S (nI (r1 (S 0 2) x1 (nI (calmN S (cl x1)))).1) K) ((r1 (S 0 2) x1 (nI (calmN S (cl x1)))).2) := by
  intro sz
  refine k_bodyG (cc := cX4_bribesWanted) (maxL := 2) (ret := (some .int)) (by decide) rfl (Nat.le_of_ble_eq_true rfl) ?_
  intro p e s m args below meth c H ls hz F hr hlk hl hP hK hD hS
  have F : CallFix p m c cX4_bribesWanted 2 s args wsX4_bribesWanted RX4 := F
  have hl : lv_has ls 2 [(0, .ref (u 0)), (1, .int x1)] := hl
  have hi0 := hI.gates
  have hi1 := hI.geese
  have hi2 := hI.guests
  refine lv_aload_n F.1 F.2.1 dX4_bribesWanted_0 rfl (lv_at hl 0 rfl) ?_
  refine lv_iconst (v := nI 0) F.1 F.2.1 dX4_bribesWanted_1 (by decide) ?_
  refine k_put F nX4_bribesWanted_X4 tyX4 tyX4_ok nmX4 hK.1 hP hD hS 0 rfl rfl 0 (by decide) (List.mem_of_getElem? (i := 1) rfl) rfl (by decide +kernel) (Nat.le_of_ble_eq_true rfl) dX4_bribesWanted_2 (wMo cI u S (nI 0) K) wMo_f0 (fun H locs hP hD hS => ?_)
  refine lv_aload_n F.1 F.2.1 dX4_bribesWanted_5 rfl (lv_at hl 0 rfl) ?_
  refine lv_iload_n F.1 F.2.1 dX4_bribesWanted_6 rfl (lv_at hl 1 rfl) ?_
  refine k_pV (n := 1) (rest := []) (v := bI (0 ≤ x1 ∧ x1 < nI (S 0 2))) F (c_X4_isVisitor l D cI u S (nI 0) K x1 (by first | assumption | omega)) gX4_bribesWanted_X4_isVisitor rfl (by decide +kernel) ⟨Nat.le_of_ble_eq_true rfl, Nat.le_of_ble_eq_true rfl⟩ rfl hl.1 rfl (Nat.le_of_ble_eq_true rfl) dX4_bribesWanted_7 ⟨show 0 ≤ 1 by omega, show 0 ≤ 10 by omega⟩ hK hP hS [0, 1, 2, 3, 4, 5] rfl (q0 := 0) (ci := 4) rfl rfl (fun H locs hP hS => ?_)
  refine k_ifeq_b (tgt := 21) F dX4_bribesWanted_10 (by decide) (fun h10 => ?_) (fun h10 => ?_)
  · skip
    refine lv_aload_n F.1 F.2.1 dX4_bribesWanted_21 rfl (lv_at hl 0 rfl) ?_
    refine lv_iconst (v := nI 1) F.1 F.2.1 dX4_bribesWanted_22 (by decide) ?_
    refine k_mI (n := 1) (rest := []) (v := nI 0) F (c_X4_fail l D cI u S (nI 0) K (nI 1)) gX4_bribesWanted_X4_fail rfl (by decide +kernel) ⟨Nat.le_of_ble_eq_true rfl, Nat.le_of_ble_eq_true rfl⟩ rfl hl.1 rfl (Nat.le_of_ble_eq_true rfl) dX4_bribesWanted_23 ⟨show 0 ≤ 1 by omega, show 0 ≤ 10 by omega⟩ hK hP hD hS [0, 1, 2, 3, 4, 5] rfl rfl rfl (wMo cI u S (nI 1) K) wMo_ms wMo_ad (q0 := 0) (ci := 4) rfl rfl (fun H locs hP hD hS => ?_)
    have e9 : r1 (S 0 2) x1 (nI (calmN S (cl x1))) = (1, nI 0) := r1_n h10
    exact k_retGI F hr hlk hP (by rw [e9]) hS hz (by rw [e9]) rfl (show 0 ≤ 1 by omega) (show 0 ≤ 10 by omega) dX4_bribesWanted_26
  · skip
    obtain ⟨g1, hg1, rfl⟩ := lt_nI (by omega) h10
    refine lv_aload_n F.1 F.2.1 dX4_bribesWanted_13 rfl (lv_at hl 0 rfl) ?_
    refine lv_iload_n F.1 F.2.1 dX4_bribesWanted_14 rfl (lv_at hl 1 rfl) ?_
    refine k_gI (n := 1) (rest := []) (v := nI (calmN S g1)) F (c_X4_calmWanted l D cI u S (nI 0) K g1 hI (by first | assumption | omega)) gX4_bribesWanted_X4_calmWanted rfl (by decide +kernel) ⟨Nat.le_of_ble_eq_true rfl, Nat.le_of_ble_eq_true rfl⟩ rfl hl.1 rfl (Nat.le_of_ble_eq_true rfl) dX4_bribesWanted_15 ⟨show 0 + 1 ≤ 1 by omega, show 0 + 10 ≤ 10 by omega⟩ hK hP hD hS (fun q h => Or.inr (by omega)) [0, 1, 2, 3, 4, 5] rfl rfl rfl (wMo cI u S (nI 0) K) wMo_ms wMo_ad (q0 := 0) (ci := 4) rfl rfl (fun H locs hP hD hS => ?_)
    refine lv_goto (tgt := 26) F.1 F.2.1 dX4_bribesWanted_18 (by decide) ?_
    have e9 : r1 (S 0 2) (nI g1) (nI (calmN S (cl (nI g1)))) = (0, nI (calmN S g1)) := by rw [cl_nI (show g1 < 2 ^ 31 by omega)]; exact r1_y h10
    exact k_retGI F hr hlk hP (by rw [e9]) hS hz (by rw [e9]) rfl (show 0 + 1 ≤ 1 by omega) (show 0 + 10 ≤ 10 by omega) dX4_bribesWanted_26
