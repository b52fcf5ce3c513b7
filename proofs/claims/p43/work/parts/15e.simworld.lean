/-! the world of the law's own picture: the head, a row a goose, a row a visitor; z: the addresses (0 the object, 1 ranks, 2 geese, 3 visitors, 4 + k a goose's row, 12 + v a visitor's) -/
def vfi (j : Nat) : Nat := match j with
  | 0 => 6
  | 1 => 9
  | 2 => 8
  | 3 => 7
  | _ => 10
def gsl (S : Nat → Nat → Nat) (k : Nat) : Nat → Nat := fun j => if j < 4 then S (2 + j) k else 0
def vsl (S : Nat → Nat → Nat) (v : Nat) : Nat → Nat := fun j => if j < 5 then S (vfi j) v else 0
abbrev ilr (f : Nat → Option Nat) : (Nat → Int32) ⊕ (Nat → Int64) ⊕ (Nat → UInt32) ⊕ (Nat → UInt64) ⊕ (Nat → Option Nat) := .inr (.inr (.inr (.inr f)))
def cGo (cI : ClassId) (z : Nat → Nat) (S : Nat → Nat → Nat) (k : Nat) : Nat × va_E := (z (4 + k), .inl (cI, 4, .inl (row (gsl S k))))
def cVi (cI : ClassId) (z : Nat → Nat) (S : Nat → Nat → Nat) (v : Nat) : Nat × va_E := (z (12 + v), .inl (cI, 5, .inl (row (vsl S v))))
def wGs (cI : ClassId) (z : Nat → Nat) (S : Nat → Nat → Nat) (n : Nat) : va_W := (List.range n).map (cGo cI z S)
def wVs (cI : ClassId) (z : Nat → Nat) (S : Nat → Nat → Nat) (n : Nat) : va_W := (List.range n).map (cVi cI z S)
def wHd (cI cA : ClassId) (z : Nat → Nat) (S : Nat → Nat → Nat) : va_W := [(z 0, .inr (4, [.int (nI (S 0 3)), .int (nI (S 0 4)), .int (nI (S 0 5)), .ref (z 1), .ref (z 2), .ref (z 3)])), (z 1, .inl (cI, S 0 0, .inl (row (S 1)))), (z 2, .inl (cA, S 0 1, ilr (fun k => some (z (4 + k))))), (z 3, .inl (cA, S 0 2, ilr (fun v => some (z (12 + v)))))]
def wSi (cI cA : ClassId) (z : Nat → Nat) (S : Nat → Nat → Nat) : va_W := wHd cI cA z S ++ (wGs cI z S (S 0 1) ++ wVs cI z S (S 0 2))
theorem map_set {α : Type} (F G : Nat → α) (n k : Nat) (hG : ∀ i, i ≠ k → G i = F i) : ((List.range n).map F).set k (G k) = (List.range n).map G := by
  apply List.ext_getElem?
  intro i
  by_cases h : k = i
  · subst h
    by_cases hn : k < n
    · rw [List.getElem?_set_self (by simpa using hn)]
      simp [hn]
    · rw [List.getElem?_eq_none (by simpa using Nat.not_lt.mp hn), List.getElem?_eq_none (by simpa using Nat.not_lt.mp hn)]
  · rw [List.getElem?_set_ne h, List.getElem?_map, List.getElem?_map]
    by_cases hn : i < n
    · simp [hn, hG i (fun e => h e.symm)]
    · rw [List.getElem?_eq_none (by simpa using Nat.not_lt.mp hn)]
      rfl
theorem set_pre {w X w' : va_W} {i : Nat} {e x : Nat × va_E} (h : w[i]? = some x) (hs : w.set i e = w') : (w ++ X).set i e = w' ++ X := by
  rw [List.set_append_left _ _ (List.getElem?_eq_some_iff.mp h).1, hs]
section
variable {cI cA : ClassId} {z : Nat → Nat} {S : Nat → Nat → Nat}
theorem wSi_0 : (wSi cI cA z S)[0]? = some (z 0, .inr (4, [.int (nI (S 0 3)), .int (nI (S 0 4)), .int (nI (S 0 5)), .ref (z 1), .ref (z 2), .ref (z 3)])) := rfl
theorem wSi_1 : (wSi cI cA z S)[1]? = some (z 1, .inl (cI, S 0 0, .inl (row (S 1)))) := rfl
theorem wSi_2 : (wSi cI cA z S)[2]? = some (z 2, .inl (cA, S 0 1, ilr (fun k => some (z (4 + k))))) := rfl
theorem wSi_3 : (wSi cI cA z S)[3]? = some (z 3, .inl (cA, S 0 2, ilr (fun v => some (z (12 + v))))) := rfl
theorem wGs_ln (n : Nat) : (wGs cI z S n).length = n := by simp [wGs]
theorem wVs_ln (n : Nat) : (wVs cI z S n).length = n := by simp [wVs]
theorem wSi_g {k : Nat} (h : k < S 0 1) : (wSi cI cA z S)[4 + k]? = some (z (4 + k), .inl (cI, 4, .inl (row (gsl S k)))) := by
  unfold wSi
  rw [List.getElem?_append_right (show 4 ≤ 4 + k by omega)]
  show (wGs cI z S (S 0 1) ++ wVs cI z S (S 0 2))[4 + k - 4]? = _
  rw [Nat.add_sub_cancel_left, List.getElem?_append_left (by rw [wGs_ln]; exact h)]
  simp [wGs, h, cGo]
theorem wSi_v {v : Nat} (h : v < S 0 2) : (wSi cI cA z S)[4 + S 0 1 + v]? = some (z (12 + v), .inl (cI, 5, .inl (row (vsl S v)))) := by
  unfold wSi
  rw [List.getElem?_append_right (show 4 ≤ 4 + S 0 1 + v by omega)]
  show (wGs cI z S (S 0 1) ++ wVs cI z S (S 0 2))[4 + S 0 1 + v - 4]? = _
  rw [show 4 + S 0 1 + v - 4 = S 0 1 + v by omega, List.getElem?_append_right (by rw [wGs_ln]; omega), wGs_ln, Nat.add_sub_cancel_left]
  simp [wVs, h, cVi]
theorem wSi_ln : (wSi cI cA z S).length = 4 + (S 0 1 + S 0 2) := by
  unfold wSi
  rw [List.length_append, List.length_append, wGs_ln, wVs_ln]
  rfl
theorem vfi_ge (j : Nat) : 6 ≤ vfi j := by unfold vfi; split <;> omega
theorem vfi_inj0 : ∀ i, i < 5 → ∀ j, j < 5 → vfi i = vfi j → i = j := by decide
theorem vfi_inj (i j : Nat) (hi : i < 5) (hj : j < 5) (h : vfi i = vfi j) : i = j := vfi_inj0 i hi j hj h
theorem gsl_set (k j x : Nat) (hj : j < 4) : updN (gsl S k) j x = gsl (setf S (2 + j) k x) k := by
  funext i
  show (if i = j then x else if i < 4 then S (2 + i) k else 0) = if i < 4 then setf S (2 + j) k x (2 + i) k else 0
  rw [setf_at]
  by_cases h : i = j
  · rw [if_pos h, if_pos (by omega), if_pos ⟨by omega, rfl⟩]
  · rw [if_neg h, if_neg (show ¬ (2 + i = 2 + j ∧ k = k) by omega)]
theorem vsl_set (v j x : Nat) (hj : j < 5) : updN (vsl S v) j x = vsl (setf S (vfi j) v x) v := by
  funext i
  show (if i = j then x else if i < 5 then S (vfi i) v else 0) = if i < 5 then setf S (vfi j) v x (vfi i) v else 0
  rw [setf_at]
  by_cases h : i = j
  · subst h
    rw [if_pos rfl, if_pos hj, if_pos ⟨rfl, rfl⟩]
  · rw [if_neg h]
    by_cases h5 : i < 5
    · rw [if_pos h5, if_pos h5, if_neg (fun e => h (vfi_inj i j h5 hj e.1))]
    · rw [if_neg h5, if_neg h5]
/-- a state that differs at no place that is shown -/
theorem cGo_eq {S1 S2 : Nat → Nat → Nat} {k : Nat} (h : ∀ j, j < 4 → S1 (2 + j) k = S2 (2 + j) k) : cGo cI z S1 k = cGo cI z S2 k := by
  have e : gsl S1 k = gsl S2 k := by
    funext j
    unfold gsl
    by_cases hj : j < 4
    · rw [if_pos hj, if_pos hj, h j hj]
    · rw [if_neg hj, if_neg hj]
  unfold cGo
  rw [e]
theorem cVi_eq {S1 S2 : Nat → Nat → Nat} {v : Nat} (h : ∀ j, j < 5 → S1 (vfi j) v = S2 (vfi j) v) : cVi cI z S1 v = cVi cI z S2 v := by
  have e : vsl S1 v = vsl S2 v := by
    funext j
    unfold vsl
    by_cases hj : j < 5
    · rw [if_pos hj, if_pos hj, h j hj]
    · rw [if_neg hj, if_neg hj]
  unfold cVi
  rw [e]
theorem wSi_sg {k : Nat} (j x : Nat) (hk : k < S 0 1) (hj : j < 4) : (wSi cI cA z S).set (4 + k) (z (4 + k), .inl (cI, 4, .inl (row (updN (gsl S k) j x)))) = wSi cI cA z (setf S (2 + j) k x) := by
  have e0 : setf S (2 + j) k x 0 = S 0 := setF_ne _ _ (by omega)
  have e1 : setf S (2 + j) k x 1 = S 1 := setF_ne _ _ (by omega)
  have e3 : ∀ i, i ≠ k → cGo cI z (setf S (2 + j) k x) i = cGo cI z S i := fun i h => cGo_eq (fun q hq => by rw [setf_at, if_neg (fun e => h e.2)])
  have e4 : cVi cI z (setf S (2 + j) k x) = cVi cI z S := by
    funext i
    exact cVi_eq (fun q hq => by have := vfi_ge q; rw [setf_at, if_neg (by omega)])
  have e5 : wHd cI cA z (setf S (2 + j) k x) = wHd cI cA z S := by unfold wHd; rw [e0, e1]
  unfold wSi
  rw [e5, e0, List.set_append_right _ _ (show 4 ≤ 4 + k by omega)]
  show _ ++ (wGs cI z S (S 0 1) ++ wVs cI z S (S 0 2)).set (4 + k - 4) _ = _
  rw [Nat.add_sub_cancel_left, List.set_append_left _ _ (by rw [wGs_ln]; exact hk)]
  congr 1
  have e6 : (z (4 + k), (.inl (cI, 4, .inl (row (updN (gsl S k) j x))) : va_E)) = cGo cI z (setf S (2 + j) k x) k := by unfold cGo; rw [gsl_set k j x hj]
  rw [e6]
  unfold wGs wVs
  rw [e4, map_set (cGo cI z S) (cGo cI z (setf S (2 + j) k x)) _ _ e3]
theorem wSi_sv {v : Nat} (j x : Nat) (hv : v < S 0 2) (hj : j < 5) : (wSi cI cA z S).set (4 + S 0 1 + v) (z (12 + v), .inl (cI, 5, .inl (row (updN (vsl S v) j x)))) = wSi cI cA z (setf S (vfi j) v x) := by
  have hg := vfi_ge j
  have e0 : setf S (vfi j) v x 0 = S 0 := setF_ne _ _ (by omega)
  have e1 : setf S (vfi j) v x 1 = S 1 := setF_ne _ _ (by omega)
  have e3 : ∀ i, i ≠ v → cVi cI z (setf S (vfi j) v x) i = cVi cI z S i := fun i h => cVi_eq (fun q hq => by rw [setf_at, if_neg (fun e => h e.2)])
  have e4 : cGo cI z (setf S (vfi j) v x) = cGo cI z S := by
    funext i
    exact cGo_eq (fun q hq => by rw [setf_at, if_neg (by omega)])
  have e5 : wHd cI cA z (setf S (vfi j) v x) = wHd cI cA z S := by unfold wHd; rw [e0, e1]
  unfold wSi
  rw [e5, e0, List.set_append_right _ _ (show 4 ≤ 4 + S 0 1 + v by omega)]
  show _ ++ (wGs cI z S (S 0 1) ++ wVs cI z S (S 0 2)).set (4 + S 0 1 + v - 4) _ = _
  rw [show 4 + S 0 1 + v - 4 = S 0 1 + v by omega, List.set_append_right _ _ (by rw [wGs_ln]; omega), wGs_ln, Nat.add_sub_cancel_left]
  have e6 : (z (12 + v), (.inl (cI, 5, .inl (row (updN (vsl S v) j x))) : va_E)) = cVi cI z (setf S (vfi j) v x) v := by unfold cVi; rw [vsl_set v j x hj]
  rw [e6]
  unfold wGs wVs
  rw [e4, map_set (cVi cI z S) (cVi cI z (setf S (vfi j) v x)) _ _ e3]
theorem wSi_of {S1 S2 : Nat → Nat → Nat} (h0 : wHd cI cA z S1 = wHd cI cA z S2) (h1 : S1 0 1 = S2 0 1) (h2 : S1 0 2 = S2 0 2) (hg : cGo cI z S1 = cGo cI z S2) (hv : cVi cI z S1 = cVi cI z S2) : wSi cI cA z S1 = wSi cI cA z S2 := by
  unfold wSi wGs wVs
  rw [h0, h1, h2, hg, hv]
theorem wSi_s0 (j x : Nat) (hj : 3 ≤ j) : cGo cI z (setf S 0 j x) = cGo cI z S ∧ cVi cI z (setf S 0 j x) = cVi cI z S ∧ setf S 0 j x 0 1 = S 0 1 ∧ setf S 0 j x 0 2 = S 0 2 ∧ setf S 0 j x 0 0 = S 0 0 ∧ setf S 0 j x 1 = S 1 := by
  refine ⟨?_, ?_, ?_, ?_, ?_, ?_⟩
  · funext i; exact cGo_eq (fun q hq => by rw [setf_at, if_neg (by omega)])
  · funext i; exact cVi_eq (fun q hq => by have := vfi_ge q; rw [setf_at, if_neg (by omega)])
  · rw [setf_at, if_neg (by omega)]
  · rw [setf_at, if_neg (by omega)]
  · rw [setf_at, if_neg (by omega)]
  · exact setF_ne _ _ (by omega)
theorem wSi_s3 (x : Nat) : (wSi cI cA z S).set 0 (z 0, .inr (4, [.int (nI x), .int (nI (S 0 4)), .int (nI (S 0 5)), .ref (z 1), .ref (z 2), .ref (z 3)])) = wSi cI cA z (setf S 0 3 x) := by
  obtain ⟨h1, h2, h3, h4, h5, h6⟩ := wSi_s0 (cI := cI) (z := z) (S := S) 3 x (by omega)
  unfold wSi wGs wVs
  rw [h1, h2, h3, h4]
  unfold wHd
  rw [h3, h4, h5, h6, setf_at, if_pos ⟨rfl, rfl⟩, setf_at, if_neg (by omega), setf_at, if_neg (by omega)]
  rfl
theorem wSi_s4 (x : Nat) : (wSi cI cA z S).set 0 (z 0, .inr (4, [.int (nI (S 0 3)), .int (nI x), .int (nI (S 0 5)), .ref (z 1), .ref (z 2), .ref (z 3)])) = wSi cI cA z (setf S 0 4 x) := by
  obtain ⟨h1, h2, h3, h4, h5, h6⟩ := wSi_s0 (cI := cI) (z := z) (S := S) 4 x (by omega)
  unfold wSi wGs wVs
  rw [h1, h2, h3, h4]
  unfold wHd
  rw [h3, h4, h5, h6, setf_at, if_neg (by omega), setf_at, if_pos ⟨rfl, rfl⟩, setf_at, if_neg (by omega)]
  rfl
theorem wSi_s5 (x : Nat) : (wSi cI cA z S).set 0 (z 0, .inr (4, [.int (nI (S 0 3)), .int (nI (S 0 4)), .int (nI x), .ref (z 1), .ref (z 2), .ref (z 3)])) = wSi cI cA z (setf S 0 5 x) := by
  obtain ⟨h1, h2, h3, h4, h5, h6⟩ := wSi_s0 (cI := cI) (z := z) (S := S) 5 x (by omega)
  unfold wSi wGs wVs
  rw [h1, h2, h3, h4]
  unfold wHd
  rw [h3, h4, h5, h6, setf_at, if_neg (by omega), setf_at, if_neg (by omega), setf_at, if_pos ⟨rfl, rfl⟩]
  rfl
theorem wSi_sr (k x : Nat) : (wSi cI cA z S).set 1 (z 1, .inl (cI, S 0 0, .inl (row (updN (S 1) k x)))) = wSi cI cA z (setf S 1 k x) := by
  have e0 : setf S 1 k x 0 = S 0 := setF_ne _ _ (by omega)
  have e1 : setf S 1 k x 1 = updN (S 1) k x := setF_self _ _ _
  have h1 : cGo cI z (setf S 1 k x) = cGo cI z S := by funext i; exact cGo_eq (fun q hq => by rw [setf_at, if_neg (by omega)])
  have h2 : cVi cI z (setf S 1 k x) = cVi cI z S := by funext i; exact cVi_eq (fun q hq => by have := vfi_ge q; rw [setf_at, if_neg (by omega)])
  unfold wSi wGs wVs
  rw [h1, h2, e0]
  unfold wHd
  rw [e0, e1]
  rfl
/-- the addresses are z's, whatever the state shows -/
theorem wSi_ad {S1 : Nat → Nat → Nat} (h1 : S1 0 1 = S 0 1) (h2 : S1 0 2 = S 0 2) : (wSi cI cA z S1).map (·.1) = (wSi cI cA z S).map (·.1) := by
  unfold wSi wGs wVs
  rw [h1, h2]
  simp [List.map_append, List.map_map, wHd]
  rfl
theorem wSi_lneq {S1 : Nat → Nat → Nat} (h1 : S1 0 1 = S 0 1) (h2 : S1 0 2 = S 0 2) : (wSi cI cA z S1).length = (wSi cI cA z S).length := by rw [wSi_ln, wSi_ln, h1, h2]
end
/-! worlds by their members; what is apart, by the addresses -/
section
variable {D : va_G} {A A0 : Nat → Prop} {w w1 wc wr : va_W} {H H1 : Heap}
theorem P_mem : va_P D vwCl w H ↔ ∀ q ∈ w, va_at D vwCl q H := by
  constructor
  · intro h q hq
    obtain ⟨i, hi⟩ := List.getElem?_of_mem hq
    exact h i q hi
  · intro h k q hk
    exact h q (List.mem_of_getElem? hk)
theorem D_nd : va_D A w ↔ (w.map (·.1)).Nodup ∧ ∀ q ∈ w, A q.1 := by
  constructor
  · intro h
    refine ⟨?_, fun q hq => ?_⟩
    · unfold List.Nodup
      rw [List.pairwise_iff_getElem]
      intro i j hi hj hij e
      have hi' : i < w.length := by simpa using hi
      have hj' : j < w.length := by simpa using hj
      have := h.1 i j w[i] w[j] (List.getElem?_eq_getElem hi') (List.getElem?_eq_getElem hj') (by simpa using e)
      omega
    · obtain ⟨i, hi⟩ := List.getElem?_of_mem hq
      exact h.2 i q hi
  · rintro ⟨h1, h2⟩
    refine ⟨fun i j p q hp hq e => ?_, fun k q hk => h2 q (List.mem_of_getElem? hk)⟩
    unfold List.Nodup at h1
    rw [List.pairwise_iff_getElem] at h1
    obtain ⟨hi, ep⟩ := List.getElem?_eq_some_iff.mp hp
    obtain ⟨hj, eq⟩ := List.getElem?_eq_some_iff.mp hq
    subst ep
    subst eq
    rcases Nat.lt_trichotomy i j with h | h | h
    · exact absurd (by rw [List.getElem_map, List.getElem_map]; exact e) (h1 i j (by simpa using hi) (by simpa using hj) h)
    · exact h
    · exact absurd (by rw [List.getElem_map, List.getElem_map]; exact e.symm) (h1 j i (by simpa using hj) (by simpa using hi) h)
/-- the head's cells are put anew, some of them new -/
theorem preN_P (hP : va_P D vwCl (wc ++ wr) H) (hD : va_D A0 (wc ++ wr)) (hk : ∀ q : Nat, q < H.size → ¬ va_B wc q → H1[q]? = H[q]?) (hP1 : va_P D vwCl w1 H1) : va_P D vwCl (w1 ++ wr) H1 := by
  rw [P_mem]
  intro q hq
  rcases List.mem_append.mp hq with h | h
  · exact P_mem.mp hP1 q h
  · obtain ⟨i, hi⟩ := List.getElem?_of_mem h
    have hi2 := app_l (wr := wc) hi
    have h2 := hP (wc.length + i) q hi2
    refine h2.kept (hk q.1 h2.lt ?_)
    rintro ⟨j, e, h3⟩
    have := hD.1 (wc.length + i) j q (q.1, e) hi2 (pre_at h3) rfl
    have := (List.getElem?_eq_some_iff.mp h3).1
    omega
theorem preN_D (hP : va_P D vwCl (wc ++ wr) H) (hD : va_D A0 (wc ++ wr)) (hA : ∀ q, H.size ≤ q → A0 q) (hD1 : va_D (va_A wc H.size) w1) : va_D A0 (w1 ++ wr) := by
  have hcl : ∀ (i : Nat) (q : Nat × va_E), wr[i]? = some q → ¬ va_A wc H.size q.1 := by
    intro i q hi h
    have hi2 := app_l (wr := wc) hi
    rcases h with ⟨j, e, h3⟩ | h
    · have := hD.1 (wc.length + i) j q (q.1, e) hi2 (pre_at h3) rfl
      have := (List.getElem?_eq_some_iff.mp h3).1
      omega
    · have := (hP (wc.length + i) q hi2).lt
      omega
  refine ⟨fun i j p q hp hq e => ?_, fun k q hk => ?_⟩
  · by_cases h1 : i < w1.length
    · rw [List.getElem?_append_left h1] at hp
      by_cases h2 : j < w1.length
      · rw [List.getElem?_append_left h2] at hq
        exact hD1.1 i j p q hp hq e
      · rw [List.getElem?_append_right (by omega)] at hq
        exact absurd (e ▸ hD1.2 i p hp) (hcl _ q hq)
    · rw [List.getElem?_append_right (by omega)] at hp
      by_cases h2 : j < w1.length
      · rw [List.getElem?_append_left h2] at hq
        exact absurd (e ▸ hD1.2 j q hq) (hcl _ p hp)
      · rw [List.getElem?_append_right (by omega)] at hq
        have := hD.1 _ _ p q (app_l (wr := wc) hp) (app_l (wr := wc) hq) e
        omega
  · by_cases h1 : k < w1.length
    · rw [List.getElem?_append_left h1] at hk
      rcases hD1.2 k q hk with ⟨j, e, h⟩ | h
      · exact hD.2 j (q.1, e) (pre_at h)
      · exact hA _ h
    · rw [List.getElem?_append_right (by omega)] at hk
      exact hD.2 _ q (app_l (wr := wc) hk)
/-- cells in the middle -/
theorem mid_P {wl wm : va_W} (hP : va_P D vwCl (wl ++ (wc ++ wm)) H) (hD : va_D A0 (wl ++ (wc ++ wm))) (hl : w1.length = wc.length) (hk : ∀ q : Nat, q < H.size → ¬ va_B wc q → H1[q]? = H[q]?) (hP1 : va_P D vwCl w1 H1) : va_P D vwCl (wl ++ (w1 ++ wm)) H1 :=
  app_P hP hD (fun q h1 h2 => hk q h1 (fun ⟨j, e, h3⟩ => h2 ⟨j, e, pre_at h3⟩)) (pre_P (app_Pr hP) (app_Dr hD) hl hk hP1)
theorem mid_D {wl wm : va_W} (hD : va_D A0 (wl ++ (wc ++ wm))) (ha : w1.map (·.1) = wc.map (·.1)) : va_D A0 (wl ++ (w1 ++ wm)) := D_re hD (by rw [List.map_append, List.map_append, List.map_append, List.map_append, ha])
/-- one more cell, a new one -/
theorem D_more {q : Nat} {e : va_E} (hP : va_P D vwCl w H) (hD : va_D A w) (hq : H.size ≤ q) (hA : A q) : va_D A (w ++ [(q, e)]) := by
  refine ⟨fun i j p r hp hr h => ?_, fun k p hp => ?_⟩
  · by_cases h1 : i < w.length
    · rw [List.getElem?_append_left h1] at hp
      by_cases h2 : j < w.length
      · rw [List.getElem?_append_left h2] at hr
        exact hD.1 i j p r hp hr h
      · have hz := (List.getElem?_eq_some_iff.mp hr).1
        rw [List.length_append] at hz
        rw [List.getElem?_append_right (by omega), show j - w.length = 0 by simp at hz; omega] at hr
        cases hr
        have := (hP i p hp).lt
        have h9 : p.1 = q := h
        omega
    · have hz := (List.getElem?_eq_some_iff.mp hp).1
      rw [List.length_append] at hz
      rw [List.getElem?_append_right (by omega), show i - w.length = 0 by simp at hz; omega] at hp
      cases hp
      by_cases h2 : j < w.length
      · rw [List.getElem?_append_left h2] at hr
        have := (hP j r hr).lt
        have h9 : q = r.1 := h
        omega
      · have hz2 := (List.getElem?_eq_some_iff.mp hr).1
        rw [List.length_append] at hz2
        simp at hz hz2
        omega
  · by_cases h1 : k < w.length
    · rw [List.getElem?_append_left h1] at hp
      exact hD.2 k p hp
    · have hz := (List.getElem?_eq_some_iff.mp hp).1
      rw [List.length_append] at hz
      rw [List.getElem?_append_right (by omega), show k - w.length = 0 by simp at hz; omega] at hp
      cases hp
      exact hA
theorem P_more {q : Nat} {e : va_E} (hP : va_P D vwCl w H) (h : va_at D vwCl (q, e) H) : va_P D vwCl (w ++ [(q, e)]) H := by
  rw [P_mem]
  intro x hx
  rcases List.mem_append.mp hx with h1 | h1
  · exact P_mem.mp hP x h1
  · rw [List.mem_singleton.mp h1]; exact h
end
