/-! a new row in its place -/
theorem nd_g {z0 z1 z2 z3 q q2 : Nat} {G V X : List Nat} (h : ((([z0, z1, z2, z3] ++ (G ++ V)) ++ X) ++ [q, q2]).Nodup) : (([z0, z1, q2, z3] ++ ((G ++ [q]) ++ V)) ++ X).Nodup := by
  simp only [List.nodup_append, List.nodup_cons, List.mem_append, List.mem_cons, List.not_mem_nil] at h ⊢
  grind
theorem nd_v {z0 z1 z2 z3 q q2 : Nat} {G V X : List Nat} (h : ((([z0, z1, z2, z3] ++ (G ++ V)) ++ X) ++ [q, q2]).Nodup) : (([z0, z1, z2, q2] ++ (G ++ (V ++ [q]))) ++ X).Nodup := by
  simp only [List.nodup_append, List.nodup_cons, List.mem_append, List.mem_cons, List.not_mem_nil] at h ⊢
  grind
theorem wSi_fst {cI cA : ClassId} {z : Nat → Nat} {S : Nat → Nat → Nat} : (wSi cI cA z S).map (·.1) = [z 0, z 1, z 2, z 3] ++ ((List.range (S 0 1)).map (fun k => z (4 + k)) ++ (List.range (S 0 2)).map (fun k => z (12 + k))) := by
  unfold wSi wGs wVs
  simp [List.map_append, List.map_map, wHd]
  rfl
/-- the state behind a goose more, a visitor more -/
abbrev goA (S : Nat → Nat → Nat) (g t : Nat) : Nat → Nat → Nat := setf (setf (setf S 2 (S 0 1) g) 3 (S 0 1) t) 0 1 (S 0 1 + 1)
abbrev viA (S : Nat → Nat → Nat) (r v c : Nat) : Nat → Nat → Nat := setf (setf (setf (setf S 6 (S 0 2) r) 9 (S 0 2) v) 8 (S 0 2) c) 0 2 (S 0 2 + 1)
section
variable {cI cA : ClassId} {z : Nat → Nat} {S : Nat → Nat → Nat} {X : va_W} {D : va_G} {A : Nat → Prop} {H : Heap} {q q2 : Nat} {f : Nat → Nat}
abbrev wPg (cI cA : ClassId) (z : Nat → Nat) (S : Nat → Nat → Nat) (X : va_W) (q q2 : Nat) (f : Nat → Nat) : va_W := ((wSi cI cA z S).set 0 (z 0, .inr (4, [.int (nI (S 0 3)), .int (nI (S 0 4)), .int (nI (S 0 5)), .ref (z 1), .ref q2, .ref (z 3)])) ++ X) ++ [(q, .inl (cI, 4, .inl (row f))), (q2, .inl (cA, S 0 1 + 1, ilr (va_up (fun k => some (z (4 + k))) (S 0 1) (some q))))]
abbrev wPv (cI cA : ClassId) (z : Nat → Nat) (S : Nat → Nat → Nat) (X : va_W) (q q2 : Nat) (f : Nat → Nat) : va_W := ((wSi cI cA z S).set 0 (z 0, .inr (4, [.int (nI (S 0 3)), .int (nI (S 0 4)), .int (nI (S 0 5)), .ref (z 1), .ref (z 2), .ref q2])) ++ X) ++ [(q, .inl (cI, 5, .inl (row f))), (q2, .inl (cA, S 0 2 + 1, ilr (va_up (fun k => some (z (12 + k))) (S 0 2) (some q))))]
abbrev zG (z : Nat → Nat) (m q q2 : Nat) : Nat → Nat := updN (updN z 2 q2) (4 + m) q
abbrev zV (z : Nat → Nat) (m q q2 : Nat) : Nat → Nat := updN (updN z 3 q2) (12 + m) q
theorem goA_0 {g t j : Nat} (h : j ≠ 1) : goA S g t 0 j = S 0 j := by unfold goA; rw [setf_at, if_neg (by omega), setf_at, if_neg (by omega), setf_at, if_neg (by omega)]
theorem goA_1 {g t : Nat} : goA S g t 0 1 = S 0 1 + 1 := by unfold goA; rw [setf_at, if_pos ⟨rfl, rfl⟩]
theorem goA_k {g t a k : Nat} (ha : 0 < a) (hk : k ≠ S 0 1) : goA S g t a k = S a k := by unfold goA; rw [setf_at, if_neg (by omega), setf_at, if_neg (fun e => hk e.2), setf_at, if_neg (fun e => hk e.2)]
theorem goA_f {g t a k : Nat} (ha : 0 < a) (h2 : a ≠ 2) (h3 : a ≠ 3) : goA S g t a k = S a k := by unfold goA; rw [setf_at, if_neg (by omega), setf_at, if_neg (by omega), setf_at, if_neg (by omega)]
theorem viA_0 {r v c j : Nat} (h : j ≠ 2) : viA S r v c 0 j = S 0 j := by unfold viA; rw [setf_at, if_neg (by omega), setf_at, if_neg (by omega), setf_at, if_neg (by omega), setf_at, if_neg (by omega)]
theorem viA_2 {r v c : Nat} : viA S r v c 0 2 = S 0 2 + 1 := by unfold viA; rw [setf_at, if_pos ⟨rfl, rfl⟩]
theorem viA_k {r v c a k : Nat} (ha : 0 < a) (hk : k ≠ S 0 2) : viA S r v c a k = S a k := by unfold viA; rw [setf_at, if_neg (by omega), setf_at, if_neg (fun e => hk e.2), setf_at, if_neg (fun e => hk e.2), setf_at, if_neg (fun e => hk e.2)]
theorem viA_f {r v c a k : Nat} (ha : 0 < a) (h2 : a ≠ 6) (h3 : a ≠ 9) (h4 : a ≠ 8) : viA S r v c a k = S a k := by unfold viA; rw [setf_at, if_neg (by omega), setf_at, if_neg (by omega), setf_at, if_neg (by omega), setf_at, if_neg (by omega)]
theorem re_gP {g t : Nat} (hm : S 0 1 ≤ 7) (h0 : f 0 = g) (h1 : f 1 = t) (h2 : f 2 = S 4 (S 0 1)) (h3 : f 3 = S 5 (S 0 1)) (hP : va_P D vwCl (wPg cI cA z S X q q2 f) H) : va_P D vwCl (wSi cI cA (zG z (S 0 1) q q2) (goA S g t) ++ X) H := by
  have hw : ∀ y ∈ wPg cI cA z S X q q2 f, va_at D vwCl y H := P_mem.mp hP
  have hset : ∀ i y, 0 < i → (wSi cI cA z S)[i]? = some y → va_at D vwCl y H := fun i y hi hy => hP i y (pre_at (pre_at (by rw [List.getElem?_set_ne (by omega)]; exact hy)))
  have hq : H[q]? = some (vp_cell cI (4, .inl (row f))) := hw (q, .inl (cI, 4, .inl (row f))) (by simp [wPg])
  have hq2 : H[q2]? = some (vp_cell cA (S 0 1 + 1, ilr (va_up (fun k => some (z (4 + k))) (S 0 1) (some q)))) := hw (q2, .inl (cA, S 0 1 + 1, ilr (va_up (fun k => some (z (4 + k))) (S 0 1) (some q)))) (by simp [wPg])
  have zk : ∀ i, i ≠ 2 → i ≠ 4 + S 0 1 → zG z (S 0 1) q q2 i = z i := fun i h2 h4 => by unfold zG; rw [updN_ne h4, updN_ne h2]
  have z2 : zG z (S 0 1) q q2 2 = q2 := by unfold zG; rw [updN_ne (by omega), updN_at]
  have zm : zG z (S 0 1) q q2 (4 + S 0 1) = q := updN_at
  rw [P_mem]
  intro y hy
  rcases List.mem_append.mp hy with hy | hy
  · unfold wSi at hy
    rcases List.mem_append.mp hy with hy | hy
    · unfold wHd at hy
      rw [zk 0 (by omega) (by omega), zk 1 (by omega) (by omega), z2, zk 3 (by omega) (by omega), goA_0 (j := 0) (by omega), goA_0 (j := 3) (by omega), goA_0 (j := 4) (by omega), goA_0 (j := 5) (by omega), goA_0 (j := 2) (by omega), goA_1] at hy
      rcases List.mem_cons.mp hy with rfl | hy
      · exact hP 0 _ (pre_at (pre_at (List.getElem?_set_self (by rw [wSi_ln]; omega))))
      rcases List.mem_cons.mp hy with rfl | hy
      · have : goA S g t 1 = S 1 := by funext k; exact goA_f (by omega) (by omega) (by omega)
        rw [this]
        exact hset 1 _ (by omega) rfl
      rcases List.mem_cons.mp hy with rfl | hy
      · show H[q2]? = some (vp_cell cA (S 0 1 + 1, ilr (fun k => some (zG z (S 0 1) q q2 (4 + k)))))
        rw [hq2]
        congr 1
        refine cell_O (fun j hj => ?_)
        unfold va_up
        by_cases e : j = S 0 1
        · subst e; rw [if_pos rfl, zm]
        · rw [if_neg e, zk _ (by omega) (by omega)]
      rcases List.mem_cons.mp hy with rfl | hy
      · have : (fun v => some (zG z (S 0 1) q q2 (12 + v))) = fun v => some (z (12 + v)) := by funext v; rw [zk _ (by omega) (by omega)]
        rw [this]
        exact hset 3 _ (by omega) rfl
      · simp at hy
    · rcases List.mem_append.mp hy with hy | hy
      · obtain ⟨k, hk, rfl⟩ := List.mem_map.mp hy
        have hk : k < S 0 1 + 1 := by rw [goA_1] at hk; exact List.mem_range.mp hk
        by_cases e : k = S 0 1
        · subst e
          show H[zG z (S 0 1) q q2 (4 + S 0 1)]? = some (vp_cell cI (4, .inl (row (gsl (goA S g t) (S 0 1)))))
          rw [zm, hq]
          congr 1
          refine cell_I (fun j hj => ?_)
          unfold gsl
          rw [if_pos hj]
          rcases (show j = 0 ∨ j = 1 ∨ j = 2 ∨ j = 3 by omega) with rfl | rfl | rfl | rfl
          · rw [h0]; unfold goA; rw [setf_at, if_neg (by omega), setf_at, if_neg (by omega), setf_at, if_pos ⟨rfl, rfl⟩]
          · rw [h1]; unfold goA; rw [setf_at, if_neg (by omega), setf_at, if_pos ⟨rfl, rfl⟩]
          · rw [h2, goA_f (by omega) (by omega) (by omega)]
          · rw [h3, goA_f (by omega) (by omega) (by omega)]
        · have e1 : cGo cI (zG z (S 0 1) q q2) (goA S g t) k = cGo cI z S k := by
            rw [cz_eq (zk _ (by omega) (by omega))]
            exact cGo_eq (fun j hj => goA_k (by omega) e)
          rw [e1]
          exact hset (4 + k) _ (by omega) (wSi_g (by omega))
      · obtain ⟨k, hk, rfl⟩ := List.mem_map.mp hy
        have hk : k < S 0 2 := by rw [goA_0 (by omega)] at hk; exact List.mem_range.mp hk
        have e1 : cVi cI (zG z (S 0 1) q q2) (goA S g t) k = cVi cI z S k := by
          rw [czv_eq (zk _ (by omega) (by omega))]
          exact cVi_eq (fun j hj => by have := vfi_ge j; exact goA_f (by omega) (by omega) (by omega))
        rw [e1]
        exact hset (4 + S 0 1 + k) _ (by omega) (wSi_v hk)
  · exact hw y (List.mem_append_left _ (List.mem_append_right _ hy))
theorem set0_fst {e : Nat × va_E} (he : e.1 = z 0) : ((wSi cI cA z S).set 0 e).map (·.1) = (wSi cI cA z S).map (·.1) := by
  rw [List.map_set, he]
  rfl
theorem re_gD {g t : Nat} (hm : S 0 1 ≤ 7) (hD : va_D A (wPg cI cA z S X q q2 f)) : va_D A (wSi cI cA (zG z (S 0 1) q q2) (goA S g t) ++ X) := by
  have zk : ∀ i, i ≠ 2 → i ≠ 4 + S 0 1 → zG z (S 0 1) q q2 i = z i := fun i h2 h4 => by unfold zG; rw [updN_ne h4, updN_ne h2]
  have z2 : zG z (S 0 1) q q2 2 = q2 := by unfold zG; rw [updN_ne (by omega), updN_at]
  have zm : zG z (S 0 1) q q2 (4 + S 0 1) = q := updN_at
  have ea : (wPg cI cA z S X q q2 f).map (·.1) = (([z 0, z 1, z 2, z 3] ++ ((List.range (S 0 1)).map (fun k => z (4 + k)) ++ (List.range (S 0 2)).map (fun k => z (12 + k)))) ++ X.map (·.1)) ++ [q, q2] := by
    unfold wPg
    rw [List.map_append, List.map_append, set0_fst, wSi_fst] <;> rfl
  have eb : (wSi cI cA (zG z (S 0 1) q q2) (goA S g t) ++ X).map (·.1) = ([z 0, z 1, q2, z 3] ++ (((List.range (S 0 1)).map (fun k => z (4 + k)) ++ [q]) ++ (List.range (S 0 2)).map (fun k => z (12 + k)))) ++ X.map (·.1) := by
    rw [List.map_append, wSi_fst, zk 0 (by omega) (by omega), zk 1 (by omega) (by omega), z2, zk 3 (by omega) (by omega), goA_1, goA_0 (by omega), List.range_succ, List.map_append]
    congr 4
    · exact List.map_congr_left (fun k hk => by have := List.mem_range.mp hk; exact zk _ (by omega) (by omega))
    · show [zG z (S 0 1) q q2 (4 + S 0 1)] = [q]
      rw [zm]
    · funext k
      exact zk _ (by omega) (by omega)
  rw [D_nd] at hD ⊢
  rw [ea] at hD
  rw [eb]
  refine ⟨nd_g hD.1, ?_⟩
  have hA : ∀ x ∈ (wPg cI cA z S X q q2 f).map (·.1), A x := fun x hx => by
    obtain ⟨y, hy, rfl⟩ := List.mem_map.mp hx
    exact hD.2 y hy
  rw [ea] at hA
  intro y hy
  have hy2 : y.1 ∈ (wSi cI cA (zG z (S 0 1) q q2) (goA S g t) ++ X).map (·.1) := List.mem_map_of_mem hy
  rw [eb] at hy2
  refine hA y.1 ?_
  simp only [List.mem_append, List.mem_cons, List.not_mem_nil] at hy2 ⊢
  grind
theorem re_vP {r v c : Nat} (hm : S 0 2 ≤ 7) (hg : S 0 1 ≤ 8) (h0 : f 0 = r) (h1 : f 1 = v) (h2 : f 2 = c) (h3 : f 3 = S 7 (S 0 2)) (h4 : f 4 = S 10 (S 0 2)) (hP : va_P D vwCl (wPv cI cA z S X q q2 f) H) : va_P D vwCl (wSi cI cA (zV z (S 0 2) q q2) (viA S r v c) ++ X) H := by
  have hw : ∀ y ∈ wPv cI cA z S X q q2 f, va_at D vwCl y H := P_mem.mp hP
  have hset : ∀ i y, 0 < i → (wSi cI cA z S)[i]? = some y → va_at D vwCl y H := fun i y hi hy => hP i y (pre_at (pre_at (by rw [List.getElem?_set_ne (by omega)]; exact hy)))
  have hq : H[q]? = some (vp_cell cI (5, .inl (row f))) := hw (q, .inl (cI, 5, .inl (row f))) (by simp [wPv])
  have hq2 : H[q2]? = some (vp_cell cA (S 0 2 + 1, ilr (va_up (fun k => some (z (12 + k))) (S 0 2) (some q)))) := hw (q2, .inl (cA, S 0 2 + 1, ilr (va_up (fun k => some (z (12 + k))) (S 0 2) (some q)))) (by simp [wPv])
  have zk : ∀ i, i ≠ 3 → i ≠ 12 + S 0 2 → zV z (S 0 2) q q2 i = z i := fun i h2 h4 => by unfold zV; rw [updN_ne h4, updN_ne h2]
  have z3 : zV z (S 0 2) q q2 3 = q2 := by unfold zV; rw [updN_ne (by omega), updN_at]
  have zm : zV z (S 0 2) q q2 (12 + S 0 2) = q := updN_at
  rw [P_mem]
  intro y hy
  rcases List.mem_append.mp hy with hy | hy
  · unfold wSi at hy
    rcases List.mem_append.mp hy with hy | hy
    · unfold wHd at hy
      rw [zk 0 (by omega) (by omega), zk 1 (by omega) (by omega), z3, zk 2 (by omega) (by omega), viA_0 (j := 0) (by omega), viA_0 (j := 3) (by omega), viA_0 (j := 4) (by omega), viA_0 (j := 5) (by omega), viA_0 (j := 1) (by omega), viA_2] at hy
      rcases List.mem_cons.mp hy with rfl | hy
      · exact hP 0 _ (pre_at (pre_at (List.getElem?_set_self (by rw [wSi_ln]; omega))))
      rcases List.mem_cons.mp hy with rfl | hy
      · have : viA S r v c 1 = S 1 := by funext k; exact viA_f (by omega) (by omega) (by omega) (by omega)
        rw [this]
        exact hset 1 _ (by omega) rfl
      rcases List.mem_cons.mp hy with rfl | hy
      · show va_at D vwCl (z 2, .inl (cA, S 0 1, ilr (fun k => some (zV z (S 0 2) q q2 (4 + k))))) H
        show H[z 2]? = some (vp_cell cA (S 0 1, ilr (fun k => some (zV z (S 0 2) q q2 (4 + k)))))
        have h9 : H[z 2]? = some (vp_cell cA (S 0 1, ilr (fun k => some (z (4 + k))))) := hset 2 _ (by omega) rfl
        rw [h9]
        congr 1
        exact cell_O (fun j hj => by rw [zk _ (by omega) (by omega)])
      rcases List.mem_cons.mp hy with rfl | hy
      · show H[q2]? = some (vp_cell cA (S 0 2 + 1, ilr (fun k => some (zV z (S 0 2) q q2 (12 + k)))))
        rw [hq2]
        congr 1
        refine cell_O (fun j hj => ?_)
        unfold va_up
        by_cases e : j = S 0 2
        · subst e; rw [if_pos rfl, zm]
        · rw [if_neg e, zk _ (by omega) (by omega)]
      · simp at hy
    · rcases List.mem_append.mp hy with hy | hy
      · obtain ⟨k, hk, rfl⟩ := List.mem_map.mp hy
        have hk : k < S 0 1 := by rw [viA_0 (by omega)] at hk; exact List.mem_range.mp hk
        have e1 : cGo cI (zV z (S 0 2) q q2) (viA S r v c) k = cGo cI z S k := by
          rw [cz_eq (zk _ (by omega) (by omega))]
          exact cGo_eq (fun j hj => viA_f (by omega) (by omega) (by omega) (by omega))
        rw [e1]
        exact hset (4 + k) _ (by omega) (wSi_g hk)
      · obtain ⟨k, hk, rfl⟩ := List.mem_map.mp hy
        have hk : k < S 0 2 + 1 := by rw [viA_2] at hk; exact List.mem_range.mp hk
        by_cases e : k = S 0 2
        · subst e
          show H[zV z (S 0 2) q q2 (12 + S 0 2)]? = some (vp_cell cI (5, .inl (row (vsl (viA S r v c) (S 0 2)))))
          rw [zm, hq]
          congr 1
          refine cell_I (fun j hj => ?_)
          unfold vsl
          rw [if_pos hj]
          rcases (show j = 0 ∨ j = 1 ∨ j = 2 ∨ j = 3 ∨ j = 4 by omega) with rfl | rfl | rfl | rfl | rfl
          · rw [h0]; show r = viA S r v c 6 (S 0 2); unfold viA; rw [setf_at, if_neg (by omega), setf_at, if_neg (by omega), setf_at, if_neg (by omega), setf_at, if_pos ⟨rfl, rfl⟩]
          · rw [h1]; show v = viA S r v c 9 (S 0 2); unfold viA; rw [setf_at, if_neg (by omega), setf_at, if_neg (by omega), setf_at, if_pos ⟨rfl, rfl⟩]
          · rw [h2]; show c = viA S r v c 8 (S 0 2); unfold viA; rw [setf_at, if_neg (by omega), setf_at, if_pos ⟨rfl, rfl⟩]
          · rw [h3]; show S 7 (S 0 2) = viA S r v c 7 (S 0 2); rw [viA_f (by omega) (by omega) (by omega) (by omega)]
          · rw [h4]; show S 10 (S 0 2) = viA S r v c 10 (S 0 2); rw [viA_f (by omega) (by omega) (by omega) (by omega)]
        · have e1 : cVi cI (zV z (S 0 2) q q2) (viA S r v c) k = cVi cI z S k := by
            rw [czv_eq (zk _ (by omega) (by omega))]
            exact cVi_eq (fun j hj => viA_k (by have := vfi_ge j; omega) e)
          rw [e1]
          exact hset (4 + S 0 1 + k) _ (by omega) (wSi_v (by omega))
  · exact hw y (List.mem_append_left _ (List.mem_append_right _ hy))
theorem re_vD {r v c : Nat} (hm : S 0 2 ≤ 7) (hg : S 0 1 ≤ 8) (hD : va_D A (wPv cI cA z S X q q2 f)) : va_D A (wSi cI cA (zV z (S 0 2) q q2) (viA S r v c) ++ X) := by
  have zk : ∀ i, i ≠ 3 → i ≠ 12 + S 0 2 → zV z (S 0 2) q q2 i = z i := fun i h2 h4 => by unfold zV; rw [updN_ne h4, updN_ne h2]
  have z3 : zV z (S 0 2) q q2 3 = q2 := by unfold zV; rw [updN_ne (by omega), updN_at]
  have zm : zV z (S 0 2) q q2 (12 + S 0 2) = q := updN_at
  have e1 : (List.range (S 0 1)).map (fun k => zV z (S 0 2) q q2 (4 + k)) = (List.range (S 0 1)).map (fun k => z (4 + k)) := List.map_congr_left (fun k hk => by have := List.mem_range.mp hk; exact zk _ (by omega) (by omega))
  have e2 : (List.range (S 0 2)).map (fun k => zV z (S 0 2) q q2 (12 + k)) = (List.range (S 0 2)).map (fun k => z (12 + k)) := List.map_congr_left (fun k hk => by have := List.mem_range.mp hk; exact zk _ (by omega) (by omega))
  have ea : (wPv cI cA z S X q q2 f).map (·.1) = (([z 0, z 1, z 2, z 3] ++ ((List.range (S 0 1)).map (fun k => z (4 + k)) ++ (List.range (S 0 2)).map (fun k => z (12 + k)))) ++ X.map (·.1)) ++ [q, q2] := by
    unfold wPv
    rw [List.map_append, List.map_append, set0_fst, wSi_fst] <;> rfl
  have eb : (wSi cI cA (zV z (S 0 2) q q2) (viA S r v c) ++ X).map (·.1) = ([z 0, z 1, z 2, q2] ++ ((List.range (S 0 1)).map (fun k => z (4 + k)) ++ ((List.range (S 0 2)).map (fun k => z (12 + k)) ++ [q]))) ++ X.map (·.1) := by
    rw [List.map_append, wSi_fst, zk 0 (by omega) (by omega), zk 1 (by omega) (by omega), z3, zk 2 (by omega) (by omega), viA_2, viA_0 (by omega), List.range_succ, List.map_append]
    rw [e1, e2]
    simp only [List.map_cons, List.map_nil, zm]
  rw [D_nd] at hD ⊢
  rw [ea] at hD
  rw [eb]
  refine ⟨nd_v hD.1, ?_⟩
  have hA : ∀ x ∈ (wPv cI cA z S X q q2 f).map (·.1), A x := fun x hx => by
    obtain ⟨y, hy, rfl⟩ := List.mem_map.mp hx
    exact hD.2 y hy
  rw [ea] at hA
  intro y hy
  have hy2 : y.1 ∈ (wSi cI cA (zV z (S 0 2) q q2) (viA S r v c) ++ X).map (·.1) := List.mem_map_of_mem hy
  rw [eb] at hy2
  refine hA y.1 ?_
  simp only [List.mem_append, List.mem_cons, List.not_mem_nil] at hy2 ⊢
  grind
end
