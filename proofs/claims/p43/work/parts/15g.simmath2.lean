/-! what a beat does to a goose; what stays of a state -/
def gooR (S T : Nat → Nat → Nat) (i : Nat) : Prop := (T 5 i = S 5 i ∧ T 4 i = S 4 i - 1 ∧ S 3 i ≤ T 3 i) ∨ (T 5 i = S 5 i + 1 ∧ T 4 i = 3 ∧ S 4 i ≤ 1)
theorem goo_mv {S U : Nat → Nat → Nat} (hI : Inv U) {v i : Nat} (h : gooR S U i) : gooR S (mvS U v) i := by
  unfold mvS
  by_cases a : U 0 0 ≤ U 7 v
  · rw [if_pos a]; exact h
  · rw [if_neg a]
    unfold moveS
    by_cases b : 0 < U 10 v
    · rw [if_pos b]
      unfold gooR
      rw [setf_at, if_neg (by omega), setf_at, if_neg (by omega), setf_at, if_neg (by omega)]
      exact h
    · rw [if_neg b]
      by_cases c : hisG U (U 7 v) (U 6 v) ≤ U 9 v
      · rw [if_pos c]
        have e3 : U 3 i ≤ goS U v 3 i := by
          have hm := hI.mood i
          show U 3 i ≤ enrN U (U 7 v) (U 0 1) i
          unfold enrN
          split <;> omega
        have e4 : goS U v 4 i = U 4 i := by unfold goS; rw [setF_at, if_neg (by omega), setf_at, if_neg (by omega)]
        have e5 : goS U v 5 i = U 5 i := by unfold goS; rw [setF_at, if_neg (by omega), setf_at, if_neg (by omega)]
        unfold gooR
        rw [e4, e5]
        rcases h with ⟨h1, h2, h3⟩ | h
        · exact Or.inl ⟨h1, h2, Nat.le_trans h3 e3⟩
        · exact Or.inr h
      · rw [if_neg c]
        by_cases d : 0 < U 8 v
        · rw [if_pos d]
          obtain ⟨k, hk1, hk2, hk3, hk4⟩ := frc_get hI (t := U 7 v) (r := U 6 v) (by omega)
          rw [hk1, Nat.add_sub_cancel]
          by_cases e : i = k
          · subst e
            have e4 : payS U v i 4 i = 3 := by simp [payS, setf_at]
            have e5 : payS U v i 5 i = U 5 i + 1 := by simp [payS, setf_at]
            have hk := hk3.2
            unfold gooR
            rw [e4, e5]
            rcases h with ⟨h1, h2, h3⟩ | ⟨h1, h2, h3⟩
            · exact Or.inr ⟨by omega, rfl, by omega⟩
            · omega
          · have e3 : payS U v k 3 i = U 3 i := by simp [payS, setf_at, e]
            have e4 : payS U v k 4 i = U 4 i := by simp [payS, setf_at, e]
            have e5 : payS U v k 5 i = U 5 i := by simp [payS, setf_at, e]
            unfold gooR
            rw [e3, e4, e5]
            exact h
        · rw [if_neg d]
          unfold gooR fallS
          simp [setf_at]
          exact h
theorem goo_beat {S : Nat → Nat → Nat} (hI : Inv S) {i : Nat} (hi : i < S 0 1) : gooR S (beatS S) i := by
  have h0 : gooR S (wakS S) i := by
    refine Or.inl ⟨rfl, ?_, Nat.le_refl _⟩
    show wakN S (S 0 1) i = _
    unfold wakN
    rw [if_pos hi]
  have h1 : ∀ n, gooR S (movN (wakS S) n) i := by
    intro n
    induction n with
    | zero => exact h0
    | succ n ih => exact goo_mv (inv_movN (inv_wakS hI) n) ih
  have h2 := h1 (S 0 2)
  unfold gooR beatS at *
  rw [setf_at, if_neg (by omega), setf_at, if_neg (by omega), setf_at, if_neg (by omega)]
  exact h2
/-! what stays -/
theorem LI_wak {S : Nat → Nat → Nat} (h : LI S) : LI (wakS S) := by
  obtain ⟨h1, ⟨h2, h3, h4⟩, h5⟩ := h
  refine ⟨inv_wakS h1, ⟨fun j hj => ⟨?_, (h2 j hj).2⟩, h3, h4⟩, (etN_congr (S := wakS S) (T := S) (S 0 1) (fun _ _ => rfl)).trans h5⟩
  have := (h2 j hj).1
  show wakN S (S 0 1) j = 0
  unfold wakN
  split <;> omega
theorem LI_mv {S : Nat → Nat → Nat} (h : LI S) {v : Nat} (hv : v < S 0 2) : LI (mvS S v) := by
  unfold mvS
  by_cases a : S 0 0 ≤ S 7 v
  · rw [if_pos a]; exact h
  · rw [if_neg a]
    have hI' := inv_moveS h.1 a
    obtain ⟨h1, ⟨h2, h3, h4⟩, h5⟩ := h
    refine ⟨hI', ?_⟩
    unfold moveS
    by_cases b : 0 < S 10 v
    · rw [if_pos b]
      refine ⟨⟨h2, fun j hj => ⟨(h3 j hj).1, ?_⟩, fun j hj => ?_⟩, (etN_congr (S := setf S 10 v (S 10 v - 1)) (T := S) (S 0 1) (fun _ _ => rfl)).trans h5⟩
      · have hj : S 0 2 ≤ j := hj
        rw [setf_at, if_neg (by omega)]
        exact (h3 j hj).2
      · have hj : S 0 0 ≤ S 7 j := hj
        rw [setf_at, if_neg (fun e => a (by have := e.2; subst this; exact hj))]
        exact h4 j hj
    · rw [if_neg b]
      by_cases c : hisG S (S 7 v) (S 6 v) ≤ S 9 v
      · rw [if_pos c]
        have e7 : ∀ j, goS S v 7 j = if j = v then S 7 v + 1 else S 7 j := fun j => rfl
        refine ⟨⟨h2, fun j hj => ⟨?_, (h3 j hj).2⟩, fun j hj => ?_⟩, (etN_congr (S := goS S v) (T := S) (S 0 1) (fun _ _ => rfl)).trans h5⟩
        · have hj : S 0 2 ≤ j := hj
          rw [e7, if_neg (by omega)]
          exact (h3 j hj).1
        · have hj : S 0 0 ≤ goS S v 7 j := hj
          show S 10 j = 0
          rw [e7] at hj
          by_cases e : j = v
          · subst e; omega
          · rw [if_neg e] at hj; exact h4 j hj
      · rw [if_neg c]
        by_cases d : 0 < S 8 v
        · rw [if_pos d]
          obtain ⟨k, hk1, hk2, hk3, hk4⟩ := frc_get h1 (t := S 7 v) (r := S 6 v) (by omega)
          rw [hk1, Nat.add_sub_cancel]
          have e4 : ∀ j, payS S v k 4 j = if j = k then 3 else S 4 j := fun j => rfl
          have e5 : ∀ j, payS S v k 5 j = if j = k then S 5 k + 1 else S 5 j := fun j => rfl
          refine ⟨⟨fun j hj => ?_, h3, h4⟩, ?_⟩
          · have hj : S 0 1 ≤ j := hj
            rw [e4, e5, if_neg (by omega), if_neg (by omega)]
            exact h2 j hj
          · show etN (payS S v k) (S 0 1) = S 0 4 + 1
            rw [etN_up (S := S) (T := payS S v k) (k := k) (by rw [e5, if_pos rfl]) (fun j hj => by rw [e5, if_neg hj]) _ hk2, h5]
        · rw [if_neg d]
          generalize hg : grdN (hisG S (S 7 v) (S 6 v)) = g
          have e7 : ∀ j, fallS S v g 7 j = if j = v then S 7 v - 1 else S 7 j := fun j => rfl
          have e10 : ∀ j, fallS S v g 10 j = if j = v then g else S 10 j := fun j => rfl
          refine ⟨⟨h2, fun j hj => ?_, fun j hj => ?_⟩, (etN_congr (S := fallS S v g) (T := S) (S 0 1) (fun _ _ => rfl)).trans h5⟩
          · have hj : S 0 2 ≤ j := hj
            rw [e7, e10, if_neg (by omega), if_neg (by omega)]
            exact h3 j hj
          · have hj : S 0 0 ≤ fallS S v g 7 j := hj
            rw [e7] at hj
            rw [e10]
            by_cases e : j = v
            · subst e; rw [if_pos rfl] at hj; omega
            · rw [if_neg e] at hj ⊢; exact h4 j hj
theorem LI_movN {S : Nat → Nat → Nat} (h : LI S) : ∀ n, n ≤ S 0 2 → LI (movN S n)
  | 0, _ => h
  | n + 1, hn => LI_mv (LI_movN h n (by omega)) (by rw [movN_sc _ _ (by omega)]; omega)
theorem LI_beat {S : Nat → Nat → Nat} (h : LI S) : LI (beatS S) := by
  obtain ⟨h1, h2, h3⟩ := LI_movN (LI_wak h) (S 0 2) (Nat.le_refl _)
  exact ⟨inv_beatS h.1, h2, (etN_congr (S := beatS S) (T := movN (wakS S) (S 0 2)) _ (fun _ _ => rfl)).trans h3⟩
theorem LI_beatsN {S : Nat → Nat → Nat} (h : LI S) : ∀ n, LI (beatsN S n)
  | 0 => h
  | n + 1 => LI_beat (LI_beatsN h n)
theorem beatS_b (S : Nat → Nat → Nat) : beatS S 0 3 = S 0 3 + 1 := by
  show setf _ 0 3 _ 0 3 = _
  rw [setf_k, movN_sc _ _ (by omega)]
  rfl
theorem beatsN_b (S : Nat → Nat → Nat) : ∀ n, beatsN S n 0 3 = S 0 3 + n
  | 0 => rfl
  | n + 1 => by show beatS _ 0 3 = _; rw [beatS_b, beatsN_b S n]; omega
theorem beat_br {S : Nat → Nat → Nat} (h : LI S) : beatS S 0 4 = S 0 4 + fdN S (beatS S) (S 0 2) ∧ beatS S 0 5 = S 0 5 + flN S (beatS S) (S 0 2) ∧ inN (beatS S) (S 0 2) = inN S (S 0 2) + cmN S (beatS S) (S 0 2) := by
  obtain ⟨h1, h2, h3⟩ := did_sum h.2.1 (S 0 2) (Nat.le_refl _)
  refine ⟨?_, ?_, h3⟩
  · rw [← h1]
    show setf _ 0 3 _ 0 4 = _
    rw [setf_sc _ _ _ _ (by omega)]
  · rw [← h2]
    show setf _ 0 3 _ 0 5 = _
    rw [setf_sc _ _ _ _ (by omega)]
