/-! what holds of the states that the law comes to; what one beat does -/
theorem inv_addGate {S : Nat → Nat → Nat} (h : Inv S) (x : Int32) : Inv (rAddGate S x).2.2 := by
  unfold rAddGate
  split
  · rename_i q
    obtain ⟨g, hg, rfl⟩ := in_nI (by decide) q (by decide)
    rw [cl_nI (show g < 2 ^ 31 by omega)]
    split
    · rename_i r
      have h0 := h.gates
      refine ⟨?_, h.geese, h.guests, fun j => ?_, h.keep, fun j hj => ?_, h.mood, h.mood1, h.rest, h.own, fun j => ?_, h.has, h.brave, h.back⟩
      · show S 0 0 + 1 ≤ 6; omega
      · have := h.rank j; show (if j = S 0 0 then g else S 1 j) ≤ 9; split <;> omega
      · have := h.keepIn j hj; show S 2 j < S 0 0 + 1; omega
      · have := h.went j; show S 7 j ≤ S 0 0 + 1; omega
    · exact h
  · exact h
theorem inv_setRank {S : Nat → Nat → Nat} (h : Inv S) (x y : Int32) : Inv (rSetRank S x y).2.2 := by
  unfold rSetRank
  split
  · split
    · rename_i q
      obtain ⟨g, hg, rfl⟩ := in_nI (by decide) q (by decide)
      rw [cl_nI (show g < 2 ^ 31 by omega)]
      refine ⟨h.gates, h.geese, h.guests, fun j => ?_, h.keep, h.keepIn, h.mood, h.mood1, h.rest, h.own, h.went, h.has, h.brave, h.back⟩
      have := h.rank j; show (if j = cl x then g else S 1 j) ≤ 9; split <;> omega
    · exact h
  · exact h
theorem inv_give {S : Nat → Nat → Nat} (h : Inv S) (x y : Int32) : Inv (rGive S x y).2.2 := by
  unfold rGive
  split
  · split
    · exact inv_corn h _ (Nat.min_le_left _ _)
    · exact h
  · exact h
theorem inv_bribe {S : Nat → Nat → Nat} (h : Inv S) (x y : Int32) : Inv (rBribe S x y).2.2 := by
  unfold rBribe
  split
  · split
    · exact inv_payS h _ _
    · exact h
  · exact h
theorem inv_pass {S : Nat → Nat → Nat} (h : Inv S) (x : Int32) : Inv (rPass S x).2.2 := by
  unfold rPass
  split
  · exact inv_beatsN h _
  · exact h
theorem inv_lead {S : Nat → Nat → Nat} (h : Inv S) (x y : Int32) : Inv (rLead S x y).2.2 := by
  unfold rLead
  split
  · rename_i q
    have h0 := h.gates
    obtain ⟨g, hg, rfl⟩ := lt_nI (by omega) q.2
    rw [cl_nI (show g < 2 ^ 31 by omega)]
    refine ⟨h.gates, h.geese, h.guests, h.rank, fun j => ?_, fun j hj => ?_, h.mood, h.mood1, h.rest, h.own, h.went, h.has, h.brave, h.back⟩
    · have := h.keep j; show (if j = cl x then g else S 2 j) ≤ 6; split <;> omega
    · have := h.keepIn j hj; show (if j = cl x then g else S 2 j) < S 0 0; split <;> omega
  · exact h
theorem inv_addGoose {S : Nat → Nat → Nat} (h : Inv S) (x y : Int32) : Inv (rAddGoose S x y).2.2 := by
  unfold rAddGoose
  split
  · rename_i q1
    have h0 := h.gates
    obtain ⟨g, hg, rfl⟩ := lt_nI (by omega) q1
    rw [cl_nI (show g < 2 ^ 31 by omega)]
    split
    · rename_i q2
      obtain ⟨t, ht, rfl⟩ := in_nI (by decide) q2 (by decide)
      rw [cl_nI (show t < 2 ^ 31 by omega)]
      split
      · have h1 := h.geese
        refine ⟨h.gates, ?_, h.guests, h.rank, fun j => ?_, fun j hj => ?_, fun j => ?_, fun j hj => ?_, h.rest, h.own, h.went, h.has, h.brave, h.back⟩
        · show S 0 1 + 1 ≤ 8; omega
        · have := h.keep j; show (if j = S 0 1 then g else S 2 j) ≤ 6; split <;> omega
        · have hj : j < S 0 1 + 1 := hj
          show (if j = S 0 1 then g else S 2 j) < S 0 0
          split
          · omega
          · exact h.keepIn j (by omega)
        · have := h.mood j; show (if j = S 0 1 then t else S 3 j) ≤ 9; split <;> omega
        · have hj : j < S 0 1 + 1 := hj
          show 1 ≤ (if j = S 0 1 then t else S 3 j)
          split
          · omega
          · exact h.mood1 j (by omega)
      · exact h
    · exact h
  · exact h
theorem inv_arrive {S : Nat → Nat → Nat} (h : Inv S) (x y z : Int32) : Inv (rArrive S x y z).2.2 := by
  unfold rArrive
  split
  · rename_i q
    obtain ⟨r, hr, rfl⟩ := in_nI (by decide) q.1 (by decide)
    obtain ⟨t, ht, rfl⟩ := in_nI (by decide) q.2.1 (by decide)
    obtain ⟨u, hu, rfl⟩ := in_nI (by decide) q.2.2 (by decide)
    rw [cl_nI (show r < 2 ^ 31 by omega), cl_nI (show t < 2 ^ 31 by omega), cl_nI (show u < 2 ^ 31 by omega)]
    split
    · have h1 := h.guests
      refine ⟨h.gates, h.geese, ?_, h.rank, h.keep, h.keepIn, h.mood, h.mood1, h.rest, fun j => ?_, h.went, fun j => ?_, fun j => ?_, h.back⟩
      · show S 0 2 + 1 ≤ 8; omega
      · have := h.own j; show (if j = S 0 2 then r else S 6 j) ≤ 9; split <;> omega
      · have := h.has j; show (if j = S 0 2 then u else S 8 j) ≤ 20; split <;> omega
      · have := h.brave j; show (if j = S 0 2 then t else S 9 j) ≤ 20; split <;> omega
    · exact h
  · exact h
theorem hisG_farm {S : Nat → Nat → Nat} (hI : Inv S) {t r : Nat} (h : S 0 0 ≤ t) : hisG S t r = 0 := by
  have : ∀ n, n ≤ S 0 1 → hisN S t (lackN S t r) n = 0 := by
    intro n
    induction n with
    | zero => intro _; rfl
    | succ n ih =>
      intro hn
      unfold hisN
      rw [if_neg (fun q => by have := hI.keepIn n (by omega); have := q.1; omega)]
      exact ih (by omega)
  exact this _ (Nat.le_refl _)
/-- the corns eaten by the first n -/
def etN (S : Nat → Nat → Nat) : Nat → Nat
  | 0 => 0
  | n + 1 => etN S n + S 5 n
def Iv2 (S : Nat → Nat → Nat) : Prop := (∀ j, S 0 1 ≤ j → S 4 j = 0 ∧ S 5 j = 0) ∧ (∀ j, S 0 2 ≤ j → S 7 j = 0 ∧ S 10 j = 0) ∧ (∀ j, S 0 0 ≤ S 7 j → S 10 j = 0)
def LI (S : Nat → Nat → Nat) : Prop := Inv S ∧ Iv2 S ∧ etN S (S 0 1) = S 0 4
theorem etN_congr {S T : Nat → Nat → Nat} : ∀ n, (∀ j, j < n → S 5 j = T 5 j) → etN S n = etN T n
  | 0, _ => rfl
  | n + 1, h => by
    show etN S n + S 5 n = etN T n + T 5 n
    rw [etN_congr n (fun j hj => h j (by omega)), h n (by omega)]
theorem etN_up {S T : Nat → Nat → Nat} {k : Nat} (h1 : T 5 k = S 5 k + 1) (h2 : ∀ j, j ≠ k → T 5 j = S 5 j) : ∀ n, k < n → etN T n = etN S n + 1
  | 0, h => absurd h (by omega)
  | n + 1, h => by
    show etN T n + T 5 n = etN S n + S 5 n + 1
    by_cases e : k = n
    · subst e
      rw [etN_congr (S := T) (T := S) k (fun j hj => h2 j (by omega)), h1]
      omega
    · rw [etN_up h1 h2 n (by omega), h2 n (fun q => e q.symm)]
      omega
/-- what a move leaves of another visitor -/
theorem moveS_vf {S : Nat → Nat → Nat} {v u f : Nat} (hf : 6 ≤ f) (hu : u ≠ v) : moveS S v f u = S f u := by
  unfold moveS
  split
  · rw [setf_at, if_neg (fun e => hu e.2)]
  · split
    · unfold goS
      rw [setF_at, if_neg (by omega), setf_at, if_neg (fun e => hu e.2)]
    · split
      · unfold payS
        rw [setf_at, if_neg (by omega), setf_at, if_neg (by omega), setf_at, if_neg (by omega), setf_at, if_neg (by omega), setf_at, if_neg (fun e => hu e.2)]
      · unfold fallS
        rw [setf_at, if_neg (by omega), setf_at, if_neg (fun e => hu e.2), setf_at, if_neg (fun e => hu e.2), setf_at, if_neg (fun e => hu e.2)]
theorem mvS_vf {S : Nat → Nat → Nat} {v u f : Nat} (hf : 6 ≤ f) (hu : u ≠ v) : mvS S v f u = S f u := by
  unfold mvS
  split
  · rfl
  · exact moveS_vf hf hu
theorem movN_hi (S : Nat → Nat → Nat) {f v : Nat} (hf : 6 ≤ f) : ∀ n, n ≤ v → movN S n f v = S f v
  | 0, _ => rfl
  | n + 1, h => by
    show mvS (movN S n) n f v = _
    rw [mvS_vf hf (by omega), movN_hi S hf n (by omega)]
theorem movN_lo (S : Nat → Nat → Nat) {f v : Nat} (hf : 6 ≤ f) : ∀ n, v < n → movN S n f v = mvS (movN S v) v f v
  | 0, h => absurd h (by omega)
  | n + 1, h => by
    show mvS (movN S n) n f v = _
    by_cases e : v = n
    · subst e; rfl
    · rw [mvS_vf hf e, movN_lo S hf n (by omega)]
theorem beatS_v {S : Nat → Nat → Nat} {f v : Nat} (hf : 6 ≤ f) (hv : v < S 0 2) : beatS S f v = mvS (movN (wakS S) v) v f v := by
  unfold beatS
  rw [setf_at, if_neg (by omega), movN_lo _ hf _ hv]
theorem wak_v (S : Nat → Nat → Nat) {f : Nat} (hf : f ≠ 4) : wakS S f = S f := setF_ne _ _ hf
theorem movN_at (S : Nat → Nat → Nat) {f v : Nat} (hf : 6 ≤ f) : movN (wakS S) v f v = S f v := by
  rw [movN_hi _ hf v (Nat.le_refl v), wak_v S (by omega)]
/-- the four things that one can do in a beat -/
def didW (S T : Nat → Nat → Nat) (v : Nat) : Prop := (S 0 0 ≤ S 7 v ∨ 0 < S 10 v) ∧ T 7 v = S 7 v ∧ T 8 v = S 8 v ∧ T 9 v = S 9 v ∧ T 10 v = S 10 v - 1
def didG (S T : Nat → Nat → Nat) (v : Nat) : Prop := ¬ S 0 0 ≤ S 7 v ∧ S 10 v = 0 ∧ T 7 v = S 7 v + 1 ∧ T 8 v = S 8 v ∧ T 9 v = S 9 v ∧ T 10 v = 0
def didB (S T : Nat → Nat → Nat) (v : Nat) : Prop := ¬ S 0 0 ≤ S 7 v ∧ S 10 v = 0 ∧ 0 < S 8 v ∧ T 7 v = S 7 v ∧ T 8 v = S 8 v - 1 ∧ T 9 v = S 9 v ∧ T 10 v = 0
def didR (S T : Nat → Nat → Nat) (v : Nat) : Prop := ¬ S 0 0 ≤ S 7 v ∧ S 10 v = 0 ∧ S 8 v = 0 ∧ T 7 v = S 7 v - 1 ∧ T 8 v = 0 ∧ T 9 v = min 20 (S 9 v + 1) ∧ 0 < T 10 v
theorem grd_pos {h : Nat} (q : 0 < h) : 0 < grdN h := by
  unfold grdN
  repeat' split
  all_goals omega
theorem mv_did {U : Nat → Nat → Nat} {v : Nat} (h3 : U 0 0 ≤ U 7 v → U 10 v = 0) : (didW U (mvS U v) v ∧ mvS U v 0 4 = U 0 4 ∧ mvS U v 0 5 = U 0 5) ∨ (didG U (mvS U v) v ∧ mvS U v 0 4 = U 0 4 ∧ mvS U v 0 5 = U 0 5) ∨ (didB U (mvS U v) v ∧ mvS U v 0 4 = U 0 4 + 1 ∧ mvS U v 0 5 = U 0 5) ∨ (didR U (mvS U v) v ∧ mvS U v 0 4 = U 0 4 ∧ mvS U v 0 5 = U 0 5 + 1) := by
  unfold mvS
  by_cases a : U 0 0 ≤ U 7 v
  · rw [if_pos a]
    exact Or.inl ⟨⟨Or.inl a, rfl, rfl, rfl, by have := h3 a; omega⟩, rfl, rfl⟩
  · rw [if_neg a]
    unfold moveS
    by_cases b : 0 < U 10 v
    · rw [if_pos b]
      refine Or.inl ⟨⟨Or.inr b, ?_, ?_, ?_, ?_⟩, ?_, ?_⟩ <;> simp [setf_at]
    · rw [if_neg b]
      by_cases c : hisG U (U 7 v) (U 6 v) ≤ U 9 v
      · rw [if_pos c]
        refine Or.inr (Or.inl ⟨⟨a, by omega, ?_, ?_, ?_, ?_⟩, ?_, ?_⟩) <;> (simp [goS, setF_at, setf_at, updN]; try omega)
      · rw [if_neg c]
        by_cases d : 0 < U 8 v
        · rw [if_pos d]
          refine Or.inr (Or.inr (Or.inl ⟨⟨a, by omega, d, ?_, ?_, ?_, ?_⟩, ?_, ?_⟩)) <;> simp [payS, setf_at]
          omega
        · rw [if_neg d]
          have hg := grd_pos (h := hisG U (U 7 v) (U 6 v)) (by omega)
          refine Or.inr (Or.inr (Or.inr ⟨⟨a, by omega, by omega, ?_, ?_, ?_, ?_⟩, ?_, ?_⟩)) <;> simp [fallS, setf_at]
          · omega
          · exact hg
/-- how many came in, bribed, retreated, of the first n -/
def cmN (S T : Nat → Nat → Nat) : Nat → Nat
  | 0 => 0
  | n + 1 => if T 7 n = S 7 n + 1 ∧ T 7 n = S 0 0 then cmN S T n + 1 else cmN S T n
def fdN (S T : Nat → Nat → Nat) : Nat → Nat
  | 0 => 0
  | n + 1 => if T 8 n + 1 = S 8 n then fdN S T n + 1 else fdN S T n
def flN (S T : Nat → Nat → Nat) : Nat → Nat
  | 0 => 0
  | n + 1 => if S 10 n < T 10 n then flN S T n + 1 else flN S T n
theorem did_of {S : Nat → Nat → Nat} (h : Iv2 S) (v : Nat) : (didW S (mvS (movN (wakS S) v) v) v ∧ movN (wakS S) (v + 1) 0 4 = movN (wakS S) v 0 4 ∧ movN (wakS S) (v + 1) 0 5 = movN (wakS S) v 0 5) ∨ (didG S (mvS (movN (wakS S) v) v) v ∧ movN (wakS S) (v + 1) 0 4 = movN (wakS S) v 0 4 ∧ movN (wakS S) (v + 1) 0 5 = movN (wakS S) v 0 5) ∨ (didB S (mvS (movN (wakS S) v) v) v ∧ movN (wakS S) (v + 1) 0 4 = movN (wakS S) v 0 4 + 1 ∧ movN (wakS S) (v + 1) 0 5 = movN (wakS S) v 0 5) ∨ (didR S (mvS (movN (wakS S) v) v) v ∧ movN (wakS S) (v + 1) 0 4 = movN (wakS S) v 0 4 ∧ movN (wakS S) (v + 1) 0 5 = movN (wakS S) v 0 5 + 1) := by
  have e0 : movN (wakS S) v 0 0 = S 0 0 := by rw [movN_sc _ _ (by omega), wak_v S (by omega)]
  have e7 := movN_at S (f := 7) (v := v) (by omega)
  have e8 := movN_at S (f := 8) (v := v) (by omega)
  have e9 := movN_at S (f := 9) (v := v) (by omega)
  have e10 := movN_at S (f := 10) (v := v) (by omega)
  have hd := mv_did (U := movN (wakS S) v) (v := v) (by rw [e0, e7, e10]; exact h.2.2 v)
  unfold didW didG didB didR at hd ⊢
  rw [e0, e7, e8, e9, e10] at hd
  exact hd
theorem did_beat {S : Nat → Nat → Nat} (h : Iv2 S) {v : Nat} (hv : v < S 0 2) : didW S (beatS S) v ∨ didG S (beatS S) v ∨ didB S (beatS S) v ∨ didR S (beatS S) v := by
  have hd := did_of h v
  have e7 := beatS_v (S := S) (f := 7) (v := v) (by omega) hv
  have e8 := beatS_v (S := S) (f := 8) (v := v) (by omega) hv
  have e9 := beatS_v (S := S) (f := 9) (v := v) (by omega) hv
  have e10 := beatS_v (S := S) (f := 10) (v := v) (by omega) hv
  unfold didW didG didB didR at hd ⊢
  rw [e7, e8, e9, e10]
  rcases hd with h | h | h | h
  · exact Or.inl h.1
  · exact Or.inr (Or.inl h.1)
  · exact Or.inr (Or.inr (Or.inl h.1))
  · exact Or.inr (Or.inr (Or.inr h.1))
theorem did_sum {S : Nat → Nat → Nat} (h : Iv2 S) : ∀ n, n ≤ S 0 2 → movN (wakS S) n 0 4 = S 0 4 + fdN S (beatS S) n ∧ movN (wakS S) n 0 5 = S 0 5 + flN S (beatS S) n ∧ inN (beatS S) n = inN S n + cmN S (beatS S) n
  | 0, _ => ⟨rfl, rfl, rfl⟩
  | n + 1, hn => by
    obtain ⟨i1, i2, i3⟩ := did_sum h n (by omega)
    have hd := did_of h n
    have e0 : beatS S 0 0 = S 0 0 := beatS_sc S 0 (by omega)
    have e7 := beatS_v (S := S) (f := 7) (v := n) (by omega) (by omega)
    have e8 := beatS_v (S := S) (f := 8) (v := n) (by omega) (by omega)
    have e10 := beatS_v (S := S) (f := 10) (v := n) (by omega) (by omega)
    unfold didW didG didB didR at hd
    unfold fdN flN cmN
    show _ ∧ _ ∧ (if beatS S 0 0 ≤ beatS S 7 n then inN (beatS S) n + 1 else inN (beatS S) n) = (if S 0 0 ≤ S 7 n then inN S n + 1 else inN S n) + _
    rw [i1, i2] at hd
    rw [e0, e7, e8, e10, i3]
    generalize mvS (movN (wakS S) n) n 7 n = t7 at hd
    generalize mvS (movN (wakS S) n) n 8 n = t8 at hd
    generalize mvS (movN (wakS S) n) n 9 n = t9 at hd
    generalize mvS (movN (wakS S) n) n 10 n = t10 at hd
    rcases hd with h | h | h | h
    · obtain ⟨⟨g1, g2, g3, g4, g5⟩, g6, g7⟩ := h
      have h3 := ‹Iv2 S›.2.2 n
      rw [g6, g7, if_neg (by omega), if_neg (by omega), if_neg (show ¬ (t7 = S 7 n + 1 ∧ t7 = S 0 0) by omega), g2]
      exact ⟨rfl, rfl, by split <;> omega⟩
    · obtain ⟨⟨g1, g2, g3, g4, g5, g6⟩, g7, g8⟩ := h
      rw [g7, g8, if_neg (by omega), if_neg (by omega), if_neg (show ¬ S 0 0 ≤ S 7 n by omega)]
      refine ⟨rfl, rfl, ?_⟩
      by_cases q : t7 = S 0 0
      · rw [if_pos (by omega), if_pos (show t7 = S 7 n + 1 ∧ t7 = S 0 0 from ⟨g3, q⟩)]; omega
      · rw [if_neg (by omega), if_neg (show ¬ (t7 = S 7 n + 1 ∧ t7 = S 0 0) from fun r => q r.2)]
    · obtain ⟨⟨g1, g2, g3, g4, g5, g6, g7⟩, g8, g9⟩ := h
      rw [g8, g9, if_pos (show t8 + 1 = S 8 n by omega), if_neg (by omega), if_neg (show ¬ (t7 = S 7 n + 1 ∧ t7 = S 0 0) by omega), if_neg (show ¬ S 0 0 ≤ S 7 n by omega), if_neg (by omega)]
      exact ⟨by omega, rfl, rfl⟩
    · obtain ⟨⟨g1, g2, g3, g4, g5, g6, g7⟩, g8, g9⟩ := h
      rw [g8, g9, if_neg (by omega), if_pos (by omega), if_neg (show ¬ (t7 = S 7 n + 1 ∧ t7 = S 0 0) by omega), if_neg (show ¬ S 0 0 ≤ S 7 n by omega), if_neg (by omega)]
      exact ⟨rfl, by omega, rfl⟩
