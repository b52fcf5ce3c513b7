def wF2 (cI : ClassId) (a b : Nat → Nat) (S S2 : Nat → Nat → Nat) : va_W := wFl cI b S2 ++ wFl cI a S
def wG2 (cI : ClassId) (a b : Nat → Nat) (S S2 : Nat → Nat → Nat) : va_W := wGu cI b S2 ++ wGu cI a S
def lackN (S : Nat → Nat → Nat) (g r : Nat) : Nat := if g < S 0 0 then max 0 (S 1 g - r) else 0
/-- the hiss of a gate at a rank -/
def hisG (S : Nat → Nat → Nat) (g r : Nat) : Nat := hisN S g (lackN S g r) (S 0 1)
theorem lackN_le {S : Nat → Nat → Nat} (h : Inv S) (g r : Nat) : lackN S g r ≤ 9 := by
  have := h.rank g
  unfold lackN
  split <;> omega
theorem hisG_le {S : Nat → Nat → Nat} (h : Inv S) (g r : Nat) : hisG S g r ≤ 144 := by
  have h1 := hisN_le S h.mood g (lackN S g r) (S 0 1)
  have h2 := lackN_le h g r
  have h3 := h.geese
  unfold hisG
  calc hisN S g (lackN S g r) (S 0 1) ≤ S 0 1 * (9 + lackN S g r) := h1
    _ ≤ 8 * 18 := Nat.mul_le_mul h3 (by omega)
    _ = 144 := rfl
def inN (S : Nat → Nat → Nat) : Nat → Nat
  | 0 => 0
  | n + 1 => if S 0 0 ≤ S 7 n then inN S n + 1 else inN S n
theorem inN_le (S : Nat → Nat → Nat) : ∀ n, inN S n ≤ n
  | 0 => Nat.le_refl _
  | n + 1 => by
    have := inN_le S n
    unfold inN
    split <;> omega
def grdN (h : Nat) : Nat := if h = 0 then 0 else if h ≤ 5 then 1 else if h ≤ 10 then 2 else if h ≤ 20 then 3 else 4
theorem grdN_le (h : Nat) : grdN h ≤ 4 := by
  unfold grdN
  repeat' split
  all_goals omega
def payS (S : Nat → Nat → Nat) (v k : Nat) : Nat → Nat → Nat := setf (setf (setf (setf (setf S 8 v (S 8 v - 1)) 5 k (S 5 k + 1)) 4 k 3) 3 k (max 1 (S 3 k - 1))) 0 4 (S 0 4 + 1)
def fallS (S : Nat → Nat → Nat) (v b : Nat) : Nat → Nat → Nat := setf (setf (setf (setf S 10 v b) 9 v (min 20 (S 9 v + 1))) 7 v (S 7 v - 1)) 0 5 (S 0 5 + 1)
def goS (S : Nat → Nat → Nat) (v : Nat) : Nat → Nat → Nat := setF (setf S 7 v (S 7 v + 1)) 3 (enrN S (S 7 v) (S 0 1))
/-- a visitor who is not in the farm, in a beat -/
def moveS (S : Nat → Nat → Nat) (v : Nat) : Nat → Nat → Nat :=
  if 0 < S 10 v then setf S 10 v (S 10 v - 1) else if hisG S (S 7 v) (S 6 v) ≤ S 9 v then goS S v
  else if 0 < S 8 v then payS S v ((frcN S (S 7 v) (S 0 1)).1 - 1) else fallS S v (grdN (hisG S (S 7 v) (S 6 v)))
theorem moveS_r {S : Nat → Nat → Nat} {v : Nat} (h : 0 < S 10 v) : setf S 10 v (S 10 v - 1) = moveS S v := by unfold moveS; rw [if_pos h]
theorem moveS_d {S : Nat → Nat → Nat} {v : Nat} (h0 : ¬ 0 < S 10 v) (h1 : hisG S (S 7 v) (S 6 v) ≤ S 9 v) : goS S v = moveS S v := by unfold moveS; rw [if_neg h0, if_pos h1]
theorem moveS_p {S : Nat → Nat → Nat} {v k : Nat} (h0 : ¬ 0 < S 10 v) (h1 : ¬ hisG S (S 7 v) (S 6 v) ≤ S 9 v) (h2 : 0 < S 8 v) (hk : (frcN S (S 7 v) (S 0 1)).1 = k + 1) : payS S v k = moveS S v := by unfold moveS; rw [if_neg h0, if_neg h1, if_pos h2, hk, Nat.add_sub_cancel]
theorem moveS_f {S : Nat → Nat → Nat} {v : Nat} (h0 : ¬ 0 < S 10 v) (h1 : ¬ hisG S (S 7 v) (S 6 v) ≤ S 9 v) (h2 : ¬ 0 < S 8 v) : fallS S v (grdN (hisG S (S 7 v) (S 6 v))) = moveS S v := by unfold moveS; rw [if_neg h0, if_neg h1, if_neg h2]
theorem hisN_pos (S : Nat → Nat → Nat) (t x : Nat) : ∀ n, 0 < hisN S t x n → ∃ j, j < n ∧ awk S j t
  | 0, h => absurd h (by simp [hisN])
  | n + 1, h => by
    by_cases a : awk S n t
    · exact ⟨n, by omega, a⟩
    · unfold hisN at h
      rw [if_neg a] at h
      obtain ⟨j, h1, h2⟩ := hisN_pos S t x n h
      exact ⟨j, by omega, h2⟩
theorem frcN_some (S : Nat → Nat → Nat) (t : Nat) : ∀ n, (∀ j, j < n → 1 ≤ S 3 j) → (∃ j, j < n ∧ awk S j t) → ∃ k, (frcN S t n).1 = k + 1 ∧ k < n ∧ awk S k t ∧ (frcN S t n).2 = S 3 k
  | 0, _, h => absurd h (by rintro ⟨j, h, -⟩; omega)
  | n + 1, hm, h => by
    unfold frcN
    by_cases a : awk S n t ∧ (frcN S t n).2 < S 3 n
    · rw [if_pos a]; exact ⟨n, rfl, by omega, a.1, rfl⟩
    · rw [if_neg a]
      obtain ⟨j, h1, h2⟩ := h
      by_cases hj : ∃ j, j < n ∧ awk S j t
      · obtain ⟨k, e1, e2, e3, e4⟩ := frcN_some S t n (fun j h => hm j (by omega)) hj
        exact ⟨k, e1, by omega, e3, e4⟩
      · exfalso
        have hjn : j = n := by
          by_cases q : j = n
          · exact q
          · exact absurd ⟨j, by omega, h2⟩ hj
        subst hjn
        have h0 : (frcN S t j).2 = 0 := by
          clear a hm h1 h2
          induction j with
          | zero => rfl
          | succ n ih =>
            unfold frcN
            rw [if_neg (fun q => hj ⟨n, by omega, q.1⟩)]
            exact ih (fun ⟨k, h1, h2⟩ => hj ⟨k, by omega, h2⟩)
        exact a ⟨h2, by rw [h0]; exact hm j (by omega)⟩
theorem frc_get {S : Nat → Nat → Nat} (hI : Inv S) {t r : Nat} (h : 0 < hisG S t r) : ∃ k, (frcN S t (S 0 1)).1 = k + 1 ∧ k < S 0 1 ∧ awk S k t ∧ (frcN S t (S 0 1)).2 = S 3 k := frcN_some S t _ (fun j hj => hI.mood1 j hj) (hisN_pos S t _ _ h)
/-- a visitor in a beat -/
def mvS (S : Nat → Nat → Nat) (v : Nat) : Nat → Nat → Nat := if S 0 0 ≤ S 7 v then S else moveS S v
def movN (S : Nat → Nat → Nat) : Nat → Nat → Nat → Nat
  | 0 => S
  | n + 1 => mvS (movN S n) n
theorem movN_y {S : Nat → Nat → Nat} {n : Nat} (h : movN S n 0 0 ≤ movN S n 7 n) : movN S n = movN S (n + 1) := by show _ = mvS (movN S n) n; unfold mvS; rw [if_pos h]
theorem movN_n {S : Nat → Nat → Nat} {n : Nat} (h : ¬ movN S n 0 0 ≤ movN S n 7 n) : moveS (movN S n) n = movN S (n + 1) := by show _ = mvS (movN S n) n; unfold mvS; rw [if_neg h]
abbrev wakS (S : Nat → Nat → Nat) : Nat → Nat → Nat := setF S 4 (wakN S (S 0 1))
def beatS (S : Nat → Nat → Nat) : Nat → Nat → Nat := setf (movN (wakS S) (S 0 2)) 0 3 (movN (wakS S) (S 0 2) 0 3 + 1)
def beatsN (S : Nat → Nat → Nat) : Nat → Nat → Nat → Nat
  | 0 => S
  | n + 1 => beatS (beatsN S n)
theorem setf_sc (S : Nat → Nat → Nat) (k v j : Nat) (h : j ≠ k) : setf S 0 k v 0 j = S 0 j := by show (if (0:Nat) = 0 then updN (S 0) k v else S 0) j = _; rw [if_pos rfl]; simp [updN, h]
theorem setF_at (S : Nat → Nat → Nat) (f a j : Nat) (g : Nat → Nat) : setF S f g a j = if a = f then g j else S a j := by unfold setF; split <;> rfl
theorem setf_at (S : Nat → Nat → Nat) (f a k v j : Nat) : setf S f k v a j = if a = f ∧ j = k then v else S a j := by
  show setF S f (updN (S f) k v) a j = _
  rw [setF_at]
  by_cases h : a = f
  · subst h
    by_cases hj : j = k <;> simp [updN, hj]
  · simp [h]
theorem moveS_sc (S : Nat → Nat → Nat) (v j : Nat) (hj : j < 4) : moveS S v 0 j = S 0 j := by
  unfold moveS
  split
  · simp [setf_at]
  · split
    · simp [goS, setF_at, setf_at]
    · split
      · simp only [payS, setf_at]; simp; omega
      · simp only [fallS, setf_at]; simp; omega
theorem movN_sc (S : Nat → Nat → Nat) (j : Nat) (hj : j < 4) : ∀ n, movN S n 0 j = S 0 j
  | 0 => rfl
  | n + 1 => by
    have h := movN_sc S j hj n
    show mvS (movN S n) n 0 j = _
    unfold mvS
    split
    · exact h
    · rw [moveS_sc _ _ _ hj]; exact h
theorem inv_wakS {S : Nat → Nat → Nat} (h : Inv S) : Inv (wakS S) := by
  refine ⟨h.gates, h.geese, h.guests, h.rank, h.keep, h.keepIn, h.mood, h.mood1, fun j => ?_, h.own, h.went, h.has, h.brave, h.back⟩
  have := h.rest j
  show wakN S (S 0 1) j ≤ 3
  unfold wakN
  split <;> omega
theorem inv_goS {S : Nat → Nat → Nat} (h : Inv S) {v : Nat} (hv : ¬ S 0 0 ≤ S 7 v) : Inv (goS S v) := by
  refine ⟨h.gates, h.geese, h.guests, h.rank, h.keep, h.keepIn, fun j => ?_, fun j hj => ?_, h.rest, h.own, fun j => ?_, h.has, h.brave, h.back⟩
  · have := h.mood j
    show enrN S (S 7 v) (S 0 1) j ≤ 9
    unfold enrN
    split <;> omega
  · have := h.mood1 j hj
    show 1 ≤ enrN S (S 7 v) (S 0 1) j
    unfold enrN
    split <;> omega
  · have := h.went j
    show (if j = v then S 7 v + 1 else S 7 j) ≤ S 0 0
    split <;> omega
theorem inv_payS {S : Nat → Nat → Nat} (h : Inv S) (v k : Nat) : Inv (payS S v k) := by
  refine ⟨h.gates, h.geese, h.guests, h.rank, h.keep, h.keepIn, fun j => ?_, fun j hj => ?_, fun j => ?_, h.own, h.went, fun j => ?_, h.brave, h.back⟩
  · have := h.mood j
    have := h.mood k
    show (if j = k then max 1 (S 3 k - 1) else S 3 j) ≤ 9
    split <;> omega
  · have := h.mood1 j hj
    show 1 ≤ (if j = k then max 1 (S 3 k - 1) else S 3 j)
    split <;> omega
  · have := h.rest j
    show (if j = k then 3 else S 4 j) ≤ 3
    split <;> omega
  · have := h.has j
    have := h.has v
    show (if j = v then S 8 v - 1 else S 8 j) ≤ 20
    split <;> omega
theorem inv_fallS {S : Nat → Nat → Nat} (h : Inv S) (v b : Nat) (hb : b ≤ 4) : Inv (fallS S v b) := by
  refine ⟨h.gates, h.geese, h.guests, h.rank, h.keep, h.keepIn, h.mood, h.mood1, h.rest, h.own, fun j => ?_, h.has, fun j => ?_, fun j => ?_⟩
  · have := h.went j
    have := h.went v
    show (if j = v then S 7 v - 1 else S 7 j) ≤ S 0 0
    split <;> omega
  · have := h.brave j
    show (if j = v then min 20 (S 9 v + 1) else S 9 j) ≤ 20
    split <;> omega
  · have := h.back j
    show (if j = v then b else S 10 j) ≤ 4
    split <;> omega
theorem inv_ret {S : Nat → Nat → Nat} (h : Inv S) (v : Nat) : Inv (setf S 10 v (S 10 v - 1)) := by
  refine ⟨h.gates, h.geese, h.guests, h.rank, h.keep, h.keepIn, h.mood, h.mood1, h.rest, h.own, h.went, h.has, h.brave, fun j => ?_⟩
  have := h.back j
  have := h.back v
  show (if j = v then S 10 v - 1 else S 10 j) ≤ 4
  split <;> omega
theorem inv_moveS {S : Nat → Nat → Nat} (h : Inv S) {v : Nat} (hv : ¬ S 0 0 ≤ S 7 v) : Inv (moveS S v) := by
  unfold moveS
  split
  · exact inv_ret h v
  · split
    · exact inv_goS h hv
    · split
      · exact inv_payS h v _
      · exact inv_fallS h v _ (grdN_le _)
theorem inv_movN {S : Nat → Nat → Nat} (h : Inv S) : ∀ n, Inv (movN S n)
  | 0 => h
  | n + 1 => by
    have := inv_movN h n
    show Inv (mvS (movN S n) n)
    unfold mvS
    split
    · exact this
    · rename_i q; exact inv_moveS this q
theorem inv_beatS {S : Nat → Nat → Nat} (h : Inv S) : Inv (beatS S) := by
  have := inv_movN (inv_wakS h) (S 0 2)
  exact ⟨this.gates, this.geese, this.guests, this.rank, this.keep, this.keepIn, this.mood, this.mood1, this.rest, this.own, this.went, this.has, this.brave, this.back⟩
theorem inv_beatsN {S : Nat → Nat → Nat} (h : Inv S) : ∀ n, Inv (beatsN S n)
  | 0 => h
  | n + 1 => inv_beatS (inv_beatsN h n)
theorem beatS_sc (S : Nat → Nat → Nat) (j : Nat) (hj : j < 3) : beatS S 0 j = S 0 j := by
  show setf _ 0 3 _ 0 j = _
  rw [setf_sc _ _ _ _ (by omega), movN_sc _ _ (by omega)]
  rfl
theorem beatsN_sc (S : Nat → Nat → Nat) (j : Nat) (hj : j < 3) : ∀ n, beatsN S n 0 j = S 0 j
  | 0 => rfl
  | n + 1 => by show beatS _ 0 j = _; rw [beatS_sc _ _ hj]; exact beatsN_sc S j hj n
/-- how many beats are waited, at most m -/
def waitN (S : Nat → Nat → Nat) (v : Nat) : Nat → Nat
  | 0 => 0
  | m + 1 => if waitN S v m = m ∧ ¬ beatsN S m 0 0 ≤ beatsN S m 7 v then m + 1 else waitN S v m
theorem wait_to {S : Nat → Nat → Nat} {v i : Nat} (hw : ∀ j, j < i → ¬ beatsN S j 0 0 ≤ beatsN S j 7 v) : ∀ j, j ≤ i → waitN S v j = j
  | 0, _ => rfl
  | j + 1, h => by
    unfold waitN
    rw [if_pos ⟨wait_to hw j (by omega), hw j (by omega)⟩]
theorem wait_eq {S : Nat → Nat → Nat} {v i : Nat} (hw : ∀ j, j < i → ¬ beatsN S j 0 0 ≤ beatsN S j 7 v) (h : beatsN S i 0 0 ≤ beatsN S i 7 v) : ∀ q, i ≤ q → waitN S v q = i
  | 0, hq => by rw [show i = 0 by omega]; rfl
  | q + 1, hq => by
    by_cases e : i = q + 1
    · subst e; exact wait_to hw _ (Nat.le_refl _)
    · have h1 := wait_eq hw h q (by omega)
      unfold waitN
      rw [if_neg, h1]
      rintro ⟨a, b⟩
      rw [h1] at a
      subst a
      exact b h
theorem wait_eq2 {S : Nat → Nat → Nat} {v i q : Nat} (hw : ∀ j, j < i → ¬ beatsN S j 0 0 ≤ beatsN S j 7 v) (hi : i ≤ q) (h : q ≤ i ∨ beatsN S i 0 0 ≤ beatsN S i 7 v) : waitN S v q = i := by
  rcases h with h | h
  · rw [show q = i by omega]; exact wait_to hw i (Nat.le_refl _)
  · exact wait_eq hw h q hi
/-- in how many beats a visitor is in the farm, at most q; -1 if not -/
def arrI (S : Nat → Nat → Nat) (v q : Nat) : Int32 := if beatsN S (waitN S v q) 0 0 ≤ beatsN S (waitN S v q) 7 v then nI (waitN S v q) else -1
theorem waitN_le (S : Nat → Nat → Nat) (v : Nat) : ∀ q, waitN S v q ≤ q
  | 0 => Nat.le_refl _
  | q + 1 => by
    have := waitN_le S v q
    unfold waitN
    split <;> omega
/-! how many geese to calm -/
def remN (S : Nat → Nat → Nat) (t x m g : Nat) : Nat → Nat
  | 0 => 0
  | n + 1 => if awk S n t ∧ (S 3 n < m ∨ (S 3 n = m ∧ g ≤ n)) then remN S t x m g n + (S 3 n + x) else remN S t x m g n
theorem remN_all {S : Nat → Nat → Nat} {t x : Nat} (h : ∀ j, S 3 j ≤ 9) : ∀ n, remN S t x 9 0 n = hisN S t x n
  | 0 => rfl
  | n + 1 => by
    have := h n
    unfold remN hisN
    rw [remN_all h n]
    by_cases a : awk S n t
    · rw [if_pos a, if_pos ⟨a, by omega⟩]
    · rw [if_neg a, if_neg (fun q => a q.1)]
theorem remN_low {S : Nat → Nat → Nat} {t x m g : Nat} : ∀ n, n ≤ g → remN S t x (m + 1) g n = remN S t x m 0 n
  | 0, _ => rfl
  | n + 1, h => by
    unfold remN
    rw [remN_low n (by omega)]
    have : (S 3 n < m + 1 ∨ (S 3 n = m + 1 ∧ g ≤ n)) ↔ (S 3 n < m ∨ (S 3 n = m ∧ 0 ≤ n)) := by omega
    simp only [this]
theorem remN_same {S : Nat → Nat → Nat} {t x m g : Nat} (hg : ¬ (S 3 g = m ∧ awk S g t)) : ∀ n, remN S t x m (g + 1) n = remN S t x m g n
  | 0 => rfl
  | n + 1 => by
    unfold remN
    rw [remN_same hg n]
    by_cases a : awk S n t
    · have : (S 3 n < m ∨ (S 3 n = m ∧ g + 1 ≤ n)) ↔ (S 3 n < m ∨ (S 3 n = m ∧ g ≤ n)) := by
        constructor
        · omega
        · intro h
          rcases h with h | ⟨h1, h2⟩
          · exact Or.inl h
          · refine Or.inr ⟨h1, ?_⟩
            by_cases e : g = n
            · subst e; exact absurd ⟨h1, a⟩ hg
            · omega
      simp only [this]
    · rw [if_neg (fun q => a q.1), if_neg (fun q => a q.1)]
theorem remN_step {S : Nat → Nat → Nat} {t x m g : Nat} (h1 : S 3 g = m) (h2 : awk S g t) : ∀ n, g < n → remN S t x m g n = remN S t x m (g + 1) n + (m + x)
  | 0, h => absurd h (by omega)
  | n + 1, h => by
    unfold remN
    by_cases e : g = n
    · subst e
      rw [if_pos ⟨h2, Or.inr ⟨h1, Nat.le_refl _⟩⟩, if_neg (by rintro ⟨-, q⟩; omega), h1]
      have e2 : ∀ k, k ≤ g → remN S t x m g k = remN S t x m (g + 1) k := by
        intro k
        induction k with
        | zero => intro _; rfl
        | succ k ih =>
          intro hk
          unfold remN
          rw [ih (by omega)]
          have : (S 3 k < m ∨ (S 3 k = m ∧ g ≤ k)) ↔ (S 3 k < m ∨ (S 3 k = m ∧ g + 1 ≤ k)) := by omega
          simp only [this]
      rw [e2 g (Nat.le_refl _)]
    · have ih := remN_step (x := x) h1 h2 n (by omega)
      have : (S 3 n < m ∨ (S 3 n = m ∧ g + 1 ≤ n)) ↔ (S 3 n < m ∨ (S 3 n = m ∧ g ≤ n)) := by omega
      simp only [this]
      split <;> omega
/-- the hiss left, and how many are calmed, behind the first g geese at the temper m -/
def calI (S : Nat → Nat → Nat) (w t x m : Nat) (p : Nat × Nat) : Nat → Nat × Nat
  | 0 => p
  | n + 1 => if w < (calI S w t x m p n).1 ∧ S 3 n = m ∧ awk S n t then ((calI S w t x m p n).1 - (m + x), (calI S w t x m p n).2 + 1) else calI S w t x m p n
def calO (S : Nat → Nat → Nat) (w t x h n : Nat) : Nat → Nat × Nat
  | 0 => (h, 0)
  | j + 1 => calI S w t x (9 - j) (calO S w t x h n j) n
theorem calI_le (S : Nat → Nat → Nat) (w t x m : Nat) (p : Nat × Nat) : ∀ n, (calI S w t x m p n).1 ≤ p.1 ∧ (calI S w t x m p n).2 ≤ p.2 + n
  | 0 => ⟨Nat.le_refl _, Nat.le_refl _⟩
  | n + 1 => by
    have := calI_le S w t x m p n
    unfold calI
    split
    · exact ⟨by show _ - _ ≤ _; omega, by show _ + 1 ≤ _; omega⟩
    · omega
def calmN (S : Nat → Nat → Nat) (v : Nat) : Nat := (calO S (S 9 v) (S 7 v) (lackN S (S 7 v) (S 6 v)) (hisG S (S 7 v) (S 6 v)) (S 0 1) 9).2
