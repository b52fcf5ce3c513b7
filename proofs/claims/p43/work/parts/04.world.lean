/-! worlds and words of this claim. A state S: S 0 = [gates, geese, visitors, beat, bribes, retreats]; S 1 ranks; S 2 a goose's gate, S 3 temper, S 4 calm, S 5 eaten; S 6 a visitor's rank, S 7 passed, S 8 corns, S 9 nerve, S 10 retreat -/
def wFl (cI : ClassId) (a : Nat → Nat) (S : Nat → Nat → Nat) : va_W := [(a 2, .inr (1, [.int (nI (S 0 1)), .ref (a 3), .ref (a 4), .ref (a 5), .ref (a 6)])), (a 3, .inl (cI, 8, .inl (row (S 2)))), (a 4, .inl (cI, 8, .inl (row (S 3)))), (a 5, .inl (cI, 8, .inl (row (S 4)))), (a 6, .inl (cI, 8, .inl (row (S 5))))]
def wGu (cI : ClassId) (a : Nat → Nat) (S : Nat → Nat → Nat) : va_W := [(a 7, .inr (2, [.int (nI (S 0 2)), .ref (a 8), .ref (a 9), .ref (a 10), .ref (a 11), .ref (a 12)])), (a 8, .inl (cI, 8, .inl (row (S 6)))), (a 9, .inl (cI, 8, .inl (row (S 9)))), (a 10, .inl (cI, 8, .inl (row (S 8)))), (a 11, .inl (cI, 8, .inl (row (S 7)))), (a 12, .inl (cI, 8, .inl (row (S 10))))]
def wFa (cI : ClassId) (a : Nat → Nat) (S : Nat → Nat → Nat) : va_W := [(a 0, .inr (0, [.int (nI (S 0 0)), .ref (a 1), .ref (a 2), .ref (a 7), .int (nI (S 0 3)), .int (nI (S 0 4)), .int (nI (S 0 5))])), (a 1, .inl (cI, 6, .inl (row (S 1)))),
  (a 2, .inr (1, [.int (nI (S 0 1)), .ref (a 3), .ref (a 4), .ref (a 5), .ref (a 6)])), (a 3, .inl (cI, 8, .inl (row (S 2)))), (a 4, .inl (cI, 8, .inl (row (S 3)))), (a 5, .inl (cI, 8, .inl (row (S 4)))), (a 6, .inl (cI, 8, .inl (row (S 5)))),
  (a 7, .inr (2, [.int (nI (S 0 2)), .ref (a 8), .ref (a 9), .ref (a 10), .ref (a 11), .ref (a 12)])), (a 8, .inl (cI, 8, .inl (row (S 6)))), (a 9, .inl (cI, 8, .inl (row (S 9)))), (a 10, .inl (cI, 8, .inl (row (S 8)))), (a 11, .inl (cI, 8, .inl (row (S 7)))), (a 12, .inl (cI, 8, .inl (row (S 10))))]
def wFF (cI : ClassId) (a b : Nat → Nat) (S S2 : Nat → Nat → Nat) : va_W := wFa cI b S2 ++ wFa cI a S
def wCo (cI : ClassId) (a b : Nat → Nat) (S S2 : Nat → Nat → Nat) : va_W := (a 13, .inr (3, [.ref (a 0), .ref (b 0)])) :: (wFa cI a S ++ wFa cI b S2)
abbrev QPI (below : List Frame) (args : Array Value) (s : State) (v : Int32) : State → Prop := MQ below (va_Qi (fun r (_ : Unit) => r = v) (fun _ _ => True) (fun _ => False)) args s 0 0 (fun _ => False)
abbrev QPL (below : List Frame) (args : Array Value) (s : State) (v : Int64) : State → Prop := MQ below (va_Ql (fun r (_ : Unit) => r = v) (fun _ _ => True) (fun _ => False)) args s 0 0 (fun _ => False)
abbrev QPD (below : List Frame) (args : Array Value) (s : State) (v : UInt64) : State → Prop := MQ below (va_Qd (fun r (_ : Unit) => r = v) (fun _ _ => True) (fun _ => False)) args s 0 0 (fun _ => False)
abbrev QMV (below : List Frame) (args : Array Value) (s : State) (D : va_G) (w0 w1 : va_W) : State → Prop := MQ below (va_Qv (fun _ : Unit => True) (fun _ t => va_P D vwCl w1 t.heap) (va_B w0)) args s 0 0 (va_B w0)
abbrev QMI (below : List Frame) (args : Array Value) (s : State) (D : va_G) (w0 w1 : va_W) (v : Int32) : State → Prop := MQ below (va_Qi (fun r (_ : Unit) => r = v) (fun _ t => va_P D vwCl w1 t.heap) (va_B w0)) args s 0 0 (va_B w0)
abbrev QMD (below : List Frame) (args : Array Value) (s : State) (D : va_G) (w0 w1 : va_W) (v : UInt64) : State → Prop := MQ below (va_Qd (fun r (_ : Unit) => r = v) (fun _ t => va_P D vwCl w1 t.heap) (va_B w0)) args s 0 0 (va_B w0)
/-! what holds of a state always -/
def Inv (S : Nat → Nat → Nat) : Prop := S 0 0 ≤ 6 ∧ S 0 1 ≤ 8 ∧ S 0 2 ≤ 8 ∧ (∀ j, S 1 j ≤ 9) ∧ (∀ j, S 2 j ≤ 6) ∧ (∀ j, j < S 0 1 → S 2 j < S 0 0) ∧ (∀ j, S 3 j ≤ 9) ∧ (∀ j, j < S 0 1 → 1 ≤ S 3 j) ∧ (∀ j, S 4 j ≤ 3) ∧ (∀ j, S 6 j ≤ 9) ∧ (∀ j, S 7 j ≤ S 0 0) ∧ (∀ j, S 8 j ≤ 20) ∧ (∀ j, S 9 j ≤ 20) ∧ (∀ j, S 10 j ≤ 4)
theorem Inv.gates {S : Nat → Nat → Nat} (h : Inv S) : S 0 0 ≤ 6 := h.1
theorem Inv.geese {S : Nat → Nat → Nat} (h : Inv S) : S 0 1 ≤ 8 := h.2.1
theorem Inv.guests {S : Nat → Nat → Nat} (h : Inv S) : S 0 2 ≤ 8 := h.2.2.1
theorem Inv.rank {S : Nat → Nat → Nat} (h : Inv S) (j : Nat) : S 1 j ≤ 9 := h.2.2.2.1 j
theorem Inv.keep {S : Nat → Nat → Nat} (h : Inv S) (j : Nat) : S 2 j ≤ 6 := h.2.2.2.2.1 j
theorem Inv.keepIn {S : Nat → Nat → Nat} (h : Inv S) (j : Nat) (hj : j < S 0 1) : S 2 j < S 0 0 := h.2.2.2.2.2.1 j hj
theorem Inv.mood {S : Nat → Nat → Nat} (h : Inv S) (j : Nat) : S 3 j ≤ 9 := h.2.2.2.2.2.2.1 j
theorem Inv.mood1 {S : Nat → Nat → Nat} (h : Inv S) (j : Nat) (hj : j < S 0 1) : 1 ≤ S 3 j := h.2.2.2.2.2.2.2.1 j hj
theorem Inv.rest {S : Nat → Nat → Nat} (h : Inv S) (j : Nat) : S 4 j ≤ 3 := h.2.2.2.2.2.2.2.2.1 j
theorem Inv.own {S : Nat → Nat → Nat} (h : Inv S) (j : Nat) : S 6 j ≤ 9 := h.2.2.2.2.2.2.2.2.2.1 j
theorem Inv.went {S : Nat → Nat → Nat} (h : Inv S) (j : Nat) : S 7 j ≤ S 0 0 := h.2.2.2.2.2.2.2.2.2.2.1 j
theorem Inv.has {S : Nat → Nat → Nat} (h : Inv S) (j : Nat) : S 8 j ≤ 20 := h.2.2.2.2.2.2.2.2.2.2.2.1 j
theorem Inv.brave {S : Nat → Nat → Nat} (h : Inv S) (j : Nat) : S 9 j ≤ 20 := h.2.2.2.2.2.2.2.2.2.2.2.2.1 j
theorem Inv.back {S : Nat → Nat → Nat} (h : Inv S) (j : Nat) : S 10 j ≤ 4 := h.2.2.2.2.2.2.2.2.2.2.2.2.2 j
/-- the entries of a flock that are compared are small -/
def Bd (S : Nat → Nat → Nat) : Prop := S 0 1 ≤ 8 ∧ ∀ j, S 2 j ≤ 6 ∧ S 3 j ≤ 9 ∧ S 4 j ≤ 3
/-- what isAwakeThere compares -/
def Bk (S : Nat → Nat → Nat) : Prop := ∀ j, S 2 j ≤ 6 ∧ S 4 j ≤ 3
theorem Bd.k {S : Nat → Nat → Nat} (h : Bd S) : Bk S := fun j => ⟨(h.2 j).1, (h.2 j).2.2⟩
theorem Inv.bd {S : Nat → Nat → Nat} (h : Inv S) : Bd S := ⟨h.geese, fun j => ⟨h.keep j, h.mood j, h.rest j⟩⟩
/-- a goose is awake at a gate -/
abbrev awk (S : Nat → Nat → Nat) (k t : Nat) : Prop := S 2 k = t ∧ S 4 k = 0
def cntN (S : Nat → Nat → Nat) (t : Nat) : Nat → Nat
  | 0 => 0
  | n + 1 => if awk S n t then cntN S t n + 1 else cntN S t n
def hisN (S : Nat → Nat → Nat) (t x : Nat) : Nat → Nat
  | 0 => 0
  | n + 1 => if awk S n t then hisN S t x n + (S 3 n + x) else hisN S t x n
/-- the fiercest of the first n awake there, by number + 1 (0: none), and its temper -/
def frcN (S : Nat → Nat → Nat) (t : Nat) : Nat → Nat × Nat
  | 0 => (0, 0)
  | n + 1 => if awk S n t ∧ (frcN S t n).2 < S 3 n then (n + 1, S 3 n) else frcN S t n
theorem frcN_le (S : Nat → Nat → Nat) (hb : ∀ j, S 3 j ≤ 9) (t : Nat) : ∀ n, (frcN S t n).2 ≤ 9 ∧ (frcN S t n).1 ≤ n
  | 0 => ⟨Nat.zero_le _, Nat.le_refl _⟩
  | n + 1 => by
    have := frcN_le S hb t n
    unfold frcN
    split
    · exact ⟨hb n, Nat.le_refl _⟩
    · exact ⟨this.1, by omega⟩
theorem hisN_le (S : Nat → Nat → Nat) (hb : ∀ j, S 3 j ≤ 9) (t x : Nat) : ∀ n, hisN S t x n ≤ n * (9 + x)
  | 0 => by simp [hisN]
  | n + 1 => by
    have h1 := hisN_le S hb t x n
    have h2 := hb n
    rw [Nat.succ_mul]
    unfold hisN
    split <;> omega
/-- a number or, for 0, -1: the number + 1 is given -/
abbrev oI (n : Nat) : Int32 := nI n - 1
theorem oI_succ (n : Nat) : oI (n + 1) = nI n := nI_pred n
theorem oI_0 : oI 0 = -1 := by decide
def sumN (S : Nat → Nat → Nat) : Nat → Nat
  | 0 => 0
  | n + 1 => sumN S n + S 3 n
theorem sumN_le (S : Nat → Nat → Nat) (hb : ∀ j, S 3 j ≤ 9) : ∀ n, sumN S n ≤ n * 9
  | 0 => by simp [sumN]
  | n + 1 => by
    have h1 := sumN_le S hb n
    have h2 := hb n
    simp only [sumN]
    omega
/-- tempers behind a going through at t, of the first n -/
def enrN (S : Nat → Nat → Nat) (t n : Nat) : Nat → Nat := fun j => if j < n ∧ awk S j t then min 9 (S 3 j + 1) else S 3 j
/-- calm a beat less, of the first n -/
def wakN (S : Nat → Nat → Nat) (n : Nat) : Nat → Nat := fun j => if j < n then S 4 j - 1 else S 4 j
theorem enrN_0 (S : Nat → Nat → Nat) (t : Nat) : setF S 3 (enrN S t 0) = S := by
  funext f j
  by_cases h : f = 3
  · subst h; simp [setF, enrN]
  · simp [setF, h]
theorem enrN_at (S : Nat → Nat → Nat) (t i : Nat) : enrN S t i i = S 3 i := by simp [enrN]
theorem enrN_y {S : Nat → Nat → Nat} {t i : Nat} (h : awk S i t) : setf (setF S 3 (enrN S t i)) 3 i (min 9 (S 3 i + 1)) = setF S 3 (enrN S t (i + 1)) := by
  funext f j
  by_cases hf : f = 3
  · subst hf
    by_cases hj : j = i
    · subst hj; simp [setF, enrN, updN, h]
    · have : j < i + 1 ↔ j < i := by omega
      simp [setF, enrN, updN, hj, this]
  · simp [setF, hf]
theorem enrN_n {S : Nat → Nat → Nat} {t i : Nat} (h : ¬ awk S i t) : setF S 3 (enrN S t i) = setF S 3 (enrN S t (i + 1)) := by
  funext f j
  by_cases hf : f = 3
  · subst hf
    by_cases hj : j = i
    · subst hj; show (if (3:Nat) = 3 then enrN S t j else S 3) j = (if (3:Nat) = 3 then enrN S t (j + 1) else S 3) j
      rw [if_pos rfl, if_pos rfl]; unfold enrN; rw [if_neg (fun q => h q.2), if_neg (fun q => h q.2)]
    · have : j < i + 1 ↔ j < i := by omega
      simp [setF, enrN, this]
  · simp [setF, hf]
theorem wakN_0 (S : Nat → Nat → Nat) : setF S 4 (wakN S 0) = S := by
  funext f j
  by_cases h : f = 4
  · subst h; simp [setF, wakN]
  · simp [setF, h]
theorem wakN_at (S : Nat → Nat → Nat) (i : Nat) : wakN S i i = S 4 i := by simp [wakN]
theorem wakN_y (S : Nat → Nat → Nat) (i : Nat) : setf (setF S 4 (wakN S i)) 4 i (S 4 i - 1) = setF S 4 (wakN S (i + 1)) := by
  funext f j
  by_cases hf : f = 4
  · subst hf
    by_cases hj : j = i
    · subst hj; simp [setF, wakN, updN]
    · have : j < i + 1 ↔ j < i := by omega
      simp [setF, wakN, updN, hj, this]
  · simp [setF, hf]
theorem wakN_n {S : Nat → Nat → Nat} {i : Nat} (h : S 4 i = 0) : setF S 4 (wakN S i) = setF S 4 (wakN S (i + 1)) := by
  funext f j
  by_cases hf : f = 4
  · subst hf
    by_cases hj : j = i
    · subst hj; simp [setF, wakN, h]
    · have : j < i + 1 ↔ j < i := by omega
      simp [setF, wakN, this]
  · simp [setF, hf]
