/-! what the public methods answer: (code of the exception or 0, the answer, the state then) -/
theorem lt_nI {x : Int32} {n : Nat} (hn : n < 2 ^ 31) (h : 0 ≤ x ∧ x < nI n) : ∃ g : Nat, g < n ∧ x = nI g := by
  obtain ⟨j, hj, e⟩ := nI_of (x := x) (Int32.not_lt.mpr h.1)
  subst e
  exact ⟨j, (nI_ltI hj hn).mp h.2, rfl⟩
theorem in_nI {x : Int32} {lo n : Nat} (hn : n < 2 ^ 31) (h : nI lo ≤ x ∧ x ≤ nI n) (hlo : lo < 2 ^ 31) : ∃ g : Nat, (lo ≤ g ∧ g ≤ n) ∧ x = nI g := by
  have h0 : ¬ x < 0 := by
    intro q
    have h1 : nI lo < 0 := Int32.lt_of_le_of_lt h.1 q
    exact nI_pos hlo h1
  obtain ⟨j, hj, e⟩ := nI_of (x := x) h0
  subst e
  exact ⟨j, ⟨(nI_leI hlo hj).mp h.1, (nI_leI hj hn).mp h.2⟩, rfl⟩
/-- the number of an answer's argument -/
abbrev cl (x : Int32) : Nat := x.toNatClampNeg
abbrev okI (n : Nat) (x : Int32) : Prop := 0 ≤ x ∧ x < nI n
abbrev okR (lo hi : Nat) (x : Int32) : Prop := nI lo ≤ x ∧ x ≤ nI hi
/-- a read by a number -/
def r1 (n : Nat) (x v : Int32) : Nat × Int32 := if okI n x then (0, v) else (1, nI 0)
theorem r1_y {n g : Nat} {v : Int32} (h : okI n (nI g)) : r1 n (nI g) v = (0, v) := if_pos h
theorem r1_n {n : Nat} {x v : Int32} (h : ¬ okI n x) : r1 n x v = (1, nI 0) := if_neg h
def rAddGate (S : Nat → Nat → Nat) (x : Int32) : Nat × Int32 × (Nat → Nat → Nat) :=
  if okR 0 9 x then if S 0 0 ≠ 6 ∧ S 0 2 = 0 then (0, nI (S 0 0), setf (setf S 1 (S 0 0) (cl x)) 0 0 (S 0 0 + 1)) else (2, nI 0, S) else (1, nI 0, S)
def rAddGoose (S : Nat → Nat → Nat) (x y : Int32) : Nat × Int32 × (Nat → Nat → Nat) :=
  if okI (S 0 0) x then if okR 1 9 y then if S 0 1 ≠ 8 then (0, nI (S 0 1), setf (setf (setf S 2 (S 0 1) (cl x)) 3 (S 0 1) (cl y)) 0 1 (S 0 1 + 1)) else (3, nI 0, S) else (2, nI 0, S) else (1, nI 0, S)
def rArrive (S : Nat → Nat → Nat) (x y z : Int32) : Nat × Int32 × (Nat → Nat → Nat) :=
  if okR 0 9 x ∧ okR 0 20 y ∧ okR 0 20 z then if S 0 0 ≠ 0 ∧ S 0 2 ≠ 8 then (0, nI (S 0 2), setf (setf (setf (setf S 6 (S 0 2) (cl x)) 9 (S 0 2) (cl y)) 8 (S 0 2) (cl z)) 0 2 (S 0 2 + 1)) else (2, nI 0, S) else (1, nI 0, S)
def rSetRank (S : Nat → Nat → Nat) (x y : Int32) : Nat × Int32 × (Nat → Nat → Nat) :=
  if okI (S 0 0) x then if okR 0 9 y then (0, nI (S 1 (cl x)), setf S 1 (cl x) (cl y)) else (2, nI 0, S) else (1, nI 0, S)
def rLead (S : Nat → Nat → Nat) (x y : Int32) : Nat × Int32 × (Nat → Nat → Nat) :=
  if okI (S 0 1) x ∧ okI (S 0 0) y then (0, nI (S 2 (cl x)), setf S 2 (cl x) (cl y)) else (1, nI 0, S)
def rGive (S : Nat → Nat → Nat) (x y : Int32) : Nat × Int32 × (Nat → Nat → Nat) :=
  if okI (S 0 2) x then if okR 1 20 y then (0, nI (min 20 (S 8 (cl x) + cl y)), setf S 8 (cl x) (min 20 (S 8 (cl x) + cl y))) else (2, nI 0, S) else (1, nI 0, S)
def rBribe (S : Nat → Nat → Nat) (x y : Int32) : Nat × Int32 × (Nat → Nat → Nat) :=
  if okI (S 0 2) x ∧ okI (S 0 1) y then if 0 < S 8 (cl x) ∧ ¬ S 0 0 ≤ S 7 (cl x) ∧ S 2 (cl y) = S 7 (cl x) then (0, nI (max 1 (S 3 (cl y) - 1)), payS S (cl x) (cl y)) else (2, nI 0, S) else (1, nI 0, S)
/-- how many come in in n beats -/
def cameI (S : Nat → Nat → Nat) (n : Nat) : Int32 := nI (inN (beatsN S n) (beatsN S n 0 2)) - nI (inN S (S 0 2))
def rPass (S : Nat → Nat → Nat) (x : Int32) : Nat × Int32 × (Nat → Nat → Nat) :=
  if okR 1 60 x then (0, cameI S (cl x), beatsN S (cl x)) else (1, nI 0, S)
def rHiss (S : Nat → Nat → Nat) (x y : Int32) : Nat × Int32 :=
  if okI (S 0 0) x then if okR 0 9 y then (0, nI (hisG S (cl x) (cl y))) else (2, nI 0) else (1, nI 0)
def rAfter (S : Nat → Nat → Nat) (x : Int32) : Nat × Int32 :=
  if okR 1 60 x then (0, nI (inN (beatsN S (cl x)) (beatsN S (cl x) 0 2))) else (1, nI 0)
/-- the loudest of the first n gates, by number + 1, and its hiss -/
def ldN (S : Nat → Nat → Nat) : Nat → Nat × Nat
  | 0 => (0, 0)
  | n + 1 => if (ldN S n).1 = 0 ∨ (ldN S n).2 < hisG S n 0 then (n + 1, hisG S n 0) else ldN S n
theorem ldN_val (S : Nat → Nat → Nat) : ∀ n, ∀ b, (ldN S n).1 = b + 1 → (ldN S n).2 = hisG S b 0 ∧ b < n
  | 0, b, h => absurd h (by simp [ldN])
  | n + 1, b, h => by
    have ih := ldN_val S n b
    unfold ldN at h ⊢
    split at h
    · rename_i c
      rw [if_pos c]
      have : n = b := by simpa using h
      subst this
      exact ⟨rfl, by omega⟩
    · rename_i c
      rw [if_neg c]
      exact ⟨(ih h).1, by have := (ih h).2; omega⟩
/-- the first below n with P, by number + 1; 0: none -/
def fstN (P : Nat → Prop) (dP : DecidablePred P) : Nat → Nat
  | 0 => 0
  | n + 1 => if fstN P dP n ≠ 0 then fstN P dP n else if P n then n + 1 else 0
theorem fst_stay {P : Nat → Prop} {dP : DecidablePred P} {i : Nat} (h : fstN P dP i ≠ 0) : ∀ k, fstN P dP (i + k) = fstN P dP i
  | 0 => rfl
  | k + 1 => by
    show (if fstN P dP (i + k) ≠ 0 then fstN P dP (i + k) else if P (i + k) then i + k + 1 else 0) = _
    rw [fst_stay h k, if_pos h]
theorem fst_hit {P : Nat → Prop} {dP : DecidablePred P} {i m : Nat} (h : fstN P dP i = 0) (hP : P i) (hm : i < m) : fstN P dP m = i + 1 := by
  have h1 : fstN P dP (i + 1) = i + 1 := by
    show (if fstN P dP i ≠ 0 then fstN P dP i else if P i then i + 1 else 0) = _
    rw [if_neg (fun q => q h), if_pos hP]
  obtain ⟨k, rfl⟩ : ∃ k, m = i + 1 + k := ⟨m - (i + 1), by omega⟩
  rw [fst_stay (by rw [h1]; omega) k, h1]
theorem fst_hit1 {P : Nat → Prop} {dP : DecidablePred P} {i : Nat} (h : fstN P dP i = 0) (hP : P i) : fstN P dP (i + 1) = i + 1 := fst_hit h hP (Nat.lt_succ_self i)
theorem fst_no {P : Nat → Prop} {dP : DecidablePred P} {i : Nat} (h : fstN P dP i = 0) (hP : ¬ P i) : fstN P dP (i + 1) = 0 := by
  show (if fstN P dP i ≠ 0 then fstN P dP i else if P i then i + 1 else 0) = _
  rw [if_neg (fun q => q h), if_neg hP]
/-- the corns wanted, the least rank that dares, the first gate that bars -/
def cwN (S : Nat → Nat → Nat) (v : Nat) : Nat → Nat := fstN (fun c => ¬ arrI (setf S 8 v c) v 40 = -1) (fun _ => inferInstance)
def rkN (S : Nat → Nat → Nat) (v : Nat) : Nat → Nat := fstN (fun r => hisG S (S 7 v) r ≤ S 9 v) (fun _ => inferInstance)
def fbN (S : Nat → Nat → Nat) (r w : Nat) : Nat → Nat := fstN (fun g => w < hisG S g r) (fun _ => inferInstance)
def rBar (S : Nat → Nat → Nat) (x y : Int32) : Nat × Int32 :=
  if okR 0 9 x ∧ okR 0 20 y then (0, oI (fbN S (cl x) (cl y) (S 0 0))) else (1, nI 0)
def meanD (S : Nat → Nat → Nat) : UInt64 := if S 0 1 = 0 then FP.dconst0 else FP.ddiv (FP.i2d (nI (sumN S (S 0 1)))) (FP.i2d (nI (S 0 1)))
theorem cl_nI {n : Nat} (h : n < 2 ^ 31) : cl (nI n) = n := nI_clamp h
theorem fst_le {P : Nat → Prop} {dP : DecidablePred P} : ∀ n, fstN P dP n ≤ n
  | 0 => Nat.le_refl _
  | n + 1 => by
    have := fst_le (P := P) (dP := dP) n
    unfold fstN
    split
    · omega
    · split <;> omega
theorem oI_m1 {n : Nat} (hn : n < 2 ^ 30) : oI n = -1 ↔ n = 0 := by
  constructor
  · intro h
    cases n with
    | zero => rfl
    | succ n =>
      rw [oI_succ] at h
      exact absurd h (nI_ne_m1 (by omega))
  · intro h; subst h; exact oI_0
abbrev dareP (S : Nat → Nat → Nat) (v : Nat) : Prop := ¬ S 0 0 ≤ S 7 v ∧ hisG S (S 7 v) (S 6 v) ≤ S 9 v
theorem inv_corn {S : Nat → Nat → Nat} (h : Inv S) (v : Nat) {c : Nat} (hc : c ≤ 20) : Inv (setf S 8 v c) := by
  refine ⟨h.gates, h.geese, h.guests, h.rank, h.keep, h.keepIn, h.mood, h.mood1, h.rest, h.own, h.went, fun j => ?_, h.brave, h.back⟩
  have := h.has j
  show (if j = v then c else S 8 j) ≤ 20
  split <;> omega
theorem wait_stop (S : Nat → Nat → Nat) (v : Nat) : ∀ q, waitN S v q < q → beatsN S (waitN S v q) 0 0 ≤ beatsN S (waitN S v q) 7 v
  | 0, h => absurd h (by omega)
  | q + 1, h => by
    unfold waitN at h ⊢
    split at h
    · omega
    · rename_i c
      rw [if_neg c]
      by_cases e : waitN S v q = q
      · rw [e] at c ⊢
        by_cases b : beatsN S q 0 0 ≤ beatsN S q 7 v
        · exact b
        · exact absurd ⟨rfl, b⟩ c
      · exact wait_stop S v q (by have := waitN_le S v q; omega)
theorem arr_run (S : Nat → Nat → Nat) (v q : Nat) : arrI S v q = if q < waitN S v (q + 1) then -1 else nI (waitN S v (q + 1)) := by
  have h1 := waitN_le S v q
  unfold arrI
  by_cases b : beatsN S (waitN S v q) 0 0 ≤ beatsN S (waitN S v q) 7 v
  · have e : waitN S v (q + 1) = waitN S v q := by
      show (if waitN S v q = q ∧ ¬ beatsN S q 0 0 ≤ beatsN S q 7 v then q + 1 else waitN S v q) = _
      rw [if_neg]
      rintro ⟨e, c⟩
      rw [e] at b
      exact c b
    rw [if_pos b, e, if_neg (by omega)]
  · have e0 : waitN S v q = q := by
      by_cases e : waitN S v q < q
      · exact absurd (wait_stop S v q e) b
      · omega
    have e : waitN S v (q + 1) = q + 1 := by
      show (if waitN S v q = q ∧ ¬ beatsN S q 0 0 ≤ beatsN S q 7 v then q + 1 else waitN S v q) = _
      rw [e0] at b
      rw [if_pos ⟨e0, b⟩]
    rw [if_neg b, e, if_pos (by omega)]
