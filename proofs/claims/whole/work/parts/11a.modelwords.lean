/-- the reference's row of what changes by beats -/
def encN (S : Nat → Nat → Nat) : Nat → Nat := fun j => if j < 3 then S 0 (3 + j) else if j < 27 then S (3 + (j - 3) % 3) ((j - 3) / 3) else S (7 + (j - 27) % 4) ((j - 27) / 4)
def wMo (cI : ClassId) (u : Nat → Nat) (S : Nat → Nat → Nat) (th : Int32) (K : Nat → Nat) : va_W := [(u 0, .inr (4, [.int th, .int (nI (S 0 0)), .int (nI (S 0 1)), .int (nI (S 0 2)), .ref (u 1), .ref (u 2), .ref (u 3), .ref (u 4), .ref (u 5)])), (u 1, .inl (cI, 6, .inl (row (S 1)))), (u 2, .inl (cI, 8, .inl (row (S 2)))), (u 3, .inl (cI, 8, .inl (row (S 6)))), (u 4, .inl (cI, 59, .inl (row (encN S)))), (u 5, .inl (cI, 59, .inl (row K)))]
theorem encN_go (S : Nat → Nat → Nat) {k w : Nat} (hk : k < 8) (hw : w < 3) : encN S ((3 + (3 * k)) + w) = S (3 + w) k := by
  unfold encN
  rw [if_neg (by omega), if_pos (by omega)]
  rw [show (3 + 3 * k + w - 3) % 3 = w by omega, show (3 + 3 * k + w - 3) / 3 = k by omega]
theorem encN_vi (S : Nat → Nat → Nat) {v w : Nat} (hv : v < 8) (hw : w < 4) : encN S ((27 + (4 * v)) + w) = S (7 + w) v := by
  unfold encN
  rw [if_neg (by omega), if_neg (by omega)]
  rw [show (27 + 4 * v + w - 27) % 4 = w by omega, show (27 + 4 * v + w - 27) / 4 = v by omega]
theorem enc_put (S : Nat → Nat → Nat) {k w x : Nat} (hk : k < 8) (hw : w < 3) : updN (encN S) ((3 + (3 * k)) + w) x = encN (setf S (3 + w) k x) := by
  funext j
  show (if j = 3 + 3 * k + w then x else encN S j) = _
  by_cases h : j = 3 + 3 * k + w
  · rw [if_pos h, h, encN_go _ hk hw, setf_at, if_pos ⟨rfl, rfl⟩]
  · rw [if_neg h]
    unfold encN
    by_cases h1 : j < 3
    · rw [if_pos h1, if_pos h1, setf_at, if_neg (by omega)]
    · rw [if_neg h1, if_neg h1]
      by_cases h2 : j < 27
      · rw [if_pos h2, if_pos h2, setf_at, if_neg (by omega)]
      · rw [if_neg h2, if_neg h2, setf_at, if_neg (by omega)]
theorem enc_let (S : Nat → Nat → Nat) {v w x : Nat} (hv : v < 8) (hw : w < 4) : updN (encN S) ((27 + (4 * v)) + w) x = encN (setf S (7 + w) v x) := by
  funext j
  show (if j = 27 + 4 * v + w then x else encN S j) = _
  by_cases h : j = 27 + 4 * v + w
  · rw [if_pos h, h, encN_vi _ hv hw, setf_at, if_pos ⟨rfl, rfl⟩]
  · rw [if_neg h]
    unfold encN
    by_cases h1 : j < 3
    · rw [if_pos h1, if_pos h1, setf_at, if_neg (by omega)]
    · rw [if_neg h1, if_neg h1]
      by_cases h2 : j < 27
      · rw [if_pos h2, if_pos h2, setf_at, if_neg (by omega)]
      · rw [if_neg h2, if_neg h2, setf_at, if_neg (by omega)]
theorem enc_sc (S : Nat → Nat → Nat) {i x : Nat} (hi : i < 3) : updN (encN S) i x = encN (setf S 0 (3 + i) x) := by
  funext j
  show (if j = i then x else encN S j) = _
  by_cases h : j = i
  · subst h
    rw [if_pos rfl]
    unfold encN
    rw [if_pos hi, setf_at, if_pos ⟨rfl, rfl⟩]
  · rw [if_neg h]
    unfold encN
    by_cases h1 : j < 3
    · rw [if_pos h1, if_pos h1, setf_at, if_neg (by omega)]
    · rw [if_neg h1, if_neg h1]
      by_cases h2 : j < 27
      · rw [if_pos h2, if_pos h2, setf_at, if_neg (by omega)]
      · rw [if_neg h2, if_neg h2, setf_at, if_neg (by omega)]
theorem wMo_put (cI : ClassId) (u : Nat → Nat) (S : Nat → Nat → Nat) (th : Int32) (K : Nat → Nat) {k w x : Nat} (hk : k < 8) (hw : w < 3) : (wMo cI u S th K).set 4 (u 4, .inl (cI, 59, .inl (row (updN (encN S) ((3 + (3 * k)) + w) x)))) = wMo cI u (setf S (3 + w) k x) th K := by
  rw [enc_put S hk hw]
  rcases (show w = 0 ∨ w = 1 ∨ w = 2 by omega) with rfl | rfl | rfl <;> rfl
theorem wMo_let (cI : ClassId) (u : Nat → Nat) (S : Nat → Nat → Nat) (th : Int32) (K : Nat → Nat) {v w x : Nat} (hv : v < 8) (hw : w < 4) : (wMo cI u S th K).set 4 (u 4, .inl (cI, 59, .inl (row (updN (encN S) ((27 + (4 * v)) + w) x)))) = wMo cI u (setf S (7 + w) v x) th K := by
  rw [enc_let S hv hw]
  rcases (show w = 0 ∨ w = 1 ∨ w = 2 ∨ w = 3 by omega) with rfl | rfl | rfl | rfl <;> rfl
theorem wMo_sc (cI : ClassId) (u : Nat → Nat) (S : Nat → Nat → Nat) (th : Int32) (K : Nat → Nat) {i x : Nat} (hi : i < 3) : (wMo cI u S th K).set 4 (u 4, .inl (cI, 59, .inl (row (updN (encN S) i x)))) = wMo cI u (setf S 0 (3 + i) x) th K := by
  rw [enc_sc S hi]
  rcases (show i = 0 ∨ i = 1 ∨ i = 2 by omega) with rfl | rfl | rfl <;> rfl
/-- what no beat changes -/
def sameN (S S0 : Nat → Nat → Nat) : Prop := (S 0 0 = S0 0 0 ∧ S 0 1 = S0 0 1 ∧ S 0 2 = S0 0 2) ∧ S 1 = S0 1 ∧ S 2 = S0 2 ∧ S 6 = S0 6
theorem wMo_back (cI : ClassId) (u : Nat → Nat) {S S0 : Nat → Nat → Nat} (th : Int32) (h : sameN S S0) : (wMo cI u S th (encN S0)).set 4 (u 4, .inl (cI, 59, .inl (row (encN S0)))) = wMo cI u S0 th (encN S0) := by
  obtain ⟨⟨h1, h2, h3⟩, h4, h5, h6⟩ := h
  show [_, _, _, _, _, _] = [_, _, _, _, _, _]
  rw [h1, h2, h3, h4, h5, h6]
theorem sameN.refl (S : Nat → Nat → Nat) : sameN S S := ⟨⟨rfl, rfl, rfl⟩, rfl, rfl, rfl⟩
theorem sameN.trans {A B C : Nat → Nat → Nat} (h : sameN A B) (k : sameN B C) : sameN A C := ⟨⟨h.1.1.trans k.1.1, h.1.2.1.trans k.1.2.1, h.1.2.2.trans k.1.2.2⟩, h.2.1.trans k.2.1, h.2.2.1.trans k.2.2.1, h.2.2.2.trans k.2.2.2⟩
theorem same_moveS (S : Nat → Nat → Nat) (v : Nat) : sameN (moveS S v) S := by
  unfold moveS
  split
  · exact ⟨⟨rfl, rfl, rfl⟩, rfl, rfl, rfl⟩
  · split
    · exact ⟨⟨rfl, rfl, rfl⟩, rfl, rfl, rfl⟩
    · split
      · exact ⟨⟨rfl, rfl, rfl⟩, rfl, rfl, rfl⟩
      · exact ⟨⟨rfl, rfl, rfl⟩, rfl, rfl, rfl⟩
theorem same_movN (S : Nat → Nat → Nat) : ∀ n, sameN (movN S n) S
  | 0 => sameN.refl S
  | n + 1 => by
    have h := same_movN S n
    show sameN (mvS (movN S n) n) S
    unfold mvS
    split
    · exact h
    · exact (same_moveS _ _).trans h
theorem same_beatS (S : Nat → Nat → Nat) : sameN (beatS S) S := by
  have h := same_movN (wakS S) (S 0 2)
  exact ⟨⟨h.1.1, h.1.2.1, h.1.2.2⟩, h.2.1, h.2.2.1, h.2.2.2⟩
theorem same_beatsN (S : Nat → Nat → Nat) : ∀ n, sameN (beatsN S n) S
  | 0 => sameN.refl S
  | n + 1 => (same_beatS _).trans (same_beatsN S n)
theorem bI_congr {a b : Prop} [Decidable a] [Decidable b] (h : a ↔ b) : bI a = bI b := by
  show (if a then (1 : Int32) else 0) = if b then 1 else 0
  simp only [h]
theorem narB {b : Prop} [Decidable b] : narrow .boolean (.int (bI b)) = .int (bI b) := by
  show narrow .boolean (.int (if b then (1 : Int32) else 0)) = .int (if b then (1 : Int32) else 0)
  split <;> rfl
theorem isin_iff {g : Int32} {n : Nat} (hn : n < 2 ^ 30) : (nI 0 ≤ g ∧ g ≤ nI n - nI 1) ↔ (0 ≤ g ∧ g < nI n) := by
  have e0 : nI 0 = 0 := nI_0
  have e1 : (nI n - nI 1).toInt = (n : Int) - 1 := pk_sub_toInt hn (by decide)
  have e2 : (nI n).toInt = (n : Int) := nI_toInt (by omega)
  rw [e0, Int32.le_iff_toInt_le, Int32.le_iff_toInt_le, Int32.lt_iff_toInt_lt, e1, e2]
  omega
theorem hisG_farm {S : Nat → Nat → Nat} (hI : Inv S) {t r : Nat} (h : S 0 0 ≤ t) : hisG S t r = 0 := by
  have : ∀ n, n ≤ S 0 1 → hisN S t (lackN S t r) n = 0 := by
    intro n
    induction n with
    | zero => intro _; rfl
    | succ n ih =>
      intro hn
      unfold hisN
      rw [if_neg (fun q => by have := hI.keepIn n (by omega); have := q.1; omega)]
      exact ih (by omega)
  exact this _ (Nat.le_refl _)
theorem frcN_farm {S : Nat → Nat → Nat} (hI : Inv S) {t : Nat} (h : S 0 0 ≤ t) : (frcN S t (S 0 1)).1 = 0 := by
  have : ∀ n, n ≤ S 0 1 → (frcN S t n) = (0, 0) := by
    intro n
    induction n with
    | zero => intro _; rfl
    | succ n ih =>
      intro hn
      unfold frcN
      rw [if_neg (fun q => by have := hI.keepIn n (by omega); have := q.1.1; omega)]
      exact ih (by omega)
  rw [this _ (Nat.le_refl _)]
theorem setf_comm (S : Nat → Nat → Nat) {f f' : Nat} (k v k' v' : Nat) (h : f ≠ f') : setf (setf S f k v) f' k' v' = setf (setf S f' k' v') f k v := by
  funext a j
  rw [setf_at, setf_at, setf_at, setf_at]
  by_cases h1 : a = f' ∧ j = k'
  · rw [if_pos h1, if_neg (fun q => h (by omega)), if_pos h1]
  · rw [if_neg h1, if_neg h1]
theorem pay_ref (S : Nat → Nat → Nat) (v k : Nat) : setf (setf (setf (setf (setf S 8 v (S 8 v - 1)) 4 k 3) 3 k (max 1 (S 3 k - 1))) 5 k (S 5 k + 1)) 0 4 (S 0 4 + 1) = payS S v k := by
  unfold payS
  rw [setf_comm (setf (setf S 8 v (S 8 v - 1)) 4 k 3) k (max 1 (S 3 k - 1)) k (S 5 k + 1) (by decide), setf_comm (setf S 8 v (S 8 v - 1)) k 3 k (S 5 k + 1) (by decide)]
/-- what isAwake compares -/
theorem awk_of {S : Nat → Nat → Nat} {k t : Nat} (h1 : S 2 k = t) (h2 : S 4 k = 0) : awk S k t := ⟨h1, h2⟩
