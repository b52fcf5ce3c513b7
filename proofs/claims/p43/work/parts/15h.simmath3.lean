/-! hisses, the awake, the loudest gate -/
theorem his_z {S : Nat → Nat → Nat} (hI : Inv S) (g r : Nat) : ∀ n, n ≤ S 0 1 → (hisN S g r n = 0 ↔ cntN S g n = 0) ∧ cntN S g n ≤ hisN S g r n
  | 0, _ => ⟨Iff.rfl, Nat.le_refl _⟩
  | n + 1, hn => by
    obtain ⟨h1, h2⟩ := his_z hI g r n (by omega)
    have hm := hI.mood1 n (by omega)
    unfold hisN cntN
    split <;> omega
theorem his_m {S : Nat → Nat → Nat} (g : Nat) {x y : Nat} (h : x ≤ y) : ∀ n, hisN S g x n ≤ hisN S g y n
  | 0 => Nat.le_refl _
  | n + 1 => by
    have h1 := his_m (S := S) g h n
    unfold hisN
    split <;> omega
theorem hisG_m (S : Nat → Nat → Nat) (g : Nat) {r q : Nat} (h : r ≤ q) : hisG S g q ≤ hisG S g r := by
  unfold hisG
  refine his_m g ?_ _
  unfold lackN
  split <;> omega
theorem ld_max (S : Nat → Nat → Nat) : ∀ n g, g < n → hisG S g 0 ≤ (ldN S n).2 ∧ (ldN S n).1 ≠ 0
  | 0, g, h => absurd h (by omega)
  | n + 1, g, h => by
    unfold ldN
    by_cases e : g = n
    · subst e
      by_cases c : (ldN S g).1 = 0 ∨ (ldN S g).2 < hisG S g 0
      · rw [if_pos c]; exact ⟨Nat.le_refl _, by simp⟩
      · rw [if_neg c]; exact ⟨by omega, fun q => c (Or.inl q)⟩
    · have ih := ld_max S n g (by omega)
      by_cases c : (ldN S n).1 = 0 ∨ (ldN S n).2 < hisG S n 0
      · rw [if_pos c]
        exact ⟨by show hisG S g 0 ≤ hisG S n 0; rcases c with c | c <;> omega, by simp⟩
      · rw [if_neg c]; exact ih
/-- the loudest gate, where one is -/
theorem ld_get (S : Nat → Nat → Nat) {n g : Nat} (h : g < n) : ∃ b, (ldN S n).1 = b + 1 ∧ b < n ∧ hisG S g 0 ≤ hisG S b 0 := by
  obtain ⟨h1, h2⟩ := ld_max S n g h
  obtain ⟨b, hb⟩ : ∃ b, (ldN S n).1 = b + 1 := ⟨(ldN S n).1 - 1, by omega⟩
  obtain ⟨h3, h4⟩ := ldN_val S n b hb
  exact ⟨b, hb, h4, by omega⟩
/-- how many of the first n are awake -/
def awN (S : Nat → Nat → Nat) : Nat → Nat
  | 0 => 0
  | n + 1 => if S 4 n = 0 then awN S n + 1 else awN S n
/-- how many of the first m are awake at the first g gates -/
def caN (S : Nat → Nat → Nat) (m : Nat) : Nat → Nat
  | 0 => 0
  | g + 1 => caN S m g + cntN S g m
theorem caN_0 (S : Nat → Nat → Nat) : ∀ g, caN S 0 g = 0
  | 0 => rfl
  | g + 1 => by show caN S 0 g + 0 = 0; rw [caN_0 S g]
theorem caN_s (S : Nat → Nat → Nat) (m : Nat) : ∀ g, caN S (m + 1) g = caN S m g + if S 4 m = 0 ∧ S 2 m < g then 1 else 0
  | 0 => by rw [if_neg (by omega)]; rfl
  | g + 1 => by
    have ih := caN_s S m g
    have e : cntN S g (m + 1) = if awk S m g then cntN S g m + 1 else cntN S g m := rfl
    show caN S (m + 1) g + cntN S g (m + 1) = caN S m g + cntN S g m + _
    rw [ih, e]
    by_cases a : S 4 m = 0
    · by_cases b : S 2 m = g
      · rw [if_neg (show ¬ (S 4 m = 0 ∧ S 2 m < g) by omega), if_pos (show awk S m g from ⟨b, a⟩), if_pos (show S 4 m = 0 ∧ S 2 m < g + 1 by omega)]
        omega
      · rw [if_neg (show ¬ awk S m g from fun q => b q.1)]
        by_cases c : S 2 m < g
        · rw [if_pos ⟨a, c⟩, if_pos ⟨a, by omega⟩]
          omega
        · rw [if_neg (fun q => c q.2), if_neg (by omega)]; omega
    · rw [if_neg (show ¬ (S 4 m = 0 ∧ S 2 m < g) from fun q => a q.1), if_neg (show ¬ awk S m g from fun q => a q.2), if_neg (show ¬ (S 4 m = 0 ∧ S 2 m < g + 1) from fun q => a q.1)]; omega
theorem caN_le (S : Nat → Nat → Nat) (g : Nat) : ∀ m, caN S m g ≤ awN S m
  | 0 => by rw [caN_0]; exact Nat.zero_le _
  | m + 1 => by
    have ih := caN_le S g m
    have e : awN S (m + 1) = if S 4 m = 0 then awN S m + 1 else awN S m := rfl
    rw [caN_s, e]
    by_cases a : S 4 m = 0
    · rw [if_pos a]; split <;> omega
    · rw [if_neg a, if_neg (fun q => a q.1)]; omega
theorem caN_all {S : Nat → Nat → Nat} {g : Nat} : ∀ m, (∀ j, j < m → S 2 j < g) → caN S m g = awN S m
  | 0, _ => caN_0 S g
  | m + 1, h => by
    have e : awN S (m + 1) = if S 4 m = 0 then awN S m + 1 else awN S m := rfl
    rw [caN_s, caN_all m (fun j hj => h j (by omega)), e]
    have := h m (by omega)
    by_cases a : S 4 m = 0
    · rw [if_pos a, if_pos ⟨a, this⟩]
    · rw [if_neg a, if_neg (fun q => a q.1)]; omega
theorem awN_le (S : Nat → Nat → Nat) : ∀ n, awN S n ≤ n
  | 0 => Nat.le_refl _
  | n + 1 => by
    have := awN_le S n
    unfold awN
    split <;> omega
theorem cnt_le (S : Nat → Nat → Nat) (g : Nat) : ∀ n, cntN S g n ≤ n
  | 0 => Nat.le_refl _
  | n + 1 => by
    have := cnt_le S g n
    unfold cntN
    split <;> omega
theorem etN_nI {S : Nat → Nat → Nat} (n : Nat) : nI (etN S (n + 1)) = nI (etN S n) + nI (S 5 n) := (nI_add _ _).symm
set_option maxRecDepth 100000 in
theorem mean_cmp_tab : (List.range 73).all (fun a => (List.range 8).all (fun b => decide (Op.cmpValue (FP.dcmp (FP.ddiv (FP.i2d (nI a)) (FP.i2d (nI (b + 1)))) (FP.ddiv (FP.i2d (nI a)) (FP.i2d (nI (b + 1))))) .l = 0))) = true := by decide +kernel
theorem mean_cmp {a b : Nat} (ha : a ≤ 72) (hb : b ≤ 8) (h0 : ¬ b = 0) : Op.cmpValue (FP.dcmp (FP.ddiv (FP.i2d (nI a)) (FP.i2d (nI b))) (FP.ddiv (FP.i2d (nI a)) (FP.i2d (nI b)))) .l = 0 := by
  have h1 := List.all_eq_true.mp mean_cmp_tab a (List.mem_range.mpr (by omega))
  have h2 := of_decide_eq_true (List.all_eq_true.mp h1 (b - 1) (List.mem_range.mpr (by omega)))
  rw [show b - 1 + 1 = b by omega] at h2
  exact h2
theorem mean_cmp0 : Op.cmpValue (FP.dcmp FP.dconst0 FP.dconst0) .l = 0 := by decide +kernel
