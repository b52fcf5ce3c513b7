theorem exq_s1 {A E : String} {n : Nat} (h : exq [A] n = some E) : n = 1 ∧ E = A := by
  match n, h with
  | 1, h => exact ⟨rfl, (Option.some.inj h).symm⟩
theorem exq_s2 {A B E : String} {n : Nat} (h : exq [A, B] n = some E) : (n = 1 ∧ E = A) ∨ (n = 2 ∧ E = B) := by
  match n, h with
  | 1, h => exact Or.inl ⟨rfl, (Option.some.inj h).symm⟩
  | 2, h => exact Or.inr ⟨rfl, (Option.some.inj h).symm⟩
theorem exq_s3 {A B C E : String} {n : Nat} (h : exq [A, B, C] n = some E) : (n = 1 ∧ E = A) ∨ (n = 2 ∧ E = B) ∨ (n = 3 ∧ E = C) := by
  match n, h with
  | 1, h => exact Or.inl ⟨rfl, (Option.some.inj h).symm⟩
  | 2, h => exact Or.inr (Or.inl ⟨rfl, (Option.some.inj h).symm⟩)
  | 3, h => exact Or.inr (Or.inr ⟨rfl, (Option.some.inj h).symm⟩)
theorem r1_le (n : Nat) (x v : Int32) : (r1 n x v).1 ≤ 1 := by unfold r1; split <;> simp
theorem r1_no {n : Nat} {x v : Int32} (h : (r1 n x v).1 = 1) : ¬ okI n x := fun q => by rw [r1, if_pos q] at h; exact absurd h (by simp)
theorem rAddGate_le (S : Nat → Nat → Nat) (x : Int32) : (rAddGate S x).1 ≤ 2 := by unfold rAddGate ; (repeat' split) <;> simp
theorem rAddGate_no {S : Nat → Nat → Nat} {x : Int32} {k : Nat} : (rAddGate S x).1 = k + 1 → (rAddGate S x).2.2 = S := by unfold rAddGate; (repeat' split) <;> intro h <;> first | rfl | exact absurd h (by simp)
theorem rAddGoose_le (S : Nat → Nat → Nat) (x y : Int32) : (rAddGoose S x y).1 ≤ 3 := by unfold rAddGoose ; (repeat' split) <;> simp
theorem rAddGoose_no {S : Nat → Nat → Nat} {x y : Int32} {k : Nat} : (rAddGoose S x y).1 = k + 1 → (rAddGoose S x y).2.2 = S := by unfold rAddGoose; (repeat' split) <;> intro h <;> first | rfl | exact absurd h (by simp)
theorem rArrive_le (S : Nat → Nat → Nat) (x y z : Int32) : (rArrive S x y z).1 ≤ 2 := by unfold rArrive ; (repeat' split) <;> simp
theorem rArrive_no {S : Nat → Nat → Nat} {x y z : Int32} {k : Nat} : (rArrive S x y z).1 = k + 1 → (rArrive S x y z).2.2 = S := by unfold rArrive; (repeat' split) <;> intro h <;> first | rfl | exact absurd h (by simp)
theorem rSetRank_le (S : Nat → Nat → Nat) (x y : Int32) : (rSetRank S x y).1 ≤ 2 := by unfold rSetRank ; (repeat' split) <;> simp
theorem rSetRank_no {S : Nat → Nat → Nat} {x y : Int32} {k : Nat} : (rSetRank S x y).1 = k + 1 → (rSetRank S x y).2.2 = S := by unfold rSetRank; (repeat' split) <;> intro h <;> first | rfl | exact absurd h (by simp)
theorem rLead_le (S : Nat → Nat → Nat) (x y : Int32) : (rLead S x y).1 ≤ 1 := by unfold rLead ; (repeat' split) <;> simp
theorem rLead_no {S : Nat → Nat → Nat} {x y : Int32} {k : Nat} : (rLead S x y).1 = k + 1 → (rLead S x y).2.2 = S := by unfold rLead; (repeat' split) <;> intro h <;> first | rfl | exact absurd h (by simp)
theorem rGive_le (S : Nat → Nat → Nat) (x y : Int32) : (rGive S x y).1 ≤ 2 := by unfold rGive ; (repeat' split) <;> simp
theorem rGive_no {S : Nat → Nat → Nat} {x y : Int32} {k : Nat} : (rGive S x y).1 = k + 1 → (rGive S x y).2.2 = S := by unfold rGive; (repeat' split) <;> intro h <;> first | rfl | exact absurd h (by simp)
theorem rBribe_le (S : Nat → Nat → Nat) (x y : Int32) : (rBribe S x y).1 ≤ 2 := by unfold rBribe ; (repeat' split) <;> simp
theorem rBribe_no {S : Nat → Nat → Nat} {x y : Int32} {k : Nat} : (rBribe S x y).1 = k + 1 → (rBribe S x y).2.2 = S := by unfold rBribe; (repeat' split) <;> intro h <;> first | rfl | exact absurd h (by simp)
theorem rPass_le (S : Nat → Nat → Nat) (x : Int32) : (rPass S x).1 ≤ 1 := by unfold rPass ; (repeat' split) <;> simp
theorem rPass_no {S : Nat → Nat → Nat} {x : Int32} {k : Nat} : (rPass S x).1 = k + 1 → (rPass S x).2.2 = S := by unfold rPass; (repeat' split) <;> intro h <;> first | rfl | exact absurd h (by simp)
theorem rHiss_le (S : Nat → Nat → Nat) (x y : Int32) : (rHiss S x y).1 ≤ 2 := by unfold rHiss ; (repeat' split) <;> simp
theorem rAfter_le (S : Nat → Nat → Nat) (x : Int32) : (rAfter S x).1 ≤ 1 := by unfold rAfter ; (repeat' split) <;> simp
theorem rBar_le (S : Nat → Nat → Nat) (x y : Int32) : (rBar S x y).1 ≤ 1 := by unfold rBar ; (repeat' split) <;> simp
