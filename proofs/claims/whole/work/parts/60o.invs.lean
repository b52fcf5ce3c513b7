theorem inv_addGate {S : Nat → Nat → Nat} (h : Inv S) (x : Int32) : Inv (rAddGate S x).2.2 := by
  unfold rAddGate
  split
  · rename_i q
    obtain ⟨g, hg, rfl⟩ := in_nI (by decide) q (by decide)
    rw [cl_nI (show g < 2 ^ 31 by omega)]
    split
    · rename_i r
      have h0 := h.gates
      refine ⟨?_, h.geese, h.guests, fun j => ?_, h.keep, fun j hj => ?_, h.mood, h.mood1, h.rest, h.own, fun j => ?_, h.has, h.brave, h.back⟩
      · show S 0 0 + 1 ≤ 6; omega
      · have := h.rank j; show (if j = S 0 0 then g else S 1 j) ≤ 9; split <;> omega
      · have := h.keepIn j hj; show S 2 j < S 0 0 + 1; omega
      · have := h.went j; show S 7 j ≤ S 0 0 + 1; omega
    · exact h
  · exact h
theorem inv_setRank {S : Nat → Nat → Nat} (h : Inv S) (x y : Int32) : Inv (rSetRank S x y).2.2 := by
  unfold rSetRank
  split
  · split
    · rename_i q
      obtain ⟨g, hg, rfl⟩ := in_nI (by decide) q (by decide)
      rw [cl_nI (show g < 2 ^ 31 by omega)]
      refine ⟨h.gates, h.geese, h.guests, fun j => ?_, h.keep, h.keepIn, h.mood, h.mood1, h.rest, h.own, h.went, h.has, h.brave, h.back⟩
      have := h.rank j; show (if j = cl x then g else S 1 j) ≤ 9; split <;> omega
    · exact h
  · exact h
theorem inv_give {S : Nat → Nat → Nat} (h : Inv S) (x y : Int32) : Inv (rGive S x y).2.2 := by
  unfold rGive
  split
  · split
    · exact inv_corn h _ (Nat.min_le_left _ _)
    · exact h
  · exact h
theorem inv_bribe {S : Nat → Nat → Nat} (h : Inv S) (x y : Int32) : Inv (rBribe S x y).2.2 := by
  unfold rBribe
  split
  · split
    · exact inv_payS h _ _
    · exact h
  · exact h
theorem inv_pass {S : Nat → Nat → Nat} (h : Inv S) (x : Int32) : Inv (rPass S x).2.2 := by
  unfold rPass
  split
  · exact inv_beatsN h _
  · exact h
theorem inv_lead {S : Nat → Nat → Nat} (h : Inv S) (x y : Int32) : Inv (rLead S x y).2.2 := by
  unfold rLead
  split
  · rename_i q
    have h0 := h.gates
    obtain ⟨g, hg, rfl⟩ := lt_nI (by omega) q.2
    rw [cl_nI (show g < 2 ^ 31 by omega)]
    refine ⟨h.gates, h.geese, h.guests, h.rank, fun j => ?_, fun j hj => ?_, h.mood, h.mood1, h.rest, h.own, h.went, h.has, h.brave, h.back⟩
    · have := h.keep j; show (if j = cl x then g else S 2 j) ≤ 6; split <;> omega
    · have := h.keepIn j hj; show (if j = cl x then g else S 2 j) < S 0 0; split <;> omega
  · exact h
