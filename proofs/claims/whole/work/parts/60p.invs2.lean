theorem inv_addGoose {S : Nat → Nat → Nat} (h : Inv S) (x y : Int32) : Inv (rAddGoose S x y).2.2 := by
  unfold rAddGoose
  split
  · rename_i q1
    have h0 := h.gates
    obtain ⟨g, hg, rfl⟩ := lt_nI (by omega) q1
    rw [cl_nI (show g < 2 ^ 31 by omega)]
    split
    · rename_i q2
      obtain ⟨t, ht, rfl⟩ := in_nI (by decide) q2 (by decide)
      rw [cl_nI (show t < 2 ^ 31 by omega)]
      split
      · have h1 := h.geese
        refine ⟨h.gates, ?_, h.guests, h.rank, fun j => ?_, fun j hj => ?_, fun j => ?_, fun j hj => ?_, h.rest, h.own, h.went, h.has, h.brave, h.back⟩
        · show S 0 1 + 1 ≤ 8; omega
        · have := h.keep j; show (if j = S 0 1 then g else S 2 j) ≤ 6; split <;> omega
        · have hj : j < S 0 1 + 1 := hj
          show (if j = S 0 1 then g else S 2 j) < S 0 0
          split
          · omega
          · exact h.keepIn j (by omega)
        · have := h.mood j; show (if j = S 0 1 then t else S 3 j) ≤ 9; split <;> omega
        · have hj : j < S 0 1 + 1 := hj
          show 1 ≤ (if j = S 0 1 then t else S 3 j)
          split
          · omega
          · exact h.mood1 j (by omega)
      · exact h
    · exact h
  · exact h
theorem inv_arrive {S : Nat → Nat → Nat} (h : Inv S) (x y z : Int32) : Inv (rArrive S x y z).2.2 := by
  unfold rArrive
  split
  · rename_i q
    obtain ⟨r, hr, rfl⟩ := in_nI (by decide) q.1 (by decide)
    obtain ⟨t, ht, rfl⟩ := in_nI (by decide) q.2.1 (by decide)
    obtain ⟨u, hu, rfl⟩ := in_nI (by decide) q.2.2 (by decide)
    rw [cl_nI (show r < 2 ^ 31 by omega), cl_nI (show t < 2 ^ 31 by omega), cl_nI (show u < 2 ^ 31 by omega)]
    split
    · have h1 := h.guests
      refine ⟨h.gates, h.geese, ?_, h.rank, h.keep, h.keepIn, h.mood, h.mood1, h.rest, fun j => ?_, h.went, fun j => ?_, fun j => ?_, h.back⟩
      · show S 0 2 + 1 ≤ 8; omega
      · have := h.own j; show (if j = S 0 2 then r else S 6 j) ≤ 9; split <;> omega
      · have := h.has j; show (if j = S 0 2 then u else S 8 j) ≤ 20; split <;> omega
      · have := h.brave j; show (if j = S 0 2 then t else S 9 j) ≤ 20; split <;> omega
    · exact h
  · exact h
