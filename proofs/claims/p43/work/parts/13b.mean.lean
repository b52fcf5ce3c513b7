set_option maxRecDepth 100000 in
theorem mean_tab : (List.range 73).all (fun a => (List.range 8).all (fun b => decide (FP.ddiv (FP.i2d (nI a)) (FP.i2d (nI (b + 1))) &&& 0x7fffffffffffffff ≤ 0x7ff0000000000000))) = true := by decide +kernel
theorem mean_ok {a b : Nat} (ha : a ≤ 72) (hb : b ≤ 8) (h0 : ¬ b = 0) : vf_n64 (FP.ddiv (FP.i2d (nI a)) (FP.i2d (nI b))) := by
  have h1 := List.all_eq_true.mp mean_tab a (List.mem_range.mpr (by omega))
  have h2 := of_decide_eq_true (List.all_eq_true.mp h1 (b - 1) (List.mem_range.mpr (by omega)))
  rw [show b - 1 + 1 = b by omega] at h2
  exact h2
