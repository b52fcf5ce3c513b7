/-! what the law's entry gives -/
theorem vk_start {own tx : String} {k : Nat} {A : Array Value} {s : State} (h : (Cond.stringRef own k tx).before A s = true) : ∃ a, vk_R own k tx a s := by
  cases hc : s.vm.findClass own with
  | none => simp [Cond.before, Cond.holds, Cond.value, hc] at h
  | some cc =>
    obtain ⟨k1, cf, i, a, -, -, -, -, -, he⟩ := Cond.stringRef_spec hc h
    exact ⟨a, vk_R.of h he⟩
theorem arr_start {A : Array Value} {s : State} (h : (Cond.arrayClass .int).before A s = true) : ∃ cI : ClassId, ArrOfT s cI .int ∧ va_RA s cI .int := by
  obtain ⟨cA, kA, comp, h1, h2, h3⟩ := Cond.arrayClass_spec h
  exact ⟨cA, fun n z => ⟨fun k h => (by cases h), kA, h2, comp, h3⟩, h1⟩
theorem arrA_start {A : Array Value} {s : State} (h : (Cond.arrayOver (.array .int)).before A s = true) : ∃ cA : ClassId, ArrOfT s cA (.array .int) ∧ va_RA s cA (.array .int) := by
  obtain ⟨comp, c, k, h1, h2, h3, h4, h5⟩ := arrayOverA_spec h
  exact ⟨c, fun n z => ⟨fun q h => (by cases h), k, h3, comp, h4⟩, h5⟩
theorem hst_start {l : Launch} (h : l.flags = flags0) : l.stackTraces = false := by
  unfold Launch.stackTraces
  rw [h]
  decide +kernel
theorem lw_w (i : Nat) {w : Cond} (h : lw_tbl[i]? = some w) {A : Array Value} {s : State} (hts : ∀ w ∈ lw_tbl, w.before A s = true) : w.before A s = true := hts w (List.mem_of_getElem? h)
theorem kc_start {A : Array Value} {s : State} (hts : ∀ w ∈ lw_tbl, w.before A s = true) : ∃ (D : va_G) (cI cA : ClassId), KB D cI cA s ∧ KC D [(cI, .int)] s := by
  obtain ⟨c0, i0, k0⟩ := u_known (C := RX0) (T := TX0) (N := 7) (n := 7) hts inX0 (lw_w 25 (by decide +kernel) hts)
  obtain ⟨c1, i1, k1⟩ := u_known (C := RX1) (T := TX1) (N := 5) (n := 5) hts inX1 (lw_w 31 (by decide +kernel) hts)
  obtain ⟨c2, i2, k2⟩ := u_known (C := RX2) (T := TX2) (N := 6) (n := 6) hts inX2 (lw_w 59 (by decide +kernel) hts)
  obtain ⟨c3, i3, k3⟩ := u_known (C := RX3) (T := TX3) (N := 2) (n := 2) hts inX3 (lw_w 17 (by decide +kernel) hts)
  obtain ⟨c4, i4, k4⟩ := u_known (C := RX4) (T := TX4) (N := 6) (n := 6) hts inX4 (lw_w 587 (by decide +kernel) hts)
  obtain ⟨cI, hI1, hI2⟩ := arr_start (lw_w 57 (by decide +kernel) hts)
  have hO : (Cond.arrayOver (.array .int)).before A s = true := lw_w 537 (by decide +kernel) hts
  obtain ⟨cA, hA1, hA2⟩ := arrA_start hO
  have hS : KS (fun k => if k = 0 then c0 else if k = 1 then c1 else if k = 2 then c2 else if k = 3 then c3 else c4, fun k => if k = 0 then i0 else if k = 1 then i1 else if k = 2 then i2 else if k = 3 then i3 else i4) cI cA s := by
    refine ⟨⟨⟨?_, ?_⟩, va_Nw.of rfl (lw_w 282 (by decide +kernel) hts)⟩, AOA.of hO⟩
    · intro k q hq
      match k, hq with
      | 0, hq => cases hq; exact k0
      | 1, hq => cases hq; exact k1
      | 2, hq => cases hq; exact k2
      | 3, hq => cases hq; exact k3
      | 4, hq => cases hq; exact k4
      | k + 5, hq => simp [vwCl] at hq
    · intro k q hq
      match k, hq with
      | 0, hq => cases hq; exact ⟨hI1, hI2⟩
      | 1, hq => cases hq; exact ⟨hA1, hA2⟩
      | k + 2, hq => simp at hq
  exact ⟨_, cI, cA, ⟨hS, va_Nw.of rfl (lw_w 588 (by decide +kernel) hts)⟩, hS.i, va_Nw.of rfl (lw_w 32 (by decide +kernel) hts), va_Nw.of rfl (lw_w 60 (by decide +kernel) hts), va_Nw.of rfl (lw_w 26 (by decide +kernel) hts)⟩
theorem kx_start {A : Array Value} {s : State} (hts : ∀ w ∈ lw_tbl, w.before A s = true) (hgv : (Jvm.Cond.and given_1 narrow_1).before A s = true) : KXA (fun q => s.heap.size ≤ q) s := by
  have hfl := flat_of_before _ hgv
  have hA : ∀ a : Nat, a < s.heap.size → ¬ s.heap.size ≤ a := fun a h => Nat.not_le.mpr h
  exact ⟨vx_Zqof (lw_w 170 (by decide +kernel) hts) (lw_w 9 (by decide +kernel) hts) (hfl (.isRef (.static Bundle.tN "UNASSIGNED_STACK" Bundle.steD)) (by decide +kernel)) hA, vx_Zqof (lw_w 172 (by decide +kernel) hts) (lw_w 9 (by decide +kernel) hts) (hfl (.isRef (.static Bundle.tN "SUPPRESSED_SENTINEL" Bundle.listD)) (by decide +kernel)) hA, vk_start (lw_w 335 (by decide +kernel) hts), vk_start (lw_w 184 (by decide +kernel) hts), vk_start (lw_w 522 (by decide +kernel) hts), va_Nw.of rfl (lw_w 328 (by decide +kernel) hts), va_Nw.of rfl (lw_w 145 (by decide +kernel) hts), va_Nw.of rfl (lw_w 515 (by decide +kernel) hts), va_Nw.of rfl (lw_w 147 (by decide +kernel) hts), va_Nw.of rfl (lw_w 149 (by decide +kernel) hts), va_Nw.of rfl (lw_w 151 (by decide +kernel) hts)⟩
