/-! small rows that others need -/
theorem narB {b : Prop} [Decidable b] : narrow .boolean (.int (bI b)) = .int (bI b) := by
  show narrow .boolean (.int (if b then (1 : Int32) else 0)) = .int (if b then (1 : Int32) else 0)
  split <;> rfl
theorem P_eq {D : va_G} {cl : List vw_C} {w w' : va_W} {H : Heap} (e : w = w') (h : va_P D cl w H) : va_P D cl w' H := e ▸ h
theorem D_eq {A : Nat → Prop} {w w' : va_W} (e : w = w') (h : va_D A w) : va_D A w' := e ▸ h
theorem nI_ne_m1 {b : Nat} (hb : b < 2 ^ 31) : ¬ nI b = -1 := by
  intro h
  have h1 := congrArg Int32.toInt h
  rw [nI_toInt hb] at h1
  have h2 : (-1 : Int32).toInt = -1 := by decide
  rw [h2] at h1
  omega
theorem setf_k (S : Nat → Nat → Nat) (f k v : Nat) : setf S f k v f k = v := by rw [setf_at, if_pos ⟨rfl, rfl⟩]
theorem pay_k (S : Nat → Nat → Nat) (v k : Nat) : payS S v k 3 k = max 1 (S 3 k - 1) := by
  show (if k = k then max 1 (S 3 k - 1) else S 3 k) = _
  rw [if_pos rfl]
