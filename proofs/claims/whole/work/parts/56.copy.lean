/-! PURE: copies of a plain state -/
theorem z_row {A : St} (ho : ok A) : q_zrow (A 8) 4 = true := decide_eq_true (fun i hi => ho.2.2.2.2.2.2.1 i hi)
theorem cp_in {f g : Nat → Int32} {n k : Nat} (h : k < n) : va_cpy f g 0 0 n k = f k := by
  unfold va_cpy
  rw [if_pos ⟨Nat.zero_le k, by omega⟩]
  congr 1
  omega
/-- the row of those that did something, by its loop -/
theorem x5_acted {A : St} (ho : ok A) (T : St) : xX5_copyFrom_h119 A 5000 0 T = some (q_su (q_su (q_su (q_su (q_su (q_su T 8 0 (A 8 0)) 8 1 (A 8 1)) 8 2 (A 8 2)) 8 3 (A 8 3)) 9 0 (A 9 0)) 10 0 (A 10 0)) := by
  have hz : ∀ k, k < 4 → vp_nar .boolean (A 8 k) = A 8 k := fun k hk => by
    have z0 : vp_nar .boolean 0 = 0 := by decide +kernel
    have z1 : vp_nar .boolean 1 = 1 := by decide +kernel
    rcases ho.2.2.2.2.2.2.1 k hk with e | e
    · rw [e, z0]
    · rw [e, z1]
  refine (lp_c (fun n T k => xX5_copyFrom_h119 A n (nI k) T) (fun k T => q_su T 8 k (A 8 k)) (fun T => some (q_su (q_su T 9 0 (A 9 0)) 10 0 (A 10 0))) 4 (fun _ _ => True) T (fun n k T hk _ => ⟨?_, trivial⟩) (fun n T _ => ?_) trivial 5000 (by decide)).trans ?_
  · rw [xX5_copyFrom_h119_s, if_neg (n4 hk), if_pos (m_ib hk (by decide)), nI_clamp (show k < 2 ^ 31 by omega), nI_1, hz k hk]
    rfl
  · rw [xX5_copyFrom_h119_s, if_pos (by decide)]
    rfl
  · rw [fN_s, fN_s, fN_s, fN_s, fN_0]
theorem x5_copy {A : St} (ho : ok A) (X : St) : ∃ T, xX5_copyFrom A X = some T ∧ pe T A := by
  unfold xX5_copyFrom
  have c0 : (0 : Int32).toNatClampNeg = 0 := by decide
  have c4 : (4 : Int32).toNatClampNeg = 4 := by decide
  have c8 : (8 : Int32).toNatClampNeg = 8 := by decide
  simp only [q_let, x5_acted ho, c0, c4, c8]
  refine ⟨_, rfl, fun r k hr hk => ?_, fun r k h5 hr hk => ?_, ?_, ?_⟩
  · have : r = 0 ∨ r = 1 ∨ r = 2 ∨ r = 3 ∨ r = 4 := by omega
    rcases this with rfl | rfl | rfl | rfl | rfl <;> simp [su_at, sr_at, cp_in hk]
  · have : r = 5 ∨ r = 6 ∨ r = 7 ∨ r = 8 := by omega
    rcases this with rfl | rfl | rfl | rfl
    · simp [su_at, sr_at, cp_in hk]
    · simp [su_at, sr_at, cp_in hk]
    · simp [su_at, sr_at, cp_in hk]
    · have : k = 0 ∨ k = 1 ∨ k = 2 ∨ k = 3 := by omega
      rcases this with rfl | rfl | rfl | rfl <;> simp [su_at]
  · simp [su_at, sr_at]
  · simp [su_at, sr_at]
/-- the outcome at its start -/
theorem x3_start {A : St} (ho : ok A) (O X : St) : ∃ O' T, xX3_startFrom A O X = some (O', T) ∧ pe T A ∧ O' 2 0 = 0 ∧ O' 3 0 = -6 ∧ O' 4 0 = -6 ∧ O' 5 0 = 0 ∧ O' 6 0 = -6 ∧ O' 7 0 = -6 := by
  obtain ⟨T, e, h⟩ := x5_copy ho X
  unfold xX3_startFrom
  rw [e, Option.bind_some]
  simp only [q_let]
  exact ⟨_, T, rfl, h, by simp [su_at], by simp [su_at], by simp [su_at], by simp [su_at], by simp [su_at], by simp [su_at]⟩
