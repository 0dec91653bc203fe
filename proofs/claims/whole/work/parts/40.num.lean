/-! PURE: numbers, stores, the small tests -/
theorem m_ib {k n : Nat} (h : k < n) (hn : n < 2 ^ 31) : q_ib (nI k) n = true := decide_eq_true (nI_in h hn)
theorem m_of {x : Int32} {n : Nat} (h : q_ib x n = true) (hn : n < 2 ^ 31) : ∃ j, j < n ∧ x = nI j := vp_in_of (q_in h) hn
theorem su_at (S : St) (r k : Nat) (v : Int32) (r' k' : Nat) : q_su S r k v r' k' = if r' = r ∧ k' = k then v else S r' k' := by
  unfold q_su upd
  by_cases h1 : r' = r
  · subst h1
    by_cases h2 : k' = k <;> simp [h2]
  · simp [h1]
theorem su_row {S : St} {r k : Nat} {v : Int32} {r' : Nat} (h : r' ≠ r) : q_su S r k v r' = S r' := by unfold q_su; rw [if_neg h]
theorem sr_at (S : St) (r : Nat) (f : Nat → Int32) (r' k' : Nat) : q_sr S r f r' k' = if r' = r then f k' else S r' k' := by
  unfold q_sr
  by_cases h1 : r' = r <;> simp [h1]
theorem fa_lt (a b : Int32) : a < b ↔ a.toInt < b.toInt := Int32.lt_iff_toInt_lt
theorem fa_le (a b : Int32) : a ≤ b ↔ a.toInt ≤ b.toInt := Int32.le_iff_toInt_le
theorem fa_eq (a b : Int32) : a = b ↔ a.toInt = b.toInt := Int32.toInt_inj.symm
theorem fa_lt64 (a b : Int64) : a < b ↔ a.toInt < b.toInt := Int64.lt_iff_toInt_lt
theorem fa_le64 (a b : Int64) : a ≤ b ↔ a.toInt ≤ b.toInt := Int64.le_iff_toInt_le
theorem m_within (x a b : Int32) : xX8_within x a b = if a ≤ x ∧ x ≤ b then 1 else 0 := by
  unfold xX8_within
  by_cases h1 : x < a
  · have : ¬ a ≤ x := fun h => by rw [fa_lt] at h1; rw [fa_le] at h; omega
    simp [h1, this]
  · have h1' : a ≤ x := by rw [fa_lt] at h1; rw [fa_le]; omega
    by_cases h2 : b < x
    · have : ¬ x ≤ b := fun h => by rw [fa_lt] at h2; rw [fa_le] at h; omega
      simp [h1, h2, this]
    · have h2' : x ≤ b := by rw [fa_lt] at h2; rw [fa_le]; omega
      simp [h1, h2, h1', h2']
theorem m_cmp_lt (x y : Int64) : (lg_cmp x y < 0) ↔ x < y := by
  have h := lg_cmp_ge x y
  rw [fa_lt, fa_lt64]
  rw [fa_le, fa_le64] at h
  have h0 : (0 : Int32).toInt = 0 := by decide
  rw [h0] at h ⊢
  omega
theorem m_cmp_gt (x y : Int64) : (0 < lg_cmp x y) ↔ y < x := by
  have h := lg_cmp_le x y
  rw [fa_lt, fa_lt64]
  rw [fa_le, fa_le64] at h
  have h0 : (0 : Int32).toInt = 0 := by decide
  rw [h0] at h ⊢
  omega
theorem m_wide (x : Int32) : x.toInt64.toInt = x.toInt := by simp
theorem m_in (x : Int32) {a b : Int32} {A B : Int64} (ha : A = a.toInt64) (hb : B = b.toInt64) : xX9_in x.toInt64 A B = xX8_within x a b := by
  subst ha; subst hb
  unfold xX9_in xX8_within
  simp only [m_cmp_lt, m_cmp_gt]
  simp only [fa_lt64, fa_lt, m_wide]
theorem m_isP (x : Int32) : xX9_isPerson x = xX8_isPerson x := m_in x (by decide +kernel) (by decide +kernel)
theorem m_isR (x : Int32) : xX9_isReader x = xX8_isReader x := m_in x (by decide +kernel) (by decide +kernel)
theorem m_isC (x : Int32) : xX9_isCell x = xX8_isCell x := m_in x (by decide +kernel) (by decide +kernel)
theorem m_w0 {x a b : Int32} (h : xX8_within x a b = 0) : ¬ (a ≤ x ∧ x ≤ b) := by
  rw [m_within] at h
  intro h2
  rw [if_pos h2] at h
  exact absurd h (by decide)
theorem m_w1 {x a b : Int32} (h : ¬ xX8_within x a b = 0) : a ≤ x ∧ x ≤ b := by
  rw [m_within] at h
  by_cases h2 : a ≤ x ∧ x ≤ b
  · exact h2
  · rw [if_neg h2] at h; exact absurd rfl h
theorem m_nat {x : Int32} {n : Nat} {b : Int32} (hb : b.toInt = n) (h : 0 ≤ x ∧ x ≤ b) : ∃ j, j ≤ n ∧ x = nI j := by
  refine nI_of2 (M := b) hb (fun h3 => ?_) h.2
  have h1 := h.1
  rw [fa_le] at h1; rw [fa_lt] at h3
  omega
theorem m_P {x : Int32} (h : ¬ xX8_isPerson x = 0) : ∃ j, j < 8 ∧ x = nI j := by
  obtain ⟨j, h1, h2⟩ := m_nat (n := 7) (by decide) (m_w1 h)
  exact ⟨j, by omega, h2⟩
theorem m_R {x : Int32} (h : ¬ xX8_isReader x = 0) : ∃ j, j < 4 ∧ x = nI j := by
  obtain ⟨j, h1, h2⟩ := m_nat (n := 3) (by decide) (m_w1 h)
  exact ⟨j, by omega, h2⟩
