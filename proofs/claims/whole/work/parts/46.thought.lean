/-! PURE: thought, by trial of all that can be asked -/
def th_ok (n k w q : Nat) : Bool := match xX8_thought (nI n) (nI k) (nI w) (nI q), xX9_thought (fun _ _ => 0) (nI n) (nI k) (nI w) (nI q) with
  | some a, some b => a == b
  | _, _ => false
set_option maxRecDepth 100000 in
set_option maxHeartbeats 4000000 in
theorem th_tab : (List.range 13).all (fun n => (List.range 13).all fun k => (List.range 3).all fun w => (List.range 2).all fun q => !(decide (2 ≤ n) && decide (k < n)) || th_ok n k w q) = true := by decide +kernel
theorem th_all {n k w q : Nat} (hn : n < 13) (hk : k < 13) (hw : w < 3) (hq : q < 2) (h : 2 ≤ n ∧ k < n) : ∃ r, xX8_thought (nI n) (nI k) (nI w) (nI q) = some r ∧ xX9_thought (fun _ _ => 0) (nI n) (nI k) (nI w) (nI q) = some r := by
  have a := List.all_eq_true.mp (List.all_eq_true.mp (List.all_eq_true.mp (List.all_eq_true.mp th_tab n (List.mem_range.mpr hn)) k (List.mem_range.mpr hk)) w (List.mem_range.mpr hw)) q (List.mem_range.mpr hq)
  simp only [h.1, h.2, decide_true, Bool.and_true, Bool.not_true, Bool.false_or] at a
  unfold th_ok at a
  split at a
  · rename_i x y h1 h2
    exact ⟨x, h1, by rw [h2]; exact congrArg some (eq_of_beq a).symm⟩
  · cases a
theorem op_thought (M : St) (p0 p1 p2 p3 : Int32) : ∃ r, xX8_thought p0 p1 p2 p3 = some r ∧ xX9_thought M p0 p1 p2 p3 = some r := by
  have e : xX9_thought M p0 p1 p2 p3 = xX9_thought (fun _ _ => 0) p0 p1 p2 p3 := rfl
  rw [e]
  by_cases c0 : xX8_within p0 2 12 = 0
  · unfold xX8_thought xX9_thought
    rw [m_in p0 (a := 2) (b := 12) (by decide +kernel) (by decide +kernel)]
    simp only [if_pos c0]
    exact ⟨_, rfl, rfl⟩
  by_cases c1 : xX8_within p1 0 (p0 - 1) = 0
  · unfold xX8_thought xX9_thought
    rw [m_in p0 (a := 2) (b := 12) (by decide +kernel) (by decide +kernel), m_in p1 (a := 0) (b := p0 - 1) (by decide +kernel) rfl]
    simp only [if_neg c0, if_pos c1]
    exact ⟨_, rfl, rfl⟩
  by_cases c2 : xX8_within p2 0 2 = 0
  · unfold xX8_thought xX9_thought
    rw [m_in p0 (a := 2) (b := 12) (by decide +kernel) (by decide +kernel), m_in p1 (a := 0) (b := p0 - 1) (by decide +kernel) rfl, m_in p2 (a := 0) (b := 2) (by decide +kernel) (by decide +kernel)]
    simp only [if_neg c0, if_neg c1, if_pos c2]
    exact ⟨_, rfl, rfl⟩
  by_cases c3 : xX8_within p3 0 1 = 0
  · unfold xX8_thought xX9_thought
    rw [m_in p0 (a := 2) (b := 12) (by decide +kernel) (by decide +kernel), m_in p1 (a := 0) (b := p0 - 1) (by decide +kernel) rfl, m_in p2 (a := 0) (b := 2) (by decide +kernel) (by decide +kernel), m_in p3 (a := 0) (b := 1) (by decide +kernel) (by decide +kernel)]
    simp only [if_neg c0, if_neg c1, if_neg c2, if_pos c3]
    exact ⟨_, rfl, rfl⟩
  have h0 := m_w1 c0
  obtain ⟨n, hn, rfl⟩ := m_nat (n := 12) (x := p0) (b := 12) (by decide) ⟨by have := h0.1; rw [fa_le] at this ⊢; have a : (0 : Int32).toInt = 0 := by decide
                                                                             have b : (2 : Int32).toInt = 2 := by decide
                                                                             omega, h0.2⟩
  have hn2 : 2 ≤ n := (nI_leI (a := 2) (by decide) (by omega)).mp h0.1
  have hs : nI n - 1 = nI (n - 1) := pk_sub (b := 1) (by omega)
  have h1 := m_w1 c1
  rw [hs] at h1
  obtain ⟨k, hk, rfl⟩ := m_nat (n := n - 1) (b := nI (n - 1)) (nI_toInt (by omega)) h1
  obtain ⟨w, hw, rfl⟩ := m_nat (n := 2) (by decide) (m_w1 c2)
  obtain ⟨q, hq, rfl⟩ := m_nat (n := 1) (by decide) (m_w1 c3)
  exact th_all (by omega) (by omega) (by omega) (by omega) ⟨hn2, by omega⟩
