/-! PURE: the small calls -/
theorem op_person {S0 M : St} (h : pe S0 M) (ho : ok S0) (p0 p1 p2 : Int32) : ∃ r S0' M', xX8_person p0 p1 p2 S0 = some (r, S0') ∧ xX9_person p0 p1 p2 M = some (r, M') ∧ pe S0' M' ∧ ok S0' ∧ ∀ q, 11 ≤ q → M' q = M q := by
  unfold xX8_person xX9_person
  rw [m_isP, m_in p1 (a := 0) (b := 99) (by decide +kernel) (by decide +kernel), m_in p2 (a := 0) (b := 99) (by decide +kernel) (by decide +kernel)]
  by_cases c1 : xX8_isPerson p0 = 0
  · simp only [if_pos c1]
    exact ⟨_, _, _, rfl, rfl, h, ho, fun _ _ => rfl⟩
  by_cases c2 : xX8_within p1 0 99 = 0
  · simp only [if_neg c1, if_pos c2]
    exact ⟨_, _, _, rfl, rfl, h, ho, fun _ _ => rfl⟩
  by_cases c3 : xX8_within p2 0 99 = 0
  · simp only [if_neg c1, if_neg c2, if_pos c3]
    exact ⟨_, _, _, rfl, rfl, h, ho, fun _ _ => rfl⟩
  obtain ⟨j, hj, rfl⟩ := m_P c1
  have hib : q_ib (nI j) 8 = true := m_ib hj (by decide)
  have hcl : (nI j).toNatClampNeg = j := nI_clamp (by omega)
  simp only [if_neg c1, if_neg c2, if_neg c3, if_pos hib, q_let, hcl]
  refine ⟨_, _, _, rfl, ?_, (h.su 0 j p1).su 1 j p2, ?_, fun q hq => ?_⟩
  · rw [h.1 0 j (by omega) hj, h.1 1 j (by omega) hj]
  · refine (ho.su 0 j p1 (fun _ => m_w1 c2) (by omega) (by omega) (by omega) (by omega) (by omega) (by omega) (by omega) (by omega)).su 1 j p2 (by omega) (fun _ => m_w1 c3) (by omega) (by omega) (by omega) (by omega) (by omega) (by omega) (by omega)
  · rw [su_row (by omega), su_row (by omega)]
theorem op_reader {S0 M : St} (h : pe S0 M) (ho : ok S0) (p0 p1 p2 : Int32) : ∃ r S0' M', xX8_reader p0 p1 p2 S0 = some (r, S0') ∧ xX9_reader p0 p1 p2 M = some (r, M') ∧ pe S0' M' ∧ ok S0' ∧ ∀ q, 11 ≤ q → M' q = M q := by
  unfold xX8_reader xX9_reader
  rw [m_isR, m_isC, m_in p2 (a := 0) (b := 9) (by decide +kernel) (by decide +kernel)]
  by_cases c1 : xX8_isReader p0 = 0
  · simp only [if_pos c1]
    exact ⟨_, _, _, rfl, rfl, h, ho, fun _ _ => rfl⟩
  by_cases c2 : xX8_isCell p1 = 0
  · simp only [if_neg c1, if_pos c2]
    exact ⟨_, _, _, rfl, rfl, h, ho, fun _ _ => rfl⟩
  by_cases c3 : xX8_within p2 0 9 = 0
  · simp only [if_neg c1, if_neg c2, if_pos c3]
    exact ⟨_, _, _, rfl, rfl, h, ho, fun _ _ => rfl⟩
  obtain ⟨j, hj, rfl⟩ := m_R c1
  have hib : q_ib (nI j) 4 = true := m_ib hj (by decide)
  have hcl : (nI j).toNatClampNeg = j := nI_clamp (by omega)
  have hz : vp_nar .boolean 0 = 0 := by decide +kernel
  simp only [if_neg c1, if_neg c2, if_neg c3, if_pos hib, q_let, hcl, hz]
  refine ⟨_, _, _, rfl, ?_, ((h.su 5 j p1).su 6 j p2).su 8 j 0, ?_, fun q hq => ?_⟩
  · rw [h.2.1 5 j (by omega) (by omega) hj]
  · exact ((ho.su 5 j p1 (by omega) (by omega) (by omega) (fun _ => m_w1 c2) (by omega) (by omega) (by omega) (by omega) (by omega)).su 6 j p2 (by omega) (by omega) (by omega) (by omega) (fun _ => m_w1 c3) (by omega) (by omega) (by omega) (by omega)).su 8 j 0 (by omega) (by omega) (by omega) (by omega) (by omega) (by omega) (fun _ => Or.inl rfl) (by omega) (by omega)
  · rw [su_row (by omega), su_row (by omega), su_row (by omega)]
theorem op_melt {S0 M : St} (h : pe S0 M) (ho : ok S0) (p0 : Int32) : ∃ r S0' M', xX8_melt p0 S0 = some (r, S0') ∧ xX9_melt p0 M = some (r, M') ∧ pe S0' M' ∧ ok S0' ∧ ∀ q, 11 ≤ q → M' q = M q := by
  unfold xX8_melt xX9_melt
  rw [m_in p0 (a := 1) (b := 9) (by decide +kernel) (by decide +kernel)]
  by_cases c1 : xX8_within p0 1 9 = 0
  · simp only [if_pos c1]
    exact ⟨_, _, _, rfl, rfl, h, ho, fun _ _ => rfl⟩
  simp only [if_neg c1, q_let]
  refine ⟨_, _, _, rfl, ?_, h.su 9 0 p0, ?_, fun q hq => ?_⟩
  · rw [h.2.2.1]
  · exact ho.su 9 0 p0 (by omega) (by omega) (by omega) (by omega) (by omega) (by omega) (by omega) (fun _ => m_w1 c1) (by omega)
  · rw [su_row (by omega)]
theorem op_say {S1 M : St} (h : pd S1 M) (p0 : Int32) : ∃ r S1' M', xX8_say p0 S1 = some (r, S1') ∧ xX9_say p0 M = some (r, M') ∧ pd S1' M' ∧ ∀ q, q ≠ 15 → q ≠ 16 → M' q = M q := by
  obtain ⟨h1, h2, n, hn, h3, h4⟩ := id h
  have h5 : M 16 0 = nI n := by rw [← h1, h3]
  unfold xX8_say xX9_say
  rw [m_in p0 (a := 33) (b := 126) (by decide +kernel) (by decide +kernel)]
  by_cases c1 : xX8_within p0 33 126 = 0
  · simp only [if_pos c1]
    exact ⟨_, _, _, rfl, rfl, h, fun _ _ _ => rfl⟩
  unfold xX4_append
  by_cases c2 : n = 60
  · subst c2
    have e1 : ¬ S1 1 0 < 60 := by rw [h3]; decide
    have e2 : M 16 0 = 60 := by rw [h5]; decide
    simp only [if_neg c1, if_neg e1, if_pos e2, Option.bind_some, if_true]
    exact ⟨_, _, _, rfl, rfl, h, fun _ _ _ => rfl⟩
  · have hn2 : n < 60 := by omega
    have e1 : nI n < 60 := nI_lt (b := 60) hn2 (by decide)
    have e2 : ¬ nI n = 60 := fun q => c2 ((nI_eq (b := 60) (by omega) (by decide)).mp q)
    have e3 : q_ib (nI n) 60 = true := m_ib hn2 (by decide)
    have hcl : (nI n).toNatClampNeg = n := nI_clamp (by omega)
    simp only [if_neg c1, if_pos e1, if_neg e2, if_pos e3, q_let, Option.bind_some, h3, h5, hcl]
    have e5 : q_su S1 0 n p0 1 0 = nI n := by rw [su_row (by omega), h3]
    have e6 : q_su M 15 n p0 16 0 = nI n := by rw [su_row (by omega), h5]
    rw [e5, e6, nI_1]
    refine ⟨nI (n + 1), q_su (q_su S1 0 n p0) 1 0 (nI (n + 1)), q_su (q_su M 15 n p0) 16 0 (nI (n + 1)), ?_, ?_, ?_, ?_⟩
    · simp [su_at]
    · simp [su_at]
    · refine ⟨by simp [su_at], fun k hk => ?_, n + 1, by omega, by simp [su_at], fun k hk => ?_⟩
      · simp only [su_at]
        by_cases e : k = n
        · simp [e]
        · simp [e]; exact h2 k hk
      · simp only [su_at]
        by_cases e : k = n
        · simp [e]; exact m_w1 c1
        · simp [e]; exact h4 k (by omega)
    · intro q a b
      rw [su_row b, su_row a]
theorem op_wipe {S1 M : St} (h : pd S1 M) : ∃ r S1' M', xX8_wipe S1 = some (r, S1') ∧ xX9_wipe M = some (r, M') ∧ pd S1' M' ∧ ∀ q, q ≠ 16 → M' q = M q := by
  unfold xX8_wipe xX4_clear xX9_wipe
  simp only [q_let, Option.bind_some]
  refine ⟨_, _, _, rfl, by rw [h.1], ⟨by simp [su_at], fun k hk => ?_, 0, by omega, by simp [su_at, nI_0], fun k hk => by omega⟩, fun q a => su_row a⟩
  rw [su_row (by omega), su_row (by omega)]
  exact h.2.1 k hk
theorem op_forget {S6 M : St} (h : sg S6 M) : ∃ r S6' M', xX8_forget S6 = some (r, S6') ∧ xX9_forget M = some (r, M') ∧ sg S6' M' ∧ ∀ q, q ≠ 14 → M' q = M q := by
  unfold xX8_forget xX9_forget
  simp only [q_let]
  refine ⟨_, _, _, rfl, by rw [h.1], ⟨by simp [su_at], fun k hk => ?_, 0, by omega, by simp [su_at, nI_0], fun k hk => by omega⟩, fun q a => su_row a⟩
  rw [su_row (by omega), su_row (by omega), su_row (by omega), su_row (by omega), su_row (by omega), su_row (by omega)]
  exact h.2.1 k hk
theorem op_seen {S6 M : St} (h : sg S6 M) (p0 p1 p2 : Int32) : ∃ r S6' M', xX8_seen p0 p1 p2 S6 = some (r, S6') ∧ xX9_seen p0 p1 p2 M = some (r, M') ∧ sg S6' M' ∧ ∀ q, ¬ (11 ≤ q ∧ q ≤ 14) → M' q = M q := by
  obtain ⟨h1, h2, n, hn, h3, h4⟩ := id h
  have h5 : M 14 0 = nI n := by rw [← h1, h3]
  unfold xX8_seen xX9_seen
  rw [m_in p0 (a := 1) (b := 15) (by decide +kernel) (by decide +kernel), m_in p1 (a := 0) (b := 3) (by decide +kernel) (by decide +kernel), m_in p2 (a := 0) (b := 3) (by decide +kernel) (by decide +kernel)]
  by_cases c1 : xX8_within p0 1 15 = 0
  · simp only [if_pos c1]
    exact ⟨_, _, _, rfl, rfl, h, fun _ _ => rfl⟩
  by_cases c2 : xX8_within p1 0 3 = 0
  · simp only [if_neg c1, if_pos c2]
    exact ⟨_, _, _, rfl, rfl, h, fun _ _ => rfl⟩
  by_cases c3 : xX8_within p2 0 3 = 0
  · simp only [if_neg c1, if_neg c2, if_pos c3]
    exact ⟨_, _, _, rfl, rfl, h, fun _ _ => rfl⟩
  unfold xX7_append
  by_cases c4 : n = 8
  · subst c4
    have e1 : ¬ S6 3 0 < 8 := by rw [h3]; decide
    have e2 : M 14 0 = 8 := by rw [h5]; decide
    simp only [if_neg c1, if_neg c2, if_neg c3, if_neg e1, if_pos e2, Option.bind_some, if_true]
    exact ⟨_, _, _, rfl, rfl, h, fun _ _ => rfl⟩
  · have hn2 : n < 8 := by omega
    have e1 : nI n < 8 := nI_lt (b := 8) hn2 (by decide)
    have e2 : ¬ nI n = 8 := fun q => c4 ((nI_eq (b := 8) (by omega) (by decide)).mp q)
    have e3 : q_ib (nI n) 8 = true := m_ib hn2 (by decide)
    have hcl : (nI n).toNatClampNeg = n := nI_clamp (by omega)
    have r1 : ∀ (A : St) (r k : Nat) (v : Int32), r ≠ 3 → q_su A r k v 3 0 = A 3 0 := fun A r k v hr => by rw [su_row (Ne.symm hr)]
    have r2 : ∀ (A : St) (r k : Nat) (v : Int32), r ≠ 14 → q_su A r k v 14 0 = A 14 0 := fun A r k v hr => by rw [su_row (Ne.symm hr)]
    simp only [if_neg c1, if_neg c2, if_neg c3, if_pos e1, if_neg e2, q_let, r1 _ _ _ _ (show (0 : Nat) ≠ 3 by decide), r1 _ _ _ _ (show (1 : Nat) ≠ 3 by decide), r1 _ _ _ _ (show (2 : Nat) ≠ 3 by decide), r2 _ _ _ _ (show (11 : Nat) ≠ 14 by decide), r2 _ _ _ _ (show (12 : Nat) ≠ 14 by decide), r2 _ _ _ _ (show (13 : Nat) ≠ 14 by decide), h3, h5, if_pos e3, hcl, Option.bind_some, nI_1]
    refine ⟨nI (n + 1), q_su (q_su (q_su (q_su S6 0 n p0) 1 n p1) 2 n p2) 3 0 (nI (n + 1)), q_su (q_su (q_su (q_su M 11 n p0) 12 n p1) 13 n p2) 14 0 (nI (n + 1)), ?_, ?_, ?_, ?_⟩
    · simp [su_at]
    · simp [su_at]
    · refine ⟨by simp [su_at], fun k hk => ?_, n + 1, by omega, by simp [su_at], fun k hk => ?_⟩
      · by_cases e : k = n
        · simp [su_at, e]
        · simp [su_at, e]; exact h2 k hk
      · by_cases e : k = n
        · simp [su_at, e]; exact ⟨m_w1 c1, m_w1 c2, m_w1 c3⟩
        · simp [su_at, e]; exact h4 k (by omega)
    · intro q a
      rw [su_row (by omega), su_row (by omega), su_row (by omega), su_row (by omega)]
theorem m_put {S : St} {j : Nat} (hj : j < 8) (c s f : Int32) : xX5_put (nI j) c s f S = some (lay S j c s f) := by
  unfold xX5_put lay
  simp only [if_pos (m_ib hj (by decide)), q_let, nI_clamp (show j < 2 ^ 31 by omega)]
theorem m_layS {S : St} {j : Nat} (hj : j < 8) (c s f : Int32) : xX9_layStone (nI j) c s f S = some (lay S j c s f) := by
  unfold xX9_layStone lay
  simp only [if_pos (m_ib hj (by decide)), q_let, nI_clamp (show j < 2 ^ 31 by omega)]
theorem lay_row {A : St} {k : Nat} {c s f : Int32} {q : Nat} (h : q ≠ 2) (h3 : q ≠ 3) (h4 : q ≠ 4) : lay A k c s f q = A q := by
  unfold lay
  rw [su_row h4, su_row h3, su_row h]
theorem op_stone {S0 M : St} (h : pe S0 M) (ho : ok S0) (p0 p1 p2 p3 : Int32) : ∃ r S0' M', xX8_stone p0 p1 p2 p3 S0 = some (r, S0') ∧ xX9_stone p0 p1 p2 p3 M = some (r, M') ∧ pe S0' M' ∧ ok S0' ∧ ∀ q, 11 ≤ q → M' q = M q := by
  have stay : ∃ r S0' M', some ((-2 : Int32), S0) = some (r, S0') ∧ some ((-2 : Int32), M) = some (r, M') ∧ pe S0' M' ∧ ok S0' ∧ ∀ q, 11 ≤ q → M' q = M q := ⟨_, _, _, rfl, rfl, h, ho, fun _ _ => rfl⟩
  unfold xX8_stone xX9_stone
  rw [m_isP]
  by_cases c1 : xX8_isPerson p0 = 0
  · simp only [if_pos c1]
    exact ⟨_, _, _, rfl, rfl, h, ho, fun _ _ => rfl⟩
  obtain ⟨j, hj, rfl⟩ := m_P c1
  have hib : q_ib (nI j) 8 = true := m_ib hj (by decide)
  have hcl : (nI j).toNatClampNeg = j := nI_clamp (by omega)
  have go : ∀ (c : Int32), st_ok c p2 p3 → ∃ r S0' M', ((xX5_put (nI j) c p2 p3 S0).bind fun q16 => some (S0 2 j, q16)) = some (r, S0') ∧ ((xX9_layStone (nI j) c p2 p3 M).bind fun q13 => some (M 2 j, q13)) = some (r, M') ∧ pe S0' M' ∧ ok S0' ∧ ∀ q, 11 ≤ q → M' q = M q := by
    intro c hc
    rw [m_put hj, m_layS hj]
    simp only [Option.bind_some]
    exact ⟨_, _, _, rfl, by rw [h.1 2 j (by omega) hj], pe_lay h j c p2 p3, ok_lay ho j hc, fun q hq => lay_row (by omega) (by omega) (by omega)⟩
  unfold xX8_stone_h28 xX8_stone_h63 xX8_stone_h78 xX8_stone_h105 xX9_stone_h18 xX9_stone_h30 xX9_stone_h98
  rw [m_in p1 (a := -1) (b := 11) (by decide +kernel) (by decide +kernel)]
  by_cases n1 : 0 ≤ p1
  · -- on a cell, or outside
    have n2 : ¬ p1 = -1 := by intro e; rw [e] at n1; exact absurd n1 (by decide)
    have e1 : xX8_within p1 (-1) 11 = xX8_isCell p1 := by
      unfold xX8_isCell
      rw [m_within, m_within]
      have : (-1 : Int32) ≤ p1 := by rw [fa_le] at n1 ⊢; have a : (0 : Int32).toInt = 0 := by decide
                                     have b : (-1 : Int32).toInt = -1 := by decide
                                     omega
      simp [n1, this]
    simp only [if_neg c1, if_pos n1, if_neg n2, e1]
    rw [m_in p2 (a := 1) (b := 99) rfl rfl, m_in p3 (a := 1) (b := 99) rfl rfl]
    by_cases c2 : xX8_isCell p1 = 0
    · simp only [if_pos c2]; simpa using stay
    by_cases c3 : xX8_within p2 1 99 = 0
    · simp only [if_neg c2, if_pos c3]; simpa using stay
    by_cases c4 : xX8_within p3 1 99 = 0
    · simp only [if_neg c2, if_neg c3, if_pos c4]; simpa using stay
    simp only [if_neg c2, if_neg c3, if_neg c4, if_pos hib, hcl, if_true, if_neg (show ¬ (1 : Int32) = 0 by decide)]
    exact go p1 (Or.inr ⟨(m_w1 c2).1, (m_w1 c2).2, (m_w1 c3).1, (m_w1 c3).2, (m_w1 c4).1, (m_w1 c4).2⟩)
  · have e0 : xX8_isCell p1 = 0 := by
      unfold xX8_isCell
      rw [m_within]
      simp [n1]
    simp only [if_neg c1, if_neg n1, e0, if_true]
    rw [m_in p2 (a := 0) (b := 0) rfl rfl, m_in p3 (a := 0) (b := 0) rfl rfl]
    have z : ∀ x : Int32, (xX8_within x 0 0 = 0) ↔ ¬ x = 0 := by
      intro x
      rw [m_within]
      have a : (0 : Int32).toInt = 0 := by decide
      by_cases hx : x = 0
      · subst hx; simp
      · have : ¬ (0 ≤ x ∧ x ≤ 0) := by
          rintro ⟨u, v⟩
          rw [fa_le, a] at u v
          exact hx ((fa_eq x 0).mpr (by omega))
        simp [this, hx]
    by_cases c2 : p1 = -1
    · subst c2
      have e1 : ¬ xX8_within (-1) (-1) 11 = 0 := by decide
      simp only [if_true, if_neg e1, z]
      by_cases c3 : p2 = 0
      · by_cases c4 : p3 = 0
        · simp only [if_pos c3, if_pos c4, c3, c4, not_true, if_false, if_neg (show ¬ (1 : Int32) = 0 by decide), if_pos hib, hcl]
          have g := go (-6) (Or.inl ⟨rfl, c3, c4⟩)
          rw [c3, c4] at g
          exact g
        · simp only [if_pos c3, if_neg c4, c3, c4, not_true, not_false_eq_true, if_true, if_false]
          simpa using stay
      · simp only [if_neg c3, c3, not_false_eq_true, if_true]
        simpa using stay
    · have e1 : xX8_within p1 (-1) 11 = 0 := by
        rw [m_within]
        have : ¬ ((-1 : Int32) ≤ p1 ∧ p1 ≤ 11) := by
          rintro ⟨u, -⟩
          have a : (0 : Int32).toInt = 0 := by decide
          have b : (-1 : Int32).toInt = -1 := by decide
          rw [fa_le, b] at u
          rw [fa_le, a] at n1
          exact c2 ((fa_eq p1 (-1)).mpr (by omega))
        simp [this]
      simp only [if_neg c2, if_pos e1, if_true]
      simpa using stay
