/-! PURE: told -/
theorem m_wN {t a b : Nat} (ht : t < 2 ^ 31) (ha : a < 2 ^ 31) (hb : b < 2 ^ 31) : xX8_within (nI t) (nI a) (nI b) = if a ≤ t ∧ t ≤ b then 1 else 0 := by
  rw [m_within]
  simp only [nI_leI ha ht, nI_leI ht hb]
def opv (A : St) (j : Nat) (w : Int32) : Int32 := if w = 0 then A 0 j else if w = 1 then A 1 j else if w = 2 then A 2 j else if w = 3 then A 3 j else A 4 j
theorem x5_op {A : St} {j : Nat} (hj : j < 8) (w : Int32) : xX5_ofPerson A (nI j) w = some (opv A j w) := by
  unfold xX5_ofPerson opv
  simp only [if_pos (m_ib hj (show 8 < 2 ^ 31 by decide)), nI_clamp (show j < 2 ^ 31 by omega)]
  by_cases h0 : w = 0
  · simp only [if_pos h0]
  by_cases h1 : w = 1
  · simp only [if_neg h0, if_pos h1]
  by_cases h2 : w = 2
  · simp only [if_neg h0, if_neg h1, if_pos h2]
  by_cases h3 : w = 3
  · simp only [if_neg h0, if_neg h1, if_neg h2, if_pos h3]
  simp only [if_neg h0, if_neg h1, if_neg h2, if_neg h3]
theorem x9_op {A : St} {j : Nat} (hj : j < 8) (w : Int32) : xX9_ofPerson A (nI j) w = some (opv A j w) := by
  unfold xX9_ofPerson opv
  simp only [if_pos (m_ib hj (show 8 < 2 ^ 31 by decide)), nI_clamp (show j < 2 ^ 31 by omega)]
  by_cases h0 : w = 0
  · simp only [if_pos h0]
  by_cases h1 : w = 1
  · simp only [if_neg h0, if_pos h1]
  by_cases h2 : w = 2
  · simp only [if_neg h0, if_neg h1, if_pos h2]
  by_cases h3 : w = 3
  · simp only [if_neg h0, if_neg h1, if_neg h2, if_pos h3]
  simp only [if_neg h0, if_neg h1, if_neg h2, if_neg h3]
theorem opv_pe {A B : St} (h : pe A B) {j : Nat} (hj : j < 8) (w : Int32) : opv A j w = opv B j w := by
  unfold opv
  rw [h.1 0 j (by omega) hj, h.1 1 j (by omega) hj, h.1 2 j (by omega) hj, h.1 3 j (by omega) hj, h.1 4 j (by omega) hj]
theorem m_r10 {t : Nat} (h : t < 2 ^ 31) : q_rem (nI t) 10 = nI (t % 10) := pk_rem (d := 10) h (by decide) (by decide)
theorem m_d10 {t : Nat} (h : t < 2 ^ 31) : nI t / 10 = nI (t / 10) := pk_div (d := 10) h (by decide) (by decide)
theorem x_all {S0 S1 S6 M : St} (h : pe S0 M) (ho : ok S0) (hp : pd S1 M) (hs : sg S6 M) (p0 : Int32) : ∃ r, xX8_toldOfAll S0 S1 S6 p0 = some r ∧ xX9_toldOfAll M p0 = some r := by
  unfold xX8_toldOfAll xX9_toldOfAll
  by_cases h0 : p0 = 0
  · simp only [if_pos h0]; exact ⟨_, rfl, by rw [hp.1]⟩
  by_cases h1 : p0 = 1
  · simp only [if_neg h0, if_pos h1]; exact ⟨_, rfl, by rw [h.2.2.2]⟩
  by_cases h2 : p0 = 2
  · simp only [if_neg h0, if_neg h1, if_pos h2]; exact ⟨_, rfl, by rw [h.2.2.1]⟩
  by_cases h3 : p0 = 3
  · simp only [if_neg h0, if_neg h1, if_neg h2, if_pos h3, x5_ly, x9_ly (ok_pe ho h), Option.bind_some]; exact ⟨_, rfl, by rw [ly_pe h]⟩
  by_cases h4 : p0 = 4
  · simp only [if_neg h0, if_neg h1, if_neg h2, if_neg h3, if_pos h4, x5_fr, x9_fr, Option.bind_some]; exact ⟨_, rfl, by rw [fr_pe h]⟩
  by_cases h5 : p0 = 5
  · simp only [if_neg h0, if_neg h1, if_neg h2, if_neg h3, if_neg h4, if_pos h5]; exact ⟨_, rfl, by rw [hs.1]⟩
  simp only [if_neg h0, if_neg h1, if_neg h2, if_neg h3, if_neg h4, if_neg h5]
  exact ⟨_, rfl, rfl⟩
theorem op_told {S0 S1 S6 M : St} (h : pe S0 M) (ho : ok S0) (hp : pd S1 M) (hs : sg S6 M) (p0 : Int32) : ∃ r, xX8_told S0 S1 S6 p0 = some r ∧ xX9_told M p0 = some r := by
  unfold xX8_told xX9_told
  rw [m_in p0 (a := 10) (b := 59) (by decide +kernel) (by decide +kernel), m_in p0 (a := 60) (b := 89) (by decide +kernel) (by decide +kernel)]
  by_cases c : xX8_within p0 0 89 = 0
  · have hc := m_w0 c
    rw [fa_le, fa_le] at hc
    have z0 : (0 : Int32).toInt = 0 := by decide
    have z89 : (89 : Int32).toInt = 89 := by decide
    have z59 : (59 : Int32).toInt = 59 := by decide
    have z60 : (60 : Int32).toInt = 60 := by decide
    have z10 : (10 : Int32).toInt = 10 := by decide
    rw [z0, z89] at hc
    have e1 : xX8_within p0 10 59 = 0 := by
      rw [m_within, if_neg]
      rw [fa_le, fa_le, z10, z59]; omega
    have e2 : xX8_within p0 60 89 = 0 := by
      rw [m_within, if_neg]
      rw [fa_le, fa_le, z60, z89]; omega
    simp only [if_pos c, if_pos e1, if_pos e2]
    refine ⟨_, rfl, ?_⟩
    unfold xX9_toldOfAll
    have ne : ∀ (v : Int32) (k : Int), v.toInt = k → 0 ≤ k → k ≤ 89 → ¬ p0 = v := by
      intro v k hv h1 h2 e
      rw [e, hv] at hc
      omega
    simp only [if_neg (ne 0 0 (by decide) (by decide) (by decide)), if_neg (ne 1 1 (by decide) (by decide) (by decide)), if_neg (ne 2 2 (by decide) (by decide) (by decide)), if_neg (ne 3 3 (by decide) (by decide) (by decide)), if_neg (ne 4 4 (by decide) (by decide) (by decide)), if_neg (ne 5 5 (by decide) (by decide) (by decide)), Option.bind_some]
  obtain ⟨t, ht, rfl⟩ := m_nat (n := 89) (by decide) (m_w1 c)
  have w1 : xX8_within (nI t) 10 59 = if 10 ≤ t ∧ t ≤ 59 then 1 else 0 := m_wN (a := 10) (b := 59) (by omega) (by decide) (by decide)
  have w2 : xX8_within (nI t) 60 89 = if 60 ≤ t ∧ t ≤ 89 then 1 else 0 := m_wN (a := 60) (b := 89) (by omega) (by decide) (by decide)
  rw [if_neg c, m_r10 (show t < 2 ^ 31 by omega), m_d10 (show t < 2 ^ 31 by omega), w1, w2]
  by_cases t1 : t < 10
  · have e1 : ¬ (10 ≤ t ∧ t ≤ 59) := by omega
    have e2 : ¬ (60 ≤ t ∧ t ≤ 89) := by omega
    rw [show t / 10 = 0 by omega, show t % 10 = t by omega, if_neg e1, if_neg e2]
    simp only [if_pos (show nI 0 = 0 by decide), if_true]
    obtain ⟨r, a, b⟩ := x_all h ho hp hs (nI t)
    exact ⟨r, by rw [a]; rfl, by rw [b]; rfl⟩
  have d0 : ¬ nI (t / 10) = 0 := fun q => by
    have := (nI_eq (a := t / 10) (b := 0) (by omega) (by decide)).mp q
    omega
  rw [if_neg d0]
  by_cases t2 : t < 60
  · have e1 : 10 ≤ t ∧ t ≤ 59 := by omega
    have d5 : ¬ 5 < nI (t / 10) := nI_nlt (a := 5) (by omega) (by decide)
    rw [if_neg d5, if_pos e1]
    simp only [if_neg (show ¬ (1 : Int32) = 0 by decide)]
    unfold xX9_toldOfPerson
    rw [m_isP, m_r10 (show t < 2 ^ 31 by omega), m_d10 (show t < 2 ^ 31 by omega)]
    by_cases c1 : xX8_isPerson (nI (t % 10)) = 0
    · simp only [if_pos c1]; exact ⟨_, rfl, rfl⟩
    obtain ⟨j, hj, e⟩ := m_P c1
    rw [e] at c1 ⊢
    simp only [if_neg c1, x5_op hj, x9_op hj, Option.bind_some]
    exact ⟨_, rfl, by rw [opv_pe h hj]⟩
  · have e1 : ¬ (10 ≤ t ∧ t ≤ 59) := by omega
    have e2 : 60 ≤ t ∧ t ≤ 89 := by omega
    have d5 : 5 < nI (t / 10) := nI_lt (a := 5) (by omega) (by omega)
    rw [if_pos d5, if_neg e1, if_pos e2]
    simp only [if_neg (show ¬ (1 : Int32) = 0 by decide), if_true]
    unfold xX9_toldOfReader
    rw [m_isR, m_r10 (show t < 2 ^ 31 by omega)]
    by_cases c1 : xX8_isReader (nI (t % 10)) = 0
    · simp only [if_pos c1]; exact ⟨_, rfl, rfl⟩
    obtain ⟨j, hj, e⟩ := m_R c1
    have l70 : (70 : Int32) ≤ nI t ↔ 70 ≤ t := nI_leI (a := 70) (by decide) (by omega)
    have l80 : (80 : Int32) ≤ nI t ↔ 80 ≤ t := nI_leI (a := 80) (by decide) (by omega)
    have hib : q_ib (nI j) 4 = true := m_ib hj (by decide)
    have hcl : (nI j).toNatClampNeg = j := nI_clamp (by omega)
    unfold xX5_ofReader
    rw [e] at c1 ⊢
    simp only [if_neg c1, if_pos hib, hcl, l70, l80]
    by_cases t3 : t < 70
    · rw [show t / 10 = 6 by omega, if_pos (show nI 6 - 6 = 0 by decide), if_neg (by omega)]
      exact ⟨_, rfl, by rw [h.2.1 5 j (by omega) (by omega) hj]; rfl⟩
    by_cases t4 : t < 80
    · rw [show t / 10 = 7 by omega, if_neg (show ¬ nI 7 - 6 = 0 by decide), if_pos (show nI 7 - 6 = 1 by decide), if_pos (by omega), if_neg (by omega)]
      exact ⟨_, rfl, by rw [h.2.1 6 j (by omega) (by omega) hj]; rfl⟩
    · rw [show t / 10 = 8 by omega, if_neg (show ¬ nI 8 - 6 = 0 by decide), if_neg (show ¬ nI 8 - 6 = 1 by decide), if_pos (show nI 8 - 6 = 2 by decide), if_pos (by omega), if_pos (by omega)]
      exact ⟨_, rfl, by rw [h.2.1 7 j (by omega) (by omega) hj]; rfl⟩
