/-! PURE: one act, the class's and the model's -/
theorem ac_sec {A B : St} (hp : pe A B) (ho : ok A) (hs : A 10 0 < 99) (h22 : B 22 0 = -6) : ∃ m A' B', m < 256 ∧ xX5_passSecond A = some (nI m, A') ∧ xX9_passSecond B = some B' ∧ pe A' B' ∧ ok A' ∧ lostIs (B 21 0) m B' ∧ (∀ q, q = 9 ∨ 11 ≤ q → q ≠ 21 → q ≠ 22 → B' q = B q) := by
  unfold xX5_passSecond xX9_passSecond
  refine melt_loop (B 21 0) 8 0 5000 5000 0 A B (by omega) (by omega) (by omega) (by decide) hp ho hs ⟨?_, by rw [if_pos rfl]; exact h22⟩
  rw [show xJ6_bitCount_0f7a4 (nI 0) = 0 by decide +kernel, ad_0]
/-- the class's act (kind, who, whom) and the model's (what, k, v) are one -/
def AR (k w v k' w' v' : Int32) : Prop :=
  (k = 0 ∧ k' = 0 ∧ w' = w ∧ v' = v ∧ (∃ a, a < 8 ∧ w = nI a) ∧ ∃ b, b < 8 ∧ v = nI b) ∨
  (k = 1 ∧ k' = 1 ∧ w' = w ∧ v' = v ∧ (∃ a, a < 8 ∧ w = nI a) ∧ ∃ b, b < 12 ∧ v = nI b) ∨
  (k = 2 ∧ v = 1 ∧ k' = 2 ∧ w' = w ∧ ∃ a, a < 4 ∧ w = nI a) ∨
  (k = 2 ∧ v = -1 ∧ k' = 3 ∧ w' = w ∧ ∃ a, a < 4 ∧ w = nI a) ∨
  (k = 3 ∧ k' = 4 ∧ w' = w ∧ v' = v ∧ (∃ a, a < 4 ∧ w = nI a) ∧ ∃ b, b < 8 ∧ v = nI b) ∨
  (k = 4 ∧ k' = 5)
theorem isP_n {a : Nat} (h : a < 8) : ¬ xX8_isPerson (nI a) = 0 := by
  unfold xX8_isPerson
  rw [show (7 : Int32) = nI 7 by decide, show (0 : Int32) = nI 0 by decide, m_wN (by omega) (by decide) (by decide), if_pos (by omega)]
  decide
theorem isR_n {a : Nat} (h : a < 4) : ¬ xX8_isReader (nI a) = 0 := by
  unfold xX8_isReader
  rw [show (3 : Int32) = nI 3 by decide, show (0 : Int32) = nI 0 by decide, m_wN (by omega) (by decide) (by decide), if_pos (by omega)]
  decide
theorem isC_n {a : Nat} (h : a < 12) : ¬ xX8_isCell (nI a) = 0 := by
  unfold xX8_isCell
  rw [show (11 : Int32) = nI 11 by decide, show (0 : Int32) = nI 0 by decide, m_wN (by omega) (by decide) (by decide), if_pos (by omega)]
  decide
theorem ar_sound {C : St} {k' w' v' : Int32} (h : AR (C 0 0) (C 1 0) (C 2 0) k' w' v') : xX0_isSound C = some 1 := by
  unfold xX0_isSound
  rcases h with ⟨h0, -, -, -, ⟨a, ha, e⟩, b, hb, f⟩ | ⟨h0, -, -, -, ⟨a, ha, e⟩, b, hb, f⟩ | ⟨h0, hv, -, -, a, ha, e⟩ | ⟨h0, hv, -, -, a, ha, e⟩ | ⟨h0, -, -, -, ⟨a, ha, e⟩, b, hb, f⟩ | ⟨h0, -⟩
  · rw [if_pos h0, e, f, if_neg (isP_n ha), if_neg (isP_n hb)]
  · rw [h0, if_neg (by decide), if_pos rfl, e, f, if_neg (isP_n ha), if_neg (isC_n hb)]
  · rw [h0, if_neg (by decide), if_neg (by decide), if_pos rfl, e, if_neg (isR_n ha), if_pos hv]
  · rw [h0, if_neg (by decide), if_neg (by decide), if_pos rfl, e, if_neg (isR_n ha), hv, if_neg (by decide), if_pos rfl]
  · rw [h0, if_neg (by decide), if_neg (by decide), if_neg (by decide), if_pos rfl, e, f, if_neg (isR_n ha), if_neg (isP_n hb)]
  · rw [h0, if_neg (by decide), if_neg (by decide), if_neg (by decide), if_neg (by decide), if_pos rfl]
theorem le99 {x : Int32} (h : 0 ≤ x ∧ x ≤ 99) : x < 99 ↔ ¬ x = 99 := by
  obtain ⟨n, hn, rfl⟩ := m_nat (n := 99) (b := 99) (by decide) h
  rw [show (99 : Int32) = nI 99 by decide, nI_ltI (by omega) (by decide), nI_eq (by omega) (by decide)]
  omega
