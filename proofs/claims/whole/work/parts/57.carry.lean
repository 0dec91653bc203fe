/-! PURE: the model carries its rows off and back -/
theorem cy0 {S : St} {p : Nat} (hp : p < 58) (h25 : S 25 0 = 0) (h24 : S 24 0 = nI p) (v : Int32) : xX9_carry v S = some (v, q_su (q_su S 23 p v) 24 0 (nI (p + 1))) := by
  unfold xX9_carry xX9_carry_h20
  have hib : q_ib (nI p) 58 = true := m_ib hp (by decide)
  simp only [if_pos h25, h24, if_pos hib, q_let, nI_clamp (show p < 2 ^ 31 by omega)]
  rw [su_row (by decide), h24, nI_1]
theorem cy1 {S : St} {p : Nat} (hp : p < 58) (h25 : S 25 0 = 1) (h24 : S 24 0 = nI p) (v : Int32) : xX9_carry v S = some (S 23 p, q_su S 24 0 (nI (p + 1))) := by
  unfold xX9_carry xX9_carry_h20
  have hib : q_ib (nI p) 58 = true := m_ib hp (by decide)
  have n1 : ¬ S 25 0 = 0 := by rw [h25]; decide
  simp only [if_neg n1, h24, if_pos hib, q_let, nI_clamp (show p < 2 ^ 31 by omega), su_self]
  rw [nI_1]
theorem cr0 {rr ln : Nat} (hr : rr ≤ 10) (hln : ln ≤ 8) (p : Nat) (hp : p + ln ≤ 58) : ∀ d k fuel (S : St), k + d = ln → d < fuel → S 25 0 = 0 → S 24 0 = nI (p + k) → ∃ T, xX9_carryRow_h2 rr ln (nI ln) fuel (nI k) S = some T ∧ (∀ r, r ≠ 23 → r ≠ 24 → T r = S r) ∧ T 24 0 = nI (p + ln) ∧ (∀ j, j < p + k ∨ p + ln ≤ j → T 23 j = S 23 j) ∧ (∀ j, k ≤ j → j < ln → T 23 (p + j) = S rr j) := by
  intro d
  induction d with
  | zero =>
    intro k fuel S hk hf h25 h24
    obtain ⟨n, rfl⟩ : ∃ n, fuel = n + 1 := ⟨fuel - 1, by omega⟩
    obtain rfl : k = ln := by omega
    rw [xX9_carryRow_h2_s, if_pos (nI_le (Nat.le_refl k) (by omega))]
    exact ⟨S, rfl, fun _ _ _ => rfl, h24, fun _ _ => rfl, fun j a b => by omega⟩
  | succ d ih =>
    intro k fuel S hk hf h25 h24
    obtain ⟨n, rfl⟩ : ∃ n, fuel = n + 1 := ⟨fuel - 1, by omega⟩
    rw [xX9_carryRow_h2_s, if_neg (nI_ge (by omega) (by omega)), if_pos (m_ib (show k < ln by omega) (by omega)), nI_clamp (show k < 2 ^ 31 by omega), cy0 (show p + k < 58 by omega) h25 h24, Option.bind_some, nI_1]
    simp only [q_let]
    have e : q_su (q_su (q_su S 23 (p + k) (S rr k)) 24 0 (nI (p + k + 1))) rr k (S rr k) = q_su (q_su S 23 (p + k) (S rr k)) 24 0 (nI (p + k + 1)) := by
      have := su_self (S := q_su (q_su S 23 (p + k) (S rr k)) 24 0 (nI (p + k + 1))) (r := rr) (k := k)
      rw [su_row (show rr ≠ 24 by omega), su_row (show rr ≠ 23 by omega)] at this
      exact this
    rw [e]
    obtain ⟨T, t1, t2, t3, t4, t5⟩ := ih (k + 1) n (q_su (q_su S 23 (p + k) (S rr k)) 24 0 (nI (p + k + 1))) (by omega) (by omega) (by rw [su_row (by decide), su_row (by decide)]; exact h25) (by simp [su_at]; rfl)
    refine ⟨T, t1, fun r a b => by rw [t2 r a b, su_row b, su_row a], t3, fun j hj => ?_, fun j a b => ?_⟩
    · rw [t4 j (by omega), su_row (by decide), su_at, if_neg (by omega)]
    · by_cases hjk : j = k
      · subst hjk
        rw [t4 (p + j) (by omega), su_row (by decide), su_at, if_pos ⟨rfl, rfl⟩]
      · rw [t5 j (by omega) b, su_row (by omega), su_row (by omega)]
theorem cr1 {rr ln : Nat} (hr : rr ≤ 10) (hln : ln ≤ 8) (p : Nat) (hp : p + ln ≤ 58) : ∀ d k fuel (S : St), k + d = ln → d < fuel → S 25 0 = 1 → S 24 0 = nI (p + k) → ∃ T, xX9_carryRow_h2 rr ln (nI ln) fuel (nI k) S = some T ∧ (∀ r, r ≠ rr → r ≠ 24 → T r = S r) ∧ T 24 0 = nI (p + ln) ∧ (∀ j, j < k → T rr j = S rr j) ∧ (∀ j, k ≤ j → j < ln → T rr j = S 23 (p + j)) := by
  intro d
  induction d with
  | zero =>
    intro k fuel S hk hf h25 h24
    obtain ⟨n, rfl⟩ : ∃ n, fuel = n + 1 := ⟨fuel - 1, by omega⟩
    obtain rfl : k = ln := by omega
    rw [xX9_carryRow_h2_s, if_pos (nI_le (Nat.le_refl k) (by omega))]
    exact ⟨S, rfl, fun _ _ _ => rfl, h24, fun _ _ => rfl, fun j a b => by omega⟩
  | succ d ih =>
    intro k fuel S hk hf h25 h24
    obtain ⟨n, rfl⟩ : ∃ n, fuel = n + 1 := ⟨fuel - 1, by omega⟩
    rw [xX9_carryRow_h2_s, if_neg (nI_ge (by omega) (by omega)), if_pos (m_ib (show k < ln by omega) (by omega)), nI_clamp (show k < 2 ^ 31 by omega), cy1 (show p + k < 58 by omega) h25 h24, Option.bind_some, nI_1]
    simp only [q_let]
    obtain ⟨T, t1, t2, t3, t4, t5⟩ := ih (k + 1) n (q_su (q_su S 24 0 (nI (p + k + 1))) rr k (S 23 (p + k))) (by omega) (by omega) (by rw [su_row (by omega), su_row (by decide)]; exact h25) (by rw [su_row (by omega)]; simp [su_at]; rfl)
    refine ⟨T, t1, fun r a b => by rw [t2 r a b, su_row a, su_row b], t3, fun j hj => ?_, fun j a b => ?_⟩
    · rw [t4 j (by omega), su_at, if_neg (by omega), su_row (by omega)]
    · by_cases hjk : j = k
      · subst hjk
        rw [t4 j (by omega), su_at, if_pos ⟨rfl, rfl⟩]
      · rw [t5 j (by omega) b, su_row (by omega), su_row (by decide)]
