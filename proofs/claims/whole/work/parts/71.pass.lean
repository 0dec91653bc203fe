/-! PURE: images: all is passed into the row 33, or out of it -/
theorem ps0 {S : St} {p : Nat} (hp : p < 180) (h36 : S 36 0 = 1) (h35 : S 35 0 = nI p) (v : Int32) : xX9_pass v S = some (v, q_su (q_su S 33 p v) 35 0 (nI (p + 1))) := by
  unfold xX9_pass xX9_pass_h20
  have hib : q_ib (nI p) 180 = true := m_ib hp (by decide)
  have n1 : ¬ S 36 0 = 0 := by rw [h36]; decide
  simp only [if_neg n1, h35, if_pos hib, q_let, nI_clamp (show p < 2 ^ 31 by omega)]
  rw [su_row (by decide), h35, nI_1]
theorem ps1 {S : St} {p : Nat} (hp : p < 180) (h36 : S 36 0 = 0) (h35 : S 35 0 = nI p) (v : Int32) : xX9_pass v S = some (S 33 p, q_su S 35 0 (nI (p + 1))) := by
  unfold xX9_pass xX9_pass_h20
  have hib : q_ib (nI p) 180 = true := m_ib hp (by decide)
  simp only [if_pos h36, h35, if_pos hib, q_let, nI_clamp (show p < 2 ^ 31 by omega), su_self]
  rw [nI_1]
theorem pr0 {rr ln : Nat} (hr : rr ≤ 14) (hln : ln ≤ 8) (p : Nat) (hp : p + ln ≤ 180) : ∀ d k fuel (S : St), k + d = ln → d < fuel → S 36 0 = 1 → S 35 0 = nI (p + k) → ∃ T, xX9_passRow_h2 rr ln (nI ln) fuel (nI k) S = some T ∧ (∀ r, r ≠ 33 → r ≠ 35 → T r = S r) ∧ T 35 0 = nI (p + ln) ∧ (∀ j, j < p + k ∨ p + ln ≤ j → T 33 j = S 33 j) ∧ (∀ j, k ≤ j → j < ln → T 33 (p + j) = S rr j) := by
  intro d
  induction d with
  | zero =>
    intro k fuel S hk hf h36 h35
    obtain ⟨n, rfl⟩ : ∃ n, fuel = n + 1 := ⟨fuel - 1, by omega⟩
    obtain rfl : k = ln := by omega
    rw [xX9_passRow_h2_s, if_pos (nI_le (Nat.le_refl k) (by omega))]
    exact ⟨S, rfl, fun _ _ _ => rfl, h35, fun _ _ => rfl, fun j a b => by omega⟩
  | succ d ih =>
    intro k fuel S hk hf h36 h35
    obtain ⟨n, rfl⟩ : ∃ n, fuel = n + 1 := ⟨fuel - 1, by omega⟩
    rw [xX9_passRow_h2_s, if_neg (nI_ge (by omega) (by omega)), if_pos (m_ib (show k < ln by omega) (by omega)), nI_clamp (show k < 2 ^ 31 by omega), ps0 (show p + k < 180 by omega) h36 h35, Option.bind_some, nI_1]
    simp only [q_let]
    have e : q_su (q_su (q_su S 33 (p + k) (S rr k)) 35 0 (nI (p + k + 1))) rr k (S rr k) = q_su (q_su S 33 (p + k) (S rr k)) 35 0 (nI (p + k + 1)) := by
      have := su_self (S := q_su (q_su S 33 (p + k) (S rr k)) 35 0 (nI (p + k + 1))) (r := rr) (k := k)
      rw [su_row (show rr ≠ 35 by omega), su_row (show rr ≠ 33 by omega)] at this
      exact this
    rw [e]
    obtain ⟨T, t1, t2, t3, t4, t5⟩ := ih (k + 1) n (q_su (q_su S 33 (p + k) (S rr k)) 35 0 (nI (p + k + 1))) (by omega) (by omega) (by rw [su_row (by decide), su_row (by decide)]; exact h36) (by simp [su_at]; rfl)
    refine ⟨T, t1, fun r a b => by rw [t2 r a b, su_row b, su_row a], t3, fun j hj => ?_, fun j a b => ?_⟩
    · rw [t4 j (by omega), su_row (by decide), su_at, if_neg (by omega)]
    · by_cases hjk : j = k
      · subst hjk
        rw [t4 (p + j) (by omega), su_row (by decide), su_at, if_pos ⟨rfl, rfl⟩]
      · rw [t5 j (by omega) b, su_row (by omega), su_row (by omega)]
theorem pr1 {rr ln : Nat} (hr : rr ≤ 14) (hln : ln ≤ 8) (p : Nat) (hp : p + ln ≤ 180) : ∀ d k fuel (S : St), k + d = ln → d < fuel → S 36 0 = 0 → S 35 0 = nI (p + k) → ∃ T, xX9_passRow_h2 rr ln (nI ln) fuel (nI k) S = some T ∧ (∀ r, r ≠ rr → r ≠ 35 → T r = S r) ∧ T 35 0 = nI (p + ln) ∧ (∀ j, j < k → T rr j = S rr j) ∧ (∀ j, k ≤ j → j < ln → T rr j = S 33 (p + j)) := by
  intro d
  induction d with
  | zero =>
    intro k fuel S hk hf h36 h35
    obtain ⟨n, rfl⟩ : ∃ n, fuel = n + 1 := ⟨fuel - 1, by omega⟩
    obtain rfl : k = ln := by omega
    rw [xX9_passRow_h2_s, if_pos (nI_le (Nat.le_refl k) (by omega))]
    exact ⟨S, rfl, fun _ _ _ => rfl, h35, fun _ _ => rfl, fun j a b => by omega⟩
  | succ d ih =>
    intro k fuel S hk hf h36 h35
    obtain ⟨n, rfl⟩ : ∃ n, fuel = n + 1 := ⟨fuel - 1, by omega⟩
    rw [xX9_passRow_h2_s, if_neg (nI_ge (by omega) (by omega)), if_pos (m_ib (show k < ln by omega) (by omega)), nI_clamp (show k < 2 ^ 31 by omega), ps1 (show p + k < 180 by omega) h36 h35, Option.bind_some, nI_1]
    simp only [q_let]
    obtain ⟨T, t1, t2, t3, t4, t5⟩ := ih (k + 1) n (q_su (q_su S 35 0 (nI (p + k + 1))) rr k (S 33 (p + k))) (by omega) (by omega) (by rw [su_row (by omega), su_row (by decide)]; exact h36) (by rw [su_row (by omega)]; simp [su_at]; rfl)
    refine ⟨T, t1, fun r a b => by rw [t2 r a b, su_row a, su_row b], t3, fun j hj => ?_, fun j a b => ?_⟩
    · rw [t4 j (by omega), su_at, if_neg (by omega), su_row (by omega)]
    · by_cases hjk : j = k
      · subst hjk
        rw [t4 j (by omega), su_at, if_pos ⟨rfl, rfl⟩]
      · rw [t5 j (by omega) b, su_row (by omega), su_row (by decide)]
theorem pr0' {rr ln p : Nat} (hr : rr ≤ 14) (hln : ln ≤ 8) (hp : p + ln ≤ 180) {S : St} (h36 : S 36 0 = 1) (h35 : S 35 0 = nI p) : ∃ T, xX9_passRow rr ln (nI ln) S = some T ∧ (∀ r, r ≠ 33 → r ≠ 35 → T r = S r) ∧ T 35 0 = nI (p + ln) ∧ (∀ j, j < p ∨ p + ln ≤ j → T 33 j = S 33 j) ∧ (∀ j, j < ln → T 33 (p + j) = S rr j) := by
  obtain ⟨T, a, b, c, d, e⟩ := pr0 hr hln p hp ln 0 5000 S (by omega) (by omega) h36 h35
  rw [nI_0] at a
  exact ⟨T, a, b, c, fun j hj => d j (by omega), fun j hj => e j (Nat.zero_le j) hj⟩
theorem pr1' {rr ln p : Nat} (hr : rr ≤ 14) (hln : ln ≤ 8) (hp : p + ln ≤ 180) {S : St} (h36 : S 36 0 = 0) (h35 : S 35 0 = nI p) : ∃ T, xX9_passRow rr ln (nI ln) S = some T ∧ (∀ r, r ≠ rr → r ≠ 35 → T r = S r) ∧ T 35 0 = nI (p + ln) ∧ (∀ j, j < ln → T rr j = S 33 (p + j)) := by
  obtain ⟨T, a, b, c, d, e⟩ := pr1 hr hln p hp ln 0 5000 S (by omega) (by omega) h36 h35
  rw [nI_0] at a
  exact ⟨T, a, b, c, fun j hj => e j (Nat.zero_le j) hj⟩
theorem pc0 {S : St} {rr p : Nat} (hr : rr ≤ 14) (hp : p < 180) (h36 : S 36 0 = 1) (h35 : S 35 0 = nI p) : ∃ q : Int32 × St, xX9_pass (S rr 0) S = some q ∧ (∀ r, r ≠ 33 → r ≠ 35 → q_su q.2 rr 0 q.1 r = S r) ∧ q_su q.2 rr 0 q.1 35 0 = nI (p + 1) ∧ (∀ j, j < p ∨ p + 1 ≤ j → q_su q.2 rr 0 q.1 33 j = S 33 j) ∧ q_su q.2 rr 0 q.1 33 p = S rr 0 := by
  refine ⟨_, ps0 hp h36 h35 (S rr 0), ?_⟩
  dsimp only
  have := su_self (S := q_su (q_su S 33 p (S rr 0)) 35 0 (nI (p + 1))) (r := rr) (k := 0)
  rw [su_row (show rr ≠ 35 by omega), su_row (show rr ≠ 33 by omega)] at this
  rw [this]
  exact ⟨fun r a b => by rw [su_row b, su_row a], by simp [su_at], fun j hj => by rw [su_row (by decide), su_at, if_neg (by omega)], by rw [su_row (by decide)]; simp [su_at]⟩
theorem pc1 {S : St} {rr p : Nat} (hr : rr ≤ 14) (hp : p < 180) (h36 : S 36 0 = 0) (h35 : S 35 0 = nI p) : ∃ q : Int32 × St, xX9_pass (S rr 0) S = some q ∧ (∀ r, r ≠ rr → r ≠ 35 → q_su q.2 rr 0 q.1 r = S r) ∧ q_su q.2 rr 0 q.1 35 0 = nI (p + 1) ∧ q_su q.2 rr 0 q.1 rr 0 = S 33 p := by
  refine ⟨_, ps1 hp h36 h35 (S rr 0), ?_⟩
  dsimp only
  exact ⟨fun r a b => by rw [su_row a, su_row b], by rw [su_row (by omega)]; simp [su_at], by simp [su_at]⟩
set_option maxHeartbeats 4000000 in
theorem pa0 {S : St} {o : Nat} (ho : o ≤ 90) (z0 : S 36 0 = 1) (c0 : S 35 0 = nI (o + 0)) : ∃ T, xX9_passAll S = some T ∧ (∀ r, r ≠ 33 → r ≠ 35 → T r = S r) ∧ (∀ j, j < o ∨ o + 83 ≤ j → T 33 j = S 33 j) ∧ T 33 (o + 0) = S 9 0 ∧ T 33 (o + 1) = S 10 0 ∧ T 33 (o + 2) = S 14 0 ∧ (∀ r k, r < 5 → k < 8 → T 33 (o + (3 + 8 * r) + k) = S r k) ∧ (∀ r k, 5 ≤ r → r < 9 → k < 4 → T 33 (o + (43 + 4 * (r - 5)) + k) = S r k) ∧ (∀ r k, 11 ≤ r → r < 14 → k < 8 → T 33 (o + (59 + 8 * (r - 11)) + k) = S r k) := by
  unfold xX9_passAll
  simp only [q_let]
  rw [l8, l4]
  have k0 : ∀ r, r ≠ 33 → r ≠ 35 → S r = S r := fun _ _ _ => rfl
  obtain ⟨y1, e1, f1, c1, d1, v1⟩ := pc0 (S := S) (rr := 9) (p := o + 0) (by decide) (by omega) z0 c0
  rw [e1, Option.bind_some]
  generalize q_su y1.2 9 0 y1.1 = T1 at f1 c1 d1 v1 ⊢
  have k1 : ∀ r, r ≠ 33 → r ≠ 35 → T1 r = S r := fun r a b => by rw [f1 r a b]
  have z1 : T1 36 0 = 1 := by rw [f1 36 (by decide) (by decide)]; exact z0
  obtain ⟨y2, e2, f2, c2, d2, v2⟩ := pc0 (S := T1) (rr := 10) (p := o + 1) (by decide) (by omega) z1 c1
  rw [e2, Option.bind_some]
  generalize q_su y2.2 10 0 y2.1 = T2 at f2 c2 d2 v2 ⊢
  have k2 : ∀ r, r ≠ 33 → r ≠ 35 → T2 r = S r := fun r a b => by rw [f2 r a b, k1 r a b]
  have z2 : T2 36 0 = 1 := by rw [f2 36 (by decide) (by decide)]; exact z1
  obtain ⟨y3, e3, f3, c3, d3, v3⟩ := pc0 (S := T2) (rr := 14) (p := o + 2) (by decide) (by omega) z2 c2
  rw [e3, Option.bind_some]
  generalize q_su y3.2 14 0 y3.1 = T3 at f3 c3 d3 v3 ⊢
  have k3 : ∀ r, r ≠ 33 → r ≠ 35 → T3 r = S r := fun r a b => by rw [f3 r a b, k2 r a b]
  have z3 : T3 36 0 = 1 := by rw [f3 36 (by decide) (by decide)]; exact z2
  obtain ⟨T4, e4, f4, c4, d4, v4⟩ := pr0' (S := T3) (rr := 0) (ln := 8) (p := o + 3) (by decide) (by decide) (by omega) z3 c3
  rw [e4, Option.bind_some]
  have k4 : ∀ r, r ≠ 33 → r ≠ 35 → T4 r = S r := fun r a b => by rw [f4 r a b, k3 r a b]
  have z4 : T4 36 0 = 1 := by rw [f4 36 (by decide) (by decide)]; exact z3
  obtain ⟨T5, e5, f5, c5, d5, v5⟩ := pr0' (S := T4) (rr := 1) (ln := 8) (p := o + 11) (by decide) (by decide) (by omega) z4 c4
  rw [e5, Option.bind_some]
  have k5 : ∀ r, r ≠ 33 → r ≠ 35 → T5 r = S r := fun r a b => by rw [f5 r a b, k4 r a b]
  have z5 : T5 36 0 = 1 := by rw [f5 36 (by decide) (by decide)]; exact z4
  obtain ⟨T6, e6, f6, c6, d6, v6⟩ := pr0' (S := T5) (rr := 2) (ln := 8) (p := o + 19) (by decide) (by decide) (by omega) z5 c5
  rw [e6, Option.bind_some]
  have k6 : ∀ r, r ≠ 33 → r ≠ 35 → T6 r = S r := fun r a b => by rw [f6 r a b, k5 r a b]
  have z6 : T6 36 0 = 1 := by rw [f6 36 (by decide) (by decide)]; exact z5
  obtain ⟨T7, e7, f7, c7, d7, v7⟩ := pr0' (S := T6) (rr := 3) (ln := 8) (p := o + 27) (by decide) (by decide) (by omega) z6 c6
  rw [e7, Option.bind_some]
  have k7 : ∀ r, r ≠ 33 → r ≠ 35 → T7 r = S r := fun r a b => by rw [f7 r a b, k6 r a b]
  have z7 : T7 36 0 = 1 := by rw [f7 36 (by decide) (by decide)]; exact z6
  obtain ⟨T8, e8, f8, c8, d8, v8⟩ := pr0' (S := T7) (rr := 4) (ln := 8) (p := o + 35) (by decide) (by decide) (by omega) z7 c7
  rw [e8, Option.bind_some]
  have k8 : ∀ r, r ≠ 33 → r ≠ 35 → T8 r = S r := fun r a b => by rw [f8 r a b, k7 r a b]
  have z8 : T8 36 0 = 1 := by rw [f8 36 (by decide) (by decide)]; exact z7
  obtain ⟨T9, e9, f9, c9, d9, v9⟩ := pr0' (S := T8) (rr := 5) (ln := 4) (p := o + 43) (by decide) (by decide) (by omega) z8 c8
  rw [e9, Option.bind_some]
  have k9 : ∀ r, r ≠ 33 → r ≠ 35 → T9 r = S r := fun r a b => by rw [f9 r a b, k8 r a b]
  have z9 : T9 36 0 = 1 := by rw [f9 36 (by decide) (by decide)]; exact z8
  obtain ⟨T10, e10, f10, c10, d10, v10⟩ := pr0' (S := T9) (rr := 6) (ln := 4) (p := o + 47) (by decide) (by decide) (by omega) z9 c9
  rw [e10, Option.bind_some]
  have k10 : ∀ r, r ≠ 33 → r ≠ 35 → T10 r = S r := fun r a b => by rw [f10 r a b, k9 r a b]
  have z10 : T10 36 0 = 1 := by rw [f10 36 (by decide) (by decide)]; exact z9
  obtain ⟨T11, e11, f11, c11, d11, v11⟩ := pr0' (S := T10) (rr := 7) (ln := 4) (p := o + 51) (by decide) (by decide) (by omega) z10 c10
  rw [e11, Option.bind_some]
  have k11 : ∀ r, r ≠ 33 → r ≠ 35 → T11 r = S r := fun r a b => by rw [f11 r a b, k10 r a b]
  have z11 : T11 36 0 = 1 := by rw [f11 36 (by decide) (by decide)]; exact z10
  obtain ⟨T12, e12, f12, c12, d12, v12⟩ := pr0' (S := T11) (rr := 8) (ln := 4) (p := o + 55) (by decide) (by decide) (by omega) z11 c11
  rw [e12, Option.bind_some]
  have k12 : ∀ r, r ≠ 33 → r ≠ 35 → T12 r = S r := fun r a b => by rw [f12 r a b, k11 r a b]
  have z12 : T12 36 0 = 1 := by rw [f12 36 (by decide) (by decide)]; exact z11
  obtain ⟨T13, e13, f13, c13, d13, v13⟩ := pr0' (S := T12) (rr := 11) (ln := 8) (p := o + 59) (by decide) (by decide) (by omega) z12 c12
  rw [e13, Option.bind_some]
  have k13 : ∀ r, r ≠ 33 → r ≠ 35 → T13 r = S r := fun r a b => by rw [f13 r a b, k12 r a b]
  have z13 : T13 36 0 = 1 := by rw [f13 36 (by decide) (by decide)]; exact z12
  obtain ⟨T14, e14, f14, c14, d14, v14⟩ := pr0' (S := T13) (rr := 12) (ln := 8) (p := o + 67) (by decide) (by decide) (by omega) z13 c13
  rw [e14, Option.bind_some]
  have k14 : ∀ r, r ≠ 33 → r ≠ 35 → T14 r = S r := fun r a b => by rw [f14 r a b, k13 r a b]
  have z14 : T14 36 0 = 1 := by rw [f14 36 (by decide) (by decide)]; exact z13
  obtain ⟨T15, e15, f15, c15, d15, v15⟩ := pr0' (S := T14) (rr := 13) (ln := 8) (p := o + 75) (by decide) (by decide) (by omega) z14 c14
  rw [e15, Option.bind_some]
  have k15 : ∀ r, r ≠ 33 → r ≠ 35 → T15 r = S r := fun r a b => by rw [f15 r a b, k14 r a b]
  have z15 : T15 36 0 = 1 := by rw [f15 36 (by decide) (by decide)]; exact z14
  refine ⟨T15, rfl, k15, fun j hj => ?_, ?_, ?_, ?_, fun r k hr hk => ?_, fun r k h5 hr hk => ?_, fun r k h11 hr hk => ?_⟩
  · rw [d15 j (by omega), d14 j (by omega), d13 j (by omega), d12 j (by omega), d11 j (by omega), d10 j (by omega), d9 j (by omega), d8 j (by omega), d7 j (by omega), d6 j (by omega), d5 j (by omega), d4 j (by omega), d3 j (by omega), d2 j (by omega), d1 j (by omega)]
  · rw [d15 (o + 0) (by omega), d14 (o + 0) (by omega), d13 (o + 0) (by omega), d12 (o + 0) (by omega), d11 (o + 0) (by omega), d10 (o + 0) (by omega), d9 (o + 0) (by omega), d8 (o + 0) (by omega), d7 (o + 0) (by omega), d6 (o + 0) (by omega), d5 (o + 0) (by omega), d4 (o + 0) (by omega), d3 (o + 0) (by omega), d2 (o + 0) (by omega), v1, k0 9 (by decide) (by decide)]
  · rw [d15 (o + 1) (by omega), d14 (o + 1) (by omega), d13 (o + 1) (by omega), d12 (o + 1) (by omega), d11 (o + 1) (by omega), d10 (o + 1) (by omega), d9 (o + 1) (by omega), d8 (o + 1) (by omega), d7 (o + 1) (by omega), d6 (o + 1) (by omega), d5 (o + 1) (by omega), d4 (o + 1) (by omega), d3 (o + 1) (by omega), v2, k1 10 (by decide) (by decide)]
  · rw [d15 (o + 2) (by omega), d14 (o + 2) (by omega), d13 (o + 2) (by omega), d12 (o + 2) (by omega), d11 (o + 2) (by omega), d10 (o + 2) (by omega), d9 (o + 2) (by omega), d8 (o + 2) (by omega), d7 (o + 2) (by omega), d6 (o + 2) (by omega), d5 (o + 2) (by omega), d4 (o + 2) (by omega), v3, k2 14 (by decide) (by decide)]
  · have : r = 0 ∨ r = 1 ∨ r = 2 ∨ r = 3 ∨ r = 4 := by omega
    rcases this with rfl | rfl | rfl | rfl | rfl
    · show T15 33 (o + 3 + k) = S 0 k; rw [d15 (o + 3 + k) (by omega), d14 (o + 3 + k) (by omega), d13 (o + 3 + k) (by omega), d12 (o + 3 + k) (by omega), d11 (o + 3 + k) (by omega), d10 (o + 3 + k) (by omega), d9 (o + 3 + k) (by omega), d8 (o + 3 + k) (by omega), d7 (o + 3 + k) (by omega), d6 (o + 3 + k) (by omega), d5 (o + 3 + k) (by omega), v4 k hk, k3 0 (by decide) (by decide)]
    · show T15 33 (o + 11 + k) = S 1 k; rw [d15 (o + 11 + k) (by omega), d14 (o + 11 + k) (by omega), d13 (o + 11 + k) (by omega), d12 (o + 11 + k) (by omega), d11 (o + 11 + k) (by omega), d10 (o + 11 + k) (by omega), d9 (o + 11 + k) (by omega), d8 (o + 11 + k) (by omega), d7 (o + 11 + k) (by omega), d6 (o + 11 + k) (by omega), v5 k hk, k4 1 (by decide) (by decide)]
    · show T15 33 (o + 19 + k) = S 2 k; rw [d15 (o + 19 + k) (by omega), d14 (o + 19 + k) (by omega), d13 (o + 19 + k) (by omega), d12 (o + 19 + k) (by omega), d11 (o + 19 + k) (by omega), d10 (o + 19 + k) (by omega), d9 (o + 19 + k) (by omega), d8 (o + 19 + k) (by omega), d7 (o + 19 + k) (by omega), v6 k hk, k5 2 (by decide) (by decide)]
    · show T15 33 (o + 27 + k) = S 3 k; rw [d15 (o + 27 + k) (by omega), d14 (o + 27 + k) (by omega), d13 (o + 27 + k) (by omega), d12 (o + 27 + k) (by omega), d11 (o + 27 + k) (by omega), d10 (o + 27 + k) (by omega), d9 (o + 27 + k) (by omega), d8 (o + 27 + k) (by omega), v7 k hk, k6 3 (by decide) (by decide)]
    · show T15 33 (o + 35 + k) = S 4 k; rw [d15 (o + 35 + k) (by omega), d14 (o + 35 + k) (by omega), d13 (o + 35 + k) (by omega), d12 (o + 35 + k) (by omega), d11 (o + 35 + k) (by omega), d10 (o + 35 + k) (by omega), d9 (o + 35 + k) (by omega), v8 k hk, k7 4 (by decide) (by decide)]
  · have : r = 5 ∨ r = 6 ∨ r = 7 ∨ r = 8 := by omega
    rcases this with rfl | rfl | rfl | rfl
    · show T15 33 (o + 43 + k) = S 5 k; rw [d15 (o + 43 + k) (by omega), d14 (o + 43 + k) (by omega), d13 (o + 43 + k) (by omega), d12 (o + 43 + k) (by omega), d11 (o + 43 + k) (by omega), d10 (o + 43 + k) (by omega), v9 k hk, k8 5 (by decide) (by decide)]
    · show T15 33 (o + 47 + k) = S 6 k; rw [d15 (o + 47 + k) (by omega), d14 (o + 47 + k) (by omega), d13 (o + 47 + k) (by omega), d12 (o + 47 + k) (by omega), d11 (o + 47 + k) (by omega), v10 k hk, k9 6 (by decide) (by decide)]
    · show T15 33 (o + 51 + k) = S 7 k; rw [d15 (o + 51 + k) (by omega), d14 (o + 51 + k) (by omega), d13 (o + 51 + k) (by omega), d12 (o + 51 + k) (by omega), v11 k hk, k10 7 (by decide) (by decide)]
    · show T15 33 (o + 55 + k) = S 8 k; rw [d15 (o + 55 + k) (by omega), d14 (o + 55 + k) (by omega), d13 (o + 55 + k) (by omega), v12 k hk, k11 8 (by decide) (by decide)]
  · have : r = 11 ∨ r = 12 ∨ r = 13 := by omega
    rcases this with rfl | rfl | rfl
    · show T15 33 (o + 59 + k) = S 11 k; rw [d15 (o + 59 + k) (by omega), d14 (o + 59 + k) (by omega), v13 k hk, k12 11 (by decide) (by decide)]
    · show T15 33 (o + 67 + k) = S 12 k; rw [d15 (o + 67 + k) (by omega), v14 k hk, k13 12 (by decide) (by decide)]
    · show T15 33 (o + 75 + k) = S 13 k; rw [v15 k hk, k14 13 (by decide) (by decide)]
set_option maxHeartbeats 4000000 in
theorem pa1 {S : St} {o : Nat} (ho : o ≤ 90) (z0 : S 36 0 = 0) (c0 : S 35 0 = nI (o + 0)) : ∃ T, xX9_passAll S = some T ∧ (∀ r, 15 ≤ r → r ≠ 35 → T r = S r) ∧ T 9 0 = S 33 (o + 0) ∧ T 10 0 = S 33 (o + 1) ∧ T 14 0 = S 33 (o + 2) ∧ (∀ r k, r < 5 → k < 8 → T r k = S 33 (o + (3 + 8 * r) + k)) ∧ (∀ r k, 5 ≤ r → r < 9 → k < 4 → T r k = S 33 (o + (43 + 4 * (r - 5)) + k)) ∧ (∀ r k, 11 ≤ r → r < 14 → k < 8 → T r k = S 33 (o + (59 + 8 * (r - 11)) + k)) := by
  unfold xX9_passAll
  simp only [q_let]
  rw [l8, l4]
  have k0 : ∀ r, 15 ≤ r → r ≠ 35 → S r = S r := fun _ _ _ => rfl
  obtain ⟨y1, e1, f1, c1, v1⟩ := pc1 (S := S) (rr := 9) (p := o + 0) (by decide) (by omega) z0 c0
  rw [e1, Option.bind_some]
  generalize q_su y1.2 9 0 y1.1 = T1 at f1 c1 v1 ⊢
  have k1 : ∀ r, 15 ≤ r → r ≠ 35 → T1 r = S r := fun r a b => by rw [f1 r (by omega) b]
  have z1 : T1 36 0 = 0 := by rw [f1 36 (by decide) (by decide)]; exact z0
  obtain ⟨y2, e2, f2, c2, v2⟩ := pc1 (S := T1) (rr := 10) (p := o + 1) (by decide) (by omega) z1 c1
  rw [e2, Option.bind_some]
  generalize q_su y2.2 10 0 y2.1 = T2 at f2 c2 v2 ⊢
  have k2 : ∀ r, 15 ≤ r → r ≠ 35 → T2 r = S r := fun r a b => by rw [f2 r (by omega) b, k1 r a b]
  have z2 : T2 36 0 = 0 := by rw [f2 36 (by decide) (by decide)]; exact z1
  obtain ⟨y3, e3, f3, c3, v3⟩ := pc1 (S := T2) (rr := 14) (p := o + 2) (by decide) (by omega) z2 c2
  rw [e3, Option.bind_some]
  generalize q_su y3.2 14 0 y3.1 = T3 at f3 c3 v3 ⊢
  have k3 : ∀ r, 15 ≤ r → r ≠ 35 → T3 r = S r := fun r a b => by rw [f3 r (by omega) b, k2 r a b]
  have z3 : T3 36 0 = 0 := by rw [f3 36 (by decide) (by decide)]; exact z2
  obtain ⟨T4, e4, f4, c4, v4⟩ := pr1' (S := T3) (rr := 0) (ln := 8) (p := o + 3) (by decide) (by decide) (by omega) z3 c3
  rw [e4, Option.bind_some]
  have k4 : ∀ r, 15 ≤ r → r ≠ 35 → T4 r = S r := fun r a b => by rw [f4 r (by omega) b, k3 r a b]
  have z4 : T4 36 0 = 0 := by rw [f4 36 (by decide) (by decide)]; exact z3
  obtain ⟨T5, e5, f5, c5, v5⟩ := pr1' (S := T4) (rr := 1) (ln := 8) (p := o + 11) (by decide) (by decide) (by omega) z4 c4
  rw [e5, Option.bind_some]
  have k5 : ∀ r, 15 ≤ r → r ≠ 35 → T5 r = S r := fun r a b => by rw [f5 r (by omega) b, k4 r a b]
  have z5 : T5 36 0 = 0 := by rw [f5 36 (by decide) (by decide)]; exact z4
  obtain ⟨T6, e6, f6, c6, v6⟩ := pr1' (S := T5) (rr := 2) (ln := 8) (p := o + 19) (by decide) (by decide) (by omega) z5 c5
  rw [e6, Option.bind_some]
  have k6 : ∀ r, 15 ≤ r → r ≠ 35 → T6 r = S r := fun r a b => by rw [f6 r (by omega) b, k5 r a b]
  have z6 : T6 36 0 = 0 := by rw [f6 36 (by decide) (by decide)]; exact z5
  obtain ⟨T7, e7, f7, c7, v7⟩ := pr1' (S := T6) (rr := 3) (ln := 8) (p := o + 27) (by decide) (by decide) (by omega) z6 c6
  rw [e7, Option.bind_some]
  have k7 : ∀ r, 15 ≤ r → r ≠ 35 → T7 r = S r := fun r a b => by rw [f7 r (by omega) b, k6 r a b]
  have z7 : T7 36 0 = 0 := by rw [f7 36 (by decide) (by decide)]; exact z6
  obtain ⟨T8, e8, f8, c8, v8⟩ := pr1' (S := T7) (rr := 4) (ln := 8) (p := o + 35) (by decide) (by decide) (by omega) z7 c7
  rw [e8, Option.bind_some]
  have k8 : ∀ r, 15 ≤ r → r ≠ 35 → T8 r = S r := fun r a b => by rw [f8 r (by omega) b, k7 r a b]
  have z8 : T8 36 0 = 0 := by rw [f8 36 (by decide) (by decide)]; exact z7
  obtain ⟨T9, e9, f9, c9, v9⟩ := pr1' (S := T8) (rr := 5) (ln := 4) (p := o + 43) (by decide) (by decide) (by omega) z8 c8
  rw [e9, Option.bind_some]
  have k9 : ∀ r, 15 ≤ r → r ≠ 35 → T9 r = S r := fun r a b => by rw [f9 r (by omega) b, k8 r a b]
  have z9 : T9 36 0 = 0 := by rw [f9 36 (by decide) (by decide)]; exact z8
  obtain ⟨T10, e10, f10, c10, v10⟩ := pr1' (S := T9) (rr := 6) (ln := 4) (p := o + 47) (by decide) (by decide) (by omega) z9 c9
  rw [e10, Option.bind_some]
  have k10 : ∀ r, 15 ≤ r → r ≠ 35 → T10 r = S r := fun r a b => by rw [f10 r (by omega) b, k9 r a b]
  have z10 : T10 36 0 = 0 := by rw [f10 36 (by decide) (by decide)]; exact z9
  obtain ⟨T11, e11, f11, c11, v11⟩ := pr1' (S := T10) (rr := 7) (ln := 4) (p := o + 51) (by decide) (by decide) (by omega) z10 c10
  rw [e11, Option.bind_some]
  have k11 : ∀ r, 15 ≤ r → r ≠ 35 → T11 r = S r := fun r a b => by rw [f11 r (by omega) b, k10 r a b]
  have z11 : T11 36 0 = 0 := by rw [f11 36 (by decide) (by decide)]; exact z10
  obtain ⟨T12, e12, f12, c12, v12⟩ := pr1' (S := T11) (rr := 8) (ln := 4) (p := o + 55) (by decide) (by decide) (by omega) z11 c11
  rw [e12, Option.bind_some]
  have k12 : ∀ r, 15 ≤ r → r ≠ 35 → T12 r = S r := fun r a b => by rw [f12 r (by omega) b, k11 r a b]
  have z12 : T12 36 0 = 0 := by rw [f12 36 (by decide) (by decide)]; exact z11
  obtain ⟨T13, e13, f13, c13, v13⟩ := pr1' (S := T12) (rr := 11) (ln := 8) (p := o + 59) (by decide) (by decide) (by omega) z12 c12
  rw [e13, Option.bind_some]
  have k13 : ∀ r, 15 ≤ r → r ≠ 35 → T13 r = S r := fun r a b => by rw [f13 r (by omega) b, k12 r a b]
  have z13 : T13 36 0 = 0 := by rw [f13 36 (by decide) (by decide)]; exact z12
  obtain ⟨T14, e14, f14, c14, v14⟩ := pr1' (S := T13) (rr := 12) (ln := 8) (p := o + 67) (by decide) (by decide) (by omega) z13 c13
  rw [e14, Option.bind_some]
  have k14 : ∀ r, 15 ≤ r → r ≠ 35 → T14 r = S r := fun r a b => by rw [f14 r (by omega) b, k13 r a b]
  have z14 : T14 36 0 = 0 := by rw [f14 36 (by decide) (by decide)]; exact z13
  obtain ⟨T15, e15, f15, c15, v15⟩ := pr1' (S := T14) (rr := 13) (ln := 8) (p := o + 75) (by decide) (by decide) (by omega) z14 c14
  rw [e15, Option.bind_some]
  have k15 : ∀ r, 15 ≤ r → r ≠ 35 → T15 r = S r := fun r a b => by rw [f15 r (by omega) b, k14 r a b]
  have z15 : T15 36 0 = 0 := by rw [f15 36 (by decide) (by decide)]; exact z14
  refine ⟨T15, rfl, k15, ?_, ?_, ?_, fun r k hr hk => ?_, fun r k h5 hr hk => ?_, fun r k h11 hr hk => ?_⟩
  · rw [f15 9 (by decide) (by decide), f14 9 (by decide) (by decide), f13 9 (by decide) (by decide), f12 9 (by decide) (by decide), f11 9 (by decide) (by decide), f10 9 (by decide) (by decide), f9 9 (by decide) (by decide), f8 9 (by decide) (by decide), f7 9 (by decide) (by decide), f6 9 (by decide) (by decide), f5 9 (by decide) (by decide), f4 9 (by decide) (by decide), f3 9 (by decide) (by decide), f2 9 (by decide) (by decide), v1, k0 33 (by decide) (by decide)]
  · rw [f15 10 (by decide) (by decide), f14 10 (by decide) (by decide), f13 10 (by decide) (by decide), f12 10 (by decide) (by decide), f11 10 (by decide) (by decide), f10 10 (by decide) (by decide), f9 10 (by decide) (by decide), f8 10 (by decide) (by decide), f7 10 (by decide) (by decide), f6 10 (by decide) (by decide), f5 10 (by decide) (by decide), f4 10 (by decide) (by decide), f3 10 (by decide) (by decide), v2, k1 33 (by decide) (by decide)]
  · rw [f15 14 (by decide) (by decide), f14 14 (by decide) (by decide), f13 14 (by decide) (by decide), f12 14 (by decide) (by decide), f11 14 (by decide) (by decide), f10 14 (by decide) (by decide), f9 14 (by decide) (by decide), f8 14 (by decide) (by decide), f7 14 (by decide) (by decide), f6 14 (by decide) (by decide), f5 14 (by decide) (by decide), f4 14 (by decide) (by decide), v3, k2 33 (by decide) (by decide)]
  · have : r = 0 ∨ r = 1 ∨ r = 2 ∨ r = 3 ∨ r = 4 := by omega
    rcases this with rfl | rfl | rfl | rfl | rfl
    · rw [f15 0 (by decide) (by decide), f14 0 (by decide) (by decide), f13 0 (by decide) (by decide), f12 0 (by decide) (by decide), f11 0 (by decide) (by decide), f10 0 (by decide) (by decide), f9 0 (by decide) (by decide), f8 0 (by decide) (by decide), f7 0 (by decide) (by decide), f6 0 (by decide) (by decide), f5 0 (by decide) (by decide), v4 k hk, k3 33 (by decide) (by decide)]
    · rw [f15 1 (by decide) (by decide), f14 1 (by decide) (by decide), f13 1 (by decide) (by decide), f12 1 (by decide) (by decide), f11 1 (by decide) (by decide), f10 1 (by decide) (by decide), f9 1 (by decide) (by decide), f8 1 (by decide) (by decide), f7 1 (by decide) (by decide), f6 1 (by decide) (by decide), v5 k hk, k4 33 (by decide) (by decide)]
    · rw [f15 2 (by decide) (by decide), f14 2 (by decide) (by decide), f13 2 (by decide) (by decide), f12 2 (by decide) (by decide), f11 2 (by decide) (by decide), f10 2 (by decide) (by decide), f9 2 (by decide) (by decide), f8 2 (by decide) (by decide), f7 2 (by decide) (by decide), v6 k hk, k5 33 (by decide) (by decide)]
    · rw [f15 3 (by decide) (by decide), f14 3 (by decide) (by decide), f13 3 (by decide) (by decide), f12 3 (by decide) (by decide), f11 3 (by decide) (by decide), f10 3 (by decide) (by decide), f9 3 (by decide) (by decide), f8 3 (by decide) (by decide), v7 k hk, k6 33 (by decide) (by decide)]
    · rw [f15 4 (by decide) (by decide), f14 4 (by decide) (by decide), f13 4 (by decide) (by decide), f12 4 (by decide) (by decide), f11 4 (by decide) (by decide), f10 4 (by decide) (by decide), f9 4 (by decide) (by decide), v8 k hk, k7 33 (by decide) (by decide)]
  · have : r = 5 ∨ r = 6 ∨ r = 7 ∨ r = 8 := by omega
    rcases this with rfl | rfl | rfl | rfl
    · rw [f15 5 (by decide) (by decide), f14 5 (by decide) (by decide), f13 5 (by decide) (by decide), f12 5 (by decide) (by decide), f11 5 (by decide) (by decide), f10 5 (by decide) (by decide), v9 k hk, k8 33 (by decide) (by decide)]
    · rw [f15 6 (by decide) (by decide), f14 6 (by decide) (by decide), f13 6 (by decide) (by decide), f12 6 (by decide) (by decide), f11 6 (by decide) (by decide), v10 k hk, k9 33 (by decide) (by decide)]
    · rw [f15 7 (by decide) (by decide), f14 7 (by decide) (by decide), f13 7 (by decide) (by decide), f12 7 (by decide) (by decide), v11 k hk, k10 33 (by decide) (by decide)]
    · rw [f15 8 (by decide) (by decide), f14 8 (by decide) (by decide), f13 8 (by decide) (by decide), v12 k hk, k11 33 (by decide) (by decide)]
  · have : r = 11 ∨ r = 12 ∨ r = 13 := by omega
    rcases this with rfl | rfl | rfl
    · rw [f15 11 (by decide) (by decide), f14 11 (by decide) (by decide), v13 k hk, k12 33 (by decide) (by decide)]
    · rw [f15 12 (by decide) (by decide), v14 k hk, k13 33 (by decide) (by decide)]
    · rw [v15 k hk, k14 33 (by decide) (by decide)]
