/-! PURE: all the rows carried off, and put back -/
theorem cr0' {rr ln p : Nat} (hr : rr ≤ 10) (hln : ln ≤ 8) (hp : p + ln ≤ 58) {S : St} (h25 : S 25 0 = 0) (h24 : S 24 0 = nI p) : ∃ T, xX9_carryRow rr ln (nI ln) S = some T ∧ (∀ r, r ≠ 23 → r ≠ 24 → T r = S r) ∧ T 24 0 = nI (p + ln) ∧ (∀ j, j < p ∨ p + ln ≤ j → T 23 j = S 23 j) ∧ (∀ j, j < ln → T 23 (p + j) = S rr j) := by
  obtain ⟨T, a, b, c, d, e⟩ := cr0 hr hln p hp ln 0 5000 S (by omega) (by omega) h25 h24
  rw [nI_0] at a
  exact ⟨T, a, b, c, fun j hj => d j (by omega), fun j hj => e j (Nat.zero_le j) hj⟩
theorem cr1' {rr ln p : Nat} (hr : rr ≤ 10) (hln : ln ≤ 8) (hp : p + ln ≤ 58) {S : St} (h25 : S 25 0 = 1) (h24 : S 24 0 = nI p) : ∃ T, xX9_carryRow rr ln (nI ln) S = some T ∧ (∀ r, r ≠ rr → r ≠ 24 → T r = S r) ∧ T 24 0 = nI (p + ln) ∧ (∀ j, j < ln → T rr j = S 23 (p + j)) := by
  obtain ⟨T, a, b, c, d, e⟩ := cr1 hr hln p hp ln 0 5000 S (by omega) (by omega) h25 h24
  rw [nI_0] at a
  exact ⟨T, a, b, c, fun j hj => e j (Nat.zero_le j) hj⟩
/-- what is kept of S in the row 23 -/
def hd (S T : St) : Prop := T 23 0 = S 10 0 ∧ (∀ r k, r < 5 → k < 8 → T 23 (1 + 8 * r + k) = S r k) ∧ (∀ r k, 5 ≤ r → r < 9 → k < 4 → T 23 (41 + 4 * (r - 5) + k) = S r k)
theorem hd.keep {S T T' : St} (h : hd S T) (e : T' 23 = T 23) : hd S T' := by unfold hd; rw [e]; exact h
set_option maxHeartbeats 4000000 in
theorem ca0 (S : St) : ∃ T, xX9_carryAll 0 S = some T ∧ (∀ r, r ≠ 23 → r ≠ 24 → r ≠ 25 → T r = S r) ∧ hd S T := by
  unfold xX9_carryAll
  have hz : q_zb 0 = true := by decide
  simp only [q_let, if_pos hz]
  rw [l8, l4]
  have h25 : q_su (q_su S 24 0 0) 25 0 0 25 0 = 0 := by simp [su_at]
  have h24 : q_su (q_su S 24 0 0) 25 0 0 24 0 = nI 0 := by rw [su_row (by decide), nI_0]; simp [su_at]
  have g0 : ∀ r, r ≠ 24 → r ≠ 25 → q_su (q_su S 24 0 0) 25 0 0 r = S r := fun r a b => by rw [su_row b, su_row a]
  generalize q_su (q_su S 24 0 0) 25 0 0 = S1 at h25 h24 g0 ⊢
  have cy := cy0 (show 0 < 58 by decide) h25 h24 (S1 10 0)
  rw [show 0 + 1 = 1 from rfl] at cy
  rw [cy, Option.bind_some]
  try dsimp only
  have es := su_self (S := q_su (q_su S1 23 0 (S1 10 0)) 24 0 (nI 1)) (r := 10) (k := 0)
  rw [su_row (by decide), su_row (by decide)] at es
  rw [es]
  have b25 : q_su (q_su S1 23 0 (S1 10 0)) 24 0 (nI 1) 25 0 = 0 := by rw [su_row (by decide), su_row (by decide)]; exact h25
  have c0 : q_su (q_su S1 23 0 (S1 10 0)) 24 0 (nI 1) 24 0 = nI 1 := by simp [su_at]
  have b23 : q_su (q_su S1 23 0 (S1 10 0)) 24 0 (nI 1) 23 0 = S 10 0 := by rw [su_row (by decide), g0 10 (by decide) (by decide)]; simp [su_at]
  have k0 : ∀ r, r ≠ 23 → r ≠ 24 → r ≠ 25 → q_su (q_su S1 23 0 (S1 10 0)) 24 0 (nI 1) r = S r := fun r a b c => by rw [su_row b, su_row a]; exact g0 r b c
  generalize q_su (q_su S1 23 0 (S1 10 0)) 24 0 (nI 1) = T0 at b25 c0 b23 k0 ⊢
  obtain ⟨T1, e1, f1, c1, d1, v1⟩ := cr0' (rr := 0) (ln := 8) (p := 1) (by decide) (by decide) (by decide) b25 c0
  rw [e1, Option.bind_some]
  have k1 : ∀ r, r ≠ 23 → r ≠ 24 → r ≠ 25 → T1 r = S r := fun r a b c => by rw [f1 r a b]; exact k0 r a b c
  have z1 : T1 25 0 = 0 := by rw [f1 25 (by decide) (by decide)]; exact b25
  obtain ⟨T2, e2, f2, c2, d2, v2⟩ := cr0' (rr := 1) (ln := 8) (p := 9) (by decide) (by decide) (by decide) z1 c1
  rw [e2, Option.bind_some]
  have k2 : ∀ r, r ≠ 23 → r ≠ 24 → r ≠ 25 → T2 r = S r := fun r a b c => by rw [f2 r a b]; exact k1 r a b c
  have z2 : T2 25 0 = 0 := by rw [f2 25 (by decide) (by decide)]; exact z1
  obtain ⟨T3, e3, f3, c3, d3, v3⟩ := cr0' (rr := 2) (ln := 8) (p := 17) (by decide) (by decide) (by decide) z2 c2
  rw [e3, Option.bind_some]
  have k3 : ∀ r, r ≠ 23 → r ≠ 24 → r ≠ 25 → T3 r = S r := fun r a b c => by rw [f3 r a b]; exact k2 r a b c
  have z3 : T3 25 0 = 0 := by rw [f3 25 (by decide) (by decide)]; exact z2
  obtain ⟨T4, e4, f4, c4, d4, v4⟩ := cr0' (rr := 3) (ln := 8) (p := 25) (by decide) (by decide) (by decide) z3 c3
  rw [e4, Option.bind_some]
  have k4 : ∀ r, r ≠ 23 → r ≠ 24 → r ≠ 25 → T4 r = S r := fun r a b c => by rw [f4 r a b]; exact k3 r a b c
  have z4 : T4 25 0 = 0 := by rw [f4 25 (by decide) (by decide)]; exact z3
  obtain ⟨T5, e5, f5, c5, d5, v5⟩ := cr0' (rr := 4) (ln := 8) (p := 33) (by decide) (by decide) (by decide) z4 c4
  rw [e5, Option.bind_some]
  have k5 : ∀ r, r ≠ 23 → r ≠ 24 → r ≠ 25 → T5 r = S r := fun r a b c => by rw [f5 r a b]; exact k4 r a b c
  have z5 : T5 25 0 = 0 := by rw [f5 25 (by decide) (by decide)]; exact z4
  obtain ⟨T6, e6, f6, c6, d6, v6⟩ := cr0' (rr := 5) (ln := 4) (p := 41) (by decide) (by decide) (by decide) z5 c5
  rw [e6, Option.bind_some]
  have k6 : ∀ r, r ≠ 23 → r ≠ 24 → r ≠ 25 → T6 r = S r := fun r a b c => by rw [f6 r a b]; exact k5 r a b c
  have z6 : T6 25 0 = 0 := by rw [f6 25 (by decide) (by decide)]; exact z5
  obtain ⟨T7, e7, f7, c7, d7, v7⟩ := cr0' (rr := 6) (ln := 4) (p := 45) (by decide) (by decide) (by decide) z6 c6
  rw [e7, Option.bind_some]
  have k7 : ∀ r, r ≠ 23 → r ≠ 24 → r ≠ 25 → T7 r = S r := fun r a b c => by rw [f7 r a b]; exact k6 r a b c
  have z7 : T7 25 0 = 0 := by rw [f7 25 (by decide) (by decide)]; exact z6
  obtain ⟨T8, e8, f8, c8, d8, v8⟩ := cr0' (rr := 7) (ln := 4) (p := 49) (by decide) (by decide) (by decide) z7 c7
  rw [e8, Option.bind_some]
  have k8 : ∀ r, r ≠ 23 → r ≠ 24 → r ≠ 25 → T8 r = S r := fun r a b c => by rw [f8 r a b]; exact k7 r a b c
  have z8 : T8 25 0 = 0 := by rw [f8 25 (by decide) (by decide)]; exact z7
  obtain ⟨T9, e9, f9, c9, d9, v9⟩ := cr0' (rr := 8) (ln := 4) (p := 53) (by decide) (by decide) (by decide) z8 c8
  rw [e9, Option.bind_some]
  have k9 : ∀ r, r ≠ 23 → r ≠ 24 → r ≠ 25 → T9 r = S r := fun r a b c => by rw [f9 r a b]; exact k8 r a b c
  have z9 : T9 25 0 = 0 := by rw [f9 25 (by decide) (by decide)]; exact z8
  refine ⟨T9, rfl, k9, ?_, fun r k hr hk => ?_, fun r k h5 hr hk => ?_⟩
  · rw [d9 0 (by omega), d8 0 (by omega), d7 0 (by omega), d6 0 (by omega), d5 0 (by omega), d4 0 (by omega), d3 0 (by omega), d2 0 (by omega), d1 0 (by omega)]; exact b23
  · have : r = 0 ∨ r = 1 ∨ r = 2 ∨ r = 3 ∨ r = 4 := by omega
    rcases this with rfl | rfl | rfl | rfl | rfl
    · have w := k0 0 (by decide) (by decide) (by decide); show T9 23 (1 + k) = S 0 k; rw [d9 (1 + k) (by omega), d8 (1 + k) (by omega), d7 (1 + k) (by omega), d6 (1 + k) (by omega), d5 (1 + k) (by omega), d4 (1 + k) (by omega), d3 (1 + k) (by omega), d2 (1 + k) (by omega), v1 k hk, w]
    · have w := k1 1 (by decide) (by decide) (by decide); show T9 23 (9 + k) = S 1 k; rw [d9 (9 + k) (by omega), d8 (9 + k) (by omega), d7 (9 + k) (by omega), d6 (9 + k) (by omega), d5 (9 + k) (by omega), d4 (9 + k) (by omega), d3 (9 + k) (by omega), v2 k hk, w]
    · have w := k2 2 (by decide) (by decide) (by decide); show T9 23 (17 + k) = S 2 k; rw [d9 (17 + k) (by omega), d8 (17 + k) (by omega), d7 (17 + k) (by omega), d6 (17 + k) (by omega), d5 (17 + k) (by omega), d4 (17 + k) (by omega), v3 k hk, w]
    · have w := k3 3 (by decide) (by decide) (by decide); show T9 23 (25 + k) = S 3 k; rw [d9 (25 + k) (by omega), d8 (25 + k) (by omega), d7 (25 + k) (by omega), d6 (25 + k) (by omega), d5 (25 + k) (by omega), v4 k hk, w]
    · have w := k4 4 (by decide) (by decide) (by decide); show T9 23 (33 + k) = S 4 k; rw [d9 (33 + k) (by omega), d8 (33 + k) (by omega), d7 (33 + k) (by omega), d6 (33 + k) (by omega), v5 k hk, w]
  · have : r = 5 ∨ r = 6 ∨ r = 7 ∨ r = 8 := by omega
    rcases this with rfl | rfl | rfl | rfl
    · have w := k5 5 (by decide) (by decide) (by decide); show T9 23 (41 + k) = S 5 k; rw [d9 (41 + k) (by omega), d8 (41 + k) (by omega), d7 (41 + k) (by omega), v6 k hk, w]
    · have w := k6 6 (by decide) (by decide) (by decide); show T9 23 (45 + k) = S 6 k; rw [d9 (45 + k) (by omega), d8 (45 + k) (by omega), v7 k hk, w]
    · have w := k7 7 (by decide) (by decide) (by decide); show T9 23 (49 + k) = S 7 k; rw [d9 (49 + k) (by omega), v8 k hk, w]
    · have w := k8 8 (by decide) (by decide) (by decide); show T9 23 (53 + k) = S 8 k; rw [v9 k hk, w]
set_option maxHeartbeats 4000000 in
theorem ca1 {S T : St} (h : hd S T) : ∃ U, xX9_carryAll 1 T = some U ∧ (∀ r, 9 ≤ r → r ≠ 10 → r ≠ 24 → r ≠ 25 → U r = T r) ∧ (∀ r k, r < 5 → k < 8 → U r k = S r k) ∧ (∀ r k, 5 ≤ r → r < 9 → k < 4 → U r k = S r k) ∧ U 10 0 = S 10 0 := by
  obtain ⟨hd1, hd2, hd3⟩ := h
  unfold xX9_carryAll
  have hz : q_zb 1 = true := by decide
  simp only [q_let, if_pos hz]
  rw [l8, l4]
  have h25 : q_su (q_su T 24 0 0) 25 0 1 25 0 = 1 := by simp [su_at]
  have h24 : q_su (q_su T 24 0 0) 25 0 1 24 0 = nI 0 := by rw [su_row (by decide), nI_0]; simp [su_at]
  have g0 : ∀ r, r ≠ 24 → r ≠ 25 → q_su (q_su T 24 0 0) 25 0 1 r = T r := fun r a b => by rw [su_row b, su_row a]
  generalize q_su (q_su T 24 0 0) 25 0 1 = S1 at h25 h24 g0 ⊢
  have cy := cy1 (show 0 < 58 by decide) h25 h24 (S1 10 0)
  rw [show 0 + 1 = 1 from rfl] at cy
  rw [cy, Option.bind_some]
  try dsimp only
  have b25 : q_su (q_su S1 24 0 (nI 1)) 10 0 (S1 23 0) 25 0 = 1 := by rw [su_row (by decide), su_row (by decide)]; exact h25
  have c0 : q_su (q_su S1 24 0 (nI 1)) 10 0 (S1 23 0) 24 0 = nI 1 := by rw [su_row (by decide)]; simp [su_at]
  have b10 : q_su (q_su S1 24 0 (nI 1)) 10 0 (S1 23 0) 10 0 = S 10 0 := by rw [g0 23 (by decide) (by decide), hd1]; simp [su_at]
  have k0 : ∀ r, r ≠ 10 → r ≠ 24 → r ≠ 25 → q_su (q_su S1 24 0 (nI 1)) 10 0 (S1 23 0) r = T r := fun r a b c => by rw [su_row a, su_row b]; exact g0 r b c
  generalize q_su (q_su S1 24 0 (nI 1)) 10 0 (S1 23 0) = T0 at b25 c0 b10 k0 ⊢
  obtain ⟨T1, e1, f1, c1, v1⟩ := cr1' (rr := 0) (ln := 8) (p := 1) (by decide) (by decide) (by decide) b25 c0
  rw [e1, Option.bind_some]
  have k1 : ∀ r, 0 < r → r ≠ 10 → r ≠ 24 → r ≠ 25 → T1 r = T r := fun r y a b c => by rw [f1 r (by omega) b]; exact k0 r a b c
  have z1 : T1 25 0 = 1 := by rw [f1 25 (by decide) (by decide)]; exact b25
  obtain ⟨T2, e2, f2, c2, v2⟩ := cr1' (rr := 1) (ln := 8) (p := 9) (by decide) (by decide) (by decide) z1 c1
  rw [e2, Option.bind_some]
  have k2 : ∀ r, 1 < r → r ≠ 10 → r ≠ 24 → r ≠ 25 → T2 r = T r := fun r y a b c => by rw [f2 r (by omega) b]; exact k1 r (by omega) a b c
  have z2 : T2 25 0 = 1 := by rw [f2 25 (by decide) (by decide)]; exact z1
  obtain ⟨T3, e3, f3, c3, v3⟩ := cr1' (rr := 2) (ln := 8) (p := 17) (by decide) (by decide) (by decide) z2 c2
  rw [e3, Option.bind_some]
  have k3 : ∀ r, 2 < r → r ≠ 10 → r ≠ 24 → r ≠ 25 → T3 r = T r := fun r y a b c => by rw [f3 r (by omega) b]; exact k2 r (by omega) a b c
  have z3 : T3 25 0 = 1 := by rw [f3 25 (by decide) (by decide)]; exact z2
  obtain ⟨T4, e4, f4, c4, v4⟩ := cr1' (rr := 3) (ln := 8) (p := 25) (by decide) (by decide) (by decide) z3 c3
  rw [e4, Option.bind_some]
  have k4 : ∀ r, 3 < r → r ≠ 10 → r ≠ 24 → r ≠ 25 → T4 r = T r := fun r y a b c => by rw [f4 r (by omega) b]; exact k3 r (by omega) a b c
  have z4 : T4 25 0 = 1 := by rw [f4 25 (by decide) (by decide)]; exact z3
  obtain ⟨T5, e5, f5, c5, v5⟩ := cr1' (rr := 4) (ln := 8) (p := 33) (by decide) (by decide) (by decide) z4 c4
  rw [e5, Option.bind_some]
  have k5 : ∀ r, 4 < r → r ≠ 10 → r ≠ 24 → r ≠ 25 → T5 r = T r := fun r y a b c => by rw [f5 r (by omega) b]; exact k4 r (by omega) a b c
  have z5 : T5 25 0 = 1 := by rw [f5 25 (by decide) (by decide)]; exact z4
  obtain ⟨T6, e6, f6, c6, v6⟩ := cr1' (rr := 5) (ln := 4) (p := 41) (by decide) (by decide) (by decide) z5 c5
  rw [e6, Option.bind_some]
  have k6 : ∀ r, 5 < r → r ≠ 10 → r ≠ 24 → r ≠ 25 → T6 r = T r := fun r y a b c => by rw [f6 r (by omega) b]; exact k5 r (by omega) a b c
  have z6 : T6 25 0 = 1 := by rw [f6 25 (by decide) (by decide)]; exact z5
  obtain ⟨T7, e7, f7, c7, v7⟩ := cr1' (rr := 6) (ln := 4) (p := 45) (by decide) (by decide) (by decide) z6 c6
  rw [e7, Option.bind_some]
  have k7 : ∀ r, 6 < r → r ≠ 10 → r ≠ 24 → r ≠ 25 → T7 r = T r := fun r y a b c => by rw [f7 r (by omega) b]; exact k6 r (by omega) a b c
  have z7 : T7 25 0 = 1 := by rw [f7 25 (by decide) (by decide)]; exact z6
  obtain ⟨T8, e8, f8, c8, v8⟩ := cr1' (rr := 7) (ln := 4) (p := 49) (by decide) (by decide) (by decide) z7 c7
  rw [e8, Option.bind_some]
  have k8 : ∀ r, 7 < r → r ≠ 10 → r ≠ 24 → r ≠ 25 → T8 r = T r := fun r y a b c => by rw [f8 r (by omega) b]; exact k7 r (by omega) a b c
  have z8 : T8 25 0 = 1 := by rw [f8 25 (by decide) (by decide)]; exact z7
  obtain ⟨T9, e9, f9, c9, v9⟩ := cr1' (rr := 8) (ln := 4) (p := 53) (by decide) (by decide) (by decide) z8 c8
  rw [e9, Option.bind_some]
  have k9 : ∀ r, 8 < r → r ≠ 10 → r ≠ 24 → r ≠ 25 → T9 r = T r := fun r y a b c => by rw [f9 r (by omega) b]; exact k8 r (by omega) a b c
  have z9 : T9 25 0 = 1 := by rw [f9 25 (by decide) (by decide)]; exact z8
  refine ⟨T9, rfl, fun r a b c d => k9 r (by omega) b c d, fun r k hr hk => ?_, fun r k h5 hr hk => ?_, ?_⟩
  · have : r = 0 ∨ r = 1 ∨ r = 2 ∨ r = 3 ∨ r = 4 := by omega
    rcases this with rfl | rfl | rfl | rfl | rfl
    · rw [f9 0 (by decide) (by decide), f8 0 (by decide) (by decide), f7 0 (by decide) (by decide), f6 0 (by decide) (by decide), f5 0 (by decide) (by decide), f4 0 (by decide) (by decide), f3 0 (by decide) (by decide), f2 0 (by decide) (by decide), v1 k hk, k0 23 (by decide) (by decide) (by decide)]; exact hd2 0 k (by decide) hk
    · rw [f9 1 (by decide) (by decide), f8 1 (by decide) (by decide), f7 1 (by decide) (by decide), f6 1 (by decide) (by decide), f5 1 (by decide) (by decide), f4 1 (by decide) (by decide), f3 1 (by decide) (by decide), v2 k hk, k1 23 (by decide) (by decide) (by decide) (by decide)]; exact hd2 1 k (by decide) hk
    · rw [f9 2 (by decide) (by decide), f8 2 (by decide) (by decide), f7 2 (by decide) (by decide), f6 2 (by decide) (by decide), f5 2 (by decide) (by decide), f4 2 (by decide) (by decide), v3 k hk, k2 23 (by decide) (by decide) (by decide) (by decide)]; exact hd2 2 k (by decide) hk
    · rw [f9 3 (by decide) (by decide), f8 3 (by decide) (by decide), f7 3 (by decide) (by decide), f6 3 (by decide) (by decide), f5 3 (by decide) (by decide), v4 k hk, k3 23 (by decide) (by decide) (by decide) (by decide)]; exact hd2 3 k (by decide) hk
    · rw [f9 4 (by decide) (by decide), f8 4 (by decide) (by decide), f7 4 (by decide) (by decide), f6 4 (by decide) (by decide), v5 k hk, k4 23 (by decide) (by decide) (by decide) (by decide)]; exact hd2 4 k (by decide) hk
  · have : r = 5 ∨ r = 6 ∨ r = 7 ∨ r = 8 := by omega
    rcases this with rfl | rfl | rfl | rfl
    · rw [f9 5 (by decide) (by decide), f8 5 (by decide) (by decide), f7 5 (by decide) (by decide), v6 k hk, k5 23 (by decide) (by decide) (by decide) (by decide)]; exact hd3 5 k (by decide) (by decide) hk
    · rw [f9 6 (by decide) (by decide), f8 6 (by decide) (by decide), v7 k hk, k6 23 (by decide) (by decide) (by decide) (by decide)]; exact hd3 6 k (by decide) (by decide) hk
    · rw [f9 7 (by decide) (by decide), v8 k hk, k7 23 (by decide) (by decide) (by decide) (by decide)]; exact hd3 7 k (by decide) (by decide) hk
    · rw [v9 k hk, k8 23 (by decide) (by decide) (by decide) (by decide)]; exact hd3 8 k (by decide) (by decide) hk
  · rw [f9 10 (by decide) (by decide), f8 10 (by decide) (by decide), f7 10 (by decide) (by decide), f6 10 (by decide) (by decide), f5 10 (by decide) (by decide), f4 10 (by decide) (by decide), f3 10 (by decide) (by decide), f2 10 (by decide) (by decide), f1 10 (by decide) (by decide)]; exact b10
/-- all is put back: the state is as it was when it was carried off, but for scratch -/
theorem x9_bk {S T : St} (h : hd S T) (h9 : T 9 0 = S 9 0) (v : Int32) : ∃ U, xX9_back v T = some (v, U) ∧ pe S U ∧ ∀ r, 11 ≤ r → r ≠ 24 → r ≠ 25 → U r = T r := by
  obtain ⟨U, a, b, c, d, e⟩ := ca1 h
  unfold xX9_back
  rw [a, Option.bind_some]
  exact ⟨U, rfl, ⟨fun r k hr hk => (c r k hr hk).symm, fun r k h5 hr hk => (d r k h5 hr hk).symm, by rw [b 9 (by decide) (by decide) (by decide) (by decide)]; exact h9.symm, e.symm⟩, fun r hr h1 h2 => b r (by omega) (by omega) h1 h2⟩
