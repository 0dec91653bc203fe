/-! PURE: an act tried on the outcome; what is noted of a loss -/
theorem x3_note (m : Int32) (O : St) : ∃ O', xX3_noteLoss m O = some O' ∧ O' 2 0 = O 2 0 ∧ O' 3 0 = O 3 0 ∧ O' 4 0 = O 4 0 ∧ O' 5 0 = O 5 0 + xJ6_bitCount_0f7a4 m ∧ (m = 0 ∨ ¬ O 6 0 = -6 → O' 6 0 = O 6 0 ∧ O' 7 0 = O 7 0) ∧ (¬ m = 0 → O 6 0 = -6 → O' 6 0 = O 2 0 ∧ O' 7 0 = xJ6_numberOfTrailingZeros_0f7a4 m) := by
  unfold xX3_noteLoss
  simp only [q_let]
  have e6 : ∀ v, q_su O 5 0 v 6 0 = O 6 0 := fun v => by rw [su_row (by decide)]
  rw [e6]
  by_cases h : m = 0
  · rw [if_pos h]
    exact ⟨_, rfl, by simp [su_at], by simp [su_at], by simp [su_at], by simp [su_at], fun _ => ⟨by simp [su_at], by simp [su_at]⟩, fun q => absurd h q⟩
  · by_cases h6 : O 6 0 = -6
    · rw [if_neg h, if_pos h6]
      refine ⟨_, rfl, by simp [su_at], by simp [su_at], by simp [su_at], by simp [su_at], fun q => ?_, fun _ _ => ⟨by simp [su_at], by simp [su_at]⟩⟩
      rcases q with q | q
      · exact absurd q h
      · exact absurd h6 q
    · rw [if_neg h, if_neg h6]
      exact ⟨_, rfl, by simp [su_at], by simp [su_at], by simp [su_at], by simp [su_at], fun _ => ⟨by simp [su_at], by simp [su_at]⟩, fun _ q => absurd q h6⟩
/-- what an act that was done leaves in the outcome -/
def noted (m : Nat) (O O' : St) : Prop := O' 2 0 = O 2 0 + 1 ∧ O' 3 0 = O 3 0 ∧ O' 4 0 = O 4 0 ∧ O' 5 0 = O 5 0 + xJ6_bitCount_0f7a4 (nI m) ∧ (nI m = 0 ∨ ¬ O 6 0 = -6 → O' 6 0 = O 6 0 ∧ O' 7 0 = O 7 0) ∧ (¬ nI m = 0 → O 6 0 = -6 → O' 6 0 = O 2 0 ∧ O' 7 0 = xJ6_numberOfTrailingZeros_0f7a4 (nI m))
theorem tr_act {A B C : St} (O : St) {k' w' v' : Int32} (hp : pe A B) (ho : ok A) (h : AR (C 0 0) (C 1 0) (C 2 0) k' w' v') : ∃ r, xX9_whyNot B k' w' v' = some r ∧ 0 ≤ r ∧ ((¬ r = 0 ∧ xX3_tryAct C O A = some (r, O, A)) ∨ (r = 0 ∧ ∃ m O' A' B', m < 256 ∧ xX3_tryAct C O A = some (0, O', A') ∧ xX9_happen k' w' v' B = some B' ∧ pe A' B' ∧ ok A' ∧ lostIs (B 21 0) m B' ∧ (∀ q, q = 9 ∨ 11 ≤ q → q ≠ 21 → q ≠ 22 → B' q = B q) ∧ noted m O O')) := by
  obtain ⟨r, h1, h2, h3, h4⟩ := ar_step hp ho h
  refine ⟨r, h2, h3, ?_⟩
  unfold xX3_tryAct
  rw [ar_sound h, Option.bind_some, if_neg (show ¬ (1 : Int32) = 0 by decide), h1, Option.bind_some]
  unfold xX3_tryAct_h26
  by_cases hr : r = 0
  · right
    obtain ⟨m, A', B', hm, e1, e2, e3, e4, e5, e6⟩ := h4 hr
    obtain ⟨O1, n1, n2, n3, n4, n5, n6, n7⟩ := x3_note (nI m) O
    subst hr
    refine ⟨rfl, m, q_su O1 2 0 (O1 2 0 + 1), A', B', hm, ?_, e2, e3, e4, e5, e6, ?_, ?_, ?_, ?_, ?_, ?_⟩
    · rw [if_pos rfl, e1, Option.bind_some]
      simp only [n1, Option.bind_some, q_let]
    · simp [su_at, n2]
    · rw [su_row (by decide)]; exact n3
    · rw [su_row (by decide)]; exact n4
    · rw [su_row (by decide)]; exact n5
    · intro q; rw [su_row (by decide), su_row (by decide)]; exact n6 q
    · intro q q2; rw [su_row (by decide), su_row (by decide)]; exact n7 q q2
  · left
    exact ⟨hr, by rw [if_neg hr]⟩
