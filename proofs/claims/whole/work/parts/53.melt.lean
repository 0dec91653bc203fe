/-! PURE: the melting, then the whole second -/
/-- the size of a stone that lies, a second on -/
theorem melt_sz {A : St} (ho : ok A) {k : Nat} (hk : k < 8) (hl : ¬ A 2 k = -6) : (0 ≤ A 2 k ∧ A 2 k ≤ 11) ∧ (1 ≤ A 4 k ∧ A 4 k ≤ 99) ∧ (0 < A 3 k - A 9 0 → 1 ≤ A 3 k - A 9 0 ∧ A 3 k - A 9 0 ≤ 99) := by
  rcases ho.2.2.1 k hk with h | h
  · exact absurd h.1 hl
  · refine ⟨⟨h.1, h.2.1⟩, ⟨h.2.2.2.2.1, h.2.2.2.2.2⟩, fun hp => ?_⟩
    have a := h.2.2.1
    have b := h.2.2.2.1
    have c := ho.2.2.2.2.2.2.2.1
    have hz0 : (0 : Int32).toInt = 0 := by decide
    have hz1 : (1 : Int32).toInt = 1 := by decide
    have hz9 : (9 : Int32).toInt = 9 := by decide
    have hz99 : (99 : Int32).toInt = 99 := by decide
    have z : (0 : Int32) ≤ A 3 k := by rw [fa_le] at a ⊢; omega
    have y : (0 : Int32) ≤ A 9 0 := by have := c.1; rw [fa_le] at this ⊢; omega
    obtain ⟨s, hs, es⟩ := m_nat (n := 99) (b := 99) (by decide) ⟨z, b⟩
    obtain ⟨m, hm, em⟩ := m_nat (n := 9) (b := 9) (by decide) ⟨y, c.2⟩
    rw [es, em] at hp ⊢
    have hsub := pk_sub_toInt (a := s) (b := m) (by omega) (by omega)
    rw [fa_lt, hz0, hsub] at hp
    rw [fa_le, fa_le, hsub, hz1, hz99]
    omega
theorem su3_lay {A : St} {k : Nat} {v : Int32} {c s f : Int32} : lay (q_su A 3 k v) k c s f = lay A k c s f := by
  unfold lay
  funext a b
  simp only [su_at]
  by_cases h3 : a = 3 ∧ b = k
  · simp [h3]
  · simp [h3]
theorem ok_size {A : St} (ho : ok A) {k : Nat} {v : Int32} (h : st_ok (A 2 k) v (A 4 k)) : ok (q_su A 3 k v) := by
  have e : q_su A 3 k v = lay A k (A 2 k) v (A 4 k) := by
    unfold lay
    funext a b
    simp only [su_at]
    by_cases h2 : a = 2 ∧ b = k
    · simp [h2]
    · by_cases h3 : a = 3 ∧ b = k
      · simp [h3]
      · by_cases h4 : a = 4 ∧ b = k
        · simp [h4]
        · simp [h2, h3, h4]
  rw [e]
  exact ok_lay ho k h
/-- what is noted of those lost -/
def lostIs (L0 : Int32) (m : Nat) (B : St) : Prop := B 21 0 = L0 + xJ6_bitCount_0f7a4 (nI m) ∧ B 22 0 = if m = 0 then -6 else xJ6_numberOfTrailingZeros_0f7a4 (nI m)
theorem melt_loop (L0 : Int32) : ∀ d k fa fb m (A B : St), k + d = 8 → d < fa → d < fb → m < 2 ^ k → pe A B → ok A → A 10 0 < 99 → lostIs L0 m B → ∃ m' A' B', m' < 256 ∧ xX5_passSecond_h4 fa (nI m) (nI k) A = some (nI m', A') ∧ xX9_passSecond_h2 fb (nI k) B = some B' ∧ pe A' B' ∧ ok A' ∧ lostIs L0 m' B' ∧ (∀ q, q = 9 ∨ 11 ≤ q → q ≠ 21 → q ≠ 22 → B' q = B q) := by
  intro d
  induction d with
  | zero =>
    intro k fa fb m A B hk hfa hfb hm hp ho hs hL
    obtain ⟨a, rfl⟩ : ∃ a, fa = a + 1 := ⟨fa - 1, by omega⟩
    obtain ⟨b, rfl⟩ : ∃ b, fb = b + 1 := ⟨fb - 1, by omega⟩
    obtain rfl : k = 8 := by omega
    obtain ⟨p1, p2, p3⟩ := secS_ok hp ho hs
    refine ⟨m, secS A, secS B, hm, ?_, ?_, p1, p2, ?_, fun q h1 _ _ => p3 q h1⟩
    · rw [xX5_passSecond_h4_s, if_pos (by decide), x5_sec2 ho]; rfl
    · rw [xX9_passSecond_h2_s, if_pos (by decide), x9_sec2 (ok_pe ho hp)]; rfl
    · unfold lostIs
      rw [p3 21 (by omega), p3 22 (by omega)]
      exact hL
  | succ d ih =>
    intro k fa fb m A B hk hfa hfb hm hp ho hs hL
    obtain ⟨a, rfl⟩ : ∃ a, fa = a + 1 := ⟨fa - 1, by omega⟩
    obtain ⟨b, rfl⟩ : ∃ b, fb = b + 1 := ⟨fb - 1, by omega⟩
    have hk8 : k < 8 := by omega
    have hcl : (nI k).toNatClampNeg = k := nI_clamp (by omega)
    have hpw : 2 ^ (k + 1) = 2 ^ k + 2 ^ k := by rw [Nat.pow_succ]; omega
    rw [xX5_passSecond_h4_s, if_neg (n8 hk8), x5_lies hk8, Option.bind_some, xX9_passSecond_h2_s, if_neg (n8 hk8), if_pos (m_ib hk8 (by decide)), if_pos (m_ib hk8 (by decide)), hcl, nI_1]
    have e2 := hp.1 2 k (by omega) hk8
    have e3 := hp.1 3 k (by omega) hk8
    have e9 := hp.2.2.1
    by_cases hl : A 2 k = -6
    · rw [if_pos hl, if_pos rfl, if_pos (((ok_pe ho hp).lies hk8).mpr (e2 ▸ hl))]
      exact ih (k + 1) a b m A B (by omega) (by omega) (by omega) (by omega) hp ho hs hL
    · rw [if_neg hl, if_neg (show ¬ (1 : Int32) = 0 by decide), if_neg (fun q => hl (e2 ▸ ((ok_pe ho hp).lies hk8).mp q))]
      obtain ⟨z1, z2, z3⟩ := melt_sz ho hk8 hl
      unfold xX9_meltOne
      simp only [if_pos (m_ib hk8 (show 8 < 2 ^ 31 by decide)), hcl, q_let, ← e3, ← e9]
      have t3 : ∀ S : St, q_su S 3 k (A 3 k - A 9 0) 3 k = A 3 k - A 9 0 := fun S => by simp [su_at]
      rw [t3, t3]
      by_cases hz : 0 < A 3 k - A 9 0
      · rw [if_pos hz, if_pos hz, Option.bind_some]
        obtain ⟨m', A', B', r1, r2, r3, r4, r5, r6, r7⟩ := ih (k + 1) a b m _ _ (by omega) (by omega) (by omega) (by omega) (hp.su 3 k (A 3 k - A 9 0)) (ok_size ho (Or.inr ⟨z1.1, z1.2, (z3 hz).1, (z3 hz).2, z2.1, z2.2⟩)) (by rw [su_row (by decide)]; exact hs) (by unfold lostIs; rw [su_row (by decide), su_row (by decide)]; exact hL)
        exact ⟨m', A', B', r1, r2, r3, r4, r5, r6, fun q h1 h2 h3 => by rw [r7 q h1 h2 h3, su_row (by omega)]⟩
      · rw [if_neg hz, if_neg hz, m_put hk8, m_layS hk8, Option.bind_some, Option.bind_some, su3_lay, su3_lay, bit_or k (by omega) m hm]
        obtain ⟨t1, t2, t4, t5⟩ := bc_at hk8 hm
        have b21 : lay B k (-6) 0 0 21 0 = L0 + xJ6_bitCount_0f7a4 (nI m) := by rw [lay_row (by decide) (by decide) (by decide)]; exact hL.1
        have b22 : ∀ v, q_su (lay B k (-6) 0 0) 21 0 v 22 0 = if m = 0 then -6 else xJ6_numberOfTrailingZeros_0f7a4 (nI m) := fun v => by rw [su_row (by decide), lay_row (by decide) (by decide) (by decide)]; exact hL.2
        have fin : ∀ w, w = (if m + 2 ^ k = 0 then -6 else xJ6_numberOfTrailingZeros_0f7a4 (nI (m + 2 ^ k))) → ∃ m' A' B', m' < 256 ∧ xX5_passSecond_h4 a (nI (m + 2 ^ k)) (nI (k + 1)) (lay A k (-6) 0 0) = some (nI m', A') ∧ xX9_passSecond_h2 b (nI (k + 1)) (q_su (q_su (lay B k (-6) 0 0) 21 0 (lay B k (-6) 0 0 21 0 + 1)) 22 0 w) = some B' ∧ pe A' B' ∧ ok A' ∧ lostIs L0 m' B' ∧ (∀ q, q = 9 ∨ 11 ≤ q → q ≠ 21 → q ≠ 22 → B' q = B q) := by
          intro w hw
          obtain ⟨m', A', B', r1, r2, r3, r4, r5, r6, r7⟩ := ih (k + 1) a b (m + 2 ^ k) (lay A k (-6) 0 0) (q_su (q_su (lay B k (-6) 0 0) 21 0 (lay B k (-6) 0 0 21 0 + 1)) 22 0 w) (by omega) (by omega) (by omega) (by omega) (((pe_lay hp k (-6) 0 0).other (by omega) 0 _).other (by omega) 0 _) (ok_lay ho k st_no) (by rw [lay_row (by decide) (by decide) (by decide)]; exact hs) (by
            unfold lostIs
            constructor
            · rw [su_row (by decide), b21]
              simp only [su_at, and_self, if_true]
              rw [t1, Int32.add_assoc]
            · simp only [su_at, and_self, if_true]
              exact hw)
          exact ⟨m', A', B', r1, r2, r3, r4, r5, r6, fun q h1 h2 h3 => by rw [r7 q h1 h2 h3, su_row h3, su_row h2, lay_row (by omega) (by omega) (by omega)]⟩
        have hne : ¬ m + 2 ^ k = 0 := by
          have : 0 < 2 ^ k := Nat.two_pow_pos k
          omega
        rw [b22]
        by_cases hm0 : m = 0
        · rw [if_pos hm0, if_neg (by decide), Option.bind_some]
          refine fin _ ?_
          rw [if_neg hne, hm0, Nat.zero_add, t4]
        · rw [if_neg hm0, if_pos (t5 hm0), Option.bind_some]
          refine fin _ ?_
          rw [if_neg hne, t2 hm0]
