/-! PURE: storms by draws -/
theorem q8 {t : Nat} (h : t < 2 ^ 31) : q_rem (nI t) 8 = nI (t % 8) := pk_rem (d := 8) h (by decide) (by decide)
theorem q4 {t : Nat} (h : t < 2 ^ 31) : q_rem (nI t) 4 = nI (t % 4) := pk_rem (d := 4) h (by decide) (by decide)
theorem q2 {t : Nat} (h : t < 2 ^ 31) : q_rem (nI t) 2 = nI (t % 2) := pk_rem (d := 2) h (by decide) (by decide)
theorem q3 {t : Nat} (h : t < 2 ^ 31) : q_rem (nI t) 3 = nI (t % 3) := pk_rem (d := 3) h (by decide) (by decide)
theorem q12 {t : Nat} (h : t < 2 ^ 31) : q_rem (nI t) 12 = nI (t % 12) := pk_rem (d := 12) h (by decide) (by decide)
theorem v8 {t : Nat} (h : t < 2 ^ 31) : nI t / 8 = nI (t / 8) := pk_div (d := 8) h (by decide) (by decide)
theorem v4 {t : Nat} (h : t < 2 ^ 31) : nI t / 4 = nI (t / 4) := pk_div (d := 4) h (by decide) (by decide)
theorem v3 {t : Nat} (h : t < 2 ^ 31) : nI t / 3 = nI (t / 3) := pk_div (d := 3) h (by decide) (by decide)
theorem x0_set (a b c : Int32) (C : St) : ∃ C', xX0_set a b c C = some C' ∧ C' 0 0 = a ∧ C' 1 0 = b ∧ C' 2 0 = c := by
  unfold xX0_set
  simp only [q_let]
  exact ⟨_, rfl, by simp [su_at], by simp [su_at], by simp [su_at]⟩
/-- what a draw is, of the class and of the model -/
theorem dr_one {n : Nat} (hn : n < 2 ^ 31) (C : St) : ∃ C' k' w' v', xX0_setByDraw (nI n) C = some C' ∧ AR (C' 0 0) (C' 1 0) (C' 2 0) k' w' v' ∧ ∀ B, xX9_drawn (nI (n % 8)) (nI (n / 8)) B = xX9_drawn_h103 (nI (n % 8)) (nI (n / 8)) k' w' v' B := by
  unfold xX0_setByDraw xX0_setByDraw_h104 xX9_drawn xX9_drawn_h49 xX9_drawn_h65
  have hy : n / 8 < 2 ^ 31 := by omega
  have hb : n % 8 < 8 := Nat.mod_lt _ (by decide)
  rw [q8 hn, v8 hn]
  generalize n / 8 = y at hy ⊢
  generalize n % 8 = b at hb ⊢
  rw [q8 hy, q4 hy, v8 hy, v4 hy, q8 (show y / 8 < 2 ^ 31 by omega), q12 (show y / 8 < 2 ^ 31 by omega), q2 (show y / 4 < 2 ^ 31 by omega), q8 (show y / 4 < 2 ^ 31 by omega)]
  have c : ∀ j, j < 8 → (nI b = nI j ↔ b = j) := fun j hj => nI_eq (by omega) (by omega)
  have d : ∀ j, j < 8 → (nI j ≤ nI b ↔ j ≤ b) := fun j hj => nI_leI (by omega) (by omega)
  have c0 : nI b = 0 ↔ b = 0 := c 0 (by decide)
  have c1 : nI b = 1 ↔ b = 1 := c 1 (by decide)
  have c2 : nI b = 2 ↔ b = 2 := c 2 (by decide)
  have c3 : nI b = 3 ↔ b = 3 := c 3 (by decide)
  have c4 : nI b = 4 ↔ b = 4 := c 4 (by decide)
  have c5 : nI b = 5 ↔ b = 5 := c 5 (by decide)
  have d2 : 2 ≤ nI b ↔ 2 ≤ b := d 2 (by decide)
  have d3 : 3 ≤ nI b ↔ 3 ≤ b := d 3 (by decide)
  have d5 : 5 ≤ nI b ↔ 5 ≤ b := d 5 (by decide)
  have l0 : y % 8 < 8 := Nat.mod_lt _ (by decide)
  have l1 : y / 8 % 8 < 8 := Nat.mod_lt _ (by decide)
  have l2 : y / 8 % 12 < 12 := Nat.mod_lt _ (by decide)
  have l3 : y % 4 < 4 := Nat.mod_lt _ (by decide)
  have l5 : y / 4 % 8 < 8 := Nat.mod_lt _ (by decide)
  simp only [c0, c1, c2, c3, c4, c5, d2, d3, d5]
  by_cases b1 : b < 2
  · obtain ⟨C', e, f0, f1, f2⟩ := x0_set 0 (nI (y % 8)) (nI (y / 8 % 8)) C
    refine ⟨C', 0, nI (y % 8), nI (y / 8 % 8), ?_, ?_, fun B => ?_⟩
    · by_cases b0 : b = 0
      · rw [if_pos b0, e]; rfl
      · rw [if_neg b0, if_pos (by omega), e]; rfl
    · rw [f0, f1, f2]; exact Or.inl ⟨rfl, rfl, rfl, rfl, ⟨_, l0, rfl⟩, _, l1, rfl⟩
    · rw [if_neg (by omega), if_neg (by omega), if_neg (by omega)]
  by_cases b2 : b = 2
  · obtain ⟨C', e, f0, f1, f2⟩ := x0_set 1 (nI (y % 8)) (nI (y / 8 % 12)) C
    refine ⟨C', 1, nI (y % 8), nI (y / 8 % 12), ?_, ?_, fun B => ?_⟩
    · rw [if_neg (by omega), if_neg (by omega), if_pos b2, e]; rfl
    · rw [f0, f1, f2]; exact Or.inr (Or.inl ⟨rfl, rfl, rfl, rfl, ⟨_, l0, rfl⟩, _, l2, rfl⟩)
    · rw [if_pos (show 2 ≤ b by omega), if_pos b2, if_neg (show ¬ 3 ≤ b by omega), if_pos (show 2 ≤ b by omega), if_pos b2]
  by_cases b3 : b < 5
  · by_cases hq : nI (y / 4 % 2) = 0
    · obtain ⟨C', e, f0, f1, f2⟩ := x0_set 2 (nI (y % 4)) 1 C
      refine ⟨C', 2, nI (y % 4), nI (y / 4 % 8), ?_, ?_, fun B => ?_⟩
      · simp only [if_pos hq, e]
        rw [if_neg (by omega), if_neg (by omega), if_neg (by omega)]
        by_cases b4 : b = 3
        · rw [if_pos b4]; rfl
        · rw [if_neg b4, if_pos (by omega)]; rfl
      · rw [f0, f1, f2]; exact Or.inr (Or.inr (Or.inl ⟨rfl, rfl, rfl, rfl, _, l3, rfl⟩))
      · simp only [if_pos hq, if_pos (show 2 ≤ b by omega), if_neg (show ¬ b = 2 by omega), if_neg (show ¬ 5 ≤ b by omega), if_pos (show 3 ≤ b by omega)]
    · obtain ⟨C', e, f0, f1, f2⟩ := x0_set 2 (nI (y % 4)) (-1) C
      refine ⟨C', 3, nI (y % 4), nI (y / 4 % 8), ?_, ?_, fun B => ?_⟩
      · simp only [if_neg hq, e]
        rw [if_neg (by omega), if_neg (by omega), if_neg (by omega)]
        by_cases b4 : b = 3
        · rw [if_pos b4]; rfl
        · rw [if_neg b4, if_pos (by omega)]; rfl
      · rw [f0, f1, f2]; exact Or.inr (Or.inr (Or.inr (Or.inl ⟨rfl, rfl, rfl, rfl, _, l3, rfl⟩)))
      · simp only [if_neg hq, if_pos (show 2 ≤ b by omega), if_neg (show ¬ b = 2 by omega), if_neg (show ¬ 5 ≤ b by omega), if_pos (show 3 ≤ b by omega)]
  by_cases b5 : b = 5
  · obtain ⟨C', e, f0, f1, f2⟩ := x0_set 3 (nI (y % 4)) (nI (y / 4 % 8)) C
    refine ⟨C', 4, nI (y % 4), nI (y / 4 % 8), ?_, ?_, fun B => ?_⟩
    · rw [if_neg (by omega), if_neg (by omega), if_neg (by omega), if_neg (by omega), if_neg (by omega), if_pos b5, e]; rfl
    · rw [f0, f1, f2]; exact Or.inr (Or.inr (Or.inr (Or.inr (Or.inl ⟨rfl, rfl, rfl, rfl, ⟨_, l3, rfl⟩, _, l5, rfl⟩))))
    · simp only [if_pos (show 2 ≤ b by omega), if_neg (show ¬ b = 2 by omega), if_pos (show 5 ≤ b by omega), if_pos b5, if_pos (show 3 ≤ b by omega)]
  · obtain ⟨C', e, f0, f1, f2⟩ := x0_set 4 0 0 C
    refine ⟨C', 5, nI (y % 4), nI (y / 4 % 8), ?_, ?_, fun B => ?_⟩
    · rw [if_neg (by omega), if_neg (by omega), if_neg (by omega), if_neg (by omega), if_neg (by omega), if_neg b5, e]; rfl
    · rw [f0, f1, f2]; exact Or.inr (Or.inr (Or.inr (Or.inr (Or.inr ⟨rfl, rfl⟩))))
    · simp only [if_pos (show 2 ≤ b by omega), if_neg (show ¬ b = 2 by omega), if_pos (show 5 ≤ b by omega), if_neg b5, if_pos (show 3 ≤ b by omega)]
theorem lit_65537 : (65537 : Int32) = nI 65537 := by decide +kernel
theorem nx32 {x : Nat} (hx : x ≤ 65536) : q_rem (75 * nI x + 74) 65537 = nI ((75 * x + 74) % 65537) := by
  rw [show (75 : Int32) = nI 75 by decide, show (74 : Int32) = nI 74 by decide, pk_mul, nI_add, lit_65537]
  exact pk_rem (d := 65537) (by omega) (by decide) (by decide)
theorem nx64 {x : Nat} (hx : x ≤ 65536) : (q_reml (75 * (nI x).toInt64 + 74) 65537).toInt32 = nI ((75 * x + 74) % 65537) := by
  rw [nI_l (by omega), show (75 : Int64) = lN 75 by decide, show (74 : Int64) = lN 74 by decide, lN_mul, lN_add, show (65537 : Int64) = lN 65537 by decide +kernel]
  unfold q_reml
  rw [pk_lRem (by omega) (by decide) (by decide), lN_i]
def outS (p0 p1 p2 : Int32) (S0 : St) : Option (Int32 × St) := if p2 = 0 then ((xX9_lying S0).bind fun q14 => (xX9_storm_h127 p0 p1 p2 q14 S0)) else (if p2 = 1 then (xX9_storm_h127 p0 p1 p2 (S0 21 0) S0) else ((xX9_allNoted S0).bind fun q12 => (xX9_storm_h127 p0 p1 p2 q12 S0)))
theorem storm_loop (p0 p2 : Int32) {N : Nat} (hN : N ≤ 99) : ∀ d e fa fb x (O A C B : St), e + d = N → d < fa → d < fb → x ≤ 65536 → pe A B → ok A → O 5 0 = B 21 0 → ∃ O' A' C' B', xX3_followDraws_h5 p0 (nI N) fa (nI x) (nI e) O A C = some (O', A', C') ∧ xX9_storm_h55 p0 (nI N) p2 fb (nI x) (nI e) B = outS p0 (nI N) p2 B' ∧ pe A' B' ∧ ok A' ∧ O' 5 0 = B' 21 0 ∧ ∀ q, q = 9 ∨ 11 ≤ q → q ≠ 21 → q ≠ 22 → B' q = B q := by
  intro d
  induction d with
  | zero =>
    intro e fa fb x O A C B he hfa hfb hx hp ho h5
    obtain ⟨a, rfl⟩ : ∃ a, fa = a + 1 := ⟨fa - 1, by omega⟩
    obtain ⟨b, rfl⟩ : ∃ b, fb = b + 1 := ⟨fb - 1, by omega⟩
    refine ⟨O, A, C, B, ?_, ?_, hp, ho, h5, fun _ _ _ _ => rfl⟩
    · rw [xX3_followDraws_h5_s, if_pos (nI_le (by omega) (by omega))]
    · rw [xX9_storm_h55_s, if_pos (nI_le (by omega) (by omega))]
      rfl
  | succ d ih =>
    intro e fa fb x O A C B he hfa hfb hx hp ho h5
    obtain ⟨a, rfl⟩ : ∃ a, fa = a + 1 := ⟨fa - 1, by omega⟩
    obtain ⟨b, rfl⟩ : ∃ b, fb = b + 1 := ⟨fb - 1, by omega⟩
    rw [xX3_followDraws_h5_s, if_neg (nI_ge (by omega) (by omega)), xX9_storm_h55_s, if_neg (nI_ge (by omega) (by omega)), nx32 hx, nx64 hx]
    have hz : (75 * x + 74) % 65537 ≤ 65536 := by omega
    generalize (75 * x + 74) % 65537 = z at hz ⊢
    obtain ⟨C', k', w', v', c1, c2, c3⟩ := dr_one (n := z) (by omega) C
    rw [c1, Option.bind_some, q8 (by omega), v8 (by omega), c3, nI_1]
    unfold xX9_drawn_h103
    obtain ⟨r, r1, r2, r3⟩ := tr_act O hp ho c2
    rw [r1, Option.bind_some]
    rcases r3 with ⟨s1, s2⟩ | ⟨s0, m, O', A', B', s1, s2, s3, s4, s5, s6, s7, s8⟩
    · rw [s2, Option.bind_some, if_neg s1, Option.bind_some]
      exact ih (e + 1) a b z O A C' B (by omega) (by omega) (by omega) hz hp ho h5
    · rw [s2, Option.bind_some, if_pos s0, s3, Option.bind_some, Option.bind_some]
      obtain ⟨O2, A2, C2, B2, t1, t2, t3, t4, t5, t6⟩ := ih (e + 1) a b z O' A' C' B' (by omega) (by omega) (by omega) hz s4 s5 (by rw [s8.2.2.2.1, s6.1, h5])
      exact ⟨O2, A2, C2, B2, t1, t2, t3, t4, t5, fun q h1 h2 h3 => by rw [t6 q h1 h2 h3, s7 q h1 h2 h3]⟩
/-- what is put back is what was, as far as it counts -/
theorem back_ke {M T B : St} (h1 : ∀ r, r ≠ 23 → r ≠ 24 → r ≠ 25 → T r = M r) (h2 : hd M T) (h3 : B 9 0 = M 9 0) (h4 : ∀ r, (11 ≤ r ∧ r ≤ 16) ∨ r = 23 ∨ r = 33 ∨ r = 34 → B r = T r) (v : Int32) : ∃ U, xX9_back v B = some (v, U) ∧ ke M U ∧ ∀ r, 11 ≤ r → r ≠ 24 → r ≠ 25 → U r = B r := by
  obtain ⟨U, a, b, c⟩ := x9_bk (h2.keep (h4 23 (by omega))) h3 v
  exact ⟨U, a, ⟨b, fun r hr => by rw [c r (by omega) (by omega) (by omega), h4 r (by omega), h1 r (by omega) (by omega) (by omega)]⟩, c⟩
theorem op_storm {S0 M : St} (hp : pe S0 M) (ho : ok S0) (S2 S3 S4 : St) (p0 p1 p2 : Int32) : ∃ r S2' S3' S4' M', xX8_storm S0 p0 p1 p2 S2 S3 S4 = some (r, S2', S3', S4') ∧ xX9_storm p0 p1 p2 M = some (r, M') ∧ ke M M' := by
  unfold xX8_storm xX9_storm
  rw [m_in p0 (a := 0) (b := 9999) (by decide +kernel) (by decide +kernel), m_in p1 (a := 1) (b := 99) (by decide +kernel) (by decide +kernel), m_in p2 (a := 0) (b := 2) (by decide +kernel) (by decide +kernel)]
  by_cases c1 : xX8_within p0 0 9999 = 0
  · simp only [if_pos c1]
    exact ⟨_, _, _, _, _, rfl, rfl, ke.rf⟩
  by_cases c2 : xX8_within p1 1 99 = 0
  · simp only [if_neg c1, if_pos c2]
    exact ⟨_, _, _, _, _, rfl, rfl, ke.rf⟩
  by_cases c3 : xX8_within p2 0 2 = 0
  · simp only [if_neg c1, if_neg c2, if_pos c3]
    exact ⟨_, _, _, _, _, rfl, rfl, ke.rf⟩
  rw [if_neg c1, if_neg c2, if_neg c3, if_neg c1, if_neg c2, if_neg c3]
  obtain ⟨x, hx, e0⟩ := m_nat (n := 9999) (by decide +kernel) (m_w1 c1)
  obtain ⟨N, hN, e1⟩ := m_nat (n := 99) (x := p1) (b := 99) (by decide) ⟨by
    have := (m_w1 c2).1
    rw [fa_le] at this ⊢
    have a : (0 : Int32).toInt = 0 := by decide
    have b : (1 : Int32).toInt = 1 := by decide
    omega, (m_w1 c2).2⟩
  obtain ⟨O, A, s1, s2, s3, s4, s5, s6, s7, s8⟩ := x3_start ho S2 S3
  obtain ⟨T, t1, t2, t3⟩ := ca0 M
  rw [s1, Option.bind_some, t1, Option.bind_some]
  simp only [q_let]
  have hpT : pe S0 (q_su T 21 0 0) := by
    refine pe.other (hp.trans ⟨fun r k hr hk => ?_, fun r k h5 hr hk => ?_, ?_, ?_⟩) (by omega) 0 0
    · rw [t2 r (by omega) (by omega) (by omega)]
    · rw [t2 r (by omega) (by omega) (by omega)]
    · rw [t2 9 (by omega) (by omega) (by omega)]
    · rw [t2 10 (by omega) (by omega) (by omega)]
  obtain ⟨O', A', C', B', u1, u2, u3, u4, u5, u6⟩ := storm_loop p0 p2 hN N 0 5000 5000 x O A S4 (q_su T 21 0 0) (by omega) (by omega) (by omega) (by omega) (s2.trans hpT) (ok_pe ho s2.symm) (by rw [s6]; simp [su_at])
  unfold xX3_followDraws
  rw [nI_0, ← e1, ← e0] at u1 u2
  rw [u1, u2, Option.bind_some]
  have h9 : B' 9 0 = M 9 0 := by rw [u6 9 (by omega) (by omega) (by omega), su_row (by omega), t2 9 (by omega) (by omega) (by omega)]
  have bk := fun v => back_ke t2 t3 h9 (fun r hr => by rw [u6 r (by omega) (by omega) (by omega), su_row (by omega)]) v
  unfold outS xX9_storm_h127
  by_cases d0 : p2 = 0
  · obtain ⟨U, b1, b2, -⟩ := bk (ly B')
    rw [if_pos d0, if_pos d0, x5_ly, x9_ly (ok_pe u4 u3), Option.bind_some, Option.bind_some, b1, Option.bind_some, ly_pe u3]
    exact ⟨_, _, _, _, _, rfl, rfl, b2⟩
  by_cases d1 : p2 = 1
  · obtain ⟨U, b1, b2, -⟩ := bk (B' 21 0)
    rw [if_neg d0, if_neg d0, if_pos d1, if_pos d1, b1, Option.bind_some]
    dsimp only
    rw [u5]
    exact ⟨_, _, _, _, _, rfl, rfl, b2⟩
  · obtain ⟨U, b1, b2, -⟩ := bk (sm B' 1)
    rw [if_neg d0, if_neg d0, if_neg d1, if_neg d1, x5_noted, x9_noted, Option.bind_some, Option.bind_some, b1, Option.bind_some, sm_pe u3 (by decide)]
    exact ⟨_, _, _, _, _, rfl, rfl, b2⟩
