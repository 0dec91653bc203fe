/-! PURE: the acts of a text are followed alike -/
def fi (O B : St) (e : Nat) : Prop := O 2 0 = nI e ∧ O 3 0 = -6 ∧ O 4 0 = -6 ∧ O 5 0 = B 21 0 ∧ O 6 0 = B 28 0 ∧ O 7 0 = B 29 0 ∧ (O 6 0 = -6 ∨ 0 ≤ O 6 0) ∧ B 26 0 = -6 ∧ B 27 0 = -6
def fo (O A B : St) (N : Nat) : Prop := pe A B ∧ ok A ∧ O 3 0 = B 26 0 ∧ O 4 0 = B 27 0 ∧ O 5 0 = B 21 0 ∧ O 6 0 = B 28 0 ∧ O 7 0 = B 29 0 ∧ (O 3 0 = -6 ∨ 0 ≤ O 3 0) ∧ (O 3 0 = -6 → O 2 0 = nI N)
def kp (B B' : St) : Prop := ∀ q, q = 9 ∨ 11 ≤ q → q ≠ 21 → q ≠ 22 → ¬ (26 ≤ q ∧ q ≤ 29) → B' q = B q
theorem kp.trans {A B C : St} (h : kp A B) (g : kp B C) : kp A C := fun q a b c d => (g q a b c d).trans (h q a b c d)
set_option maxRecDepth 100000 in
theorem tz_tab : (List.range 256).all (fun m => m == 0 || decide (0 ≤ xJ6_numberOfTrailingZeros_0f7a4 (nI m))) = true := by decide +kernel
theorem tz_at {m : Nat} (h : m < 256) (h0 : m ≠ 0) : 0 ≤ xJ6_numberOfTrailingZeros_0f7a4 (nI m) := by
  have a := List.all_eq_true.mp tz_tab m (List.mem_range.mpr h)
  simp only [Bool.or_eq_true, beq_iff_eq, decide_eq_true_eq] at a
  exact a.resolve_left h0
theorem no_lt {x : Int32} (h : 0 ≤ x) : ¬ x < 0 := by
  rw [fa_le] at h
  rw [fa_lt]
  omega
theorem no_le {x : Int32} (h : 0 ≤ x) (h0 : ¬ x = 0) : ¬ x ≤ 0 := by
  rw [fa_le] at h ⊢
  rw [fa_eq] at h0
  omega
theorem no_m6 {x : Int32} (h : 0 ≤ x) : ¬ x = -6 := fun q => by rw [q] at h; exact absurd h (by decide)
theorem fo_stop {S O : St} (h : ¬ O 3 0 = -6) (f : Nat) (x y : Int32) (A C : St) : xX3_follow_h4 S (f + 1) x y O A C = some (O, A, C) := by
  rw [xX3_follow_h4_s, if_neg h]
  split
  · rfl
  · split <;> rfl
theorem go_stop {B : St} (h : 0 ≤ B 26 0) (f : Nat) (x : Int32) : xX9_goStorms_h31 (f + 1) x B = some B := by
  rw [xX9_goStorms_h31_s, if_pos h]
  split <;> rfl
theorem su_of {B : St} {r k : Nat} {v : Int32} (h : B r k = v) : q_su B r k v = B := by subst h; exact su_self
/-- the model's one act, with what it notes -/
theorem x9_go1 {B B' O O' : St} {e m : Nat} (he : e < 60) (hm : m < 256) (h : xX9_happen (B 17 e) (B 18 e) (B 19 e) B = some B') (hl : lostIs (B 21 0) m B') (hk : ∀ q, q = 9 ∨ 11 ≤ q → q ≠ 21 → q ≠ 22 → B' q = B q) (hn : noted m O O') (hi : fi O B e) : ∃ B2, xX9_goOne (nI e) B = some B2 ∧ (∀ q, q ≠ 28 → q ≠ 29 → B2 q = B' q) ∧ fi O' B2 (e + 1) := by
  obtain ⟨i2, i3, i4, i5, i6, i7, i8, i9, i10⟩ := hi
  obtain ⟨n2, n3, n4, n5, n6, n7⟩ := hn
  unfold xX9_goOne
  rw [if_pos (m_ib he (by decide)), nI_clamp (show e < 2 ^ 31 by omega), h, Option.bind_some]
  have k26 := hk 26 (by omega) (by omega) (by omega)
  have k27 := hk 27 (by omega) (by omega) (by omega)
  have k28 := hk 28 (by omega) (by omega) (by omega)
  have k29 := hk 29 (by omega) (by omega) (by omega)
  have o2 : O' 2 0 = nI (e + 1) := by rw [n2, i2, nI_1]
  have o3 : O' 3 0 = -6 := by rw [n3, i3]
  have o4 : O' 4 0 = -6 := by rw [n4, i4]
  have o5 : O' 5 0 = B' 21 0 := by rw [n5, hl.1, i5]
  by_cases m0 : m = 0
  · have w22 : B' 22 0 < 0 := by rw [hl.2, if_pos m0]; decide
    have nz : nI m = 0 := by rw [m0, nI_0]
    obtain ⟨q6, q7⟩ := n6 (Or.inl nz)
    refine ⟨B', by rw [if_pos w22], fun _ _ _ => rfl, o2, o3, o4, o5, ?_, ?_, ?_, ?_, ?_⟩
    · rw [q6, k28, i6]
    · rw [q7, k29, i7]
    · rw [q6]; exact i8
    · rw [k26]; exact i9
    · rw [k27]; exact i10
  · have w22 : ¬ B' 22 0 < 0 := by rw [hl.2, if_neg m0]; exact no_lt (tz_at hm m0)
    have nz : ¬ nI m = 0 := nI_ne0 (by omega) (by omega)
    by_cases h6 : O 6 0 = -6
    · have w28 : ¬ 0 ≤ B' 28 0 := by rw [k28, ← i6, h6]; decide
      obtain ⟨q6, q7⟩ := n7 nz h6
      rw [if_neg w22, if_neg w28]
      simp only [q_let]
      refine ⟨_, rfl, fun q a b => by rw [su_row b, su_row a], o2, o3, o4, ?_, ?_, ?_, ?_, ?_, ?_⟩
      · rw [su_row (by decide), su_row (by decide)]; exact o5
      · rw [q6, i2, su_row (by decide)]; simp [su_at]
      · rw [q7, su_row (show (22 : Nat) ≠ 28 by decide), hl.2, if_neg m0]; simp [su_at]
      · rw [q6, i2]; exact Or.inr (nI_pos' (by omega))
      · rw [su_row (by decide), su_row (by decide), k26]; exact i9
      · rw [su_row (by decide), su_row (by decide), k27]; exact i10
    · have h6' : 0 ≤ O 6 0 := i8.resolve_left h6
      have w28 : 0 ≤ B' 28 0 := by rw [k28, ← i6]; exact h6'
      obtain ⟨q6, q7⟩ := n6 (Or.inr h6)
      refine ⟨B', by rw [if_neg w22, if_pos w28], fun _ _ _ => rfl, o2, o3, o4, o5, ?_, ?_, ?_, ?_, ?_⟩
      · rw [q6, k28, i6]
      · rw [q7, k29, i7]
      · rw [q6]; exact i8
      · rw [k26]; exact i9
      · rw [k27]; exact i10
theorem fo_loop {S M1 : St} {n N : Nat} {ps : Nat → Nat} (hn : n ≤ 60) (h1 : S 1 0 = nI n) (hN : N ≤ 60) (hpN : ps N = n) (hps : ∀ e, e < N → ps e < n ∧ actP S (ps e) (ps (e + 1)) (M1 17 e) (M1 18 e) (M1 19 e)) : ∀ d e fa fb (O A C B : St), e + d = N → d + 1 < fa → d + 1 < fb → pe A B → ok A → B 17 = M1 17 → B 18 = M1 18 → B 19 = M1 19 → B 20 0 = nI N → fi O B e → ∃ O' A' C' B', xX3_follow_h4 S fa (nI (ps e)) (nI e) O A C = some (O', A', C') ∧ xX9_goStorms_h31 fb (nI e) B = some B' ∧ fo O' A' B' N ∧ kp B B' := by
  intro d
  induction d with
  | zero =>
    intro e fa fb O A C B he hfa hfb hp ho h17 h18 h19 h20 hi
    obtain ⟨fa, rfl⟩ : ∃ x, fa = x + 1 := ⟨fa - 1, by omega⟩
    obtain ⟨fb, rfl⟩ : ∃ x, fb = x + 1 := ⟨fb - 1, by omega⟩
    obtain rfl : e = N := by omega
    obtain ⟨i2, i3, i4, i5, i6, i7, i8, i9, i10⟩ := hi
    refine ⟨O, A, C, B, ?_, ?_, ⟨hp, ho, by rw [i3, i9], by rw [i4, i10], i5, i6, i7, Or.inl i3, fun _ => i2⟩, fun _ _ _ _ _ => rfl⟩
    · rw [xX3_follow_h4_s, h1, hpN, if_pos (nI_le (Nat.le_refl n) (by omega))]
      split <;> rfl
    · rw [xX9_goStorms_h31_s, h20, if_pos (nI_le (Nat.le_refl e) (by omega))]
  | succ d ih =>
    intro e fa fb O A C B he hfa hfb hp ho h17 h18 h19 h20 hi
    obtain ⟨fa, rfl⟩ : ∃ x, fa = x + 2 := ⟨fa - 2, by omega⟩
    obtain ⟨fb, rfl⟩ : ∃ x, fb = x + 2 := ⟨fb - 2, by omega⟩
    obtain ⟨i2, i3, i4, i5, i6, i7, i8, i9, i10⟩ := id hi
    have heN : e < N := by omega
    obtain ⟨p1, p2, p3, p4⟩ := hps e heN
    obtain ⟨C', c1, c2⟩ := p4 C
    rw [← h17, ← h18, ← h19] at c2
    have n60 : ¬ 60 ≤ nI e := nI_ge (b := 60) (by omega) (by decide)
    have nb : ¬ 0 ≤ B 26 0 := by rw [i9]; decide
    have ps' : nI (ps e) + nI (ps (e + 1) - ps e) = nI (ps (e + 1)) := by rw [nI_add]; congr 1; omega
    obtain ⟨r, r1, r2, r3⟩ := tr_act O hp ho c2
    rw [xX3_follow_h4_s, if_neg n60, h1, if_neg (nI_ge p1 (by omega)), if_pos i3, c1, Option.bind_some, xX9_goStorms_h31_s, h20, if_neg (nI_ge heN (by omega)), if_neg nb, if_pos (m_ib (show e < 60 by omega) (by decide)), nI_clamp (show e < 2 ^ 31 by omega), r1, Option.bind_some]
    unfold xX9_goStorms_h80 xX9_goStorms_h94 xX3_follow_h58
    simp only [q_let, p3, Option.bind_some, ps', nI_1]
    rcases r3 with ⟨s1, s2⟩ | ⟨s0, m, O', A', B', s1, s2, s3, s4, s5, s6, s7, s8⟩
    · have rl := no_le r2 s1
      rw [s2, Option.bind_some]
      simp only [if_neg s1, if_neg rl]
      have o3 : q_su (q_su O 3 0 (nI e)) 4 0 r 3 0 = nI e := by rw [su_row (by decide)]; simp [su_at]
      have o26 : q_su (q_su B 26 0 (nI e)) 27 0 r 26 0 = nI e := by rw [su_row (by decide)]; simp [su_at]
      have ge : 0 ≤ nI e := nI_pos' (by omega)
      rw [fo_stop (by rw [o3]; exact no_m6 ge), go_stop (by rw [o26]; exact ge)]
      refine ⟨_, _, _, _, rfl, rfl, ⟨(hp.other (by omega) 0 _).other (by omega) 0 _, ho, by rw [o3, o26], by simp [su_at], ?_, ?_, ?_, ?_, ?_⟩, fun q a b c d => by rw [su_row (by omega), su_row (by omega)]⟩
      · rw [su_row (by decide), su_row (by decide), su_row (by decide), su_row (by decide)]; exact i5
      · rw [su_row (by decide), su_row (by decide), su_row (by decide), su_row (by decide)]; exact i6
      · rw [su_row (by decide), su_row (by decide), su_row (by decide), su_row (by decide)]; exact i7
      · rw [o3]; exact Or.inr ge
      · rw [o3]; exact fun q => absurd q (no_m6 ge)
    · subst s0
      rw [s2, Option.bind_some]
      obtain ⟨B2, g1, g2, g3⟩ := x9_go1 (show e < 60 by omega) s1 s3 s6 s7 s8 hi
      simp only [if_true, if_pos (show (0 : Int32) ≤ 0 by decide), su_of i9, su_of i10, g1, Option.bind_some]
      have kk : ∀ q, q = 9 ∨ 11 ≤ q → q ≠ 21 → q ≠ 22 → ¬ (26 ≤ q ∧ q ≤ 29) → B2 q = B q := fun q a b c d => by rw [g2 q (by omega) (by omega), s7 q a b c]
      have hp2 : pe A' B2 := by
        refine s4.trans ⟨fun r k hr hk => ?_, fun r k h5 hr hk => ?_, ?_, ?_⟩
        · rw [g2 r (by omega) (by omega)]
        · rw [g2 r (by omega) (by omega)]
        · rw [g2 9 (by omega) (by omega)]
        · rw [g2 10 (by omega) (by omega)]
      obtain ⟨O2, A2, C2, B3, t1, t2, t3, t4⟩ := ih (e + 1) (fa + 1) (fb + 1) O' A' C' B2 (by omega) (by omega) (by omega) hp2 s5 (by rw [kk 17 (by omega) (by omega) (by omega) (by omega)]; exact h17) (by rw [kk 18 (by omega) (by omega) (by omega) (by omega)]; exact h18) (by rw [kk 19 (by omega) (by omega) (by omega) (by omega)]; exact h19) (by rw [kk 20 (by omega) (by omega) (by omega) (by omega)]; exact h20) g3
      exact ⟨O2, A2, C2, B3, t1, t2, t3, kp.trans kk t4⟩
/-- the class follows the text; the model does, all carried off before -/
theorem op_refuse {S0 S1 M : St} (hp : pe S0 M) (ho : ok S0) (hd1 : pd S1 M) (S2 S3 S4 : St) : ∃ v c O A C B, xX8_followText S0 S1 S2 S3 S4 = some (v, O, A, C) ∧ xX9_refusal M = some (c, B) ∧ hd M B ∧ B 9 0 = M 9 0 ∧ (∀ r, (11 ≤ r ∧ r ≤ 16) ∨ r = 33 ∨ r = 34 → B r = M r) ∧ ((v = -5 ∧ c = -5) ∨ ∃ N, fo O A B N ∧ B 20 0 = nI N ∧ ((v = -3 ∧ c = -3 ∧ ¬ O 3 0 = -6) ∨ (v = 0 ∧ c = -6 ∧ O 3 0 = -6))) := by
  obtain ⟨T, t1, t2, t3⟩ := ca0 M
  have hdT : pd S1 T := hd1.keep (t2 15 (by decide) (by decide) (by decide)) (t2 16 (by decide) (by decide) (by decide))
  obtain ⟨r, M1, r1, r2, r3, r4, r5⟩ := op_fault hdT
  unfold xX8_followText xX9_refusal
  rw [r1, Option.bind_some, t1, Option.bind_some, r2, Option.bind_some]
  dsimp only
  by_cases hr : r = -6
  · obtain ⟨n, N, ps, hn, h1, hN, h20, hp0, hpN, hps⟩ := r5 hr
    obtain ⟨O, A, s1, s2, s3, s4, s5, s6, s7, s8⟩ := x3_start ho S2 S3
    rw [if_pos hr, s1, Option.bind_some, if_pos (by rw [hr]; decide)]
    unfold xX3_follow xX9_goStorms
    simp only [q_let]
    generalize hB : q_su (q_su (q_su (q_su (q_su M1 26 0 (-6)) 27 0 (-6)) 28 0 (-6)) 29 0 (-6)) 21 0 0 = B0
    have kB : ∀ q, q ≠ 21 → ¬ (26 ≤ q ∧ q ≤ 29) → B0 q = M1 q := fun q a b => by rw [← hB, su_row a, su_row (by omega), su_row (by omega), su_row (by omega), su_row (by omega)]
    have hfi : fi O B0 0 := by
      rw [← hB]
      refine ⟨by rw [s3, nI_0], s4, s5, ?_, ?_, ?_, Or.inl s7, ?_, ?_⟩
      · rw [s6]; simp [su_at]
      · rw [s7]; simp [su_at]
      · rw [s8]; simp [su_at]
      · simp [su_at]
      · simp [su_at]
    have hpB : pe A B0 := by
      refine s2.trans (hp.trans ⟨fun r k hr hk => ?_, fun r k h5 hr hk => ?_, ?_, ?_⟩)
      · rw [kB r (by omega) (by omega), r3 r (by omega) (by omega) (by omega) (by omega), t2 r (by omega) (by omega) (by omega)]
      · rw [kB r (by omega) (by omega), r3 r (by omega) (by omega) (by omega) (by omega), t2 r (by omega) (by omega) (by omega)]
      · rw [kB 9 (by omega) (by omega), r3 9 (by omega) (by omega) (by omega) (by omega), t2 9 (by omega) (by omega) (by omega)]
      · rw [kB 10 (by omega) (by omega), r3 10 (by omega) (by omega) (by omega) (by omega), t2 10 (by omega) (by omega) (by omega)]
    obtain ⟨O', A', C', B', u1, u2, u3, u4⟩ := fo_loop hn h1 hN hpN hps N 0 5000 5000 O A S4 B0 (by omega) (by omega) (by omega) hpB (ok_pe ho s2.symm) (kB 17 (by omega) (by omega)) (kB 18 (by omega) (by omega)) (kB 19 (by omega) (by omega)) (by rw [kB 20 (by omega) (by omega)]; exact h20) hfi
    rw [hp0, nI_0] at u1
    rw [nI_0] at u2
    rw [u1, u2, Option.bind_some, Option.bind_some]
    dsimp only
    have kAll : ∀ q, q = 9 ∨ 11 ≤ q → q ≠ 21 → q ≠ 22 → ¬ (26 ≤ q ∧ q ≤ 29) → q ≠ 17 → q ≠ 18 → q ≠ 19 → q ≠ 20 → B' q = T q := fun q a b c d e f g h => by rw [u4 q a b c d, kB q b d, r3 q e f g h]
    have x1 : hd M B' := t3.keep (kAll 23 (by omega) (by omega) (by omega) (by omega) (by omega) (by omega) (by omega) (by omega))
    have x2 : B' 9 0 = M 9 0 := by rw [kAll 9 (by omega) (by omega) (by omega) (by omega) (by omega) (by omega) (by omega) (by omega), t2 9 (by omega) (by omega) (by omega)]
    have x3 : ∀ r, (11 ≤ r ∧ r ≤ 16) ∨ r = 33 ∨ r = 34 → B' r = M r := fun r hr => by rw [kAll r (by omega) (by omega) (by omega) (by omega) (by omega) (by omega) (by omega) (by omega), t2 r (by omega) (by omega) (by omega)]
    have x20 : B' 20 0 = nI N := by rw [u4 20 (by omega) (by omega) (by omega) (by omega), kB 20 (by omega) (by omega)]; exact h20
    by_cases h3 : O' 3 0 = -6
    · have h26 : B' 26 0 < 0 := by rw [← u3.2.2.1, h3]; decide
      rw [if_pos h3, if_pos h26]
      exact ⟨_, _, _, _, _, _, rfl, rfl, x1, x2, x3, Or.inr ⟨N, u3, x20, Or.inr ⟨rfl, rfl, h3⟩⟩⟩
    · have h26 : ¬ B' 26 0 < 0 := by rw [← u3.2.2.1]; exact no_lt (u3.2.2.2.2.2.2.2.1.resolve_left h3)
      rw [if_neg h3, if_neg h26]
      exact ⟨_, _, _, _, _, _, rfl, rfl, x1, x2, x3, Or.inr ⟨N, u3, x20, Or.inl ⟨rfl, rfl, h3⟩⟩⟩
  · rw [if_neg hr, if_neg (no_lt (r4.resolve_left hr))]
    exact ⟨_, _, _, _, _, _, rfl, rfl, t3.keep (r3 23 (by omega) (by omega) (by omega) (by omega)), by rw [r3 9 (by omega) (by omega) (by omega) (by omega), t2 9 (by omega) (by omega) (by omega)], fun r hr => by rw [r3 r (by omega) (by omega) (by omega) (by omega), t2 r (by omega) (by omega) (by omega)], Or.inl ⟨rfl, rfl⟩⟩
