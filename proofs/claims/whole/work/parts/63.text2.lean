/-! PURE: the text, act by act: the class and the model find one first fault, or tell the same acts -/
theorem aa {S : St} {p c0 c1 c2 : Int32} (z0 : xX4_signAt S p = some c0) (z1 : xX4_signAt S (p + 1) = some c1) (z2 : xX4_signAt S (p + 2) = some c2) (C : St) : ∃ C', xX4_actAt S p C = some C' ∧ (C' 0 0, C' 1 0, C' 2 0) = (if c0 = 46 then (4, 0, 0) else if xX8_isReader (c0 - 48) = 0 then (if c1 = 62 then (0, c0 - 65, c2 - 65) else (1, c0 - 65, c2 - 97)) else if c1 = 63 then (3, c0 - 48, c2 - 65) else if c1 = 62 then (2, c0 - 48, 1) else (2, c0 - 48, -1)) := by
  unfold xX4_actAt xX4_actAt_h92
  rw [z0, z1, z2]
  simp only [Option.bind_some]
  by_cases h0 : c0 = 46
  · skip
    obtain ⟨C', a, b, c, d⟩ := x0_set 4 0 0 C
    refine ⟨C', ?_, ?_⟩
    · simp only [if_pos h0, a, Option.bind_some]
    · rw [b, c, d]; simp only [if_pos h0]
  by_cases hR : xX8_isReader (c0 - 48) = 0
  · by_cases h1 : c1 = 62
    · skip
      obtain ⟨C', a, b, c, d⟩ := x0_set 0 (c0 - 65) (c2 - 65) C
      refine ⟨C', ?_, ?_⟩
      · simp only [if_neg h0, if_pos hR, if_pos h1, a, Option.bind_some]
      · rw [b, c, d]; simp only [if_neg h0, if_pos hR, if_pos h1]
    · skip
      obtain ⟨C', a, b, c, d⟩ := x0_set 1 (c0 - 65) (c2 - 97) C
      refine ⟨C', ?_, ?_⟩
      · simp only [if_neg h0, if_pos hR, if_neg h1, a, Option.bind_some]
      · rw [b, c, d]; simp only [if_neg h0, if_pos hR, if_neg h1]
  by_cases h3 : c1 = 63
  · skip
    obtain ⟨C', a, b, c, d⟩ := x0_set 3 (c0 - 48) (c2 - 65) C
    refine ⟨C', ?_, ?_⟩
    · simp only [if_neg h0, if_neg hR, if_pos h3, a, Option.bind_some]
    · rw [b, c, d]; simp only [if_neg h0, if_neg hR, if_pos h3]
  by_cases h1 : c1 = 62
  · skip
    obtain ⟨C', a, b, c, d⟩ := x0_set 2 (c0 - 48) 1 C
    refine ⟨C', ?_, ?_⟩
    · simp only [if_neg h0, if_neg hR, if_neg h3, if_pos h1, a, Option.bind_some]
    · rw [b, c, d]; simp only [if_neg h0, if_neg hR, if_neg h3, if_pos h1]
  · skip
    obtain ⟨C', a, b, c, d⟩ := x0_set 2 (c0 - 48) (-1) C
    refine ⟨C', ?_, ?_⟩
    · simp only [if_neg h0, if_neg hR, if_neg h3, if_neg h1, a, Option.bind_some]
    · rw [b, c, d]; simp only [if_neg h0, if_neg hR, if_neg h3, if_neg h1]
theorem fl_end {S : St} {n : Nat} (hn : n ≤ 60) (h1 : S 1 0 = nI n) {B : St} {a : Nat} (ha : a ≤ n) (h16 : B 16 0 = nI n) (h20 : B 20 0 = nI a) (fa fb : Nat) : ∃ r B', xX4_firstFault_h4 S (fa + 1) (nI n) (nI a) = some r ∧ xX9_fault_h9 (fb + 1) 0 (nI n) B = some (r, B') ∧ flt S B B' n a n r := by
  refine ⟨-6, B, ?_, ?_, ⟨fun _ _ _ _ _ => rfl, fun _ _ => ⟨rfl, rfl, rfl⟩⟩, Or.inl rfl, fun _ => ⟨a, fun _ => n, Nat.le_refl a, by omega, h20, rfl, rfl, fun e h1 h2 => by omega⟩⟩
  · rw [xX4_firstFault_h4_s, h1, if_pos (nI_le (Nat.le_refl n) (by omega))]
    split <;> rfl
  · rw [f9_end hn h16, if_pos rfl]
theorem n6 {r : Nat} (hr : r < 100) : ¬ nI r = -6 := fun q => by
  have h1 : 0 ≤ nI r := nI_pos' (by omega)
  rw [q] at h1
  exact absurd h1 (by decide)
theorem fl_main {S : St} {n : Nat} (hn : n ≤ 60) (h1 : S 1 0 = nI n) {M : St} (h16 : M 16 0 = nI n) (hs : ∀ p, ∃ j, j < 127 ∧ (if p < n then S 0 p else 0) = nI j ∧ (p < n → M 15 p = nI j) ∧ (¬ p < n → j = 0)) : ∀ D i a fa fb (B : St), n - i ≤ D → i ≤ n → a ≤ i → D < fa → 3 * D < fb → B 15 = M 15 → B 16 = M 16 → B 20 0 = nI a → ∃ r B', xX4_firstFault_h4 S fa (nI i) (nI a) = some r ∧ xX9_fault_h9 fb 0 (nI i) B = some (r, B') ∧ flt S B B' n a i r := by
  intro D
  induction D with
  | zero =>
    intro i a fa fb B hD hi ha hfa hfb h15 hB16 h20
    obtain ⟨fa, rfl⟩ : ∃ x, fa = x + 1 := ⟨fa - 1, by omega⟩
    obtain ⟨fb, rfl⟩ : ∃ x, fb = x + 1 := ⟨fb - 1, by omega⟩
    obtain rfl : i = n := by omega
    exact fl_end hn h1 ha (by rw [hB16]; exact h16) h20 fa fb
  | succ D ih =>
    intro i a fa fb B hD hi ha hfa hfb h15 hB16 h20
    obtain ⟨fa, rfl⟩ : ∃ x, fa = x + 1 := ⟨fa - 1, by omega⟩
    obtain ⟨fb, rfl⟩ : ∃ x, fb = x + 3 := ⟨fb - 3, by omega⟩
    have hB : B 16 0 = nI n := by rw [hB16]; exact h16
    by_cases hin : i = n
    · subst hin
      exact fl_end hn h1 ha hB h20 fa (fb + 2)
    have hin' : i < n := by omega
    obtain ⟨j0, l0, e0, m0, -⟩ := hs i
    obtain ⟨j1, l1, e1, m1, y1⟩ := hs (i + 1)
    obtain ⟨j2, l2, e2, m2, y2⟩ := hs (i + 2)
    have a2 : nI i + 2 = nI (i + 2) := nI_add i 2
    have a3 : nI i + 3 = nI (i + 3) := nI_add i 3
    have z0 : xX4_signAt S (nI i) = some (nI j0) := by rw [x4_sign hn h1 (by omega), e0]
    have z1 : xX4_signAt S (nI i + 1) = some (nI j1) := by rw [nI_1, x4_sign hn h1 (by omega), e1]
    have z2 : xX4_signAt S (nI i + 2) = some (nI j2) := by rw [a2, x4_sign hn h1 (by omega), e2]
    have ha60 : a < 60 := by omega
    have n60 : ¬ 60 ≤ nI a := nI_ge (b := 60) ha60 (by decide)
    rw [xX4_firstFault_h4_s, if_neg n60, h1, if_neg (nI_ge hin' (by omega)), f9_go hn hB hin' (show B 15 i = nI j0 by rw [h15]; exact m0 hin') (fb + 2) 0]
    have bad : ∀ (r : Nat) (B1 : St), r < 100 → kq a B B1 → ∃ r' B', some (nI r) = some r' ∧ some (nI r, B1) = some (r', B') ∧ flt S B B' n a i r' := fun r B1 hr hk => ⟨nI r, B1, rfl, rfl, flt_bad hr hk⟩
    have good : ∀ (i' : Nat) (B1 : St) (f : Nat), i < i' → i' ≤ n → 3 * D < f → kq a B B1 → B1 20 0 = nI (a + 1) → actP S i i' (B1 17 a) (B1 18 a) (B1 19 a) → ∃ r B', xX4_firstFault_h4 S fa (nI i') (nI (a + 1)) = some r ∧ xX9_fault_h9 f 0 (nI i') B1 = some (r, B') ∧ flt S B B' n a i r := by
      intro i' B1 f g1 g2 g3 hk g4 g5
      obtain ⟨r, B', r1, r2, r3⟩ := ih i' (a + 1) fa f B1 (by omega) g2 (by omega) (by omega) g3 (by rw [hk.1 15 (by decide) (by decide) (by decide) (by decide)]; exact h15) (by rw [hk.1 16 (by decide) (by decide) (by decide) (by decide)]; exact hB16) g4
      exact ⟨r, B', r1, r2, flt_cons hk hin' g5 r3⟩
    obtain ⟨tP, tR, tC, tx, ty⟩ := s_at l0
    obtain ⟨wP, -, wC, -, -⟩ := s_at l2
    have p00 : (0 : Int32) ≤ 0 := by decide
    have p06 : ¬ (0 : Int32) ≤ -6 := by decide
    by_cases hP : xX8_within (nI j0) 65 72 = 0
    · have hP' : xX8_isPerson (nI j0 - 65) = 0 := by rw [tP]; exact hP
      by_cases hR : xX8_within (nI j0) 48 51 = 0
      · by_cases hD46 : nI j0 = 46
        · rw [hD46] at z0
          obtain ⟨F, G⟩ := fo_d z0
          rw [F, Option.bind_some, if_pos rfl, G, Option.bind_some, nI_1, nI_1, b_D ha60 h20 hP hR hD46, Option.bind_some]
          dsimp only
          rw [if_pos p00]
          refine good (i + 1) (cl (q_su B 18 a 0) a 5 0) (fb + 2) (by omega) (by omega) (by omega) (kq_cl (kq_w a B 0) 5 0) (cl_20 _ _ _ _) ?_
          rw [cl_17, cl_18, cl_19]
          refine ⟨by omega, ?_, fun C => ?_⟩
          · rw [G, show i + 1 - i = 1 by omega]; exact congrArg some (by decide)
          · obtain ⟨C', c, e⟩ := aa z0 z1 z2 C
            rw [if_pos rfl, Prod.mk.injEq, Prod.mk.injEq] at e
            refine ⟨C', c, ?_⟩
            rw [e.1]
            exact Or.inr (Or.inr (Or.inr (Or.inr (Or.inr ⟨rfl, rfl⟩))))
        · rw [fo_n z0 hD46 hP' (by rw [tR]; exact hR), Option.bind_some, if_neg (n6 (by omega)), b_N ha60 h20 hP hR hD46, Option.bind_some]
          dsimp only
          rw [if_neg p06]
          exact bad i _ (by omega) (kq_w a B 0)
      · skip
        have h46 := ty hR
        have hR' : ¬ xX8_isReader (nI j0 - 48) = 0 := by rw [tR]; exact hR
        obtain ⟨F, G⟩ := fo_r z0 z1 z2 h46 hP' hR'
        obtain ⟨w, hw, ew⟩ := m_R hR'
        rw [b_R ha60 h20 hP hR, Option.bind_some]
        dsimp only
        rw [if_pos (show (0 : Int32) ≤ 2 by decide)]
        have k1 := kq_w a B (nI j0 - 48)
        have w18 : q_su B 18 a (nI j0 - 48) 18 a = nI j0 - 48 := by simp [su_at]
        have w20 : q_su B 18 a (nI j0 - 48) 20 0 = nI a := by rw [su_row (by decide)]; exact h20
        have w16 : q_su B 18 a (nI j0 - 48) 16 0 = nI n := by rw [su_row (by decide)]; exact hB
        have w15 : ∀ p, q_su B 18 a (nI j0 - 48) 15 p = M 15 p := fun p => by rw [su_row (by decide), h15]
        generalize q_su B 18 a (nI j0 - 48) = B1 at k1 w18 w20 w16 w15 ⊢
        by_cases hi1 : i + 1 = n
        · have hj : j1 = 0 := y1 (by omega)
          have c62 : ¬ nI j1 = 62 := by rw [hj]; decide
          have c60 : ¬ nI j1 = 60 := by rw [hj]; decide
          have c63 : ¬ nI j1 = 63 := by rw [hj]; decide
          rw [if_neg (show ¬ nI j1 = 62 from c62), if_neg (show ¬ nI j1 = 60 from c60), if_neg (show ¬ nI j1 = 63 from c63)] at F
          rw [F, Option.bind_some, nI_1, if_neg (n6 (by omega)), show nI (i + 1) = nI n by rw [hi1], f9_end hn w16 (fb + 1) 2, if_neg (show ¬ (2 : Int32) = 0 by decide)]
          exact bad n B1 (by omega) k1
        have hi1' : i + 1 < n := by omega
        rw [f9_go hn w16 hi1' (show B1 15 (i + 1) = nI j1 by rw [w15]; exact m1 hi1') (fb + 1) 2, b_2 ha60 w20, Option.bind_some]
        by_cases c62 : nI j1 = 62
        · have c63 : ¬ nI j1 = 63 := by rw [c62]; decide
          rw [if_pos c62]
          rw [if_pos c62] at F
          rw [if_neg c63] at G
          dsimp only
          rw [if_pos p00, F, Option.bind_some, if_pos rfl, G, Option.bind_some, a2, nI_1]
          refine good (i + 2) (cl B1 a 2 0) (fb + 1) (by omega) (by omega) (by omega) (kq_cl k1 2 _) (cl_20 _ _ _ _) ?_
          rw [cl_17, cl_18, cl_19, w18]
          refine ⟨by omega, ?_, fun C => ?_⟩
          · rw [G, show i + 2 - i = 2 by omega]; exact congrArg some (by decide)
          · obtain ⟨C', c, e⟩ := aa z0 z1 z2 C
            rw [if_neg h46, if_neg hR', if_neg c63, if_pos c62, Prod.mk.injEq, Prod.mk.injEq] at e
            refine ⟨C', c, ?_⟩
            rw [e.1, e.2.1, e.2.2]
            exact Or.inr (Or.inr (Or.inl ⟨rfl, rfl, rfl, rfl, w, hw, ew⟩))
        by_cases c60 : nI j1 = 60
        · have c63 : ¬ nI j1 = 63 := by rw [c60]; decide
          rw [if_neg c62, if_pos c60]
          rw [if_neg c62, if_pos c60] at F
          rw [if_neg c63] at G
          dsimp only
          rw [if_pos p00, F, Option.bind_some, if_pos rfl, G, Option.bind_some, a2, nI_1]
          refine good (i + 2) (cl B1 a 3 0) (fb + 1) (by omega) (by omega) (by omega) (kq_cl k1 3 _) (cl_20 _ _ _ _) ?_
          rw [cl_17, cl_18, cl_19, w18]
          refine ⟨by omega, ?_, fun C => ?_⟩
          · rw [G, show i + 2 - i = 2 by omega]; exact congrArg some (by decide)
          · obtain ⟨C', c, e⟩ := aa z0 z1 z2 C
            rw [if_neg h46, if_neg hR', if_neg c63, if_neg c62, Prod.mk.injEq, Prod.mk.injEq] at e
            refine ⟨C', c, ?_⟩
            rw [e.1, e.2.1, e.2.2]
            exact Or.inr (Or.inr (Or.inr (Or.inl ⟨rfl, rfl, rfl, rfl, w, hw, ew⟩)))
        by_cases c63 : nI j1 = 63
        · rw [if_neg c62, if_neg c60, if_pos c63]
          dsimp only
          rw [if_pos (show (0 : Int32) ≤ 5 by decide)]
          by_cases hi2 : i + 2 = n
          · have hj : j2 = 0 := y2 (by omega)
            have hz : xX8_isPerson (nI j2 - 65) = 0 := by rw [hj]; decide
            rw [if_neg c62, if_neg c60, if_pos c63, if_pos hz] at F
            rw [F, Option.bind_some, a2, if_neg (n6 (by omega)), show nI (i + 1 + 1) = nI n by rw [show i + 1 + 1 = n by omega], f9_end hn w16 fb 5, if_neg (show ¬ (5 : Int32) = 0 by decide)]
            exact bad n B1 (by omega) k1
          have hi2' : i + 1 + 1 < n := by omega
          rw [f9_go hn w16 hi2' (show B1 15 (i + 1 + 1) = nI j2 by rw [w15]; exact m2 hi2') fb 5, b_5 ha60 w20, Option.bind_some]
          by_cases hv : xX8_within (nI j2) 65 72 = 0
          · rw [if_neg c62, if_neg c60, if_pos c63, if_pos (by rw [wP]; exact hv)] at F
            rw [if_pos hv]
            dsimp only
            rw [if_neg p06, F, Option.bind_some, a2, if_neg (n6 (by omega))]
            exact bad (i + 2) B1 (by omega) k1
          · have hv' : ¬ xX8_isPerson (nI j2 - 65) = 0 := by rw [wP]; exact hv
            obtain ⟨u, hu, eu⟩ := m_P hv'
            rw [if_neg c62, if_neg c60, if_pos c63, if_neg hv'] at F
            rw [if_pos c63] at G
            rw [if_neg hv]
            dsimp only
            rw [if_pos p00, F, Option.bind_some, if_pos rfl, G, Option.bind_some, a3, nI_1]
            refine good (i + 3) (cl B1 a 4 (nI j2 - 65)) fb (by omega) (by omega) (by omega) (kq_cl k1 4 _) (cl_20 _ _ _ _) ?_
            rw [cl_17, cl_18, cl_19, w18]
            refine ⟨by omega, ?_, fun C => ?_⟩
            · rw [G, show i + 3 - i = 3 by omega]; exact congrArg some (by decide)
            · obtain ⟨C', c, e⟩ := aa z0 z1 z2 C
              rw [if_neg h46, if_neg hR', if_pos c63, Prod.mk.injEq, Prod.mk.injEq] at e
              refine ⟨C', c, ?_⟩
              rw [e.1, e.2.1, e.2.2]
              exact Or.inr (Or.inr (Or.inr (Or.inr (Or.inl ⟨rfl, rfl, rfl, rfl, ⟨w, hw, ew⟩, u, hu, eu⟩))))
        rw [if_neg c62, if_neg c60, if_neg c63]
        dsimp only
        rw [if_neg (show ¬ nI j1 = 62 from c62), if_neg (show ¬ nI j1 = 60 from c60), if_neg (show ¬ nI j1 = 63 from c63)] at F
        rw [if_neg p06, F, Option.bind_some, nI_1, if_neg (n6 (by omega))]
        exact bad (i + 1) B1 (by omega) k1
    · skip
      have hP' : ¬ xX8_isPerson (nI j0 - 65) = 0 := by rw [tP]; exact hP
      obtain ⟨hR, h46⟩ := tx hP
      have hR' : xX8_isReader (nI j0 - 48) = 0 := by rw [tR]; exact hR
      obtain ⟨F, G⟩ := fo_p z0 z1 z2 h46 hP'
      obtain ⟨w, hw, ew⟩ := m_P hP'
      rw [b_P ha60 h20 hP, Option.bind_some]
      dsimp only
      rw [if_pos (show (0 : Int32) ≤ 1 by decide)]
      have k1 := kq_w a B (nI j0 - 65)
      have w18 : q_su B 18 a (nI j0 - 65) 18 a = nI j0 - 65 := by simp [su_at]
      have w20 : q_su B 18 a (nI j0 - 65) 20 0 = nI a := by rw [su_row (by decide)]; exact h20
      have w16 : q_su B 18 a (nI j0 - 65) 16 0 = nI n := by rw [su_row (by decide)]; exact hB
      have w15 : ∀ p, q_su B 18 a (nI j0 - 65) 15 p = M 15 p := fun p => by rw [su_row (by decide), h15]
      generalize q_su B 18 a (nI j0 - 65) = B1 at k1 w18 w20 w16 w15 ⊢
      by_cases hi1 : i + 1 = n
      · have hj : j1 = 0 := y1 (by omega)
        have c62 : ¬ nI j1 = 62 := by rw [hj]; decide
        have c64 : ¬ nI j1 = 64 := by rw [hj]; decide
        rw [if_neg (show ¬ nI j1 = 62 from c62), if_neg (show ¬ nI j1 = 64 from c64)] at F
        rw [F, Option.bind_some, nI_1, if_neg (n6 (by omega)), show nI (i + 1) = nI n by rw [hi1], f9_end hn w16 (fb + 1) 1, if_neg (show ¬ (1 : Int32) = 0 by decide)]
        exact bad n B1 (by omega) k1
      have hi1' : i + 1 < n := by omega
      rw [f9_go hn w16 hi1' (show B1 15 (i + 1) = nI j1 by rw [w15]; exact m1 hi1') (fb + 1) 1, b_1, Option.bind_some]
      by_cases c62 : nI j1 = 62
      · rw [if_pos c62]
        dsimp only
        rw [if_pos (show (0 : Int32) ≤ 3 by decide)]
        by_cases hi2 : i + 2 = n
        · have hj : j2 = 0 := y2 (by omega)
          have hz : xX8_isPerson (nI j2 - 65) = 0 := by rw [hj]; decide
          rw [if_pos c62, if_pos hz] at F
          rw [F, Option.bind_some, a2, if_neg (n6 (by omega)), show nI (i + 1 + 1) = nI n by rw [show i + 1 + 1 = n by omega], f9_end hn w16 fb 3, if_neg (show ¬ (3 : Int32) = 0 by decide)]
          exact bad n B1 (by omega) k1
        have hi2' : i + 1 + 1 < n := by omega
        rw [f9_go hn w16 hi2' (show B1 15 (i + 1 + 1) = nI j2 by rw [w15]; exact m2 hi2') fb 3, b_3 ha60 w20, Option.bind_some]
        by_cases hv : xX8_within (nI j2) 65 72 = 0
        · rw [if_pos c62, if_pos (by rw [wP]; exact hv)] at F
          rw [if_pos hv]
          dsimp only
          rw [if_neg p06, F, Option.bind_some, a2, if_neg (n6 (by omega))]
          exact bad (i + 2) B1 (by omega) k1
        · have hv' : ¬ xX8_isPerson (nI j2 - 65) = 0 := by rw [wP]; exact hv
          obtain ⟨u, hu, eu⟩ := m_P hv'
          rw [if_pos c62, if_neg hv'] at F
          rw [if_neg hv]
          dsimp only
          rw [if_pos p00, F, Option.bind_some, if_pos rfl, G, Option.bind_some, a3, nI_1]
          refine good (i + 3) (cl B1 a 0 (nI j2 - 65)) fb (by omega) (by omega) (by omega) (kq_cl k1 0 _) (cl_20 _ _ _ _) ?_
          rw [cl_17, cl_18, cl_19, w18]
          refine ⟨by omega, ?_, fun C => ?_⟩
          · rw [G, show i + 3 - i = 3 by omega]; exact congrArg some (by decide)
          · obtain ⟨C', c, e⟩ := aa z0 z1 z2 C
            rw [if_neg h46, if_pos hR', if_pos c62, Prod.mk.injEq, Prod.mk.injEq] at e
            refine ⟨C', c, ?_⟩
            rw [e.1, e.2.1, e.2.2]
            exact Or.inl ⟨rfl, rfl, rfl, rfl, ⟨w, hw, ew⟩, u, hu, eu⟩
      by_cases c64 : nI j1 = 64
      · rw [if_neg c62, if_pos c64]
        dsimp only
        rw [if_pos (show (0 : Int32) ≤ 4 by decide)]
        by_cases hi2 : i + 2 = n
        · have hj : j2 = 0 := y2 (by omega)
          have hz : xX8_isCell (nI j2 - 97) = 0 := by rw [hj]; decide
          rw [if_neg c62, if_pos c64, if_pos hz] at F
          rw [F, Option.bind_some, a2, if_neg (n6 (by omega)), show nI (i + 1 + 1) = nI n by rw [show i + 1 + 1 = n by omega], f9_end hn w16 fb 4, if_neg (show ¬ (4 : Int32) = 0 by decide)]
          exact bad n B1 (by omega) k1
        have hi2' : i + 1 + 1 < n := by omega
        rw [f9_go hn w16 hi2' (show B1 15 (i + 1 + 1) = nI j2 by rw [w15]; exact m2 hi2') fb 4, b_4 ha60 w20, Option.bind_some]
        by_cases hv : xX8_within (nI j2) 97 108 = 0
        · rw [if_neg c62, if_pos c64, if_pos (by rw [wC]; exact hv)] at F
          rw [if_pos hv]
          dsimp only
          rw [if_neg p06, F, Option.bind_some, a2, if_neg (n6 (by omega))]
          exact bad (i + 2) B1 (by omega) k1
        · have hv' : ¬ xX8_isCell (nI j2 - 97) = 0 := by rw [wC]; exact hv
          obtain ⟨u, hu, eu⟩ := m_C hv'
          rw [if_neg c62, if_pos c64, if_neg hv'] at F
          rw [if_neg hv]
          dsimp only
          rw [if_pos p00, F, Option.bind_some, if_pos rfl, G, Option.bind_some, a3, nI_1]
          refine good (i + 3) (cl B1 a 1 (nI j2 - 97)) fb (by omega) (by omega) (by omega) (kq_cl k1 1 _) (cl_20 _ _ _ _) ?_
          rw [cl_17, cl_18, cl_19, w18]
          refine ⟨by omega, ?_, fun C => ?_⟩
          · rw [G, show i + 3 - i = 3 by omega]; exact congrArg some (by decide)
          · obtain ⟨C', c, e⟩ := aa z0 z1 z2 C
            rw [if_neg h46, if_pos hR', if_neg c62, Prod.mk.injEq, Prod.mk.injEq] at e
            refine ⟨C', c, ?_⟩
            rw [e.1, e.2.1, e.2.2]
            exact Or.inr (Or.inl ⟨rfl, rfl, rfl, rfl, ⟨w, hw, ew⟩, u, hu, eu⟩)
      rw [if_neg c62, if_neg c64]
      dsimp only
      rw [if_neg (show ¬ nI j1 = 62 from c62), if_neg (show ¬ nI j1 = 64 from c64)] at F
      rw [if_neg p06, F, Option.bind_some, nI_1, if_neg (n6 (by omega))]
      exact bad (i + 1) B1 (by omega) k1
theorem op_fault {S M : St} (h : pd S M) : ∃ r M', xX4_firstFault S = some r ∧ xX9_fault M = some (r, M') ∧ (∀ q, q ≠ 17 → q ≠ 18 → q ≠ 19 → q ≠ 20 → M' q = M q) ∧ (r = -6 ∨ 0 ≤ r) ∧ (r = -6 → ∃ n N, ∃ ps : Nat → Nat, n ≤ 60 ∧ S 1 0 = nI n ∧ N ≤ 60 ∧ M' 20 0 = nI N ∧ ps 0 = 0 ∧ ps N = n ∧ ∀ e, e < N → ps e < n ∧ actP S (ps e) (ps (e + 1)) (M' 17 e) (M' 18 e) (M' 19 e)) := by
  obtain ⟨n, hn, h1, h16, hs⟩ := sgn_at h
  unfold xX4_firstFault xX9_fault
  simp only [q_let]
  obtain ⟨r, B', r1, r2, r3, r4, r5⟩ := fl_main hn h1 h16 hs 60 0 0 5000 5000 (q_su M 20 0 0) (by omega) (by omega) (by omega) (by omega) (by omega) (su_row (by decide)) (su_row (by decide)) (by rw [nI_0]; simp [su_at])
  rw [nI_0] at r1 r2
  refine ⟨r, B', r1, r2, fun q a b c d => by rw [r3.1 q a b c d, su_row d], r4, fun hr => ?_⟩
  obtain ⟨N, ps, g1, g2, g3, g4, g5, g6⟩ := r5 hr
  exact ⟨n, N, ps, hn, h1, g2, g3, g4, g5, fun e he => g6 e (Nat.zero_le e) he⟩
