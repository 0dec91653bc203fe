/-! PURE: the calls that follow the text -/
theorem bk_ke {M B : St} (h : hd M B) (h9 : B 9 0 = M 9 0) (hk : ∀ r, (11 ≤ r ∧ r ≤ 16) ∨ r = 33 ∨ r = 34 → B r = M r) (v : Int32) : ∃ U, xX9_back v B = some (v, U) ∧ ke M U ∧ ∀ r, 11 ≤ r → r ≠ 24 → r ≠ 25 → U r = B r := by
  obtain ⟨U, a, b, c⟩ := x9_bk h h9 v
  exact ⟨U, a, ⟨b, fun r hr => by rw [c r (by omega) (by omega) (by omega), hk r hr]⟩, c⟩
theorem op_faultC {S1 M : St} (h : pd S1 M) : ∃ r M', xX8_fault S1 = some r ∧ xX9_fault M = some (r, M') ∧ ke M M' := by
  obtain ⟨r, M', r1, r2, r3, -⟩ := op_fault h
  refine ⟨r, M', ?_, r2, ⟨⟨fun r k hr hk => ?_, fun r k h5 hr hk => ?_, ?_, ?_⟩, fun r hr => r3 r (by omega) (by omega) (by omega) (by omega)⟩⟩
  · unfold xX8_fault; rw [r1, Option.bind_some]
  · rw [r3 r (by omega) (by omega) (by omega) (by omega)]
  · rw [r3 r (by omega) (by omega) (by omega) (by omega)]
  · rw [r3 9 (by omega) (by omega) (by omega) (by omega)]
  · rw [r3 10 (by omega) (by omega) (by omega) (by omega)]
theorem op_judge {S0 S1 M : St} (hp : pe S0 M) (ho : ok S0) (hd1 : pd S1 M) (S2 S3 S4 : St) (p0 : Int32) : ∃ r S2' S3' S4' M', xX8_judge S0 S1 p0 S2 S3 S4 = some (r, S2', S3', S4') ∧ xX9_judge p0 M = some (r, M') ∧ ke M M' := by
  obtain ⟨v, c, O, A, C, B, e1, e2, h1, h2, h3, h4⟩ := op_refuse hp ho hd1 S2 S3 S4
  obtain ⟨U, b1, b2, b3⟩ := bk_ke h1 h2 h3 c
  unfold xX8_judge xX9_judge xX9_judge_h43
  rw [m_in p0 (a := 0) (b := 2) (by decide +kernel) (by decide +kernel)]
  by_cases c1 : xX8_within p0 0 2 = 0
  · simp only [if_pos c1]
    exact ⟨_, _, _, _, _, rfl, rfl, ke.rf⟩
  rw [if_neg c1, if_neg c1, e1, e2, Option.bind_some, Option.bind_some]
  dsimp only
  rw [b1, Option.bind_some]
  dsimp only
  rw [b3 26 (by omega) (by omega) (by omega), b3 27 (by omega) (by omega) (by omega), b3 21 (by omega) (by omega) (by omega)]
  obtain ⟨w, hw, rfl⟩ := m_nat (n := 2) (by decide) (m_w1 c1)
  have a00 : nI 0 = 0 := by decide
  have a10 : ¬ nI 1 = 0 := by decide
  have a11 : nI 1 = 1 := by decide
  have a20 : ¬ nI 2 = 0 := by decide
  have a21 : ¬ nI 2 = 1 := by decide
  have l0 : nI 0 ≤ 1 := by decide
  have l1 : nI 1 ≤ 1 := by decide
  have l2 : ¬ nI 2 ≤ 1 := by decide
  have hw3 : w = 0 ∨ w = 1 ∨ w = 2 := by omega
  rcases h4 with ⟨rfl, rfl⟩ | ⟨N, f, -, ⟨rfl, rfl, h⟩ | ⟨rfl, rfl, h⟩⟩
  · rw [if_pos rfl, if_pos rfl]
    exact ⟨_, _, _, _, _, rfl, rfl, b2⟩
  · have n35 : ¬ (-3 : Int32) = -5 := by decide
    have n30 : ¬ (-3 : Int32) = 0 := by decide
    rw [if_neg n35, if_neg n35, ← f.2.2.1, ← f.2.2.2.1, ← f.2.2.2.2.1]
    rcases hw3 with rfl | rfl | rfl
    · rw [if_pos a00, if_pos l0, if_pos a00]
      exact ⟨_, _, _, _, _, rfl, rfl, b2⟩
    · rw [if_neg a10, if_pos a11, if_pos l1, if_neg a10, if_pos a11]
      exact ⟨_, _, _, _, _, rfl, rfl, b2⟩
    · rw [if_neg a20, if_neg a21, if_neg n30, if_neg l2, if_pos rfl]
      exact ⟨_, _, _, _, _, rfl, rfl, b2⟩
  · have n05 : ¬ (0 : Int32) = -5 := by decide
    have n65 : ¬ (-6 : Int32) = -5 := by decide
    have n63 : ¬ (-6 : Int32) = -3 := by decide
    rw [if_neg n05, if_neg n65, ← f.2.2.1, ← f.2.2.2.1, ← f.2.2.2.2.1]
    rcases hw3 with rfl | rfl | rfl
    · rw [if_pos a00, if_pos l0, if_pos a00]
      exact ⟨_, _, _, _, _, rfl, rfl, b2⟩
    · rw [if_neg a10, if_pos a11, if_pos l1, if_neg a10, if_pos a11]
      exact ⟨_, _, _, _, _, rfl, rfl, b2⟩
    · rw [if_neg a20, if_neg a21, if_pos rfl, if_neg l2, if_neg n63, if_neg a20, if_neg a21]
      exact ⟨_, _, _, _, _, rfl, rfl, b2⟩
theorem op_behind {S0 S1 M : St} (hp : pe S0 M) (ho : ok S0) (hd1 : pd S1 M) (S2 S3 S4 : St) (p0 p1 : Int32) : ∃ r S2' S3' S4' M', xX8_behind S0 S1 p0 p1 S2 S3 S4 = some (r, S2', S3', S4') ∧ xX9_behind p0 p1 M = some (r, M') ∧ ke M M' := by
  obtain ⟨v, c, O, A, C, B, e1, e2, h1, h2, h3, h4⟩ := op_refuse hp ho hd1 S2 S3 S4
  have bk := fun z => bk_ke h1 h2 h3 z
  unfold xX8_behind xX9_behind xX9_behind_h46
  rw [m_isP, m_in p1 (a := 0) (b := 4) (by decide +kernel) (by decide +kernel)]
  by_cases c0 : xX8_isPerson p0 = 0
  · simp only [if_pos c0]
    exact ⟨_, _, _, _, _, rfl, rfl, ke.rf⟩
  by_cases c1 : xX8_within p1 0 4 = 0
  · simp only [if_neg c0, if_pos c1]
    exact ⟨_, _, _, _, _, rfl, rfl, ke.rf⟩
  rw [if_neg c0, if_neg c0, if_neg c1, if_neg c1, e1, e2, Option.bind_some, Option.bind_some]
  dsimp only
  obtain ⟨j, hj, rfl⟩ := m_P c0
  rcases h4 with ⟨rfl, rfl⟩ | ⟨N, f, -, ⟨rfl, rfl, h⟩ | ⟨rfl, rfl, h⟩⟩
  · obtain ⟨U, b1, b2, -⟩ := bk (-5)
    rw [if_neg (show ¬ (-5 : Int32) = 0 by decide), if_neg (show ¬ (-5 : Int32) = -6 by decide), b1, Option.bind_some]
    exact ⟨_, _, _, _, _, rfl, rfl, b2⟩
  · obtain ⟨U, b1, b2, -⟩ := bk (-3)
    rw [if_neg (show ¬ (-3 : Int32) = 0 by decide), if_neg (show ¬ (-3 : Int32) = -6 by decide), b1, Option.bind_some]
    exact ⟨_, _, _, _, _, rfl, rfl, b2⟩
  · obtain ⟨U, b1, b2, -⟩ := bk (opv B j p1)
    rw [if_pos rfl, if_pos rfl, x5_op hj, x9_op hj, Option.bind_some, Option.bind_some, b1, Option.bind_some, opv_pe f.1 hj]
    exact ⟨_, _, _, _, _, rfl, rfl, b2⟩
def orv (A : St) (j : Nat) (w : Int32) : Int32 := if w = 0 then A 5 j else if w = 1 then A 6 j else if w = 2 then A 7 j else if A 6 j = 0 ∧ A 8 j = 0 then 1 else 0
theorem orv_pe {A B : St} (h : pe A B) {j : Nat} (hj : j < 4) (w : Int32) : orv A j w = orv B j w := by
  unfold orv
  rw [h.2.1 5 j (by omega) (by omega) hj, h.2.1 6 j (by omega) (by omega) hj, h.2.1 7 j (by omega) (by omega) hj, h.2.1 8 j (by omega) (by omega) hj]
theorem x5_or {A : St} {j : Nat} (hj : j < 4) (w : Int32) : xX5_ofReader A (nI j) w = some (orv A j w) := by
  unfold xX5_ofReader orv
  simp only [if_pos (m_ib hj (show 4 < 2 ^ 31 by decide)), nI_clamp (show j < 2 ^ 31 by omega), x5_free hj, Option.bind_some]
  by_cases h0 : w = 0
  · simp only [if_pos h0]
  by_cases h1 : w = 1
  · simp only [if_neg h0, if_pos h1]
  by_cases h2 : w = 2
  · simp only [if_neg h0, if_neg h1, if_pos h2]
  simp only [if_neg h0, if_neg h1, if_neg h2]
  by_cases h3 : A 6 j = 0 ∧ A 8 j = 0
  · rw [if_pos h3, if_neg (by decide)]
  · rw [if_neg h3, if_pos rfl]
theorem op_reads {S0 S1 M : St} (hp : pe S0 M) (ho : ok S0) (hd1 : pd S1 M) (S2 S3 S4 : St) (p0 p1 : Int32) : ∃ r S2' S3' S4' M', xX8_reads S0 S1 p0 p1 S2 S3 S4 = some (r, S2', S3', S4') ∧ xX9_reads p0 p1 M = some (r, M') ∧ ke M M' := by
  obtain ⟨v, c, O, A, C, B, e1, e2, h1, h2, h3, h4⟩ := op_refuse hp ho hd1 S2 S3 S4
  have bk := fun z => bk_ke h1 h2 h3 z
  unfold xX8_reads xX9_reads
  rw [m_isR, m_in p1 (a := 0) (b := 3) (by decide +kernel) (by decide +kernel)]
  by_cases c0 : xX8_isReader p0 = 0
  · simp only [if_pos c0]
    exact ⟨_, _, _, _, _, rfl, rfl, ke.rf⟩
  by_cases c1 : xX8_within p1 0 3 = 0
  · simp only [if_neg c0, if_pos c1]
    exact ⟨_, _, _, _, _, rfl, rfl, ke.rf⟩
  rw [if_neg c0, if_neg c0, if_neg c1, if_neg c1, e1, e2, Option.bind_some, Option.bind_some]
  dsimp only
  obtain ⟨j, hj, rfl⟩ := m_R c0
  have em : (if p1 = 0 then (if q_ib (nI j) 4 = true then (xX9_reads_h83 (nI j) p1 c (B 5 (nI j).toNatClampNeg) B) else none) else (if p1 = 1 then (if q_ib (nI j) 4 = true then (xX9_reads_h83 (nI j) p1 c (B 6 (nI j).toNatClampNeg) B) else none) else (if p1 = 2 then (if q_ib (nI j) 4 = true then (xX9_reads_h83 (nI j) p1 c (B 7 (nI j).toNatClampNeg) B) else none) else ((xX9_may B (nI j)).bind fun q10 => (if q10 = 0 then (xX9_reads_h83 (nI j) p1 c 0 B) else (xX9_reads_h83 (nI j) p1 c 1 B)))))) = xX9_reads_h83 (nI j) p1 c (orv B j p1) B := by
    unfold orv
    simp only [if_pos (m_ib hj (show 4 < 2 ^ 31 by decide)), nI_clamp (show j < 2 ^ 31 by omega), x9_may hj, Option.bind_some]
    by_cases h0 : p1 = 0
    · simp only [if_pos h0]
    by_cases h1 : p1 = 1
    · simp only [if_neg h0, if_pos h1]
    by_cases h2 : p1 = 2
    · simp only [if_neg h0, if_neg h1, if_pos h2]
    simp only [if_neg h0, if_neg h1, if_neg h2]
    by_cases h3 : B 6 j = 0 ∧ B 8 j = 0
    · rw [if_pos h3, if_neg (by decide)]
    · rw [if_neg h3, if_pos rfl]
  rw [em]
  unfold xX9_reads_h83 xX9_reads_h98
  rcases h4 with ⟨rfl, rfl⟩ | ⟨N, f, -, ⟨rfl, rfl, h⟩ | ⟨rfl, rfl, h⟩⟩
  · obtain ⟨U, b1, b2, -⟩ := bk (-5)
    rw [if_neg (show ¬ (-5 : Int32) = 0 by decide), if_neg (show ¬ (-5 : Int32) = -6 by decide), b1, Option.bind_some]
    exact ⟨_, _, _, _, _, rfl, rfl, b2⟩
  · obtain ⟨U, b1, b2, -⟩ := bk (-3)
    rw [if_neg (show ¬ (-3 : Int32) = 0 by decide), if_neg (show ¬ (-3 : Int32) = -6 by decide), b1, Option.bind_some]
    exact ⟨_, _, _, _, _, rfl, rfl, b2⟩
  · obtain ⟨U, b1, b2, -⟩ := bk (orv B j p1)
    rw [if_pos rfl, if_pos rfl, x5_or hj, Option.bind_some, b1, Option.bind_some, orv_pe f.1 hj]
    exact ⟨_, _, _, _, _, rfl, rfl, b2⟩
theorem op_yard {S0 S1 M : St} (hp : pe S0 M) (ho : ok S0) (hd1 : pd S1 M) (S2 S3 S4 : St) (p0 : Int32) : ∃ r S2' S3' S4' M', xX8_yard S0 S1 p0 S2 S3 S4 = some (r, S2', S3', S4') ∧ xX9_yard p0 M = some (r, M') ∧ ke M M' := by
  obtain ⟨v, c, O, A, C, B, e1, e2, h1, h2, h3, h4⟩ := op_refuse hp ho hd1 S2 S3 S4
  have bk := fun z => bk_ke h1 h2 h3 z
  unfold xX8_yard xX9_yard xX9_yard_h70
  rw [m_in p0 (a := 0) (b := 3) (by decide +kernel) (by decide +kernel)]
  by_cases c1 : xX8_within p0 0 3 = 0
  · simp only [if_pos c1]
    exact ⟨_, _, _, _, _, rfl, rfl, ke.rf⟩
  rw [if_neg c1, if_neg c1, e1, e2, Option.bind_some, Option.bind_some]
  dsimp only
  rcases h4 with ⟨rfl, rfl⟩ | ⟨N, f, -, ⟨rfl, rfl, h⟩ | ⟨rfl, rfl, h⟩⟩
  · obtain ⟨U, b1, b2, -⟩ := bk (-5)
    rw [if_neg (show ¬ (-5 : Int32) = 0 by decide), if_neg (show ¬ (-5 : Int32) = -6 by decide), b1, Option.bind_some]
    exact ⟨_, _, _, _, _, rfl, rfl, b2⟩
  · obtain ⟨U, b1, b2, -⟩ := bk (-3)
    rw [if_neg (show ¬ (-3 : Int32) = 0 by decide), if_neg (show ¬ (-3 : Int32) = -6 by decide), b1, Option.bind_some]
    exact ⟨_, _, _, _, _, rfl, rfl, b2⟩
  · rw [if_pos rfl, if_pos rfl]
    by_cases d0 : p0 = 0
    · obtain ⟨U, b1, b2, -⟩ := bk (B 10 0)
      rw [if_pos d0, if_pos d0, b1, Option.bind_some, f.1.2.2.2]
      exact ⟨_, _, _, _, _, rfl, rfl, b2⟩
    by_cases d1 : p0 = 1
    · obtain ⟨U, b1, b2, -⟩ := bk (ly B)
      rw [if_neg d0, if_neg d0, if_pos d1, if_pos d1, x5_ly, x9_ly (ok_pe f.2.1 f.1), Option.bind_some, Option.bind_some, b1, Option.bind_some, ly_pe f.1]
      exact ⟨_, _, _, _, _, rfl, rfl, b2⟩
    by_cases d2 : p0 = 2
    · obtain ⟨U, b1, b2, -⟩ := bk (sm B 4)
      rw [if_neg d0, if_neg d0, if_neg d1, if_neg d1, if_pos d2, if_pos d2, x5_figs f.2.1, x9_figs, Option.bind_some, Option.bind_some, b1, Option.bind_some, sm_pe f.1 (by decide)]
      exact ⟨_, _, _, _, _, rfl, rfl, b2⟩
    · obtain ⟨U, b1, b2, -⟩ := bk (nI (mn B))
      rw [if_neg d0, if_neg d0, if_neg d1, if_neg d1, if_neg d2, if_neg d2, x5_mn, x9_mn, Option.bind_some, Option.bind_some, b1, Option.bind_some, mn_pe f.1]
      exact ⟨_, _, _, _, _, rfl, rfl, b2⟩
theorem op_lost {S0 S1 M : St} (hp : pe S0 M) (ho : ok S0) (hd1 : pd S1 M) (S2 S3 S4 : St) (p0 : Int32) : ∃ r S2' S3' S4' M', xX8_lost S0 S1 p0 S2 S3 S4 = some (r, S2', S3', S4') ∧ xX9_lost p0 M = some (r, M') ∧ ke M M' := by
  obtain ⟨v, c, O, A, C, B, e1, e2, h1, h2, h3, h4⟩ := op_refuse hp ho hd1 S2 S3 S4
  obtain ⟨U, b1, b2, b3⟩ := bk_ke h1 h2 h3 c
  unfold xX8_lost xX9_lost
  rw [m_in p0 (a := 0) (b := 1) (by decide +kernel) (by decide +kernel)]
  by_cases c1 : xX8_within p0 0 1 = 0
  · simp only [if_pos c1]
    exact ⟨_, _, _, _, _, rfl, rfl, ke.rf⟩
  rw [if_neg c1, if_neg c1, e1, e2, Option.bind_some, Option.bind_some]
  dsimp only
  rw [b1, Option.bind_some]
  dsimp only
  rw [b3 28 (by omega) (by omega) (by omega), b3 29 (by omega) (by omega) (by omega)]
  rcases h4 with ⟨rfl, rfl⟩ | ⟨N, f, -, ⟨rfl, rfl, h⟩ | ⟨rfl, rfl, h⟩⟩
  · rw [if_neg (show ¬ (-5 : Int32) = 0 by decide), if_neg (show ¬ (-5 : Int32) = -6 by decide)]
    exact ⟨_, _, _, _, _, rfl, rfl, b2⟩
  · rw [if_neg (show ¬ (-3 : Int32) = 0 by decide), if_neg (show ¬ (-3 : Int32) = -6 by decide)]
    exact ⟨_, _, _, _, _, rfl, rfl, b2⟩
  · rw [if_pos rfl, if_pos rfl, ← f.2.2.2.2.2.1, ← f.2.2.2.2.2.2.1]
    by_cases d0 : p0 = 0
    · rw [if_pos d0, if_pos d0]
      exact ⟨_, _, _, _, _, rfl, rfl, b2⟩
    · rw [if_neg d0, if_neg d0]
      exact ⟨_, _, _, _, _, rfl, rfl, b2⟩
theorem op_done {S0 S1 M : St} (hp : pe S0 M) (ho : ok S0) (hd1 : pd S1 M) (S2 S3 S4 : St) : ∃ r S0' S1' S2' S3' S4' M', xX8_done S0 S1 S2 S3 S4 = some (r, S0', S1', S2', S3', S4') ∧ xX9_done M = some (r, M') ∧ pe S0' M' ∧ ok S0' ∧ pd S1' M' ∧ ∀ q, (11 ≤ q ∧ q ≤ 14) ∨ q = 33 ∨ q = 34 → M' q = M q := by
  obtain ⟨v, c, O, A, C, B, e1, e2, h1, h2, h3, h4⟩ := op_refuse hp ho hd1 S2 S3 S4
  have bk := fun z => bk_ke h1 h2 h3 z
  have no : ∀ (z : Int32) (U : St), ke M U → ∃ r S0' S1' S2' S3' S4' M', some (z, S0, S1, O, A, C) = some (r, S0', S1', S2', S3', S4') ∧ some (z, U) = some (r, M') ∧ pe S0' M' ∧ ok S0' ∧ pd S1' M' ∧ ∀ q, (11 ≤ q ∧ q ≤ 14) ∨ q = 33 ∨ q = 34 → M' q = M q := fun z U hU => ⟨_, _, _, _, _, _, _, rfl, rfl, hp.trans hU.1, ho, hd1.keep (hU.2 15 (by omega)) (hU.2 16 (by omega)), fun q hq => hU.2 q (by omega)⟩
  unfold xX8_done xX9_done
  rw [e1, e2, Option.bind_some, Option.bind_some]
  dsimp only
  rcases h4 with ⟨rfl, rfl⟩ | ⟨N, f, h20, ⟨rfl, rfl, h⟩ | ⟨rfl, rfl, h⟩⟩
  · obtain ⟨U, b1, b2, -⟩ := bk (-5)
    rw [if_neg (show ¬ (-5 : Int32) = 0 by decide), if_neg (show ¬ (-5 : Int32) = -6 by decide), b1, Option.bind_some]
    exact no _ U b2
  · obtain ⟨U, b1, b2, -⟩ := bk (-3)
    rw [if_neg (show ¬ (-3 : Int32) = 0 by decide), if_neg (show ¬ (-3 : Int32) = -6 by decide), b1, Option.bind_some]
    exact no _ U b2
  · obtain ⟨T, t1, t2⟩ := x5_copy f.2.1 S0
    unfold xX4_clear
    simp only [if_true, t1, Option.bind_some, q_let]
    have e20 : q_su B 16 0 0 20 0 = O 2 0 := by rw [su_row (by decide), h20, f.2.2.2.2.2.2.2.2 h]
    rw [e20]
    refine ⟨_, _, _, _, _, _, _, rfl, rfl, (t2.trans f.1).other (by omega) 0 0, ok_pe f.2.1 t2.symm, ⟨?_, fun k hk => ?_, 0, by omega, ?_, fun k hk => by omega⟩, fun q hq => ?_⟩
    · simp [su_at]
    · rw [su_row (by decide), su_row (by decide), h3 15 (by omega)]; exact hd1.2.1 k hk
    · rw [nI_0]; simp [su_at]
    · rw [su_row (by omega), h3 q (by omega)]
