/-! PURE: one act, whole -/
def stepOK (A B C : St) (k' w' v' : Int32) : Prop := ∃ m A' B', m < 256 ∧ xX5_perform C A = some (nI m, A') ∧ xX9_happen k' w' v' B = some B' ∧ pe A' B' ∧ ok A' ∧ lostIs (B 21 0) m B' ∧ (∀ q, q = 9 ∨ 11 ≤ q → q ≠ 21 → q ≠ 22 → B' q = B q)
theorem step_mk {A B C : St} {k' w' v' : Int32} {A' B' : St} (h1 : xX5_perform C A = some (0, A')) (h2 : xX9_happen k' w' v' B = some B') (hp : pe A' B') (ho : ok A') (hk : ∀ q, q = 9 ∨ 11 ≤ q → B' q = q_su B 22 0 (-6) q) : stepOK A B C k' w' v' := by
  refine ⟨0, A', B', by decide, h1, h2, hp, ho, ⟨?_, ?_⟩, fun q a b c => by rw [hk q a, su_row c]⟩
  · rw [hk 21 (by decide), su_row (by decide), show xJ6_bitCount_0f7a4 (nI 0) = 0 by decide +kernel, ad_0]
  · rw [hk 22 (by decide), if_pos rfl]; simp [su_at]
theorem ar_step {A B C : St} {k' w' v' : Int32} (hp : pe A B) (ho : ok A) (h : AR (C 0 0) (C 1 0) (C 2 0) k' w' v') : ∃ r, xX5_whyNot A C = some r ∧ xX9_whyNot B k' w' v' = some r ∧ 0 ≤ r ∧ (r = 0 → stepOK A B C k' w' v') := by
  have hp1 : pe A (q_su B 22 0 (-6)) := hp.other (by omega) 0 _
  rcases h with ⟨h0, rfl, rfl, rfl, ⟨a, ha, e⟩, b, hb, f⟩ | ⟨h0, rfl, rfl, rfl, ⟨a, ha, e⟩, b, hb, f⟩ | ⟨h0, hv, rfl, rfl, a, ha, e⟩ | ⟨h0, hv, rfl, rfl, a, ha, e⟩ | ⟨h0, rfl, rfl, rfl, ⟨a, ha, e⟩, b, hb, f⟩ | ⟨h0, rfl⟩
  · -- thinks
    unfold xX5_whyNot xX5_whyNotThink xX9_whyNot
    have hib : q_ib (nI b) 8 = true := m_ib hb (by decide)
    have hcl : (nI b).toNatClampNeg = b := nI_clamp (by omega)
    simp only [if_pos h0, if_true, e, f, if_pos hib, hcl]
    by_cases c1 : nI a = nI b
    · simp only [if_pos c1, Option.bind_some]
      exact ⟨1, rfl, rfl, by decide, fun q => absurd q (by decide)⟩
    by_cases c2 : A 0 b < 99
    · have c3 : ¬ B 0 b = 99 := by rw [← hp.1 0 b (by omega) hb]; exact (le99 (ho.1 b hb)).mp c2
      simp only [if_neg c1, if_pos c2, if_neg c3, Option.bind_some]
      refine ⟨0, rfl, rfl, by decide, fun _ => ?_⟩
      obtain ⟨x, y⟩ := ac_think hp1 ho hb c2
      refine step_mk ?_ ?_ x y (fun q hq => su_row (by omega))
      · unfold xX5_perform
        simp only [if_pos h0, f, if_pos hib, hcl, q_let]
      · unfold xX9_happen
        simp only [if_true, f, if_pos hib, hcl, q_let]
    · have c3 : B 0 b = 99 := by
        rw [← hp.1 0 b (by omega) hb]
        by_cases q : A 0 b = 99
        · exact q
        · exact absurd ((le99 (ho.1 b hb)).mpr q) c2
      simp only [if_neg c1, if_neg c2, if_pos c3, Option.bind_some]
      exact ⟨2, rfl, rfl, by decide, fun q => absurd q (by decide)⟩
  · -- falls
    unfold xX5_whyNot xX9_whyNot
    have hib : q_ib (nI a) 8 = true := m_ib ha (by decide)
    have hcl : (nI a).toNatClampNeg = a := nI_clamp (by omega)
    have n01 : ¬ (1 : Int32) = 0 := by decide
    simp only [h0, if_neg n01, if_true, e, f, if_pos hib, hcl, x5_lies ha, Option.bind_some]
    rw [← hp.1 0 a (by omega) ha]
    by_cases c1 : A 0 a = 0
    · simp only [if_pos c1]
      exact ⟨3, rfl, rfl, by decide, fun q => absurd q (by decide)⟩
    by_cases c2 : A 2 a = -6
    · have c3 : B 2 a < 0 := ((ok_pe ho hp).lies ha).mpr (by rw [← hp.1 2 a (by omega) ha]; exact c2)
      simp only [if_neg c1, if_pos c2, if_pos c3, if_true]
      refine ⟨0, rfl, rfl, by decide, fun _ => ?_⟩
      obtain ⟨x, y, z⟩ := ac_fall hp1 ho ha (m_rng (n := 11) (b := 11) (by decide) (by decide) (show b ≤ 11 by omega)) c1
      refine step_mk ?_ ?_ x y z
      · unfold xX5_perform
        simp only [h0, if_neg n01, if_true, e, f, x5_drop ha, Option.bind_some]
      · unfold xX9_happen
        simp only [if_neg n01, if_true, e, f, q_let, x9_fall ha, Option.bind_some]
    · have c3 : ¬ B 2 a < 0 := fun q => c2 (by rw [hp.1 2 a (by omega) ha]; exact ((ok_pe ho hp).lies ha).mp q)
      simp only [if_neg c1, if_neg c2, if_neg c3, if_neg n01]
      exact ⟨4, rfl, rfl, by decide, fun q => absurd q (by decide)⟩
  · -- goes up
    have hib : q_ib (nI a) 4 = true := m_ib ha (by decide)
    have hcl : (nI a).toNatClampNeg = a := nI_clamp (by omega)
    have n20 : ¬ (2 : Int32) = 0 := by decide
    have n21 : ¬ (2 : Int32) = 1 := by decide
    unfold xX5_whyNot xX9_whyNot xX9_whyNoStep
    simp only [h0, hv, if_neg n20, if_neg n21, if_true, e, if_pos hib, hcl, x5_free ha, x9_may ha, Option.bind_some, m_isC]
    rw [← hp.2.1 5 a (by omega) (by omega) ha, ← hp.2.1 6 a (by omega) (by omega) ha, ← hp.2.1 8 a (by omega) (by omega) ha]
    by_cases c1 : A 6 a = 0 ∧ A 8 a = 0
    · simp only [if_pos c1, if_neg (show ¬ (1 : Int32) = 0 by decide)]
      by_cases c2 : xX8_isCell (A 5 a + 1) = 0
      · simp only [if_pos c2, Option.bind_some]
        exact ⟨6, rfl, rfl, by decide, fun q => absurd q (by decide)⟩
      · simp only [if_neg c2, Option.bind_some]
        refine ⟨0, rfl, rfl, by decide, fun _ => ?_⟩
        obtain ⟨x, y⟩ := ac_go hp1 ho ha (s := 1) (m_w1 c2)
        refine step_mk ?_ ?_ x y (fun q hq => by rw [su_row (by omega), su_row (by omega)])
        · unfold xX5_perform
          have z1 : vp_nar .boolean 1 = 1 := by decide +kernel
          simp only [h0, hv, if_neg n20, if_neg n21, if_true, e, if_pos hib, hcl, q_let, z1]
        · unfold xX9_happen xX9_walk
          simp only [if_neg n20, if_neg n21, if_true, e, if_pos hib, hcl, q_let, Option.bind_some]
    · simp only [if_neg c1, if_true, Option.bind_some]
      exact ⟨5, rfl, rfl, by decide, fun q => absurd q (by decide)⟩
  · -- goes down
    have hib : q_ib (nI a) 4 = true := m_ib ha (by decide)
    have hcl : (nI a).toNatClampNeg = a := nI_clamp (by omega)
    have n20 : ¬ (2 : Int32) = 0 := by decide
    have n21 : ¬ (2 : Int32) = 1 := by decide
    have n30 : ¬ (3 : Int32) = 0 := by decide
    have n31 : ¬ (3 : Int32) = 1 := by decide
    have n32 : ¬ (3 : Int32) = 2 := by decide
    have sb : ∀ x : Int32, x - 1 = x + (-1) := fun x => by rw [Int32.sub_eq_add_neg]
    unfold xX5_whyNot xX9_whyNot xX9_whyNoStep
    simp only [h0, hv, if_neg n20, if_neg n21, if_neg n30, if_neg n31, if_neg n32, if_true, e, if_pos hib, hcl, x5_free ha, x9_may ha, Option.bind_some, m_isC, sb]
    rw [← hp.2.1 5 a (by omega) (by omega) ha, ← hp.2.1 6 a (by omega) (by omega) ha, ← hp.2.1 8 a (by omega) (by omega) ha]
    by_cases c1 : A 6 a = 0 ∧ A 8 a = 0
    · simp only [if_pos c1, if_neg (show ¬ (1 : Int32) = 0 by decide)]
      by_cases c2 : xX8_isCell (A 5 a + (-1)) = 0
      · simp only [if_pos c2, Option.bind_some]
        exact ⟨6, rfl, rfl, by decide, fun q => absurd q (by decide)⟩
      · simp only [if_neg c2, Option.bind_some]
        refine ⟨0, rfl, rfl, by decide, fun _ => ?_⟩
        obtain ⟨x, y⟩ := ac_go hp1 ho ha (s := -1) (m_w1 c2)
        refine step_mk ?_ ?_ x y (fun q hq => by rw [su_row (by omega), su_row (by omega)])
        · unfold xX5_perform
          have z1 : vp_nar .boolean 1 = 1 := by decide +kernel
          simp only [h0, hv, if_neg n20, if_neg n21, if_true, e, if_pos hib, hcl, q_let, z1]
        · unfold xX9_happen xX9_walk
          simp only [if_neg n30, if_neg n31, if_neg n32, if_true, e, if_pos hib, hcl, q_let, Option.bind_some]
    · simp only [if_neg c1, if_true, Option.bind_some]
      exact ⟨5, rfl, rfl, by decide, fun q => absurd q (by decide)⟩
  · -- reads
    have hib : q_ib (nI a) 4 = true := m_ib ha (by decide)
    have hcl : (nI a).toNatClampNeg = a := nI_clamp (by omega)
    have hib2 : q_ib (nI b) 8 = true := m_ib hb (by decide)
    have hcl2 : (nI b).toNatClampNeg = b := nI_clamp (by omega)
    have n30 : ¬ (3 : Int32) = 0 := by decide
    have n31 : ¬ (3 : Int32) = 1 := by decide
    have n32 : ¬ (3 : Int32) = 2 := by decide
    have n40 : ¬ (4 : Int32) = 0 := by decide
    have n41 : ¬ (4 : Int32) = 1 := by decide
    have n42 : ¬ (4 : Int32) = 2 := by decide
    have n43 : ¬ (4 : Int32) = 3 := by decide
    unfold xX5_whyNot xX9_whyNot
    simp only [h0, if_neg n30, if_neg n31, if_neg n32, if_neg n40, if_neg n41, if_neg n42, if_neg n43, if_true, e, f, if_pos hib, if_pos hib2, hcl, hcl2, x5_free ha, x9_may ha, Option.bind_some]
    rw [← hp.2.1 5 a (by omega) (by omega) ha, ← hp.2.1 6 a (by omega) (by omega) ha, ← hp.2.1 8 a (by omega) (by omega) ha, ← hp.1 2 b (by omega) hb]
    by_cases c1 : A 6 a = 0 ∧ A 8 a = 0
    · simp only [if_pos c1, if_neg (show ¬ (1 : Int32) = 0 by decide)]
      by_cases c2 : A 2 b = A 5 a
      · simp only [if_pos c2]
        refine ⟨0, rfl, rfl, by decide, fun _ => ?_⟩
        obtain ⟨x, y⟩ := ac_read hp1 ho ha hb
        refine step_mk ?_ ?_ x y (fun q hq => by rw [lay_row (by omega) (by omega) (by omega), su_row (by omega), su_row (by omega), su_row (by omega)])
        · unfold xX5_perform
          simp only [h0, if_neg n30, if_neg n31, if_neg n32, if_true, e, f, x5_rd ha hb, Option.bind_some]
        · unfold xX9_happen
          simp only [if_neg n40, if_neg n41, if_neg n42, if_neg n43, if_true, e, f, q_let, x9_rd ha hb, Option.bind_some]
      · simp only [if_neg c2]
        exact ⟨7, rfl, rfl, by decide, fun q => absurd q (by decide)⟩
    · simp only [if_neg c1, if_true]
      exact ⟨5, rfl, rfl, by decide, fun q => absurd q (by decide)⟩
  · -- a second
    unfold xX5_whyNot xX9_whyNot
    have n40 : ¬ (4 : Int32) = 0 := by decide
    have n41 : ¬ (4 : Int32) = 1 := by decide
    have n42 : ¬ (4 : Int32) = 2 := by decide
    have n43 : ¬ (4 : Int32) = 3 := by decide
    have n50 : ¬ (5 : Int32) = 0 := by decide
    have n51 : ¬ (5 : Int32) = 1 := by decide
    have n52 : ¬ (5 : Int32) = 2 := by decide
    have n53 : ¬ (5 : Int32) = 3 := by decide
    have n54 : ¬ (5 : Int32) = 4 := by decide
    simp only [h0, if_neg n40, if_neg n41, if_neg n42, if_neg n43, if_neg n50, if_neg n51, if_neg n52, if_neg n53, if_neg n54]
    rw [← hp.2.2.2]
    by_cases c1 : A 10 0 < 99
    · have c2 := (le99 ho.2.2.2.2.2.2.2.2).mp c1
      simp only [if_pos c1, if_neg c2]
      refine ⟨0, rfl, rfl, by decide, fun _ => ?_⟩
      obtain ⟨m, A', B', r1, r2, r3, r4, r5, r6, r7⟩ := ac_sec hp1 ho c1 (by simp [su_at])
      rw [su_row (by decide)] at r6
      refine ⟨m, A', B', r1, ?_, ?_, r4, r5, r6, fun q a b c => by rw [r7 q a b c, su_row c]⟩
      · unfold xX5_perform
        simp only [h0, if_neg n40, if_neg n41, if_neg n42, if_neg n43, r2, Option.bind_some]
      · unfold xX9_happen
        simp only [if_neg n50, if_neg n51, if_neg n52, if_neg n53, if_neg n54, q_let, r3, Option.bind_some]
    · have c2 : A 10 0 = 99 := by
        by_cases q : A 10 0 = 99
        · exact q
        · exact absurd ((le99 ho.2.2.2.2.2.2.2.2).mpr q) c1
      simp only [if_neg c1, if_pos c2]
      exact ⟨8, rfl, rfl, by decide, fun q => absurd q (by decide)⟩
