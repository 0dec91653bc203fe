/-! PURE: images kept, and put back -/
def ge (A B : St) : Prop := A 3 0 = B 3 0 ∧ ∀ k, k < 8 → A 0 k = B 0 k ∧ A 1 k = B 1 k ∧ A 2 k = B 2 k
/-- the model's rows of sights, of two states, are alike -/
def mg (A B : St) : Prop := A 14 0 = B 14 0 ∧ ∀ k, k < 8 → A 11 k = B 11 k ∧ A 12 k = B 12 k ∧ A 13 k = B 13 k
theorem sg.to {G T V V' : St} (h : sg G V) (g : ge T G) (v : mg V V') : sg T V' := by
  obtain ⟨h1, h2, n, hn, h3, h4⟩ := h
  refine ⟨by rw [g.1, h1, v.1], fun k hk => ?_, n, hn, by rw [g.1, h3], fun k hk => ?_⟩
  · obtain ⟨a1, a2, a3⟩ := h2 k hk
    obtain ⟨b1, b2, b3⟩ := g.2 k hk
    obtain ⟨c1, c2, c3⟩ := v.2 k hk
    exact ⟨by rw [b1, a1, c1], by rw [b2, a2, c2], by rw [b3, a3, c3]⟩
  · obtain ⟨b1, b2, b3⟩ := g.2 k (by omega)
    rw [b1, b2, b3]
    exact h4 k hk
theorem x7_copy (G X : St) : ∃ T, xX7_copyFrom G X = some T ∧ ge T G := by
  unfold xX7_copyFrom
  have c0 : (0 : Int32).toNatClampNeg = 0 := by decide
  have c8 : (8 : Int32).toNatClampNeg = 8 := by decide
  simp only [q_let, c0, c8]
  refine ⟨_, rfl, ?_, fun k hk => ⟨?_, ?_, ?_⟩⟩
  · simp [su_at, sr_at]
  · simp [su_at, sr_at, cp_in hk]
  · simp [su_at, sr_at, cp_in hk]
  · simp [su_at, sr_at, cp_in hk]
/-- what is in an image stands in one stretch of the row 33 -/
theorem im_loc {K P G M M' : St} {i : Nat} (h : im K P G M i) (h33 : ∀ x, 90 * i ≤ x → x < 90 * i + 83 → M' 33 x = M 33 x) (h34 : M' 34 i = M 34 i) : im K P G M' i := by
  unfold im
  rw [h34]
  refine ⟨h.1, ?_⟩
  rcases h.2 with q | ⟨q1, q2, q3, q4⟩
  · exact Or.inl q
  · have ev : ∀ r k, io r + k < 83 → vw M' (90 * i) r k = vw M (90 * i) r k := fun r k hrk => by
      unfold vw
      exact h33 _ (by omega) (by omega)
    refine Or.inr ⟨q1, q2.trans ⟨fun r k hr hk => ?_, fun r k h5 hr hk => ?_, ?_, ?_⟩, q3, q4.to ⟨rfl, fun k hk => ⟨rfl, rfl, rfl⟩⟩ ⟨?_, fun k hk => ⟨?_, ?_, ?_⟩⟩⟩
    · refine (ev r k ?_).symm
      unfold io
      rw [if_neg (by omega), if_neg (by omega), if_neg (by omega), if_pos hr]
      omega
    · refine (ev r k ?_).symm
      unfold io
      rw [if_neg (by omega), if_neg (by omega), if_neg (by omega), if_neg (by omega), if_pos hr]
      omega
    · exact (ev 9 0 (by decide)).symm
    · exact (ev 10 0 (by decide)).symm
    · exact (ev 14 0 (by decide)).symm
    · exact (ev 11 k (by show 59 + k < 83; omega)).symm
    · exact (ev 12 k (by show 67 + k < 83; omega)).symm
    · exact (ev 13 k (by show 75 + k < 83; omega)).symm
theorem io_lo {r : Nat} (h : r < 5) : io r = 3 + 8 * r := by
  unfold io
  rw [if_neg (by omega), if_neg (by omega), if_neg (by omega), if_pos h]
theorem io_mi {r : Nat} (h5 : 5 ≤ r) (h : r < 9) : io r = 43 + 4 * (r - 5) := by
  unfold io
  rw [if_neg (by omega), if_neg (by omega), if_neg (by omega), if_neg (by omega), if_pos h]
/-- an image kept: of the model -/
theorem x9_img {M : St} {i : Nat} (hi : i < 2) : ∃ M', xX9_image (nI i) M = some (1, M') ∧ (∀ r, r ≠ 33 → r ≠ 34 → r ≠ 35 → r ≠ 36 → M' r = M r) ∧ M' 34 i = 1 ∧ (∀ j, j ≠ i → M' 34 j = M 34 j) ∧ (∀ x, x < 90 * i ∨ 90 * i + 83 ≤ x → M' 33 x = M 33 x) ∧ pe M (vw M' (90 * i)) ∧ mg M (vw M' (90 * i)) := by
  unfold xX9_image
  have hin : ¬ xX9_in (nI i).toInt64 0 1 = 0 := by
    rw [m_in (nI i) (a := 0) (b := 1) (by decide +kernel) (by decide +kernel)]
    have : i = 0 ∨ i = 1 := by omega
    rcases this with rfl | rfl <;> decide
  have e90 : 90 * nI i = nI (90 * i + 0) := by
    rw [show (90 : Int32) = nI 90 by decide, pk_mul]; rfl
  have z1 : vp_nar .boolean 1 = 1 := by decide +kernel
  rw [if_neg hin, e90]
  simp only [q_let]
  have g0 : ∀ r, r ≠ 35 → r ≠ 36 → q_su (q_su M 35 0 (nI (90 * i + 0))) 36 0 1 r = M r := fun r a b => by rw [su_row b, su_row a]
  have g36 : q_su (q_su M 35 0 (nI (90 * i + 0))) 36 0 1 36 0 = 1 := by simp [su_at]
  have g35 : q_su (q_su M 35 0 (nI (90 * i + 0))) 36 0 1 35 0 = nI (90 * i + 0) := by rw [su_row (by decide)]; simp [su_at]
  generalize q_su (q_su M 35 0 (nI (90 * i + 0))) 36 0 1 = S at g0 g36 g35 ⊢
  obtain ⟨T, t1, t2, t3, t4, t5, t6, t7, t8, t9⟩ := pa0 (S := S) (o := 90 * i) (by omega) g36 g35
  rw [t1, Option.bind_some, if_pos (m_ib hi (by decide)), nI_clamp (show i < 2 ^ 31 by omega), z1]
  have s33 : ∀ x, q_su T 34 i 1 33 x = T 33 x := fun x => by rw [su_row (by decide)]
  refine ⟨_, rfl, fun r a b c d => by rw [su_row b, t2 r a c, g0 r c d], by simp [su_at], fun j hj => by rw [su_at, if_neg (by omega), t2 34 (by decide) (by decide), g0 34 (by decide) (by decide)], fun x hx => by rw [s33, t3 x hx, g0 33 (by decide) (by decide)], ⟨fun r k hr hk => ?_, fun r k h5 hr hk => ?_, ?_, ?_⟩, ?_, fun k hk => ⟨?_, ?_, ?_⟩⟩
  · unfold vw; rw [s33, io_lo hr, t7 r k hr hk, g0 r (by omega) (by omega)]
  · unfold vw; rw [s33, io_mi h5 hr, t8 r k h5 hr hk, g0 r (by omega) (by omega)]
  · unfold vw; rw [s33]; show M 9 0 = T 33 (90 * i + 0); rw [t4, g0 9 (by omega) (by omega)]
  · unfold vw; rw [s33]; show M 10 0 = T 33 (90 * i + 1); rw [t5, g0 10 (by omega) (by omega)]
  · unfold vw; rw [s33]; show M 14 0 = T 33 (90 * i + 2); rw [t6, g0 14 (by omega) (by omega)]
  · unfold vw; rw [s33]; show M 11 k = T 33 (90 * i + (59 + 8 * (11 - 11)) + k); rw [t9 11 k (by decide) (by decide) hk, g0 11 (by omega) (by omega)]
  · unfold vw; rw [s33]; show M 12 k = T 33 (90 * i + (59 + 8 * (12 - 11)) + k); rw [t9 12 k (by decide) (by decide) hk, g0 12 (by omega) (by omega)]
  · unfold vw; rw [s33]; show M 13 k = T 33 (90 * i + (59 + 8 * (13 - 11)) + k); rw [t9 13 k (by decide) (by decide) hk, g0 13 (by omega) (by omega)]
theorem x9_rst {M : St} {i : Nat} (hi : i < 2) (hk : ¬ M 34 i = 0) : ∃ M', xX9_restore (nI i) M = some (1, M') ∧ (∀ r, 15 ≤ r → r ≠ 35 → r ≠ 36 → M' r = M r) ∧ pe (vw M (90 * i)) M' ∧ mg (vw M (90 * i)) M' := by
  unfold xX9_restore
  have hin : ¬ xX9_in (nI i).toInt64 0 1 = 0 := by
    rw [m_in (nI i) (a := 0) (b := 1) (by decide +kernel) (by decide +kernel)]
    have : i = 0 ∨ i = 1 := by omega
    rcases this with rfl | rfl <;> decide
  have e90 : 90 * nI i = nI (90 * i + 0) := by
    rw [show (90 : Int32) = nI 90 by decide, pk_mul]; rfl
  rw [if_neg hin, if_pos (m_ib hi (by decide)), nI_clamp (show i < 2 ^ 31 by omega), if_neg hk, e90]
  simp only [q_let]
  have g0 : ∀ r, r ≠ 35 → r ≠ 36 → q_su (q_su M 35 0 (nI (90 * i + 0))) 36 0 0 r = M r := fun r a b => by rw [su_row b, su_row a]
  have g36 : q_su (q_su M 35 0 (nI (90 * i + 0))) 36 0 0 36 0 = 0 := by simp [su_at]
  have g35 : q_su (q_su M 35 0 (nI (90 * i + 0))) 36 0 0 35 0 = nI (90 * i + 0) := by rw [su_row (by decide)]; simp [su_at]
  generalize q_su (q_su M 35 0 (nI (90 * i + 0))) 36 0 0 = S at g0 g36 g35 ⊢
  obtain ⟨T, t1, t2, t4, t5, t6, t7, t8, t9⟩ := pa1 (S := S) (o := 90 * i) (by omega) g36 g35
  rw [t1, Option.bind_some]
  have s33 := g0 33 (by decide) (by decide)
  refine ⟨T, rfl, fun r a b c => by rw [t2 r a b, g0 r b c], ⟨fun r k hr hk => ?_, fun r k h5 hr hk => ?_, ?_, ?_⟩, ?_, fun k hk => ⟨?_, ?_, ?_⟩⟩
  · unfold vw; rw [io_lo hr, t7 r k hr hk, s33]
  · unfold vw; rw [io_mi h5 hr, t8 r k h5 hr hk, s33]
  · unfold vw; show M 33 (90 * i + 0) = T 9 0; rw [t4, s33]
  · unfold vw; show M 33 (90 * i + 1) = T 10 0; rw [t5, s33]
  · unfold vw; show M 33 (90 * i + 2) = T 14 0; rw [t6, s33]
  · unfold vw; show M 33 (90 * i + (59 + 8 * (11 - 11)) + k) = T 11 k; rw [t9 11 k (by decide) (by decide) hk, s33]
  · unfold vw; show M 33 (90 * i + (59 + 8 * (12 - 11)) + k) = T 12 k; rw [t9 12 k (by decide) (by decide) hk, s33]
  · unfold vw; show M 33 (90 * i + (59 + 8 * (13 - 11)) + k) = T 13 k; rw [t9 13 k (by decide) (by decide) hk, s33]
theorem op_image {S0 S1 S6 S8 S9 S10 S11 S12 S13 M : St} (h : RR S0 S1 S6 S8 S9 S10 S11 S12 S13 M) (p0 : Int32) : ∃ r S8' S9' S10' S11' S12' S13' M', xX8_image S0 S6 p0 S8 S9 S10 S11 S12 S13 = some (r, S8', S9', S10', S11', S12', S13') ∧ xX9_image p0 M = some (r, M') ∧ RR S0 S1 S6 S8' S9' S10' S11' S12' S13' M' := by
  obtain ⟨hp, ho, hd1, hs, h0, h1⟩ := id h
  by_cases c1 : xX8_within p0 0 1 = 0
  · unfold xX8_image xX9_image
    rw [m_in p0 (a := 0) (b := 1) (by decide +kernel) (by decide +kernel), if_pos c1, if_pos c1]
    exact ⟨_, _, _, _, _, _, _, _, rfl, rfl, h⟩
  obtain ⟨w, hw, rfl⟩ := m_nat (n := 1) (by decide) (m_w1 c1)
  obtain ⟨M', e1, k1, k2, k3, k4, k5, k6⟩ := x9_img (M := M) (i := w) (by omega)
  have kk : pe M M' := ⟨fun r k hr hk => by rw [k1 r (by omega) (by omega) (by omega) (by omega)], fun r k h5 hr hk => by rw [k1 r (by omega) (by omega) (by omega) (by omega)], by rw [k1 9 (by omega) (by omega) (by omega) (by omega)], by rw [k1 10 (by omega) (by omega) (by omega) (by omega)]⟩
  have hd' : pd S1 M' := hd1.keep (k1 15 (by omega) (by omega) (by omega) (by omega)) (k1 16 (by omega) (by omega) (by omega) (by omega))
  have hs' : sg S6 M' := hs.keep (k1 11 (by omega) (by omega) (by omega) (by omega)) (k1 12 (by omega) (by omega) (by omega) (by omega)) (k1 13 (by omega) (by omega) (by omega) (by omega)) (k1 14 (by omega) (by omega) (by omega) (by omega))
  have new : ∀ K P G, K 2 0 = 1 → pe P S0 → ge G S6 → im K P G M' w := fun K P G hK hP hG => ⟨by rw [hK, k2], Or.inr ⟨hK, hP.trans (hp.trans k5), ok_pe ho hP.symm, hs.to hG k6⟩⟩
  unfold xX8_image
  rw [if_neg c1, e1]
  have w2 : w = 0 ∨ w = 1 := by omega
  rcases w2 with rfl | rfl
  · obtain ⟨T, a1, a2⟩ := x5_copy ho S9
    obtain ⟨G, b1, b2⟩ := x7_copy S6 S10
    rw [if_pos (show nI 0 = 0 by decide), a1, Option.bind_some, b1, Option.bind_some]
    simp only [q_let]
    exact ⟨_, _, _, _, _, _, _, _, rfl, rfl, hp.trans kk, ho, hd', hs', new _ _ _ (by simp [su_at]) a2 b2, im_loc h1 (fun x hx1 hx2 => k4 x (by omega)) (k3 1 (by omega))⟩
  · obtain ⟨T, a1, a2⟩ := x5_copy ho S12
    obtain ⟨G, b1, b2⟩ := x7_copy S6 S13
    rw [if_neg (show ¬ nI 1 = 0 by decide), if_pos (show nI 1 = 1 by decide), a1, Option.bind_some, b1, Option.bind_some]
    simp only [q_let]
    exact ⟨_, _, _, _, _, _, _, _, rfl, rfl, hp.trans kk, ho, hd', hs', im_loc h0 (fun x hx1 hx2 => k4 x (by omega)) (k3 0 (by omega)), new _ _ _ (by simp [su_at]) a2 b2⟩
theorem op_restore {S0 S1 S6 S8 S9 S10 S11 S12 S13 M : St} (h : RR S0 S1 S6 S8 S9 S10 S11 S12 S13 M) (p0 : Int32) : ∃ r S0' S6' M', xX8_restore S8 S9 S10 S11 S12 S13 p0 S0 S6 = some (r, S0', S6') ∧ xX9_restore p0 M = some (r, M') ∧ RR S0' S1 S6' S8 S9 S10 S11 S12 S13 M' := by
  obtain ⟨hp, ho, hd1, hs, h0, h1⟩ := id h
  by_cases c1 : xX8_within p0 0 1 = 0
  · unfold xX8_restore xX9_restore
    rw [m_in p0 (a := 0) (b := 1) (by decide +kernel) (by decide +kernel), if_pos c1, if_pos c1]
    exact ⟨_, _, _, _, rfl, rfl, h⟩
  obtain ⟨w, hw, rfl⟩ := m_nat (n := 1) (by decide) (m_w1 c1)
  have no : M 34 w = 0 → xX9_restore (nI w) M = some (-3, M) := fun q => by
    unfold xX9_restore
    rw [m_in (nI w) (a := 0) (b := 1) (by decide +kernel) (by decide +kernel), if_neg c1, if_pos (m_ib (show w < 2 by omega) (by decide)), nI_clamp (show w < 2 ^ 31 by omega), if_pos q]
  have yes : ∀ K P G, im K P G M w → ¬ K 2 0 = 0 → ∃ T6 T7 M', xX5_copyFrom P S0 = some T6 ∧ xX7_copyFrom G S6 = some T7 ∧ xX9_restore (nI w) M = some (1, M') ∧ RR T6 S1 T7 S8 S9 S10 S11 S12 S13 M' := by
    intro K P G hi hK
    obtain ⟨q1, q2⟩ := hi
    obtain ⟨q3, q4, q5, q6⟩ := q2.resolve_left hK
    obtain ⟨M', e1, k1, k2, k3⟩ := x9_rst (M := M) (i := w) (by omega) (by rw [← q1]; exact hK)
    obtain ⟨T, a1, a2⟩ := x5_copy q5 S0
    obtain ⟨G', b1, b2⟩ := x7_copy G S6
    exact ⟨T, G', M', a1, b1, e1, a2.trans (q4.trans k2), ok_pe q5 a2.symm, hd1.keep (k1 15 (by omega) (by omega) (by omega)) (k1 16 (by omega) (by omega) (by omega)), q6.to b2 k3, h0.keep (k1 33 (by omega) (by omega) (by omega)) (k1 34 (by omega) (by omega) (by omega)), h1.keep (k1 33 (by omega) (by omega) (by omega)) (k1 34 (by omega) (by omega) (by omega))⟩
  unfold xX8_restore
  rw [if_neg c1]
  have w2 : w = 0 ∨ w = 1 := by omega
  rcases w2 with rfl | rfl
  · rw [if_pos (show nI 0 = 0 by decide)]
    by_cases hK : S8 2 0 = 0
    · rw [if_pos hK, no (by rw [← h0.1]; exact hK)]
      exact ⟨_, _, _, _, rfl, rfl, h⟩
    · obtain ⟨T6, T7, M', a, b, c, d⟩ := yes S8 S9 S10 h0 hK
      rw [if_neg hK, a, Option.bind_some, b, Option.bind_some, c]
      exact ⟨_, _, _, _, rfl, rfl, d⟩
  · rw [if_neg (show ¬ nI 1 = 0 by decide), if_pos (show nI 1 = 1 by decide)]
    by_cases hK : S11 2 0 = 0
    · rw [if_pos hK, no (by rw [← h1.1]; exact hK)]
      exact ⟨_, _, _, _, rfl, rfl, h⟩
    · obtain ⟨T6, T7, M', a, b, c, d⟩ := yes S11 S12 S13 h1 hK
      rw [if_neg hK, a, Option.bind_some, b, Option.bind_some, c]
      exact ⟨_, _, _, _, rfl, rfl, d⟩
