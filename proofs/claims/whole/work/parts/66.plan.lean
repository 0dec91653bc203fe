/-! PURE: plans: the earliest second behind a set of stones -/
def dist (a b : Nat) : Nat := (a - b) + (b - a)
theorem ab_tab : ∀ a, a < 12 → ∀ b, b < 12 → q_ab (nI a - nI b) = nI (dist a b) ∧ xX9_apart (nI a) (nI b) = nI (dist a b) := by decide +kernel
theorem dist_le {a b : Nat} (ha : a < 12) (hb : b < 12) : dist a b ≤ 11 := by unfold dist; omega
theorem l1000 : (1000 : Int32) = nI 1000 := by decide +kernel
def gg (z u x : Nat) : Nat := if z ≤ x * u then 1000 else x + 1
theorem gg_le {z u : Nat} (hz : z ≤ 99) (hu : 1 ≤ u) (x : Nat) : gg z u x ≤ 1000 := by
  have h : x ≤ x * u := Nat.le_mul_of_pos_right x hu
  unfold gg
  split <;> omega
theorem gg_1000 {z u : Nat} (hz : z ≤ 99) (hu : 1 ≤ u) {x : Nat} (hx : 1000 ≤ x) : gg z u x = 1000 := by
  have h : x ≤ x * u := Nat.le_mul_of_pos_right x hu
  unfold gg
  rw [if_pos (by omega)]
theorem gg_min {z u : Nat} (hz : z ≤ 99) (hu : 1 ≤ u) (x y : Nat) : gg z u (min x y) = min (gg z u x) (gg z u y) := by
  have mono : ∀ x y, x ≤ y → gg z u x ≤ gg z u y := by
    intro x y h
    have h1 : x * u ≤ y * u := Nat.mul_le_mul_right u h
    have h2 : x ≤ x * u := Nat.le_mul_of_pos_right x hu
    unfold gg
    split <;> split <;> omega
  rcases Nat.le_total x y with h | h
  · rw [Nat.min_eq_left h, Nat.min_eq_left (mono x y h)]
  · rw [Nat.min_eq_right h, Nat.min_eq_right (mono y x h)]
theorem x9_rb {B : St} {w sec c cw z u : Nat} (hw : w < 8) (hc : c < 12) (hcw : cw < 12) (h2 : B 2 w = nI cw) (h3 : B 3 w = nI z) (h9 : B 9 0 = nI u) (hz : z ≤ 99) (hu : u ≤ 9) (hs : sec ≤ 2000) : xX9_readBehind B (nI w) (nI c) (nI sec) = some (nI (gg z u (sec + dist c cw))) := by
  unfold xX9_readBehind gg
  have hd := dist_le hc hcw
  have hm : (sec + dist c cw) * u ≤ 2011 * 9 := Nat.mul_le_mul (by omega) hu
  rw [if_pos (m_ib hw (by decide)), nI_clamp (show w < 2 ^ 31 by omega), h2, h3, h9, (ab_tab c hc cw hcw).2, nI_add, pk_mul, nI_1]
  by_cases h : z ≤ (sec + dist c cw) * u
  · rw [if_pos (nI_le h (by omega)), if_pos h, l1000]
  · rw [if_neg (nI_ge (by omega) (by omega)), if_neg h]
theorem ea_loop {A B T : St} {b w cw z u : Nat} (p0 p1 p2 : Int32) (hb : b < 256) (hw : w < 8) (hcw : cw < 12) (a2 : A 2 w = nI cw) (b2 : B 2 w = nI cw) (b3 : B 3 w = nI z) (b9 : B 9 0 = nI u) (hz : z ≤ 99) (hu1 : 1 ≤ u) (hu : u ≤ 9) (hk : ∀ k, k < 8 → b.testBit k = true → ∃ c f, c < 12 ∧ f ≤ 1000 ∧ A 2 k = nI c ∧ B 2 k = nI c ∧ T 0 (8 * b + k) = nI f ∧ B 30 (8 * b + k) = nI f) : ∀ d k fa fb X, k + d = 8 → d < fa → d < fb → X ≤ 1000 → ∃ Y, Y ≤ 1000 ∧ xX6_earliestArrival_h58 T A p1 (nI b) (nI w) fa (nI X) (nI k) = some (nI Y) ∧ xX9_earliest_h68 B p0 (nI w) p2 fb (nI b) (nI (gg z u X)) (nI k) = some (nI (gg z u Y)) := by
  intro d
  induction d with
  | zero =>
    intro k fa fb X hk8 hfa hfb hX
    obtain ⟨fa, rfl⟩ : ∃ x, fa = x + 1 := ⟨fa - 1, by omega⟩
    obtain ⟨fb, rfl⟩ : ∃ x, fb = x + 1 := ⟨fb - 1, by omega⟩
    obtain rfl : k = 8 := by omega
    exact ⟨X, hX, by rw [xX6_earliestArrival_h58_s, if_pos (by decide)], by rw [xX9_earliest_h68_s, if_pos (by decide)]⟩
  | succ d ih =>
    intro k fa fb X hk8 hfa hfb hX
    obtain ⟨fa, rfl⟩ : ∃ x, fa = x + 1 := ⟨fa - 1, by omega⟩
    obtain ⟨fb, rfl⟩ : ∃ x, fb = x + 1 := ⟨fb - 1, by omega⟩
    have hk' : k < 8 := by omega
    rw [xX6_earliestArrival_h58_s, if_neg (n8 hk'), xX9_earliest_h68_s, if_neg (n8 hk'), x9_has hb hk']
    unfold xX9_earliest_h104
    by_cases ht : b.testBit k = true
    · obtain ⟨c, f, hc, hf, q1, q2, q3, q4⟩ := hk k hk' ht
      have hd := dist_le hc hcw
      have i1 : nI b * 8 + nI k = nI (8 * b + k) := by rw [l8, pk_mul, nI_add, Nat.mul_comm]
      have i2 : 8 * nI b + nI k = nI (8 * b + k) := by rw [l8, pk_mul, nI_add]
      have hib : q_ib (nI (8 * b + k)) 2048 = true := m_ib (by omega) (by decide)
      rw [if_pos ((bit_has b hb k hk').mpr ht), if_pos ht, i1, i2]
      simp only [if_pos (m_ib hk' (show 8 < 2 ^ 31 by decide)), if_pos (m_ib hw (show 8 < 2 ^ 31 by decide)), if_pos hib, if_neg (show ¬ (1 : Int32) = 0 by decide), q_let, nI_clamp (show k < 2 ^ 31 by omega), nI_clamp (show w < 2 ^ 31 by omega), nI_clamp (show 8 * b + k < 2 ^ 31 by omega), q1, a2, q2, q3, q4, (ab_tab c hc cw hcw).1, nI_add, nI_1]
      rw [mn_nat (by omega) (by omega)]
      by_cases hf1 : f = 1000
      · have e : min X (f + dist c cw) = X := by omega
        rw [e, if_pos (by rw [hf1, l1000]; exact nI_le (Nat.le_refl 1000) (by decide))]
        exact ih (k + 1) fa fb X (by omega) (by omega) (by omega) hX
      · have g1 := gg_le hz hu1 X
        have g2 := gg_le hz hu1 (f + dist c cw)
        rw [if_neg (by rw [l1000]; exact nI_ge (by omega) (by decide)), x9_rb hw hc hcw b2 b3 b9 hz hu (by omega), Option.bind_some, ← mn_less, mn_nat (by omega) (by omega), ← gg_min hz hu1]
        exact ih (k + 1) fa fb _ (by omega) (by omega) (by omega) (by omega)
    · rw [if_neg (fun q => ht ((bit_has b hb k hk').mp q)), if_neg ht, if_pos rfl, if_pos (by decide), nI_1]
      exact ih (k + 1) fa fb X (by omega) (by omega) (by omega) hX
set_option maxRecDepth 100000 in
theorem bx_tab : (List.range 256).all (fun s => (List.range 8).all fun w => !(s.testBit w) || (decide (nI s ^^^ q_shl 1 (nI w) = nI (s - 2 ^ w)) && decide (nI s &&& (q_shl 1 (nI w) ^^^ (-1)) = nI (s - 2 ^ w)) && decide (2 ^ w ≤ s) && (List.range 8).all fun k => !((s - 2 ^ w).testBit k) || s.testBit k)) = true := by decide +kernel
theorem bx_at {s w : Nat} (hs : s < 256) (hw : w < 8) (h : s.testBit w = true) : nI s ^^^ q_shl 1 (nI w) = nI (s - 2 ^ w) ∧ nI s &&& (q_shl 1 (nI w) ^^^ (-1)) = nI (s - 2 ^ w) ∧ 2 ^ w ≤ s ∧ ∀ k, k < 8 → (s - 2 ^ w).testBit k = true → s.testBit k = true := by
  have a := List.all_eq_true.mp (List.all_eq_true.mp bx_tab s (List.mem_range.mpr hs)) w (List.mem_range.mpr hw)
  simp only [h, Bool.not_true, Bool.false_or, Bool.and_eq_true, decide_eq_true_eq] at a
  refine ⟨a.1.1.1, a.1.1.2, a.1.2, fun k hk hb => ?_⟩
  have c := List.all_eq_true.mp a.2 k (List.mem_range.mpr hk)
  simpa [hb] using c
theorem mx_tab : ∀ a, a < 10 → ∀ b, b < 2 → q_mx (nI a) (nI b) = nI (max a b) ∧ (nI a ≤ nI b ↔ max a b = b) ∧ (¬ nI a ≤ nI b → max a b = a) := by decide +kernel
/-- the second at which a stone can be reached, of the class; the second behind reading it, of the model -/
theorem ea_one {A B T : St} {s w r : Nat} (hp : pe A B) (ho : ok A) (hs : s < 256) (hw : w < 8) (hr : r < 4) (hsw : s.testBit w = true) (hl : ∀ k, k < 8 → s.testBit k = true → ∃ c, c < 12 ∧ A 2 k = nI c) (ht : ¬ s - 2 ^ w = 0 → ∀ k, k < 8 → (s - 2 ^ w).testBit k = true → ∃ f, f ≤ 1000 ∧ T 0 (8 * (s - 2 ^ w) + k) = nI f ∧ B 30 (8 * (s - 2 ^ w) + k) = nI f) : ∃ x z u, z ≤ 99 ∧ 1 ≤ u ∧ u ≤ 9 ∧ x ≤ 1000 ∧ A 3 w = nI z ∧ A 9 0 = nI u ∧ xX6_earliestArrival T A (nI r) (nI s ^^^ q_shl 1 (nI w)) (nI w) = some (nI x) ∧ xX9_earliest B (nI s) (nI w) (nI r) = some (nI (gg z u x)) := by
  obtain ⟨e1, e2, e3, e4⟩ := bx_at hs hw hsw
  obtain ⟨cw, hcw, a2⟩ := hl w hw hsw
  have b2 : B 2 w = nI cw := by rw [← hp.1 2 w (by omega) hw, a2]
  have hm := ho.2.2.2.2.2.2.2.1
  obtain ⟨u, hu, eu⟩ := m_nat (n := 9) (x := A 9 0) (b := 9) (by decide) ⟨by
    have := hm.1
    rw [fa_le] at this ⊢
    have a : (0 : Int32).toInt = 0 := by decide
    have b : (1 : Int32).toInt = 1 := by decide
    omega, hm.2⟩
  have hu1 : 1 ≤ u := by
    have := hm.1
    rw [eu] at this
    exact (nI_leI (a := 1) (by decide) (by omega)).mp this
  obtain ⟨z, hz, ez⟩ : ∃ z, z ≤ 99 ∧ A 3 w = nI z := by
    rcases ho.2.2.1 w hw with h | h
    · exact ⟨0, by omega, by rw [h.2.1, nI_0]⟩
    · obtain ⟨z, hz, ez⟩ := m_nat (n := 99) (x := A 3 w) (b := 99) (by decide) ⟨by
        have := h.2.2.1
        rw [fa_le] at this ⊢
        have a : (0 : Int32).toInt = 0 := by decide
        have b : (1 : Int32).toInt = 1 := by decide
        omega, h.2.2.2.1⟩
      exact ⟨z, hz, ez⟩
  have b3 : B 3 w = nI z := by rw [← hp.1 3 w (by omega) hw, ez]
  have b9 : B 9 0 = nI u := by rw [← hp.2.2.1, eu]
  unfold xX6_earliestArrival xX9_earliest
  rw [e1, e2]
  by_cases hz0 : s - 2 ^ w = 0
  · obtain ⟨st, hst, es⟩ := m_nat (n := 9) (b := 9) (by decide) (ho.2.2.2.2.1 r hr)
    obtain ⟨pl, hpl, epl⟩ := m_nat (n := 11) (b := 11) (by decide) (ho.2.2.2.1 r hr)
    obtain ⟨d, hd, ed⟩ : ∃ d, d < 2 ∧ A 8 r = nI d := by
      rcases ho.2.2.2.2.2.2.1 r hr with h | h
      · exact ⟨0, by omega, by rw [h, nI_0]⟩
      · exact ⟨1, by omega, by rw [h]; decide⟩
    have b5 : B 5 r = nI pl := by rw [← hp.2.1 5 r (by omega) (by omega) hr, epl]
    have b6 : B 6 r = nI st := by rw [← hp.2.1 6 r (by omega) (by omega) hr, es]
    have b8 : B 8 r = nI d := by rw [← hp.2.1 8 r (by omega) (by omega) hr, ed]
    obtain ⟨t1, t2, t3⟩ := mx_tab st (by omega) d hd
    have hd11 := dist_le (show pl < 12 by omega) hcw
    have z0 : nI (s - 2 ^ w) = 0 := by rw [hz0, nI_0]
    unfold xX6_earliestArrival_h24 xX9_earliest_h44
    have hib : q_ib (nI r) 4 = true := m_ib hr (by decide)
    have hib8 : q_ib (nI w) 8 = true := m_ib hw (by decide)
    refine ⟨max st d + dist pl cw, z, u, hz, hu1, hu, by omega, ez, eu, ?_, ?_⟩
    · simp only [if_pos z0, if_pos hib, if_pos hib8, nI_clamp (show r < 2 ^ 31 by omega), nI_clamp (show w < 2 ^ 31 by omega), es, ed, epl, a2, (ab_tab pl (by omega) cw hcw).1]
      have hdd : d = 0 ∨ d = 1 := by omega
      rcases hdd with rfl | rfl
      · rw [if_pos (by decide), show (0 : Int32) = nI 0 by decide, t1, nI_add]
      · rw [if_neg (by decide), show (1 : Int32) = nI 1 by decide, t1, nI_add]
    · simp only [if_pos z0, if_pos hib, nI_clamp (show r < 2 ^ 31 by omega), b5, b6, b8]
      by_cases hc : nI st ≤ nI d
      · rw [if_pos hc, x9_rb hw (show pl < 12 by omega) hcw b2 b3 b9 hz hu (by omega), Option.bind_some, t2.mp hc]
      · rw [if_neg hc, x9_rb hw (show pl < 12 by omega) hcw b2 b3 b9 hz hu (by omega), Option.bind_some, t3 hc]
  · have hlt : s - 2 ^ w < 256 := Nat.lt_of_le_of_lt (Nat.sub_le _ _) hs
    have n0 : ¬ nI (s - 2 ^ w) = 0 := nI_ne0 (Nat.pos_of_ne_zero hz0) (Nat.lt_trans hlt (by decide))
    obtain ⟨Y, y1, y2, y3⟩ := ea_loop (A := A) (B := B) (T := T) (nI s) (nI r) (nI r) hlt hw hcw a2 b2 b3 b9 hz hu1 hu (fun k hk hb => by
      obtain ⟨c, hc, ec⟩ := hl k hk (e4 k hk hb)
      obtain ⟨f, hf, f1, f2⟩ := ht hz0 k hk hb
      exact ⟨c, f, hc, hf, ec, by rw [← hp.1 2 k (by omega) hk, ec], f1, f2⟩) 8 0 5000 5000 1000 (by omega) (by omega) (by omega) (by omega)
    rw [gg_1000 hz hu1 (Nat.le_refl 1000), nI_0, ← l1000] at y3
    rw [nI_0, ← l1000] at y2
    exact ⟨Y, z, u, hz, hu1, hu, y1, ez, eu, by rw [if_neg n0]; exact y2, by rw [if_neg n0]; exact y3⟩
