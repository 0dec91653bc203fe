/-! PURE: what to ask next: the least that is left, the least question of those -/
def LX (L : Nat → Nat → Nat) (D : Nat → Nat → Prop) (b c : Nat) : Prop := (∃ s a, D s a ∧ b = L s a ∧ c = 10 * s + a) ∧ ∀ s a, D s a → b < L s a ∨ (b = L s a ∧ c ≤ 10 * s + a)
theorem LX.uniq {L : Nat → Nat → Nat} {D : Nat → Nat → Prop} {b c b' c' : Nat} (h : LX L D b c) (g : LX L D b' c') : b = b' ∧ c = c' := by
  obtain ⟨⟨s, a, h1, h2, h3⟩, h4⟩ := h
  obtain ⟨⟨s', a', g1, g2, g3⟩, g4⟩ := g
  have x := h4 s' a' g1
  have y := g4 s a h1
  omega
theorem LX.iff {L : Nat → Nat → Nat} {D D' : Nat → Nat → Prop} {b c : Nat} (h : LX L D b c) (e : ∀ s a, D s a ↔ D' s a) : LX L D' b c := by
  obtain ⟨⟨s, a, h1, h2, h3⟩, h4⟩ := h
  exact ⟨⟨s, a, (e s a).mp h1, h2, h3⟩, fun s a q => h4 s a ((e s a).mpr q)⟩
def pt (D : Nat → Nat → Prop) (s0 a0 : Nat) : Nat → Nat → Prop := fun s a => D s a ∨ (s = s0 ∧ a = a0)
theorem LX.first {L : Nat → Nat → Nat} {D : Nat → Nat → Prop} (h : ∀ s a, ¬ D s a) (s0 a0 : Nat) : LX L (pt D s0 a0) (L s0 a0) (10 * s0 + a0) := by
  refine ⟨⟨s0, a0, Or.inr ⟨rfl, rfl⟩, rfl, rfl⟩, fun s a q => ?_⟩
  rcases q with q | ⟨rfl, rfl⟩
  · exact absurd q (h s a)
  · exact Or.inr ⟨rfl, Nat.le_refl _⟩
/-- taken: it leaves less, or as much, and is a lesser question -/
theorem LX.take {L : Nat → Nat → Nat} {D : Nat → Nat → Prop} {b c : Nat} (h : LX L D b c) {s0 a0 : Nat} (hl : L s0 a0 < b ∨ (L s0 a0 = b ∧ 10 * s0 + a0 ≤ c)) : LX L (pt D s0 a0) (L s0 a0) (10 * s0 + a0) := by
  refine ⟨⟨s0, a0, Or.inr ⟨rfl, rfl⟩, rfl, rfl⟩, fun s a q => ?_⟩
  rcases q with q | ⟨rfl, rfl⟩
  · have := h.2 s a q
    omega
  · exact Or.inr ⟨rfl, Nat.le_refl _⟩
theorem LX.pass {L : Nat → Nat → Nat} {D : Nat → Nat → Prop} {b c : Nat} (h : LX L D b c) {s0 a0 : Nat} (hl : b < L s0 a0 ∨ (b = L s0 a0 ∧ c ≤ 10 * s0 + a0)) : LX L (pt D s0 a0) b c := by
  obtain ⟨⟨s, a, h1, h2, h3⟩, h4⟩ := h
  refine ⟨⟨s, a, Or.inl h1, h2, h3⟩, fun s a q => ?_⟩
  rcases q with q | ⟨rfl, rfl⟩
  · exact h4 s a q
  · exact hl
def CS (L : Nat → Nat → Nat) (D : Nat → Nat → Prop) (T : St) : Prop := (T 5 0 = nI 82 ∧ ∀ s a, ¬ D s a) ∨ ∃ b c, b ≤ 81 ∧ c ≤ 1000 ∧ T 5 0 = nI b ∧ T 4 0 = nI c ∧ LX L D b c
theorem CS.iff {L : Nat → Nat → Nat} {D D' : Nat → Nat → Prop} {T : St} (h : CS L D T) (e : ∀ s a, D s a ↔ D' s a) : CS L D' T := by
  rcases h with ⟨h1, h2⟩ | ⟨b, c, h1, h2, h3, h4, h5⟩
  · exact Or.inl ⟨h1, fun s a q => h2 s a ((e s a).mpr q)⟩
  · exact Or.inr ⟨b, c, h1, h2, h3, h4, h5.iff e⟩
theorem CS.keep {L : Nat → Nat → Nat} {D : Nat → Nat → Prop} {T T' : St} (h : CS L D T) (h4 : T' 4 = T 4) (h5 : T' 5 = T 5) : CS L D T' := by
  unfold CS
  rw [h4, h5]
  exact h
def Dc (aim set : Nat) : Nat → Nat → Prop := fun s a => 1 ≤ s ∧ s ≤ 15 ∧ a < 4 ∧ (a < aim ∨ (a = aim ∧ s < set))
theorem fnd.keep {P : Nat → Bool} {T T' : St} (h : fnd P T) (h0 : T' 0 = T 0) (h3 : T' 3 = T 3) : fnd P T' := by
  unfold fnd
  rw [h0, h3]
  exact h
theorem fq_in {P : Nat → Bool} {aim : Nat} (ha : aim < 4) (k14 : Int32 → St → Option St) : ∀ d set fuel (T : St), set + d = 16 → d < fuel → 1 ≤ set → (∀ th, th < 16 → T 1 th = nI (ct (fun u => P u && decide (tkn (cd u) aim = th)) 81)) → CS (LM P) (Dc aim set) T → ∃ T', xX2_findQuestion_h26 k14 fuel (nI aim) (nI set) T = k14 (nI (aim + 1)) T' ∧ CS (LM P) (Dc aim 16) T' ∧ T' 0 = T 0 ∧ T' 3 = T 3 := by
  intro d
  induction d with
  | zero =>
    intro set fuel T hs hf h1 hT hc
    obtain ⟨q, rfl⟩ : ∃ q, fuel = q + 1 := ⟨fuel - 1, by omega⟩
    obtain rfl : set = 16 := by omega
    exact ⟨T, by rw [xX2_findQuestion_h26_s, if_pos (by decide), nI_1], hc, rfl, rfl⟩
  | succ d ih =>
    intro set fuel T hs hf h1 hT hc
    obtain ⟨q, rfl⟩ : ∃ q, fuel = q + 1 := ⟨fuel - 1, by omega⟩
    have n15 : ¬ (15 : Int32) < nI set := nI_nlt (b := set) (a := 15) (by omega) (by decide)
    obtain ⟨T1, t1, t2⟩ := x2_LM (P := P) (s := set) (p := aim) (by omega) hT
    have hL := LM_le P set aim
    have hc1 : CS (LM P) (Dc aim set) T1 := hc.keep (t2 4 (by decide)) (t2 5 (by decide))
    have hT1 : ∀ th, th < 16 → T1 1 th = nI (ct (fun u => P u && decide (tkn (cd u) aim = th)) 81) := fun th hth => by rw [t2 1 (by decide)]; exact hT th hth
    have ea : 10 * nI set + nI aim = nI (10 * set + aim) := by rw [show (10 : Int32) = nI 10 by decide, pk_mul, nI_add]
    have eD : ∀ s a, pt (Dc aim set) set aim s a ↔ Dc aim (set + 1) s a := fun s a => by unfold pt Dc; omega
    have go : ∀ T2 : St, (∀ r, r ≠ 4 → r ≠ 5 → T2 r = T1 r) → CS (LM P) (Dc aim (set + 1)) T2 → ∃ T', xX2_findQuestion_h26 k14 q (nI aim) (nI (set + 1)) T2 = k14 (nI (aim + 1)) T' ∧ CS (LM P) (Dc aim 16) T' ∧ T' 0 = T 0 ∧ T' 3 = T 3 := by
      intro T2 hk hcs
      obtain ⟨T', r1, r2, r3, r4⟩ := ih (set + 1) q T2 (by omega) (by omega) (by omega) (fun th hth => by rw [hk 1 (by decide) (by decide)]; exact hT1 th hth) hcs
      exact ⟨T', r1, r2, by rw [r3, hk 0 (by decide) (by decide), t2 0 (by decide)], by rw [r4, hk 3 (by decide) (by decide), t2 3 (by decide)]⟩
    have gset : LX (LM P) (Dc aim (set + 1)) (LM P set aim) (10 * set + aim) → ∃ T', xX2_findQuestion_h26 k14 q (nI aim) (nI (set + 1)) (q_su (q_su T1 5 0 (nI (LM P set aim))) 4 0 (nI (10 * set + aim))) = k14 (nI (aim + 1)) T' ∧ CS (LM P) (Dc aim 16) T' ∧ T' 0 = T 0 ∧ T' 3 = T 3 := fun hx => go _ (fun r a b => by rw [su_row a, su_row b]) (Or.inr ⟨_, _, hL, by omega, by rw [su_row (by decide)]; simp [su_at], by simp [su_at], hx⟩)
    rw [xX2_findQuestion_h26_s, if_neg n15, t1, Option.bind_some]
    simp only [q_let, ea, nI_1]
    rcases hc1 with ⟨c1, c2⟩ | ⟨b, c, c1, c2, c3, c4, c5⟩
    · rw [if_pos (show nI (LM P set aim) < T1 5 0 by rw [c1]; exact nI_lt (by omega) (by decide))]
      exact gset ((LX.first c2 set aim).iff eD)
    · by_cases l1 : LM P set aim < b
      · rw [if_pos (show nI (LM P set aim) < T1 5 0 by rw [c3]; exact nI_lt l1 (by omega))]
        exact gset ((c5.take (Or.inl l1)).iff eD)
      · rw [if_neg (show ¬ nI (LM P set aim) < T1 5 0 by rw [c3]; exact nI_nlt (by omega) (by omega))]
        by_cases l2 : LM P set aim = b
        · rw [if_pos (show nI (LM P set aim) = T1 5 0 by rw [c3, l2])]
          by_cases l3 : c ≤ 10 * set + aim
          · rw [if_pos (show T1 4 0 ≤ nI (10 * set + aim) by rw [c4]; exact nI_le l3 (by omega))]
            exact go T1 (fun _ _ _ => rfl) (Or.inr ⟨b, c, c1, c2, c3, c4, (c5.pass (Or.inr ⟨l2.symm, l3⟩)).iff eD⟩)
          · rw [if_neg (show ¬ T1 4 0 ≤ nI (10 * set + aim) by rw [c4]; exact nI_ge (by omega) (by omega))]
            exact gset ((c5.take (Or.inr ⟨l2, by omega⟩)).iff eD)
        · rw [if_neg (show ¬ nI (LM P set aim) = T1 5 0 by rw [c3]; exact fun q => l2 ((nI_eq (by omega) (by omega)).mp q))]
          exact go T1 (fun _ _ _ => rfl) (Or.inr ⟨b, c, c1, c2, c3, c4, (c5.pass (Or.inl (by omega))).iff eD⟩)
theorem fq_out {P : Nat → Bool} : ∀ d aim fuel (T : St), aim + d = 4 → d < fuel → fnd P T → CS (LM P) (Dc aim 1) T → ∃ T', xX2_findQuestion_h14 fuel (nI aim) T = some T' ∧ CS (LM P) (Dc 4 1) T' := by
  intro d
  induction d with
  | zero =>
    intro aim fuel T ha hf hT hc
    obtain ⟨q, rfl⟩ : ∃ q, fuel = q + 1 := ⟨fuel - 1, by omega⟩
    obtain rfl : aim = 4 := by omega
    exact ⟨T, by rw [xX2_findQuestion_h14_s, if_pos (by decide)], hc⟩
  | succ d ih =>
    intro aim fuel T ha hf hT hc
    obtain ⟨q, rfl⟩ : ∃ q, fuel = q + 1 := ⟨fuel - 1, by omega⟩
    have ha4 : aim < 4 := by omega
    obtain ⟨T1, t1, t2, t3⟩ := x2_cnt ha4 hT
    rw [xX2_findQuestion_h14_s, if_neg (n4 ha4), t1, Option.bind_some]
    obtain ⟨T2, u1, u2, u3, u4⟩ := fq_in (P := P) ha4 (xX2_findQuestion_h14 q) 15 1 5000 T1 (by omega) (by omega) (by omega) t3 (hc.keep (t2 4 (by decide)) (t2 5 (by decide)))
    rw [show nI 1 = 1 by decide] at u1
    rw [u1]
    exact ih (aim + 1) q T2 (by omega) (by omega) (hT.keep (by rw [u3, t2 0 (by decide)]) (by rw [u4, t2 3 (by decide)])) (u2.iff (fun s a => by unfold Dc; omega))
def Dm (code : Nat) : Nat → Nat → Prop := fun s a => 1 ≤ s ∧ s ≤ 15 ∧ a < 4 ∧ 10 * s + a < code
theorem q10 {t : Nat} (h : t < 2 ^ 31) : q_rem (nI t) 10 = nI (t % 10) := m_r10 h
theorem ask_loop {S M : St} {N : Nat} (h : sgN S N) (g : sg S M) (p0 : Int32) : ∀ d code fuel b c (B : St), code + d = 154 → d < fuel → 11 ≤ code → b ≤ 81 → c ≤ 1000 → (∀ q, q ≠ 31 → B q = M q) → LX (LM (fun u => ftB S N (cd u))) (Dm code) b c → ∃ b' c' B', b' ≤ 81 ∧ c' ≤ 1000 ∧ LX (LM (fun u => ftB S N (cd u))) (Dm 154) b' c' ∧ xX9_ask_h27 p0 fuel (nI c) (nI b) (nI code) B = some (if nI b' = 0 then -6 else if p0 = 0 then nI c' else nI b', B') ∧ ∀ q, q ≠ 31 → B' q = M q := by
  intro d
  induction d with
  | zero =>
    intro code fuel b c B hd hf h11 hb hc hB hx
    obtain ⟨q, rfl⟩ : ∃ q, fuel = q + 1 := ⟨fuel - 1, by omega⟩
    obtain rfl : code = 154 := by omega
    refine ⟨b, c, B, hb, hc, hx, ?_, hB⟩
    rw [xX9_ask_h27_s, if_pos (by decide +kernel)]
    split
    · rfl
    · split <;> rfl
  | succ d ih =>
    intro code fuel b c B hd hf h11 hb hc hB hx
    obtain ⟨q, rfl⟩ : ∃ q, fuel = q + 1 := ⟨fuel - 1, by omega⟩
    have n154 : ¬ (154 : Int32) ≤ nI code := by rw [show (154 : Int32) = nI 154 by decide +kernel]; exact nI_ge (by omega) (by decide)
    rw [xX9_ask_h27_s, if_neg n154, q10 (show code < 2 ^ 31 by omega), m_d10 (show code < 2 ^ 31 by omega)]
    unfold xX9_ask_h62 xX9_ask_h76
    have gB : sg S B := g.keep (hB 11 (by decide)) (hB 12 (by decide)) (hB 13 (by decide)) (hB 14 (by decide))
    by_cases h4 : 4 ≤ code % 10
    · rw [if_pos (show (4 : Int32) ≤ nI (code % 10) from nI_le (a := 4) h4 (by omega)), if_pos (nI_le (Nat.le_refl b) (by omega)), ← mn_less, mn_nat (by omega) (by omega), Nat.min_self, nI_1]
      exact ih (code + 1) q b c B (by omega) (by omega) (by omega) hb hc hB (hx.iff (fun s a => by unfold Dm; omega))
    · obtain ⟨B1, l1, l2⟩ := x9_LM h gB (s := code / 10) (p := code % 10) (by omega) (by omega)
      have hL := LM_le (fun u => ftB S N (cd u)) (code / 10) (code % 10)
      have hB1 : ∀ q, q ≠ 31 → B1 q = M q := fun q hq => by rw [l2 q hq, hB q hq]
      have eD : ∀ s a, pt (Dm code) (code / 10) (code % 10) s a ↔ Dm (code + 1) s a := fun s a => by unfold pt Dm; omega
      have ecode : 10 * (code / 10) + code % 10 = code := by omega
      obtain ⟨⟨s0, a0, x1, x2, x3⟩, -⟩ := id hx
      have hcc : c < code := by rw [x3]; exact x1.2.2.2
      rw [if_neg (show ¬ 4 ≤ nI (code % 10) from nI_ge (b := 4) (by omega) (by decide)), l1, Option.bind_some]
      dsimp only
      rw [← mn_less, mn_nat (by omega) (by omega), nI_1]
      by_cases hle : b ≤ LM (fun u => ftB S N (cd u)) (code / 10) (code % 10)
      · rw [if_pos (nI_le hle (by omega)), Nat.min_eq_left hle]
        refine ih (code + 1) q b c B1 (by omega) (by omega) (by omega) hb hc hB1 ((hx.pass (s0 := code / 10) (a0 := code % 10) ?_).iff eD)
        rw [ecode]
        omega
      · rw [if_neg (nI_ge (by omega) (by omega)), Nat.min_eq_right (by omega)]
        have hx' := (hx.take (s0 := code / 10) (a0 := code % 10) (Or.inl (by omega))).iff eD
        rw [ecode] at hx'
        exact ih (code + 1) q _ code B1 (by omega) (by omega) (by omega) hL (by omega) hB1 hx'
theorem op_ask {S6 M : St} (h : sg S6 M) (S7 : St) (p0 : Int32) : ∃ r S7' M', xX8_ask S6 p0 S7 = some (r, S7') ∧ xX9_ask p0 M = some (r, M') ∧ ke M M' := by
  unfold xX8_ask xX9_ask
  rw [m_in p0 (a := 0) (b := 1) (by decide +kernel) (by decide +kernel)]
  by_cases c1 : xX8_within p0 0 1 = 0
  · rw [if_pos c1, if_pos c1]
    exact ⟨_, _, _, rfl, rfl, ke.rf⟩
  rw [if_neg c1, if_neg c1]
  obtain ⟨N, hN⟩ := sg_N h
  obtain ⟨T, t1, tf⟩ := x2_find hN S7
  have t2 := tf.1
  obtain ⟨B1, l1, l2⟩ := x9_LM hN h (s := 1) (p := 0) (by decide) (by decide)
  have hL := LM_le (fun u => ftB S6 N (cd u)) 1 0
  have hx0 : LX (LM (fun u => ftB S6 N (cd u))) (Dm 11) (LM (fun u => ftB S6 N (cd u)) 1 0) 10 := ⟨⟨1, 0, ⟨by decide, by decide, by decide, by decide⟩, rfl, rfl⟩, fun s a q => by
    obtain ⟨q1, q2, q3, q4⟩ := q
    obtain rfl : s = 1 := by omega
    obtain rfl : a = 0 := by omega
    exact Or.inr ⟨rfl, Nat.le_refl _⟩⟩
  obtain ⟨b, c, B, hb, hc, hx, r1, r2⟩ := ask_loop hN h p0 143 11 5000 _ 10 B1 (by omega) (by omega) (by omega) hL (by omega) l2 hx0
  rw [show nI 1 = 1 by decide, nI_0] at l1
  rw [show nI 10 = 10 by decide, show nI 11 = 11 by decide] at r1
  rw [t1, Option.bind_some, l1, Option.bind_some, r1, t2]
  have hcl := ct_le (fun u => ftB S6 N (cd u)) 81
  have kk := ke_30 (M := M) (M' := B) (x := 31) (Or.inr rfl) r2
  obtain ⟨⟨s, a, x1, x2, x3⟩, -⟩ := id hx
  by_cases h0 : ct (fun u => ftB S6 N (cd u)) 81 = 0
  · have hb0 : b = 0 := by
      have : LM (fun u => ftB S6 N (cd u)) s a ≤ 0 := mx_le (fun j _ => Nat.le_of_not_lt (fun q => by
        obtain ⟨t, y1, y2, y3⟩ := ct_hit 81 q
        have y2' : (ftB S6 N (cd t) && decide (bc4 s (tkn (cd t) a) = j)) = true := y2
        rw [Bool.and_eq_true] at y2'
        have := ct_lt (P := fun u => ftB S6 N (cd u)) y2'.1 y1
        omega))
      omega
    rw [if_pos (by rw [h0, nI_0]), if_pos (by rw [hb0, nI_0])]
    exact ⟨_, _, _, rfl, rfl, kk⟩
  · have hb1 : 1 ≤ b := by
      obtain ⟨t, y1, y2, y3⟩ := ct_hit (P := fun u => ftB S6 N (cd u)) (j := 0) 81 (by omega)
      have hbl := bc4_le s (tkn (cd t) a)
      have k1 := ct_lt (P := fun u => ftB S6 N (cd u) && decide (bc4 s (tkn (cd u) a) = bc4 s (tkn (cd t) a))) (u := t) (n := 81) (by simpa using y2) y1
      have k2 := mx_ge (f := fun k => ct (fun u => ftB S6 N (cd u) && decide (bc4 s (tkn (cd u) a) = k)) 81) (k := bc4 s (tkn (cd t) a)) (by omega)
      have k3 : ct (fun u => ftB S6 N (cd u) && decide (bc4 s (tkn (cd u) a) = bc4 s (tkn (cd t) a))) 81 ≤ LM (fun u => ftB S6 N (cd u)) s a := k2
      omega
    have n0 : ¬ nI (ct (fun u => ftB S6 N (cd u)) 81) = 0 := nI_ne0 (by omega) (by omega)
    have n1 : ¬ nI b = 0 := nI_ne0 (by omega) (by omega)
    unfold xX2_findQuestion
    simp only [q_let]
    obtain ⟨T', u1, u2⟩ := fq_out (P := fun u => ftB S6 N (cd u)) 4 0 5000 (q_su (q_su T 4 0 (-6)) 5 0 82) (by omega) (by omega) (tf.keep (by rw [su_row (by decide), su_row (by decide)]) (by rw [su_row (by decide), su_row (by decide)])) (Or.inl ⟨by rw [show nI 82 = 82 by decide]; simp [su_at], fun s a q => by unfold Dc at q; omega⟩)
    rw [nI_0] at u1
    rw [if_neg n0, if_neg n1, u1, Option.bind_some]
    rcases u2 with ⟨v1, v2⟩ | ⟨b', c', v1, v2, v3, v4, v5⟩
    · exact absurd ⟨by decide, by decide, by decide, Or.inl (by decide)⟩ (v2 1 0)
    · obtain ⟨rfl, rfl⟩ := (hx.iff (fun s a => by unfold Dm Dc; omega)).uniq v5
      by_cases d0 : p0 = 0
      · rw [if_pos d0, if_pos d0, v4]
        exact ⟨_, _, _, rfl, rfl, kk⟩
      · rw [if_neg d0, if_neg d0, v3]
        exact ⟨_, _, _, rfl, rfl, kk⟩
