/-! PURE: plans: the table, set by set; the best set -/
theorem zb_at {s l k : Nat} (hk8 : k < 32) (h : nI s &&& (nI l ^^^ (-1)) = 0) (hk : s.testBit k = true) : l.testBit k = true := by
  have a := b_sub.mp h k hk8
  rw [b_nI s hk8, b_nI l hk8] at a
  exact a hk
/-- the stones of a set that lies stand on cells -/
theorem sb_lies {A : St} (ho : ok A) {s : Nat} (hs : s < 256) (h : nI s &&& (ly A ^^^ (-1)) = 0) : ∀ k, k < 8 → s.testBit k = true → ∃ c, c < 12 ∧ A 2 k = nI c := by
  intro k hk hb
  rw [ly_bn] at h
  have a := zb_at (show k < 32 by omega) h hb
  rw [bn_bit _ _ k hk] at a
  unfold lyc at a
  have a' : ¬ A 2 k = -6 := of_decide_eq_true a
  rcases ho.2.2.1 k hk with q | q
  · exact absurd q.1 a'
  · obtain ⟨c, hc, e⟩ := m_nat (n := 11) (b := 11) (by decide) ⟨q.1, q.2.1⟩
    exact ⟨c, by omega, e⟩
theorem sb_less {m : Int32} {s w : Nat} (hs : s < 256) (hw : w < 8) (hsw : s.testBit w = true) (h : nI s &&& m = 0) : nI (s - 2 ^ w) &&& m = 0 := by
  obtain ⟨-, e2, -, -⟩ := bx_at hs hw hsw
  rw [← e2, Int32.and_assoc, Int32.and_comm (q_shl 1 (nI w) ^^^ (-1)) m, ← Int32.and_assoc, h, Int32.zero_and]
def cn (can : Int32) (v : Nat) : Int32 := if can = 0 then (if 1000 ≤ v then 0 else 1) else 1
theorem cn_01 (can : Int32) (v : Nat) : cn can v = 0 ∨ cn can v = 1 := by
  unfold cn
  split
  · split
    · exact Or.inl rfl
    · exact Or.inr rfl
  · exact Or.inr rfl
theorem cn_no {can : Int32} (h : can = 0 ∨ can = 1) {v : Nat} (hv : 1000 ≤ v) : cn can v = can := by
  unfold cn
  rcases h with h | h
  · rw [if_pos h, if_pos hv, h]
  · rw [h]; rfl
theorem cn_yes {can : Int32} {v : Nat} (hv : v < 1000) : cn can v = 1 := by
  unfold cn
  rw [if_neg (show ¬ 1000 ≤ v by omega)]
  split <;> rfl
theorem x9_69 {s w : Nat} (hs : s < 256) (hw : w < 8) (p1 : Int32) (K : Int32 → Int32 → St → Option (Int32 × St)) (can : Int32) {v : Nat} (hv : v ≤ 1000) (B : St) : xX9_canBe_h69 (nI s) p1 K can (nI w) (nI (8 * s + w)) (nI v) B = K (cn can v) (nI (w + 1)) (q_su B 30 (8 * s + w) (nI v)) := by
  unfold xX9_canBe_h69 cn
  have i2 : 8 * nI s + nI w = nI (8 * s + w) := by rw [l8, pk_mul, nI_add]
  have hib : q_ib (nI (8 * s + w)) 2048 = true := m_ib (by omega) (by decide)
  have et : q_su B 30 (8 * s + w) (nI v) 30 (8 * s + w) = nI v := by simp [su_at]
  simp only [i2, if_pos hib, q_let, nI_clamp (show 8 * s + w < 2 ^ 31 by omega), nI_1, et]
  by_cases hc : can = 0
  · rw [if_pos hc, if_pos hc]
    by_cases h : 1000 ≤ v
    · rw [if_pos (by rw [l1000]; exact nI_le h (by omega)), if_pos h]
    · rw [if_neg (by rw [l1000]; exact nI_ge (by omega) (by decide)), if_neg h]
  · rw [if_neg hc, if_neg hc]
def tb (A T B : St) (s : Nat) : Prop := ∀ b k, b < s → k < 8 → 1 ≤ b → nI b &&& (ly A ^^^ (-1)) = 0 → ∃ f, f ≤ 1000 ∧ T 0 (8 * b + k) = nI f ∧ B 30 (8 * b + k) = nI f
theorem cr_loop {A : St} {s r : Nat} (ho : ok A) (hs : s < 256) (hr : r < 4) (hsub : nI s &&& (ly A ^^^ (-1)) = 0) : ∀ d w fa fb can (T B : St), w + d = 8 → d < fa → d < fb → (can = 0 ∨ can = 1) → pe A B → tb A T B s → (∀ k, k < w → ∃ f, f ≤ 1000 ∧ T 0 (8 * s + k) = nI f ∧ B 30 (8 * s + k) = nI f) → ∃ can' T' B', (can' = 0 ∨ can' = 1) ∧ xX6_canRead_h6 A (nI r) (nI s) fa can (nI w) T = some (can', T') ∧ xX9_canBe_h5 (nI s) (nI r) fb can (nI w) B = some (can', B') ∧ (∀ q, q ≠ 30 → B' q = B q) ∧ (∀ i, i < 8 * s → T' 0 i = T 0 i ∧ B' 30 i = B 30 i) ∧ (∀ k, k < 8 → ∃ f, f ≤ 1000 ∧ T' 0 (8 * s + k) = nI f ∧ B' 30 (8 * s + k) = nI f) := by
  intro d
  induction d with
  | zero =>
    intro w fa fb can T B hw hfa hfb hcan hp htb hk
    obtain ⟨fa, rfl⟩ : ∃ x, fa = x + 1 := ⟨fa - 1, by omega⟩
    obtain ⟨fb, rfl⟩ : ∃ x, fb = x + 1 := ⟨fb - 1, by omega⟩
    obtain rfl : w = 8 := by omega
    have hz : q_zb can = true := decide_eq_true hcan
    refine ⟨can, T, B, hcan, ?_, ?_, fun _ _ => rfl, fun _ _ => ⟨rfl, rfl⟩, hk⟩
    · rw [xX6_canRead_h6_s, if_pos (by decide), if_pos hz]
    · rw [xX9_canBe_h5_s, if_pos (by decide), if_pos hz]
  | succ d ih =>
    intro w fa fb can T B hw hfa hfb hcan hp htb hk
    obtain ⟨fa, rfl⟩ : ∃ x, fa = x + 1 := ⟨fa - 1, by omega⟩
    obtain ⟨fb, rfl⟩ : ∃ x, fb = x + 1 := ⟨fb - 1, by omega⟩
    have hw8 : w < 8 := by omega
    have i1 : nI s * 8 + nI w = nI (8 * s + w) := by rw [l8, pk_mul, nI_add, Nat.mul_comm]
    have i2 : 8 * nI s + nI w = nI (8 * s + w) := by rw [l8, pk_mul, nI_add]
    have hib : q_ib (nI (8 * s + w)) 2048 = true := m_ib (by omega) (by decide)
    have fin : ∀ v (T' : St), v ≤ 1000 → T' 0 (8 * s + w) = nI v → (∀ i, i ≠ 8 * s + w → T' 0 i = T 0 i) → ∃ can' T2 B', (can' = 0 ∨ can' = 1) ∧ xX6_canRead_h6 A (nI r) (nI s) fa (cn can v) (nI (w + 1)) T' = some (can', T2) ∧ xX9_canBe_h5 (nI s) (nI r) fb (cn can v) (nI (w + 1)) (q_su B 30 (8 * s + w) (nI v)) = some (can', B') ∧ (∀ q, q ≠ 30 → B' q = B q) ∧ (∀ i, i < 8 * s → T2 0 i = T 0 i ∧ B' 30 i = B 30 i) ∧ (∀ k, k < 8 → ∃ f, f ≤ 1000 ∧ T2 0 (8 * s + k) = nI f ∧ B' 30 (8 * s + k) = nI f) := by
      intro v T' hv hT1 hT2
      obtain ⟨can', T2, B', r1, r2, r3, r4, r5, r6⟩ := ih (w + 1) fa fb (cn can v) T' (q_su B 30 (8 * s + w) (nI v)) (by omega) (by omega) (by omega) (cn_01 can v) (hp.other (by omega) _ _) (fun b k hb hk8 h1 h2 => by
        obtain ⟨f, f1, f2, f3⟩ := htb b k hb hk8 h1 h2
        exact ⟨f, f1, by rw [hT2 _ (by omega)]; exact f2, by rw [su_at, if_neg (by omega)]; exact f3⟩) (fun k hkw => by
        by_cases e : k = w
        · subst e
          exact ⟨v, hv, hT1, by simp [su_at]⟩
        · obtain ⟨f, f1, f2, f3⟩ := hk k (by omega)
          exact ⟨f, f1, by rw [hT2 _ (by omega)]; exact f2, by rw [su_at, if_neg (by omega)]; exact f3⟩)
      exact ⟨can', T2, B', r1, r2, r3, fun q hq => by rw [r4 q hq, su_row hq], fun i hi => by
        obtain ⟨x1, x2⟩ := r5 i hi
        exact ⟨by rw [x1, hT2 i (by omega)], by rw [x2, su_at, if_neg (by omega)]⟩, r6⟩
    have t4a : q_su T 0 (8 * s + w) 1000 0 (8 * s + w) = nI 1000 := by rw [← l1000]; simp [su_at]
    have t4b : ∀ i, i ≠ 8 * s + w → q_su T 0 (8 * s + w) 1000 0 i = T 0 i := fun i hi => by rw [su_at, if_neg (by omega)]
    rw [xX6_canRead_h6_s, if_neg (n8 hw8), i1, if_pos hib, xX9_canBe_h5_s, if_neg (n8 hw8), x9_has hs hw8]
    unfold xX9_canBe_h37
    simp only [q_let, nI_clamp (show 8 * s + w < 2 ^ 31 by omega), i2, nI_1]
    generalize q_su T 0 (8 * s + w) 1000 = T4 at t4a t4b ⊢
    by_cases ht : s.testBit w = true
    · obtain ⟨e1, e2, e3, e4⟩ := bx_at hs hw8 ht
      have h2w : 0 < 2 ^ w := Nat.two_pow_pos w
      have hlt : s - 2 ^ w < s := Nat.sub_lt (Nat.lt_of_lt_of_le h2w e3) h2w
      obtain ⟨x, z, u, hz, hu1, hu, hx, ez, eu, g1, g2⟩ := ea_one (T := T4) hp ho hs hw8 hr ht (sb_lies ho hs hsub) (fun hne k hk8 hb => by
        obtain ⟨f, f1, f2, f3⟩ := htb (s - 2 ^ w) k hlt hk8 (Nat.pos_of_ne_zero hne) (sb_less hs hw8 ht hsub)
        exact ⟨f, f1, by rw [t4b _ (by omega)]; exact f2, f3⟩)
      rw [if_pos ((bit_has s hs w hw8).mpr ht), g1, Option.bind_some, if_pos ht, if_neg (show ¬ (1 : Int32) = 0 by decide), x9_ly (ok_pe ho hp), Option.bind_some, ← ly_pe hp, if_pos hsub, if_neg (show ¬ (1 : Int32) = 0 by decide), g2, Option.bind_some, x9_69 hs hw8 (nI r) _ can (gg_le hz hu1 x) B, if_pos (m_ib hw8 (by decide)), nI_clamp (show w < 2 ^ 31 by omega), ez, eu, pk_mul]
      have hm : x * u ≤ 1000 * 9 := Nat.mul_le_mul hx hu
      by_cases hx1 : x = 1000
      · have gv : gg z u x = 1000 := gg_1000 hz hu1 (by omega)
        rw [if_pos (by rw [hx1, l1000]; exact nI_le (Nat.le_refl 1000) (by decide))]
        have := fin 1000 T4 (Nat.le_refl 1000) t4a t4b
        rw [cn_no hcan (Nat.le_refl 1000)] at this
        rw [gv, cn_no hcan (Nat.le_refl 1000)]
        exact this
      · rw [if_neg (by rw [l1000]; exact nI_ge (by omega) (by decide))]
        by_cases hzx : z ≤ x * u
        · have gv : gg z u x = 1000 := by unfold gg; rw [if_pos hzx]
          rw [if_pos (nI_le hzx (by omega))]
          have := fin 1000 T4 (Nat.le_refl 1000) t4a t4b
          rw [cn_no hcan (Nat.le_refl 1000)] at this
          rw [gv, cn_no hcan (Nat.le_refl 1000)]
          exact this
        · have gv : gg z u x = x + 1 := by unfold gg; rw [if_neg hzx]
          have hxu : x ≤ x * u := Nat.le_mul_of_pos_right x hu1
          rw [if_neg (nI_ge (by omega) (by omega))]
          have := fin (x + 1) (q_su T4 0 (8 * s + w) (nI (x + 1))) (by omega) (by simp [su_at]) (fun i hi => by rw [su_at, if_neg (by omega)]; exact t4b i hi)
          rw [cn_yes (show x + 1 < 1000 by omega)] at this
          rw [gv, cn_yes (show x + 1 < 1000 by omega), nI_1]
          exact this
    · rw [if_neg (fun q => ht ((bit_has s hs w hw8).mp q)), if_neg ht, if_pos rfl, if_true, l1000, x9_69 hs hw8 (nI r) _ can (Nat.le_refl 1000) B]
      have := fin 1000 T4 (Nat.le_refl 1000) t4a t4b
      rw [cn_no hcan (Nat.le_refl 1000)] at this
      rw [cn_no hcan (Nat.le_refl 1000)]
      exact this
/-- a set that has a stone in it that doesn't lie -/
theorem nb_loop {A : St} {s : Nat} (r : Nat) (ho : ok A) (hs : s < 256) (hsub : ¬ nI s &&& (ly A ^^^ (-1)) = 0) : ∀ d w fb (B : St), w + d = 8 → d < fb → pe A B → ∃ B', xX9_canBe_h5 (nI s) (nI r) fb 0 (nI w) B = some (0, B') ∧ (∀ q, q ≠ 30 → B' q = B q) ∧ (∀ i, i < 8 * s → B' 30 i = B 30 i) := by
  intro d
  induction d with
  | zero =>
    intro w fb B hw hfb hp
    obtain ⟨fb, rfl⟩ : ∃ x, fb = x + 1 := ⟨fb - 1, by omega⟩
    obtain rfl : w = 8 := by omega
    exact ⟨B, by rw [xX9_canBe_h5_s, if_pos (by decide), if_pos (by decide)], fun _ _ => rfl, fun _ _ => rfl⟩
  | succ d ih =>
    intro w fb B hw hfb hp
    obtain ⟨fb, rfl⟩ : ∃ x, fb = x + 1 := ⟨fb - 1, by omega⟩
    have hw8 : w < 8 := by omega
    have i2 : 8 * nI s + nI w = nI (8 * s + w) := by rw [l8, pk_mul, nI_add]
    have fin : ∃ B', xX9_canBe_h5 (nI s) (nI r) fb 0 (nI (w + 1)) (q_su B 30 (8 * s + w) (nI 1000)) = some (0, B') ∧ (∀ q, q ≠ 30 → B' q = B q) ∧ (∀ i, i < 8 * s → B' 30 i = B 30 i) := by
      obtain ⟨B', r1, r2, r3⟩ := ih (w + 1) fb (q_su B 30 (8 * s + w) (nI 1000)) (by omega) (by omega) (hp.other (by omega) _ _)
      exact ⟨B', r1, fun q hq => by rw [r2 q hq, su_row hq], fun i hi => by rw [r3 i hi, su_at, if_neg (by omega)]⟩
    have stp : xX9_canBe_h69 (nI s) (nI r) (xX9_canBe_h5 (nI s) (nI r) fb) 0 (nI w) (nI (8 * s + w)) 1000 B = xX9_canBe_h5 (nI s) (nI r) fb 0 (nI (w + 1)) (q_su B 30 (8 * s + w) (nI 1000)) := by
      rw [l1000, x9_69 hs hw8 (nI r) _ 0 (Nat.le_refl 1000) B, cn_no (Or.inl rfl) (Nat.le_refl 1000)]
    rw [xX9_canBe_h5_s, if_neg (n8 hw8), x9_has hs hw8]
    unfold xX9_canBe_h37
    rw [i2, stp]
    by_cases ht : s.testBit w = true
    · rw [if_pos ht, if_neg (show ¬ (1 : Int32) = 0 by decide), x9_ly (ok_pe ho hp), Option.bind_some, ← ly_pe hp, if_neg hsub, if_pos rfl]
      exact fin
    · rw [if_neg ht, if_pos rfl, if_pos rfl]
      exact fin
theorem l256 : (256 : Int32) = nI 256 := by decide +kernel
theorem pl_loop {A : St} {r : Nat} (ho : ok A) (hr : r < 4) (p1 : Int32) : ∀ d s fa fb bb (T B : St), s + d = 256 → d < fa → d < fb → bb < 256 → pe A B → tb A T B s → ∃ bb' T' B', bb' < 256 ∧ xX6_bestStones_h14 A (nI r) fa (ly A) (nI bb) (fg A bb) (nI s) T = some (nI bb', T') ∧ xX9_plan_h27 (nI r) p1 fb (nI bb) (nI s) B = some (if p1 = 0 then fg A bb' else nI bb', B') ∧ (∀ q, q ≠ 30 → B' q = B q) := by
  intro d
  induction d with
  | zero =>
    intro s fa fb bb T B hs hfa hfb hbb hp htb
    obtain ⟨fa, rfl⟩ : ∃ x, fa = x + 1 := ⟨fa - 1, by omega⟩
    obtain ⟨fb, rfl⟩ : ∃ x, fb = x + 1 := ⟨fb - 1, by omega⟩
    obtain rfl : s = 256 := by omega
    have hle : (256 : Int32) ≤ nI 256 := by decide +kernel
    refine ⟨bb, T, B, hbb, ?_, ?_, fun _ _ => rfl⟩
    · rw [xX6_bestStones_h14_s, if_pos hle]
    · rw [xX9_plan_h27_s, if_pos hle, x9_fig B hbb, ← fg_pe hp]
      split <;> rfl
  | succ d ih =>
    intro s fa fb bb T B hs hfa hfb hbb hp htb
    obtain ⟨fa, rfl⟩ : ∃ x, fa = x + 1 := ⟨fa - 1, by omega⟩
    obtain ⟨fb, rfl⟩ : ∃ x, fb = x + 1 := ⟨fb - 1, by omega⟩
    have hs' : s < 256 := by omega
    have hle : ¬ (256 : Int32) ≤ nI s := by rw [l256]; exact nI_ge hs' (by decide)
    rw [xX6_bestStones_h14_s, if_neg hle, xX9_plan_h27_s, if_neg hle]
    unfold xX6_canRead xX9_canBe
    by_cases hsub : nI s &&& (ly A ^^^ (-1)) = 0
    · obtain ⟨can, T2, B2, c1, c2, c3, c4, c5, c6⟩ := cr_loop ho hs' hr hsub 8 0 5000 5000 0 T B (by omega) (by omega) (by omega) (Or.inl rfl) hp htb (fun k hk => by omega)
      rw [nI_0] at c2 c3
      have hp2 : pe A B2 := by
        refine hp.trans ⟨fun r k hr hk => ?_, fun r k h5 hr hk => ?_, ?_, ?_⟩
        · rw [c4 r (by omega)]
        · rw [c4 r (by omega)]
        · rw [c4 9 (by omega)]
        · rw [c4 10 (by omega)]
      have htb2 : tb A T2 B2 (s + 1) := by
        intro b k hb hk h1 h2
        by_cases e : b = s
        · subst e
          exact c6 k hk
        · obtain ⟨f, f1, f2, f3⟩ := htb b k (by omega) hk h1 h2
          obtain ⟨x1, x2⟩ := c5 (8 * b + k) (by omega)
          exact ⟨f, f1, by rw [x1]; exact f2, by rw [x2]; exact f3⟩
      have go : ∀ bb, bb < 256 → ∃ bb' T' B', bb' < 256 ∧ xX6_bestStones_h14 A (nI r) fa (ly A) (nI bb) (fg A bb) (nI (s + 1)) T2 = some (nI bb', T') ∧ xX9_plan_h27 (nI r) p1 fb (nI bb) (nI (s + 1)) B2 = some (if p1 = 0 then fg A bb' else nI bb', B') ∧ (∀ q, q ≠ 30 → B' q = B q) := by
        intro bb hbb
        obtain ⟨bb', T', B', r1, r2, r3, r4⟩ := ih (s + 1) fa fb bb T2 B2 (by omega) (by omega) (by omega) hbb hp2 htb2
        exact ⟨bb', T', B', r1, r2, r3, fun q hq => by rw [r4 q hq, c4 q hq]⟩
      rw [if_pos hsub, c2, c3, Option.bind_some, Option.bind_some]
      dsimp only
      rw [nI_1]
      rcases c1 with rfl | rfl
      · rw [if_pos rfl, if_pos rfl]
        exact go bb hbb
      · rw [if_neg (show ¬ (1 : Int32) = 0 by decide), if_neg (show ¬ (1 : Int32) = 0 by decide), x5_fig A hs', x9_fig B2 hs', x9_fig B2 hbb, Option.bind_some, Option.bind_some, Option.bind_some, ← fg_pe hp2, ← fg_pe hp2]
        by_cases hf : fg A s ≤ fg A bb
        · rw [if_pos hf, if_pos hf]
          exact go bb hbb
        · rw [if_neg hf, if_neg hf]
          exact go s hs'
    · obtain ⟨B2, c2, c4, c5⟩ := nb_loop r ho hs' hsub 8 0 5000 B (by omega) (by omega) hp
      rw [nI_0] at c2
      have hp2 : pe A B2 := by
        refine hp.trans ⟨fun r k hr hk => ?_, fun r k h5 hr hk => ?_, ?_, ?_⟩
        · rw [c4 r (by omega)]
        · rw [c4 r (by omega)]
        · rw [c4 9 (by omega)]
        · rw [c4 10 (by omega)]
      have htb2 : tb A T B2 (s + 1) := by
        intro b k hb hk h1 h2
        by_cases e : b = s
        · subst e
          exact absurd h2 hsub
        · obtain ⟨f, f1, f2, f3⟩ := htb b k (by omega) hk h1 h2
          exact ⟨f, f1, f2, by rw [c5 (8 * b + k) (by omega)]; exact f3⟩
      rw [if_neg hsub, c2, Option.bind_some]
      dsimp only
      rw [nI_1, if_pos rfl]
      obtain ⟨bb', T', B', r1, r2, r3, r4⟩ := ih (s + 1) fa fb bb T B2 (by omega) (by omega) (by omega) hbb hp2 htb2
      exact ⟨bb', T', B', r1, r2, r3, fun q hq => by rw [r4 q hq, c4 q hq]⟩
theorem ke_30 {M M' : St} {x : Nat} (hx : x = 30 ∨ x = 31) (h : ∀ q, q ≠ x → M' q = M q) : ke M M' := by
  refine ⟨⟨fun r k hr hk => ?_, fun r k h5 hr hk => ?_, ?_, ?_⟩, fun r hr => h r (by omega)⟩
  · rw [h r (by omega)]
  · rw [h r (by omega)]
  · rw [h 9 (by omega)]
  · rw [h 10 (by omega)]
theorem fg_0 (A : St) : fg A 0 = 0 := by
  unfold fg
  have : ∀ n, fN (fgF A 0) n 0 = 0 := by
    intro n
    induction n with
    | zero => rw [fN_0]
    | succ n ih => rw [fN_s, ih]; unfold fgF; simp
  exact this 8
theorem op_plan {S0 M : St} (hp : pe S0 M) (ho : ok S0) (S5 : St) (p0 p1 : Int32) : ∃ r S5' M', xX8_plan S0 p0 p1 S5 = some (r, S5') ∧ xX9_plan p0 p1 M = some (r, M') ∧ ke M M' := by
  unfold xX8_plan xX9_plan xX6_bestStones
  rw [m_isR, m_in p1 (a := 0) (b := 1) (by decide +kernel) (by decide +kernel)]
  by_cases c0 : xX8_isReader p0 = 0
  · simp only [if_pos c0]
    exact ⟨_, _, _, rfl, rfl, ke.rf⟩
  by_cases c1 : xX8_within p1 0 1 = 0
  · simp only [if_neg c0, if_pos c1]
    exact ⟨_, _, _, rfl, rfl, ke.rf⟩
  obtain ⟨r, hr, rfl⟩ := m_R c0
  obtain ⟨bb, T, B, hbb, r1, r2, r3⟩ := pl_loop ho hr p1 255 1 5000 5000 0 S5 M (by omega) (by omega) (by omega) (by omega) hp (fun b k hb hk h1 h2 => by omega)
  rw [fg_0, nI_0, show nI 1 = 1 by decide] at r1
  rw [nI_0, show nI 1 = 1 by decide] at r2
  rw [if_neg c0, if_neg c0, if_neg c1, if_neg c1, x5_ly, Option.bind_some, r1, Option.bind_some, r2]
  dsimp only
  rw [x5_fig S0 hbb]
  by_cases d0 : p1 = 0
  · rw [if_pos d0, if_pos d0, Option.bind_some]
    exact ⟨_, _, _, rfl, rfl, ke_30 (Or.inl rfl) r3⟩
  · rw [if_neg d0, if_neg d0]
    exact ⟨_, _, _, rfl, rfl, ke_30 (Or.inl rfl) r3⟩
