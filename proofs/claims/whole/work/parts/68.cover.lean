/-! PURE: covers -/
set_option maxRecDepth 100000 in
theorem on_tab0 : (List.range 2048).all (fun x => decide (xX9_ones (nI x) = some (xJ6_bitCount_0f7a4 (nI x)))) = true := by decide +kernel
set_option maxRecDepth 100000 in
theorem on_tab1 : (List.range 2048).all (fun x => decide (xX9_ones (nI (2048 + x)) = some (xJ6_bitCount_0f7a4 (nI (2048 + x))))) = true := by decide +kernel
theorem on_at {x : Nat} (hx : x < 4096) : xX9_ones (nI x) = some (xJ6_bitCount_0f7a4 (nI x)) := by
  by_cases h : x < 2048
  · exact of_decide_eq_true (List.all_eq_true.mp on_tab0 x (List.mem_range.mpr h))
  · have a := of_decide_eq_true (List.all_eq_true.mp on_tab1 (x - 2048) (List.mem_range.mpr (by omega)))
    rw [show 2048 + (x - 2048) = x by omega] at a
    exact a
set_option maxRecDepth 100000 in
theorem cnr_tab : (List.range 12).all (fun c => (List.range 12).all fun d => (List.range 32).all fun e => bt (xX5_cellsNear (nI c) (nI d)) e == (decide (e < 12) && decide (dist e c ≤ d))) = true := by decide +kernel
theorem cnr_at {c d e : Nat} (hc : c < 12) (hd : d < 12) (he : e < 32) : bt (xX5_cellsNear (nI c) (nI d)) e = (decide (e < 12) && decide (dist e c ≤ d)) := by
  have a := List.all_eq_true.mp (List.all_eq_true.mp (List.all_eq_true.mp cnr_tab c (List.mem_range.mpr hc)) d (List.mem_range.mpr hd)) e (List.mem_range.mpr he)
  exact eq_of_beq a
theorem sh_tab : (List.range 12).all (fun c => (List.range 32).all fun e => bt (q_shl 1 (nI c)) e == decide (e = c)) = true := by decide +kernel
theorem sh_at {c e : Nat} (hc : c < 12) (he : e < 32) : bt (q_shl 1 (nI c)) e = decide (e = c) := by
  have a := List.all_eq_true.mp (List.all_eq_true.mp sh_tab c (List.mem_range.mpr hc)) e (List.mem_range.mpr he)
  exact eq_of_beq a
theorem n12 {k : Nat} (h : k < 12) : ¬ (12 : Int32) ≤ nI k := by rw [l12]; exact n_le h (by decide)
/-- the cells near one, of the model -/
def nrF (c d : Nat) (e : Nat) (b : Int32) : Int32 := if dist c e ≤ d then b ||| q_shl 1 (nI e) else b
theorem x9_near {c d : Nat} (hc : c < 12) (hd : d < 12) : ∃ y, xX9_near (nI c) (nI d) = some y ∧ ∀ e, e < 32 → bt y e = (decide (e < 12) && decide (dist c e ≤ d)) := by
  refine ⟨fN (nrF c d) 12 0, ?_, fun e he => ?_⟩
  · unfold xX9_near
    refine lp_c (fun n b k => xX9_near_h4 (nI c) (nI d) n b (nI k)) (nrF c d) (fun b => some b) 12 (fun _ _ => True) 0 (fun n k b hk _ => ⟨?_, trivial⟩) (fun n b _ => ?_) trivial 5000 (by decide)
    · have hdl := dist_le hc hk
      rw [xX9_near_h4_s, if_neg (n12 hk), (ab_tab c hc k hk).2, nI_1, or_0]
      unfold nrF
      by_cases h : dist c k ≤ d
      · rw [if_neg (nI_nlt h (by omega)), if_pos h]
      · rw [if_pos (nI_lt (by omega) (by omega)), if_neg h]
    · rw [xX9_near_h4_s, if_pos (by decide)]
  · have key : ∀ n, n ≤ 12 → bt (fN (nrF c d) n 0) e = (decide (e < n) && decide (dist c e ≤ d)) := by
      intro n
      induction n with
      | zero => intro _; rw [fN_0, b_0]; simp
      | succ n ih =>
        intro hn
        rw [fN_s]
        have ih' := ih (by omega)
        generalize fN (nrF c d) n 0 = zz at ih' ⊢
        unfold nrF
        by_cases h : dist c n ≤ d
        · rw [if_pos h, b_or, ih', sh_at (by omega) he]
          by_cases hen : e = n
          · subst hen; simp [h]
          · have : (e < n + 1) ↔ (e < n) := by omega
            simp [hen, this]
        · rw [if_neg h, ih']
          by_cases hen : e = n
          · subst hen; simp [h]
          · have : (e < n + 1) ↔ (e < n) := by omega
            simp [this]
    exact key 12 (Nat.le_refl 12)
theorem x9_nAll {s d : Nat} (hs : s < 4096) (hd : d < 12) : ∃ y, xX9_nearAll (nI s) (nI d) = some y ∧ ∀ e, e < 32 → (bt y e = true ↔ e < 12 ∧ ∃ c, c < 12 ∧ s.testBit c = true ∧ dist c e ≤ d) := by
  unfold xX9_nearAll
  have key : ∀ r k fuel b, k + r = 12 → r < fuel → (∀ e, e < 32 → (bt b e = true ↔ e < 12 ∧ ∃ c, c < k ∧ s.testBit c = true ∧ dist c e ≤ d)) → ∃ y, xX9_nearAll_h4 (nI s) (nI d) fuel b (nI k) = some y ∧ ∀ e, e < 32 → (bt y e = true ↔ e < 12 ∧ ∃ c, c < 12 ∧ s.testBit c = true ∧ dist c e ≤ d) := by
    intro r
    induction r with
    | zero =>
      intro k fuel b hk hf hb
      obtain ⟨q, rfl⟩ : ∃ q, fuel = q + 1 := ⟨fuel - 1, by omega⟩
      obtain rfl : k = 12 := by omega
      exact ⟨b, by rw [xX9_nearAll_h4_s, if_pos (by decide)], hb⟩
    | succ r ih =>
      intro k fuel b hk hf hb
      obtain ⟨q, rfl⟩ : ∃ q, fuel = q + 1 := ⟨fuel - 1, by omega⟩
      have hk12 : k < 12 := by omega
      rw [xX9_nearAll_h4_s, if_neg (n12 hk12), x9_hasN (show s < 2 ^ 31 by omega) (show k < 32 by omega), nI_1, or_0]
      by_cases ht : s.testBit k = true
      · obtain ⟨y, y1, y2⟩ := x9_near hk12 hd
        rw [if_pos ht, if_neg (show ¬ (1 : Int32) = 0 by decide), y1, Option.bind_some]
        refine ih (k + 1) q (b ||| y) (by omega) (by omega) (fun e he => ?_)
        rw [b_or, Bool.or_eq_true, hb e he, y2 e he, Bool.and_eq_true, decide_eq_true_eq, decide_eq_true_eq]
        constructor
        · rintro (⟨h1, c, h2, h3, h4⟩ | ⟨h1, h2⟩)
          · exact ⟨h1, c, by omega, h3, h4⟩
          · exact ⟨h1, k, by omega, ht, h2⟩
        · rintro ⟨h1, c, h2, h3, h4⟩
          by_cases hck : c = k
          · subst hck
            exact Or.inr ⟨h1, h4⟩
          · exact Or.inl ⟨h1, c, by omega, h3, h4⟩
      · rw [if_neg ht, if_pos rfl]
        refine ih (k + 1) q b (by omega) (by omega) (fun e he => ?_)
        rw [hb e he]
        constructor
        · rintro ⟨h1, c, h2, h3, h4⟩
          exact ⟨h1, c, by omega, h3, h4⟩
        · rintro ⟨h1, c, h2, h3, h4⟩
          by_cases hck : c = k
          · subst hck
            exact absurd h3 ht
          · exact ⟨h1, c, by omega, h3, h4⟩
  exact key 12 0 5000 0 (by omega) (by omega) (fun e he => by
    rw [b_0]
    constructor
    · intro q; cases q
    · rintro ⟨h1, c, h2, h3, h4⟩
      omega)
/-- each stone that lies is near one of the cells -/
def Nr (A : St) (s d : Nat) : Prop := ∀ p, p < 8 → ∀ c, c < 12 → A 2 p = nI c → ∃ e, e < 12 ∧ s.testBit e = true ∧ dist e c ≤ d
theorem ok.cell {A : St} (h : ok A) {k : Nat} (hk : k < 8) (hl : ¬ A 2 k = -6) : ∃ c, c < 12 ∧ A 2 k = nI c := by
  rcases h.2.2.1 k hk with q | q
  · exact absurd q.1 hl
  · obtain ⟨c, hc, e⟩ := m_nat (n := 11) (b := 11) (by decide) ⟨q.1, q.2.1⟩
    exact ⟨c, by omega, e⟩
theorem x5_near {A : St} (ho : ok A) {s d : Nat} (hs : s < 4096) (hd : d < 12) : ∃ v, xX5_allNear A (nI s) (nI d) = some v ∧ (v = 0 ↔ ¬ Nr A s d) := by
  unfold xX5_allNear
  have key : ∀ r k fuel, k + r = 8 → r < fuel → (∀ p, p < k → ∀ c, c < 12 → A 2 p = nI c → ∃ e, e < 12 ∧ s.testBit e = true ∧ dist e c ≤ d) → ∃ v, xX5_allNear_h2 A (nI s) (nI d) fuel (nI k) = some v ∧ (v = 0 ↔ ¬ Nr A s d) := by
    intro r
    induction r with
    | zero =>
      intro k fuel hk hf hb
      obtain ⟨q, rfl⟩ : ∃ q, fuel = q + 1 := ⟨fuel - 1, by omega⟩
      obtain rfl : k = 8 := by omega
      exact ⟨1, by rw [xX5_allNear_h2_s, if_pos (by decide)], ⟨fun q => absurd q (by decide), fun q => absurd hb q⟩⟩
    | succ r ih =>
      intro k fuel hk hf hb
      obtain ⟨q, rfl⟩ : ∃ q, fuel = q + 1 := ⟨fuel - 1, by omega⟩
      have hk8 : k < 8 := by omega
      rw [xX5_allNear_h2_s, if_neg (n8 hk8), x5_lies hk8, Option.bind_some, nI_1]
      by_cases hl : A 2 k = -6
      · rw [if_pos hl, if_pos rfl]
        refine ih (k + 1) q (by omega) (by omega) (fun p hp c hc e => ?_)
        by_cases hpk : p = k
        · subst hpk
          rw [hl] at e
          exact absurd e.symm (n6 (by omega))
        · exact hb p (by omega) c hc e
      · obtain ⟨c, hc, e⟩ := ho.cell hk8 hl
        rw [if_neg hl, if_neg (show ¬ (1 : Int32) = 0 by decide), if_pos (m_ib hk8 (by decide)), nI_clamp (show k < 2 ^ 31 by omega), e]
        by_cases hz : nI s &&& xX5_cellsNear (nI c) (nI d) = 0
        · rw [if_pos hz]
          refine ⟨0, rfl, fun _ hN => ?_, fun _ => rfl⟩
          obtain ⟨f, f1, f2, f3⟩ := hN k hk8 c hc e
          refine b_meet.mp hz f (by omega) ⟨?_, ?_⟩
          · rw [b_nI s (by omega)]; exact f2
          · rw [cnr_at hc hd (by omega)]; simp [f1, f3]
        · rw [if_neg hz]
          refine ih (k + 1) q (by omega) (by omega) (fun p hp c' hc' e' => ?_)
          by_cases hpk : p = k
          · subst hpk
            have ecc : c = c' := (nI_eq (by omega) (by omega)).mp (e.symm.trans e')
            subst ecc
            apply Classical.byContradiction
            intro hno
            refine hz (b_meet.mpr (fun i hi hx => ?_))
            have h1 := hx.1
            have h2 := hx.2
            rw [b_nI s hi] at h1
            rw [cnr_at hc hd hi, Bool.and_eq_true, decide_eq_true_eq, decide_eq_true_eq] at h2
            exact hno ⟨i, h2.1, h1, h2.2⟩
          · exact hb p (by omega) c' hc' e'
  exact key 8 0 5000 (by omega) (by omega) (fun p hp => by omega)
theorem l4096 : (4096 : Int32) = nI 4096 := by decide +kernel
theorem cv_loop {A : St} (B : St) (ho : ok A) {d : Nat} (hd : d < 12) (p1 W : Int32) (hW : ∀ e, e < 32 → (bt W e = true ↔ e < 12 ∧ ∃ p, p < 8 ∧ A 2 p = nI e)) : ∀ r s fa fb bb, s + r = 4096 → r < fa → r < fb → bb < 4096 → ∃ bb', bb' < 4096 ∧ xX8_fewestCells_h6 A (nI d) fa (nI bb) (nI s) = some (nI bb') ∧ xX9_cover_h77 B (nI d) p1 fb W (nI bb) (nI s) = some (if p1 = 0 then xJ6_bitCount_0f7a4 (nI bb') else nI bb') := by
  intro r
  induction r with
  | zero =>
    intro s fa fb bb hs hfa hfb hbb
    obtain ⟨fa, rfl⟩ : ∃ x, fa = x + 1 := ⟨fa - 1, by omega⟩
    obtain ⟨fb, rfl⟩ : ∃ x, fb = x + 1 := ⟨fb - 1, by omega⟩
    have hle : (4096 : Int32) ≤ nI s := by rw [l4096]; exact nI_le (by omega) (by omega)
    refine ⟨bb, hbb, ?_, ?_⟩
    · rw [xX8_fewestCells_h6_s, if_pos hle]
    · rw [xX9_cover_h77_s, if_pos hle, on_at hbb]
      split <;> rfl
  | succ r ih =>
    intro s fa fb bb hs hfa hfb hbb
    obtain ⟨fa, rfl⟩ : ∃ x, fa = x + 1 := ⟨fa - 1, by omega⟩
    obtain ⟨fb, rfl⟩ : ∃ x, fb = x + 1 := ⟨fb - 1, by omega⟩
    have hs' : s < 4096 := by omega
    have hle : ¬ (4096 : Int32) ≤ nI s := by rw [l4096]; exact nI_ge (by omega) (by decide)
    rw [xX8_fewestCells_h6_s, if_neg hle, xX9_cover_h77_s, if_neg hle, on_at hs', on_at hbb, Option.bind_some, Option.bind_some, nI_1]
    by_cases hc : xJ6_bitCount_0f7a4 (nI bb) ≤ xJ6_bitCount_0f7a4 (nI s)
    · rw [if_pos hc, if_pos hc]
      exact ih (s + 1) fa fb bb (by omega) (by omega) (by omega) hbb
    · obtain ⟨v, v1, v2⟩ := x5_near ho hs' hd
      obtain ⟨y, y1, y2⟩ := x9_nAll hs' hd
      have yy : W &&& (y ^^^ (-1)) = 0 ↔ Nr A s d := by
        rw [b_sub]
        constructor
        · intro h p hp c hc e
          obtain ⟨-, f, f1, f2, f3⟩ := (y2 c (by omega)).mp (h c (by omega) ((hW c (by omega)).mpr ⟨hc, p, hp, e⟩))
          exact ⟨f, f1, f2, f3⟩
        · intro h i hi hw
          obtain ⟨h1, p, hp, e⟩ := (hW i hi).mp hw
          exact (y2 i hi).mpr ⟨h1, h p hp i h1 e⟩
      rw [if_neg hc, if_neg hc, v1, y1, Option.bind_some, Option.bind_some]
      by_cases hN : Nr A s d
      · rw [if_neg (fun q => (v2.mp q) hN), if_pos (yy.mpr hN)]
        exact ih (s + 1) fa fb s (by omega) (by omega) (by omega) hs'
      · rw [if_pos (v2.mpr hN), if_neg (fun q => hN (yy.mp q))]
        exact ih (s + 1) fa fb bb (by omega) (by omega) (by omega) hbb
theorem wt_loop {A B : St} (hp : pe A B) (ho : ok A) (p0 p1 : Int32) : ∀ r k fuel b, k + r = 8 → r < fuel → (∀ e, e < 32 → (bt b e = true ↔ e < 12 ∧ ∃ p, p < k ∧ A 2 p = nI e)) → ∃ W, xX9_cover_h30 B p0 p1 fuel b (nI k) = xX9_cover_h77 B p0 p1 5000 W 4095 0 ∧ ∀ e, e < 32 → (bt W e = true ↔ e < 12 ∧ ∃ p, p < 8 ∧ A 2 p = nI e) := by
  intro r
  induction r with
  | zero =>
    intro k fuel b hk hf hb
    obtain ⟨q, rfl⟩ : ∃ q, fuel = q + 1 := ⟨fuel - 1, by omega⟩
    obtain rfl : k = 8 := by omega
    exact ⟨b, by rw [xX9_cover_h30_s, if_pos (by decide)], hb⟩
  | succ r ih =>
    intro k fuel b hk hf hb
    obtain ⟨q, rfl⟩ : ∃ q, fuel = q + 1 := ⟨fuel - 1, by omega⟩
    have hk8 : k < 8 := by omega
    rw [xX9_cover_h30_s, if_neg (n8 hk8), if_pos (m_ib hk8 (by decide)), nI_clamp (show k < 2 ^ 31 by omega), or_0, nI_1, ← hp.1 2 k (by omega) hk8]
    by_cases hl : A 2 k = -6
    · rw [if_pos ((ho.lies hk8).mpr hl)]
      refine ih (k + 1) q b (by omega) (by omega) (fun e he => ?_)
      rw [hb e he]
      constructor
      · rintro ⟨h1, p, h2, h3⟩
        exact ⟨h1, p, by omega, h3⟩
      · rintro ⟨h1, p, h2, h3⟩
        by_cases hpk : p = k
        · subst hpk
          rw [hl] at h3
          exact absurd h3.symm (n6 (by omega))
        · exact ⟨h1, p, by omega, h3⟩
    · obtain ⟨c, hc, ec⟩ := ho.cell hk8 hl
      rw [if_neg (fun q => hl ((ho.lies hk8).mp q)), ec]
      refine ih (k + 1) q _ (by omega) (by omega) (fun e he => ?_)
      rw [b_or, Bool.or_eq_true, hb e he, sh_at hc he, decide_eq_true_eq]
      constructor
      · rintro (⟨h1, p, h2, h3⟩ | h)
        · exact ⟨h1, p, by omega, h3⟩
        · subst h
          exact ⟨hc, k, by omega, ec⟩
      · rintro ⟨h1, p, h2, h3⟩
        by_cases hpk : p = k
        · subst hpk
          exact Or.inr ((nI_eq (by omega) (by omega)).mp (h3.symm.trans ec))
        · exact Or.inl ⟨h1, p, by omega, h3⟩
theorem op_cover {S0 M : St} (hp : pe S0 M) (ho : ok S0) (p0 p1 : Int32) : ∃ r, xX8_cover S0 p0 p1 = some r ∧ xX9_cover M p0 p1 = some r := by
  unfold xX8_cover xX9_cover xX8_fewestCells
  rw [m_in p0 (a := 0) (b := 11) (by decide +kernel) (by decide +kernel), m_in p1 (a := 0) (b := 1) (by decide +kernel) (by decide +kernel)]
  by_cases c0 : xX8_within p0 0 11 = 0
  · simp only [if_pos c0]
    exact ⟨_, rfl, rfl⟩
  by_cases c1 : xX8_within p1 0 1 = 0
  · simp only [if_neg c0, if_pos c1]
    exact ⟨_, rfl, rfl⟩
  obtain ⟨d, hd, rfl⟩ := m_nat (n := 11) (by decide) (m_w1 c0)
  obtain ⟨W, w1, w2⟩ := wt_loop hp ho (nI d) p1 8 0 5000 0 (by omega) (by omega) (fun e he => by
    rw [b_0]
    constructor
    · intro q; cases q
    · rintro ⟨h1, p, h2, h3⟩
      omega)
  obtain ⟨bb, hbb, r1, r2⟩ := cv_loop M ho (show d < 12 by omega) p1 W w2 4096 0 5000 5000 4095 (by omega) (by omega) (by omega) (by omega)
  rw [nI_0] at w1 r1 r2
  rw [show nI 4095 = 4095 by decide +kernel] at r1 r2
  rw [if_neg c0, if_neg c0, if_neg c1, if_neg c1, w1, r1, r2, Option.bind_some]
  by_cases d0 : p1 = 0
  · rw [if_pos d0, if_pos d0]
    exact ⟨_, rfl, rfl⟩
  · rw [if_neg d0, if_neg d0]
    exact ⟨_, rfl, rfl⟩
