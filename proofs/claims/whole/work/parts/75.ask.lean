/-! PURE: what to ask: counts by answers -/
def mx (f : Nat → Nat) : Nat := max (max (max (max (f 0) (f 1)) (f 2)) (f 3)) (f 4)
theorem mx_up {f g : Nat → Nat} {k v : Nat} (hk : k < 5) (h1 : g k = f k + v) (h2 : ∀ j, j < 5 → j ≠ k → g j = f j) : mx g = max (mx f) (f k + v) := by
  have h5 : k = 0 ∨ k = 1 ∨ k = 2 ∨ k = 3 ∨ k = 4 := by omega
  unfold mx
  rcases h5 with rfl | rfl | rfl | rfl | rfl
  · have a1 := h2 1 (by decide) (by decide); have a2 := h2 2 (by decide) (by decide); have a3 := h2 3 (by decide) (by decide); have a4 := h2 4 (by decide) (by decide); omega
  · have a0 := h2 0 (by decide) (by decide); have a2 := h2 2 (by decide) (by decide); have a3 := h2 3 (by decide) (by decide); have a4 := h2 4 (by decide) (by decide); omega
  · have a0 := h2 0 (by decide) (by decide); have a1 := h2 1 (by decide) (by decide); have a3 := h2 3 (by decide) (by decide); have a4 := h2 4 (by decide) (by decide); omega
  · have a0 := h2 0 (by decide) (by decide); have a1 := h2 1 (by decide) (by decide); have a2 := h2 2 (by decide) (by decide); have a4 := h2 4 (by decide) (by decide); omega
  · have a0 := h2 0 (by decide) (by decide); have a1 := h2 1 (by decide) (by decide); have a2 := h2 2 (by decide) (by decide); have a3 := h2 3 (by decide) (by decide); omega
theorem mx_congr {f g : Nat → Nat} (h : ∀ j, j < 5 → f j = g j) : mx f = mx g := by
  unfold mx
  rw [h 0 (by decide), h 1 (by decide), h 2 (by decide), h 3 (by decide), h 4 (by decide)]
theorem mx_ge {f : Nat → Nat} {k : Nat} (hk : k < 5) : f k ≤ mx f := by
  have h5 : k = 0 ∨ k = 1 ∨ k = 2 ∨ k = 3 ∨ k = 4 := by omega
  unfold mx
  rcases h5 with rfl | rfl | rfl | rfl | rfl <;> omega
theorem mx_le {f : Nat → Nat} {n : Nat} (h : ∀ j, j < 5 → f j ≤ n) : mx f ≤ n := by
  have a0 := h 0 (by decide)
  have a1 := h 1 (by decide)
  have a2 := h 2 (by decide)
  have a3 := h 3 (by decide)
  have a4 := h 4 (by decide)
  unfold mx
  omega
theorem mx_nat {a z : Nat} (ha : a < 2 ^ 31) (hz : z < 2 ^ 31) : q_mx (nI a) (nI z) = nI (max a z) := by
  unfold q_mx
  by_cases h : a < z
  · rw [if_pos (nI_lt h hz), Nat.max_eq_right (by omega)]
  · rw [if_neg (nI_nlt (by omega) ha), Nat.max_eq_left (by omega)]
def su (f : Nat → Nat) : Nat → Nat
  | 0 => 0
  | n + 1 => su f n + f n
theorem su_s (f : Nat → Nat) (n : Nat) : su f (n + 1) = su f n + f n := rfl
theorem su_congr {f g : Nat → Nat} {n : Nat} (h : ∀ i, i < n → f i = g i) : su f n = su g n := by
  induction n with
  | zero => rfl
  | succ n ih => rw [su_s, su_s, ih (fun i hi => h i (by omega)), h n (by omega)]
theorem su_add1 (f : Nat → Nat) (a v n : Nat) : su (fun i => f i + if i = a then v else 0) n = su f n + if a < n then v else 0 := by
  induction n with
  | zero => simp [su]
  | succ n ih =>
    rw [su_s, su_s, ih]
    by_cases h : n = a
    · subst h
      simp
      omega
    · by_cases h2 : a < n
      · have : a < n + 1 := by omega
        simp [h, h2, this]
        omega
      · have : ¬ a < n + 1 := by omega
        simp [h, h2, this]
theorem su_bd {f : Nat → Nat} {c : Nat} (h : ∀ i, f i ≤ c) (n : Nat) : su f n ≤ n * c := by
  induction n with
  | zero => simp [su]
  | succ n ih =>
    have := h n
    rw [su_s, Nat.add_mul]
    omega
/-- counted by a mark, then added up by what the mark is worth -/
theorem su_ct (P : Nat → Bool) (g : Nat → Nat) (hg : ∀ u, g u < 16) (w : Nat → Nat) (k : Nat) (n : Nat) : su (fun th => if w th = k then ct (fun u => P u && decide (g u = th)) n else 0) 16 = ct (fun u => P u && decide (w (g u) = k)) n := by
  induction n with
  | zero =>
    have : ∀ m, su (fun th => if w th = k then ct (fun u => P u && decide (g u = th)) 0 else 0) m = 0 := by
      intro m
      induction m with
      | zero => rfl
      | succ m ih =>
        rw [su_s, ih]
        split <;> rfl
    exact this 16
  | succ n ih =>
    have e : su (fun th => if w th = k then ct (fun u => P u && decide (g u = th)) (n + 1) else 0) 16 = su (fun th => (if w th = k then ct (fun u => P u && decide (g u = th)) n else 0) + if th = g n then (if (P n && decide (w (g n) = k)) = true then 1 else 0) else 0) 16 := by
      refine su_congr (fun th hth => ?_)
      by_cases h1 : th = g n
      · subst h1
        by_cases h2 : w (g n) = k
        · rw [if_pos h2, if_pos h2, if_pos rfl, ct_s]
          simp [h2]
        · simp [h2]
      · by_cases h2 : w th = k
        · have h3 : ¬ g n = th := fun q => h1 q.symm
          rw [if_pos h2, if_pos h2, if_neg h1, ct_s]
          simp [h3]
        · rw [if_neg h2, if_neg h2, if_neg h1]
    rw [e, su_add1, ih, if_pos (hg n), ct_s]
/-- the class: what is left at the most -/
theorem x2_left {s : Nat} (hs : s < 16) (nt : Nat → Nat) (hnt : ∀ th, nt th ≤ 81) (T : St) (hT : ∀ th, th < 16 → T 1 th = nI (nt th)) : ∃ T', xX2_leftAtMost (nI s) T = some (nI (mx (fun k => su (fun th => if bc4 s th = k then nt th else 0) 16)), T') ∧ ∀ q, q ≠ 2 → T' q = T q := by
  have hbd : ∀ k n, su (fun th => if bc4 s th = k then nt th else 0) n ≤ n * 81 := fun k n => su_bd (fun i => by
    have := hnt i
    show (if bc4 s i = k then nt i else 0) ≤ 81
    split <;> omega) n
  have key : ∀ d th fuel (m : Nat) (X : St), th + d = 16 → d < fuel → (∀ q, q ≠ 2 → X q = T q) → (∀ k, k < 5 → X 2 k = nI (su (fun th => if bc4 s th = k then nt th else 0) th)) → m = mx (fun k => su (fun th => if bc4 s th = k then nt th else 0) th) → ∃ T', xX2_leftAtMost_h24 (nI s) fuel (nI m) (nI th) X = some (nI (mx (fun k => su (fun th => if bc4 s th = k then nt th else 0) 16)), T') ∧ ∀ q, q ≠ 2 → T' q = T q := by
    intro d
    induction d with
    | zero =>
      intro th fuel m X hth hf hX hk hm
      obtain ⟨q, rfl⟩ : ∃ q, fuel = q + 1 := ⟨fuel - 1, by omega⟩
      obtain rfl : th = 16 := by omega
      exact ⟨X, by rw [xX2_leftAtMost_h24_s, if_pos (by decide), hm], hX⟩
    | succ d ih =>
      intro th fuel m X hth hf hX hk hm
      obtain ⟨q, rfl⟩ : ∃ q, fuel = q + 1 := ⟨fuel - 1, by omega⟩
      have ht : th < 16 := by omega
      have hb4 := bc4_le s th
      have n15 : ¬ (15 : Int32) < nI th := nI_nlt (b := th) (a := 15) (by omega) (by decide)
      have x1 : X 1 th = nI (nt th) := by rw [hX 1 (by decide)]; exact hT th ht
      have hlim := hbd (bc4 s th) th
      have hnth := hnt th
      have hm81 : m ≤ th * 81 := by rw [hm]; exact mx_le (fun j hj => hbd j th)
      rw [xX2_leftAtMost_h24_s, if_neg n15, bc4_at hs ht, if_pos (m_ib (show bc4 s th < 5 by omega) (by decide)), if_pos (m_ib ht (by decide))]
      simp only [q_let, nI_clamp (show bc4 s th < 2 ^ 31 by omega), nI_clamp (show th < 2 ^ 31 by omega), hk (bc4 s th) (by omega), x1, nI_add, nI_1]
      have e2 : q_su X 2 (bc4 s th) (nI (su (fun th' => if bc4 s th' = bc4 s th then nt th' else 0) th + nt th)) 2 (bc4 s th) = nI (su (fun th' => if bc4 s th' = bc4 s th then nt th' else 0) th + nt th) := by simp [su_at]
      rw [e2, mx_nat (by omega) (by omega)]
      refine ih (th + 1) q _ _ (by omega) (by omega) (fun q hq => by rw [su_row hq]; exact hX q hq) (fun k hk5 => ?_) ?_
      · by_cases e : k = bc4 s th
        · rw [e, e2, su_s, if_pos rfl]
        · rw [su_at, if_neg (by omega), hk k hk5, su_s, if_neg (fun q => e q.symm)]
          rfl
      · rw [hm]
        refine (mx_up (k := bc4 s th) (v := nt th) (by omega) ?_ (fun j hj hne => ?_)).symm
        · show su _ (th + 1) = su _ th + nt th
          rw [su_s, if_pos rfl]
        · show su _ (th + 1) = su _ th
          rw [su_s, if_neg (fun q => hne q.symm)]
          rfl
  have zero : ∀ d k fuel (X : St), k + d = 5 → d < fuel → (∀ q, q ≠ 2 → X q = T q) → (∀ j, j < k → X 2 j = 0) → ∃ Y, xX2_leftAtMost_h2 (nI s) fuel (nI k) X = xX2_leftAtMost_h24 (nI s) 5000 0 0 Y ∧ (∀ q, q ≠ 2 → Y q = T q) ∧ (∀ j, j < 5 → Y 2 j = 0) := by
    intro d
    induction d with
    | zero =>
      intro k fuel X hk hf hX h0
      obtain ⟨q, rfl⟩ : ∃ q, fuel = q + 1 := ⟨fuel - 1, by omega⟩
      obtain rfl : k = 5 := by omega
      exact ⟨X, by rw [xX2_leftAtMost_h2_s, if_pos (by decide)], hX, h0⟩
    | succ d ih =>
      intro k fuel X hk hf hX h0
      obtain ⟨q, rfl⟩ : ∃ q, fuel = q + 1 := ⟨fuel - 1, by omega⟩
      have n44 : ¬ (4 : Int32) < nI k := nI_nlt (b := k) (a := 4) (by omega) (by decide)
      rw [xX2_leftAtMost_h2_s, if_neg n44, if_pos (m_ib (show k < 5 by omega) (by decide))]
      simp only [q_let, nI_clamp (show k < 2 ^ 31 by omega), nI_1]
      refine ih (k + 1) q _ (by omega) (by omega) (fun q hq => by rw [su_row hq]; exact hX q hq) (fun j hj => ?_)
      by_cases e : j = k
      · subst e; simp [su_at]
      · rw [su_at, if_neg (by omega)]; exact h0 j (by omega)
  obtain ⟨Y, y1, y2, y3⟩ := zero 5 0 5000 T (by omega) (by omega) (fun _ _ => rfl) (fun j hj => by omega)
  have k := key 16 0 5000 0 Y (by omega) (by omega) y2 (fun k hk => by rw [y3 k hk]; show (0 : Int32) = nI 0; rw [nI_0]) rfl
  unfold xX2_leftAtMost
  rw [nI_0] at y1 k
  rw [y1]
  exact k
/-- the class: how many nets there are by who thinks of one -/
theorem x2_cnt {P : Nat → Bool} {p : Nat} (hp : p < 4) {T : St} (hT : fnd P T) : ∃ T', xX2_countByThinkers (nI p) T = some T' ∧ (∀ q, q ≠ 1 → T' q = T q) ∧ ∀ th, th < 16 → T' 1 th = nI (ct (fun u => P u && decide (tkn (cd u) p = th)) 81) := by
  obtain ⟨t3, t0⟩ := hT
  have hc81 := ct_le P 81
  have key : ∀ d m fuel (X : St), m + d = 81 → d < fuel → (∀ q, q ≠ 1 → X q = T q) → (∀ th, th < 16 → X 1 th = nI (ct (fun u => P u && decide (tkn (cd u) p = th)) m)) → ∃ T', xX2_countByThinkers_h23 (nI p) fuel (nI (ct P m)) X = some T' ∧ (∀ q, q ≠ 1 → T' q = T q) ∧ ∀ th, th < 16 → T' 1 th = nI (ct (fun u => P u && decide (tkn (cd u) p = th)) 81) := by
    intro d
    induction d with
    | zero =>
      intro m fuel X hm hf hX h1
      obtain ⟨q, rfl⟩ : ∃ q, fuel = q + 1 := ⟨fuel - 1, by omega⟩
      obtain rfl : m = 81 := by omega
      refine ⟨X, ?_, hX, h1⟩
      rw [xX2_countByThinkers_h23_s, hX 3 (by decide), t3, if_pos (nI_le (Nat.le_refl _) (by omega))]
    | succ d ih =>
      intro m fuel X hm hf hX h1
      have hm' : m < 81 := by omega
      by_cases hpm : P m = true
      · obtain ⟨q, rfl⟩ : ∃ q, fuel = q + 1 := ⟨fuel - 1, by omega⟩
        have hlt := ct_lt hpm hm'
        have hcm := ct_le P m
        have htk := tkn_lt (cd m) p
        have x0 : X 0 (ct P m) = nI m := by rw [hX 0 (by decide)]; exact t0 m hm' hpm
        have n81 : ¬ (81 : Int32) ≤ nI (ct P m) := by rw [l81]; exact nI_ge (by omega) (by decide)
        rw [xX2_countByThinkers_h23_s, hX 3 (by decide), t3, if_neg (nI_ge hlt (by omega)), if_neg n81, if_pos (m_ib (show ct P m < 81 by omega) (by decide)), nI_clamp (show ct P m < 2 ^ 31 by omega), x0, tk_at hm' hp, Option.bind_some, if_pos (m_ib htk (by decide))]
        simp only [q_let, nI_clamp (show tkn (cd m) p < 2 ^ 31 by omega), h1 _ htk, nI_1]
        have IH := ih (m + 1) q (q_su X 1 (tkn (cd m) p) (nI (ct (fun u => P u && decide (tkn (cd u) p = tkn (cd m) p)) m + 1))) (by omega) (by omega) (fun q hq => by rw [su_row hq]; exact hX q hq) (fun th hth => by
          rw [ct_s]
          by_cases e : th = tkn (cd m) p
          · rw [e]
            simp [su_at, hpm]
          · have e' : ¬ tkn (cd m) p = th := fun q => e q.symm
            rw [su_at, if_neg (by omega), h1 th hth]
            simp [e'])
        rw [ct_yes hpm] at IH
        exact IH
      · have IH := ih (m + 1) fuel X (by omega) (by omega) hX (fun th hth => by
          rw [ct_s, h1 th hth]
          simp [hpm])
        rw [ct_no hpm] at IH
        exact IH
  have zero : ∀ d k fuel (X : St), k + d = 16 → d < fuel → (∀ q, q ≠ 1 → X q = T q) → (∀ j, j < k → X 1 j = 0) → ∃ Y, xX2_countByThinkers_h2 (nI p) fuel (nI k) X = xX2_countByThinkers_h23 (nI p) 5000 0 Y ∧ (∀ q, q ≠ 1 → Y q = T q) ∧ (∀ j, j < 16 → Y 1 j = 0) := by
    intro d
    induction d with
    | zero =>
      intro k fuel X hk hf hX h0
      obtain ⟨q, rfl⟩ : ∃ q, fuel = q + 1 := ⟨fuel - 1, by omega⟩
      obtain rfl : k = 16 := by omega
      exact ⟨X, by rw [xX2_countByThinkers_h2_s, if_pos (by decide)], hX, h0⟩
    | succ d ih =>
      intro k fuel X hk hf hX h0
      obtain ⟨q, rfl⟩ : ∃ q, fuel = q + 1 := ⟨fuel - 1, by omega⟩
      have n15 : ¬ (15 : Int32) < nI k := nI_nlt (b := k) (a := 15) (by omega) (by decide)
      rw [xX2_countByThinkers_h2_s, if_neg n15, if_pos (m_ib (show k < 16 by omega) (by decide))]
      simp only [q_let, nI_clamp (show k < 2 ^ 31 by omega), nI_1]
      refine ih (k + 1) q _ (by omega) (by omega) (fun q hq => by rw [su_row hq]; exact hX q hq) (fun j hj => ?_)
      by_cases e : j = k
      · subst e; simp [su_at]
      · rw [su_at, if_neg (by omega)]; exact h0 j (by omega)
  obtain ⟨Y, y1, y2, y3⟩ := zero 16 0 5000 T (by omega) (by omega) (fun _ _ => rfl) (fun j hj => by omega)
  have k := key 81 0 5000 Y (by omega) (by omega) y2 (fun th hth => by rw [y3 th hth]; show (0 : Int32) = nI 0; rw [nI_0])
  unfold xX2_countByThinkers
  rw [nI_0] at y1
  rw [y1]
  exact k
/-- what is left at the most, told by the nets that fit -/
def LM (P : Nat → Bool) (s p : Nat) : Nat := mx (fun k => ct (fun u => P u && decide (bc4 s (tkn (cd u) p) = k)) 81)
theorem LM_le (P : Nat → Bool) (s p : Nat) : LM P s p ≤ 81 := mx_le (fun j _ => ct_le _ 81)
theorem x2_LM {P : Nat → Bool} {s p : Nat} (hs : s < 16) {T : St} (hT : ∀ th, th < 16 → T 1 th = nI (ct (fun u => P u && decide (tkn (cd u) p = th)) 81)) : ∃ T', xX2_leftAtMost (nI s) T = some (nI (LM P s p), T') ∧ ∀ q, q ≠ 2 → T' q = T q := by
  obtain ⟨T', a, b⟩ := x2_left hs (fun th => ct (fun u => P u && decide (tkn (cd u) p = th)) 81) (fun th => ct_le _ 81) T hT
  refine ⟨T', ?_, b⟩
  rw [a]
  unfold LM
  rw [mx_congr (fun k _ => su_ct P (fun u => tkn (cd u) p) (fun u => tkn_lt (cd u) p) (bc4 s) k 81)]
theorem ct_rk (Q : Nat → Bool) (n : Nat) (hn : n ≤ 256) : ct (fun net => vl net && Q net) n = ct (fun u => Q (cd u)) (ct vl n) := by
  induction n with
  | zero => rfl
  | succ n ih =>
    by_cases hv : vl n = true
    · obtain ⟨e1, e2⟩ := rk_at (show n < 256 by omega) hv
      rw [ct_yes hv, ct_s, ct_s, ih (by omega), e1]
      simp [hv]
    · rw [ct_no hv, ct_s, ih (by omega)]
      simp [hv]
/-- the model: what is left at the most -/
theorem x9_LM {S B : St} {N s p : Nat} (h : sgN S N) (g : sg S B) (hs : s < 16) (hp : p < 4) : ∃ B', xX9_mostLeft (nI s) (nI p) B = some (nI (LM (fun u => ftB S N (cd u)) s p), B') ∧ ∀ q, q ≠ 31 → B' q = B q := by
  have key : ∀ d net fuel (m : Nat) (X : St), net + d = 256 → d < fuel → (∀ q, q ≠ 31 → X q = B q) → (∀ k, k < 5 → X 31 k = nI (ct (fun n => vl n && (ftB S N n && decide (bc4 s (tkn n p) = k))) net)) → m = mx (fun k => ct (fun n => vl n && (ftB S N n && decide (bc4 s (tkn n p) = k))) net) → ∃ B', xX9_mostLeft_h28 (nI s) (nI p) fuel (nI m) (nI net) X = some (nI (mx (fun k => ct (fun n => vl n && (ftB S N n && decide (bc4 s (tkn n p) = k))) 256)), B') ∧ ∀ q, q ≠ 31 → B' q = B q := by
    intro d
    induction d with
    | zero =>
      intro net fuel m X hn hf hX hk hm
      obtain ⟨q, rfl⟩ : ∃ q, fuel = q + 1 := ⟨fuel - 1, by omega⟩
      obtain rfl : net = 256 := by omega
      exact ⟨X, by rw [xX9_mostLeft_h28_s, if_pos (by decide +kernel), hm], hX⟩
    | succ d ih =>
      intro net fuel m X hn hf hX hk hm
      obtain ⟨q, rfl⟩ : ∃ q, fuel = q + 1 := ⟨fuel - 1, by omega⟩
      have hn' : net < 256 := by omega
      have hb4 := bc4_le s (tkn net p)
      have gX : sg S X := g.keep (hX 11 (by decide)) (hX 12 (by decide)) (hX 13 (by decide)) (hX 14 (by decide))
      have hcl := ct_le (fun n => vl n && (ftB S N n && decide (bc4 s (tkn n p) = bc4 s (tkn net p)))) net
      have hm256 : m ≤ net := by rw [hm]; exact mx_le (fun j _ => ct_le _ net)
      have fin : ∀ v, v = (if (vl net && ftB S N net) = true then 1 else 0) → ∃ B', xX9_mostLeft_h67 (nI s) (nI p) (xX9_mostLeft_h28 (nI s) (nI p) q) (nI m) (nI net) (nI (bc4 s (tkn net p))) (nI (bc4 s (tkn net p))) (X 31 (bc4 s (tkn net p))) (nI v) X = some (nI (mx (fun k => ct (fun n => vl n && (ftB S N n && decide (bc4 s (tkn n p) = k))) 256)), B') ∧ ∀ q, q ≠ 31 → B' q = B q := by
        intro v hv
        have hv1 : v ≤ 1 := by rw [hv]; split <;> omega
        have cs : ∀ k, ct (fun n => vl n && (ftB S N n && decide (bc4 s (tkn n p) = k))) (net + 1) = ct (fun n => vl n && (ftB S N n && decide (bc4 s (tkn n p) = k))) net + (if k = bc4 s (tkn net p) then v else 0) := by
          intro k
          rw [ct_s, hv]
          by_cases e : k = bc4 s (tkn net p)
          · rw [if_pos e, ← e]
            simp
          · have e' : ¬ bc4 s (tkn net p) = k := fun q => e q.symm
            rw [if_neg e]
            simp [e']
        unfold xX9_mostLeft_h67
        rw [if_pos (m_ib (show bc4 s (tkn net p) < 5 by omega) (by decide)), hk (bc4 s (tkn net p)) (by omega), nI_add]
        simp only [q_let, if_pos (m_ib (show bc4 s (tkn net p) < 5 by omega) (show 5 < 2 ^ 31 by decide)), nI_clamp (show bc4 s (tkn net p) < 2 ^ 31 by omega), nI_1]
        generalize hc0 : ct (fun n => vl n && (ftB S N n && decide (bc4 s (tkn n p) = bc4 s (tkn net p)))) net = c0 at hcl ⊢
        have e2 : q_su X 31 (bc4 s (tkn net p)) (nI (c0 + v)) 31 (bc4 s (tkn net p)) = nI (c0 + v) := by simp [su_at]
        rw [e2]
        have go := ih (net + 1) q (max m (c0 + v)) (q_su X 31 (bc4 s (tkn net p)) (nI (c0 + v))) (by omega) (by omega) (fun q hq => by rw [su_row hq]; exact hX q hq) (fun k hk5 => by
          rw [cs k]
          by_cases e : k = bc4 s (tkn net p)
          · rw [e, e2, if_pos rfl, hc0]
          · rw [su_at, if_neg (by omega), hk k hk5, if_neg e]
            rfl) (by
          rw [hm]
          refine Eq.symm ?_
          have hmx := mx_up (f := fun k => ct (fun n => vl n && (ftB S N n && decide (bc4 s (tkn n p) = k))) net) (g := fun k => ct (fun n => vl n && (ftB S N n && decide (bc4 s (tkn n p) = k))) (net + 1)) (k := bc4 s (tkn net p)) (v := v) (by omega) (by
            show ct _ (net + 1) = ct _ net + v
            rw [cs, if_pos rfl]) (fun j hj hne => by
            show ct _ (net + 1) = ct _ net
            rw [cs, if_neg hne]
            rfl)
          rw [hmx]
          show max _ (ct _ net + v) = _
          rw [hc0])
        by_cases hle : c0 + v ≤ m
        · rw [if_pos (nI_le hle (by omega))]
          rw [Nat.max_eq_left hle] at go
          exact go
        · rw [if_neg (nI_ge (by omega) (by omega))]
          rw [Nat.max_eq_right (by omega)] at go
          exact go
      rw [xX9_mostLeft_h28_s, if_neg (by rw [l256]; exact nI_ge hn' (by decide)), x9_tho hn' hs hp, Option.bind_some, if_pos (m_ib (show bc4 s (tkn net p) < 5 by omega) (by decide)), x9_fit h gX hn', Option.bind_some, nI_clamp (show bc4 s (tkn net p) < 2 ^ 31 by omega)]
      by_cases hvf : vl net = true ∧ ftB S N net = true
      · have k := fin 1 (by rw [if_pos (by rw [hvf.1, hvf.2]; rfl)])
        rw [if_pos hvf, if_neg (show ¬ (1 : Int32) = 0 by decide)]
        exact k
      · have k := fin 0 (by rw [if_neg (fun q => hvf (by simpa using q))])
        rw [if_neg hvf, if_pos rfl]
        rw [nI_0] at k
        exact k
  have zero : ∀ d k fuel (X : St), k + d = 5 → d < fuel → (∀ q, q ≠ 31 → X q = B q) → (∀ j, j < k → X 31 j = 0) → ∃ Y, xX9_mostLeft_h5 (nI s) (nI p) fuel 0 (nI k) X = xX9_mostLeft_h28 (nI s) (nI p) 5000 0 0 Y ∧ (∀ q, q ≠ 31 → Y q = B q) ∧ (∀ j, j < 5 → Y 31 j = 0) := by
    intro d
    induction d with
    | zero =>
      intro k fuel X hk hf hX h0
      obtain ⟨q, rfl⟩ : ∃ q, fuel = q + 1 := ⟨fuel - 1, by omega⟩
      obtain rfl : k = 5 := by omega
      exact ⟨X, by rw [xX9_mostLeft_h5_s, if_pos (by decide)], hX, h0⟩
    | succ d ih =>
      intro k fuel X hk hf hX h0
      obtain ⟨q, rfl⟩ : ∃ q, fuel = q + 1 := ⟨fuel - 1, by omega⟩
      have n5 : ¬ (5 : Int32) ≤ nI k := nI_ge (b := 5) (by omega) (by decide)
      rw [xX9_mostLeft_h5_s, if_neg n5, if_pos (m_ib (show k < 5 by omega) (by decide))]
      simp only [q_let, nI_clamp (show k < 2 ^ 31 by omega), nI_1]
      refine ih (k + 1) q _ (by omega) (by omega) (fun q hq => by rw [su_row hq]; exact hX q hq) (fun j hj => ?_)
      by_cases e : j = k
      · subst e; simp [su_at]
      · rw [su_at, if_neg (by omega)]; exact h0 j (by omega)
  obtain ⟨Y, y1, y2, y3⟩ := zero 5 0 5000 B (by omega) (by omega) (fun _ _ => rfl) (fun j hj => by omega)
  have k := key 256 0 5000 0 Y (by omega) (by omega) y2 (fun k hk => by rw [y3 k hk]; show (0 : Int32) = nI 0; rw [nI_0]) rfl
  unfold xX9_mostLeft
  rw [nI_0] at y1 k
  rw [y1]
  have e : mx (fun k => ct (fun n => vl n && (ftB S N n && decide (bc4 s (tkn n p) = k))) 256) = LM (fun u => ftB S N (cd u)) s p := by
    unfold LM
    refine mx_congr (fun k _ => ?_)
    rw [ct_rk (fun n => ftB S N n && decide (bc4 s (tkn n p) = k)) 256 (Nat.le_refl 256), rk_all]
  rw [e] at k
  exact k
