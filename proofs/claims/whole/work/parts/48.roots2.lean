/-! PURE: roots, the model's side -/
def cnd (n : Nat) (f : Nat) : Bool := decide (f * f ≤ n) && decide ((lr (n - f)).1 = n - f)
def wn (j : Nat) : Int32 := if (lr j).1 = j then 0 else 1
theorem least_val (n : Nat) (hn : n ≤ 999) : lt31 (cnd n) 31 (-6) = if (lr n).1 = n then -6 else nI (n - (lr n).1) := by
  cases n with
  | zero =>
    rw [lt31_no 31 (fun f h1 _ => by
      unfold cnd
      have : ¬ f * f ≤ 0 := by
        have := Nat.le_mul_self f
        omega
      simp [this])]
    rfl
  | succ m =>
    have hl := lr_le m
    have hr := lr_root (m + 1)
    have h31 := lr_31 hn
    have hla := lr_last m
    have hst := lr_step m
    have small : ∀ f, 1 ≤ f → f < m + 1 - (lr m).1 → cnd (m + 1) f = false := by
      intro f h1 h2
      unfold cnd
      have := hla.2 (m + 1 - f) (by omega) (by omega)
      simp [this]
    by_cases hc : (lr (m + 1)).2 < m + 1 - (lr m).1
    · rw [if_pos hc] at hst
      rw [if_pos hst]
      refine lt31_no 31 (fun f h1 h2 => ?_) _
      by_cases hf : f < m + 1 - (lr m).1
      · exact small f h1 hf
      · have hb : (lr (m + 1)).2 + 1 ≤ f := by omega
        have h3 : ((lr (m + 1)).2 + 1) * ((lr (m + 1)).2 + 1) ≤ f * f := Nat.mul_le_mul hb hb
        have h4 : ((lr (m + 1)).2 + 1) * ((lr (m + 1)).2 + 1) = (lr (m + 1)).2 * (lr (m + 1)).2 + 2 * (lr (m + 1)).2 + 1 := by rw [Nat.add_mul, Nat.mul_add]; omega
        have : ¬ f * f ≤ m + 1 := by omega
        unfold cnd
        simp [this]
    · rw [if_neg hc] at hst
      rw [hst, if_neg (show ¬ (lr m).1 = m + 1 by omega)]
      refine lt31_yes (by omega) ?_ small 31 (by omega) _
      have hb : m + 1 - (lr m).1 ≤ (lr (m + 1)).2 := by omega
      have h3 := Nat.mul_le_mul hb hb
      have e : m + 1 - (m + 1 - (lr m).1) = (lr m).1 := by omega
      unfold cnd
      rw [e]
      simp [hla.1]
      omega
theorem x9_least {S : St} {n : Nat} (hn : n ≤ 999) (hS : ∀ j, j < n → S 32 j = wn j) : xX9_leastTake S (nI n) = some (if (lr n).1 = n then -6 else nI (n - (lr n).1)) := by
  unfold xX9_leastTake
  have key : ∀ e fuel x, e < fuel → e ≤ 31 → xX9_leastTake_h6 S (nI n) fuel x (nI e) = some (lt31 (cnd n) e x) := by
    intro e
    induction e with
    | zero =>
      intro fuel x hf he
      obtain ⟨q, rfl⟩ : ∃ q, fuel = q + 1 := ⟨fuel - 1, by omega⟩
      rw [xX9_leastTake_h6_s, if_pos (by decide)]
      rfl
    | succ e ih =>
      intro fuel x hf he
      obtain ⟨q, rfl⟩ : ∃ q, fuel = q + 1 := ⟨fuel - 1, by omega⟩
      have sq : (e + 1) * (e + 1) ≤ 31 * 31 := Nat.mul_le_mul he he
      rw [xX9_leastTake_h6_s, if_neg (nI_nle (by omega) (by omega)), pk_mul, pk_m1]
      simp only [lt31]
      by_cases hc : (e + 1) * (e + 1) ≤ n
      · have hle : e + 1 ≤ n := Nat.le_trans (Nat.le_mul_self _) hc
        rw [if_neg (nI_nlt hc (by omega)), pk_sub hle, if_pos (m_ib (show n - (e + 1) < 1000 by omega) (by decide)), nI_clamp (show n - (e + 1) < 2 ^ 31 by omega), hS _ (by omega)]
        unfold wn
        by_cases hw : (lr (n - (e + 1))).1 = n - (e + 1)
        · rw [if_pos hw, if_pos rfl, ih q _ (by omega) (by omega)]
          have : cnd n (e + 1) = true := by unfold cnd; simp [hc, hw]
          rw [this, if_pos rfl]
        · rw [if_neg hw, if_neg (by decide), ih q _ (by omega) (by omega)]
          have : cnd n (e + 1) = false := by unfold cnd; simp [hw]
          rw [this]
          rfl
      · rw [if_pos (nI_lt (by omega) (by omega)), ih q _ (by omega) (by omega)]
        have : cnd n (e + 1) = false := by unfold cnd; simp [hc]
        rw [this]
        rfl
  rw [show (31 : Int32) = nI 31 by decide, key 31 5000 (-6) (by omega) (by omega), least_val n hn]
def ransw (n : Nat) (p1 : Int32) : Int32 := if p1 = 1 then (if (lr n).1 = n then -6 else nI (n - (lr n).1)) else (if (lr n).1 = n then 0 else 1)
theorem x9_rl {n : Nat} (hn : n ≤ 999) (p1 : Int32) : ∀ d k fuel (S : St), k + d = n + 1 → d < fuel → (∀ j, j < k → S 32 j = wn j) → ∃ S', xX9_roots_h27 (nI n) p1 fuel (nI k) S = some (ransw n p1, S') ∧ ∀ q, q ≠ 32 → S' q = S q := by
  intro d
  induction d with
  | zero =>
    intro k fuel S hk hf hS
    obtain ⟨q, rfl⟩ : ∃ q, fuel = q + 1 := ⟨fuel - 1, by omega⟩
    rw [xX9_roots_h27_s, if_pos (nI_lt (by omega) (by omega)), x9_least hn (fun j hj => hS j (by omega)), if_pos (m_ib (show n < 1000 by omega) (by decide)), nI_clamp (show n < 2 ^ 31 by omega), hS n (by omega)]
    unfold ransw wn
    refine ⟨S, ?_, fun _ _ => rfl⟩
    by_cases h1 : p1 = 1
    · simp only [if_pos h1, Option.bind_some]
    · by_cases h2 : (lr n).1 = n
      · simp only [if_neg h1, if_pos h2, if_true]
      · simp only [if_neg h1, if_neg h2, if_neg (show ¬ (1 : Int32) = 0 by decide)]
  | succ d ih =>
    intro k fuel S hk hf hS
    obtain ⟨q, rfl⟩ : ∃ q, fuel = q + 1 := ⟨fuel - 1, by omega⟩
    have hcl : (nI k).toNatClampNeg = k := nI_clamp (by omega)
    have z0 : vp_nar .boolean 0 = 0 := by decide +kernel
    have z1 : vp_nar .boolean 1 = 1 := by decide +kernel
    rw [xX9_roots_h27_s, if_neg (nI_nlt (by omega) (by omega)), x9_least (show k ≤ 999 by omega) hS, Option.bind_some]
    simp only [if_pos (m_ib (show k < 1000 by omega) (show 1000 < 2 ^ 31 by decide)), hcl, z0, z1, q_let, nI_1]
    have go : ∀ v, v = wn k → ∃ S', xX9_roots_h27 (nI n) p1 q (nI (k + 1)) (q_su S 32 k v) = some (ransw n p1, S') ∧ ∀ q, q ≠ 32 → S' q = S q := by
      intro v hv
      obtain ⟨S', a, b⟩ := ih (k + 1) q (q_su S 32 k v) (by omega) (by omega) (fun j hj => by
        rw [su_at]
        by_cases e : j = k
        · simp [e, hv]
        · simp [e]; exact hS j (by omega))
      exact ⟨S', a, fun r hr => by rw [b r hr, su_row hr]⟩
    by_cases h : (lr k).1 = k
    · rw [if_pos h, if_pos (by decide)]
      exact go 0 (by unfold wn; rw [if_pos h])
    · rw [if_neg h, if_neg (nI_pos (by omega))]
      exact go 1 (by unfold wn; rw [if_neg h])
theorem op_roots (M : St) (p0 p1 : Int32) : ∃ r M', xX8_roots p0 p1 = some r ∧ xX9_roots p0 p1 M = some (r, M') ∧ ∀ q, q ≠ 32 → M' q = M q := by
  unfold xX8_roots xX9_roots
  rw [m_in p0 (a := 0) (b := 999) (by decide +kernel) (by decide +kernel), m_in p1 (a := 0) (b := 1) (by decide +kernel) (by decide +kernel)]
  by_cases c0 : xX8_within p0 0 999 = 0
  · simp only [if_pos c0]
    exact ⟨_, _, rfl, rfl, fun _ _ => rfl⟩
  by_cases c1 : xX8_within p1 0 1 = 0
  · simp only [if_neg c0, if_pos c1]
    exact ⟨_, _, rfl, rfl, fun _ _ => rfl⟩
  obtain ⟨n, hn, rfl⟩ := m_nat (n := 999) (by decide +kernel) (m_w1 c0)
  obtain ⟨w, hw, rfl⟩ := m_nat (n := 1) (by decide) (m_w1 c1)
  simp only [if_neg c0, if_neg c1, x8_last hn, Option.bind_some, pk_sub (lr_le n)]
  obtain ⟨S', a, b⟩ := x9_rl hn (nI w) (n + 1) 0 5000 M (by omega) (by omega) (fun j hj => by omega)
  refine ⟨ransw n (nI w), S', ?_, a, b⟩
  have hl := lr_le n
  unfold ransw
  have hw2 : w = 0 ∨ w = 1 := by omega
  by_cases h : (lr n).1 = n
  · have e : nI (n - (lr n).1) ≤ 0 := by rw [show n - (lr n).1 = 0 by omega]; decide
    rcases hw2 with rfl | rfl
    · rw [if_pos (show nI 0 = 0 by decide), if_pos e, if_neg (show ¬ nI 0 = 1 by decide), if_pos h]
    · rw [if_neg (show ¬ nI 1 = 0 by decide), if_pos e, if_pos (show nI 1 = 1 by decide), if_pos h]
  · have e : ¬ nI (n - (lr n).1) ≤ 0 := nI_nle (by omega) (by omega)
    rcases hw2 with rfl | rfl
    · rw [if_pos (show nI 0 = 0 by decide), if_neg e, if_neg (show ¬ nI 0 = 1 by decide), if_neg h]
    · rw [if_neg (show ¬ nI 1 = 0 by decide), if_neg e, if_pos (show nI 1 = 1 by decide), if_neg h]
