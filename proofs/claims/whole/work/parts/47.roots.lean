/-! PURE: roots -/
/-- the last losing heap up to n, and the whole root of n -/
def lr : Nat → Nat × Nat
  | 0 => (0, 0)
  | n + 1 => (if (lr n).1 < n + 1 - (if (lr n).2 * (lr n).2 + 2 * (lr n).2 + 1 ≤ n + 1 then (lr n).2 + 1 else (lr n).2) then n + 1 else (lr n).1, if (lr n).2 * (lr n).2 + 2 * (lr n).2 + 1 ≤ n + 1 then (lr n).2 + 1 else (lr n).2)
theorem lr_s (n : Nat) : lr (n + 1) = (if (lr n).1 < n + 1 - (if (lr n).2 * (lr n).2 + 2 * (lr n).2 + 1 ≤ n + 1 then (lr n).2 + 1 else (lr n).2) then n + 1 else (lr n).1, if (lr n).2 * (lr n).2 + 2 * (lr n).2 + 1 ≤ n + 1 then (lr n).2 + 1 else (lr n).2) := rfl
theorem lr_root (n : Nat) : (lr n).2 * (lr n).2 ≤ n ∧ n < (lr n).2 * (lr n).2 + 2 * (lr n).2 + 1 := by
  induction n with
  | zero => decide
  | succ n ih =>
    rw [lr_s]
    generalize (lr n).2 = r at ih ⊢
    simp only
    by_cases h : r * r + 2 * r + 1 ≤ n + 1
    · rw [if_pos h]
      have : (r + 1) * (r + 1) = r * r + 2 * r + 1 := by rw [Nat.add_mul, Nat.mul_add]; omega
      rw [this]
      omega
    · rw [if_neg h]; omega
theorem lr_le (n : Nat) : (lr n).1 ≤ n := by
  induction n with
  | zero => decide
  | succ n ih =>
    rw [lr_s]
    simp only
    split <;> split <;> omega
/-- how the last losing heap goes on: n + 1 loses just if the one before is farther off than the root -/
theorem lr_step (n : Nat) : (lr (n + 1)).1 = if (lr (n + 1)).2 < n + 1 - (lr n).1 then n + 1 else (lr n).1 := by
  have h1 := lr_le n
  have h2 := lr_root (n + 1)
  have e : (lr (n + 1)).1 = if (lr n).1 < n + 1 - (lr (n + 1)).2 then n + 1 else (lr n).1 := by rw [lr_s]
  rw [e]
  have h3 : (lr (n + 1)).2 ≤ n + 1 := Nat.le_trans (Nat.le_mul_self _) h2.1
  by_cases h : (lr n).1 < n + 1 - (lr (n + 1)).2
  · rw [if_pos h, if_pos (by omega)]
  · rw [if_neg h, if_neg (by omega)]
/-- the last losing heap loses; behind it none does -/
theorem lr_last (n : Nat) : (lr (lr n).1).1 = (lr n).1 ∧ ∀ j, (lr n).1 < j → j ≤ n → ¬ (lr j).1 = j := by
  induction n with
  | zero => exact ⟨by decide, fun j h1 h2 => by omega⟩
  | succ n ih =>
    by_cases h : (lr (n + 1)).2 < n + 1 - (lr n).1
    · have e : (lr (n + 1)).1 = n + 1 := by rw [lr_step, if_pos h]
      rw [e]
      exact ⟨e, fun j h1 h2 => by omega⟩
    · have e : (lr (n + 1)).1 = (lr n).1 := by rw [lr_step, if_neg h]
      rw [e]
      refine ⟨ih.1, fun j h1 h2 => ?_⟩
      by_cases hj : j = n + 1
      · subst hj; rw [e]; omega
      · exact ih.2 j h1 (by omega)
theorem lr_31 {n : Nat} (h : n ≤ 999) : (lr n).2 ≤ 31 := by
  have h1 := (lr_root n).1
  rcases Nat.lt_or_ge 31 (lr n).2 with h2 | h2
  · have : 32 * 32 ≤ (lr n).2 * (lr n).2 := Nat.mul_le_mul h2 h2
    omega
  · exact h2
/-- the class's walk -/
theorem x8_last {n : Nat} (hn : n ≤ 999) : xX8_lastLosingHeap (nI n) = some (nI (lr n).1) := by
  unfold xX8_lastLosingHeap
  have key : ∀ d k fuel, k + d = n → d < fuel → xX8_lastLosingHeap_h6 (nI n) fuel (nI (lr k).1) (nI (lr k).2) (nI (k + 1)) = some (nI (lr n).1) := by
    intro d
    induction d with
    | zero =>
      intro k fuel hk hf
      obtain ⟨q, rfl⟩ : ∃ q, fuel = q + 1 := ⟨fuel - 1, by omega⟩
      rw [xX8_lastLosingHeap_h6_s, if_pos (nI_lt (by omega) (by omega)), show k = n by omega]
    | succ d ih =>
      intro k fuel hk hf
      obtain ⟨q, rfl⟩ : ∃ q, fuel = q + 1 := ⟨fuel - 1, by omega⟩
      have r1 := lr_31 (show k ≤ 999 by omega)
      have r2 := lr_31 (show k + 1 ≤ 999 by omega)
      have s1 := lr_le k
      have s2 := lr_root (k + 1)
      have h3 : (lr (k + 1)).2 ≤ k + 1 := Nat.le_trans (Nat.le_mul_self _) s2.1
      rw [xX8_lastLosingHeap_h6_s, if_neg (nI_nlt (by omega) (by omega))]
      have fin : ∀ r, r = (lr (k + 1)).2 → xX8_lastLosingHeap_h25 (nI n) (xX8_lastLosingHeap_h6 (nI n) q) (nI (lr k).1) (nI r) (nI (k + 1)) = some (nI (lr n).1) := by
        intro r hr
        subst hr
        rw [xX8_lastLosingHeap_h25_s, pk_sub h3, nI_1]
        have st := lr_step k
        by_cases hc : (lr (k + 1)).2 < k + 1 - (lr k).1
        · rw [if_neg (nI_ge (by omega) (by omega))]
          rw [if_pos hc] at st
          have := ih (k + 1) q (by omega) (by omega)
          rw [st] at this
          exact this
        · rw [if_pos (nI_le (by omega) (by omega))]
          rw [if_neg hc] at st
          have := ih (k + 1) q (by omega) (by omega)
          rw [st] at this
          exact this
      have e2 : (lr (k + 1)).2 = if (lr k).2 * (lr k).2 + 2 * (lr k).2 + 1 ≤ k + 1 then (lr k).2 + 1 else (lr k).2 := by rw [lr_s]
      have sqr : (nI (lr k).2 + 1) * (nI (lr k).2 + 1) = nI ((lr k).2 * (lr k).2 + 2 * (lr k).2 + 1) := by
        rw [nI_1, pk_mul]
        congr 1
        rw [Nat.add_mul, Nat.mul_add]; omega
      have sq31 : (lr k).2 * (lr k).2 ≤ 31 * 31 := Nat.mul_le_mul r1 r1
      rw [sqr]
      by_cases hc : (lr k).2 * (lr k).2 + 2 * (lr k).2 + 1 ≤ k + 1
      · rw [if_neg (nI_nlt hc (by omega)), nI_1]
        rw [if_pos hc] at e2
        exact fin _ e2.symm
      · rw [if_pos (nI_lt (by omega) (by omega))]
        rw [if_neg hc] at e2
        exact fin _ e2.symm
  exact key n 0 5000 (by omega) (by omega)
/-- the least of a kind, sought from 31 down -/
def lt31 (c : Nat → Bool) : Nat → Int32 → Int32
  | 0, x => x
  | e + 1, x => lt31 c e (if c (e + 1) then nI (e + 1) else x)
theorem lt31_no {c : Nat → Bool} (n : Nat) (h : ∀ f, 1 ≤ f → f ≤ n → c f = false) (x : Int32) : lt31 c n x = x := by
  induction n with
  | zero => rfl
  | succ n ih =>
    simp only [lt31]
    rw [h (n + 1) (by omega) (by omega)]
    exact ih (fun f a b => h f a (by omega))
theorem lt31_yes {c : Nat → Bool} {d : Nat} (hd : 1 ≤ d) (hc : c d = true) (h : ∀ f, 1 ≤ f → f < d → c f = false) (n : Nat) (hn : d ≤ n) (x : Int32) : lt31 c n x = nI d := by
  induction n generalizing x with
  | zero => omega
  | succ n ih =>
    simp only [lt31]
    by_cases hdn : d = n + 1
    · subst hdn
      rw [hc, if_pos rfl]
      exact lt31_no n (fun f a b => h f a (by omega)) _
    · exact ih (by omega) _
