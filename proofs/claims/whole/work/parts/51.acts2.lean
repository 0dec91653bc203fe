/-! PURE: a stone falls; a second -/
def fallF (w : Nat) (c : Int32) (r : Nat) (T : St) : St := if T 5 r = c then q_su T 6 r (q_mn 9 (T 6 r + T 4 w / 10)) else T
def fallS (A : St) (w : Nat) (c : Int32) : St := fN (fallF w c) 4 (q_su (lay A w c (A 0 w) (A 0 w)) 0 w 0)
theorem x5_drop {A : St} {w : Nat} (hw : w < 8) (c : Int32) : xX5_dropStone (nI w) c A = some (fallS A w c) := by
  unfold xX5_dropStone fallS
  simp only [if_pos (m_ib hw (show 8 < 2 ^ 31 by decide)), nI_clamp (show w < 2 ^ 31 by omega), m_put hw, Option.bind_some, q_let]
  refine lp_c (fun n T k => xX5_dropStone_h27 (nI w) c n (nI k) T) (fallF w c) (fun T => some T) 4 (fun _ _ => True) _ (fun n k T hk _ => ⟨?_, trivial⟩) (fun n T _ => ?_) trivial 5000 (by decide)
  · rw [xX5_dropStone_h27_s, if_neg (n4 hk), if_pos (m_ib hk (by decide)), if_pos (m_ib hw (by decide)), nI_clamp (show k < 2 ^ 31 by omega), nI_clamp (show w < 2 ^ 31 by omega), nI_1]
    unfold fallF
    simp only [q_let]
    split <;> rfl
  · rw [xX5_dropStone_h27_s, if_pos (by decide)]
theorem su_self {S : St} {r k : Nat} : q_su S r k (S r k) = S := by
  funext a b
  rw [su_at]
  split
  · rename_i h; rw [h.1, h.2]
  · rfl
theorem x9_fall {A : St} {w : Nat} (hw : w < 8) (c : Int32) : xX9_fall (nI w) c A = some (fallS A w c) := by
  unfold xX9_fall fallS
  simp only [if_pos (m_ib hw (show 8 < 2 ^ 31 by decide)), nI_clamp (show w < 2 ^ 31 by omega), m_layS hw, Option.bind_some, q_let]
  refine lp_c (fun n T k => xX9_fall_h27 (nI w) c n (nI k) T) (fallF w c) (fun T => some T) 4 (fun _ _ => True) _ (fun n k T hk _ => ⟨?_, trivial⟩) (fun n T _ => ?_) trivial 5000 (by decide)
  · rw [xX9_fall_h27_s, if_neg (n4 hk), if_pos (m_ib hk (by decide)), if_pos (m_ib hw (by decide)), nI_clamp (show k < 2 ^ 31 by omega), nI_clamp (show w < 2 ^ 31 by omega), nI_1]
    unfold fallF
    simp only [q_let, su_self, ← mn_less]
    split <;> rfl
  · rw [xX9_fall_h27_s, if_pos (by decide)]
/-- the fall's loop keeps all but row 6 -/
theorem fall_inv {A B : St} (h : pe A B) (ho : ok A) {w : Nat} (hw : w < 8) (c : Int32) (n : Nat) (hn : n ≤ 4) : pe (fN (fallF w c) n A) (fN (fallF w c) n B) ∧ ok (fN (fallF w c) n A) ∧ ∀ q, q ≠ 6 → fN (fallF w c) n B q = B q := by
  induction n with
  | zero => rw [fN_0, fN_0]; exact ⟨h, ho, fun _ _ => rfl⟩
  | succ n ih =>
    obtain ⟨i1, i2, i3⟩ := ih (by omega)
    rw [fN_s, fN_s]
    generalize fN (fallF w c) n A = T at i1 i2 ⊢
    generalize fN (fallF w c) n B = U at i1 i3 ⊢
    unfold fallF
    rw [← i1.2.1 5 n (by omega) (by omega) (by omega), ← i1.2.1 6 n (by omega) (by omega) (by omega), ← i1.1 4 w (by omega) hw]
    by_cases hc : T 5 n = c
    · rw [if_pos hc, if_pos hc]
      refine ⟨i1.su 6 n _, i2.su 6 n _ (by omega) (by omega) (by omega) (by omega) (fun _ => ?_) (by omega) (by omega) (by omega) (by omega), fun q hq => by rw [su_row hq]; exact i3 q hq⟩
      obtain ⟨a, ha, ea⟩ := m_nat (n := 9) (b := 9) (by decide) (i2.2.2.2.2.1 n (by omega))
      obtain ⟨b, hb, eb⟩ := m_nat (n := 99) (b := 99) (by decide) (fig_rng i2 hw)
      rw [ea, eb, m_d10 (by omega), nI_add, show (9 : Int32) = nI 9 by decide, mn_nat (by decide) (by omega)]
      exact m_rng (n := 9) rfl (by decide) (by omega)
    · rw [if_neg hc, if_neg hc]
      exact ⟨i1, i2, i3⟩
theorem ac_fall {A B : St} (h : pe A B) (ho : ok A) {w : Nat} (hw : w < 8) {c : Int32} (hc : 0 ≤ c ∧ c ≤ 11) (h0 : ¬ A 0 w = 0) : pe (fallS A w c) (fallS B w c) ∧ ok (fallS A w c) ∧ ∀ q, q = 9 ∨ 11 ≤ q → fallS B w c q = B q := by
  obtain ⟨n, hn, e⟩ := m_nat (n := 99) (b := 99) (by decide) (ho.1 w hw)
  have hs : st_ok c (A 0 w) (A 0 w) := by
    have h1 : 1 ≤ A 0 w := by
      rw [e] at h0 ⊢
      exact nI_le (a := 1) (by
        rcases Nat.eq_zero_or_pos n with q | q
        · subst q; exact absurd rfl h0
        · exact q) (by omega)
    have h2 := (ho.1 w hw).2
    exact Or.inr ⟨hc.1, hc.2, h1, h2, h1, h2⟩
  unfold fallS
  rw [← h.1 0 w (by omega) hw]
  obtain ⟨a, b, d⟩ := fall_inv ((pe_lay h w c (A 0 w) (A 0 w)).su 0 w 0) ((ok_lay ho w hs).su 0 w 0 (fun _ => by decide) (by omega) (by omega) (by omega) (by omega) (by omega) (by omega) (by omega) (by omega)) hw c 4 (Nat.le_refl 4)
  refine ⟨a, b, fun q hq => ?_⟩
  rw [d q (by omega), su_row (by omega), lay_row (by omega) (by omega) (by omega)]

set_option maxRecDepth 100000 in
theorem bc_tab : (List.range 8).all (fun k => (List.range (2 ^ k)).all fun m => xJ6_bitCount_0f7a4 (nI (m + 2 ^ k)) == xJ6_bitCount_0f7a4 (nI m) + 1 && (m == 0 || xJ6_numberOfTrailingZeros_0f7a4 (nI (m + 2 ^ k)) == xJ6_numberOfTrailingZeros_0f7a4 (nI m)) && xJ6_numberOfTrailingZeros_0f7a4 (nI (2 ^ k)) == nI k && (m == 0 || decide (0 ≤ xJ6_numberOfTrailingZeros_0f7a4 (nI m)))) = true := by decide +kernel
theorem bc_at {k m : Nat} (hk : k < 8) (hm : m < 2 ^ k) : xJ6_bitCount_0f7a4 (nI (m + 2 ^ k)) = xJ6_bitCount_0f7a4 (nI m) + 1 ∧ (m ≠ 0 → xJ6_numberOfTrailingZeros_0f7a4 (nI (m + 2 ^ k)) = xJ6_numberOfTrailingZeros_0f7a4 (nI m)) ∧ xJ6_numberOfTrailingZeros_0f7a4 (nI (2 ^ k)) = nI k ∧ (m ≠ 0 → 0 ≤ xJ6_numberOfTrailingZeros_0f7a4 (nI m)) := by
  have a := List.all_eq_true.mp (List.all_eq_true.mp bc_tab k (List.mem_range.mpr hk)) m (List.mem_range.mpr hm)
  simp only [Bool.and_eq_true, Bool.or_eq_true, beq_iff_eq, decide_eq_true_eq] at a
  exact ⟨a.1.1.1, fun h => a.1.1.2.resolve_left h, a.1.2, fun h => a.2.resolve_left h⟩
