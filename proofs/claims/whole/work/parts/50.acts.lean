/-! PURE: acts on a plain state: the class's and the model's do alike -/
theorem su_comm {S : St} {r k r' k' : Nat} {v v' : Int32} (h : r ≠ r') : q_su (q_su S r k v) r' k' v' = q_su (q_su S r' k' v') r k v := by
  funext a b
  simp only [su_at]
  by_cases h1 : a = r' ∧ b = k'
  · have : ¬ (a = r ∧ b = k) := fun q => h (q.1.symm.trans h1.1)
    simp [h1, this]
    intro e; exact absurd e.symm h
  · by_cases h2 : a = r ∧ b = k
    · simp [h2]
      intro e; exact absurd e h
    · simp [h1, h2]
theorem mn_less (a b : Int32) : q_mn a b = xX9_less a b := by
  unfold q_mn xX9_less
  by_cases h : b < a
  · have : b ≤ a := by rw [fa_lt] at h; rw [fa_le]; omega
    rw [if_pos h, if_pos this]
  · rw [if_neg h]
    by_cases h2 : b ≤ a
    · rw [if_pos h2, fa_eq]
      rw [fa_lt] at h; rw [fa_le] at h2; omega
    · rw [if_neg h2]
/-- a number between 0 and n, as a natural one -/
theorem m_n {x : Int32} {n : Nat} {b : Int32} (hb : b.toInt = n) (h : 0 ≤ x ∧ x ≤ b) : ∃ j, j ≤ n ∧ x = nI j := m_nat hb h
theorem m_rng {j n : Nat} {b : Int32} (hb : b = nI n) (hn : n < 2 ^ 31) (h : j ≤ n) : 0 ≤ nI j ∧ nI j ≤ b := ⟨nI_pos' (by omega), by rw [hb]; exact nI_le h hn⟩
theorem mn_nat {a z : Nat} (ha : a < 2 ^ 31) (hz : z < 2 ^ 31) : q_mn (nI a) (nI z) = nI (min a z) := by
  unfold q_mn
  by_cases h : z < a
  · rw [if_pos (nI_lt h ha), Nat.min_eq_right (by omega)]
  · rw [if_neg (nI_nlt (by omega) hz), Nat.min_eq_left (by omega)]
/-- one thinks of another -/
theorem ac_think {A B : St} (h : pe A B) (ho : ok A) {v : Nat} (hv : v < 8) (hc : A 0 v < 99) : pe (q_su A 0 v (A 0 v + 1)) (q_su B 0 v (B 0 v + 1)) ∧ ok (q_su A 0 v (A 0 v + 1)) := by
  obtain ⟨n, hn, e⟩ := m_nat (n := 99) (b := 99) (by decide) (ho.1 v hv)
  rw [← h.1 0 v (by omega) hv]
  refine ⟨h.su 0 v _, ho.su 0 v _ (fun _ => ?_) (by omega) (by omega) (by omega) (by omega) (by omega) (by omega) (by omega) (by omega)⟩
  rw [e] at hc ⊢
  have : n < 99 := (nI_ltI (b := 99) (by omega) (by decide)).mp hc
  rw [nI_1]
  exact m_rng (n := 99) rfl (by decide) (by omega)
/-- one goes -/
theorem ac_go {A B : St} (h : pe A B) (ho : ok A) {r : Nat} (hr : r < 4) {s : Int32} (hs : 0 ≤ A 5 r + s ∧ A 5 r + s ≤ 11) : pe (q_su (q_su A 5 r (A 5 r + s)) 8 r 1) (q_su (q_su B 5 r (B 5 r + s)) 8 r 1) ∧ ok (q_su (q_su A 5 r (A 5 r + s)) 8 r 1) := by
  rw [← h.2.1 5 r (by omega) (by omega) hr]
  exact ⟨(h.su 5 r _).su 8 r 1, (ho.su 5 r _ (by omega) (by omega) (by omega) (fun _ => hs) (by omega) (by omega) (by omega) (by omega) (by omega)).su 8 r 1 (by omega) (by omega) (by omega) (by omega) (by omega) (by omega) (fun _ => Or.inr rfl) (by omega) (by omega)⟩
theorem st_no : st_ok (-6) 0 0 := Or.inl ⟨rfl, rfl, rfl⟩
theorem fig_rng {A : St} (ho : ok A) {k : Nat} (hk : k < 8) : 0 ≤ A 4 k ∧ A 4 k ≤ 99 := by
  rcases ho.2.2.1 k hk with h | h
  · rw [h.2.2]; decide
  · exact ⟨by have := h.2.2.2.2.1; rw [fa_le] at this ⊢; have a : (0 : Int32).toInt = 0 := by decide
              have b : (1 : Int32).toInt = 1 := by decide
              omega, h.2.2.2.2.2⟩
/-- a stone is read -/
theorem x5_rd {A : St} {r p : Nat} (hr : r < 4) (hp : p < 8) : xX5_readStone (nI r) (nI p) A = some (lay (q_su (q_su (q_su A 1 p (A 4 p)) 7 r (q_mn 999 (A 7 r + 1))) 8 r 1) p (-6) 0 0) := by
  unfold xX5_readStone
  have z1 : vp_nar .boolean 1 = 1 := by decide +kernel
  simp only [if_pos (m_ib hp (show 8 < 2 ^ 31 by decide)), if_pos (m_ib hr (show 4 < 2 ^ 31 by decide)), q_let, nI_clamp (show p < 2 ^ 31 by omega), nI_clamp (show r < 2 ^ 31 by omega), z1, m_put hp, Option.bind_some]
  rw [su_row (show (7 : Nat) ≠ 1 by decide)]
theorem x9_rd {B : St} {r p : Nat} (hr : r < 4) (hp : p < 8) : xX9_readOne (nI r) (nI p) B = some (lay (q_su (q_su (q_su B 1 p (B 4 p)) 7 r (q_mn 999 (B 7 r + 1))) 8 r 1) p (-6) 0 0) := by
  unfold xX9_readOne
  simp only [if_pos (m_ib hp (show 8 < 2 ^ 31 by decide)), if_pos (m_ib hr (show 4 < 2 ^ 31 by decide)), q_let, nI_clamp (show p < 2 ^ 31 by omega), nI_clamp (show r < 2 ^ 31 by omega), m_layS hp, Option.bind_some]
  rw [lay_row (show (7 : Nat) ≠ 2 by decide) (by decide) (by decide), su_row (show (7 : Nat) ≠ 1 by decide), ← mn_less]
  unfold lay
  rw [su_comm (show (4 : Nat) ≠ 7 by decide), su_comm (show (3 : Nat) ≠ 7 by decide), su_comm (show (2 : Nat) ≠ 7 by decide), su_comm (show (4 : Nat) ≠ 8 by decide), su_comm (show (3 : Nat) ≠ 8 by decide), su_comm (show (2 : Nat) ≠ 8 by decide)]
theorem ac_read {A B : St} (h : pe A B) (ho : ok A) {r p : Nat} (hr : r < 4) (hp : p < 8) : pe (lay (q_su (q_su (q_su A 1 p (A 4 p)) 7 r (q_mn 999 (A 7 r + 1))) 8 r 1) p (-6) 0 0) (lay (q_su (q_su (q_su B 1 p (B 4 p)) 7 r (q_mn 999 (B 7 r + 1))) 8 r 1) p (-6) 0 0) ∧ ok (lay (q_su (q_su (q_su A 1 p (A 4 p)) 7 r (q_mn 999 (A 7 r + 1))) 8 r 1) p (-6) 0 0) := by
  rw [← h.1 4 p (by omega) hp, ← h.2.1 7 r (by omega) (by omega) hr]
  refine ⟨pe_lay (((h.su 1 p _).su 7 r _).su 8 r 1) p _ _ _, ok_lay (((ho.su 1 p _ (by omega) (fun _ => fig_rng ho hp) (by omega) (by omega) (by omega) (by omega) (by omega) (by omega) (by omega)).su 7 r _ (by omega) (by omega) (by omega) (by omega) (by omega) (fun _ => ?_) (by omega) (by omega) (by omega)).su 8 r 1 (by omega) (by omega) (by omega) (by omega) (by omega) (by omega) (fun _ => Or.inr rfl) (by omega) (by omega)) p st_no⟩
  obtain ⟨n, hn, e⟩ := m_nat (n := 999) (b := 999) (by decide +kernel) (ho.2.2.2.2.2.1 r hr)
  rw [e, nI_1, show (999 : Int32) = nI 999 by decide +kernel, mn_nat (by decide) (by omega)]
  exact m_rng (n := 999) rfl (by decide) (by omega)
