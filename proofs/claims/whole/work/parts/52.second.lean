/-! PURE: a second -/
/-- readers: a second less, all may do something again -/
def secF (r : Nat) (T : St) : St := q_su (q_su T 6 r (q_mx 0 (T 6 r - 1))) 8 r 0
theorem stun_less {A : St} (ho : ok A) {r : Nat} (hr : r < 4) : (0 ≤ q_mx 0 (A 6 r - 1) ∧ q_mx 0 (A 6 r - 1) ≤ 9) ∧ (A 6 r ≤ 0 → q_mx 0 (A 6 r - 1) = A 6 r) ∧ (¬ A 6 r ≤ 0 → q_mx 0 (A 6 r - 1) = A 6 r - 1) := by
  obtain ⟨n, hn, e⟩ := m_nat (n := 9) (b := 9) (by decide) (ho.2.2.2.2.1 r hr)
  rw [e]
  have t : ∀ j, j < 10 → (0 ≤ q_mx 0 (nI j - 1) ∧ q_mx 0 (nI j - 1) ≤ 9) ∧ (nI j ≤ 0 → q_mx 0 (nI j - 1) = nI j) ∧ (¬ nI j ≤ 0 → q_mx 0 (nI j - 1) = nI j - 1) := by decide +kernel
  exact t n (by omega)
theorem x5_sec2 {A : St} (ho : ok A) (x : Int32) : xX5_passSecond_h63 5000 x 0 A = some (x, q_su (fN secF 4 A) 10 0 ((fN secF 4 A) 10 0 + 1)) := by
  refine lp_c (fun n T k => xX5_passSecond_h63 n x (nI k) T) secF (fun T => some (x, q_su T 10 0 (T 10 0 + 1))) 4 (fun _ _ => True) A (fun n k T hk _ => ⟨?_, trivial⟩) (fun n T _ => ?_) trivial 5000 (by decide)
  · have z0 : vp_nar .boolean 0 = 0 := by decide +kernel
    rw [xX5_passSecond_h63_s, if_neg (n4 hk), if_pos (m_ib hk (by decide)), nI_clamp (show k < 2 ^ 31 by omega), nI_1, z0]
    rfl
  · rw [xX5_passSecond_h63_s, if_pos (by decide)]
    rfl
theorem sec_inv {A B : St} (h : pe A B) (ho : ok A) (n : Nat) (hn : n ≤ 4) : pe (fN secF n A) (fN secF n B) ∧ ok (fN secF n A) ∧ (∀ q, q ≠ 6 → q ≠ 8 → fN secF n B q = B q) := by
  induction n with
  | zero => rw [fN_0, fN_0]; exact ⟨h, ho, fun _ _ _ => rfl⟩
  | succ n ih =>
    obtain ⟨i1, i2, i3⟩ := ih (by omega)
    rw [fN_s, fN_s]
    generalize fN secF n A = T at i1 i2 ⊢
    generalize fN secF n B = U at i1 i3 ⊢
    unfold secF
    rw [← i1.2.1 6 n (by omega) (by omega) (by omega)]
    exact ⟨(i1.su 6 n _).su 8 n 0, (i2.su 6 n _ (by omega) (by omega) (by omega) (by omega) (fun _ => (stun_less i2 (by omega)).1) (by omega) (by omega) (by omega) (by omega)).su 8 n 0 (by omega) (by omega) (by omega) (by omega) (by omega) (by omega) (fun _ => Or.inl rfl) (by omega) (by omega), fun q a b => by rw [su_row b, su_row a]; exact i3 q a b⟩
theorem x9_sec2 {B : St} (ho : ok B) : xX9_passSecond_h30 5000 0 B = some (q_su (fN secF 4 B) 10 0 ((fN secF 4 B) 10 0 + 1)) := by
  refine lp_c (fun n T k => xX9_passSecond_h30 n (nI k) T) secF (fun T => some (q_su T 10 0 (T 10 0 + 1))) 4 (fun _ T => ok T) B (fun n k T hk hT => ⟨?_, ?_⟩) (fun n T _ => ?_) ho 5000 (by decide)
  · rw [xX9_passSecond_h30_s, if_neg (n4 hk), if_pos (m_ib hk (by decide)), nI_clamp (show k < 2 ^ 31 by omega), nI_1]
    simp only [q_let]
    obtain ⟨-, s1, s2⟩ := stun_less hT hk
    unfold secF
    by_cases hc : T 6 k ≤ 0
    · rw [if_pos hc, s1 hc, show T 6 k - 0 = T 6 k by simp]
    · rw [if_neg hc, s2 hc]
  · exact (sec_inv pe.rf hT 1 (by decide)).2.1 |> fun _ => by
      unfold secF
      exact (hT.su 6 k _ (by omega) (by omega) (by omega) (by omega) (fun _ => (stun_less hT hk).1) (by omega) (by omega) (by omega) (by omega)).su 8 k 0 (by omega) (by omega) (by omega) (by omega) (by omega) (by omega) (fun _ => Or.inl rfl) (by omega) (by omega)
  · rw [xX9_passSecond_h30_s, if_pos (by decide)]
    rfl
/-- what a second leaves, behind the melting -/
def secS (A : St) : St := q_su (fN secF 4 A) 10 0 ((fN secF 4 A) 10 0 + 1)
theorem sec_10 (A : St) (n : Nat) : fN secF n A 10 = A 10 := by
  induction n with
  | zero => rw [fN_0]
  | succ n ih => rw [fN_s]; unfold secF; rw [su_row (by decide), su_row (by decide)]; exact ih
theorem secS_ok {A B : St} (h : pe A B) (ho : ok A) (hs : A 10 0 < 99) : pe (secS A) (secS B) ∧ ok (secS A) ∧ ∀ q, q = 9 ∨ 11 ≤ q → secS B q = B q := by
  obtain ⟨a, b, c⟩ := sec_inv h ho 4 (Nat.le_refl 4)
  unfold secS
  rw [sec_10 A 4, sec_10 B 4, ← h.2.2.2]
  refine ⟨a.su 10 0 _, b.su 10 0 _ (by omega) (by omega) (by omega) (by omega) (by omega) (by omega) (by omega) (by omega) (fun _ => ?_), fun q hq => by rw [su_row (by omega)]; exact c q (by omega) (by omega)⟩
  obtain ⟨n, hn, e⟩ := m_nat (n := 99) (b := 99) (by decide) ho.2.2.2.2.2.2.2.2
  rw [e] at hs ⊢
  have : n < 99 := (nI_ltI (b := 99) (by omega) (by decide)).mp hs
  rw [nI_1]
  exact m_rng (n := 99) rfl (by decide) (by omega)
