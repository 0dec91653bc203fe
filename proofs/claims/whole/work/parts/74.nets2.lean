/-! PURE: the nets found -/
theorem l81 : (81 : Int32) = nI 81 := by decide
/-- what findNets leaves: how many, and which -/
def fnd (P : Nat → Bool) (T : St) : Prop := T 3 0 = nI (ct P 81) ∧ ∀ u, u < 81 → P u = true → T 0 (ct P u) = nI u
theorem x2_find {S : St} {N : Nat} (h : sgN S N) (X : St) : ∃ T, xX2_findNets S X = some T ∧ fnd (fun u => ftB S N (cd u)) T := by
  unfold xX2_findNets
  simp only [q_let]
  generalize hP : (fun u => ftB S N (cd u)) = P
  have hPu : ∀ u, ftB S N (cd u) = P u := fun u => by rw [← hP]
  have key : ∀ d t fuel (T : St), t + d = 81 → d < fuel → T 3 0 = nI (ct P t) → (∀ u, u < t → P u = true → T 0 (ct P u) = nI u) → ∃ T', xX2_findNets_h7 S fuel (nI t) T = some T' ∧ fnd P T' := by
    intro d
    induction d with
    | zero =>
      intro t fuel T ht hf h3 hu
      obtain ⟨q, rfl⟩ : ∃ q, fuel = q + 1 := ⟨fuel - 1, by omega⟩
      obtain rfl : t = 81 := by omega
      exact ⟨T, by rw [xX2_findNets_h7_s, if_pos (by decide)], h3, hu⟩
    | succ d ih =>
      intro t fuel T ht hf h3 hu
      obtain ⟨q, rfl⟩ : ∃ q, fuel = q + 1 := ⟨fuel - 1, by omega⟩
      have ht' : t < 81 := by omega
      have hcl := ct_le P t
      rw [xX2_findNets_h7_s, if_neg (by rw [l81]; exact nI_ge ht' (by decide)), x7_allow h ht', Option.bind_some, nI_1, hPu t]
      by_cases hp : P t = true
      · rw [if_pos hp, if_neg (show ¬ (1 : Int32) = 0 by decide), h3, if_pos (m_ib (show ct P t < 81 by omega) (by decide))]
        simp only [q_let, nI_clamp (show ct P t < 2 ^ 31 by omega)]
        have e3 : q_su T 0 (ct P t) (nI t) 3 0 = nI (ct P t) := by rw [su_row (by decide)]; exact h3
        rw [e3, nI_1]
        refine ih (t + 1) q _ (by omega) (by omega) (by rw [ct_yes hp]; simp [su_at]) (fun u hu' hpu => ?_)
        rw [su_row (by decide)]
        by_cases eu : u = t
        · subst eu; simp [su_at]
        · have := ct_lt hpu (show u < t by omega)
          rw [su_at, if_neg (by omega)]
          exact hu u (by omega) hpu
      · rw [if_neg hp, if_pos rfl]
        refine ih (t + 1) q T (by omega) (by omega) (by rw [ct_no hp]; exact h3) (fun u hu' hpu => ?_)
        by_cases eu : u = t
        · subst eu; exact absurd hpu hp
        · exact hu u (by omega) hpu
  have k := key 81 0 5000 (q_su X 3 0 0) (by omega) (by omega) (by show q_su X 3 0 0 3 0 = nI 0; rw [nI_0]; simp [su_at]) (fun u hu => by omega)
  rw [nI_0] at k
  exact k
theorem fg36 (S S' : St) (p p' : Int32) : ∀ n a b c d, xX2_figuresOfNet_h36 S p n a b c d = xX2_figuresOfNet_h36 S' p' n a b c d := by
  intro n
  induction n with
  | zero => intro a b c d; rfl
  | succ n ih =>
    intro a b c d
    rw [xX2_figuresOfNet_h36_s, xX2_figuresOfNet_h36_s, ih]
set_option maxRecDepth 100000 in
theorem fg_tab : (List.range 81).all (fun t => decide (xX2_figuresOfNet_h36 (fun _ _ => 0) 0 5000 (nI t) 0 1 3 = some (xX9_rowOf (nI (cd t))))) = true := by decide +kernel
theorem fg_at (S : St) (p : Int32) {t : Nat} (ht : t < 81) : xX2_figuresOfNet_h36 S p 5000 (nI t) 0 1 3 = some (xX9_rowOf (nI (cd t))) := by
  rw [fg36 S (fun _ _ => 0) p 0]
  exact of_decide_eq_true (List.all_eq_true.mp fg_tab t (List.mem_range.mpr ht))
theorem nt_loop {S B : St} {N : Nat} (h : sgN S N) (g : sg S B) (p0 ans : Int32) (hit : ∀ t, t < 81 → ftB S N (cd t) = true → nI (ct (fun u => ftB S N (cd u)) t) = p0 → xX9_rowOf (nI (cd t)) = ans) (hend : (∀ u, u < 81 → ftB S N (cd u) = true → ¬ nI (ct (fun u => ftB S N (cd u)) u) = p0) → (if p0 = -1 then nI (ct (fun u => ftB S N (cd u)) 81) else -6) = ans) : ∀ d net fuel, net + d = 256 → d < fuel → (∀ u, u < ct vl net → ftB S N (cd u) = true → ¬ nI (ct (fun u => ftB S N (cd u)) u) = p0) → xX9_nets_h4 B p0 fuel (nI (ct (fun u => ftB S N (cd u)) (ct vl net))) (nI net) = some ans := by
  intro d
  induction d with
  | zero =>
    intro net fuel hn hf hu
    obtain ⟨q, rfl⟩ : ∃ q, fuel = q + 1 := ⟨fuel - 1, by omega⟩
    obtain rfl : net = 256 := by omega
    rw [rk_all] at hu ⊢
    rw [xX9_nets_h4_s, if_pos (by decide +kernel), ← hend hu]
    split <;> rfl
  | succ d ih =>
    intro net fuel hn hf hu
    obtain ⟨q, rfl⟩ : ∃ q, fuel = q + 1 := ⟨fuel - 1, by omega⟩
    have hn' : net < 256 := by omega
    rw [xX9_nets_h4_s, if_neg (by rw [l256]; exact nI_ge hn' (by decide)), x9_fit h g hn', Option.bind_some, nI_1, nI_1]
    have IH := ih (net + 1) q (by omega) (by omega)
    by_cases hv : vl net = true
    · obtain ⟨e1, e2⟩ := rk_at hn' hv
      rw [ct_yes hv] at IH
      by_cases hf : ftB S N net = true
      · have hft : ftB S N (cd (ct vl net)) = true := by rw [e1]; exact hf
        rw [if_pos (show vl net = true ∧ ftB S N net = true from ⟨hv, hf⟩), if_neg (show ¬ (1 : Int32) = 0 by decide)]
        by_cases hc : nI (ct (fun u => ftB S N (cd u)) (ct vl net)) = p0
        · rw [if_pos hc]
          have := hit (ct vl net) e2 hft hc
          rw [e1] at this
          rw [this]
        · rw [if_neg hc]
          have k := IH (fun u hu' hpu => by
            by_cases eu : u = ct vl net
            · rw [eu]; exact hc
            · exact hu u (by omega) hpu)
          rw [ct_yes (P := fun u => ftB S N (cd u)) hft] at k
          exact k
      · have hft : ¬ ftB S N (cd (ct vl net)) = true := by rw [e1]; exact hf
        rw [if_neg (show ¬ (vl net = true ∧ ftB S N net = true) from fun q => hf q.2), if_pos rfl]
        have k := IH (fun u hu' hpu => by
          by_cases eu : u = ct vl net
          · rw [eu] at hpu; exact absurd hpu hft
          · exact hu u (by omega) hpu)
        rw [ct_no (P := fun u => ftB S N (cd u)) hft] at k
        exact k
    · rw [ct_no hv] at IH
      rw [if_neg (show ¬ (vl net = true ∧ ftB S N net = true) from fun q => hv q.1), if_pos rfl]
      exact IH hu
theorem op_nets {S6 M : St} (h : sg S6 M) (S7 : St) (p0 : Int32) : ∃ r S7', xX8_nets S6 p0 S7 = some (r, S7') ∧ xX9_nets M p0 = some r := by
  obtain ⟨N, hN⟩ := sg_N h
  obtain ⟨T, t1, t2, t3⟩ := x2_find hN S7
  have loop := fun ans hit hend => nt_loop hN h p0 ans hit hend 256 0 5000 (by omega) (by omega) (fun u hu => absurd hu (Nat.not_lt_zero u))
  have hcl := ct_le (fun u => ftB S6 N (cd u)) 81
  unfold xX8_nets xX9_nets
  rw [t1, Option.bind_some]
  by_cases c1 : p0 = -1
  · have k := loop (nI (ct (fun u => ftB S6 N (cd u)) 81)) (fun t ht hf e => by
      have := ct_le (fun u => ftB S6 N (cd u)) t
      have h0 : 0 ≤ nI (ct (fun u => ftB S6 N (cd u)) t) := nI_pos' (by omega)
      rw [e, c1] at h0
      exact absurd h0 (by decide)) (fun _ => by rw [if_pos c1])
    have k' : xX9_nets_h4 M p0 5000 0 0 = some (nI (ct (fun u => ftB S6 N (cd u)) 81)) := k
    rw [if_pos c1, k', t2]
    exact ⟨_, _, rfl, rfl⟩
  · rw [if_neg c1]
    by_cases hex : ∃ t, t < 81 ∧ ftB S6 N (cd t) = true ∧ nI (ct (fun u => ftB S6 N (cd u)) t) = p0
    · obtain ⟨t, ht, hf, e⟩ := hex
      have hlt := ct_lt (P := fun u => ftB S6 N (cd u)) hf ht
      have k := loop (xX9_rowOf (nI (cd t))) (fun t' ht' hf' e' => by
        have hc1 := ct_le (fun u => ftB S6 N (cd u)) t
        have hc2 := ct_le (fun u => ftB S6 N (cd u)) t'
        have ec : ct (fun u => ftB S6 N (cd u)) t' = ct (fun u => ftB S6 N (cd u)) t := (nI_eq (by omega) (by omega)).mp (e'.trans e.symm)
        have : t' = t := by
          rcases Nat.lt_trichotomy t' t with q | q | q
          · have := ct_lt (P := fun u => ftB S6 N (cd u)) hf' q
            omega
          · exact q
          · have := ct_lt (P := fun u => ftB S6 N (cd u)) hf q
            omega
        rw [this]) (fun hno => absurd e (hno t ht hf))
      have k' : xX9_nets_h4 M p0 5000 0 0 = some (xX9_rowOf (nI (cd t))) := k
      have hc1 := ct_le (fun u => ftB S6 N (cd u)) t
      rw [k']
      unfold xX2_figuresOfNet
      rw [← e, if_neg (nI_pos (by omega)), t2, if_neg (nI_ge hlt (by omega)), if_pos (by rw [l81]; exact nI_lt (by omega) (by decide)), if_pos (m_ib (show ct (fun u => ftB S6 N (cd u)) t < 81 by omega) (by decide)), nI_clamp (show ct (fun u => ftB S6 N (cd u)) t < 2 ^ 31 by omega), t3 t ht hf, fg_at _ _ ht, Option.bind_some]
      exact ⟨_, _, rfl, rfl⟩
    · have k := loop (-6) (fun t ht hf e => absurd ⟨t, ht, hf, e⟩ hex) (fun _ => by rw [if_neg c1])
      have k' : xX9_nets_h4 M p0 5000 0 0 = some (-6) := k
      rw [k']
      unfold xX2_figuresOfNet
      by_cases d0 : p0 < 0
      · rw [if_pos d0, Option.bind_some]
        exact ⟨_, _, rfl, rfl⟩
      · rw [if_neg d0, t2]
        by_cases d1 : nI (ct (fun u => ftB S6 N (cd u)) 81) ≤ p0
        · rw [if_pos d1, Option.bind_some]
          exact ⟨_, _, rfl, rfl⟩
        · obtain ⟨j, hj, ej⟩ := nI_of d0
          rw [ej] at d1
          have hjl : j < ct (fun u => ftB S6 N (cd u)) 81 := by
            rcases Nat.lt_or_ge j (ct (fun u => ftB S6 N (cd u)) 81) with q | q
            · exact q
            · exact absurd (nI_le q hj) d1
          obtain ⟨t, a1, a2, a3⟩ := ct_hit 81 hjl
          exact absurd ⟨t, a1, a2, by rw [a3, ej]⟩ hex
