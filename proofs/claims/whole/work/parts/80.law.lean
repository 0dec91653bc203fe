/-! PURE: the law: class and reference answer alike on every script -/
theorem RR.pl {S0 S1 S6 S8 S9 S10 S11 S12 S13 M S0' M' : St} (h : RR S0 S1 S6 S8 S9 S10 S11 S12 S13 M) (hp : pe S0' M') (ho : ok S0') (hk : ∀ q, 11 ≤ q → M' q = M q) : RR S0' S1 S6 S8 S9 S10 S11 S12 S13 M' :=
  ⟨hp, ho, h.2.2.1.keep (hk 15 (by omega)) (hk 16 (by omega)), h.2.2.2.1.keep (hk 11 (by omega)) (hk 12 (by omega)) (hk 13 (by omega)) (hk 14 (by omega)), h.2.2.2.2.1.keep (hk 33 (by omega)) (hk 34 (by omega)), h.2.2.2.2.2.keep (hk 33 (by omega)) (hk 34 (by omega))⟩
theorem pe_of {A M M' : St} (h : pe A M) (hk : ∀ q, q ≤ 10 → M' q = M q) : pe A M' := h.trans ⟨fun r k hr hk' => by rw [hk r (by omega)], fun r k h5 hr hk' => by rw [hk r (by omega)], by rw [hk 9 (by omega)], by rw [hk 10 (by omega)]⟩
theorem RR.pad {S0 S1 S6 S8 S9 S10 S11 S12 S13 M S1' M' : St} (h : RR S0 S1 S6 S8 S9 S10 S11 S12 S13 M) (hp : pd S1' M') (hk : ∀ q, q ≠ 15 → q ≠ 16 → M' q = M q) : RR S0 S1' S6 S8 S9 S10 S11 S12 S13 M' :=
  ⟨pe_of h.1 (fun q hq => hk q (by omega) (by omega)), h.2.1, hp, h.2.2.2.1.keep (hk 11 (by omega) (by omega)) (hk 12 (by omega) (by omega)) (hk 13 (by omega) (by omega)) (hk 14 (by omega) (by omega)), h.2.2.2.2.1.keep (hk 33 (by omega) (by omega)) (hk 34 (by omega) (by omega)), h.2.2.2.2.2.keep (hk 33 (by omega) (by omega)) (hk 34 (by omega) (by omega))⟩
theorem RR.sgt {S0 S1 S6 S8 S9 S10 S11 S12 S13 M S6' M' : St} (h : RR S0 S1 S6 S8 S9 S10 S11 S12 S13 M) (hp : sg S6' M') (hk : ∀ q, ¬ (11 ≤ q ∧ q ≤ 14) → M' q = M q) : RR S0 S1 S6' S8 S9 S10 S11 S12 S13 M' :=
  ⟨pe_of h.1 (fun q hq => hk q (by omega)), h.2.1, h.2.2.1.keep (hk 15 (by omega)) (hk 16 (by omega)), hp, h.2.2.2.2.1.keep (hk 33 (by omega)) (hk 34 (by omega)), h.2.2.2.2.2.keep (hk 33 (by omega)) (hk 34 (by omega))⟩
theorem RR.dn {S0 S1 S6 S8 S9 S10 S11 S12 S13 M S0' S1' M' : St} (h : RR S0 S1 S6 S8 S9 S10 S11 S12 S13 M) (hp : pe S0' M') (ho : ok S0') (hd : pd S1' M') (hk : ∀ q, (11 ≤ q ∧ q ≤ 14) ∨ q = 33 ∨ q = 34 → M' q = M q) : RR S0' S1' S6 S8 S9 S10 S11 S12 S13 M' :=
  ⟨hp, ho, hd, h.2.2.2.1.keep (hk 11 (by omega)) (hk 12 (by omega)) (hk 13 (by omega)) (hk 14 (by omega)), h.2.2.2.2.1.keep (hk 33 (by omega)) (hk 34 (by omega)), h.2.2.2.2.2.keep (hk 33 (by omega)) (hk 34 (by omega))⟩
theorem ke_32 {M M' : St} (h : ∀ q, q ≠ 32 → M' q = M q) : ke M M' := ⟨pe_of pe.rf (fun q hq => h q (by omega)), fun r hr => h r (by omega)⟩
theorem cmp_self (x : Int64) : lg_cmp x x = 0 := by
  have h1 := m_cmp_lt x x
  have h2 := m_cmp_gt x x
  have hx : ¬ x < x := by rw [fa_lt64]; omega
  have a : ¬ lg_cmp x x < 0 := fun q => hx (h1.mp q)
  have b : ¬ 0 < lg_cmp x x := fun q => hx (h2.mp q)
  rw [fa_lt] at a b
  rw [fa_eq]
  omega
set_option maxHeartbeats 40000000 in
set_option maxRecDepth 100000 in
theorem law_pure {xs : Nat → Int32} {L : Nat} (hL : L ≤ 2560) : ∀ n i (S0 S1 S2 S3 S4 S5 S6 S7 S8 S9 S10 S11 S12 S13 S16 : St), i ≤ L → L < i + 5 * n → RR S0 S1 S6 S8 S9 S10 S11 S12 S13 S16 → xL_law_h18 xs L n (nI i) S0 S1 S2 S3 S4 S5 S6 S7 S8 S9 S10 S11 S12 S13 S16 = some 1 := by
  intro n
  induction n with
  | zero =>
    intro i S0 S1 S2 S3 S4 S5 S6 S7 S8 S9 S10 S11 S12 S13 S16 hi hn hR
    omega
  | succ n ih =>
    intro i S0 S1 S2 S3 S4 S5 S6 S7 S8 S9 S10 S11 S12 S13 S16 hi hn hR
    rw [xL_law_h18_s]
    by_cases hend : nI L - 5 < nI i
    · rw [if_pos hend]
    have hi5 : i + 5 ≤ L := by
      rw [fa_lt, show (5 : Int32) = nI 5 by decide, pk_sub_toInt (by omega) (by omega), nI_toInt (by omega)] at hend
      omega
    have b0 : q_ib (nI i) L = true := m_ib (by omega) (by omega)
    have b1 : q_ib (nI i + 1) L = true := by rw [show nI i + 1 = nI (i + 1) from nI_add i 1]; exact m_ib (by omega) (by omega)
    have b2 : q_ib (nI i + 2) L = true := by rw [show nI i + 2 = nI (i + 2) from nI_add i 2]; exact m_ib (by omega) (by omega)
    have b3 : q_ib (nI i + 3) L = true := by rw [show nI i + 3 = nI (i + 3) from nI_add i 3]; exact m_ib (by omega) (by omega)
    have b4 : q_ib (nI i + 4) L = true := by rw [show nI i + 4 = nI (i + 4) from nI_add i 4]; exact m_ib (by omega) (by omega)
    have e5 : nI i + 5 = nI (i + 5) := nI_add i 5
    rw [if_neg hend, if_pos b0, e5]
    generalize xs (nI i).toNatClampNeg &&& 31 = g
    generalize xs (nI i + 1).toNatClampNeg = a1
    generalize xs (nI i + 2).toNatClampNeg = a2
    generalize xs (nI i + 3).toNatClampNeg = a3
    generalize xs (nI i + 4).toNatClampNeg = a4
    have go : ∀ (T0 T1 T2 T3 T4 T5 T6 T7 T8 T9 T10 T11 T12 T13 T16 : St), RR T0 T1 T6 T8 T9 T10 T11 T12 T13 T16 → xL_law_h18 xs L n (nI (i + 5)) T0 T1 T2 T3 T4 T5 T6 T7 T8 T9 T10 T11 T12 T13 T16 = some 1 := fun T0 T1 T2 T3 T4 T5 T6 T7 T8 T9 T10 T11 T12 T13 T16 h => ih (i + 5) T0 T1 T2 T3 T4 T5 T6 T7 T8 T9 T10 T11 T12 T13 T16 (by omega) (by omega) h
    clear ih
    obtain ⟨hp, ho, hd1, hs, -, -⟩ := id hR
    by_cases c0 : g = 0
    · -- person
      obtain ⟨r, T0, M', e1, e2, k1, k2, k3⟩ := op_person hp ho a1 a2 a3
      rw [if_pos c0, if_pos b1, if_pos b2, if_pos b3, e1, e2, Option.bind_some, Option.bind_some]
      try dsimp only
      rw [if_pos rfl]
      exact go T0 S1 S2 S3 S4 S5 S6 S7 S8 S9 S10 S11 S12 S13 M' (hR.pl k1 k2 k3)
    rw [if_neg c0]
    by_cases c1 : g = 1
    · -- stone
      obtain ⟨r, T0, M', e1, e2, k1, k2, k3⟩ := op_stone hp ho a1 a2 a3 a4
      rw [if_pos c1, if_pos b1, if_pos b2, if_pos b3, if_pos b4, e1, e2, Option.bind_some, Option.bind_some]
      try dsimp only
      rw [if_pos rfl]
      exact go T0 S1 S2 S3 S4 S5 S6 S7 S8 S9 S10 S11 S12 S13 M' (hR.pl k1 k2 k3)
    rw [if_neg c1]
    by_cases c2 : g = 2
    · -- reader
      obtain ⟨r, T0, M', e1, e2, k1, k2, k3⟩ := op_reader hp ho a1 a2 a3
      rw [if_pos c2, if_pos b1, if_pos b2, if_pos b3, e1, e2, Option.bind_some, Option.bind_some]
      try dsimp only
      rw [if_pos rfl]
      exact go T0 S1 S2 S3 S4 S5 S6 S7 S8 S9 S10 S11 S12 S13 M' (hR.pl k1 k2 k3)
    rw [if_neg c2]
    by_cases c3 : g = 3
    · -- melt
      obtain ⟨r, T0, M', e1, e2, k1, k2, k3⟩ := op_melt hp ho a1
      rw [if_pos c3, if_pos b1, e1, e2, Option.bind_some, Option.bind_some]
      try dsimp only
      rw [if_pos rfl]
      exact go T0 S1 S2 S3 S4 S5 S6 S7 S8 S9 S10 S11 S12 S13 M' (hR.pl k1 k2 k3)
    rw [if_neg c3]
    by_cases c4 : g = 4
    · -- say
      obtain ⟨r, T1, M', e1, e2, k1, k2⟩ := op_say hd1 a1
      rw [if_pos c4, if_pos b1, e1, e2, Option.bind_some, Option.bind_some]
      try dsimp only
      rw [if_pos rfl]
      exact go S0 T1 S2 S3 S4 S5 S6 S7 S8 S9 S10 S11 S12 S13 M' (hR.pad k1 k2)
    rw [if_neg c4]
    by_cases c5 : g = 5
    · -- wipe
      obtain ⟨r, T1, M', e1, e2, k1, k2⟩ := op_wipe hd1
      rw [if_pos c5, e1, e2, Option.bind_some, Option.bind_some]
      try dsimp only
      rw [if_pos rfl]
      exact go S0 T1 S2 S3 S4 S5 S6 S7 S8 S9 S10 S11 S12 S13 M' (hR.pad k1 (fun q _ hq => k2 q hq))
    rw [if_neg c5]
    by_cases c6 : g = 6
    · -- fault
      obtain ⟨r, M', e1, e2, k1⟩ := op_faultC hd1
      rw [if_pos c6, e1, e2, Option.bind_some, Option.bind_some]
      try dsimp only
      rw [if_pos rfl]
      exact go S0 S1 S2 S3 S4 S5 S6 S7 S8 S9 S10 S11 S12 S13 M' (hR.keep k1)
    rw [if_neg c6]
    by_cases c7 : g = 7
    · -- judge
      obtain ⟨r, T2, T3, T4, M', e1, e2, k1⟩ := op_judge hp ho hd1 S2 S3 S4 a1
      rw [if_pos c7, if_pos b1, e1, e2, Option.bind_some, Option.bind_some]
      try dsimp only
      rw [if_pos rfl]
      exact go S0 S1 T2 T3 T4 S5 S6 S7 S8 S9 S10 S11 S12 S13 M' (hR.keep k1)
    rw [if_neg c7]
    by_cases c8 : g = 8
    · -- behind
      obtain ⟨r, T2, T3, T4, M', e1, e2, k1⟩ := op_behind hp ho hd1 S2 S3 S4 a1 a2
      rw [if_pos c8, if_pos b1, if_pos b2, e1, e2, Option.bind_some, Option.bind_some]
      try dsimp only
      rw [if_pos rfl]
      exact go S0 S1 T2 T3 T4 S5 S6 S7 S8 S9 S10 S11 S12 S13 M' (hR.keep k1)
    rw [if_neg c8]
    by_cases c9 : g = 9
    · -- reads
      obtain ⟨r, T2, T3, T4, M', e1, e2, k1⟩ := op_reads hp ho hd1 S2 S3 S4 a1 a2
      rw [if_pos c9, if_pos b1, if_pos b2, e1, e2, Option.bind_some, Option.bind_some]
      try dsimp only
      rw [if_pos rfl]
      exact go S0 S1 T2 T3 T4 S5 S6 S7 S8 S9 S10 S11 S12 S13 M' (hR.keep k1)
    rw [if_neg c9]
    by_cases c10 : g = 10
    · -- yard
      obtain ⟨r, T2, T3, T4, M', e1, e2, k1⟩ := op_yard hp ho hd1 S2 S3 S4 a1
      rw [if_pos c10, if_pos b1, e1, e2, Option.bind_some, Option.bind_some]
      try dsimp only
      rw [if_pos rfl]
      exact go S0 S1 T2 T3 T4 S5 S6 S7 S8 S9 S10 S11 S12 S13 M' (hR.keep k1)
    rw [if_neg c10]
    by_cases c11 : g = 11
    · -- lost
      obtain ⟨r, T2, T3, T4, M', e1, e2, k1⟩ := op_lost hp ho hd1 S2 S3 S4 a1
      rw [if_pos c11, if_pos b1, e1, e2, Option.bind_some, Option.bind_some]
      try dsimp only
      rw [if_pos rfl]
      exact go S0 S1 T2 T3 T4 S5 S6 S7 S8 S9 S10 S11 S12 S13 M' (hR.keep k1)
    rw [if_neg c11]
    by_cases c12 : g = 12
    · -- done
      obtain ⟨r, T0, T1, T2, T3, T4, M', e1, e2, k1, k2, k3, k4⟩ := op_done hp ho hd1 S2 S3 S4
      rw [if_pos c12, e1, e2, Option.bind_some, Option.bind_some]
      try dsimp only
      rw [if_pos rfl]
      exact go T0 T1 T2 T3 T4 S5 S6 S7 S8 S9 S10 S11 S12 S13 M' (hR.dn k1 k2 k3 k4)
    rw [if_neg c12]
    by_cases c13 : g = 13
    · -- plan
      obtain ⟨r, T5, M', e1, e2, k1⟩ := op_plan hp ho S5 a1 a2
      rw [if_pos c13, if_pos b1, if_pos b2, e1, e2, Option.bind_some, Option.bind_some]
      try dsimp only
      rw [if_pos rfl]
      exact go S0 S1 S2 S3 S4 T5 S6 S7 S8 S9 S10 S11 S12 S13 M' (hR.keep k1)
    rw [if_neg c13]
    by_cases c14 : g = 14
    · -- cover
      obtain ⟨r, e1, e2⟩ := op_cover hp ho a1 a2
      rw [if_pos c14, if_pos b1, if_pos b2, e1, e2, Option.bind_some, Option.bind_some]
      try dsimp only
      rw [if_pos rfl]
      exact go S0 S1 S2 S3 S4 S5 S6 S7 S8 S9 S10 S11 S12 S13 S16 (hR)
    rw [if_neg c14]
    by_cases c15 : g = 15
    · -- seen
      obtain ⟨r, T6, M', e1, e2, k1, k2⟩ := op_seen hs a1 a2 a3
      rw [if_pos c15, if_pos b1, if_pos b2, if_pos b3, e1, e2, Option.bind_some, Option.bind_some]
      try dsimp only
      rw [if_pos rfl]
      exact go S0 S1 S2 S3 S4 S5 T6 S7 S8 S9 S10 S11 S12 S13 M' (hR.sgt k1 k2)
    rw [if_neg c15]
    by_cases c16 : g = 16
    · -- forget
      obtain ⟨r, T6, M', e1, e2, k1, k2⟩ := op_forget hs
      rw [if_pos c16, e1, e2, Option.bind_some, Option.bind_some]
      try dsimp only
      rw [if_pos rfl]
      exact go S0 S1 S2 S3 S4 S5 T6 S7 S8 S9 S10 S11 S12 S13 M' (hR.sgt k1 (fun q hq => k2 q (by omega)))
    rw [if_neg c16]
    by_cases c17 : g = 17
    · -- nets
      obtain ⟨r, T7, e1, e2⟩ := op_nets hs S7 a1
      rw [if_pos c17, if_pos b1, e1, e2, Option.bind_some, Option.bind_some]
      try dsimp only
      rw [if_pos rfl]
      exact go S0 S1 S2 S3 S4 S5 S6 T7 S8 S9 S10 S11 S12 S13 S16 (hR)
    rw [if_neg c17]
    by_cases c18 : g = 18
    · -- ask
      obtain ⟨r, T7, M', e1, e2, k1⟩ := op_ask hs S7 a1
      rw [if_pos c18, if_pos b1, e1, e2, Option.bind_some, Option.bind_some]
      try dsimp only
      rw [if_pos rfl]
      exact go S0 S1 S2 S3 S4 S5 S6 T7 S8 S9 S10 S11 S12 S13 M' (hR.keep k1)
    rw [if_neg c18]
    by_cases c19 : g = 19
    · -- roots
      obtain ⟨r, M', e1, e2, k1⟩ := op_roots S16 a1 a2
      rw [if_pos c19, if_pos b1, if_pos b2, e1, e2, Option.bind_some, Option.bind_some]
      try dsimp only
      rw [if_pos rfl]
      exact go S0 S1 S2 S3 S4 S5 S6 S7 S8 S9 S10 S11 S12 S13 M' (hR.keep (ke_32 k1))
    rw [if_neg c19]
    by_cases c20 : g = 20
    · -- thought
      obtain ⟨r, e1, e2⟩ := op_thought S16 a1 a2 a3 a4
      rw [if_pos c20, if_pos b1, if_pos b2, if_pos b3, if_pos b4, e1, e2, Option.bind_some, Option.bind_some]
      try dsimp only
      rw [if_pos (cmp_self r)]
      exact go S0 S1 S2 S3 S4 S5 S6 S7 S8 S9 S10 S11 S12 S13 S16 (hR)
    rw [if_neg c20]
    by_cases c21 : g = 21
    · -- storm
      obtain ⟨r, T2, T3, T4, M', e1, e2, k1⟩ := op_storm hp ho S2 S3 S4 a1 a2 a3
      rw [if_pos c21, if_pos b1, if_pos b2, if_pos b3, e1, e2, Option.bind_some, Option.bind_some]
      try dsimp only
      rw [if_pos rfl]
      exact go S0 S1 T2 T3 T4 S5 S6 S7 S8 S9 S10 S11 S12 S13 M' (hR.keep k1)
    rw [if_neg c21]
    by_cases c22 : g = 22
    · -- image
      obtain ⟨r, T8, T9, T10, T11, T12, T13, M', e1, e2, k1⟩ := op_image hR a1
      rw [if_pos c22, if_pos b1, e1, e2, Option.bind_some, Option.bind_some]
      try dsimp only
      rw [if_pos rfl]
      exact go S0 S1 S2 S3 S4 S5 S6 S7 T8 T9 T10 T11 T12 T13 M' (k1)
    rw [if_neg c22]
    by_cases c23 : g = 23
    · -- restore
      obtain ⟨r, T0, T6, M', e1, e2, k1⟩ := op_restore hR a1
      rw [if_pos c23, if_pos b1, e1, e2, Option.bind_some, Option.bind_some]
      try dsimp only
      rw [if_pos rfl]
      exact go T0 S1 S2 S3 S4 S5 T6 S7 S8 S9 S10 S11 S12 S13 M' (k1)
    rw [if_neg c23]
    by_cases c24 : g = 24
    · -- told
      obtain ⟨r, e1, e2⟩ := op_told hp ho hd1 hs a1
      rw [if_pos c24, if_pos b1, e1, e2, Option.bind_some, Option.bind_some]
      try dsimp only
      rw [if_pos rfl]
      exact go S0 S1 S2 S3 S4 S5 S6 S7 S8 S9 S10 S11 S12 S13 S16 (hR)
    rw [if_neg c24]
    exact go S0 S1 S2 S3 S4 S5 S6 S7 S8 S9 S10 S11 S12 S13 S16 hR
theorem im_0 {K P G M : St} {i : Nat} (h : K 2 0 = 0) (h2 : M 34 i = 0) : im K P G M i := ⟨by rw [h, h2], Or.inl h⟩
theorem RR_start : RR sX5 sX4 sX7 sX1 sX5 sX7 sX1 sX5 sX7 sX9 := by
  have p1 : (List.range 5).all (fun r => (List.range 8).all fun k => decide (sX5 r k = sX9 r k)) = true := by decide +kernel
  have p2 : (List.range 4).all (fun r => (List.range 4).all fun k => decide (sX5 (5 + r) k = sX9 (5 + r) k)) = true := by decide +kernel
  have o0 : ∀ k, k < 8 → 0 ≤ sX5 0 k ∧ sX5 0 k ≤ 99 := by decide +kernel
  have o1 : ∀ k, k < 8 → 0 ≤ sX5 1 k ∧ sX5 1 k ≤ 99 := by decide +kernel
  have o2 : ∀ k, k < 8 → sX5 2 k = -6 ∧ sX5 3 k = 0 ∧ sX5 4 k = 0 := by decide +kernel
  have o5 : ∀ k, k < 4 → 0 ≤ sX5 5 k ∧ sX5 5 k ≤ 11 := by decide +kernel
  have o6 : ∀ k, k < 4 → 0 ≤ sX5 6 k ∧ sX5 6 k ≤ 9 := by decide +kernel
  have o7 : ∀ k, k < 4 → 0 ≤ sX5 7 k ∧ sX5 7 k ≤ 999 := by decide +kernel
  have o8 : ∀ k, k < 4 → sX5 8 k = 0 ∨ sX5 8 k = 1 := by decide +kernel
  have o9 : 1 ≤ sX5 9 0 ∧ sX5 9 0 ≤ 9 := by decide +kernel
  have o10 : 0 ≤ sX5 10 0 ∧ sX5 10 0 ≤ 99 := by decide +kernel
  have p15 : ∀ k, k < 60 → sX4 0 k = sX9 15 k := by decide +kernel
  have s11 : ∀ k, k < 8 → sX7 0 k = sX9 11 k ∧ sX7 1 k = sX9 12 k ∧ sX7 2 k = sX9 13 k := by decide +kernel
  have e9 : sX5 9 0 = sX9 9 0 := by decide +kernel
  have e10 : sX5 10 0 = sX9 10 0 := by decide +kernel
  have e16 : sX4 1 0 = sX9 16 0 := by decide +kernel
  have z4 : sX4 1 0 = nI 0 := by decide +kernel
  have e14 : sX7 3 0 = sX9 14 0 := by decide +kernel
  have z7 : sX7 3 0 = nI 0 := by decide +kernel
  have z1 : sX1 2 0 = 0 := by decide +kernel
  have i0 : sX9 34 0 = 0 := by decide +kernel
  have i1 : sX9 34 1 = 0 := by decide +kernel
  refine ⟨⟨fun r k hr hk => ?_, fun r k h5 hr hk => ?_, e9, e10⟩, ⟨o0, o1, fun k hk => Or.inl (o2 k hk), o5, o6, o7, o8, o9, o10⟩, ⟨e16, p15, 0, by decide, z4, fun k hk => by omega⟩, ⟨e14, s11, 0, by decide, z7, fun k hk => by omega⟩, im_0 z1 i0, im_0 z1 i1⟩
  · exact of_decide_eq_true (List.all_eq_true.mp (List.all_eq_true.mp p1 r (List.mem_range.mpr hr)) k (List.mem_range.mpr hk))
  · have a := of_decide_eq_true (List.all_eq_true.mp (List.all_eq_true.mp p2 (r - 5) (List.mem_range.mpr (by omega))) k (List.mem_range.mpr hk))
    rw [show 5 + (r - 5) = r by omega] at a
    exact a
