/-! PURE: the text: where its first fault stands, and the acts that it tells -/
theorem x4_sign {S : St} {n : Nat} (hn : n ≤ 60) (h1 : S 1 0 = nI n) {p : Nat} (hp : p < 100) : xX4_signAt S (nI p) = some (if p < n then S 0 p else 0) := by
  unfold xX4_signAt
  rw [if_neg (nI_pos (show p < 2 ^ 31 by omega)), h1]
  by_cases h : p < n
  · have h60 : ¬ 60 ≤ nI p := nI_ge (b := 60) (by omega) (by decide)
    rw [if_neg (nI_ge h (by omega)), if_neg h60, if_pos (m_ib (show p < 60 by omega) (by decide)), nI_clamp (show p < 2 ^ 31 by omega), if_pos h]
  · rw [if_pos (nI_le (by omega) (by omega)), if_neg h]
theorem sgn_at {S M : St} (h : pd S M) : ∃ n, n ≤ 60 ∧ S 1 0 = nI n ∧ M 16 0 = nI n ∧ ∀ p, ∃ j, j < 127 ∧ (if p < n then S 0 p else 0) = nI j ∧ (p < n → M 15 p = nI j) ∧ (¬ p < n → j = 0) := by
  obtain ⟨h1, h2, n, hn, h3, h4⟩ := h
  refine ⟨n, hn, h3, by rw [← h1, h3], fun p => ?_⟩
  by_cases hp : p < n
  · have hx := h4 p hp
    obtain ⟨j, hj, e⟩ := m_nat (n := 126) (x := S 0 p) (b := 126) (by decide) ⟨by
      have := hx.1
      rw [fa_le] at this ⊢
      have a : (0 : Int32).toInt = 0 := by decide
      have b : (33 : Int32).toInt = 33 := by decide
      omega, hx.2⟩
    exact ⟨j, by omega, by rw [if_pos hp, e], fun _ => by rw [← h2 p (by omega), e], fun q => absurd hp q⟩
  · exact ⟨0, by decide, by rw [if_neg hp, nI_0], fun q => absurd q hp, fun _ => rfl⟩
set_option maxRecDepth 100000 in
theorem s_tab : (List.range 127).all (fun j => decide (xX8_isPerson (nI j - 65) = xX8_within (nI j) 65 72) && decide (xX8_isReader (nI j - 48) = xX8_within (nI j) 48 51) && decide (xX8_isCell (nI j - 97) = xX8_within (nI j) 97 108) && (decide (xX8_within (nI j) 65 72 = 0) || (decide (xX8_within (nI j) 48 51 = 0) && decide (¬ nI j = 46))) && (decide (xX8_within (nI j) 48 51 = 0) || decide (¬ nI j = 46))) = true := by decide +kernel
theorem s_at {j : Nat} (h : j < 127) : xX8_isPerson (nI j - 65) = xX8_within (nI j) 65 72 ∧ xX8_isReader (nI j - 48) = xX8_within (nI j) 48 51 ∧ xX8_isCell (nI j - 97) = xX8_within (nI j) 97 108 ∧ (¬ xX8_within (nI j) 65 72 = 0 → xX8_within (nI j) 48 51 = 0 ∧ ¬ nI j = 46) ∧ (¬ xX8_within (nI j) 48 51 = 0 → ¬ nI j = 46) := by
  have a := List.all_eq_true.mp s_tab j (List.mem_range.mpr h)
  simp only [Bool.and_eq_true, Bool.or_eq_true, decide_eq_true_eq] at a
  exact ⟨a.1.1.1.1, a.1.1.1.2, a.1.1.2, fun q => a.1.2.resolve_left q, fun q => a.2.resolve_left q⟩
/-- the class's look at one act -/
theorem fo_p {S : St} {p c0 c1 c2 : Int32} (z0 : xX4_signAt S p = some c0) (z1 : xX4_signAt S (p + 1) = some c1) (z2 : xX4_signAt S (p + 2) = some c2) (h46 : ¬ c0 = 46) (hP : ¬ xX8_isPerson (c0 - 65) = 0) : xX4_faultOfAct S p = some (if c1 = 62 then (if xX8_isPerson (c2 - 65) = 0 then p + 2 else -6) else if c1 = 64 then (if xX8_isCell (c2 - 97) = 0 then p + 2 else -6) else p + 1) ∧ xX4_signsOfAct S p = some 3 := by
  constructor
  · unfold xX4_faultOfAct xX4_faultOfPersonsAct
    rw [z0, z1, z2]
    simp only [Option.bind_some, if_neg h46, if_neg hP]
    by_cases a : c1 = 62
    · by_cases b : xX8_isPerson (c2 - 65) = 0
      · simp only [if_pos a, if_pos b, Option.bind_some]
      · simp only [if_pos a, if_neg b, Option.bind_some]
    · by_cases d : c1 = 64
      · by_cases b : xX8_isCell (c2 - 97) = 0
        · simp only [if_neg a, if_pos d, if_pos b, Option.bind_some]
        · simp only [if_neg a, if_pos d, if_neg b, Option.bind_some]
      · simp only [if_neg a, if_neg d, Option.bind_some]
  · unfold xX4_signsOfAct
    rw [z0]
    simp only [Option.bind_some, if_neg h46, if_neg hP]
theorem fo_r {S : St} {p c0 c1 c2 : Int32} (z0 : xX4_signAt S p = some c0) (z1 : xX4_signAt S (p + 1) = some c1) (z2 : xX4_signAt S (p + 2) = some c2) (h46 : ¬ c0 = 46) (hP : xX8_isPerson (c0 - 65) = 0) (hR : ¬ xX8_isReader (c0 - 48) = 0) : xX4_faultOfAct S p = some (if c1 = 62 then -6 else if c1 = 60 then -6 else if c1 = 63 then (if xX8_isPerson (c2 - 65) = 0 then p + 2 else -6) else p + 1) ∧ xX4_signsOfAct S p = some (if c1 = 63 then 3 else 2) := by
  constructor
  · unfold xX4_faultOfAct xX4_faultOfReadersAct
    rw [z0, z1, z2]
    simp only [Option.bind_some, if_neg h46, if_pos hP, if_neg hR]
    by_cases a : c1 = 62
    · simp only [if_pos a, Option.bind_some]
    · by_cases b : c1 = 60
      · simp only [if_neg a, if_pos b, Option.bind_some]
      · by_cases d : c1 = 63
        · by_cases f : xX8_isPerson (c2 - 65) = 0
          · simp only [if_neg a, if_neg b, if_pos d, if_pos f, Option.bind_some]
          · simp only [if_neg a, if_neg b, if_pos d, if_neg f, Option.bind_some]
        · simp only [if_neg a, if_neg b, if_neg d, Option.bind_some]
  · unfold xX4_signsOfAct
    rw [z0, z1]
    simp only [Option.bind_some, if_neg h46, if_pos hP]
    by_cases d : c1 = 63
    · simp only [if_pos d]
    · simp only [if_neg d]
theorem fo_d {S : St} {p : Int32} (z0 : xX4_signAt S p = some 46) : xX4_faultOfAct S p = some (-6) ∧ xX4_signsOfAct S p = some 1 := by
  unfold xX4_faultOfAct xX4_signsOfAct
  rw [z0]
  simp only [Option.bind_some, if_true, and_self]
theorem fo_n {S : St} {p c0 : Int32} (z0 : xX4_signAt S p = some c0) (h46 : ¬ c0 = 46) (hP : xX8_isPerson (c0 - 65) = 0) (hR : xX8_isReader (c0 - 48) = 0) : xX4_faultOfAct S p = some p := by
  unfold xX4_faultOfAct
  rw [z0]
  simp only [Option.bind_some, if_neg h46, if_pos hP, if_pos hR]
/-- the model's reading, sign by sign -/
def cl (B : St) (a : Nat) (k v : Int32) : St := q_su (q_su (q_su B 17 a k) 19 a v) 20 0 (nI (a + 1))
theorem x9_close {B : St} {a : Nat} (ha : a < 60) (h : B 20 0 = nI a) (k v : Int32) : xX9_close k v B = some (0, cl B a k v) := by
  unfold xX9_close cl
  have e1 : ∀ w, q_su B 17 a w 20 0 = nI a := fun w => by rw [su_row (by decide)]; exact h
  have e2 : ∀ w w', q_su (q_su B 17 a w) 19 a w' 20 0 = nI a := fun w w' => by rw [su_row (by decide), su_row (by decide)]; exact h
  simp only [h, if_pos (m_ib ha (show 60 < 2 ^ 31 by decide)), nI_clamp (show a < 2 ^ 31 by omega), q_let, e1, e2, nI_1]
theorem b_P {B : St} {a j : Nat} (ha : a < 60) (h : B 20 0 = nI a) (hP : ¬ xX8_within (nI j) 65 72 = 0) : xX9_readOn 0 (nI j) B = some (1, q_su B 18 a (nI j - 65)) := by
  unfold xX9_readOn xX9_begin xX9_begin_h55
  rw [m_in (nI j) (a := 65) (b := 72) (by decide +kernel) (by decide +kernel)]
  simp only [if_true, if_neg hP, h, if_pos (m_ib ha (show 60 < 2 ^ 31 by decide)), nI_clamp (show a < 2 ^ 31 by omega), q_let, Option.bind_some]
theorem b_R {B : St} {a j : Nat} (ha : a < 60) (h : B 20 0 = nI a) (hP : xX8_within (nI j) 65 72 = 0) (hR : ¬ xX8_within (nI j) 48 51 = 0) : xX9_readOn 0 (nI j) B = some (2, q_su B 18 a (nI j - 48)) := by
  unfold xX9_readOn xX9_begin xX9_begin_h55
  rw [m_in (nI j) (a := 65) (b := 72) (by decide +kernel) (by decide +kernel), m_in (nI j) (a := 48) (b := 51) (by decide +kernel) (by decide +kernel)]
  simp only [if_true, if_pos hP, if_neg hR, h, if_pos (m_ib ha (show 60 < 2 ^ 31 by decide)), nI_clamp (show a < 2 ^ 31 by omega), q_let, Option.bind_some]
theorem b_D {B : St} {a j : Nat} (ha : a < 60) (h : B 20 0 = nI a) (hP : xX8_within (nI j) 65 72 = 0) (hR : xX8_within (nI j) 48 51 = 0) (hD : nI j = 46) : xX9_readOn 0 (nI j) B = some (0, cl (q_su B 18 a 0) a 5 0) := by
  unfold xX9_readOn xX9_begin xX9_begin_h55
  rw [m_in (nI j) (a := 65) (b := 72) (by decide +kernel) (by decide +kernel), m_in (nI j) (a := 48) (b := 51) (by decide +kernel) (by decide +kernel)]
  have e : q_su B 18 a 0 20 0 = nI a := by rw [su_row (by decide)]; exact h
  simp only [if_true, if_pos hP, if_pos hR, if_pos hD, h, if_pos (m_ib ha (show 60 < 2 ^ 31 by decide)), nI_clamp (show a < 2 ^ 31 by omega), q_let, x9_close ha e, Option.bind_some]
theorem b_N {B : St} {a j : Nat} (ha : a < 60) (h : B 20 0 = nI a) (hP : xX8_within (nI j) 65 72 = 0) (hR : xX8_within (nI j) 48 51 = 0) (hD : ¬ nI j = 46) : xX9_readOn 0 (nI j) B = some (-6, q_su B 18 a 0) := by
  unfold xX9_readOn xX9_begin xX9_begin_h55
  rw [m_in (nI j) (a := 65) (b := 72) (by decide +kernel) (by decide +kernel), m_in (nI j) (a := 48) (b := 51) (by decide +kernel) (by decide +kernel)]
  simp only [if_true, if_pos hP, if_pos hR, if_neg hD, h, if_pos (m_ib ha (show 60 < 2 ^ 31 by decide)), nI_clamp (show a < 2 ^ 31 by omega), q_let, Option.bind_some]
theorem b_1 (B : St) (c : Int32) : xX9_readOn 1 c B = some (if c = 62 then 3 else if c = 64 then 4 else -6, B) := by
  unfold xX9_readOn xX9_deed
  rw [if_neg (show ¬ (1 : Int32) = 0 by decide), if_pos rfl]
  by_cases a : c = 62
  · simp only [if_pos a, Option.bind_some]
  · by_cases b : c = 64
    · simp only [if_neg a, if_pos b, Option.bind_some]
    · simp only [if_neg a, if_neg b, Option.bind_some]
theorem b_2 {B : St} {a : Nat} (ha : a < 60) (h : B 20 0 = nI a) (c : Int32) : xX9_readOn 2 c B = some (if c = 62 then (0, cl B a 2 0) else if c = 60 then (0, cl B a 3 0) else if c = 63 then (5, B) else (-6, B)) := by
  unfold xX9_readOn xX9_step
  rw [if_neg (show ¬ (2 : Int32) = 0 by decide), if_neg (show ¬ (2 : Int32) = 1 by decide), if_pos rfl, x9_close ha h, x9_close ha h]
  by_cases a : c = 62
  · simp only [if_pos a, Option.bind_some]
  · by_cases b : c = 60
    · simp only [if_neg a, if_pos b, Option.bind_some]
    · by_cases d : c = 63
      · simp only [if_neg a, if_neg b, if_pos d, Option.bind_some]
      · simp only [if_neg a, if_neg b, if_neg d, Option.bind_some]
theorem b_3 {B : St} {a j : Nat} (ha : a < 60) (h : B 20 0 = nI a) : xX9_readOn 3 (nI j) B = some (if xX8_within (nI j) 65 72 = 0 then (-6, B) else (0, cl B a 0 (nI j - 65))) := by
  unfold xX9_readOn xX9_readOn_h108
  rw [if_neg (show ¬ (3 : Int32) = 0 by decide), if_neg (show ¬ (3 : Int32) = 1 by decide), if_neg (show ¬ (3 : Int32) = 2 by decide), if_pos rfl, m_in (nI j) (a := 65) (b := 72) (by decide +kernel) (by decide +kernel), x9_close ha h]
  by_cases a : xX8_within (nI j) 65 72 = 0
  · simp only [if_pos a]
  · simp only [if_neg a, if_true, Option.bind_some]
theorem b_4 {B : St} {a j : Nat} (ha : a < 60) (h : B 20 0 = nI a) : xX9_readOn 4 (nI j) B = some (if xX8_within (nI j) 97 108 = 0 then (-6, B) else (0, cl B a 1 (nI j - 97))) := by
  unfold xX9_readOn
  rw [if_neg (show ¬ (4 : Int32) = 0 by decide), if_neg (show ¬ (4 : Int32) = 1 by decide), if_neg (show ¬ (4 : Int32) = 2 by decide), if_neg (show ¬ (4 : Int32) = 3 by decide), if_pos rfl, m_in (nI j) (a := 97) (b := 108) (by decide +kernel) (by decide +kernel), x9_close ha h]
  by_cases a : xX8_within (nI j) 97 108 = 0
  · simp only [if_pos a]
  · simp only [if_neg a, Option.bind_some]
theorem b_5 {B : St} {a j : Nat} (ha : a < 60) (h : B 20 0 = nI a) : xX9_readOn 5 (nI j) B = some (if xX8_within (nI j) 65 72 = 0 then (-6, B) else (0, cl B a 4 (nI j - 65))) := by
  unfold xX9_readOn xX9_readOn_h108
  rw [if_neg (show ¬ (5 : Int32) = 0 by decide), if_neg (show ¬ (5 : Int32) = 1 by decide), if_neg (show ¬ (5 : Int32) = 2 by decide), if_neg (show ¬ (5 : Int32) = 3 by decide), if_neg (show ¬ (5 : Int32) = 4 by decide), if_neg (show ¬ (5 : Int32) = 3 by decide), m_in (nI j) (a := 65) (b := 72) (by decide +kernel) (by decide +kernel), x9_close ha h]
  by_cases a : xX8_within (nI j) 65 72 = 0
  · simp only [if_pos a]
  · simp only [if_neg a, Option.bind_some]
theorem f9_end {B : St} {n : Nat} (hn : n ≤ 60) (h : B 16 0 = nI n) (f : Nat) (due : Int32) : xX9_fault_h9 (f + 1) due (nI n) B = some (if due = 0 then -6 else nI n, B) := by
  rw [xX9_fault_h9_s, h, if_pos (nI_le (Nat.le_refl n) (by omega))]
  split <;> rfl
theorem f9_go {B : St} {n i j : Nat} (hn : n ≤ 60) (h : B 16 0 = nI n) (hi : i < n) (h15 : B 15 i = nI j) (f : Nat) (due : Int32) : xX9_fault_h9 (f + 1) due (nI i) B = (xX9_readOn due (nI j) B).bind fun q5 => (if 0 ≤ q5.1 then (xX9_fault_h9 f q5.1 (nI (i + 1)) q5.2) else (some (nI i, q5.2))) := by
  rw [xX9_fault_h9_s, h, if_neg (nI_ge hi (by omega)), if_pos (m_ib (show i < 60 by omega) (by decide)), nI_clamp (show i < 2 ^ 31 by omega), h15, nI_1]
/-- what reading leaves as it was -/
def kq (a : Nat) (B B' : St) : Prop := (∀ q, q ≠ 17 → q ≠ 18 → q ≠ 19 → q ≠ 20 → B' q = B q) ∧ (∀ j, j < a → B' 17 j = B 17 j ∧ B' 18 j = B 18 j ∧ B' 19 j = B 19 j)
theorem kq_w (a : Nat) (B : St) (v : Int32) : kq a B (q_su B 18 a v) := ⟨fun q _ h _ _ => su_row h, fun j hj => ⟨by rw [su_row (by decide)], by rw [su_at, if_neg (by omega)], by rw [su_row (by decide)]⟩⟩
theorem kq_cl {a : Nat} {B B1 : St} (h : kq a B B1) (k v : Int32) : kq a B (cl B1 a k v) := by
  unfold cl
  refine ⟨fun q h1 h2 h3 h4 => by rw [su_row h4, su_row h3, su_row h1]; exact h.1 q h1 h2 h3 h4, fun j hj => ⟨?_, ?_, ?_⟩⟩
  · rw [su_row (by decide), su_row (by decide), su_at, if_neg (by omega)]; exact (h.2 j hj).1
  · rw [su_row (by decide), su_row (by decide), su_row (by decide)]; exact (h.2 j hj).2.1
  · rw [su_row (by decide), su_at, if_neg (by omega), su_row (by decide)]; exact (h.2 j hj).2.2
theorem cl_17 (B : St) (a : Nat) (k v : Int32) : cl B a k v 17 a = k := by unfold cl; rw [su_row (by decide), su_row (by decide)]; simp [su_at]
theorem cl_18 (B : St) (a : Nat) (k v : Int32) : cl B a k v 18 a = B 18 a := by unfold cl; rw [su_row (by decide), su_row (by decide), su_row (by decide)]
theorem cl_19 (B : St) (a : Nat) (k v : Int32) : cl B a k v 19 a = v := by unfold cl; rw [su_row (by decide)]; simp [su_at]
theorem cl_20 (B : St) (a : Nat) (k v : Int32) : cl B a k v 20 0 = nI (a + 1) := by unfold cl; simp [su_at]
/-- an act of the text that stands from p up to p', as the model has it -/
def actP (S : St) (p p' : Nat) (k w v : Int32) : Prop := p < p' ∧ xX4_signsOfAct S (nI p) = some (nI (p' - p)) ∧ ∀ C, ∃ C', xX4_actAt S (nI p) C = some C' ∧ AR (C' 0 0) (C' 1 0) (C' 2 0) k w v
def flt (S B B' : St) (n a i : Nat) (r : Int32) : Prop := kq a B B' ∧ (r = -6 ∨ 0 ≤ r) ∧ (r = -6 → ∃ N, ∃ ps : Nat → Nat, a ≤ N ∧ N ≤ 60 ∧ B' 20 0 = nI N ∧ ps a = i ∧ ps N = n ∧ ∀ e, a ≤ e → e < N → ps e < n ∧ actP S (ps e) (ps (e + 1)) (B' 17 e) (B' 18 e) (B' 19 e))
theorem flt_bad {S B B' : St} {n a i : Nat} {r : Nat} (hr : r < 100) (h : kq a B B') : flt S B B' n a i (nI r) := ⟨h, Or.inr (nI_pos' (by omega)), fun q => by
  have h1 : 0 ≤ nI r := nI_pos' (by omega)
  rw [q] at h1
  exact absurd h1 (by decide)⟩
theorem flt_cons {S B B1 B' : St} {n a i i' : Nat} {r : Int32} (hk : kq a B B1) (hi : i < n) (ha : actP S i i' (B1 17 a) (B1 18 a) (B1 19 a)) (h : flt S B1 B' n (a + 1) i' r) : flt S B B' n a i r := by
  obtain ⟨h1, h2, h3⟩ := h
  refine ⟨⟨fun q a1 a2 a3 a4 => by rw [h1.1 q a1 a2 a3 a4, hk.1 q a1 a2 a3 a4], fun j hj => ?_⟩, h2, fun hr => ?_⟩
  · obtain ⟨b1, b2, b3⟩ := h1.2 j (by omega)
    rw [b1, b2, b3]
    exact hk.2 j hj
  · obtain ⟨N, ps, g1, g2, g3, g4, g5, g6⟩ := h3 hr
    refine ⟨N, fun e => if e = a then i else ps e, by omega, g2, g3, by simp, ?_, fun e he1 he2 => ?_⟩
    · simp only [if_neg (show ¬ N = a by omega)]; exact g5
    · simp only [if_neg (show ¬ e + 1 = a by omega)]
      by_cases hea : e = a
      · subst hea
        rw [if_pos rfl, g4]
        obtain ⟨b1, b2, b3⟩ := h1.2 e (by omega)
        rw [b1, b2, b3]
        exact ⟨hi, ha⟩
      · rw [if_neg hea]
        exact g6 e (by omega) he2
theorem m_C {x : Int32} (h : ¬ xX8_isCell x = 0) : ∃ j, j < 12 ∧ x = nI j := by
  obtain ⟨j, h1, h2⟩ := m_nat (n := 11) (by decide) (m_w1 h)
  exact ⟨j, by omega, h2⟩
