/-! PURE: nets: the class's 81 places and the model's 256 codes -/
def ct (P : Nat → Bool) : Nat → Nat
  | 0 => 0
  | n + 1 => ct P n + (if P n then 1 else 0)
theorem ct_s (P : Nat → Bool) (n : Nat) : ct P (n + 1) = ct P n + (if P n then 1 else 0) := rfl
theorem ct_le (P : Nat → Bool) (n : Nat) : ct P n ≤ n := by
  induction n with
  | zero => exact Nat.le_refl 0
  | succ n ih => rw [ct_s]; split <;> omega
theorem ct_mono (P : Nat → Bool) {m n : Nat} (h : m ≤ n) : ct P m ≤ ct P n := by
  induction n with
  | zero => rw [show m = 0 by omega]; exact Nat.le_refl _
  | succ n ih =>
    by_cases e : m = n + 1
    · rw [e]; exact Nat.le_refl _
    · have := ih (by omega)
      rw [ct_s]
      split <;> omega
theorem ct_yes {P : Nat → Bool} {n : Nat} (h : P n = true) : ct P (n + 1) = ct P n + 1 := by rw [ct_s, if_pos h]
theorem ct_no {P : Nat → Bool} {n : Nat} (h : ¬ P n = true) : ct P (n + 1) = ct P n := by rw [ct_s, if_neg h]; rfl
theorem ct_lt {P : Nat → Bool} {u n : Nat} (h : P u = true) (hu : u < n) : ct P u < ct P n := by
  have a := ct_mono P (show u + 1 ≤ n by omega)
  rw [ct_yes h] at a
  omega
theorem ct_hit {P : Nat → Bool} {j : Nat} (n : Nat) (h : j < ct P n) : ∃ t, t < n ∧ P t = true ∧ ct P t = j := by
  induction n with
  | zero => exact absurd h (Nat.not_lt_zero j)
  | succ n ih =>
    by_cases hp : P n = true
    · rw [ct_yes hp] at h
      by_cases e : j = ct P n
      · exact ⟨n, by omega, hp, e.symm⟩
      · obtain ⟨t, h1, h2, h3⟩ := ih (by omega)
        exact ⟨t, by omega, h2, h3⟩
    · rw [ct_no hp] at h
      obtain ⟨t, h1, h2, h3⟩ := ih h
      exact ⟨t, by omega, h2, h3⟩
theorem ct_congr {P Q : Nat → Bool} {n : Nat} (h : ∀ u, u < n → P u = Q u) : ct P n = ct Q n := by
  induction n with
  | zero => rfl
  | succ n ih => rw [ct_s, ct_s, ih (fun u hu => h u (by omega)), h n (by omega)]
def ow (net k : Nat) : Nat := net / 4 ^ (3 - k) % 4
def am (t k : Nat) : Nat := if t / 3 ^ (3 - k) % 3 < k then t / 3 ^ (3 - k) % 3 else t / 3 ^ (3 - k) % 3 + 1
def cd (t : Nat) : Nat := 64 * am t 0 + 16 * am t 1 + 4 * am t 2 + am t 3
def vl (net : Nat) : Bool := decide (¬ ow net 0 = 0) && decide (¬ ow net 1 = 1) && decide (¬ ow net 2 = 2) && decide (¬ ow net 3 = 3)
def tkn (net p : Nat) : Nat := bn (fun k => decide (ow net k = p)) 4
def bcF (s th : Nat) (k n : Nat) : Nat := if s.testBit k = true ∧ th.testBit k = true then n + 1 else n
def bc4 (s th : Nat) : Nat := fN (bcF s th) 4 0
theorem bc_le (s th n : Nat) : fN (bcF s th) n 0 ≤ n := by
  induction n with
  | zero => rw [fN_0]; exact Nat.le_refl 0
  | succ n ih =>
    rw [fN_s]
    generalize fN (bcF s th) n 0 = z at ih ⊢
    unfold bcF
    split <;> omega
theorem bc4_le (s th : Nat) : bc4 s th ≤ 4 := bc_le s th 4
theorem tkn_lt (net p : Nat) : tkn net p < 16 := bn_lt _ 4
set_option maxRecDepth 100000 in
theorem ow_tab : (List.range 256).all (fun net => (List.range 4).all fun k => decide (xX9_ofWhom (nI net) (nI k) = nI (ow net k))) = true := by decide +kernel
theorem ow_at {net k : Nat} (hn : net < 256) (hk : k < 4) : xX9_ofWhom (nI net) (nI k) = nI (ow net k) := of_decide_eq_true (List.all_eq_true.mp (List.all_eq_true.mp ow_tab net (List.mem_range.mpr hn)) k (List.mem_range.mpr hk))
theorem ow_lt (net k : Nat) : ow net k < 4 := Nat.mod_lt _ (by decide)
set_option maxRecDepth 100000 in
theorem rk_tab : (List.range 256).all (fun net => !(vl net) || (decide (cd (ct vl net) = net) && decide (ct vl net < 81))) = true := by decide +kernel
theorem rk_at {net : Nat} (hn : net < 256) (h : vl net = true) : cd (ct vl net) = net ∧ ct vl net < 81 := by
  have a := List.all_eq_true.mp rk_tab net (List.mem_range.mpr hn)
  simp only [h, Bool.not_true, Bool.false_or, Bool.and_eq_true, decide_eq_true_eq] at a
  exact a
theorem rk_all : ct vl 256 = 81 := by decide +kernel
set_option maxRecDepth 100000 in
theorem th_tab2 : (List.range 81).all (fun t => (List.range 4).all fun p => decide (xX2_thinkersOf (nI t) (nI p) = some (nI (tkn (cd t) p)))) = true := by decide +kernel
theorem tk_at {t p : Nat} (ht : t < 81) (hp : p < 4) : xX2_thinkersOf (nI t) (nI p) = some (nI (tkn (cd t) p)) := of_decide_eq_true (List.all_eq_true.mp (List.all_eq_true.mp th_tab2 t (List.mem_range.mpr ht)) p (List.mem_range.mpr hp))
set_option maxRecDepth 100000 in
theorem bc_tab2 : (List.range 16).all (fun s => (List.range 16).all fun th => decide (xJ6_bitCount_0f7a4 (nI s &&& nI th) = nI (bc4 s th))) = true := by decide +kernel
theorem bc4_at {s th : Nat} (hs : s < 16) (ht : th < 16) : xJ6_bitCount_0f7a4 (nI s &&& nI th) = nI (bc4 s th) := of_decide_eq_true (List.all_eq_true.mp (List.all_eq_true.mp bc_tab2 s (List.mem_range.mpr hs)) th (List.mem_range.mpr ht))
theorem x9_tho {net s p : Nat} (hn : net < 256) (hs : s < 16) (hp : p < 4) : xX9_thinkOf (nI net) (nI s) (nI p) = some (nI (bc4 s (tkn net p))) := by
  unfold xX9_thinkOf bc4
  refine lp_c (fun n b k => xX9_thinkOf_h5 (nI net) (nI s) (nI p) n (nI b) (nI k)) (bcF s (tkn net p)) (fun b => some (nI b)) 4 (fun _ _ => True) 0 (fun n k b hk _ => ⟨?_, trivial⟩) (fun n b _ => ?_) trivial 5000 (by decide)
  · have ho := ow_lt net k
    rw [xX9_thinkOf_h5_s, if_neg (n4 hk), x9_has (show s < 256 by omega) (show k < 8 by omega), ow_at hn hk, ad_0, nI_1, nI_1]
    have hb : (tkn net p).testBit k = decide (ow net k = p) := bn_bit _ _ k hk
    have hb' : (tkn net p).testBit k = true ↔ ow net k = p := by rw [hb]; exact decide_eq_true_iff
    unfold bcF
    have e : (nI (ow net k) = nI p) ↔ ow net k = p := nI_eq (by omega) (by omega)
    by_cases h1 : s.testBit k = true
    · by_cases h2 : ow net k = p
      · rw [if_pos h1, if_neg (show ¬ (1 : Int32) = 0 by decide), if_pos (e.mpr h2), if_pos ⟨h1, hb'.mpr h2⟩]
      · rw [if_pos h1, if_neg (show ¬ (1 : Int32) = 0 by decide), if_neg (fun q => h2 (e.mp q)), if_neg (fun q => h2 (hb'.mp q.2))]
    · rw [if_neg h1, if_pos rfl, if_neg (fun q => h1 q.1)]
  · rw [xX9_thinkOf_h5_s, if_pos (by decide)]
/-- what was seen, as natural numbers -/
def sN (S : St) (r e : Nat) : Nat := (S r e).toNatClampNeg
def FT (S : St) (N net : Nat) : Prop := ∀ e, e < N → bc4 (sN S 0 e) (tkn net (sN S 1 e)) = sN S 2 e
theorem sN_of {S : St} {r e n : Nat} {a b : Int32} (ha : 0 ≤ a) (hb : b.toInt = n) (h : a ≤ S r e ∧ S r e ≤ b) : sN S r e ≤ n ∧ S r e = nI (sN S r e) := by
  obtain ⟨j, hj, ej⟩ := m_nat hb ⟨by
    have := h.1
    rw [fa_le] at this ha ⊢
    omega, h.2⟩
  have hl : j < 2 ^ 31 := by
    have h1 := Int32.toInt_lt b
    omega
  unfold sN
  rw [ej, nI_clamp hl]
  exact ⟨hj, rfl⟩
def sgN (S : St) (N : Nat) : Prop := N ≤ 8 ∧ S 3 0 = nI N ∧ ∀ e, e < N → (sN S 0 e < 16 ∧ S 0 e = nI (sN S 0 e)) ∧ (sN S 1 e < 4 ∧ S 1 e = nI (sN S 1 e)) ∧ (sN S 2 e < 4 ∧ S 2 e = nI (sN S 2 e))
theorem sg_N {S M : St} (h : sg S M) : ∃ N, sgN S N := by
  obtain ⟨-, -, n, hn, h3, h4⟩ := h
  refine ⟨n, hn, h3, fun e he => ?_⟩
  obtain ⟨a, b, c⟩ := h4 e he
  have a' := sN_of (n := 15) (by decide) (by decide) a
  have b' := sN_of (n := 3) (by decide) (by decide) b
  have c' := sN_of (n := 3) (by decide) (by decide) c
  exact ⟨⟨by omega, a'.2⟩, ⟨by omega, b'.2⟩, ⟨by omega, c'.2⟩⟩
noncomputable def ftB (S : St) (N : Nat) (net : Nat) : Bool := @decide (FT S N net) (Classical.propDecidable _)
theorem ftB_yes {S : St} {N net : Nat} : ftB S N net = true ↔ FT S N net := by unfold ftB; exact @decide_eq_true_iff _ (Classical.propDecidable _)
/-- the class: does a net fit -/
theorem x7_allow {S : St} {N t : Nat} (h : sgN S N) (ht : t < 81) : xX7_allow S (nI t) = some (if ftB S N (cd t) = true then 1 else 0) := by
  obtain ⟨hN, h3, h4⟩ := h
  unfold xX7_allow
  have key : ∀ d e fuel, e + d = N → d < fuel → (∀ j, j < e → bc4 (sN S 0 j) (tkn (cd t) (sN S 1 j)) = sN S 2 j) → xX7_allow_h2 S (nI t) fuel (nI e) = some (if ftB S N (cd t) = true then 1 else 0) := by
    intro d
    induction d with
    | zero =>
      intro e fuel he hf hj
      obtain ⟨q, rfl⟩ : ∃ q, fuel = q + 1 := ⟨fuel - 1, by omega⟩
      obtain rfl : e = N := by omega
      rw [xX7_allow_h2_s, h3, if_pos (nI_le (Nat.le_refl e) (by omega)), if_pos (ftB_yes.mpr hj)]
    | succ d ih =>
      intro e fuel he hf hj
      obtain ⟨q, rfl⟩ : ∃ q, fuel = q + 1 := ⟨fuel - 1, by omega⟩
      have heN : e < N := by omega
      obtain ⟨⟨a1, a2⟩, ⟨b1, b2⟩, ⟨c1, c2⟩⟩ := h4 e heN
      have hbl := bc4_le (sN S 0 e) (tkn (cd t) (sN S 1 e))
      rw [xX7_allow_h2_s, h3, if_neg (nI_ge heN (by omega)), if_neg (n8 (show e < 8 by omega)), if_pos (m_ib (show e < 8 by omega) (by decide)), nI_clamp (show e < 2 ^ 31 by omega), b2, tk_at ht b1, Option.bind_some, a2, bc4_at a1 (tkn_lt _ _), c2, nI_1]
      by_cases hc : bc4 (sN S 0 e) (tkn (cd t) (sN S 1 e)) = sN S 2 e
      · rw [if_pos (by rw [hc])]
        refine ih (e + 1) q (by omega) (by omega) (fun j hj' => ?_)
        by_cases ej : j = e
        · rw [ej]; exact hc
        · exact hj j (by omega)
      · rw [if_neg (fun q => hc ((nI_eq (by omega) (by omega)).mp q)), if_neg (fun q => hc (ftB_yes.mp q e heN))]
  exact key N 0 5000 (by omega) (by omega) (fun j hj => by omega)
/-- the model: does a net fit -/
theorem x9_fit0 {B : St} {N : Nat} (hN : N ≤ 8) (h14 : B 14 0 = nI N) (p0 : Int32) : ∀ d e fuel, e + d = N → d < fuel → xX9_isFit_h36 B p0 fuel 0 (nI e) = some 0 := by
  intro d
  induction d with
  | zero =>
    intro e fuel he hf
    obtain ⟨q, rfl⟩ : ∃ q, fuel = q + 1 := ⟨fuel - 1, by omega⟩
    obtain rfl : e = N := by omega
    rw [xX9_isFit_h36_s, h14, if_pos (nI_le (Nat.le_refl e) (by omega)), if_pos (by decide)]
  | succ d ih =>
    intro e fuel he hf
    obtain ⟨q, rfl⟩ : ∃ q, fuel = q + 1 := ⟨fuel - 1, by omega⟩
    rw [xX9_isFit_h36_s, h14, if_neg (nI_ge (show e < N by omega) (by omega)), if_pos rfl, nI_1]
    exact ih (e + 1) q (by omega) (by omega)
theorem x9_fit1 {S B : St} {N net : Nat} (h : sgN S N) (g : sg S B) (hn : net < 256) : ∀ d e fuel, e + d = N → d < fuel → (∀ j, j < e → bc4 (sN S 0 j) (tkn net (sN S 1 j)) = sN S 2 j) → xX9_isFit_h36 B (nI net) fuel 1 (nI e) = some (if ftB S N net = true then 1 else 0) := by
  obtain ⟨hN, h3, h4⟩ := h
  have h14 : B 14 0 = nI N := by rw [← g.1, h3]
  intro d
  induction d with
  | zero =>
    intro e fuel he hf hj
    obtain ⟨q, rfl⟩ : ∃ q, fuel = q + 1 := ⟨fuel - 1, by omega⟩
    obtain rfl : e = N := by omega
    rw [xX9_isFit_h36_s, h14, if_pos (nI_le (Nat.le_refl e) (by omega)), if_pos (by decide), if_pos (ftB_yes.mpr hj)]
  | succ d ih =>
    intro e fuel he hf hj
    obtain ⟨q, rfl⟩ : ∃ q, fuel = q + 1 := ⟨fuel - 1, by omega⟩
    have heN : e < N := by omega
    obtain ⟨⟨a1, a2⟩, ⟨b1, b2⟩, ⟨c1, c2⟩⟩ := h4 e heN
    obtain ⟨g1, g2, g3⟩ := g.2.1 e (by omega)
    have hbl := bc4_le (sN S 0 e) (tkn net (sN S 1 e))
    rw [xX9_isFit_h36_s, h14, if_neg (nI_ge heN (by omega)), if_neg (show ¬ (1 : Int32) = 0 by decide), if_pos (m_ib (show e < 8 by omega) (by decide)), nI_clamp (show e < 2 ^ 31 by omega), ← g1, ← g2, ← g3, a2, b2, c2, x9_tho hn a1 b1, Option.bind_some, nI_1]
    by_cases hc : bc4 (sN S 0 e) (tkn net (sN S 1 e)) = sN S 2 e
    · rw [if_pos (by rw [hc])]
      refine ih (e + 1) q (by omega) (by omega) (fun j hj' => ?_)
      by_cases ej : j = e
      · rw [ej]; exact hc
      · exact hj j (by omega)
    · rw [if_neg (fun q => hc ((nI_eq (by omega) (by omega)).mp q)), if_neg (fun q => hc (ftB_yes.mp q e heN))]
      exact x9_fit0 hN h14 (nI net) d (e + 1) q (by omega) (by omega)
def vF (net k : Nat) (b : Int32) : Int32 := if b = 0 then 0 else if ow net k = k then 0 else 1
theorem vF_4 (net : Nat) : fN (vF net) 4 1 = if vl net = true then 1 else 0 := by
  rw [fN_s, fN_s, fN_s, fN_s, fN_0]
  unfold vF vl
  by_cases h0 : ow net 0 = 0 <;> by_cases h1 : ow net 1 = 1 <;> by_cases h2 : ow net 2 = 2 <;> by_cases h3 : ow net 3 = 3 <;> simp [h0, h1, h2, h3]
theorem x9_fit {S B : St} {N net : Nat} (h : sgN S N) (g : sg S B) (hn : net < 256) : xX9_isFit B (nI net) = some (if vl net = true ∧ ftB S N net = true then 1 else 0) := by
  have h14 : B 14 0 = nI N := by rw [← g.1, h.2.1]
  have e : xX9_isFit B (nI net) = xX9_isFit_h36 B (nI net) 5000 (fN (vF net) 4 1) 0 := by
    unfold xX9_isFit
    refine lp_c (fun n b k => xX9_isFit_h4 B (nI net) n b (nI k)) (vF net) (fun b => xX9_isFit_h36 B (nI net) 5000 b 0) 4 (fun _ _ => True) 1 (fun n k b hk _ => ⟨?_, trivial⟩) (fun n b _ => ?_) trivial 5000 (by decide)
    · have ho := ow_lt net k
      have ee : (nI (ow net k) = nI k) ↔ ow net k = k := nI_eq (by omega) (by omega)
      rw [xX9_isFit_h4_s, if_neg (n4 hk), ow_at hn hk, nI_1]
      unfold vF
      by_cases hb : b = 0
      · rw [if_pos hb, if_pos hb]
      · rw [if_neg hb, if_neg hb]
        by_cases hw : ow net k = k
        · rw [if_pos (ee.mpr hw), if_pos hw]
        · rw [if_neg (fun q => hw (ee.mp q)), if_neg hw]
    · rw [xX9_isFit_h4_s, if_pos (by decide)]
  rw [e, vF_4]
  by_cases hv : vl net = true
  · rw [if_pos hv]
    have k := x9_fit1 h g hn N 0 5000 (by omega) (by have := h.1; omega) (fun j hj => by omega)
    rw [nI_0] at k
    rw [k]
    by_cases hf : ftB S N net = true
    · rw [if_pos hf, if_pos ⟨hv, hf⟩]
    · rw [if_neg hf, if_neg (fun q => hf q.2)]
  · rw [if_neg hv, if_neg (fun q => hv q.1)]
    have k := x9_fit0 h.1 h14 (nI net) N 0 5000 (by omega) (by have := h.1; omega)
    rw [nI_0] at k
    exact k
