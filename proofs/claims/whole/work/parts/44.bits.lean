/-! PURE: small sets as numbers; reads of readers, of figures -/
set_option maxRecDepth 100000 in
theorem bit_or : ∀ k, k < 12 → ∀ m, m < 2 ^ k → nI m ||| q_shl 1 (nI k) = nI (m + 2 ^ k) := by decide +kernel
set_option maxRecDepth 100000 in
theorem bit_has : ∀ m, m < 256 → ∀ k, k < 8 → (q_shr (nI m) (nI k) &&& 1 = 1 ↔ m.testBit k = true) := by decide +kernel
/-- the number of a set told by a test -/
def bn (c : Nat → Bool) : Nat → Nat
  | 0 => 0
  | n + 1 => bn c n + (if c n then 2 ^ n else 0)
theorem bn_lt (c : Nat → Bool) (n : Nat) : bn c n < 2 ^ n := by
  induction n with
  | zero => simp [bn]
  | succ n ih =>
    simp only [bn]
    have : 2 ^ (n + 1) = 2 ^ n + 2 ^ n := by rw [Nat.pow_succ]; omega
    split <;> omega
theorem bn_bit (c : Nat → Bool) (n : Nat) : ∀ k, k < n → (bn c n).testBit k = c k := by
  induction n with
  | zero => intro k hk; omega
  | succ n ih =>
    intro k hk
    simp only [bn]
    have hl := bn_lt c n
    by_cases hc : c n = true
    · rw [if_pos hc]
      by_cases hkn : k = n
      · subst hkn
        rw [Nat.add_comm, Nat.testBit_two_pow_add_eq, Nat.testBit_lt_two_pow hl, hc]; rfl
      · rw [Nat.add_comm, Nat.testBit_two_pow_add_gt (by omega)]
        exact ih k (by omega)
    · rw [if_neg hc, Nat.add_zero]
      by_cases hkn : k = n
      · subst hkn
        rw [Nat.testBit_lt_two_pow hl]
        simpa using hc
      · exact ih k (by omega)
theorem bn_congr {c d : Nat → Bool} {n : Nat} (h : ∀ k, k < n → c k = d k) : bn c n = bn d n := by
  induction n with
  | zero => rfl
  | succ n ih => simp only [bn]; rw [ih (fun k hk => h k (by omega)), h n (by omega)]
theorem bn_fold (c : Nat → Bool) (f : Nat → Int32 → Int32) {N : Nat} (hN : N ≤ 12) (hf : ∀ k b, k < N → f k b = if c k then b ||| q_shl 1 (nI k) else b) : fN f N 0 = nI (bn c N) := by
  induction N with
  | zero => rfl
  | succ n ih =>
    show f n (fN f n 0) = nI (bn c n + if c n then 2 ^ n else 0)
    rw [hf n _ (by omega), ih (by omega) (fun k b hk => hf k b (by omega))]
    by_cases hc : c n = true
    · rw [if_pos hc, if_pos hc]
      exact bit_or n (by omega) _ (bn_lt c n)
    · rw [if_neg hc, if_neg hc, Nat.add_zero]
def lyc (A : St) (k : Nat) : Bool := decide (¬ A 2 k = -6)
theorem ly_bn (A : St) : ly A = nI (bn (lyc A) 8) := bn_fold (lyc A) (lyF A) (by decide) (fun k b _ => by
  unfold lyF lyc
  by_cases h : A 2 k = -6 <;> simp [h])
/-- figures of a set of stones -/
def fgF (A : St) (m : Nat) (k : Nat) (b : Int32) : Int32 := if m.testBit k = true then b + A 4 k else b
def fg (A : St) (m : Nat) : Int32 := fN (fgF A m) 8 0
theorem x5_fig (A : St) {m : Nat} (hm : m < 256) : xX5_figuresOf A (nI m) = some (fg A m) := by
  unfold xX5_figuresOf fg
  refine lp_c (fun n b k => xX5_figuresOf_h4 A (nI m) n b (nI k)) (fgF A m) (fun b => some b) 8 (fun _ _ => True) 0 (fun n k b hk _ => ⟨?_, trivial⟩) (fun n b _ => ?_) trivial 5000 (by decide)
  · rw [xX5_figuresOf_h4_s, if_neg (n8 hk), if_pos (m_ib hk (by decide)), nI_clamp (show k < 2 ^ 31 by omega), nI_1]
    unfold fgF
    by_cases h : m.testBit k = true
    · rw [if_pos ((bit_has m hm k hk).mpr h), if_pos h]
    · rw [if_neg (fun q => h ((bit_has m hm k hk).mp q)), if_neg h]
  · rw [xX5_figuresOf_h4_s, if_pos (by decide)]
theorem x9_has {m : Nat} (hm : m < 256) {k : Nat} (hk : k < 8) : xX9_has (nI m) (nI k) = if m.testBit k = true then 1 else 0 := by
  unfold xX9_has
  by_cases h : m.testBit k = true
  · rw [if_pos ((bit_has m hm k hk).mpr h), if_pos h]
  · rw [if_neg (fun q => h ((bit_has m hm k hk).mp q)), if_neg h]
theorem x9_fig (A : St) {m : Nat} (hm : m < 256) : xX9_figuresOf A (nI m) = some (fg A m) := by
  unfold xX9_figuresOf fg
  refine lp_c (fun n b k => xX9_figuresOf_h4 A (nI m) n b (nI k)) (fgF A m) (fun b => some b) 8 (fun _ _ => True) 0 (fun n k b hk _ => ⟨?_, trivial⟩) (fun n b _ => ?_) trivial 5000 (by decide)
  · rw [xX9_figuresOf_h4_s, if_neg (n8 hk), x9_has hm hk, if_pos (m_ib hk (by decide)), nI_clamp (show k < 2 ^ 31 by omega), nI_1, ad_0]
    unfold fgF
    by_cases h : m.testBit k = true
    · rw [if_pos h, if_neg (by decide), if_pos h]
    · rw [if_neg h, if_pos rfl, if_neg h]
  · rw [xX9_figuresOf_h4_s, if_pos (by decide)]
theorem fg_pe {A B : St} (h : pe A B) (m : Nat) : fg A m = fg B m := fN_congr (fun k b hk => by unfold fgF; rw [h.1 4 k (by omega) hk]) 0
theorem fg_ly {A : St} (h : ok A) : fg A (bn (lyc A) 8) = sm A 4 := fN_congr (fun k b hk => by
  unfold fgF smF
  rw [bn_bit _ _ k hk]
  unfold lyc
  rcases h.2.2.1 k hk with h1 | h1
  · simp [h1.1, h1.2.2]
  · have : ¬ A 2 k = -6 := by
      intro e
      have a := h1.1
      rw [e] at a
      exact absurd a (by decide)
    simp [this]) 0
theorem x5_figs {A : St} (h : ok A) : xX5_figuresAdded A = some (sm A 4) := by
  unfold xX5_figuresAdded
  rw [x5_ly, Option.bind_some, ly_bn, x5_fig A (bn_lt _ 8), Option.bind_some, fg_ly h]
/-- readers -/
theorem x5_free {A : St} {k : Nat} (hk : k < 4) : xX5_isFree A (nI k) = some (if A 6 k = 0 ∧ A 8 k = 0 then 1 else 0) := by
  unfold xX5_isFree
  rw [if_pos (m_ib hk (by decide)), nI_clamp (show k < 2 ^ 31 by omega)]
  by_cases h1 : A 6 k = 0 <;> by_cases h2 : A 8 k = 0 <;> simp [h1, h2]
theorem x9_may {A : St} {k : Nat} (hk : k < 4) : xX9_may A (nI k) = some (if A 6 k = 0 ∧ A 8 k = 0 then 1 else 0) := by
  unfold xX9_may
  rw [if_pos (m_ib hk (by decide)), nI_clamp (show k < 2 ^ 31 by omega)]
  by_cases h1 : A 6 k = 0 <;> by_cases h2 : A 8 k = 0 <;> simp [h1, h2]
def frF (A : St) (k : Nat) (b : Int32) : Int32 := if A 6 k = 0 ∧ A 8 k = 0 then b ||| q_shl 1 (nI k) else b
def fr (A : St) : Int32 := fN (frF A) 4 0
theorem x5_fr (A : St) : xX5_freeReaders A = some (fr A) := by
  unfold xX5_freeReaders fr
  refine lp_c (fun n b k => xX5_freeReaders_h4 A n b (nI k)) (frF A) (fun b => some b) 4 (fun _ _ => True) 0 (fun n k b hk _ => ⟨?_, trivial⟩) (fun n b _ => ?_) trivial 5000 (by decide)
  · rw [xX5_freeReaders_h4_s, if_neg (n4 hk), x5_free hk, Option.bind_some, nI_1]
    unfold frF
    by_cases h : A 6 k = 0 ∧ A 8 k = 0
    · rw [if_pos h, if_neg (by decide), if_pos h]
    · rw [if_neg h, if_pos rfl, if_neg h]
  · rw [xX5_freeReaders_h4_s, if_pos (by decide)]
theorem x9_fr (A : St) : xX9_whoMay A = some (fr A) := by
  unfold xX9_whoMay fr
  refine lp_c (fun n b k => xX9_whoMay_h4 A n b (nI k)) (frF A) (fun b => some b) 4 (fun _ _ => True) 0 (fun n k b hk _ => ⟨?_, trivial⟩) (fun n b _ => ?_) trivial 5000 (by decide)
  · rw [xX9_whoMay_h4_s, if_neg (n4 hk), x9_may hk, Option.bind_some, nI_1, or_0]
    unfold frF
    by_cases h : A 6 k = 0 ∧ A 8 k = 0
    · rw [if_pos h, if_neg (by decide), if_pos h]
    · rw [if_neg h, if_pos rfl, if_neg h]
  · rw [xX9_whoMay_h4_s, if_pos (by decide)]
theorem fr_pe {A B : St} (h : pe A B) : fr A = fr B := fN_congr (fun k b hk => by unfold frF; rw [h.2.1 6 k (by omega) (by omega) hk, h.2.1 8 k (by omega) (by omega) hk]) 0
/-- who is noted most -/
def mnF (A : St) (k : Nat) (b : Nat) : Nat := if A 1 (k + 1) ≤ A 1 b then b else k + 1
def mn (A : St) : Nat := fN (mnF A) 7 0
theorem x5_mn (A : St) : xX5_mostNoted A = some (nI (mn A)) := by
  unfold xX5_mostNoted mn
  refine lp_c (fun n b k => xX5_mostNoted_h4 A n (nI b) (nI (k + 1))) (mnF A) (fun b => some (nI b)) 7 (fun k b => b ≤ k) 0 (fun n k b hk hb => ⟨?_, ?_⟩) (fun n b _ => ?_) (Nat.le_refl 0) 5000 (by decide)
  · rw [xX5_mostNoted_h4_s, if_neg (n8 (show k + 1 < 8 by omega)), if_pos (m_ib (show k + 1 < 8 by omega) (by decide)), if_pos (m_ib (show b < 8 by omega) (by decide)), nI_clamp (show k + 1 < 2 ^ 31 by omega), nI_clamp (show b < 2 ^ 31 by omega), nI_1]
    unfold mnF
    split <;> rfl
  · unfold mnF
    split <;> omega
  · rw [xX5_mostNoted_h4_s, if_pos (by decide)]
theorem x9_mn (A : St) : xX9_mostNoted A = some (nI (mn A)) := by
  unfold xX9_mostNoted mn
  refine lp_c (fun n b k => xX9_mostNoted_h4 A n (nI b) (nI (k + 1))) (mnF A) (fun b => some (nI b)) 7 (fun k b => b ≤ k) 0 (fun n k b hk hb => ⟨?_, ?_⟩) (fun n b _ => ?_) (Nat.le_refl 0) 5000 (by decide)
  · rw [xX9_mostNoted_h4_s, if_neg (n8 (show k + 1 < 8 by omega)), if_pos (m_ib (show k + 1 < 8 by omega) (by decide)), if_pos (m_ib (show b < 8 by omega) (by decide)), nI_clamp (show k + 1 < 2 ^ 31 by omega), nI_clamp (show b < 2 ^ 31 by omega), nI_1]
    unfold mnF
    split <;> rfl
  · unfold mnF
    split <;> omega
  · rw [xX9_mostNoted_h4_s, if_pos (by decide)]
theorem mn_le (A : St) (n : Nat) : fN (mnF A) n 0 ≤ n := by
  induction n with
  | zero => exact Nat.le_refl 0
  | succ n ih =>
    show mnF A n (fN (mnF A) n 0) ≤ n + 1
    generalize fN (mnF A) n 0 = z at ih ⊢
    unfold mnF
    split <;> omega
theorem fN_s {α : Type} (f : Nat → α → α) (n : Nat) (a : α) : fN f (n + 1) a = f n (fN f n a) := rfl
theorem fN_0 {α : Type} (f : Nat → α → α) (a : α) : fN f 0 a = a := rfl
theorem mnF_pe {A B : St} (h : pe A B) {n z : Nat} (hn : n < 7) (hz : z ≤ 7) : mnF A n z = mnF B n z := by
  unfold mnF
  rw [h.1 1 (n + 1) (by omega) (by omega), h.1 1 z (by omega) (by omega)]
theorem mn_pe' {A B : St} (h : pe A B) (n : Nat) (hn : n ≤ 7) : fN (mnF A) n 0 = fN (mnF B) n 0 := by
  induction n with
  | zero => rw [fN_0, fN_0]
  | succ n ih =>
    have hl := mn_le A n
    rw [fN_s, fN_s, ← ih (by omega)]
    exact mnF_pe h (by omega) (Nat.le_trans hl (by omega))
theorem mn_pe {A B : St} (h : pe A B) : mn A = mn B := mn_pe' h 7 (by decide)
