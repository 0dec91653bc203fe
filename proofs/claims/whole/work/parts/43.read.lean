/-! PURE: loops over places, and what is read off a state -/
def fN {α : Type} (f : Nat → α → α) : Nat → α → α
  | 0, a => a
  | n + 1, a => f n (fN f n a)
theorem lp_c {α ρ : Type} (h : Nat → α → Nat → Option ρ) (f : Nat → α → α) (out : α → Option ρ) (N : Nat) (I : Nat → α → Prop) (a : α) (hs : ∀ n k b, k < N → I k b → h (n + 1) b k = h n (f k b) (k + 1) ∧ I (k + 1) (f k b)) (hx : ∀ n b, I N b → h (n + 1) b N = out b) (h0 : I 0 a) (fuel : Nat) (hf : N < fuel) : h fuel a 0 = out (fN f N a) := by
  have hI : ∀ k, k ≤ N → I k (fN f k a) := by
    intro k
    induction k with
    | zero => intro _; exact h0
    | succ k ih => intro hk; exact (hs 0 k _ (by omega) (ih (by omega))).2
  have key : ∀ d k fuel, k + d = N → d < fuel → h fuel (fN f k a) k = out (fN f N a) := by
    intro d
    induction d with
    | zero =>
      intro k fuel hk hf
      obtain ⟨n, rfl⟩ : ∃ n, fuel = n + 1 := ⟨fuel - 1, by omega⟩
      have : k = N := by omega
      subst this
      exact hx n _ (hI k (by omega))
    | succ d ih =>
      intro k fuel hk hf
      obtain ⟨n, rfl⟩ : ∃ n, fuel = n + 1 := ⟨fuel - 1, by omega⟩
      rw [(hs n k _ (by omega) (hI k (by omega))).1]
      exact ih (k + 1) n (by omega) (by omega)
  exact key N 0 fuel (by omega) hf
theorem fN_congr {α : Type} {f g : Nat → α → α} {N : Nat} (h : ∀ k a, k < N → f k a = g k a) (a : α) : fN f N a = fN g N a := by
  induction N with
  | zero => rfl
  | succ n ih => show f n (fN f n a) = g n (fN g n a); rw [ih (fun k a hk => h k a (by omega)), h n _ (by omega)]
theorem n_le {a b : Nat} (h : b < a) (ha : a < 2 ^ 31) : ¬ nI a ≤ nI b := nI_ge h ha
/-- the numbers that loops end at -/
theorem l8 : (8 : Int32) = nI 8 := by decide
theorem l4 : (4 : Int32) = nI 4 := by decide
theorem l12 : (12 : Int32) = nI 12 := by decide
theorem n8 {k : Nat} (h : k < 8) : ¬ (8 : Int32) ≤ nI k := by rw [l8]; exact n_le h (by decide)
theorem n4 {k : Nat} (h : k < 4) : ¬ (4 : Int32) ≤ nI k := by rw [l4]; exact n_le h (by decide)
theorem or_0 (x : Int32) : x ||| 0 = x := by simp
theorem ad_0 (x : Int32) : x + 0 = x := by simp
/-- lies: the cell isn't -6; of a good state: it isn't below 0 -/
theorem ok.lies {A : St} (h : ok A) {k : Nat} (hk : k < 8) : A 2 k < 0 ↔ A 2 k = -6 := by
  rcases h.2.2.1 k hk with h1 | h1
  · rw [h1.1]; decide
  · have a := h1.1
    constructor
    · intro b
      rw [fa_le] at a; rw [fa_lt] at b
      omega
    · intro b
      rw [b] at a
      exact absurd a (by decide)
def lyF (A : St) (k : Nat) (b : Int32) : Int32 := if A 2 k = -6 then b else b ||| q_shl 1 (nI k)
def ly (A : St) : Int32 := fN (lyF A) 8 0
theorem x5_lies {A : St} {k : Nat} (hk : k < 8) : xX5_lies A (nI k) = some (if A 2 k = -6 then 0 else 1) := by
  unfold xX5_lies
  rw [if_pos (m_ib hk (by decide)), nI_clamp (show k < 2 ^ 31 by omega)]
  split <;> rfl
theorem x5_ly (A : St) : xX5_lyingStones A = some (ly A) := by
  unfold xX5_lyingStones ly
  refine lp_c (fun n b k => xX5_lyingStones_h4 A n b (nI k)) (lyF A) (fun b => some b) 8 (fun _ _ => True) 0 (fun n k b hk _ => ⟨?_, trivial⟩) (fun n b _ => ?_) trivial 5000 (by decide)
  · rw [xX5_lyingStones_h4_s, if_neg (n8 hk), x5_lies hk, Option.bind_some, nI_1]
    unfold lyF
    by_cases h : A 2 k = -6 <;> simp [h]
  · rw [xX5_lyingStones_h4_s, if_pos (by decide)]
theorem x9_ly {A : St} (h : ok A) : xX9_lying A = some (ly A) := by
  unfold xX9_lying ly
  refine lp_c (fun n b k => xX9_lying_h4 A n b (nI k)) (lyF A) (fun b => some b) 8 (fun _ _ => True) 0 (fun n k b hk _ => ⟨?_, trivial⟩) (fun n b _ => ?_) trivial 5000 (by decide)
  · rw [xX9_lying_h4_s, if_neg (n8 hk), if_pos (m_ib hk (by decide)), nI_clamp (show k < 2 ^ 31 by omega), nI_1, or_0]
    unfold lyF
    by_cases h2 : A 2 k = -6
    · rw [if_pos ((h.lies hk).mpr h2), if_pos h2]
    · rw [if_neg (fun q => h2 ((h.lies hk).mp q)), if_neg h2]
  · rw [xX9_lying_h4_s, if_pos (by decide)]
theorem ly_pe {A B : St} (h : pe A B) : ly A = ly B := fN_congr (fun k b hk => by unfold lyF; rw [h.1 2 k (by omega) hk]) 0
/-- sums of rows -/
def smF (A : St) (r : Nat) (k : Nat) (b : Int32) : Int32 := b + A r k
def sm (A : St) (r : Nat) : Int32 := fN (smF A r) 8 0
theorem x5_noted (A : St) : xX5_notedAdded A = some (sm A 1) := by
  unfold xX5_notedAdded sm
  refine lp_c (fun n b k => xX5_notedAdded_h4 A n b (nI k)) (smF A 1) (fun b => some b) 8 (fun _ _ => True) 0 (fun n k b hk _ => ⟨?_, trivial⟩) (fun n b _ => ?_) trivial 5000 (by decide)
  · rw [xX5_notedAdded_h4_s, if_neg (n8 hk), if_pos (m_ib hk (by decide)), nI_clamp (show k < 2 ^ 31 by omega), nI_1]
    rfl
  · rw [xX5_notedAdded_h4_s, if_pos (by decide)]
theorem x9_noted (A : St) : xX9_allNoted A = some (sm A 1) := by
  unfold xX9_allNoted sm
  refine lp_c (fun n b k => xX9_allNoted_h4 A n b (nI k)) (smF A 1) (fun b => some b) 8 (fun _ _ => True) 0 (fun n k b hk _ => ⟨?_, trivial⟩) (fun n b _ => ?_) trivial 5000 (by decide)
  · rw [xX9_allNoted_h4_s, if_neg (n8 hk), if_pos (m_ib hk (by decide)), nI_clamp (show k < 2 ^ 31 by omega), nI_1]
    rfl
  · rw [xX9_allNoted_h4_s, if_pos (by decide)]
theorem x9_figs (A : St) : xX9_figures A = some (sm A 4) := by
  unfold xX9_figures sm
  refine lp_c (fun n b k => xX9_figures_h4 A n b (nI k)) (smF A 4) (fun b => some b) 8 (fun _ _ => True) 0 (fun n k b hk _ => ⟨?_, trivial⟩) (fun n b _ => ?_) trivial 5000 (by decide)
  · rw [xX9_figures_h4_s, if_neg (n8 hk), if_pos (m_ib hk (by decide)), nI_clamp (show k < 2 ^ 31 by omega), nI_1]
    rfl
  · rw [xX9_figures_h4_s, if_pos (by decide)]
theorem sm_pe {A B : St} (h : pe A B) {r : Nat} (hr : r < 5) : sm A r = sm B r := fN_congr (fun k b hk => by unfold smF; rw [h.1 r k hr hk]) 0
