/-! PURE: what ties the class's groups to the model's one state -/
/-- two states agree on what acts change (rows 0 to 10) -/
def pe (A B : St) : Prop := (∀ r k, r < 5 → k < 8 → A r k = B r k) ∧ (∀ r k, 5 ≤ r → r < 9 → k < 4 → A r k = B r k) ∧ A 9 0 = B 9 0 ∧ A 10 0 = B 10 0
theorem pe.rf {A : St} : pe A A := ⟨fun _ _ _ _ => rfl, fun _ _ _ _ _ => rfl, rfl, rfl⟩
theorem pe.symm {A B : St} (h : pe A B) : pe B A := ⟨fun r k a b => (h.1 r k a b).symm, fun r k a b c => (h.2.1 r k a b c).symm, h.2.2.1.symm, h.2.2.2.symm⟩
theorem pe.trans {A B C : St} (h : pe A B) (g : pe B C) : pe A C := ⟨fun r k a b => (h.1 r k a b).trans (g.1 r k a b), fun r k a b c => (h.2.1 r k a b c).trans (g.2.1 r k a b c), h.2.2.1.trans g.2.2.1, h.2.2.2.trans g.2.2.2⟩
theorem pe.su {A B : St} (h : pe A B) (r k : Nat) (v : Int32) : pe (q_su A r k v) (q_su B r k v) := by
  refine ⟨fun r' k' a b => ?_, fun r' k' a b c => ?_, ?_, ?_⟩
  · rw [su_at, su_at, h.1 r' k' a b]
  · rw [su_at, su_at, h.2.1 r' k' a b c]
  · rw [su_at, su_at, h.2.2.1]
  · rw [su_at, su_at, h.2.2.2]
theorem pe.other {A B : St} (h : pe A B) {r : Nat} (hr : 11 ≤ r) (k : Nat) (v : Int32) : pe A (q_su B r k v) := by
  refine ⟨fun r' k' a b => ?_, fun r' k' a b c => ?_, ?_, ?_⟩
  · rw [su_row (by omega)]; exact h.1 r' k' a b
  · rw [su_row (by omega)]; exact h.2.1 r' k' a b c
  · rw [su_row (by omega)]; exact h.2.2.1
  · rw [su_row (by omega)]; exact h.2.2.2
/-- a stone: nowhere, or on a cell with a size and a figure -/
def st_ok (c s f : Int32) : Prop := (c = -6 ∧ s = 0 ∧ f = 0) ∨ (0 ≤ c ∧ c ≤ 11 ∧ 1 ≤ s ∧ s ≤ 99 ∧ 1 ≤ f ∧ f ≤ 99)
def ok (A : St) : Prop := (∀ k, k < 8 → 0 ≤ A 0 k ∧ A 0 k ≤ 99) ∧ (∀ k, k < 8 → 0 ≤ A 1 k ∧ A 1 k ≤ 99) ∧ (∀ k, k < 8 → st_ok (A 2 k) (A 3 k) (A 4 k)) ∧ (∀ k, k < 4 → 0 ≤ A 5 k ∧ A 5 k ≤ 11) ∧ (∀ k, k < 4 → 0 ≤ A 6 k ∧ A 6 k ≤ 9) ∧ (∀ k, k < 4 → 0 ≤ A 7 k ∧ A 7 k ≤ 999) ∧ (∀ k, k < 4 → A 8 k = 0 ∨ A 8 k = 1) ∧ (1 ≤ A 9 0 ∧ A 9 0 ≤ 9) ∧ (0 ≤ A 10 0 ∧ A 10 0 ≤ 99)
theorem ok_pe {A B : St} (h : ok A) (g : pe A B) : ok B := by
  obtain ⟨h0, h1, h2, h5, h6, h7, h8, h9, h10⟩ := h
  refine ⟨fun k hk => ?_, fun k hk => ?_, fun k hk => ?_, fun k hk => ?_, fun k hk => ?_, fun k hk => ?_, fun k hk => ?_, ?_, ?_⟩
  · rw [← g.1 0 k (by omega) hk]; exact h0 k hk
  · rw [← g.1 1 k (by omega) hk]; exact h1 k hk
  · rw [← g.1 2 k (by omega) hk, ← g.1 3 k (by omega) hk, ← g.1 4 k (by omega) hk]; exact h2 k hk
  · rw [← g.2.1 5 k (by omega) (by omega) hk]; exact h5 k hk
  · rw [← g.2.1 6 k (by omega) (by omega) hk]; exact h6 k hk
  · rw [← g.2.1 7 k (by omega) (by omega) hk]; exact h7 k hk
  · rw [← g.2.1 8 k (by omega) (by omega) hk]; exact h8 k hk
  · rw [← g.2.2.1]; exact h9
  · rw [← g.2.2.2]; exact h10
/-- a store into one of the rows that stand alone -/
theorem ok.su {A : St} (h : ok A) (r k : Nat) (v : Int32) (h0 : r = 0 → 0 ≤ v ∧ v ≤ 99) (h1 : r = 1 → 0 ≤ v ∧ v ≤ 99) (h2 : r ≠ 2 ∧ r ≠ 3 ∧ r ≠ 4) (h5 : r = 5 → 0 ≤ v ∧ v ≤ 11) (h6 : r = 6 → 0 ≤ v ∧ v ≤ 9) (h7 : r = 7 → 0 ≤ v ∧ v ≤ 999) (h8 : r = 8 → v = 0 ∨ v = 1) (h9 : r = 9 → 1 ≤ v ∧ v ≤ 9) (h10 : r = 10 → 0 ≤ v ∧ v ≤ 99) : ok (q_su A r k v) := by
  obtain ⟨a0, a1, a2, a5, a6, a7, a8, a9, a10⟩ := h
  refine ⟨fun j hj => ?_, fun j hj => ?_, fun j hj => ?_, fun j hj => ?_, fun j hj => ?_, fun j hj => ?_, fun j hj => ?_, ?_, ?_⟩
  · rw [su_at]; split
    · rename_i q; exact h0 q.1.symm
    · exact a0 j hj
  · rw [su_at]; split
    · rename_i q; exact h1 q.1.symm
    · exact a1 j hj
  · rw [su_row (Ne.symm h2.1), su_row (Ne.symm h2.2.1), su_row (Ne.symm h2.2.2)]; exact a2 j hj
  · rw [su_at]; split
    · rename_i q; exact h5 q.1.symm
    · exact a5 j hj
  · rw [su_at]; split
    · rename_i q; exact h6 q.1.symm
    · exact a6 j hj
  · rw [su_at]; split
    · rename_i q; exact h7 q.1.symm
    · exact a7 j hj
  · rw [su_at]; split
    · rename_i q; exact h8 q.1.symm
    · exact a8 j hj
  · rw [su_at]; split
    · rename_i q; exact h9 q.1.symm
    · exact a9
  · rw [su_at]; split
    · rename_i q; exact h10 q.1.symm
    · exact a10
def lay (A : St) (k : Nat) (c s f : Int32) : St := q_su (q_su (q_su A 2 k c) 3 k s) 4 k f
theorem pe_lay {A B : St} (h : pe A B) (k : Nat) (c s f : Int32) : pe (lay A k c s f) (lay B k c s f) := ((h.su 2 k c).su 3 k s).su 4 k f
theorem ok_lay {A : St} (h : ok A) (k : Nat) {c s f : Int32} (hs : st_ok c s f) : ok (lay A k c s f) := by
  obtain ⟨a0, a1, a2, a5, a6, a7, a8, a9, a10⟩ := h
  unfold lay
  refine ⟨fun j hj => ?_, fun j hj => ?_, fun j hj => ?_, fun j hj => ?_, fun j hj => ?_, fun j hj => ?_, fun j hj => ?_, ?_, ?_⟩
  · rw [su_row (by omega), su_row (by omega), su_row (by omega)]; exact a0 j hj
  · rw [su_row (by omega), su_row (by omega), su_row (by omega)]; exact a1 j hj
  · by_cases hk : j = k
    · subst hk; simp [su_at]; exact hs
    · simp [su_at, hk]; exact a2 j hj
  · rw [su_row (by omega), su_row (by omega), su_row (by omega)]; exact a5 j hj
  · rw [su_row (by omega), su_row (by omega), su_row (by omega)]; exact a6 j hj
  · rw [su_row (by omega), su_row (by omega), su_row (by omega)]; exact a7 j hj
  · rw [su_row (by omega), su_row (by omega), su_row (by omega)]; exact a8 j hj
  · rw [su_row (by omega), su_row (by omega), su_row (by omega)]; exact a9
  · rw [su_row (by omega), su_row (by omega), su_row (by omega)]; exact a10
/-- the pad, the sights -/
def pd (S M : St) : Prop := S 1 0 = M 16 0 ∧ (∀ k, k < 60 → S 0 k = M 15 k) ∧ ∃ n, n ≤ 60 ∧ S 1 0 = nI n ∧ ∀ k, k < n → 33 ≤ S 0 k ∧ S 0 k ≤ 126
def sg (S M : St) : Prop := S 3 0 = M 14 0 ∧ (∀ k, k < 8 → S 0 k = M 11 k ∧ S 1 k = M 12 k ∧ S 2 k = M 13 k) ∧ ∃ n, n ≤ 8 ∧ S 3 0 = nI n ∧ ∀ k, k < n → (1 ≤ S 0 k ∧ S 0 k ≤ 15) ∧ (0 ≤ S 1 k ∧ S 1 k ≤ 3) ∧ (0 ≤ S 2 k ∧ S 2 k ≤ 3)
/-- where a row of the model stands in an image -/
def io (r : Nat) : Nat := if r = 9 then 0 else if r = 10 then 1 else if r = 14 then 2 else if r < 5 then 3 + 8 * r else if r < 9 then 43 + 4 * (r - 5) else 59 + 8 * (r - 11)
def vw (M : St) (o : Nat) : St := fun r k => M 33 (o + io r + k)
def im (K P G M : St) (i : Nat) : Prop := K 2 0 = M 34 i ∧ (K 2 0 = 0 ∨ (K 2 0 = 1 ∧ pe P (vw M (90 * i)) ∧ ok P ∧ sg G (vw M (90 * i))))
def RR (S0 S1 S6 S8 S9 S10 S11 S12 S13 M : St) : Prop := pe S0 M ∧ ok S0 ∧ pd S1 M ∧ sg S6 M ∧ im S8 S9 S10 M 0 ∧ im S11 S12 S13 M 1
/-- the model keeps all but scratch -/
def ke (M M' : St) : Prop := pe M M' ∧ ∀ r, (11 ≤ r ∧ r ≤ 16) ∨ r = 33 ∨ r = 34 → M' r = M r
theorem ke.rf {M : St} : ke M M := ⟨pe.rf, fun _ _ => rfl⟩
theorem ke.trans {A B C : St} (h : ke A B) (g : ke B C) : ke A C := ⟨h.1.trans g.1, fun r hr => (g.2 r hr).trans (h.2 r hr)⟩
theorem pd.keep {S M M' : St} (h : pd S M) (h15 : M' 15 = M 15) (h16 : M' 16 = M 16) : pd S M' := ⟨by rw [h16]; exact h.1, fun k hk => by rw [h15]; exact h.2.1 k hk, h.2.2⟩
theorem sg.keep {S M M' : St} (h : sg S M) (h11 : M' 11 = M 11) (h12 : M' 12 = M 12) (h13 : M' 13 = M 13) (h14 : M' 14 = M 14) : sg S M' := ⟨by rw [h14]; exact h.1, fun k hk => by rw [h11, h12, h13]; exact h.2.1 k hk, h.2.2⟩
theorem im.keep {K P G M M' : St} {i : Nat} (h : im K P G M i) (h33 : M' 33 = M 33) (h34 : M' 34 = M 34) : im K P G M' i := by
  have hv : ∀ o, vw M' o = vw M o := fun o => by funext r k; unfold vw; rw [h33]
  unfold im
  rw [hv, h34]
  exact h
theorem RR.keep {S0 S1 S6 S8 S9 S10 S11 S12 S13 M M' : St} (h : RR S0 S1 S6 S8 S9 S10 S11 S12 S13 M) (g : ke M M') : RR S0 S1 S6 S8 S9 S10 S11 S12 S13 M' :=
  ⟨h.1.trans g.1, h.2.1, h.2.2.1.keep (g.2 15 (by omega)) (g.2 16 (by omega)), h.2.2.2.1.keep (g.2 11 (by omega)) (g.2 12 (by omega)) (g.2 13 (by omega)) (g.2 14 (by omega)), h.2.2.2.2.1.keep (g.2 33 (by omega)) (g.2 34 (by omega)), h.2.2.2.2.2.keep (g.2 33 (by omega)) (g.2 34 (by omega))⟩
