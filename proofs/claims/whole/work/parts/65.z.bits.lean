/-! bits of an int (began as rows of the kit's laws, pasted) -/
def bt (x : Int32) (i : Nat) : Bool := x.toBitVec.getLsbD i
theorem b_ext {x y : Int32} (h : ∀ i, i < 32 → bt x i = bt y i) : x = y := Int32.toBitVec_inj.mp (BitVec.eq_of_getLsbD_eq (fun i hi => h i hi))
theorem b_or (x y : Int32) (i : Nat) : bt (x ||| y) i = (bt x i || bt y i) := by unfold bt; rw [Int32.toBitVec_or, BitVec.getLsbD_or]
theorem b_and (x y : Int32) (i : Nat) : bt (x &&& y) i = (bt x i && bt y i) := by unfold bt; rw [Int32.toBitVec_and, BitVec.getLsbD_and]
theorem b_xor (x y : Int32) (i : Nat) : bt (x ^^^ y) i = (bt x i ^^ bt y i) := by unfold bt; rw [Int32.toBitVec_xor, BitVec.getLsbD_xor]
theorem b_m1 : ∀ i, i < 32 → bt (-1) i = true := by decide +kernel
theorem b_0 (i : Nat) : bt 0 i = false := BitVec.getLsbD_zero
theorem s_l : ∀ n, n < 32 → ((nI n &&& 31).toBitVec.smod 32).toNat = n := by decide +kernel
theorem b_nI (n : Nat) {i : Nat} (hi : i < 32) : bt (nI n) i = n.testBit i := by
  unfold bt
  show (BitVec.ofNat 32 n).getLsbD i = n.testBit i
  rw [BitVec.getLsbD_ofNat, decide_eq_true hi, Bool.true_and]
theorem b_zero {x : Int32} : x = 0 ↔ ∀ i, i < 32 → bt x i = false := ⟨fun h i _ => by rw [h]; exact b_0 i, fun h => b_ext (fun i hi => by rw [h i hi, b_0])⟩
/-- a set within another -/
theorem b_sub {x y : Int32} : x &&& (y ^^^ (-1)) = 0 ↔ ∀ i, i < 32 → bt x i = true → bt y i = true := by
  rw [b_zero]
  constructor
  · intro h i hi hx
    have := h i hi
    rw [b_and, b_xor, b_m1 i hi, hx] at this
    simpa using this
  · intro h i hi
    rw [b_and, b_xor, b_m1 i hi]
    cases hx : bt x i with
    | false => rfl
    | true => rw [h i hi hx]; rfl
theorem b_meet {x y : Int32} : x &&& y = 0 ↔ ∀ i, i < 32 → ¬ (bt x i = true ∧ bt y i = true) := by
  rw [b_zero]
  constructor
  · intro h i hi hx
    have := h i hi
    rw [b_and, hx.1, hx.2] at this
    exact absurd this (by decide)
  · intro h i hi
    rw [b_and]
    cases hx : bt x i with
    | false => rfl
    | true =>
      cases hy : bt y i with
      | false => rfl
      | true => exact absurd ⟨hx, hy⟩ (h i hi)
theorem bit_hasN {m : Nat} (hm : m < 2 ^ 31) {k : Nat} (hk : k < 32) : (q_shr (nI m) (nI k) &&& 1 = 1 ↔ m.testBit k = true) := by
  unfold q_shr
  rw [pk_shrN hm _ k (s_l k hk), pk_andN (show m / 2 ^ k < 2 ^ 32 from Nat.lt_of_le_of_lt (Nat.div_le_self _ _) (by omega)) 1 (by decide)]
  have h2 : m / 2 ^ k % 2 ^ 1 < 2 := Nat.mod_lt _ (by decide)
  have e : (nI (m / 2 ^ k % 2 ^ 1) = 1) ↔ (m / 2 ^ k % 2 ^ 1 = 1) := nI_eq (b := 1) (by omega) (by decide)
  rw [e, Nat.testBit_eq_decide_div_mod_eq, decide_eq_true_eq]
theorem x9_hasN {m : Nat} (hm : m < 2 ^ 31) {k : Nat} (hk : k < 32) : xX9_has (nI m) (nI k) = if m.testBit k = true then 1 else 0 := by
  unfold xX9_has
  by_cases h : m.testBit k = true
  · rw [if_pos ((bit_hasN hm hk).mpr h), if_pos h]
  · rw [if_neg (fun q => h ((bit_hasN hm hk).mp q)), if_neg h]
