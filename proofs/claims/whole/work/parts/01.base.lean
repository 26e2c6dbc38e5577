/-! pure rows: counted loops; numbers and sets as bits -/
section BASE
theorem pl_up {P : Nat → Prop} (N : Nat) (h : ∀ k, k ≤ N → (k < N → P (k + 1)) → P k) : ∀ k, k ≤ N → P k := by
  intro k hk
  obtain ⟨d, hd⟩ : ∃ d, N - k = d := ⟨_, rfl⟩
  induction d generalizing k with
  | zero => exact h k hk (fun hlt => absurd hlt (by omega))
  | succ d ih => exact h k hk (fun hlt => ih (k + 1) hlt (by omega))
/-- a measure that falls -/
theorem pl_dn {α : Sort _} {P : α → Prop} (μ : α → Nat) (h : ∀ a, (∀ b, μ b < μ a → P b) → P a) : ∀ a, P a := by
  intro a
  obtain ⟨d, hd⟩ : ∃ d, μ a ≤ d := ⟨_, Nat.le_refl _⟩
  induction d generalizing a with
  | zero => exact h a (fun b hb => absurd hb (by omega))
  | succ d ih => exact h a (fun b hb => ih b (by omega))
theorem pl_inj {a b : Nat} (ha : a < 2 ^ 31) (hb : b < 2 ^ 31) (h : nI a = nI b) : a = b := (nI_eq ha hb).mp h
theorem pl_and (a b : Nat) : nI a &&& nI b = nI (a &&& b) := by
  apply Int32.toBitVec_inj.1
  show BitVec.ofNat 32 a &&& BitVec.ofNat 32 b = BitVec.ofNat 32 (a &&& b)
  apply BitVec.eq_of_getLsbD_eq
  intro i hi
  simp [hi]
theorem pl_or (a b : Nat) : nI a ||| nI b = nI (a ||| b) := by
  apply Int32.toBitVec_inj.1
  show BitVec.ofNat 32 a ||| BitVec.ofNat 32 b = BitVec.ofNat 32 (a ||| b)
  apply BitVec.eq_of_getLsbD_eq
  intro i hi
  simp [hi]
theorem pl_xor (a b : Nat) : nI a ^^^ nI b = nI (a ^^^ b) := by
  apply Int32.toBitVec_inj.1
  show BitVec.ofNat 32 a ^^^ BitVec.ofNat 32 b = BitVec.ofNat 32 (a ^^^ b)
  apply BitVec.eq_of_getLsbD_eq
  intro i hi
  simp [hi]
theorem pl_sl : ∀ n, n < 32 → ((nI n &&& 31).toBitVec.smod 32).toNat = n := by decide +kernel
theorem pl_shl {a v : Nat} (hv : v < 32) (h : a * 2 ^ v < 2 ^ 32) : nI a <<< (nI v &&& 31) = nI (a * 2 ^ v) := pk_shlN _ v (pl_sl v hv) h
theorem pl_one {v : Nat} (hv : v < 31) : (1 : Int32) <<< (nI v &&& 31) = nI (2 ^ v) := by
  have h1 : 2 ^ v < 2 ^ 32 := Nat.pow_lt_pow_right (by omega) (by omega)
  have h := pl_shl (a := 1) (v := v) (by omega) (by omega)
  rw [Nat.one_mul] at h
  exact h
theorem pl_shr {s v : Nat} (hs : s < 2 ^ 31) (hv : v < 32) : nI s >>> (nI v &&& 31) = nI (s / 2 ^ v) := pk_shrN hs _ v (pl_sl v hv)
theorem pl_bit {s v : Nat} (hs : s < 2 ^ 31) (hv : v < 32) : (nI s >>> (nI v &&& 31)) &&& 1 = nI (s / 2 ^ v % 2) := by
  rw [pl_shr hs hv]
  show nI (s / 2 ^ v) &&& nI 1 = _
  rw [pl_and, Nat.and_one_is_mod]
theorem pl_tb {s v : Nat} : s / 2 ^ v % 2 = if s.testBit v then 1 else 0 := by
  rw [Nat.testBit_eq_decide_div_mod_eq]
  have : s / 2 ^ v % 2 < 2 := Nat.mod_lt _ (by omega)
  by_cases h : s / 2 ^ v % 2 = 1
  · simp [h]
  · simp [h]; omega
theorem pl_bit1 {s v : Nat} (hs : s < 2 ^ 31) (hv : v < 32) : (nI s >>> (nI v &&& 31)) &&& 1 = 1 ↔ s.testBit v = true := by
  rw [pl_bit hs hv, pl_tb]
  by_cases h : s.testBit v = true
  · simp [h]; rfl
  · simp [h]; decide
theorem pl_bit0 {s v : Nat} (hs : s < 2 ^ 31) (hv : v < 32) : (nI s >>> (nI v &&& 31)) &&& 1 = 0 ↔ s.testBit v = false := by
  rw [pl_bit hs hv, pl_tb]
  by_cases h : s.testBit v = true
  · simp [h]; decide
  · simp [h]; rfl
theorem pl_bite {s u v : Nat} (hs : s < 2 ^ 31) (hu : u < 32) (hv : v < 32) : (nI s >>> (nI u &&& 31)) &&& 1 = (nI s >>> (nI v &&& 31)) &&& 1 ↔ s.testBit u = s.testBit v := by
  rw [pl_bit hs hu, pl_bit hs hv, pl_tb, pl_tb]
  cases h1 : s.testBit u <;> cases h2 : s.testBit v <;> simp <;> decide
/-- a without b -/
def pl_di (a b : Nat) : Nat := a ^^^ (a &&& b)
theorem pl_di_t (a b i : Nat) : (pl_di a b).testBit i = (a.testBit i && !b.testBit i) := by
  unfold pl_di
  rw [Nat.testBit_xor, Nat.testBit_and]
  cases a.testBit i <;> cases b.testBit i <;> rfl
theorem pl_di_I (a b : Nat) : nI a &&& (nI b ^^^ (-1)) = nI (pl_di a b) := by
  apply Int32.toBitVec_inj.1
  show BitVec.ofNat 32 a &&& (BitVec.ofNat 32 b ^^^ (-1 : Int32).toBitVec) = BitVec.ofNat 32 (pl_di a b)
  rw [show (-1 : Int32).toBitVec = BitVec.allOnes 32 from by decide]
  apply BitVec.eq_of_getLsbD_eq
  intro i hi
  rw [BitVec.getLsbD_and, BitVec.getLsbD_xor, BitVec.getLsbD_allOnes, BitVec.getLsbD_ofNat, BitVec.getLsbD_ofNat, BitVec.getLsbD_ofNat, pl_di_t, decide_eq_true hi]
  cases a.testBit i <;> cases b.testBit i <;> rfl
theorem pl_di_le (a b : Nat) : pl_di a b ≤ a := by
  have h : pl_di a b &&& a = pl_di a b := Nat.eq_of_testBit_eq (fun i => by rw [Nat.testBit_and, pl_di_t]; cases a.testBit i <;> cases b.testBit i <;> rfl)
  rw [← h]
  exact Nat.and_le_right
theorem pl_pow {v n : Nat} (h : v < n) : 2 ^ v < 2 ^ n := Nat.pow_lt_pow_right (by omega) h
theorem pl_pow12 {v : Nat} (h : v ≤ 12) : 2 ^ v ≤ 4096 := Nat.pow_le_pow_right (n := 2) (by omega) h
theorem pl_or_lt {a b n : Nat} (ha : a < 2 ^ n) (hb : b < 2 ^ n) : a ||| b < 2 ^ n := Nat.or_lt_two_pow ha hb
theorem pl_neg (x : Int32) (h : x < 0) : ¬ 0 ≤ x := Int32.not_le.mpr h
theorem pl_of {x : Int32} (h : 0 ≤ x) : ∃ j : Nat, j < 2 ^ 31 ∧ x = nI j := nI_of (Int32.not_lt.mpr h)
theorem pl_of_lt {x : Int32} {n : Nat} (hn : n < 2 ^ 31) (h : 0 ≤ x) (h2 : x < nI n) : ∃ j : Nat, j < n ∧ x = nI j := by
  obtain ⟨j, hj, rfl⟩ := pl_of h
  exact ⟨j, (nI_ltI hj hn).mp h2, rfl⟩
end BASE
