section
/-! pure rows: counted loops; numbers and sets as bits -/
section BASE
theorem pl_up {P : Nat → Prop} (N : Nat) (h : ∀ k, k ≤ N → (k < N → P (k + 1)) → P k) : ∀ k, k ≤ N → P k := by
  intro k hk
  obtain ⟨d, hd⟩ : ∃ d, N - k = d := ⟨_, rfl⟩
  induction d generalizing k with
  | zero => exact h k hk (fun hlt => absurd hlt (by omega))
  | succ d ih => exact h k hk (fun hlt => ih (k + 1) hlt (by omega))
/-- a measure that falls -/
theorem pl_dn {α : Sort _} {P : α → Prop} (μ : α → Nat) (h : ∀ a, (∀ b, μ b < μ a → P b) → P a) : ∀ a, P a := by
  intro a
  obtain ⟨d, hd⟩ : ∃ d, μ a ≤ d := ⟨_, Nat.le_refl _⟩
  induction d generalizing a with
  | zero => exact h a (fun b hb => absurd hb (by omega))
  | succ d ih => exact h a (fun b hb => ih b (by omega))
theorem pl_inj {a b : Nat} (ha : a < 2 ^ 31) (hb : b < 2 ^ 31) (h : nI a = nI b) : a = b := (nI_eq ha hb).mp h
theorem pl_and (a b : Nat) : nI a &&& nI b = nI (a &&& b) := by
  apply Int32.toBitVec_inj.1
  show BitVec.ofNat 32 a &&& BitVec.ofNat 32 b = BitVec.ofNat 32 (a &&& b)
  apply BitVec.eq_of_getLsbD_eq
  intro i hi
  simp [hi]
theorem pl_or (a b : Nat) : nI a ||| nI b = nI (a ||| b) := by
  apply Int32.toBitVec_inj.1
  show BitVec.ofNat 32 a ||| BitVec.ofNat 32 b = BitVec.ofNat 32 (a ||| b)
  apply BitVec.eq_of_getLsbD_eq
  intro i hi
  simp [hi]
theorem pl_xor (a b : Nat) : nI a ^^^ nI b = nI (a ^^^ b) := by
  apply Int32.toBitVec_inj.1
  show BitVec.ofNat 32 a ^^^ BitVec.ofNat 32 b = BitVec.ofNat 32 (a ^^^ b)
  apply BitVec.eq_of_getLsbD_eq
  intro i hi
  simp [hi]
theorem pl_sl : ∀ n, n < 32 → ((nI n &&& 31).toBitVec.smod 32).toNat = n := by decide +kernel
theorem pl_shl {a v : Nat} (hv : v < 32) (h : a * 2 ^ v < 2 ^ 32) : nI a <<< (nI v &&& 31) = nI (a * 2 ^ v) := pk_shlN _ v (pl_sl v hv) h
theorem pl_one {v : Nat} (hv : v < 31) : (1 : Int32) <<< (nI v &&& 31) = nI (2 ^ v) := by
  have h1 : 2 ^ v < 2 ^ 32 := Nat.pow_lt_pow_right (by omega) (by omega)
  have h := pl_shl (a := 1) (v := v) (by omega) (by omega)
  rw [Nat.one_mul] at h
  exact h
theorem pl_shr {s v : Nat} (hs : s < 2 ^ 31) (hv : v < 32) : nI s >>> (nI v &&& 31) = nI (s / 2 ^ v) := pk_shrN hs _ v (pl_sl v hv)
theorem pl_bit {s v : Nat} (hs : s < 2 ^ 31) (hv : v < 32) : (nI s >>> (nI v &&& 31)) &&& 1 = nI (s / 2 ^ v % 2) := by
  rw [pl_shr hs hv]
  show nI (s / 2 ^ v) &&& nI 1 = _
  rw [pl_and, Nat.and_one_is_mod]
theorem pl_tb {s v : Nat} : s / 2 ^ v % 2 = if s.testBit v then 1 else 0 := by
  rw [Nat.testBit_eq_decide_div_mod_eq]
  have : s / 2 ^ v % 2 < 2 := Nat.mod_lt _ (by omega)
  by_cases h : s / 2 ^ v % 2 = 1
  · simp [h]
  · simp [h]; omega
theorem pl_bit1 {s v : Nat} (hs : s < 2 ^ 31) (hv : v < 32) : (nI s >>> (nI v &&& 31)) &&& 1 = 1 ↔ s.testBit v = true := by
  rw [pl_bit hs hv, pl_tb]
  by_cases h : s.testBit v = true
  · simp [h]; rfl
  · simp [h]; decide
theorem pl_bit0 {s v : Nat} (hs : s < 2 ^ 31) (hv : v < 32) : (nI s >>> (nI v &&& 31)) &&& 1 = 0 ↔ s.testBit v = false := by
  rw [pl_bit hs hv, pl_tb]
  by_cases h : s.testBit v = true
  · simp [h]; decide
  · simp [h]; rfl
theorem pl_bite {s u v : Nat} (hs : s < 2 ^ 31) (hu : u < 32) (hv : v < 32) : (nI s >>> (nI u &&& 31)) &&& 1 = (nI s >>> (nI v &&& 31)) &&& 1 ↔ s.testBit u = s.testBit v := by
  rw [pl_bit hs hu, pl_bit hs hv, pl_tb, pl_tb]
  cases h1 : s.testBit u <;> cases h2 : s.testBit v <;> simp <;> decide
/-- a without b -/
def pl_di (a b : Nat) : Nat := a ^^^ (a &&& b)
theorem pl_di_t (a b i : Nat) : (pl_di a b).testBit i = (a.testBit i && !b.testBit i) := by
  unfold pl_di
  rw [Nat.testBit_xor, Nat.testBit_and]
  cases a.testBit i <;> cases b.testBit i <;> rfl
theorem pl_di_I (a b : Nat) : nI a &&& (nI b ^^^ (-1)) = nI (pl_di a b) := by
  apply Int32.toBitVec_inj.1
  show BitVec.ofNat 32 a &&& (BitVec.ofNat 32 b ^^^ (-1 : Int32).toBitVec) = BitVec.ofNat 32 (pl_di a b)
  rw [show (-1 : Int32).toBitVec = BitVec.allOnes 32 from by decide]
  apply BitVec.eq_of_getLsbD_eq
  intro i hi
  rw [BitVec.getLsbD_and, BitVec.getLsbD_xor, BitVec.getLsbD_allOnes, BitVec.getLsbD_ofNat, BitVec.getLsbD_ofNat, BitVec.getLsbD_ofNat, pl_di_t, decide_eq_true hi]
  cases a.testBit i <;> cases b.testBit i <;> rfl
theorem pl_di_le (a b : Nat) : pl_di a b ≤ a := by
  have h : pl_di a b &&& a = pl_di a b := Nat.eq_of_testBit_eq (fun i => by rw [Nat.testBit_and, pl_di_t]; cases a.testBit i <;> cases b.testBit i <;> rfl)
  rw [← h]
  exact Nat.and_le_right
theorem pl_pow {v n : Nat} (h : v < n) : 2 ^ v < 2 ^ n := Nat.pow_lt_pow_right (by omega) h
theorem pl_pow12 {v : Nat} (h : v ≤ 12) : 2 ^ v ≤ 4096 := Nat.pow_le_pow_right (n := 2) (by omega) h
theorem pl_or_lt {a b n : Nat} (ha : a < 2 ^ n) (hb : b < 2 ^ n) : a ||| b < 2 ^ n := Nat.or_lt_two_pow ha hb
theorem pl_neg (x : Int32) (h : x < 0) : ¬ 0 ≤ x := Int32.not_le.mpr h
theorem pl_of {x : Int32} (h : 0 ≤ x) : ∃ j : Nat, j < 2 ^ 31 ∧ x = nI j := nI_of (Int32.not_lt.mpr h)
theorem pl_of_lt {x : Int32} {n : Nat} (hn : n < 2 ^ 31) (h : 0 ≤ x) (h2 : x < nI n) : ∃ j : Nat, j < n ∧ x = nI j := by
  obtain ⟨j, hj, rfl⟩ := pl_of h
  exact ⟨j, (nI_ltI hj hn).mp h2, rfl⟩
end BASE
end
section
/-! the SETS within a mask, one after another as their bits rise -/
section PURE1
theorem pn_and (x y p q : Nat) (hp : p < 2) (hq : q < 2) : (2 * x + p) &&& (2 * y + q) = 2 * (x &&& y) + (p &&& q) := by
  have h1 : (2 * x + p) / 2 = x := by omega
  have h2 : (2 * y + q) / 2 = y := by omega
  have h3 : (p &&& q) < 2 := by
    rcases (show p = 0 ∨ p = 1 by omega) with rfl | rfl <;> rcases (show q = 0 ∨ q = 1 by omega) with rfl | rfl <;> decide
  have h4 : (2 * (x &&& y) + (p &&& q)) / 2 = x &&& y := by omega
  have a1 : (2 * x + p) % 2 = p := by omega
  have a2 : (2 * y + q) % 2 = q := by omega
  have a3 : (2 * (x &&& y) + (p &&& q)) % 2 = p &&& q := by omega
  apply Nat.eq_of_testBit_eq
  intro i
  cases i with
  | zero =>
    rw [Nat.testBit_and, Nat.testBit_zero, Nat.testBit_zero, Nat.testBit_zero, a1, a2, a3]
    rcases (show p = 0 ∨ p = 1 by omega) with rfl | rfl <;> rcases (show q = 0 ∨ q = 1 by omega) with rfl | rfl <;> rfl
  | succ i => rw [Nat.testBit_and, Nat.testBit_succ, Nat.testBit_succ, Nat.testBit_succ, h1, h2, h4, Nat.testBit_and]
theorem pn_and0 (x y : Nat) : (2 * x) &&& (2 * y) = 2 * (x &&& y) := by
  have h := pn_and x y 0 0 (by omega) (by omega)
  simpa using h
/-- the place i among the SETS within A -/
def pn_dep : Nat → Nat → Nat → Nat
  | 0, _, _ => 0
  | w + 1, A, i => if A % 2 = 1 then 2 * pn_dep w (A / 2) (i / 2) + i % 2 else 2 * pn_dep w (A / 2) i
def pn_pop : Nat → Nat → Nat
  | 0, _ => 0
  | w + 1, A => pn_pop w (A / 2) + A % 2
theorem pn_dep_odd (w A i : Nat) : pn_dep (w + 1) (2 * A + 1) i = 2 * pn_dep w A (i / 2) + i % 2 := by
  show (if (2 * A + 1) % 2 = 1 then 2 * pn_dep w ((2 * A + 1) / 2) (i / 2) + i % 2 else 2 * pn_dep w ((2 * A + 1) / 2) i) = _
  rw [if_pos (by omega), show (2 * A + 1) / 2 = A by omega]
theorem pn_dep_even (w A i : Nat) : pn_dep (w + 1) (2 * A) i = 2 * pn_dep w A i := by
  show (if (2 * A) % 2 = 1 then 2 * pn_dep w ((2 * A) / 2) (i / 2) + i % 2 else 2 * pn_dep w ((2 * A) / 2) i) = _
  rw [if_neg (by omega), show (2 * A) / 2 = A by omega]
theorem pn_pop_odd (w A : Nat) : pn_pop (w + 1) (2 * A + 1) = pn_pop w A + 1 := by
  show pn_pop w ((2 * A + 1) / 2) + (2 * A + 1) % 2 = _
  rw [show (2 * A + 1) / 2 = A by omega, show (2 * A + 1) % 2 = 1 by omega]
theorem pn_pop_even (w A : Nat) : pn_pop (w + 1) (2 * A) = pn_pop w A := by
  show pn_pop w ((2 * A) / 2) + (2 * A) % 2 = _
  rw [show (2 * A) / 2 = A by omega, show (2 * A) % 2 = 0 by omega]
  rfl
theorem pn_eo (A : Nat) : (∃ B, A = 2 * B) ∨ ∃ B, A = 2 * B + 1 := by
  rcases Nat.mod_two_eq_zero_or_one A with h | h
  · exact Or.inl ⟨A / 2, by omega⟩
  · exact Or.inr ⟨A / 2, by omega⟩
theorem pn_dep_sub : ∀ (w A i : Nat), A < 2 ^ w → pn_dep w A i &&& A = pn_dep w A i := by
  intro w
  induction w with
  | zero => intro A i h; simp [pn_dep]
  | succ w ih =>
    intro A i h
    rw [Nat.pow_succ] at h
    rcases pn_eo A with ⟨B, rfl⟩ | ⟨B, rfl⟩
    · rw [pn_dep_even, pn_and0, ih B i (by omega)]
    · rw [pn_dep_odd, pn_and _ _ _ _ (Nat.mod_lt _ (by omega)) (by omega), ih B (i / 2) (by omega)]
      rcases Nat.mod_two_eq_zero_or_one i with h | h <;> rw [h] <;> rfl
theorem pn_dep_le {w A i : Nat} (h : A < 2 ^ w) : pn_dep w A i ≤ A := by
  rw [← pn_dep_sub w A i h]
  exact Nat.and_le_right
theorem pn_sub_c : ∀ (w A d : Nat), A < 2 ^ w → d &&& A = d → (d + (2 ^ w - 1 - A)) &&& A = d := by
  intro w
  induction w with
  | zero =>
    intro A d h h2
    have : A = 0 := by simpa using h
    subst this
    simpa using h2
  | succ w ih =>
    intro A d h h2
    have hp : 2 ^ (w + 1) = 2 * 2 ^ w := by rw [Nat.pow_succ]; omega
    have h0 : 0 < 2 ^ w := Nat.two_pow_pos w
    rcases pn_eo A with ⟨B, rfl⟩ | ⟨B, rfl⟩ <;> rcases pn_eo d with ⟨e, rfl⟩ | ⟨e, rfl⟩
    · rw [pn_and0] at h2
      have h3 := ih B e (by omega) (by omega)
      have h4 := pn_and (e + (2 ^ w - 1 - B)) B 1 0 (by omega) (by omega)
      rw [show 2 * e + (2 ^ (w + 1) - 1 - 2 * B) = 2 * (e + (2 ^ w - 1 - B)) + 1 by omega]
      rw [show 2 * B = 2 * B + 0 by omega, h4, h3]
      rfl
    · have h4 := pn_and e B 1 0 (by omega) (by omega)
      rw [show (2 * B + 0) = 2 * B by omega, h2] at h4
      have : (1 &&& 0 : Nat) = 0 := rfl
      omega
    · have h5 := pn_and e B 0 1 (by omega) (by omega)
      rw [show 2 * e + 0 = 2 * e by omega, h2] at h5
      have h6 : (0 &&& 1 : Nat) = 0 := rfl
      have h3 := ih B e (by omega) (by omega)
      have h4 := pn_and (e + (2 ^ w - 1 - B)) B 0 1 (by omega) (by omega)
      rw [show 2 * e + (2 ^ (w + 1) - 1 - (2 * B + 1)) = 2 * (e + (2 ^ w - 1 - B)) + 0 by omega, h4, h3]
      omega
    · have h5 := pn_and e B 1 1 (by omega) (by omega)
      rw [h2] at h5
      have h6 : (1 &&& 1 : Nat) = 1 := rfl
      have h3 := ih B e (by omega) (by omega)
      have h4 := pn_and (e + (2 ^ w - 1 - B)) B 1 1 (by omega) (by omega)
      rw [show 2 * e + 1 + (2 ^ (w + 1) - 1 - (2 * B + 1)) = 2 * (e + (2 ^ w - 1 - B)) + 1 by omega, h4, h3]
      omega
theorem pn_next : ∀ (w A i : Nat), A < 2 ^ w → i + 1 < 2 ^ pn_pop w A → (pn_dep w A i + 2 ^ w - A) &&& A = pn_dep w A (i + 1) := by
  intro w
  induction w with
  | zero =>
    intro A i h h2
    simp [pn_pop] at h2
  | succ w ih =>
    intro A i h h2
    have hp : 2 ^ (w + 1) = 2 * 2 ^ w := by rw [Nat.pow_succ]; omega
    have h0 : 0 < 2 ^ w := Nat.two_pow_pos w
    rcases pn_eo A with ⟨B, rfl⟩ | ⟨B, rfl⟩
    · rw [pn_pop_even] at h2
      have h3 := ih B i (by omega) h2
      rw [pn_dep_even, pn_dep_even, show 2 * pn_dep w B i + 2 ^ (w + 1) - 2 * B = 2 * (pn_dep w B i + 2 ^ w - B) by omega, pn_and0, h3]
    · rw [pn_pop_odd, Nat.pow_succ] at h2
      rw [pn_dep_odd, pn_dep_odd]
      rcases pn_eo i with ⟨j, rfl⟩ | ⟨j, rfl⟩
      · have hs := pn_sub_c w B (pn_dep w B j) (by omega) (pn_dep_sub w B j (by omega))
        rw [show 2 * j / 2 = j by omega, show 2 * j % 2 = 0 by omega, show (2 * j + 1) / 2 = j by omega, show (2 * j + 1) % 2 = 1 by omega]
        rw [show 2 * pn_dep w B j + 0 + 2 ^ (w + 1) - (2 * B + 1) = 2 * (pn_dep w B j + (2 ^ w - 1 - B)) + 1 by omega, pn_and _ _ _ _ (by omega) (by omega), hs]
        rfl
      · have h3 := ih B j (by omega) (by omega)
        rw [show (2 * j + 1) / 2 = j by omega, show (2 * j + 1) % 2 = 1 by omega, show (2 * j + 1 + 1) / 2 = j + 1 by omega, show (2 * j + 1 + 1) % 2 = 0 by omega]
        rw [show 2 * pn_dep w B j + 1 + 2 ^ (w + 1) - (2 * B + 1) = 2 * (pn_dep w B j + 2 ^ w - B) + 0 by omega, pn_and _ _ _ _ (by omega) (by omega), h3]
        rfl
theorem pn_mono : ∀ (w A i j : Nat), A < 2 ^ w → i < j → j < 2 ^ pn_pop w A → pn_dep w A i < pn_dep w A j := by
  intro w
  induction w with
  | zero =>
    intro A i j h h2 h3
    simp [pn_pop] at h3
    omega
  | succ w ih =>
    intro A i j h h2 h3
    have hp : 2 ^ (w + 1) = 2 * 2 ^ w := by rw [Nat.pow_succ]; omega
    rcases pn_eo A with ⟨B, rfl⟩ | ⟨B, rfl⟩
    · rw [pn_pop_even] at h3
      have := ih B i j (by omega) h2 h3
      rw [pn_dep_even, pn_dep_even]
      omega
    · rw [pn_pop_odd, Nat.pow_succ] at h3
      rw [pn_dep_odd, pn_dep_odd]
      rcases Nat.lt_or_ge (i / 2) (j / 2) with h4 | h4
      · have := ih B (i / 2) (j / 2) (by omega) h4 (by omega)
        omega
      · have : i / 2 = j / 2 := by omega
        rw [this]
        omega
theorem pn_surj : ∀ (w A T : Nat), A < 2 ^ w → T &&& A = T → ∃ i, i < 2 ^ pn_pop w A ∧ T = pn_dep w A i := by
  intro w
  induction w with
  | zero =>
    intro A T h h2
    have : A = 0 := by simpa using h
    subst this
    exact ⟨0, by simp [pn_pop], by simpa [pn_dep] using h2.symm⟩
  | succ w ih =>
    intro A T h h2
    have hp : 2 ^ (w + 1) = 2 * 2 ^ w := by rw [Nat.pow_succ]; omega
    rcases pn_eo A with ⟨B, rfl⟩ | ⟨B, rfl⟩ <;> rcases pn_eo T with ⟨e, rfl⟩ | ⟨e, rfl⟩
    · rw [pn_and0] at h2
      obtain ⟨i, h3, h4⟩ := ih B e (by omega) (by omega)
      exact ⟨i, by rw [pn_pop_even]; exact h3, by rw [pn_dep_even, ← h4]⟩
    · have h4 := pn_and e B 1 0 (by omega) (by omega)
      rw [show (2 * B + 0) = 2 * B by omega, h2] at h4
      have : (1 &&& 0 : Nat) = 0 := rfl
      omega
    · have h5 := pn_and e B 0 1 (by omega) (by omega)
      rw [show 2 * e + 0 = 2 * e by omega, h2] at h5
      have h6 : (0 &&& 1 : Nat) = 0 := rfl
      obtain ⟨i, h3, h4⟩ := ih B e (by omega) (by omega)
      exact ⟨2 * i, by rw [pn_pop_odd, Nat.pow_succ]; omega, by rw [pn_dep_odd, show 2 * i / 2 = i by omega, ← h4]; omega⟩
    · have h5 := pn_and e B 1 1 (by omega) (by omega)
      rw [h2] at h5
      have h6 : (1 &&& 1 : Nat) = 1 := rfl
      obtain ⟨i, h3, h4⟩ := ih B e (by omega) (by omega)
      exact ⟨2 * i + 1, by rw [pn_pop_odd, Nat.pow_succ]; omega, by rw [pn_dep_odd, show (2 * i + 1) / 2 = i by omega, ← h4]; omega⟩
theorem pn_zero : ∀ (w A : Nat), pn_dep w A 0 = 0 := by
  intro w
  induction w with
  | zero => intro A; rfl
  | succ w ih =>
    intro A
    rcases pn_eo A with ⟨B, rfl⟩ | ⟨B, rfl⟩
    · rw [pn_dep_even, ih]
    · rw [pn_dep_odd, show 0 / 2 = 0 by omega, ih]
end PURE1
end
section
/-! sums; the CUT of a SET; one NODE more -/
section CUT
def sm (f : Nat → Nat) : Nat → Nat
  | 0 => 0
  | k + 1 => sm f k + f k
theorem sm_add (f g : Nat → Nat) (k : Nat) : sm (fun i => f i + g i) k = sm f k + sm g k := by
  induction k with
  | zero => rfl
  | succ k ih => simp only [sm]; omega
theorem sm_congr {f g : Nat → Nat} {k : Nat} (h : ∀ i, i < k → f i = g i) : sm f k = sm g k := by
  induction k with
  | zero => rfl
  | succ k ih => simp only [sm]; rw [ih (fun i hi => h i (by omega)), h k (by omega)]
theorem sm_le {f g : Nat → Nat} {k : Nat} (h : ∀ i, i < k → f i ≤ g i) : sm f k ≤ sm g k := by
  induction k with
  | zero => exact Nat.le_refl _
  | succ k ih => simp only [sm]; have := ih (fun i hi => h i (by omega)); have := h k (by omega); omega
theorem sm_c (c k : Nat) : sm (fun _ => c) k = c * k := by
  induction k with
  | zero => rfl
  | succ k ih => simp only [sm]; rw [ih, Nat.mul_succ]
theorem sm_bd {f : Nat → Nat} {k c : Nat} (h : ∀ i, i < k → f i ≤ c) : sm f k ≤ c * k := by
  have := sm_le (g := fun _ => c) h
  rwa [sm_c] at this
theorem sm_0 {f : Nat → Nat} {k : Nat} (h : ∀ i, i < k → f i = 0) : sm f k = 0 := by
  have h1 := sm_congr (g := fun _ => 0) h
  rw [h1, sm_c]
  omega
theorem sm_one {n u w : Nat} (h : u < n) : sm (fun i => if i = u then w else 0) n = w := by
  induction n with
  | zero => omega
  | succ n ih =>
    simp only [sm]
    rcases Nat.lt_or_ge u n with h1 | h1
    · rw [ih h1, if_neg (by omega)]
      omega
    · have : u = n := by omega
      subst this
      rw [sm_0 (fun i hi => if_neg (by omega)), if_pos rfl]
      omega
theorem sm_mul (c : Nat) (f : Nat → Nat) (k : Nat) : sm (fun i => c * f i) k = c * sm f k := by
  induction k with
  | zero => rfl
  | succ k ih => simp only [sm]; rw [ih, Nat.mul_add]
/-- the CUT of S, the first k ARCS counted -/
def kC (fr to wt : Nat → Nat) (k S : Nat) : Nat := sm (fun i => if S.testBit (fr i) = S.testBit (to i) then 0 else wt i) k
/-- between a and b -/
def kM (fr to wt : Nat → Nat) (k a b : Nat) : Nat := sm (fun i => if (fr i = a ∧ to i = b) ∨ (fr i = b ∧ to i = a) then wt i else 0) k
theorem kC_co {fr to wt : Nat → Nat} {k n S : Nat} (h : ∀ i, i < k → fr i < n ∧ to i < n) : kC fr to wt k (pl_di (2 ^ n - 1) S) = kC fr to wt k S := by
  refine sm_congr (fun i hi => ?_)
  have h1 : ∀ v, v < n → (pl_di (2 ^ n - 1) S).testBit v = !S.testBit v := fun v hv => by
    rw [pl_di_t, Nat.testBit_two_pow_sub_one, decide_eq_true hv, Bool.true_and]
  obtain ⟨a, b⟩ := h i hi
  simp only [h1 _ a, h1 _ b]
  cases S.testBit (fr i) <;> cases S.testBit (to i) <;> rfl
theorem kC_0 {fr to wt : Nat → Nat} {k : Nat} : kC fr to wt k 0 = 0 := sm_0 (fun i _ => by simp)
theorem kC_bd {fr to wt : Nat → Nat} {k S c : Nat} (h : ∀ i, i < k → wt i ≤ c) : kC fr to wt k S ≤ c * k := sm_bd (fun i hi => by
  have := h i hi
  by_cases h2 : S.testBit (fr i) = S.testBit (to i)
  · simp [h2]
  · simp [h2, this])
theorem kM_bd {fr to wt : Nat → Nat} {k a b c : Nat} (h : ∀ i, i < k → wt i ≤ c) : kM fr to wt k a b ≤ c * k := sm_bd (fun i hi => by
  have := h i hi
  by_cases h2 : (fr i = a ∧ to i = b) ∨ (fr i = b ∧ to i = a)
  · rw [if_pos h2]; exact this
  · rw [if_neg h2]; omega)
/-- the weights at v whose other NODE has p -/
theorem kM_sum {fr to wt : Nat → Nat} {k n v : Nat} (p : Nat → Bool) (h : ∀ i, i < k → fr i < n ∧ to i < n ∧ fr i ≠ to i) :
    sm (fun u => if p u = true then kM fr to wt k v u else 0) n = sm (fun i => if (fr i = v ∧ p (to i) = true) ∨ (to i = v ∧ p (fr i) = true) then wt i else 0) k := by
  induction k with
  | zero =>
    exact sm_0 (fun u _ => by by_cases hp : p u = true <;> simp [hp, kM, sm])
  | succ k ih =>
    have ih := ih (fun i hi => h i (by omega))
    obtain ⟨h1, h2, h3⟩ := h k (by omega)
    have e1 : sm (fun u => if p u = true then kM fr to wt (k + 1) v u else 0) n = sm (fun u => if p u = true then kM fr to wt k v u else 0) n + sm (fun u => if p u = true ∧ ((fr k = v ∧ to k = u) ∨ (fr k = u ∧ to k = v)) then wt k else 0) n := by
      rw [← sm_add]
      refine sm_congr (fun u _ => ?_)
      by_cases hp : p u = true
      · simp [hp, kM, sm]
      · simp [hp]
    have e2 : sm (fun u => if p u = true ∧ ((fr k = v ∧ to k = u) ∨ (fr k = u ∧ to k = v)) then wt k else 0) n = if (fr k = v ∧ p (to k) = true) ∨ (to k = v ∧ p (fr k) = true) then wt k else 0 := by
      by_cases c1 : fr k = v
      · have c2 : ¬ to k = v := fun e => h3 (c1.trans e.symm)
        by_cases c3 : p (to k) = true
        · rw [if_pos (Or.inl ⟨c1, c3⟩)]
          refine Eq.trans (sm_congr (g := fun i => if i = to k then wt k else 0) (fun u _ => ?_)) (sm_one h2)
          by_cases hu : u = to k
          · subst hu
            rw [if_pos ⟨c3, Or.inl ⟨c1, rfl⟩⟩, if_pos rfl]
          · rw [if_neg hu, if_neg (fun q => q.2.elim (fun z => hu z.2.symm) (fun z => c2 z.2))]
        · rw [if_neg (fun q => q.elim (fun z => c3 z.2) (fun z => c2 z.1))]
          refine sm_0 (fun u _ => if_neg (fun q => q.2.elim (fun z => c3 (z.2 ▸ q.1)) (fun z => c2 z.2)))
      · by_cases c2 : to k = v
        · by_cases c3 : p (fr k) = true
          · rw [if_pos (Or.inr ⟨c2, c3⟩)]
            refine Eq.trans (sm_congr (g := fun i => if i = fr k then wt k else 0) (fun u _ => ?_)) (sm_one h1)
            by_cases hu : u = fr k
            · subst hu
              rw [if_pos ⟨c3, Or.inr ⟨rfl, c2⟩⟩, if_pos rfl]
            · rw [if_neg hu, if_neg (fun q => q.2.elim (fun z => c1 z.1) (fun z => hu z.1.symm))]
          · rw [if_neg (fun q => q.elim (fun z => c1 z.1) (fun z => c3 z.2))]
            refine sm_0 (fun u _ => if_neg (fun q => q.2.elim (fun z => c1 z.1) (fun z => c3 (z.1 ▸ q.1))))
        · rw [if_neg (fun q => q.elim (fun z => c1 z.1) (fun z => c2 z.1))]
          refine sm_0 (fun u _ => if_neg (fun q => q.2.elim (fun z => c1 z.1) (fun z => c2 z.2)))
    rw [e1, e2, ih]
    rfl
/-- one NODE more -/
theorem kC_step {fr to wt : Nat → Nat} {k n v S : Nat} (h : ∀ i, i < k → fr i < n ∧ to i < n ∧ fr i ≠ to i) (hv : S.testBit v = false) :
    kC fr to wt k (S ||| 2 ^ v) + 2 * sm (fun u => if S.testBit u = true then kM fr to wt k v u else 0) n = kC fr to wt k S + sm (fun u => kM fr to wt k v u) n := by
  have e1 := kM_sum (fr := fr) (to := to) (wt := wt) (k := k) (n := n) (v := v) (fun u => S.testBit u) h
  have e2 := kM_sum (fr := fr) (to := to) (wt := wt) (k := k) (n := n) (v := v) (fun _ => true) h
  simp only [if_true, and_true] at e2
  rw [e1, e2]
  unfold kC
  rw [← sm_mul, ← sm_add, ← sm_add]
  refine sm_congr (fun i hi => ?_)
  obtain ⟨h1, h2, h3⟩ := h i hi
  have t : ∀ u, (S ||| 2 ^ v).testBit u = (S.testBit u || decide (v = u)) := fun u => by rw [Nat.testBit_or, Nat.testBit_two_pow]
  simp only [t]
  by_cases c1 : fr i = v
  · have c2 : ¬ to i = v := fun e => h3 (c1.trans e.symm)
    have c4 : ¬ v = to i := fun e => c2 e.symm
    subst c1
    cases hb : S.testBit (to i) <;> simp [hv, hb, c2, c4] <;> omega
  · by_cases c2 : to i = v
    · have c4 : ¬ v = fr i := fun e => c1 e.symm
      subst c2
      cases hb : S.testBit (fr i) <;> simp [hv, hb, c1, c4] <;> omega
    · have c3 : ¬ v = fr i := fun e => c1 e.symm
      have c4 : ¬ v = to i := fun e => c2 e.symm
      simp [c1, c2, c3, c4]
end CUT
end
section
/-! the first of the least -/
section PURE2
def isFM (f : Nat → Nat) (P : Nat → Prop) (S : Nat) : Prop := P S ∧ (∀ T, P T → f S ≤ f T) ∧ ∀ T, P T → T < S → f S < f T
theorem isFM_uniq {f : Nat → Nat} {P : Nat → Prop} {S S' : Nat} (h : isFM f P S) (h' : isFM f P S') : S = S' := by
  rcases Nat.lt_trichotomy S S' with c | c | c
  · have := h'.2.2 S h.1 c
    have := h.2.1 S' h'.1
    omega
  · exact c
  · have := h.2.2 S' h'.1 c
    have := h'.2.1 S h.1
    omega
theorem isFM_congr {f g : Nat → Nat} {P Q : Nat → Prop} {S : Nat} (hP : ∀ T, P T ↔ Q T) (hf : ∀ T, P T → f T = g T) (h : isFM f P S) : isFM g Q S := by
  refine ⟨(hP S).mp h.1, fun T hT => ?_, fun T hT hlt => ?_⟩
  · have hT' := (hP T).mpr hT
    rw [← hf S h.1, ← hf T hT']
    exact h.2.1 T hT'
  · have hT' := (hP T).mpr hT
    rw [← hf S h.1, ← hf T hT']
    exact h.2.2 T hT' hlt
/-- one more is looked at, as they rise -/
theorem isFM_step {f : Nat → Nat} {P Q : Nat → Prop} {S T : Nat} (h : isFM f P S) (hQ : ∀ U, Q U ↔ P U ∨ U = T) (hT : ∀ U, P U → U < T) : isFM f Q (if f T < f S then T else S) := by
  by_cases c : f T < f S
  · rw [if_pos c]
    refine ⟨(hQ T).mpr (Or.inr rfl), fun U hU => ?_, fun U hU hlt => ?_⟩
    · rcases (hQ U).mp hU with q | rfl
      · have := h.2.1 U q; omega
      · exact Nat.le_refl _
    · rcases (hQ U).mp hU with q | rfl
      · have := h.2.1 U q; omega
      · omega
  · rw [if_neg c]
    refine ⟨(hQ S).mpr (Or.inl h.1), fun U hU => ?_, fun U hU hlt => ?_⟩
    · rcases (hQ U).mp hU with q | rfl
      · exact h.2.1 U q
      · omega
    · rcases (hQ U).mp hU with q | rfl
      · exact h.2.2 U q hlt
      · have := hT S h.1; omega
theorem isFM_one {f : Nat → Nat} {P : Nat → Prop} {S : Nat} (h : ∀ U, P U ↔ U = S) : isFM f P S := by
  refine ⟨(h S).mpr rfl, fun T hT => ?_, fun T hT hlt => ?_⟩
  · rw [(h T).mp hT]; exact Nat.le_refl _
  · have := (h T).mp hT; omega
end PURE2
end
section
/-! THE x-LIBRARY: the kit's rows under one judgement. xW E .. ws lv pc st: from every heap that holds the world ws, with locals lv and stack st, the machine at pc comes to the goal of E. -/
section XL
abbrev xE := Program × Launch × Env × Room × State × MethodId × Array Value × List Frame × Method × Code × (State → Prop) × (Nat → Prop)
abbrev xE.p (E : xE) : Program := E.1
abbrev xE.l (E : xE) : Launch := E.2.1
abbrev xE.e (E : xE) : Env := E.2.2.1
abbrev xE.R (E : xE) : Room := E.2.2.2.1
abbrev xE.s (E : xE) : State := E.2.2.2.2.1
abbrev xE.m (E : xE) : MethodId := E.2.2.2.2.2.1
abbrev xE.args (E : xE) : Array Value := E.2.2.2.2.2.2.1
abbrev xE.below (E : xE) : List Frame := E.2.2.2.2.2.2.2.1
abbrev xE.meth (E : xE) : Method := E.2.2.2.2.2.2.2.2.1
abbrev xE.c (E : xE) : Code := E.2.2.2.2.2.2.2.2.2.1
abbrev xE.Q (E : xE) : State → Prop := E.2.2.2.2.2.2.2.2.2.2.1
abbrev xE.A (E : xE) : Nat → Prop := E.2.2.2.2.2.2.2.2.2.2.2
abbrev xN : Type := List (String × Nat × MethodName × String)
def xNw (nws : xN) (U : State) : Prop := ∀ q ∈ nws, va_Nw (.methodLinkNest q.1 q.2.1 q.2.2.1 q.2.2.2) U
theorem xNw.same {nws : xN} {u U : State} (h : u.vm = U.vm) (H : xNw nws u) : xNw nws U := fun q hq => (H q hq).same rfl h
theorem xNw.warm {nws : xN} {s U : State} (h : s.WarmedH U.vm) (H : xNw nws s) : xNw nws U := fun q hq => va_Nw.warmM h (H q hq)
def xW (E : xE) (D : va_G) (cl : List vw_C) (nL cells slots : Nat) (ws : va_W) (lv : List (Nat × Value)) (pc : Nat) (st : List Value) : Prop :=
  ∀ (H : Heap) (locs : List Loc) (ls : Array Slot), va_P D cl ws H → va_D E.A ws → va_S E.A E.s.heap H locs → lv_has ls nL lv → W E.p E.l E.e E.R E.s E.m E.args E.below E.meth E.c H locs cells slots E.Q (F0 E.m pc ls st)
def xOK (E : xE) (l : Launch) (R : Room) (D : va_G) (cl : List vw_C) (tys : List (ClassId × FieldType)) (cc : ByteArray) (own : String) (nL : Nat) (Ts : List Cond) (nws : xN) : Prop :=
  CallFix E.p E.m E.c cc nL E.s E.args Ts own ∧ E.l = l ∧ E.R = R ∧ va_K D cl tys E.s ∧ (∀ q, E.s.heap.size ≤ q → E.A q) ∧ xNw nws E.s
section XR
variable {E : xE} {l : Launch} {R : Room} {D : va_G} {cl : List vw_C} {tys : List (ClassId × FieldType)} {cc : ByteArray} {own : String} {nL : Nat} {Ts : List Cond} {nws : xN} {cells slots : Nat} {ws : va_W} {lv : List (Nat × Value)} {pc : Nat} {st : List Value}
theorem xOK.w (S : xOK E l R D cl tys cc own nL Ts nws) (w : Cond) (h : w ∈ Ts) : w.before E.args E.s = true := S.1.2.2.2.2 w h
theorem x_iconst (S : xOK E l R D cl tys cc own nL Ts nws) {n : Int} {v : Int32} (hd : decode cc pc = .ok (.iconst n, 1)) (hv : Int32.ofInt n = v) (k : xW E D cl nL cells slots ws lv (pc + 1) (.int v :: st)) : xW E D cl nL cells slots ws lv pc st := fun H locs ls hP hD hS hl => lv_iconst S.1.1 S.1.2.1 hd hv (k H locs ls hP hD hS hl)
theorem x_bipush (S : xOK E l R D cl tys cc own nL Ts nws) {n : Int} {v : Int32} (hd : decode cc pc = .ok (.bipush n, 2)) (hv : (Int8.ofInt n).toInt32 = v) (k : xW E D cl nL cells slots ws lv (pc + 2) (.int v :: st)) : xW E D cl nL cells slots ws lv pc st := fun H locs ls hP hD hS hl => lv_bipush S.1.1 S.1.2.1 hd hv (k H locs ls hP hD hS hl)
theorem x_sipush (S : xOK E l R D cl tys cc own nL Ts nws) {n : Int} {v : Int32} (hd : decode cc pc = .ok (.sipush n, 3)) (hv : (Int16.ofInt n).toInt32 = v) (k : xW E D cl nL cells slots ws lv (pc + 3) (.int v :: st)) : xW E D cl nL cells slots ws lv pc st := fun H locs ls hP hD hS hl => lv_sipush S.1.1 S.1.2.1 hd hv (k H locs ls hP hD hS hl)
theorem x_ldc (S : xOK E l R D cl tys cc own nL Ts nws) {index : Nat} {v : Int32} (hc : Jvm.Cond.constant own index v ∈ Ts) (hd : decode cc pc = .ok (.ldc index, 2)) (k : xW E D cl nL cells slots ws lv (pc + 2) (.int v :: st)) : xW E D cl nL cells slots ws lv pc st := fun H locs ls hP hD hS hl => lv_ldc S.1.1 S.1.2.1 S.1.2.2.2.1 (S.w _ hc) hd (k H locs ls hP hD hS hl)
theorem x_iload_n (S : xOK E l R D cl tys cc own nL Ts nws) {j : Fin 4} {i : Nat} {x : Int32} (hd : decode cc pc = .ok (.iload_n j, 1)) (q : Nat) (hq : lv[q]? = some (i, .int x)) (hi : (j : Nat) = i) (k : xW E D cl nL cells slots ws lv (pc + 1) (.int x :: st)) : xW E D cl nL cells slots ws lv pc st := fun H locs ls hP hD hS hl => lv_iload_n S.1.1 S.1.2.1 hd hi (lv_at hl q hq) (k H locs ls hP hD hS hl)
theorem x_iload (S : xOK E l R D cl tys cc own nL Ts nws) {i : Nat} {x : Int32} (hd : decode cc pc = .ok (.iload i, 2)) (q : Nat) (hq : lv[q]? = some (i, .int x)) (k : xW E D cl nL cells slots ws lv (pc + 2) (.int x :: st)) : xW E D cl nL cells slots ws lv pc st := fun H locs ls hP hD hS hl => lv_iload S.1.1 S.1.2.1 hd (lv_at hl q hq) (k H locs ls hP hD hS hl)
theorem x_aload_n (S : xOK E l R D cl tys cc own nL Ts nws) {j : Fin 4} {i : Nat} {x : Nat} (hd : decode cc pc = .ok (.aload_n j, 1)) (q : Nat) (hq : lv[q]? = some (i, .ref x)) (hi : (j : Nat) = i) (k : xW E D cl nL cells slots ws lv (pc + 1) (.ref x :: st)) : xW E D cl nL cells slots ws lv pc st := fun H locs ls hP hD hS hl => lv_aload_n S.1.1 S.1.2.1 hd hi (lv_at hl q hq) (k H locs ls hP hD hS hl)
theorem x_aload (S : xOK E l R D cl tys cc own nL Ts nws) {i : Nat} {x : Nat} (hd : decode cc pc = .ok (.aload i, 2)) (q : Nat) (hq : lv[q]? = some (i, .ref x)) (k : xW E D cl nL cells slots ws lv (pc + 2) (.ref x :: st)) : xW E D cl nL cells slots ws lv pc st := fun H locs ls hP hD hS hl => lv_aload S.1.1 S.1.2.1 hd (lv_at hl q hq) (k H locs ls hP hD hS hl)
theorem x_istore_n (S : xOK E l R D cl tys cc own nL Ts nws) {j : Fin 4} {i : Nat} {x : Int32} {lv' : List (Nat × Value)} (hd : decode cc pc = .ok (.istore_n j, 1)) (hi : (j : Nat) = i) (hn : i < nL) (hl' : (i, Value.int x) :: lv.filter (fun q => !(q.1 == i) && !(q.1 + 1 == i && q.2.category == 2)) = lv') (k : xW E D cl nL cells slots ws lv' (pc + 1) st) : xW E D cl nL cells slots ws lv pc (Value.int x :: st) := fun H locs ls hP hD hS hl => lv_istore_n S.1.1 S.1.2.1 hd hi hl hn hl' (fun ls' h => k H locs ls' hP hD hS h)
theorem x_istore (S : xOK E l R D cl tys cc own nL Ts nws) {i : Nat} {x : Int32} {lv' : List (Nat × Value)} (hd : decode cc pc = .ok (.istore i, 2)) (hn : i < nL) (hl' : (i, Value.int x) :: lv.filter (fun q => !(q.1 == i) && !(q.1 + 1 == i && q.2.category == 2)) = lv') (k : xW E D cl nL cells slots ws lv' (pc + 2) st) : xW E D cl nL cells slots ws lv pc (Value.int x :: st) := fun H locs ls hP hD hS hl => lv_istore S.1.1 S.1.2.1 hd hl hn hl' (fun ls' h => k H locs ls' hP hD hS h)
theorem x_astore_n (S : xOK E l R D cl tys cc own nL Ts nws) {j : Fin 4} {i : Nat} {x : Nat} {lv' : List (Nat × Value)} (hd : decode cc pc = .ok (.astore_n j, 1)) (hi : (j : Nat) = i) (hn : i < nL) (hl' : (i, Value.ref x) :: lv.filter (fun q => !(q.1 == i) && !(q.1 + 1 == i && q.2.category == 2)) = lv') (k : xW E D cl nL cells slots ws lv' (pc + 1) st) : xW E D cl nL cells slots ws lv pc (Value.ref x :: st) := fun H locs ls hP hD hS hl => lv_astore_n S.1.1 S.1.2.1 hd hi hl hn hl' (fun ls' h => k H locs ls' hP hD hS h)
theorem x_astore (S : xOK E l R D cl tys cc own nL Ts nws) {i : Nat} {x : Nat} {lv' : List (Nat × Value)} (hd : decode cc pc = .ok (.astore i, 2)) (hn : i < nL) (hl' : (i, Value.ref x) :: lv.filter (fun q => !(q.1 == i) && !(q.1 + 1 == i && q.2.category == 2)) = lv') (k : xW E D cl nL cells slots ws lv' (pc + 2) st) : xW E D cl nL cells slots ws lv pc (Value.ref x :: st) := fun H locs ls hP hD hS hl => lv_astore S.1.1 S.1.2.1 hd hl hn hl' (fun ls' h => k H locs ls' hP hD hS h)
theorem x_iinc (S : xOK E l R D cl tys cc own nL Ts nws) {i : Nat} {n : Int} {x v : Int32} {lv' : List (Nat × Value)} (hd : decode cc pc = .ok (.iinc i n, 3)) (q : Nat) (hq : lv[q]? = some (i, .int x)) (hv : x + Int32.ofInt n = v) (hn : i < nL) (hl' : (i, Value.int v) :: lv.filter (fun q => !(q.1 == i) && !(q.1 + 1 == i && q.2.category == 2)) = lv') (k : xW E D cl nL cells slots ws lv' (pc + 3) st) : xW E D cl nL cells slots ws lv pc st := fun H locs ls hP hD hS hl => lv_iinc S.1.1 S.1.2.1 hd hl hq hv hn hl' (fun ls' h => k H locs ls' hP hD hS h)
theorem x_iadd (S : xOK E l R D cl tys cc own nL Ts nws) {x y : Int32} (hd : decode cc pc = .ok (.iadd, 1)) (k : xW E D cl nL cells slots ws lv (pc + 1) (.int (x + y) :: st)) : xW E D cl nL cells slots ws lv pc (.int y :: .int x :: st) := fun H locs ls hP hD hS hl => lv_iadd S.1.1 S.1.2.1 hd (k H locs ls hP hD hS hl)
theorem x_isub (S : xOK E l R D cl tys cc own nL Ts nws) {x y : Int32} (hd : decode cc pc = .ok (.isub, 1)) (k : xW E D cl nL cells slots ws lv (pc + 1) (.int (x - y) :: st)) : xW E D cl nL cells slots ws lv pc (.int y :: .int x :: st) := fun H locs ls hP hD hS hl => lv_isub S.1.1 S.1.2.1 hd (k H locs ls hP hD hS hl)
theorem x_imul (S : xOK E l R D cl tys cc own nL Ts nws) {x y : Int32} (hd : decode cc pc = .ok (.imul, 1)) (k : xW E D cl nL cells slots ws lv (pc + 1) (.int (x * y) :: st)) : xW E D cl nL cells slots ws lv pc (.int y :: .int x :: st) := fun H locs ls hP hD hS hl => lv_imul S.1.1 S.1.2.1 hd (k H locs ls hP hD hS hl)
theorem x_iand (S : xOK E l R D cl tys cc own nL Ts nws) {x y : Int32} (hd : decode cc pc = .ok (.iand, 1)) (k : xW E D cl nL cells slots ws lv (pc + 1) (.int (x &&& y) :: st)) : xW E D cl nL cells slots ws lv pc (.int y :: .int x :: st) := fun H locs ls hP hD hS hl => lv_iand S.1.1 S.1.2.1 hd (k H locs ls hP hD hS hl)
theorem x_ior (S : xOK E l R D cl tys cc own nL Ts nws) {x y : Int32} (hd : decode cc pc = .ok (.ior, 1)) (k : xW E D cl nL cells slots ws lv (pc + 1) (.int (x ||| y) :: st)) : xW E D cl nL cells slots ws lv pc (.int y :: .int x :: st) := fun H locs ls hP hD hS hl => lv_ior S.1.1 S.1.2.1 hd (k H locs ls hP hD hS hl)
theorem x_ixor (S : xOK E l R D cl tys cc own nL Ts nws) {x y : Int32} (hd : decode cc pc = .ok (.ixor, 1)) (k : xW E D cl nL cells slots ws lv (pc + 1) (.int (x ^^^ y) :: st)) : xW E D cl nL cells slots ws lv pc (.int y :: .int x :: st) := fun H locs ls hP hD hS hl => lv_ixor S.1.1 S.1.2.1 hd (k H locs ls hP hD hS hl)
theorem x_ishl (S : xOK E l R D cl tys cc own nL Ts nws) {x y : Int32} (hd : decode cc pc = .ok (.ishl, 1)) (k : xW E D cl nL cells slots ws lv (pc + 1) (.int (x <<< (y &&& 31)) :: st)) : xW E D cl nL cells slots ws lv pc (.int y :: .int x :: st) := fun H locs ls hP hD hS hl => lv_ishl S.1.1 S.1.2.1 hd (k H locs ls hP hD hS hl)
theorem x_ishr (S : xOK E l R D cl tys cc own nL Ts nws) {x y : Int32} (hd : decode cc pc = .ok (.ishr, 1)) (k : xW E D cl nL cells slots ws lv (pc + 1) (.int (x >>> (y &&& 31)) :: st)) : xW E D cl nL cells slots ws lv pc (.int y :: .int x :: st) := fun H locs ls hP hD hS hl => lv_ishr S.1.1 S.1.2.1 hd (k H locs ls hP hD hS hl)
theorem x_idiv (S : xOK E l R D cl tys cc own nL Ts nws) {x y : Int32} (hd : decode cc pc = .ok (.idiv, 1)) (hne : ¬ y = 0) (k : xW E D cl nL cells slots ws lv (pc + 1) (.int (x / y) :: st)) : xW E D cl nL cells slots ws lv pc (.int y :: .int x :: st) := fun H locs ls hP hD hS hl => lv_idiv S.1.1 S.1.2.1 hd hne (k H locs ls hP hD hS hl)
theorem x_irem (S : xOK E l R D cl tys cc own nL Ts nws) {x y : Int32} (hd : decode cc pc = .ok (.irem, 1)) (hne : ¬ y = 0) (k : xW E D cl nL cells slots ws lv (pc + 1) (.int (x - x / y * y) :: st)) : xW E D cl nL cells slots ws lv pc (.int y :: .int x :: st) := fun H locs ls hP hD hS hl => lv_irem S.1.1 S.1.2.1 hd hne (k H locs ls hP hD hS hl)
theorem x_iushr (S : xOK E l R D cl tys cc own nL Ts nws) {x y : Int32} (hd : decode cc pc = .ok (.iushr, 1)) (k : xW E D cl nL cells slots ws lv (pc + 1) (.int ((x.toUInt32 >>> (y.toUInt32 &&& Int32.toUInt32 31)).toInt32) :: st)) : xW E D cl nL cells slots ws lv pc (.int y :: .int x :: st) := fun H locs ls hP hD hS hl => lv_iushr S.1.1 S.1.2.1 hd rfl (k H locs ls hP hD hS hl)
theorem x_ineg (S : xOK E l R D cl tys cc own nL Ts nws) {x : Int32} (hd : decode cc pc = .ok (.ineg, 1)) (k : xW E D cl nL cells slots ws lv (pc + 1) (.int (-x) :: st)) : xW E D cl nL cells slots ws lv pc (.int x :: st) := fun H locs ls hP hD hS hl => lv_ineg S.1.1 S.1.2.1 hd (k H locs ls hP hD hS hl)
theorem x_dup (S : xOK E l R D cl tys cc own nL Ts nws) {a : Value} (hd : decode cc pc = .ok (.dup, 1)) (ha : a.category = 1) (k : xW E D cl nL cells slots ws lv (pc + 1) (a :: a :: st)) : xW E D cl nL cells slots ws lv pc (a :: st) := fun H locs ls hP hD hS hl => lv_dup S.1.1 S.1.2.1 hd ha (k H locs ls hP hD hS hl)
theorem x_pop (S : xOK E l R D cl tys cc own nL Ts nws) {a : Value} (hd : decode cc pc = .ok (.pop, 1)) (ha : a.category = 1) (k : xW E D cl nL cells slots ws lv (pc + 1) st) : xW E D cl nL cells slots ws lv pc (a :: st) := fun H locs ls hP hD hS hl => lv_pop S.1.1 S.1.2.1 hd ha (k H locs ls hP hD hS hl)
theorem x_dup_x1 (S : xOK E l R D cl tys cc own nL Ts nws) {a b : Value} (hd : decode cc pc = .ok (.dup_x1, 1)) (ha : a.category = 1) (hb : b.category = 1) (k : xW E D cl nL cells slots ws lv (pc + 1) (a :: b :: a :: st)) : xW E D cl nL cells slots ws lv pc (a :: b :: st) := fun H locs ls hP hD hS hl => lv_dup_x1 S.1.1 S.1.2.1 hd ha hb (k H locs ls hP hD hS hl)
theorem x_dup_x2 (S : xOK E l R D cl tys cc own nL Ts nws) {a b d : Value} (hd : decode cc pc = .ok (.dup_x2, 1)) (ha : a.category = 1) (hb : b.category = 1) (hc : d.category = 1) (k : xW E D cl nL cells slots ws lv (pc + 1) (a :: b :: d :: a :: st)) : xW E D cl nL cells slots ws lv pc (a :: b :: d :: st) := fun H locs ls hP hD hS hl => lv_dup_x2 S.1.1 S.1.2.1 hd ha hb hc (k H locs ls hP hD hS hl)
theorem x_dup2 (S : xOK E l R D cl tys cc own nL Ts nws) {a b : Value} (hd : decode cc pc = .ok (.dup2, 1)) (ha : a.category = 1) (hb : b.category = 1) (k : xW E D cl nL cells slots ws lv (pc + 1) (a :: b :: a :: b :: st)) : xW E D cl nL cells slots ws lv pc (a :: b :: st) := fun H locs ls hP hD hS hl => lv_dup2_11 S.1.1 S.1.2.1 hd ha hb (k H locs ls hP hD hS hl)
theorem x_if_eq (S : xOK E l R D cl tys cc own nL Ts nws) {x : Int32} {off : Int} {tgt : Nat} (hd : decode cc pc = .ok (.ifCond .eq off, 3)) (ht : (pc : Int) + off = (tgt : Int)) (kt : x = 0 → xW E D cl nL cells slots ws lv tgt st) (kf : ¬ x = 0 → xW E D cl nL cells slots ws lv (pc + 3) st) : xW E D cl nL cells slots ws lv pc (.int x :: st) := fun H locs ls hP hD hS hl => lv_if_eq S.1.1 S.1.2.1 hd ht (fun h => kt h H locs ls hP hD hS hl) (fun h => kf h H locs ls hP hD hS hl)
theorem x_icmp_eq (S : xOK E l R D cl tys cc own nL Ts nws) {x y : Int32} {off : Int} {tgt : Nat} (hd : decode cc pc = .ok (.if_icmp .eq off, 3)) (ht : (pc : Int) + off = (tgt : Int)) (kt : x = y → xW E D cl nL cells slots ws lv tgt st) (kf : ¬ x = y → xW E D cl nL cells slots ws lv (pc + 3) st) : xW E D cl nL cells slots ws lv pc (.int y :: .int x :: st) := fun H locs ls hP hD hS hl => lv_icmp_eq S.1.1 S.1.2.1 hd ht (fun h => kt h H locs ls hP hD hS hl) (fun h => kf h H locs ls hP hD hS hl)
theorem x_if_ne (S : xOK E l R D cl tys cc own nL Ts nws) {x : Int32} {off : Int} {tgt : Nat} (hd : decode cc pc = .ok (.ifCond .ne off, 3)) (ht : (pc : Int) + off = (tgt : Int)) (kt : ¬ x = 0 → xW E D cl nL cells slots ws lv tgt st) (kf : x = 0 → xW E D cl nL cells slots ws lv (pc + 3) st) : xW E D cl nL cells slots ws lv pc (.int x :: st) := fun H locs ls hP hD hS hl => lv_if_ne S.1.1 S.1.2.1 hd ht (fun h => kt h H locs ls hP hD hS hl) (fun h => kf h H locs ls hP hD hS hl)
theorem x_icmp_ne (S : xOK E l R D cl tys cc own nL Ts nws) {x y : Int32} {off : Int} {tgt : Nat} (hd : decode cc pc = .ok (.if_icmp .ne off, 3)) (ht : (pc : Int) + off = (tgt : Int)) (kt : ¬ x = y → xW E D cl nL cells slots ws lv tgt st) (kf : x = y → xW E D cl nL cells slots ws lv (pc + 3) st) : xW E D cl nL cells slots ws lv pc (.int y :: .int x :: st) := fun H locs ls hP hD hS hl => lv_icmp_ne S.1.1 S.1.2.1 hd ht (fun h => kt h H locs ls hP hD hS hl) (fun h => kf h H locs ls hP hD hS hl)
theorem x_if_lt (S : xOK E l R D cl tys cc own nL Ts nws) {x : Int32} {off : Int} {tgt : Nat} (hd : decode cc pc = .ok (.ifCond .lt off, 3)) (ht : (pc : Int) + off = (tgt : Int)) (kt : x < 0 → xW E D cl nL cells slots ws lv tgt st) (kf : ¬ x < 0 → xW E D cl nL cells slots ws lv (pc + 3) st) : xW E D cl nL cells slots ws lv pc (.int x :: st) := fun H locs ls hP hD hS hl => lv_if_lt S.1.1 S.1.2.1 hd ht (fun h => kt h H locs ls hP hD hS hl) (fun h => kf h H locs ls hP hD hS hl)
theorem x_icmp_lt (S : xOK E l R D cl tys cc own nL Ts nws) {x y : Int32} {off : Int} {tgt : Nat} (hd : decode cc pc = .ok (.if_icmp .lt off, 3)) (ht : (pc : Int) + off = (tgt : Int)) (kt : x < y → xW E D cl nL cells slots ws lv tgt st) (kf : ¬ x < y → xW E D cl nL cells slots ws lv (pc + 3) st) : xW E D cl nL cells slots ws lv pc (.int y :: .int x :: st) := fun H locs ls hP hD hS hl => lv_icmp_lt S.1.1 S.1.2.1 hd ht (fun h => kt h H locs ls hP hD hS hl) (fun h => kf h H locs ls hP hD hS hl)
theorem x_if_ge (S : xOK E l R D cl tys cc own nL Ts nws) {x : Int32} {off : Int} {tgt : Nat} (hd : decode cc pc = .ok (.ifCond .ge off, 3)) (ht : (pc : Int) + off = (tgt : Int)) (kt : 0 ≤ x → xW E D cl nL cells slots ws lv tgt st) (kf : ¬ 0 ≤ x → xW E D cl nL cells slots ws lv (pc + 3) st) : xW E D cl nL cells slots ws lv pc (.int x :: st) := fun H locs ls hP hD hS hl => lv_if_ge S.1.1 S.1.2.1 hd ht (fun h => kt h H locs ls hP hD hS hl) (fun h => kf h H locs ls hP hD hS hl)
theorem x_icmp_ge (S : xOK E l R D cl tys cc own nL Ts nws) {x y : Int32} {off : Int} {tgt : Nat} (hd : decode cc pc = .ok (.if_icmp .ge off, 3)) (ht : (pc : Int) + off = (tgt : Int)) (kt : y ≤ x → xW E D cl nL cells slots ws lv tgt st) (kf : ¬ y ≤ x → xW E D cl nL cells slots ws lv (pc + 3) st) : xW E D cl nL cells slots ws lv pc (.int y :: .int x :: st) := fun H locs ls hP hD hS hl => lv_icmp_ge S.1.1 S.1.2.1 hd ht (fun h => kt h H locs ls hP hD hS hl) (fun h => kf h H locs ls hP hD hS hl)
theorem x_if_gt (S : xOK E l R D cl tys cc own nL Ts nws) {x : Int32} {off : Int} {tgt : Nat} (hd : decode cc pc = .ok (.ifCond .gt off, 3)) (ht : (pc : Int) + off = (tgt : Int)) (kt : 0 < x → xW E D cl nL cells slots ws lv tgt st) (kf : ¬ 0 < x → xW E D cl nL cells slots ws lv (pc + 3) st) : xW E D cl nL cells slots ws lv pc (.int x :: st) := fun H locs ls hP hD hS hl => lv_if_gt S.1.1 S.1.2.1 hd ht (fun h => kt h H locs ls hP hD hS hl) (fun h => kf h H locs ls hP hD hS hl)
theorem x_icmp_gt (S : xOK E l R D cl tys cc own nL Ts nws) {x y : Int32} {off : Int} {tgt : Nat} (hd : decode cc pc = .ok (.if_icmp .gt off, 3)) (ht : (pc : Int) + off = (tgt : Int)) (kt : y < x → xW E D cl nL cells slots ws lv tgt st) (kf : ¬ y < x → xW E D cl nL cells slots ws lv (pc + 3) st) : xW E D cl nL cells slots ws lv pc (.int y :: .int x :: st) := fun H locs ls hP hD hS hl => lv_icmp_gt S.1.1 S.1.2.1 hd ht (fun h => kt h H locs ls hP hD hS hl) (fun h => kf h H locs ls hP hD hS hl)
theorem x_if_le (S : xOK E l R D cl tys cc own nL Ts nws) {x : Int32} {off : Int} {tgt : Nat} (hd : decode cc pc = .ok (.ifCond .le off, 3)) (ht : (pc : Int) + off = (tgt : Int)) (kt : x ≤ 0 → xW E D cl nL cells slots ws lv tgt st) (kf : ¬ x ≤ 0 → xW E D cl nL cells slots ws lv (pc + 3) st) : xW E D cl nL cells slots ws lv pc (.int x :: st) := fun H locs ls hP hD hS hl => lv_if_le S.1.1 S.1.2.1 hd ht (fun h => kt h H locs ls hP hD hS hl) (fun h => kf h H locs ls hP hD hS hl)
theorem x_icmp_le (S : xOK E l R D cl tys cc own nL Ts nws) {x y : Int32} {off : Int} {tgt : Nat} (hd : decode cc pc = .ok (.if_icmp .le off, 3)) (ht : (pc : Int) + off = (tgt : Int)) (kt : x ≤ y → xW E D cl nL cells slots ws lv tgt st) (kf : ¬ x ≤ y → xW E D cl nL cells slots ws lv (pc + 3) st) : xW E D cl nL cells slots ws lv pc (.int y :: .int x :: st) := fun H locs ls hP hD hS hl => lv_icmp_le S.1.1 S.1.2.1 hd ht (fun h => kt h H locs ls hP hD hS hl) (fun h => kf h H locs ls hP hD hS hl)
theorem x_goto (S : xOK E l R D cl tys cc own nL Ts nws) {off : Int} {tgt : Nat} (hd : decode cc pc = .ok (.goto off, 3)) (ht : (pc : Int) + off = (tgt : Int)) (k : xW E D cl nL cells slots ws lv tgt st) : xW E D cl nL cells slots ws lv pc st := fun H locs ls hP hD hS hl => lv_goto S.1.1 S.1.2.1 hd ht (k H locs ls hP hD hS hl)
theorem x_sub {lv' : List (Nat × Value)} (ks : List Nat) (h : lv_pick lv ks = lv') (k : xW E D cl nL cells slots ws lv' pc st) : xW E D cl nL cells slots ws lv pc st := fun H locs ls hP hD hS hl => k H locs ls hP hD hS (lv_sub hl ks h)
theorem x_ws {ws' : va_W} (h : ws = ws') (k : xW E D cl nL cells slots ws' lv pc st) : xW E D cl nL cells slots ws lv pc st := h ▸ k
theorem x_top {x : Int32} (y : Int32) (h : x = y) (k : xW E D cl nL cells slots ws lv pc (.int y :: st)) : xW E D cl nL cells slots ws lv pc (.int x :: st) := h ▸ k
theorem x_widen {c2 s2 : Nat} (h1 : cells ≤ c2) (h2 : slots ≤ s2) (k : xW E D cl nL c2 s2 ws lv pc st) : xW E D cl nL cells slots ws lv pc st := fun H locs ls hP hD hS hl => W.widen h1 h2 (k H locs ls hP hD hS hl)
theorem x_at {pc' : Nat} (h : pc = pc') (k : xW E D cl nL cells slots ws lv pc' st) : xW E D cl nL cells slots ws lv pc st := h ▸ k
theorem x_get (S : xOK E l R D cl tys cc own nL Ts nws) {C : String} {T : u_T} {N ci index a : Nat} {fs : List Value} {v : Value} {ref : String} (q0 f : Nat) (he : ws[q0]? = some (a, .inr (ci, fs))) (hc : cl[ci]? = some (C, T, N)) (hin : ∀ w ∈ u_ws C T N, w ∈ Ts) (hk : f < N) (hlink : Cond.fieldLink own index ref (T f).2.1 (T f).2.2.1 ∈ Ts) (href : ref = (T f).1) (hv : fs[f]? = some v) (hd : decode cc pc = .ok (.getfield index, 3)) (k : xW E D cl nL cells slots ws lv (pc + 3) (v :: st)) : xW E D cl nL cells slots ws lv pc (.ref a :: st) := fun H locs ls hP hD hS hl => va_get S.1.1 S.1.2.1 S.1.2.2.2.2 hin S.1.2.2.2.1 S.2.2.2.1 hP q0 he hc f hk (S.w _ hlink) (fun _ h => href ▸ h) hv hd (k H locs ls hP hD hS hl)
theorem x_put (S : xOK E l R D cl tys cc own nL Ts nws) {C : String} {T : u_T} {N ci index a : Nat} {fs : List Value} {v : Value} {ref : String} {ty : FieldType} {ws' : va_W} (q0 f : Nat) (he : ws[q0]? = some (a, .inr (ci, fs))) (hc : cl[ci]? = some (C, T, N)) (hin : ∀ w ∈ u_ws C T N, w ∈ Ts) (ty0 : Nat → FieldType) (hty : ∀ k, k < N → parseFieldDescriptor (T k).2.2.1 = some (ty0 k)) (hnm : ∀ a, a < N → ∀ b, b < N → a ≠ b → (T a).2.1 ≠ (T b).2.1) (hk : f < N) (hlink : Cond.fieldLink own index ref (T f).2.1 (T f).2.2.1 ∈ Ts) (href : ref = (T f).1) (hfin : (T f).2.2.2 = false) (hpd : parseFieldDescriptor (T f).2.2.1 = some ty) (hn : narrow ty v = v) (hfit : fits ty v = true) (hlen : f < fs.length) (hd : decode cc pc = .ok (.putfield index, 3)) (hw : ws.set q0 (a, .inr (ci, fs.set f v)) = ws') (k : xW E D cl nL cells slots ws' lv (pc + 3) st) : xW E D cl nL cells slots ws lv pc (v :: .ref a :: st) := fun H locs ls hP hD hS hl => va_put S.1.1 S.1.2.1 S.1.2.2.2.2 hin ty0 hty hnm S.1.2.2.2.1 S.2.2.2.1 hP hD hS q0 he hc f hk (S.w _ hlink) (fun _ h => href ▸ h) hfin hpd hn hfit hlen hd (fun H1 locs1 h1 h2 h3 => k H1 locs1 ls (hw ▸ h1) (hw ▸ h2) h3 hl)
theorem x_putF (S : xOK E l R D cl tys cc own nL Ts nws) {C : String} {T : u_T} {N ci index a : Nat} {fs : List Value} {v : Value} {ref : String} {ty : FieldType} {ws' : va_W} (hini : E.meth.name = "<init>") (q0 f : Nat) (he : ws[q0]? = some (a, .inr (ci, fs))) (hc : cl[ci]? = some (C, T, N)) (hin : ∀ w ∈ u_ws C T N, w ∈ Ts) (ty0 : Nat → FieldType) (hty : ∀ k, k < N → parseFieldDescriptor (T k).2.2.1 = some (ty0 k)) (hnm : ∀ a, a < N → ∀ b, b < N → a ≠ b → (T a).2.1 ≠ (T b).2.1) (hk : f < N) (hlink : Cond.fieldLink own index ref (T f).2.1 (T f).2.2.1 ∈ Ts) (href : ref = (T f).1) (hfin : (T f).2.2.2 = true) (hdecl : (T f).1 = own) (hpd : parseFieldDescriptor (T f).2.2.1 = some ty) (hn : narrow ty v = v) (hfit : fits ty v = true) (hlen : f < fs.length) (hd : decode cc pc = .ok (.putfield index, 3)) (hw : ws.set q0 (a, .inr (ci, fs.set f v)) = ws') (k : xW E D cl nL cells slots ws' lv (pc + 3) st) : xW E D cl nL cells slots ws lv pc (v :: .ref a :: st) := fun H locs ls hP hD hS hl => va_putF S.1.1 S.1.2.1 S.1.2.2.2.2 hin ty0 hty hnm S.1.2.2.2.1 S.2.2.2.1 hP hD hS q0 he hc f hk (S.w _ hlink) (fun _ h => href ▸ h) hfin hini hdecl hpd hn hfit hlen hd (fun H1 locs1 h1 h2 h3 => k H1 locs1 ls (hw ▸ h1) (hw ▸ h2) h3 hl)
theorem x_iald (S : xOK E l R D cl tys cc own nL Ts nws) {cA : ClassId} {n a : Nat} {f : Nat → Int32} {i : Int32} (q0 t0 j : Nat) (ha : ws[q0]? = some (a, .inl (cA, n, .inl f))) (ht : tys[t0]? = some (cA, .int)) (hi : i = nI j) (hj : j < n) (hn : n < 2 ^ 31) (hd : decode cc pc = .ok (.iaload, 1)) (k : xW E D cl nL cells slots ws lv (pc + 1) (.int (f j) :: st)) : xW E D cl nL cells slots ws lv pc (.int i :: .ref a :: st) := by
  subst hi
  intro H locs ls hP hD hS hl
  refine va_iald S.1.1 S.1.2.1 S.2.2.2.1 hP q0 t0 ha ht (vp_in_nI hj hn) hd ?_
  rw [nI_clamp (Nat.lt_trans hj hn)]
  exact k H locs ls hP hD hS hl
theorem x_iast (S : xOK E l R D cl tys cc own nL Ts nws) {cA : ClassId} {n a : Nat} {f : Nat → Int32} {i : Int32} {x : Int32} {ws' : va_W} (q0 t0 j : Nat) (ha : ws[q0]? = some (a, .inl (cA, n, .inl f))) (ht : tys[t0]? = some (cA, .int)) (hi : i = nI j) (hj : j < n) (hn : n < 2 ^ 31) (hd : decode cc pc = .ok (.iastore, 1)) (hw : ws.set q0 (a, .inl (cA, n, .inl (upd f j x))) = ws') (k : xW E D cl nL cells slots ws' lv (pc + 1) st) : xW E D cl nL cells slots ws lv pc (.int x :: .int i :: .ref a :: st) := by
  subst hi
  subst hw
  intro H locs ls hP hD hS hl
  refine va_iast S.1.1 S.1.2.1 S.2.2.2.1 hP hD hS q0 t0 ha ht (vp_in_nI hj hn) hd ?_
  rw [nI_clamp (Nat.lt_trans hj hn)]
  exact fun H1 locs1 h1 h2 h3 => k H1 locs1 ls h1 h2 h3 hl
theorem x_aald (S : xOK E l R D cl tys cc own nL Ts nws) {cA : ClassId} {n a : Nat} {f : Nat → Option Nat} {i : Int32} {ty : FieldType} {v : Value} (q0 t0 j : Nat) (ha : ws[q0]? = some (a, .inl (cA, n, .inr (.inr (.inr (.inr f)))))) (ht : tys[t0]? = some (cA, ty)) (hty : ty.isReference = true) (hi : i = nI j) (hj : j < n) (hn : n < 2 ^ 31) (hv : va_rf (f j) = v) (hd : decode cc pc = .ok (.aaload, 1)) (k : xW E D cl nL cells slots ws lv (pc + 1) (v :: st)) : xW E D cl nL cells slots ws lv pc (.int i :: .ref a :: st) := by
  subst hi
  subst hv
  intro H locs ls hP hD hS hl
  have hin := vp_in_nI hj hn
  exact W.aald (v := va_rf (f j)) (ty := ty) S.1.1 S.1.2.1 (hP q0 _ ha) ((S.2.2.2.1.2 t0 _ ht).1 n (fun j => va_rf (f j))) hty (fun q => by cases q) (by show ¬ (nI j < 0 ∨ (arrV _ _ _).slots.size ≤ _); rw [arrV_size]; exact hin) (by show (arrV _ _ _).slots[_]? = _; rw [nI_clamp (Nat.lt_trans hj hn), arrV_read _ _ hj]) rfl rfl hd (k H locs ls hP hD hS hl)
theorem x_alen (S : xOK E l R D cl tys cc own nL Ts nws) {cA : ClassId} {a : Nat} {x : vp_A} {ty : FieldType} {v : Int32} (q0 t0 : Nat) (ha : ws[q0]? = some (a, .inl (cA, x))) (ht : tys[t0]? = some (cA, ty)) (hv : Int32.ofNat x.1 = v) (hd : decode cc pc = .ok (.arraylength, 1)) (k : xW E D cl nL cells slots ws lv (pc + 1) (.int v :: st)) : xW E D cl nL cells slots ws lv pc (.ref a :: st) := fun H locs ls hP hD hS hl => va_alen S.1.1 S.1.2.1 S.2.2.2.1 hP q0 t0 ha ht hv hd (k H locs ls hP hD hS hl)
/-- contracts: from the world ws the method comes back with v and the world ws'; the whole world is the callee's -/
def xPre (D : va_G) (cl : List vw_C) (tys : List (ClassId × FieldType)) (nws : xN) (ws : va_W) (sz : Nat) : State → Prop := fun U => U.heap.size = sz ∧ va_P D cl ws U.heap ∧ va_K D cl tys U ∧ va_D (fun _ => True) ws ∧ xNw nws U
def xQ {S : Type} (D : va_G) (cl : List vw_C) (ws : va_W) (sz : Nat) (post : S → Prop) (ws' : S → va_W) (v : S → Option Value) : Array Value → State → Outcome → State → Prop := fun _ st oc t => ∃ u : S, oc = .returned (v u) ∧ post u ∧ va_P D cl (ws' u) t.heap ∧ va_D (va_A ws sz) (ws' u) ∧ va_F (va_A ws sz) st t
def xMetS {S : Type} (l : Launch) (y : MethodName) (wsC : List Cond) (rm : Room) (D : va_G) (cl : List vw_C) (tys : List (ClassId × FieldType)) (nws : xN) (av : List Value) (ws : va_W) (post : S → Prop) (ws' : S → va_W) (v : S → Option Value) : Prop :=
  ∀ sz, Met l y wsC rm (va_Pc av (xPre D cl tys nws ws sz)) (xQ D cl ws sz post ws' v) rm.cells rm.slots (va_A ws sz)
abbrev xMet (l : Launch) (y : MethodName) (wsC : List Cond) (rm : Room) (D : va_G) (cl : List vw_C) (tys : List (ClassId × FieldType)) (nws : xN) (av : List Value) (ws ws' : va_W) (v : Option Value) : Prop :=
  xMetS (S := Unit) l y wsC rm D cl tys nws av ws (fun _ => True) (fun _ => ws') (fun _ => v)
/-- how a method may end: the kind of its return instruction -/
def xEnds (cc : ByteArray) (pc : Nat) (v : Option Value) : Prop := match v with
  | none => decode cc pc = .ok (.return_, 1)
  | some (.int _) => decode cc pc = .ok (.ireturn, 1)
  | some _ => decode cc pc = .ok (.areturn, 1)
def xFits (ret : Option FieldType) (v : Option Value) : Prop := match v with
  | none => ret = none
  | some (.int r) => ∃ ty, ret = some ty ∧ narrow ty (.int r) = .int r
  | some (.ref _) => ∃ rt, ret = some rt ∧ ((∃ n, rt = .object n) ∨ ∃ t, rt = .array t)
  | some _ => False
def xRetS {S : Type} (E : xE) (D : va_G) (cl : List vw_C) (nL : Nat) (cc : ByteArray) (cells slots : Nat) (post : S → Prop) (ws' : S → va_W) (v : S → Option Value) : Prop := ∀ (u : S) (lv : List (Nat × Value)) (pc : Nat), post u → xEnds cc pc (v u) → xW E D cl nL cells slots (ws' u) lv pc (v u).toList
abbrev xRet (E : xE) (D : va_G) (cl : List vw_C) (nL : Nat) (cc : ByteArray) (cells slots : Nat) (ws' : va_W) (v : Option Value) : Prop := ∀ (lv : List (Nat × Value)) (pc : Nat), xEnds cc pc v → xW E D cl nL cells slots ws' lv pc v.toList
theorem xMetS_of {S : Type} {y : MethodName} {wsC wsC' : List Cond} {rm : Room} {av : List Value} {ret : Option FieldType} {maxL : Nat} {post : S → Prop} {ws' : S → va_W} {v : S → Option Value} (hy : plainName y.cls = true) (hw : wsC = Cond.code y cc maxL ret :: wsC') (hlen : (lg_sl av).length ≤ maxL) (hv : ∀ u, post u → xFits ret (v u))
    (body : ∀ E : xE, xOK E l rm D cl tys cc y.cls maxL wsC nws → E.meth.name = y.name → xRetS E D cl maxL cc rm.cells rm.slots post ws' v → xW E D cl maxL 0 0 ws (lv_args 0 av) 0 []) : xMetS l y wsC rm D cl tys nws av ws post ws' v := by
  intro sz
  refine Met.ofW (cc := cc) (maxL := maxL) (ret := ret) hy hw ?_
  intro p e s m args below meth c s₁ B hml hv0
  obtain ⟨rfl, hsz, hP, hK, hD0, hN⟩ := hv0
  have hx := B.exec
  have hb := B.bytes
  have hr := B.returns
  have hts := atoms_spec (ws := wsC) B.pre
  have hown : s.vm.findClass y.cls = some m.cls := findClass_of_methodNamed B.named
  have hlocks := B.notSynchronized
  have hin : meth.name = y.name := (name_of_methodNamed B.named B.method).1
  subst hsz
  have hD := hD0.self (sz := s.heap.size)
  have hl := lv_entry av hlen
  rw [lg_entry_eq]
  refine body (p, l, e, (headSpec wsC rm).room, s, m, av.toArray, below, meth, c, MQ below (xQ D cl ws s.heap.size post ws' v) av.toArray s rm.cells rm.slots (va_A ws s.heap.size), va_A ws s.heap.size) ⟨⟨hx, hb, hml, hown, hts⟩, rfl, rfl, hK, fun q h => Or.inr h, hN⟩ hin ?_ s.heap [] _ hP hD va_S.rf hl
  intro u lv pc hpu hend H locs ls hP hD hS hl
  have hq : ∀ t : State, t.heap = H → xQ D cl ws s.heap.size post ws' v av.toArray s (.returned (v u)) t := fun t ht => ⟨u, rfl, hpu, by rw [ht]; exact hP, hD, hS.F ht⟩
  have hf := hv u hpu
  generalize hvu : v u = w at hend hq hf ⊢
  match w, hend, hq, hf with
  | none, hend, hq, hf => exact W.vret hx hb (hr.trans hf) (fun t ht _ => hq t ht) hS.2.2 hend
  | some (.int r), hend, hq, hf =>
    obtain ⟨ty, h1, h2⟩ := hf
    exact W.zret hx hb (hr.trans h1) h2 (fun t ht _ => hq t ht) hS.2.2 hend
  | some (.ref a), hend, hq, hf =>
    obtain ⟨rt, h1, h2⟩ := hf
    exact W.aret hx hb (hr.trans h1) h2 (Or.inr ⟨a, rfl⟩) (fun t ht _ => hq t ht) hS.2.2 hend
theorem xMet_of {y : MethodName} {wsC wsC' : List Cond} {rm : Room} {av : List Value} {ret : Option FieldType} {maxL : Nat} {ws' : va_W} {v : Option Value} (hy : plainName y.cls = true) (hw : wsC = Cond.code y cc maxL ret :: wsC') (hlen : (lg_sl av).length ≤ maxL) (hv : xFits ret v)
    (body : ∀ E : xE, xOK E l rm D cl tys cc y.cls maxL wsC nws → E.meth.name = y.name → xRet E D cl maxL cc rm.cells rm.slots ws' v → xW E D cl maxL 0 0 ws (lv_args 0 av) 0 []) : xMet l y wsC rm D cl tys nws av ws ws' v :=
  xMetS_of hy hw hlen (fun _ _ => hv) (fun E h1 h2 h3 => body E h1 h2 (fun lv pc h => h3 () lv pc trivial h))

theorem x_goS {Sg : Type} {post : Sg → Prop} {ws' : Sg → va_W} {v : Sg → Option Value} {rest : List Value} {mc ms : Nat} {a : Array Value} (S : xOK E l R D cl tys cc own nL Ts nws) {H : Heap} {locs : List Loc} {ls : Array Slot} (hP : va_P D cl ws H) (hD : va_D E.A ws) (hS : va_S E.A E.s.heap H locs) (hl : lv_has ls nL lv)
    (hr : va_Run E.p E.l E.e E.R E.s E.m E.args E.below E.meth E.c H locs cells slots mc ms (F0 E.m pc ls st) rest (xQ D cl ws H.size post ws' v a) (va_A ws H.size)) (kk : ∀ u : Sg, post u → xW E D cl nL (cells + mc) (slots + ms) (ws' u) lv (pc + 3) ((v u).toList ++ rest)) : W E.p E.l E.e E.R E.s E.m E.args E.below E.meth E.c H locs cells slots E.Q (F0 E.m pc ls st) := by
  have hF : ∀ q, va_A ws H.size q → E.A q := by
    intro q h
    rcases h with ⟨k, e, h⟩ | h
    · exact hD.2 k (q, e) h
    · exact S.2.2.2.2.1 q (Nat.le_trans hS.1 h)
  intro T hT X
  obtain ⟨w, st₀, t, T', L, h0, X', hL, e1, e2, ⟨u, hv, hp, hP1, hD1, hz, hk⟩, go⟩ := hr T hT X
  have hw : w = v u := by cases hv; rfl
  subst hw
  rw [h0] at hz hk
  obtain ⟨t2, a1, b1⟩ := kk u hp T'.heap (locs ++ L) ls (by rw [e1]; exact hP1) (hD1.weaken (fun k q _ h => hF q.1 h))
    ⟨Nat.le_trans hS.1 (by rw [e1]; exact hz), fun q h1 h2 => by rw [e1, hk q (Nat.lt_of_lt_of_le h1 hS.1) (fun z => h2 (hF q z))]; exact hS.2.1 q h1 h2, fun q hq => by
      rcases List.mem_append.mp hq with h | h
      · exact hS.2.2 q h
      · exact hF _ (hL q h)⟩ hl T' rfl X'
  exact ⟨t2, go t2 a1, b1⟩
theorem x_blind {av : List Value} {sz : Nat} : FrameBlind (va_Pc av (xPre D cl tys nws ws sz)) := fun a U g mk q => by
  obtain ⟨q0, q1, qP, qK, qD, qN⟩ := q
  exact ⟨q0, q1, qP, va_K.moved (u := U) (U := U.calling g mk a) (Vm.Alike.refl U.vm) qK, qD, qN.same rfl⟩
theorem x_pre (S : xOK E l R D cl tys cc own nL Ts nws) {H : Heap} {av : List Value} (hP : va_P D cl ws H) (hD : va_D E.A ws) : ∀ U : State, U.heap = H → E.s.WarmedH U.vm → va_Pc av (xPre D cl tys nws ws H.size) av.toArray U := fun U hU hW => ⟨rfl, by rw [hU], by rw [hU]; exact hP, va_K.moved hW.alike S.2.2.2.1, hD.weaken (fun _ _ _ _ => trivial), S.2.2.2.2.2.warm hW⟩
theorem x_callVS (S0 : xOK E l R D cl tys cc own nL Ts nws) {Sg : Type} {post : Sg → Prop} {ws' : Sg → va_W} {v : Sg → Option Value} {y : MethodName} {wsC wsC' : List Cond} {rm : Room} {bytes : ByteArray} {maxL index b n : Nat} {ret : Option FieldType} {As rest : List Value} {C : String} {T : u_T} {N ci : Nat} {fs : List Value} (hM : xMetS l y wsC rm D cl tys nws (.ref b :: As) ws post ws' v) (hG : GoodIn Ts (wsV own index C y wsC)) (hw : wsC = Cond.code y bytes maxL ret :: wsC') (hdd : y.cls = C ∧ y.cls ≠ "java/lang/invoke/MethodHandle" ∧ y.cls ≠ "java/lang/invoke/VarHandle" ∧ (parseMethodDescriptor y.desc).map (fun d => d.parameters.length) = some n) (q0 : Nat) (he : ws[q0]? = some (b, .inr (ci, fs))) (hc : cl[ci]? = some (C, T, N)) (hn : As.length = n) (hst : st = As.reverse ++ .ref b :: rest) (hWt : (rest.map fun v => v.category).sum ≤ 8) (hd : decode cc pc = .ok (.invokevirtual index, 3)) (hR : rm.frames + 1 ≤ R.frames ∧ 8 + (maxL + 11) + rm.locals ≤ R.locals) (hC : cells + rm.cells ≤ R.cells ∧ slots + rm.slots ≤ R.slots) (kk : ∀ u : Sg, post u → xW E D cl nL (cells + rm.cells) (slots + rm.slots) (ws' u) lv (pc + 3) ((v u).toList ++ rest)) : xW E D cl nL cells slots ws lv pc st := by
  intro H locs ls hP hD hS hl
  obtain ⟨F, hl0, hR0, hK, hA, hN⟩ := id S0
  subst hl0; subst hR0
  exact x_goS S0 hP hD hS hl (va_runV (As := As) (rest := rest) (b := b) (C := C) F (hM H.size) (cwV n F.2.2.2.2 hG hw rfl rfl hdd hR) ⟨x_blind, va_recv hK hP hc he, x_pre S0 hP hD⟩ rfl hn hl.1 hst (lv_room hWt) hd hC) kk
theorem x_callVNS (S0 : xOK E l R D cl tys cc own nL Ts nws) {Sg : Type} {post : Sg → Prop} {ws' : Sg → va_W} {v : Sg → Option Value} {y : MethodName} {wsC wsC' : List Cond} {rm : Room} {bytes : ByteArray} {maxL index b n : Nat} {ret : Option FieldType} {As rest : List Value} {C host : String} {T : u_T} {N ci : Nat} {fs : List Value} (hM : xMetS l y wsC rm D cl tys nws (.ref b :: As) ws post ws' v) (hG : GoodIn Ts wsC) (hw : wsC = Cond.code y bytes maxL ret :: wsC') (hnw : (own, index, y, host) ∈ nws) (hini : Cond.initialized y.cls ∈ Ts) (hins : Cond.instanceMethod y ∈ Ts) (hsel : Cond.selects C y y ∈ Ts) (hdd : y.cls ≠ "java/lang/invoke/MethodHandle" ∧ y.cls ≠ "java/lang/invoke/VarHandle" ∧ (parseMethodDescriptor y.desc).map (fun d => d.parameters.length) = some n) (q0 : Nat) (he : ws[q0]? = some (b, .inr (ci, fs))) (hc : cl[ci]? = some (C, T, N)) (hn : As.length = n) (hst : st = As.reverse ++ .ref b :: rest) (hWt : (rest.map fun v => v.category).sum ≤ 8) (hd : decode cc pc = .ok (.invokevirtual index, 3)) (hR : rm.frames + 1 ≤ R.frames ∧ 8 + (maxL + 11) + rm.locals ≤ R.locals) (hC : cells + rm.cells ≤ R.cells ∧ slots + rm.slots ≤ R.slots) (kk : ∀ u : Sg, post u → xW E D cl nL (cells + rm.cells) (slots + rm.slots) (ws' u) lv (pc + 3) ((v u).toList ++ rest)) : xW E D cl nL cells slots ws lv pc st := by
  intro H locs ls hP hD hS hl
  obtain ⟨F, hl0, hR0, hK, hA, hN⟩ := id S0
  subst hl0; subst hR0
  exact x_goS S0 hP hD hS hl (va_runVN (As := As) (rest := rest) (b := b) (C := C) (host := host) F (hM H.size) ⟨va_cnB n F.2.2.2.2 hG hw rfl rfl (hN _ hnw) (S0.w _ hini) hdd hR, S0.w _ hins, S0.w _ hsel⟩ ⟨x_blind, va_recv hK hP hc he, x_pre S0 hP hD⟩ rfl hn hl.1 hst (lv_room hWt) hd hC) kk
theorem x_callSS (S0 : xOK E l R D cl tys cc own nL Ts nws) {Sg : Type} {post : Sg → Prop} {ws' : Sg → va_W} {v : Sg → Option Value} {y : MethodName} {wsC wsC' : List Cond} {rm : Room} {bytes : ByteArray} {maxL index b n : Nat} {ret : Option FieldType} {As rest : List Value} (hM : xMetS l y wsC rm D cl tys nws As ws post ws' v) (hG : GoodIn Ts (wsS own index y wsC)) (hw : wsC = Cond.code y bytes maxL ret :: wsC') (hdd : y.cls = own ∧ y.cls ≠ "java/lang/invoke/MethodHandle" ∧ y.cls ≠ "java/lang/invoke/VarHandle" ∧ (parseMethodDescriptor y.desc).map (fun d => d.parameters.length) = some n) (hn : As.length = n) (hst : st = As.reverse ++ rest) (hWt : (rest.map fun v => v.category).sum ≤ 8) (hd : decode cc pc = .ok (.invokestatic index, 3)) (hR : rm.frames + 1 ≤ R.frames ∧ 8 + (maxL + 11) + rm.locals ≤ R.locals) (hC : cells + rm.cells ≤ R.cells ∧ slots + rm.slots ≤ R.slots) (kk : ∀ u : Sg, post u → xW E D cl nL (cells + rm.cells) (slots + rm.slots) (ws' u) lv (pc + 3) ((v u).toList ++ rest)) : xW E D cl nL cells slots ws lv pc st := by
  intro H locs ls hP hD hS hl
  obtain ⟨F, hl0, hR0, hK, hA, hN⟩ := id S0
  subst hl0; subst hR0
  exact x_goS S0 hP hD hS hl (va_runS (As := As) (rest := rest) F (hM H.size) (cwS n F.2.2.2.2 hG hw rfl rfl hdd hR) ⟨x_blind, x_pre S0 hP hD⟩ rfl hn hl.1 hst (lv_room hWt) hd hC) kk
theorem x_callSNS (S0 : xOK E l R D cl tys cc own nL Ts nws) {Sg : Type} {post : Sg → Prop} {ws' : Sg → va_W} {v : Sg → Option Value} {y : MethodName} {wsC wsC' : List Cond} {rm : Room} {bytes : ByteArray} {maxL index b n : Nat} {ret : Option FieldType} {As rest : List Value} {host : String} (hM : xMetS l y wsC rm D cl tys nws As ws post ws' v) (hG : GoodIn Ts wsC) (hw : wsC = Cond.code y bytes maxL ret :: wsC') (hnw : (own, index, y, host) ∈ nws) (hini : Cond.initialized y.cls ∈ Ts) (hsta : Cond.static y ∈ Ts) (hdd : y.cls ≠ "java/lang/invoke/MethodHandle" ∧ y.cls ≠ "java/lang/invoke/VarHandle" ∧ (parseMethodDescriptor y.desc).map (fun d => d.parameters.length) = some n) (hn : As.length = n) (hst : st = As.reverse ++ rest) (hWt : (rest.map fun v => v.category).sum ≤ 8) (hd : decode cc pc = .ok (.invokestatic index, 3)) (hR : rm.frames + 1 ≤ R.frames ∧ 8 + (maxL + 11) + rm.locals ≤ R.locals) (hC : cells + rm.cells ≤ R.cells ∧ slots + rm.slots ≤ R.slots) (kk : ∀ u : Sg, post u → xW E D cl nL (cells + rm.cells) (slots + rm.slots) (ws' u) lv (pc + 3) ((v u).toList ++ rest)) : xW E D cl nL cells slots ws lv pc st := by
  intro H locs ls hP hD hS hl
  obtain ⟨F, hl0, hR0, hK, hA, hN⟩ := id S0
  subst hl0; subst hR0
  exact x_goS S0 hP hD hS hl (va_runSN (As := As) (rest := rest) (host := host) F (hM H.size) ⟨va_cnB n F.2.2.2.2 hG hw rfl rfl (hN _ hnw) (S0.w _ hini) hdd hR, S0.w _ hsta, trivial⟩ ⟨x_blind, x_pre S0 hP hD⟩ rfl hn hl.1 hst (lv_room hWt) hd hC) kk
theorem x_callIS (S0 : xOK E l R D cl tys cc own nL Ts nws) {Sg : Type} {post : Sg → Prop} {ws' : Sg → va_W} {v : Sg → Option Value} {y : MethodName} {wsC wsC' : List Cond} {rm : Room} {bytes : ByteArray} {maxL index b n : Nat} {ret : Option FieldType} {As rest : List Value} (hM : xMetS l y wsC rm D cl tys nws (.ref b :: As) ws post ws' v) (hG : GoodIn Ts wsC) (hw : wsC = Cond.code y bytes maxL none :: wsC') (hini : Cond.initialized y.cls ∈ Ts) (hlk : Cond.methodLink own index y ∈ Ts) (hins : Cond.instanceMethod y ∈ Ts) (hy1 : y.name = "<init>") (hdd : y.cls ≠ "java/lang/invoke/MethodHandle" ∧ y.cls ≠ "java/lang/invoke/VarHandle" ∧ (parseMethodDescriptor y.desc).map (fun d => d.parameters.length) = some n) (hn : As.length = n) (hst : st = As.reverse ++ .ref b :: rest) (hWt : (rest.map fun v => v.category).sum ≤ 8) (hd : decode cc pc = .ok (.invokespecial index, 3)) (hR : rm.frames + 1 ≤ R.frames ∧ 8 + (maxL + 11) + rm.locals ≤ R.locals) (hC : cells + rm.cells ≤ R.cells ∧ slots + rm.slots ≤ R.slots) (kk : ∀ u : Sg, post u → xW E D cl nL (cells + rm.cells) (slots + rm.slots) (ws' u) lv (pc + 3) ((v u).toList ++ rest)) : xW E D cl nL cells slots ws lv pc st := by
  intro H locs ls hP hD hS hl
  obtain ⟨F, hl0, hR0, hK, hA, hN⟩ := id S0
  subst hl0; subst hR0
  exact x_goS S0 hP hD hS hl (va_runI (As := As) (rest := rest) (b := b) F (hM H.size) (cwI n F.2.2.2.2 hG hw rfl rfl (S0.w _ hini) (S0.w _ hlk) (S0.w _ hins) hy1 hdd hR) ⟨x_blind, x_pre S0 hP hD⟩ rfl hn hl.1 hst (lv_room hWt) hd hC) kk
/-- an array of small numbers -/
def aN (c : Nat → Nat) : Nat → Int32 := fun i => nI (c i)
theorem aN_up (c : Nat → Nat) (j z : Nat) : upd (aN c) j (nI z) = aN (va_up c j z) := by
  funext i
  by_cases h : i = j
  · subst h; simp [upd, aN, va_up]
  · simp [upd, aN, va_up, h]
theorem x_ialdN (S : xOK E l R D cl tys cc own nL Ts nws) {cA : ClassId} {n a : Nat} {f : Nat → Nat} {i : Int32} (q0 t0 j : Nat) (ha : ws[q0]? = some (a, .inl (cA, n, .inl (aN f)))) (ht : tys[t0]? = some (cA, .int)) (hi : i = nI j) (hj : j < n) (hn : n < 2 ^ 31) (hd : decode cc pc = .ok (.iaload, 1)) (k : xW E D cl nL cells slots ws lv (pc + 1) (.int (nI (f j)) :: st)) : xW E D cl nL cells slots ws lv pc (.int i :: .ref a :: st) := x_iald S q0 t0 j ha ht hi hj hn hd k
theorem x_iastN (S : xOK E l R D cl tys cc own nL Ts nws) {cA : ClassId} {n a z : Nat} {f : Nat → Nat} {i x : Int32} {ws' : va_W} (q0 t0 j : Nat) (ha : ws[q0]? = some (a, .inl (cA, n, .inl (aN f)))) (ht : tys[t0]? = some (cA, .int)) (hi : i = nI j) (hj : j < n) (hn : n < 2 ^ 31) (hz : x = nI z) (hd : decode cc pc = .ok (.iastore, 1)) (hw : ws.set q0 (a, .inl (cA, n, .inl (aN (va_up f j z)))) = ws') (k : xW E D cl nL cells slots ws' lv (pc + 1) st) : xW E D cl nL cells slots ws lv pc (.int x :: .int i :: .ref a :: st) := x_iast S q0 t0 j ha ht hi hj hn hd (by rw [hz, aN_up]; exact hw) k
theorem x_ret {r r' : Int32} (hret : xRet E D cl nL cc cells slots ws (some (.int r))) (hr : r' = r) (hd : decode cc pc = .ok (.ireturn, 1)) : xW E D cl nL cells slots ws lv pc [.int r'] := by
  subst hr
  exact hret lv pc hd
theorem x_mmin (S : xOK E l R D cl tys cc own nL Ts nws) {index : Nat} {x y : Int32} (hlink : Cond.methodLink own index Lib.Math.min.name ∈ Ts) (hstat : Cond.static Lib.Math.min.name ∈ Ts) (hini : Cond.initialized "java/lang/Math" ∈ Ts) (hcode : Cond.code Lib.Math.min.name Lib.Math.min.code 2 (some .int) ∈ Ts) (hframes : 1 ≤ R.frames) (hlocals : (st.map fun v => v.category).sum + 13 ≤ R.locals) (hc : cells ≤ R.cells) (hs : slots ≤ R.slots) (hd : decode cc pc = .ok (.invokestatic index, 3)) (k : xW E D cl nL cells slots ws lv (pc + 3) (.int (if y < x then y else x) :: st)) : xW E D cl nL cells slots ws lv pc (.int y :: .int x :: st) := fun H locs ls hP hD hS hl => va_mmin S.1.1 S.1.2.1 (S.1.2.2.1.trans hl.1.symm) S.1.2.2.2.1 (S.w _ hlink) (S.w _ hstat) (S.w _ hini) (S.w _ hcode) (by rw [S.2.2.1]; exact hframes) (by rw [S.2.2.1]; exact hlocals) (by rw [S.2.2.1]; exact hc) (by rw [S.2.2.1]; exact hs) hd (k H locs ls hP hD hS hl)
theorem x_mmax (S : xOK E l R D cl tys cc own nL Ts nws) {index : Nat} {x y : Int32} (hlink : Cond.methodLink own index Lib.Math.max.name ∈ Ts) (hstat : Cond.static Lib.Math.max.name ∈ Ts) (hini : Cond.initialized "java/lang/Math" ∈ Ts) (hcode : Cond.code Lib.Math.max.name Lib.Math.max.code 2 (some .int) ∈ Ts) (hframes : 1 ≤ R.frames) (hlocals : (st.map fun v => v.category).sum + 13 ≤ R.locals) (hc : cells ≤ R.cells) (hs : slots ≤ R.slots) (hd : decode cc pc = .ok (.invokestatic index, 3)) (k : xW E D cl nL cells slots ws lv (pc + 3) (.int (if x < y then y else x) :: st)) : xW E D cl nL cells slots ws lv pc (.int y :: .int x :: st) := fun H locs ls hP hD hS hl => va_mmax S.1.1 S.1.2.1 (S.1.2.2.1.trans hl.1.symm) S.1.2.2.2.1 (S.w _ hlink) (S.w _ hstat) (S.w _ hini) (S.w _ hcode) (by rw [S.2.2.1]; exact hframes) (by rw [S.2.2.1]; exact hlocals) (by rw [S.2.2.1]; exact hc) (by rw [S.2.2.1]; exact hs) hd (k H locs ls hP hD hS hl)
/-- a world in another order -/
theorem x_perm {ws' : va_W} (is : List Nat) (hn : va_nd is = true) (h : is.map (fun i => ws[i]?) = ws'.map some) (k : xW E D cl nL cells slots ws' lv pc st) : xW E D cl nL cells slots ws lv pc st := fun H locs ls hP hD hS hl => k H locs ls (by
  intro k q hk
  have h1 : (is.map (fun i => ws[i]?))[k]? = some (some q) := by rw [h, List.getElem?_map, hk]; rfl
  rw [List.getElem?_map] at h1
  cases hi : is[k]? with
  | none => rw [hi] at h1; cases h1
  | some i => rw [hi] at h1; exact hP i q (Option.some.inj h1)) (hD.sub is hn h) hS hl
theorem x_swap {w1 w2 : va_W} (k : xW E D cl nL cells slots (w2 ++ w1) lv pc st) : xW E D cl nL cells slots (w1 ++ w2) lv pc st := fun H locs ls hP hD hS hl => k H locs ls (by
  have h1 : va_P D cl w1 H := fun k q hk => hP k q (by rw [List.getElem?_append_left (List.getElem?_eq_some_iff.mp hk).1]; exact hk)
  have h2 : va_P D cl w2 H := fun k q hk => hP (w1.length + k) q (by rw [List.getElem?_append_right (by omega)]; simpa using hk)
  exact va_P.app h2 h1) (by
  have g1 : ∀ (k : Nat) (q : Nat × va_E), w1[k]? = some q → (w1 ++ w2)[k]? = some q := fun k q hk => by rw [List.getElem?_append_left (List.getElem?_eq_some_iff.mp hk).1]; exact hk
  have g2 : ∀ (k : Nat) (q : Nat × va_E), w2[k]? = some q → (w1 ++ w2)[w1.length + k]? = some q := fun k q hk => by rw [List.getElem?_append_right (by omega)]; simpa using hk
  refine va_D.app ⟨fun i j x y hi hj hxy => ?_, fun k q hk => hD.2 _ q (g2 k q hk)⟩ ⟨fun i j x y hi hj hxy => ?_, fun k q hk => hD.2 _ q (g1 k q hk)⟩ (fun i j x y hi hj hxy => ?_)
  · have := hD.1 _ _ x y (g2 i x hi) (g2 j y hj) hxy
    omega
  · exact hD.1 _ _ x y (g1 i x hi) (g1 j y hj) hxy
  · have h3 := hD.1 _ _ x y (g2 i x hi) (g1 j y hj) hxy
    have h4 := (List.getElem?_eq_some_iff.mp hj).1
    omega) hS hl
end XR
end XL
end
