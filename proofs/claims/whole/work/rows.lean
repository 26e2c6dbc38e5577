section
/-! pure rows: counted loops; numbers and sets as bits -/
section BASE
theorem pl_up {P : Nat → Prop} (N : Nat) (h : ∀ k, k ≤ N → (k < N → P (k + 1)) → P k) : ∀ k, k ≤ N → P k := by
  intro k hk
  obtain ⟨d, hd⟩ : ∃ d, N - k = d := ⟨_, rfl⟩
  induction d generalizing k with
  | zero => exact h k hk (fun hlt => absurd hlt (by omega))
  | succ d ih => exact h k hk (fun hlt => ih (k + 1) hlt (by omega))
/-- a measure that falls -/
theorem pl_dn {α : Sort _} {P : α → Prop} (μ : α → Nat) (h : ∀ a, (∀ b, μ b < μ a → P b) → P a) : ∀ a, P a := by
  intro a
  obtain ⟨d, hd⟩ : ∃ d, μ a ≤ d := ⟨_, Nat.le_refl _⟩
  induction d generalizing a with
  | zero => exact h a (fun b hb => absurd hb (by omega))
  | succ d ih => exact h a (fun b hb => ih b (by omega))
theorem pl_inj {a b : Nat} (ha : a < 2 ^ 31) (hb : b < 2 ^ 31) (h : nI a = nI b) : a = b := (nI_eq ha hb).mp h
theorem pl_and (a b : Nat) : nI a &&& nI b = nI (a &&& b) := by
  apply Int32.toBitVec_inj.1
  show BitVec.ofNat 32 a &&& BitVec.ofNat 32 b = BitVec.ofNat 32 (a &&& b)
  apply BitVec.eq_of_getLsbD_eq
  intro i hi
  simp [hi]
theorem pl_or (a b : Nat) : nI a ||| nI b = nI (a ||| b) := by
  apply Int32.toBitVec_inj.1
  show BitVec.ofNat 32 a ||| BitVec.ofNat 32 b = BitVec.ofNat 32 (a ||| b)
  apply BitVec.eq_of_getLsbD_eq
  intro i hi
  simp [hi]
theorem pl_xor (a b : Nat) : nI a ^^^ nI b = nI (a ^^^ b) := by
  apply Int32.toBitVec_inj.1
  show BitVec.ofNat 32 a ^^^ BitVec.ofNat 32 b = BitVec.ofNat 32 (a ^^^ b)
  apply BitVec.eq_of_getLsbD_eq
  intro i hi
  simp [hi]
theorem pl_sl : ∀ n, n < 32 → ((nI n &&& 31).toBitVec.smod 32).toNat = n := by decide +kernel
theorem pl_shl {a v : Nat} (hv : v < 32) (h : a * 2 ^ v < 2 ^ 32) : nI a <<< (nI v &&& 31) = nI (a * 2 ^ v) := pk_shlN _ v (pl_sl v hv) h
theorem pl_one {v : Nat} (hv : v < 31) : (1 : Int32) <<< (nI v &&& 31) = nI (2 ^ v) := by
  have h1 : 2 ^ v < 2 ^ 32 := Nat.pow_lt_pow_right (by omega) (by omega)
  have h := pl_shl (a := 1) (v := v) (by omega) (by omega)
  rw [Nat.one_mul] at h
  exact h
theorem pl_shr {s v : Nat} (hs : s < 2 ^ 31) (hv : v < 32) : nI s >>> (nI v &&& 31) = nI (s / 2 ^ v) := pk_shrN hs _ v (pl_sl v hv)
theorem pl_bit {s v : Nat} (hs : s < 2 ^ 31) (hv : v < 32) : (nI s >>> (nI v &&& 31)) &&& 1 = nI (s / 2 ^ v % 2) := by
  rw [pl_shr hs hv]
  show nI (s / 2 ^ v) &&& nI 1 = _
  rw [pl_and, Nat.and_one_is_mod]
theorem pl_tb {s v : Nat} : s / 2 ^ v % 2 = if s.testBit v then 1 else 0 := by
  rw [Nat.testBit_eq_decide_div_mod_eq]
  have : s / 2 ^ v % 2 < 2 := Nat.mod_lt _ (by omega)
  by_cases h : s / 2 ^ v % 2 = 1
  · simp [h]
  · simp [h]; omega
theorem pl_bit1 {s v : Nat} (hs : s < 2 ^ 31) (hv : v < 32) : (nI s >>> (nI v &&& 31)) &&& 1 = 1 ↔ s.testBit v = true := by
  rw [pl_bit hs hv, pl_tb]
  by_cases h : s.testBit v = true
  · simp [h]; rfl
  · simp [h]; decide
theorem pl_bit0 {s v : Nat} (hs : s < 2 ^ 31) (hv : v < 32) : (nI s >>> (nI v &&& 31)) &&& 1 = 0 ↔ s.testBit v = false := by
  rw [pl_bit hs hv, pl_tb]
  by_cases h : s.testBit v = true
  · simp [h]; decide
  · simp [h]; rfl
theorem pl_bite {s u v : Nat} (hs : s < 2 ^ 31) (hu : u < 32) (hv : v < 32) : (nI s >>> (nI u &&& 31)) &&& 1 = (nI s >>> (nI v &&& 31)) &&& 1 ↔ s.testBit u = s.testBit v := by
  rw [pl_bit hs hu, pl_bit hs hv, pl_tb, pl_tb]
  cases h1 : s.testBit u <;> cases h2 : s.testBit v <;> simp <;> decide
/-- a without b -/
def pl_di (a b : Nat) : Nat := a ^^^ (a &&& b)
theorem pl_di_t (a b i : Nat) : (pl_di a b).testBit i = (a.testBit i && !b.testBit i) := by
  unfold pl_di
  rw [Nat.testBit_xor, Nat.testBit_and]
  cases a.testBit i <;> cases b.testBit i <;> rfl
theorem pl_di_I (a b : Nat) : nI a &&& (nI b ^^^ (-1)) = nI (pl_di a b) := by
  apply Int32.toBitVec_inj.1
  show BitVec.ofNat 32 a &&& (BitVec.ofNat 32 b ^^^ (-1 : Int32).toBitVec) = BitVec.ofNat 32 (pl_di a b)
  rw [show (-1 : Int32).toBitVec = BitVec.allOnes 32 from by decide]
  apply BitVec.eq_of_getLsbD_eq
  intro i hi
  rw [BitVec.getLsbD_and, BitVec.getLsbD_xor, BitVec.getLsbD_allOnes, BitVec.getLsbD_ofNat, BitVec.getLsbD_ofNat, BitVec.getLsbD_ofNat, pl_di_t, decide_eq_true hi]
  cases a.testBit i <;> cases b.testBit i <;> rfl
theorem pl_di_le (a b : Nat) : pl_di a b ≤ a := by
  have h : pl_di a b &&& a = pl_di a b := Nat.eq_of_testBit_eq (fun i => by rw [Nat.testBit_and, pl_di_t]; cases a.testBit i <;> cases b.testBit i <;> rfl)
  rw [← h]
  exact Nat.and_le_right
theorem pl_pow {v n : Nat} (h : v < n) : 2 ^ v < 2 ^ n := Nat.pow_lt_pow_right (by omega) h
theorem pl_pow12 {v : Nat} (h : v ≤ 12) : 2 ^ v ≤ 4096 := Nat.pow_le_pow_right (n := 2) (by omega) h
theorem pl_or_lt {a b n : Nat} (ha : a < 2 ^ n) (hb : b < 2 ^ n) : a ||| b < 2 ^ n := Nat.or_lt_two_pow ha hb
theorem pl_neg (x : Int32) (h : x < 0) : ¬ 0 ≤ x := Int32.not_le.mpr h
theorem pl_of {x : Int32} (h : 0 ≤ x) : ∃ j : Nat, j < 2 ^ 31 ∧ x = nI j := nI_of (Int32.not_lt.mpr h)
theorem pl_of_lt {x : Int32} {n : Nat} (hn : n < 2 ^ 31) (h : 0 ≤ x) (h2 : x < nI n) : ∃ j : Nat, j < n ∧ x = nI j := by
  obtain ⟨j, hj, rfl⟩ := pl_of h
  exact ⟨j, (nI_ltI hj hn).mp h2, rfl⟩
end BASE
end
section
/-! the SETS within a mask, one after another as their bits rise -/
section PURE1
theorem pn_and (x y p q : Nat) (hp : p < 2) (hq : q < 2) : (2 * x + p) &&& (2 * y + q) = 2 * (x &&& y) + (p &&& q) := by
  have h1 : (2 * x + p) / 2 = x := by omega
  have h2 : (2 * y + q) / 2 = y := by omega
  have h3 : (p &&& q) < 2 := by
    rcases (show p = 0 ∨ p = 1 by omega) with rfl | rfl <;> rcases (show q = 0 ∨ q = 1 by omega) with rfl | rfl <;> decide
  have h4 : (2 * (x &&& y) + (p &&& q)) / 2 = x &&& y := by omega
  have a1 : (2 * x + p) % 2 = p := by omega
  have a2 : (2 * y + q) % 2 = q := by omega
  have a3 : (2 * (x &&& y) + (p &&& q)) % 2 = p &&& q := by omega
  apply Nat.eq_of_testBit_eq
  intro i
  cases i with
  | zero =>
    rw [Nat.testBit_and, Nat.testBit_zero, Nat.testBit_zero, Nat.testBit_zero, a1, a2, a3]
    rcases (show p = 0 ∨ p = 1 by omega) with rfl | rfl <;> rcases (show q = 0 ∨ q = 1 by omega) with rfl | rfl <;> rfl
  | succ i => rw [Nat.testBit_and, Nat.testBit_succ, Nat.testBit_succ, Nat.testBit_succ, h1, h2, h4, Nat.testBit_and]
theorem pn_and0 (x y : Nat) : (2 * x) &&& (2 * y) = 2 * (x &&& y) := by
  have h := pn_and x y 0 0 (by omega) (by omega)
  simpa using h
/-- the place i among the SETS within A -/
def pn_dep : Nat → Nat → Nat → Nat
  | 0, _, _ => 0
  | w + 1, A, i => if A % 2 = 1 then 2 * pn_dep w (A / 2) (i / 2) + i % 2 else 2 * pn_dep w (A / 2) i
def pn_pop : Nat → Nat → Nat
  | 0, _ => 0
  | w + 1, A => pn_pop w (A / 2) + A % 2
theorem pn_dep_odd (w A i : Nat) : pn_dep (w + 1) (2 * A + 1) i = 2 * pn_dep w A (i / 2) + i % 2 := by
  show (if (2 * A + 1) % 2 = 1 then 2 * pn_dep w ((2 * A + 1) / 2) (i / 2) + i % 2 else 2 * pn_dep w ((2 * A + 1) / 2) i) = _
  rw [if_pos (by omega), show (2 * A + 1) / 2 = A by omega]
theorem pn_dep_even (w A i : Nat) : pn_dep (w + 1) (2 * A) i = 2 * pn_dep w A i := by
  show (if (2 * A) % 2 = 1 then 2 * pn_dep w ((2 * A) / 2) (i / 2) + i % 2 else 2 * pn_dep w ((2 * A) / 2) i) = _
  rw [if_neg (by omega), show (2 * A) / 2 = A by omega]
theorem pn_pop_odd (w A : Nat) : pn_pop (w + 1) (2 * A + 1) = pn_pop w A + 1 := by
  show pn_pop w ((2 * A + 1) / 2) + (2 * A + 1) % 2 = _
  rw [show (2 * A + 1) / 2 = A by omega, show (2 * A + 1) % 2 = 1 by omega]
theorem pn_pop_even (w A : Nat) : pn_pop (w + 1) (2 * A) = pn_pop w A := by
  show pn_pop w ((2 * A) / 2) + (2 * A) % 2 = _
  rw [show (2 * A) / 2 = A by omega, show (2 * A) % 2 = 0 by omega]
  rfl
theorem pn_eo (A : Nat) : (∃ B, A = 2 * B) ∨ ∃ B, A = 2 * B + 1 := by
  rcases Nat.mod_two_eq_zero_or_one A with h | h
  · exact Or.inl ⟨A / 2, by omega⟩
  · exact Or.inr ⟨A / 2, by omega⟩
theorem pn_dep_sub : ∀ (w A i : Nat), A < 2 ^ w → pn_dep w A i &&& A = pn_dep w A i := by
  intro w
  induction w with
  | zero => intro A i h; simp [pn_dep]
  | succ w ih =>
    intro A i h
    rw [Nat.pow_succ] at h
    rcases pn_eo A with ⟨B, rfl⟩ | ⟨B, rfl⟩
    · rw [pn_dep_even, pn_and0, ih B i (by omega)]
    · rw [pn_dep_odd, pn_and _ _ _ _ (Nat.mod_lt _ (by omega)) (by omega), ih B (i / 2) (by omega)]
      rcases Nat.mod_two_eq_zero_or_one i with h | h <;> rw [h] <;> rfl
theorem pn_dep_le {w A i : Nat} (h : A < 2 ^ w) : pn_dep w A i ≤ A := by
  rw [← pn_dep_sub w A i h]
  exact Nat.and_le_right
theorem pn_sub_c : ∀ (w A d : Nat), A < 2 ^ w → d &&& A = d → (d + (2 ^ w - 1 - A)) &&& A = d := by
  intro w
  induction w with
  | zero =>
    intro A d h h2
    have : A = 0 := by simpa using h
    subst this
    simpa using h2
  | succ w ih =>
    intro A d h h2
    have hp : 2 ^ (w + 1) = 2 * 2 ^ w := by rw [Nat.pow_succ]; omega
    have h0 : 0 < 2 ^ w := Nat.two_pow_pos w
    rcases pn_eo A with ⟨B, rfl⟩ | ⟨B, rfl⟩ <;> rcases pn_eo d with ⟨e, rfl⟩ | ⟨e, rfl⟩
    · rw [pn_and0] at h2
      have h3 := ih B e (by omega) (by omega)
      have h4 := pn_and (e + (2 ^ w - 1 - B)) B 1 0 (by omega) (by omega)
      rw [show 2 * e + (2 ^ (w + 1) - 1 - 2 * B) = 2 * (e + (2 ^ w - 1 - B)) + 1 by omega]
      rw [show 2 * B = 2 * B + 0 by omega, h4, h3]
      rfl
    · have h4 := pn_and e B 1 0 (by omega) (by omega)
      rw [show (2 * B + 0) = 2 * B by omega, h2] at h4
      have : (1 &&& 0 : Nat) = 0 := rfl
      omega
    · have h5 := pn_and e B 0 1 (by omega) (by omega)
      rw [show 2 * e + 0 = 2 * e by omega, h2] at h5
      have h6 : (0 &&& 1 : Nat) = 0 := rfl
      have h3 := ih B e (by omega) (by omega)
      have h4 := pn_and (e + (2 ^ w - 1 - B)) B 0 1 (by omega) (by omega)
      rw [show 2 * e + (2 ^ (w + 1) - 1 - (2 * B + 1)) = 2 * (e + (2 ^ w - 1 - B)) + 0 by omega, h4, h3]
      omega
    · have h5 := pn_and e B 1 1 (by omega) (by omega)
      rw [h2] at h5
      have h6 : (1 &&& 1 : Nat) = 1 := rfl
      have h3 := ih B e (by omega) (by omega)
      have h4 := pn_and (e + (2 ^ w - 1 - B)) B 1 1 (by omega) (by omega)
      rw [show 2 * e + 1 + (2 ^ (w + 1) - 1 - (2 * B + 1)) = 2 * (e + (2 ^ w - 1 - B)) + 1 by omega, h4, h3]
      omega
theorem pn_next : ∀ (w A i : Nat), A < 2 ^ w → i + 1 < 2 ^ pn_pop w A → (pn_dep w A i + 2 ^ w - A) &&& A = pn_dep w A (i + 1) := by
  intro w
  induction w with
  | zero =>
    intro A i h h2
    simp [pn_pop] at h2
  | succ w ih =>
    intro A i h h2
    have hp : 2 ^ (w + 1) = 2 * 2 ^ w := by rw [Nat.pow_succ]; omega
    have h0 : 0 < 2 ^ w := Nat.two_pow_pos w
    rcases pn_eo A with ⟨B, rfl⟩ | ⟨B, rfl⟩
    · rw [pn_pop_even] at h2
      have h3 := ih B i (by omega) h2
      rw [pn_dep_even, pn_dep_even, show 2 * pn_dep w B i + 2 ^ (w + 1) - 2 * B = 2 * (pn_dep w B i + 2 ^ w - B) by omega, pn_and0, h3]
    · rw [pn_pop_odd, Nat.pow_succ] at h2
      rw [pn_dep_odd, pn_dep_odd]
      rcases pn_eo i with ⟨j, rfl⟩ | ⟨j, rfl⟩
      · have hs := pn_sub_c w B (pn_dep w B j) (by omega) (pn_dep_sub w B j (by omega))
        rw [show 2 * j / 2 = j by omega, show 2 * j % 2 = 0 by omega, show (2 * j + 1) / 2 = j by omega, show (2 * j + 1) % 2 = 1 by omega]
        rw [show 2 * pn_dep w B j + 0 + 2 ^ (w + 1) - (2 * B + 1) = 2 * (pn_dep w B j + (2 ^ w - 1 - B)) + 1 by omega, pn_and _ _ _ _ (by omega) (by omega), hs]
        rfl
      · have h3 := ih B j (by omega) (by omega)
        rw [show (2 * j + 1) / 2 = j by omega, show (2 * j + 1) % 2 = 1 by omega, show (2 * j + 1 + 1) / 2 = j + 1 by omega, show (2 * j + 1 + 1) % 2 = 0 by omega]
        rw [show 2 * pn_dep w B j + 1 + 2 ^ (w + 1) - (2 * B + 1) = 2 * (pn_dep w B j + 2 ^ w - B) + 0 by omega, pn_and _ _ _ _ (by omega) (by omega), h3]
        rfl
theorem pn_mono : ∀ (w A i j : Nat), A < 2 ^ w → i < j → j < 2 ^ pn_pop w A → pn_dep w A i < pn_dep w A j := by
  intro w
  induction w with
  | zero =>
    intro A i j h h2 h3
    simp [pn_pop] at h3
    omega
  | succ w ih =>
    intro A i j h h2 h3
    have hp : 2 ^ (w + 1) = 2 * 2 ^ w := by rw [Nat.pow_succ]; omega
    rcases pn_eo A with ⟨B, rfl⟩ | ⟨B, rfl⟩
    · rw [pn_pop_even] at h3
      have := ih B i j (by omega) h2 h3
      rw [pn_dep_even, pn_dep_even]
      omega
    · rw [pn_pop_odd, Nat.pow_succ] at h3
      rw [pn_dep_odd, pn_dep_odd]
      rcases Nat.lt_or_ge (i / 2) (j / 2) with h4 | h4
      · have := ih B (i / 2) (j / 2) (by omega) h4 (by omega)
        omega
      · have : i / 2 = j / 2 := by omega
        rw [this]
        omega
theorem pn_surj : ∀ (w A T : Nat), A < 2 ^ w → T &&& A = T → ∃ i, i < 2 ^ pn_pop w A ∧ T = pn_dep w A i := by
  intro w
  induction w with
  | zero =>
    intro A T h h2
    have : A = 0 := by simpa using h
    subst this
    exact ⟨0, by simp [pn_pop], by simpa [pn_dep] using h2.symm⟩
  | succ w ih =>
    intro A T h h2
    have hp : 2 ^ (w + 1) = 2 * 2 ^ w := by rw [Nat.pow_succ]; omega
    rcases pn_eo A with ⟨B, rfl⟩ | ⟨B, rfl⟩ <;> rcases pn_eo T with ⟨e, rfl⟩ | ⟨e, rfl⟩
    · rw [pn_and0] at h2
      obtain ⟨i, h3, h4⟩ := ih B e (by omega) (by omega)
      exact ⟨i, by rw [pn_pop_even]; exact h3, by rw [pn_dep_even, ← h4]⟩
    · have h4 := pn_and e B 1 0 (by omega) (by omega)
      rw [show (2 * B + 0) = 2 * B by omega, h2] at h4
      have : (1 &&& 0 : Nat) = 0 := rfl
      omega
    · have h5 := pn_and e B 0 1 (by omega) (by omega)
      rw [show 2 * e + 0 = 2 * e by omega, h2] at h5
      have h6 : (0 &&& 1 : Nat) = 0 := rfl
      obtain ⟨i, h3, h4⟩ := ih B e (by omega) (by omega)
      exact ⟨2 * i, by rw [pn_pop_odd, Nat.pow_succ]; omega, by rw [pn_dep_odd, show 2 * i / 2 = i by omega, ← h4]; omega⟩
    · have h5 := pn_and e B 1 1 (by omega) (by omega)
      rw [h2] at h5
      have h6 : (1 &&& 1 : Nat) = 1 := rfl
      obtain ⟨i, h3, h4⟩ := ih B e (by omega) (by omega)
      exact ⟨2 * i + 1, by rw [pn_pop_odd, Nat.pow_succ]; omega, by rw [pn_dep_odd, show (2 * i + 1) / 2 = i by omega, ← h4]; omega⟩
theorem pn_zero : ∀ (w A : Nat), pn_dep w A 0 = 0 := by
  intro w
  induction w with
  | zero => intro A; rfl
  | succ w ih =>
    intro A
    rcases pn_eo A with ⟨B, rfl⟩ | ⟨B, rfl⟩
    · rw [pn_dep_even, ih]
    · rw [pn_dep_odd, show 0 / 2 = 0 by omega, ih]
end PURE1
end
section
/-! sums; the CUT of a SET; one NODE more -/
section CUT
def sm (f : Nat → Nat) : Nat → Nat
  | 0 => 0
  | k + 1 => sm f k + f k
theorem sm_add (f g : Nat → Nat) (k : Nat) : sm (fun i => f i + g i) k = sm f k + sm g k := by
  induction k with
  | zero => rfl
  | succ k ih => simp only [sm]; omega
theorem sm_congr {f g : Nat → Nat} {k : Nat} (h : ∀ i, i < k → f i = g i) : sm f k = sm g k := by
  induction k with
  | zero => rfl
  | succ k ih => simp only [sm]; rw [ih (fun i hi => h i (by omega)), h k (by omega)]
theorem sm_le {f g : Nat → Nat} {k : Nat} (h : ∀ i, i < k → f i ≤ g i) : sm f k ≤ sm g k := by
  induction k with
  | zero => exact Nat.le_refl _
  | succ k ih => simp only [sm]; have := ih (fun i hi => h i (by omega)); have := h k (by omega); omega
theorem sm_c (c k : Nat) : sm (fun _ => c) k = c * k := by
  induction k with
  | zero => rfl
  | succ k ih => simp only [sm]; rw [ih, Nat.mul_succ]
theorem sm_bd {f : Nat → Nat} {k c : Nat} (h : ∀ i, i < k → f i ≤ c) : sm f k ≤ c * k := by
  have := sm_le (g := fun _ => c) h
  rwa [sm_c] at this
theorem sm_0 {f : Nat → Nat} {k : Nat} (h : ∀ i, i < k → f i = 0) : sm f k = 0 := by
  have h1 := sm_congr (g := fun _ => 0) h
  rw [h1, sm_c]
  omega
theorem sm_one {n u w : Nat} (h : u < n) : sm (fun i => if i = u then w else 0) n = w := by
  induction n with
  | zero => omega
  | succ n ih =>
    simp only [sm]
    rcases Nat.lt_or_ge u n with h1 | h1
    · rw [ih h1, if_neg (by omega)]
      omega
    · have : u = n := by omega
      subst this
      rw [sm_0 (fun i hi => if_neg (by omega)), if_pos rfl]
      omega
theorem sm_mul (c : Nat) (f : Nat → Nat) (k : Nat) : sm (fun i => c * f i) k = c * sm f k := by
  induction k with
  | zero => rfl
  | succ k ih => simp only [sm]; rw [ih, Nat.mul_add]
/-- the CUT of S, the first k ARCS counted -/
def kC (fr to wt : Nat → Nat) (k S : Nat) : Nat := sm (fun i => if S.testBit (fr i) = S.testBit (to i) then 0 else wt i) k
/-- between a and b -/
def kM (fr to wt : Nat → Nat) (k a b : Nat) : Nat := sm (fun i => if (fr i = a ∧ to i = b) ∨ (fr i = b ∧ to i = a) then wt i else 0) k
theorem kC_co {fr to wt : Nat → Nat} {k n S : Nat} (h : ∀ i, i < k → fr i < n ∧ to i < n) : kC fr to wt k (pl_di (2 ^ n - 1) S) = kC fr to wt k S := by
  refine sm_congr (fun i hi => ?_)
  have h1 : ∀ v, v < n → (pl_di (2 ^ n - 1) S).testBit v = !S.testBit v := fun v hv => by
    rw [pl_di_t, Nat.testBit_two_pow_sub_one, decide_eq_true hv, Bool.true_and]
  obtain ⟨a, b⟩ := h i hi
  simp only [h1 _ a, h1 _ b]
  cases S.testBit (fr i) <;> cases S.testBit (to i) <;> rfl
theorem kC_0 {fr to wt : Nat → Nat} {k : Nat} : kC fr to wt k 0 = 0 := sm_0 (fun i _ => by simp)
theorem kC_bd {fr to wt : Nat → Nat} {k S c : Nat} (h : ∀ i, i < k → wt i ≤ c) : kC fr to wt k S ≤ c * k := sm_bd (fun i hi => by
  have := h i hi
  by_cases h2 : S.testBit (fr i) = S.testBit (to i)
  · simp [h2]
  · simp [h2, this])
theorem kM_bd {fr to wt : Nat → Nat} {k a b c : Nat} (h : ∀ i, i < k → wt i ≤ c) : kM fr to wt k a b ≤ c * k := sm_bd (fun i hi => by
  have := h i hi
  by_cases h2 : (fr i = a ∧ to i = b) ∨ (fr i = b ∧ to i = a)
  · rw [if_pos h2]; exact this
  · rw [if_neg h2]; omega)
/-- the weights at v whose other NODE has p -/
theorem kM_sum {fr to wt : Nat → Nat} {k n v : Nat} (p : Nat → Bool) (h : ∀ i, i < k → fr i < n ∧ to i < n ∧ fr i ≠ to i) :
    sm (fun u => if p u = true then kM fr to wt k v u else 0) n = sm (fun i => if (fr i = v ∧ p (to i) = true) ∨ (to i = v ∧ p (fr i) = true) then wt i else 0) k := by
  induction k with
  | zero =>
    exact sm_0 (fun u _ => by by_cases hp : p u = true <;> simp [hp, kM, sm])
  | succ k ih =>
    have ih := ih (fun i hi => h i (by omega))
    obtain ⟨h1, h2, h3⟩ := h k (by omega)
    have e1 : sm (fun u => if p u = true then kM fr to wt (k + 1) v u else 0) n = sm (fun u => if p u = true then kM fr to wt k v u else 0) n + sm (fun u => if p u = true ∧ ((fr k = v ∧ to k = u) ∨ (fr k = u ∧ to k = v)) then wt k else 0) n := by
      rw [← sm_add]
      refine sm_congr (fun u _ => ?_)
      by_cases hp : p u = true
      · simp [hp, kM, sm]
      · simp [hp]
    have e2 : sm (fun u => if p u = true ∧ ((fr k = v ∧ to k = u) ∨ (fr k = u ∧ to k = v)) then wt k else 0) n = if (fr k = v ∧ p (to k) = true) ∨ (to k = v ∧ p (fr k) = true) then wt k else 0 := by
      by_cases c1 : fr k = v
      · have c2 : ¬ to k = v := fun e => h3 (c1.trans e.symm)
        by_cases c3 : p (to k) = true
        · rw [if_pos (Or.inl ⟨c1, c3⟩)]
          refine Eq.trans (sm_congr (g := fun i => if i = to k then wt k else 0) (fun u _ => ?_)) (sm_one h2)
          by_cases hu : u = to k
          · subst hu
            rw [if_pos ⟨c3, Or.inl ⟨c1, rfl⟩⟩, if_pos rfl]
          · rw [if_neg hu, if_neg (fun q => q.2.elim (fun z => hu z.2.symm) (fun z => c2 z.2))]
        · rw [if_neg (fun q => q.elim (fun z => c3 z.2) (fun z => c2 z.1))]
          refine sm_0 (fun u _ => if_neg (fun q => q.2.elim (fun z => c3 (z.2 ▸ q.1)) (fun z => c2 z.2)))
      · by_cases c2 : to k = v
        · by_cases c3 : p (fr k) = true
          · rw [if_pos (Or.inr ⟨c2, c3⟩)]
            refine Eq.trans (sm_congr (g := fun i => if i = fr k then wt k else 0) (fun u _ => ?_)) (sm_one h1)
            by_cases hu : u = fr k
            · subst hu
              rw [if_pos ⟨c3, Or.inr ⟨rfl, c2⟩⟩, if_pos rfl]
            · rw [if_neg hu, if_neg (fun q => q.2.elim (fun z => c1 z.1) (fun z => hu z.1.symm))]
          · rw [if_neg (fun q => q.elim (fun z => c1 z.1) (fun z => c3 z.2))]
            refine sm_0 (fun u _ => if_neg (fun q => q.2.elim (fun z => c1 z.1) (fun z => c3 (z.1 ▸ q.1))))
        · rw [if_neg (fun q => q.elim (fun z => c1 z.1) (fun z => c2 z.1))]
          refine sm_0 (fun u _ => if_neg (fun q => q.2.elim (fun z => c1 z.1) (fun z => c2 z.2)))
    rw [e1, e2, ih]
    rfl
/-- one NODE more -/
theorem kC_step {fr to wt : Nat → Nat} {k n v S : Nat} (h : ∀ i, i < k → fr i < n ∧ to i < n ∧ fr i ≠ to i) (hv : S.testBit v = false) :
    kC fr to wt k (S ||| 2 ^ v) + 2 * sm (fun u => if S.testBit u = true then kM fr to wt k v u else 0) n = kC fr to wt k S + sm (fun u => kM fr to wt k v u) n := by
  have e1 := kM_sum (fr := fr) (to := to) (wt := wt) (k := k) (n := n) (v := v) (fun u => S.testBit u) h
  have e2 := kM_sum (fr := fr) (to := to) (wt := wt) (k := k) (n := n) (v := v) (fun _ => true) h
  simp only [if_true, and_true] at e2
  rw [e1, e2]
  unfold kC
  rw [← sm_mul, ← sm_add, ← sm_add]
  refine sm_congr (fun i hi => ?_)
  obtain ⟨h1, h2, h3⟩ := h i hi
  have t : ∀ u, (S ||| 2 ^ v).testBit u = (S.testBit u || decide (v = u)) := fun u => by rw [Nat.testBit_or, Nat.testBit_two_pow]
  simp only [t]
  by_cases c1 : fr i = v
  · have c2 : ¬ to i = v := fun e => h3 (c1.trans e.symm)
    have c4 : ¬ v = to i := fun e => c2 e.symm
    subst c1
    cases hb : S.testBit (to i) <;> simp [hv, hb, c2, c4] <;> omega
  · by_cases c2 : to i = v
    · have c4 : ¬ v = fr i := fun e => c1 e.symm
      subst c2
      cases hb : S.testBit (fr i) <;> simp [hv, hb, c1, c4] <;> omega
    · have c3 : ¬ v = fr i := fun e => c1 e.symm
      have c4 : ¬ v = to i := fun e => c2 e.symm
      simp [c1, c2, c3, c4]
end CUT
end
section
/-! the first of the least -/
section PURE2
def isFM (f : Nat → Nat) (P : Nat → Prop) (S : Nat) : Prop := P S ∧ (∀ T, P T → f S ≤ f T) ∧ ∀ T, P T → T < S → f S < f T
theorem isFM_uniq {f : Nat → Nat} {P : Nat → Prop} {S S' : Nat} (h : isFM f P S) (h' : isFM f P S') : S = S' := by
  rcases Nat.lt_trichotomy S S' with c | c | c
  · have := h'.2.2 S h.1 c
    have := h.2.1 S' h'.1
    omega
  · exact c
  · have := h.2.2 S' h'.1 c
    have := h'.2.1 S h.1
    omega
theorem isFM_congr {f g : Nat → Nat} {P Q : Nat → Prop} {S : Nat} (hP : ∀ T, P T ↔ Q T) (hf : ∀ T, P T → f T = g T) (h : isFM f P S) : isFM g Q S := by
  refine ⟨(hP S).mp h.1, fun T hT => ?_, fun T hT hlt => ?_⟩
  · have hT' := (hP T).mpr hT
    rw [← hf S h.1, ← hf T hT']
    exact h.2.1 T hT'
  · have hT' := (hP T).mpr hT
    rw [← hf S h.1, ← hf T hT']
    exact h.2.2 T hT' hlt
/-- one more is looked at, as they rise -/
theorem isFM_step {f : Nat → Nat} {P Q : Nat → Prop} {S T : Nat} (h : isFM f P S) (hQ : ∀ U, Q U ↔ P U ∨ U = T) (hT : ∀ U, P U → U < T) : isFM f Q (if f T < f S then T else S) := by
  by_cases c : f T < f S
  · rw [if_pos c]
    refine ⟨(hQ T).mpr (Or.inr rfl), fun U hU => ?_, fun U hU hlt => ?_⟩
    · rcases (hQ U).mp hU with q | rfl
      · have := h.2.1 U q; omega
      · exact Nat.le_refl _
    · rcases (hQ U).mp hU with q | rfl
      · have := h.2.1 U q; omega
      · omega
  · rw [if_neg c]
    refine ⟨(hQ S).mpr (Or.inl h.1), fun U hU => ?_, fun U hU hlt => ?_⟩
    · rcases (hQ U).mp hU with q | rfl
      · exact h.2.1 U q
      · omega
    · rcases (hQ U).mp hU with q | rfl
      · exact h.2.2 U q hlt
      · have := hT S h.1; omega
theorem isFM_one {f : Nat → Nat} {P : Nat → Prop} {S : Nat} (h : ∀ U, P U ↔ U = S) : isFM f P S := by
  refine ⟨(h S).mpr rfl, fun T hT => ?_, fun T hT hlt => ?_⟩
  · rw [(h T).mp hT]; exact Nat.le_refl _
  · have := (h T).mp hT; omega
end PURE2
end
section
/-! THE x-LIBRARY: the kit's rows under one judgement. xW E .. ws lv pc st: from every heap that holds the world ws, with locals lv and stack st, the machine at pc comes to the goal of E. -/
section XL
abbrev xE := Program × Launch × Env × Room × State × MethodId × Array Value × List Frame × Method × Code × (State → Prop) × (Nat → Prop)
abbrev xE.p (E : xE) : Program := E.1
abbrev xE.l (E : xE) : Launch := E.2.1
abbrev xE.e (E : xE) : Env := E.2.2.1
abbrev xE.R (E : xE) : Room := E.2.2.2.1
abbrev xE.s (E : xE) : State := E.2.2.2.2.1
abbrev xE.m (E : xE) : MethodId := E.2.2.2.2.2.1
abbrev xE.args (E : xE) : Array Value := E.2.2.2.2.2.2.1
abbrev xE.below (E : xE) : List Frame := E.2.2.2.2.2.2.2.1
abbrev xE.meth (E : xE) : Method := E.2.2.2.2.2.2.2.2.1
abbrev xE.c (E : xE) : Code := E.2.2.2.2.2.2.2.2.2.1
abbrev xE.Q (E : xE) : State → Prop := E.2.2.2.2.2.2.2.2.2.2.1
abbrev xE.A (E : xE) : Nat → Prop := E.2.2.2.2.2.2.2.2.2.2.2
abbrev xN : Type := List (String × Nat × MethodName × String)
def xNw (nws : xN) (U : State) : Prop := ∀ q ∈ nws, va_Nw (.methodLinkNest q.1 q.2.1 q.2.2.1 q.2.2.2) U
theorem xNw.same {nws : xN} {u U : State} (h : u.vm = U.vm) (H : xNw nws u) : xNw nws U := fun q hq => (H q hq).same rfl h
theorem xNw.warm {nws : xN} {s U : State} (h : s.WarmedH U.vm) (H : xNw nws s) : xNw nws U := fun q hq => va_Nw.warmM h (H q hq)
def xW (E : xE) (D : va_G) (cl : List vw_C) (nL cells slots : Nat) (ws : va_W) (lv : List (Nat × Value)) (pc : Nat) (st : List Value) : Prop :=
  ∀ (H : Heap) (locs : List Loc) (ls : Array Slot), va_P D cl ws H → va_D E.A ws → va_S E.A E.s.heap H locs → lv_has ls nL lv → W E.p E.l E.e E.R E.s E.m E.args E.below E.meth E.c H locs cells slots E.Q (F0 E.m pc ls st)
def xOK (E : xE) (l : Launch) (R : Room) (D : va_G) (cl : List vw_C) (tys : List (ClassId × FieldType)) (cc : ByteArray) (own : String) (nL : Nat) (Ts : List Cond) (nws : xN) : Prop :=
  CallFix E.p E.m E.c cc nL E.s E.args Ts own ∧ E.l = l ∧ E.R = R ∧ va_K D cl tys E.s ∧ (∀ q, E.s.heap.size ≤ q → E.A q) ∧ xNw nws E.s
section XR
variable {E : xE} {l : Launch} {R : Room} {D : va_G} {cl : List vw_C} {tys : List (ClassId × FieldType)} {cc : ByteArray} {own : String} {nL : Nat} {Ts : List Cond} {nws : xN} {cells slots : Nat} {ws : va_W} {lv : List (Nat × Value)} {pc : Nat} {st : List Value}
theorem xOK.w (S : xOK E l R D cl tys cc own nL Ts nws) (w : Cond) (h : w ∈ Ts) : w.before E.args E.s = true := S.1.2.2.2.2 w h
theorem x_iconst (S : xOK E l R D cl tys cc own nL Ts nws) {n : Int} {v : Int32} (hd : decode cc pc = .ok (.iconst n, 1)) (hv : Int32.ofInt n = v) (k : xW E D cl nL cells slots ws lv (pc + 1) (.int v :: st)) : xW E D cl nL cells slots ws lv pc st := fun H locs ls hP hD hS hl => lv_iconst S.1.1 S.1.2.1 hd hv (k H locs ls hP hD hS hl)
theorem x_bipush (S : xOK E l R D cl tys cc own nL Ts nws) {n : Int} {v : Int32} (hd : decode cc pc = .ok (.bipush n, 2)) (hv : (Int8.ofInt n).toInt32 = v) (k : xW E D cl nL cells slots ws lv (pc + 2) (.int v :: st)) : xW E D cl nL cells slots ws lv pc st := fun H locs ls hP hD hS hl => lv_bipush S.1.1 S.1.2.1 hd hv (k H locs ls hP hD hS hl)
theorem x_sipush (S : xOK E l R D cl tys cc own nL Ts nws) {n : Int} {v : Int32} (hd : decode cc pc = .ok (.sipush n, 3)) (hv : (Int16.ofInt n).toInt32 = v) (k : xW E D cl nL cells slots ws lv (pc + 3) (.int v :: st)) : xW E D cl nL cells slots ws lv pc st := fun H locs ls hP hD hS hl => lv_sipush S.1.1 S.1.2.1 hd hv (k H locs ls hP hD hS hl)
theorem x_ldc (S : xOK E l R D cl tys cc own nL Ts nws) {index : Nat} {v : Int32} (hc : Jvm.Cond.constant own index v ∈ Ts) (hd : decode cc pc = .ok (.ldc index, 2)) (k : xW E D cl nL cells slots ws lv (pc + 2) (.int v :: st)) : xW E D cl nL cells slots ws lv pc st := fun H locs ls hP hD hS hl => lv_ldc S.1.1 S.1.2.1 S.1.2.2.2.1 (S.w _ hc) hd (k H locs ls hP hD hS hl)
theorem x_iload_n (S : xOK E l R D cl tys cc own nL Ts nws) {j : Fin 4} {i : Nat} {x : Int32} (hd : decode cc pc = .ok (.iload_n j, 1)) (q : Nat) (hq : lv[q]? = some (i, .int x)) (hi : (j : Nat) = i) (k : xW E D cl nL cells slots ws lv (pc + 1) (.int x :: st)) : xW E D cl nL cells slots ws lv pc st := fun H locs ls hP hD hS hl => lv_iload_n S.1.1 S.1.2.1 hd hi (lv_at hl q hq) (k H locs ls hP hD hS hl)
theorem x_iload (S : xOK E l R D cl tys cc own nL Ts nws) {i : Nat} {x : Int32} (hd : decode cc pc = .ok (.iload i, 2)) (q : Nat) (hq : lv[q]? = some (i, .int x)) (k : xW E D cl nL cells slots ws lv (pc + 2) (.int x :: st)) : xW E D cl nL cells slots ws lv pc st := fun H locs ls hP hD hS hl => lv_iload S.1.1 S.1.2.1 hd (lv_at hl q hq) (k H locs ls hP hD hS hl)
theorem x_aload_n (S : xOK E l R D cl tys cc own nL Ts nws) {j : Fin 4} {i : Nat} {x : Nat} (hd : decode cc pc = .ok (.aload_n j, 1)) (q : Nat) (hq : lv[q]? = some (i, .ref x)) (hi : (j : Nat) = i) (k : xW E D cl nL cells slots ws lv (pc + 1) (.ref x :: st)) : xW E D cl nL cells slots ws lv pc st := fun H locs ls hP hD hS hl => lv_aload_n S.1.1 S.1.2.1 hd hi (lv_at hl q hq) (k H locs ls hP hD hS hl)
theorem x_aload (S : xOK E l R D cl tys cc own nL Ts nws) {i : Nat} {x : Nat} (hd : decode cc pc = .ok (.aload i, 2)) (q : Nat) (hq : lv[q]? = some (i, .ref x)) (k : xW E D cl nL cells slots ws lv (pc + 2) (.ref x :: st)) : xW E D cl nL cells slots ws lv pc st := fun H locs ls hP hD hS hl => lv_aload S.1.1 S.1.2.1 hd (lv_at hl q hq) (k H locs ls hP hD hS hl)
theorem x_istore_n (S : xOK E l R D cl tys cc own nL Ts nws) {j : Fin 4} {i : Nat} {x : Int32} {lv' : List (Nat × Value)} (hd : decode cc pc = .ok (.istore_n j, 1)) (hi : (j : Nat) = i) (hn : i < nL) (hl' : (i, Value.int x) :: lv.filter (fun q => !(q.1 == i) && !(q.1 + 1 == i && q.2.category == 2)) = lv') (k : xW E D cl nL cells slots ws lv' (pc + 1) st) : xW E D cl nL cells slots ws lv pc (Value.int x :: st) := fun H locs ls hP hD hS hl => lv_istore_n S.1.1 S.1.2.1 hd hi hl hn hl' (fun ls' h => k H locs ls' hP hD hS h)
theorem x_istore (S : xOK E l R D cl tys cc own nL Ts nws) {i : Nat} {x : Int32} {lv' : List (Nat × Value)} (hd : decode cc pc = .ok (.istore i, 2)) (hn : i < nL) (hl' : (i, Value.int x) :: lv.filter (fun q => !(q.1 == i) && !(q.1 + 1 == i && q.2.category == 2)) = lv') (k : xW E D cl nL cells slots ws lv' (pc + 2) st) : xW E D cl nL cells slots ws lv pc (Value.int x :: st) := fun H locs ls hP hD hS hl => lv_istore S.1.1 S.1.2.1 hd hl hn hl' (fun ls' h => k H locs ls' hP hD hS h)
theorem x_astore_n (S : xOK E l R D cl tys cc own nL Ts nws) {j : Fin 4} {i : Nat} {x : Nat} {lv' : List (Nat × Value)} (hd : decode cc pc = .ok (.astore_n j, 1)) (hi : (j : Nat) = i) (hn : i < nL) (hl' : (i, Value.ref x) :: lv.filter (fun q => !(q.1 == i) && !(q.1 + 1 == i && q.2.category == 2)) = lv') (k : xW E D cl nL cells slots ws lv' (pc + 1) st) : xW E D cl nL cells slots ws lv pc (Value.ref x :: st) := fun H locs ls hP hD hS hl => lv_astore_n S.1.1 S.1.2.1 hd hi hl hn hl' (fun ls' h => k H locs ls' hP hD hS h)
theorem x_astore (S : xOK E l R D cl tys cc own nL Ts nws) {i : Nat} {x : Nat} {lv' : List (Nat × Value)} (hd : decode cc pc = .ok (.astore i, 2)) (hn : i < nL) (hl' : (i, Value.ref x) :: lv.filter (fun q => !(q.1 == i) && !(q.1 + 1 == i && q.2.category == 2)) = lv') (k : xW E D cl nL cells slots ws lv' (pc + 2) st) : xW E D cl nL cells slots ws lv pc (Value.ref x :: st) := fun H locs ls hP hD hS hl => lv_astore S.1.1 S.1.2.1 hd hl hn hl' (fun ls' h => k H locs ls' hP hD hS h)
theorem x_iinc (S : xOK E l R D cl tys cc own nL Ts nws) {i : Nat} {n : Int} {x v : Int32} {lv' : List (Nat × Value)} (hd : decode cc pc = .ok (.iinc i n, 3)) (q : Nat) (hq : lv[q]? = some (i, .int x)) (hv : x + Int32.ofInt n = v) (hn : i < nL) (hl' : (i, Value.int v) :: lv.filter (fun q => !(q.1 == i) && !(q.1 + 1 == i && q.2.category == 2)) = lv') (k : xW E D cl nL cells slots ws lv' (pc + 3) st) : xW E D cl nL cells slots ws lv pc st := fun H locs ls hP hD hS hl => lv_iinc S.1.1 S.1.2.1 hd hl hq hv hn hl' (fun ls' h => k H locs ls' hP hD hS h)
theorem x_iadd (S : xOK E l R D cl tys cc own nL Ts nws) {x y : Int32} (hd : decode cc pc = .ok (.iadd, 1)) (k : xW E D cl nL cells slots ws lv (pc + 1) (.int (x + y) :: st)) : xW E D cl nL cells slots ws lv pc (.int y :: .int x :: st) := fun H locs ls hP hD hS hl => lv_iadd S.1.1 S.1.2.1 hd (k H locs ls hP hD hS hl)
theorem x_isub (S : xOK E l R D cl tys cc own nL Ts nws) {x y : Int32} (hd : decode cc pc = .ok (.isub, 1)) (k : xW E D cl nL cells slots ws lv (pc + 1) (.int (x - y) :: st)) : xW E D cl nL cells slots ws lv pc (.int y :: .int x :: st) := fun H locs ls hP hD hS hl => lv_isub S.1.1 S.1.2.1 hd (k H locs ls hP hD hS hl)
theorem x_imul (S : xOK E l R D cl tys cc own nL Ts nws) {x y : Int32} (hd : decode cc pc = .ok (.imul, 1)) (k : xW E D cl nL cells slots ws lv (pc + 1) (.int (x * y) :: st)) : xW E D cl nL cells slots ws lv pc (.int y :: .int x :: st) := fun H locs ls hP hD hS hl => lv_imul S.1.1 S.1.2.1 hd (k H locs ls hP hD hS hl)
theorem x_iand (S : xOK E l R D cl tys cc own nL Ts nws) {x y : Int32} (hd : decode cc pc = .ok (.iand, 1)) (k : xW E D cl nL cells slots ws lv (pc + 1) (.int (x &&& y) :: st)) : xW E D cl nL cells slots ws lv pc (.int y :: .int x :: st) := fun H locs ls hP hD hS hl => lv_iand S.1.1 S.1.2.1 hd (k H locs ls hP hD hS hl)
theorem x_ior (S : xOK E l R D cl tys cc own nL Ts nws) {x y : Int32} (hd : decode cc pc = .ok (.ior, 1)) (k : xW E D cl nL cells slots ws lv (pc + 1) (.int (x ||| y) :: st)) : xW E D cl nL cells slots ws lv pc (.int y :: .int x :: st) := fun H locs ls hP hD hS hl => lv_ior S.1.1 S.1.2.1 hd (k H locs ls hP hD hS hl)
theorem x_ixor (S : xOK E l R D cl tys cc own nL Ts nws) {x y : Int32} (hd : decode cc pc = .ok (.ixor, 1)) (k : xW E D cl nL cells slots ws lv (pc + 1) (.int (x ^^^ y) :: st)) : xW E D cl nL cells slots ws lv pc (.int y :: .int x :: st) := fun H locs ls hP hD hS hl => lv_ixor S.1.1 S.1.2.1 hd (k H locs ls hP hD hS hl)
theorem x_ishl (S : xOK E l R D cl tys cc own nL Ts nws) {x y : Int32} (hd : decode cc pc = .ok (.ishl, 1)) (k : xW E D cl nL cells slots ws lv (pc + 1) (.int (x <<< (y &&& 31)) :: st)) : xW E D cl nL cells slots ws lv pc (.int y :: .int x :: st) := fun H locs ls hP hD hS hl => lv_ishl S.1.1 S.1.2.1 hd (k H locs ls hP hD hS hl)
theorem x_ishr (S : xOK E l R D cl tys cc own nL Ts nws) {x y : Int32} (hd : decode cc pc = .ok (.ishr, 1)) (k : xW E D cl nL cells slots ws lv (pc + 1) (.int (x >>> (y &&& 31)) :: st)) : xW E D cl nL cells slots ws lv pc (.int y :: .int x :: st) := fun H locs ls hP hD hS hl => lv_ishr S.1.1 S.1.2.1 hd (k H locs ls hP hD hS hl)
theorem x_idiv (S : xOK E l R D cl tys cc own nL Ts nws) {x y : Int32} (hd : decode cc pc = .ok (.idiv, 1)) (hne : ¬ y = 0) (k : xW E D cl nL cells slots ws lv (pc + 1) (.int (x / y) :: st)) : xW E D cl nL cells slots ws lv pc (.int y :: .int x :: st) := fun H locs ls hP hD hS hl => lv_idiv S.1.1 S.1.2.1 hd hne (k H locs ls hP hD hS hl)
theorem x_irem (S : xOK E l R D cl tys cc own nL Ts nws) {x y : Int32} (hd : decode cc pc = .ok (.irem, 1)) (hne : ¬ y = 0) (k : xW E D cl nL cells slots ws lv (pc + 1) (.int (x - x / y * y) :: st)) : xW E D cl nL cells slots ws lv pc (.int y :: .int x :: st) := fun H locs ls hP hD hS hl => lv_irem S.1.1 S.1.2.1 hd hne (k H locs ls hP hD hS hl)
theorem x_iushr (S : xOK E l R D cl tys cc own nL Ts nws) {x y : Int32} (hd : decode cc pc = .ok (.iushr, 1)) (k : xW E D cl nL cells slots ws lv (pc + 1) (.int ((x.toUInt32 >>> (y.toUInt32 &&& Int32.toUInt32 31)).toInt32) :: st)) : xW E D cl nL cells slots ws lv pc (.int y :: .int x :: st) := fun H locs ls hP hD hS hl => lv_iushr S.1.1 S.1.2.1 hd rfl (k H locs ls hP hD hS hl)
theorem x_ineg (S : xOK E l R D cl tys cc own nL Ts nws) {x : Int32} (hd : decode cc pc = .ok (.ineg, 1)) (k : xW E D cl nL cells slots ws lv (pc + 1) (.int (-x) :: st)) : xW E D cl nL cells slots ws lv pc (.int x :: st) := fun H locs ls hP hD hS hl => lv_ineg S.1.1 S.1.2.1 hd (k H locs ls hP hD hS hl)
theorem x_dup (S : xOK E l R D cl tys cc own nL Ts nws) {a : Value} (hd : decode cc pc = .ok (.dup, 1)) (ha : a.category = 1) (k : xW E D cl nL cells slots ws lv (pc + 1) (a :: a :: st)) : xW E D cl nL cells slots ws lv pc (a :: st) := fun H locs ls hP hD hS hl => lv_dup S.1.1 S.1.2.1 hd ha (k H locs ls hP hD hS hl)
theorem x_pop (S : xOK E l R D cl tys cc own nL Ts nws) {a : Value} (hd : decode cc pc = .ok (.pop, 1)) (ha : a.category = 1) (k : xW E D cl nL cells slots ws lv (pc + 1) st) : xW E D cl nL cells slots ws lv pc (a :: st) := fun H locs ls hP hD hS hl => lv_pop S.1.1 S.1.2.1 hd ha (k H locs ls hP hD hS hl)
theorem x_dup_x1 (S : xOK E l R D cl tys cc own nL Ts nws) {a b : Value} (hd : decode cc pc = .ok (.dup_x1, 1)) (ha : a.category = 1) (hb : b.category = 1) (k : xW E D cl nL cells slots ws lv (pc + 1) (a :: b :: a :: st)) : xW E D cl nL cells slots ws lv pc (a :: b :: st) := fun H locs ls hP hD hS hl => lv_dup_x1 S.1.1 S.1.2.1 hd ha hb (k H locs ls hP hD hS hl)
theorem x_dup_x2 (S : xOK E l R D cl tys cc own nL Ts nws) {a b d : Value} (hd : decode cc pc = .ok (.dup_x2, 1)) (ha : a.category = 1) (hb : b.category = 1) (hc : d.category = 1) (k : xW E D cl nL cells slots ws lv (pc + 1) (a :: b :: d :: a :: st)) : xW E D cl nL cells slots ws lv pc (a :: b :: d :: st) := fun H locs ls hP hD hS hl => lv_dup_x2 S.1.1 S.1.2.1 hd ha hb hc (k H locs ls hP hD hS hl)
theorem x_dup2 (S : xOK E l R D cl tys cc own nL Ts nws) {a b : Value} (hd : decode cc pc = .ok (.dup2, 1)) (ha : a.category = 1) (hb : b.category = 1) (k : xW E D cl nL cells slots ws lv (pc + 1) (a :: b :: a :: b :: st)) : xW E D cl nL cells slots ws lv pc (a :: b :: st) := fun H locs ls hP hD hS hl => lv_dup2_11 S.1.1 S.1.2.1 hd ha hb (k H locs ls hP hD hS hl)
theorem x_if_eq (S : xOK E l R D cl tys cc own nL Ts nws) {x : Int32} {off : Int} {tgt : Nat} (hd : decode cc pc = .ok (.ifCond .eq off, 3)) (ht : (pc : Int) + off = (tgt : Int)) (kt : x = 0 → xW E D cl nL cells slots ws lv tgt st) (kf : ¬ x = 0 → xW E D cl nL cells slots ws lv (pc + 3) st) : xW E D cl nL cells slots ws lv pc (.int x :: st) := fun H locs ls hP hD hS hl => lv_if_eq S.1.1 S.1.2.1 hd ht (fun h => kt h H locs ls hP hD hS hl) (fun h => kf h H locs ls hP hD hS hl)
theorem x_icmp_eq (S : xOK E l R D cl tys cc own nL Ts nws) {x y : Int32} {off : Int} {tgt : Nat} (hd : decode cc pc = .ok (.if_icmp .eq off, 3)) (ht : (pc : Int) + off = (tgt : Int)) (kt : x = y → xW E D cl nL cells slots ws lv tgt st) (kf : ¬ x = y → xW E D cl nL cells slots ws lv (pc + 3) st) : xW E D cl nL cells slots ws lv pc (.int y :: .int x :: st) := fun H locs ls hP hD hS hl => lv_icmp_eq S.1.1 S.1.2.1 hd ht (fun h => kt h H locs ls hP hD hS hl) (fun h => kf h H locs ls hP hD hS hl)
theorem x_if_ne (S : xOK E l R D cl tys cc own nL Ts nws) {x : Int32} {off : Int} {tgt : Nat} (hd : decode cc pc = .ok (.ifCond .ne off, 3)) (ht : (pc : Int) + off = (tgt : Int)) (kt : ¬ x = 0 → xW E D cl nL cells slots ws lv tgt st) (kf : x = 0 → xW E D cl nL cells slots ws lv (pc + 3) st) : xW E D cl nL cells slots ws lv pc (.int x :: st) := fun H locs ls hP hD hS hl => lv_if_ne S.1.1 S.1.2.1 hd ht (fun h => kt h H locs ls hP hD hS hl) (fun h => kf h H locs ls hP hD hS hl)
theorem x_icmp_ne (S : xOK E l R D cl tys cc own nL Ts nws) {x y : Int32} {off : Int} {tgt : Nat} (hd : decode cc pc = .ok (.if_icmp .ne off, 3)) (ht : (pc : Int) + off = (tgt : Int)) (kt : ¬ x = y → xW E D cl nL cells slots ws lv tgt st) (kf : x = y → xW E D cl nL cells slots ws lv (pc + 3) st) : xW E D cl nL cells slots ws lv pc (.int y :: .int x :: st) := fun H locs ls hP hD hS hl => lv_icmp_ne S.1.1 S.1.2.1 hd ht (fun h => kt h H locs ls hP hD hS hl) (fun h => kf h H locs ls hP hD hS hl)
theorem x_if_lt (S : xOK E l R D cl tys cc own nL Ts nws) {x : Int32} {off : Int} {tgt : Nat} (hd : decode cc pc = .ok (.ifCond .lt off, 3)) (ht : (pc : Int) + off = (tgt : Int)) (kt : x < 0 → xW E D cl nL cells slots ws lv tgt st) (kf : ¬ x < 0 → xW E D cl nL cells slots ws lv (pc + 3) st) : xW E D cl nL cells slots ws lv pc (.int x :: st) := fun H locs ls hP hD hS hl => lv_if_lt S.1.1 S.1.2.1 hd ht (fun h => kt h H locs ls hP hD hS hl) (fun h => kf h H locs ls hP hD hS hl)
theorem x_icmp_lt (S : xOK E l R D cl tys cc own nL Ts nws) {x y : Int32} {off : Int} {tgt : Nat} (hd : decode cc pc = .ok (.if_icmp .lt off, 3)) (ht : (pc : Int) + off = (tgt : Int)) (kt : x < y → xW E D cl nL cells slots ws lv tgt st) (kf : ¬ x < y → xW E D cl nL cells slots ws lv (pc + 3) st) : xW E D cl nL cells slots ws lv pc (.int y :: .int x :: st) := fun H locs ls hP hD hS hl => lv_icmp_lt S.1.1 S.1.2.1 hd ht (fun h => kt h H locs ls hP hD hS hl) (fun h => kf h H locs ls hP hD hS hl)
theorem x_if_ge (S : xOK E l R D cl tys cc own nL Ts nws) {x : Int32} {off : Int} {tgt : Nat} (hd : decode cc pc = .ok (.ifCond .ge off, 3)) (ht : (pc : Int) + off = (tgt : Int)) (kt : 0 ≤ x → xW E D cl nL cells slots ws lv tgt st) (kf : ¬ 0 ≤ x → xW E D cl nL cells slots ws lv (pc + 3) st) : xW E D cl nL cells slots ws lv pc (.int x :: st) := fun H locs ls hP hD hS hl => lv_if_ge S.1.1 S.1.2.1 hd ht (fun h => kt h H locs ls hP hD hS hl) (fun h => kf h H locs ls hP hD hS hl)
theorem x_icmp_ge (S : xOK E l R D cl tys cc own nL Ts nws) {x y : Int32} {off : Int} {tgt : Nat} (hd : decode cc pc = .ok (.if_icmp .ge off, 3)) (ht : (pc : Int) + off = (tgt : Int)) (kt : y ≤ x → xW E D cl nL cells slots ws lv tgt st) (kf : ¬ y ≤ x → xW E D cl nL cells slots ws lv (pc + 3) st) : xW E D cl nL cells slots ws lv pc (.int y :: .int x :: st) := fun H locs ls hP hD hS hl => lv_icmp_ge S.1.1 S.1.2.1 hd ht (fun h => kt h H locs ls hP hD hS hl) (fun h => kf h H locs ls hP hD hS hl)
theorem x_if_gt (S : xOK E l R D cl tys cc own nL Ts nws) {x : Int32} {off : Int} {tgt : Nat} (hd : decode cc pc = .ok (.ifCond .gt off, 3)) (ht : (pc : Int) + off = (tgt : Int)) (kt : 0 < x → xW E D cl nL cells slots ws lv tgt st) (kf : ¬ 0 < x → xW E D cl nL cells slots ws lv (pc + 3) st) : xW E D cl nL cells slots ws lv pc (.int x :: st) := fun H locs ls hP hD hS hl => lv_if_gt S.1.1 S.1.2.1 hd ht (fun h => kt h H locs ls hP hD hS hl) (fun h => kf h H locs ls hP hD hS hl)
theorem x_icmp_gt (S : xOK E l R D cl tys cc own nL Ts nws) {x y : Int32} {off : Int} {tgt : Nat} (hd : decode cc pc = .ok (.if_icmp .gt off, 3)) (ht : (pc : Int) + off = (tgt : Int)) (kt : y < x → xW E D cl nL cells slots ws lv tgt st) (kf : ¬ y < x → xW E D cl nL cells slots ws lv (pc + 3) st) : xW E D cl nL cells slots ws lv pc (.int y :: .int x :: st) := fun H locs ls hP hD hS hl => lv_icmp_gt S.1.1 S.1.2.1 hd ht (fun h => kt h H locs ls hP hD hS hl) (fun h => kf h H locs ls hP hD hS hl)
theorem x_if_le (S : xOK E l R D cl tys cc own nL Ts nws) {x : Int32} {off : Int} {tgt : Nat} (hd : decode cc pc = .ok (.ifCond .le off, 3)) (ht : (pc : Int) + off = (tgt : Int)) (kt : x ≤ 0 → xW E D cl nL cells slots ws lv tgt st) (kf : ¬ x ≤ 0 → xW E D cl nL cells slots ws lv (pc + 3) st) : xW E D cl nL cells slots ws lv pc (.int x :: st) := fun H locs ls hP hD hS hl => lv_if_le S.1.1 S.1.2.1 hd ht (fun h => kt h H locs ls hP hD hS hl) (fun h => kf h H locs ls hP hD hS hl)
theorem x_icmp_le (S : xOK E l R D cl tys cc own nL Ts nws) {x y : Int32} {off : Int} {tgt : Nat} (hd : decode cc pc = .ok (.if_icmp .le off, 3)) (ht : (pc : Int) + off = (tgt : Int)) (kt : x ≤ y → xW E D cl nL cells slots ws lv tgt st) (kf : ¬ x ≤ y → xW E D cl nL cells slots ws lv (pc + 3) st) : xW E D cl nL cells slots ws lv pc (.int y :: .int x :: st) := fun H locs ls hP hD hS hl => lv_icmp_le S.1.1 S.1.2.1 hd ht (fun h => kt h H locs ls hP hD hS hl) (fun h => kf h H locs ls hP hD hS hl)
theorem x_goto (S : xOK E l R D cl tys cc own nL Ts nws) {off : Int} {tgt : Nat} (hd : decode cc pc = .ok (.goto off, 3)) (ht : (pc : Int) + off = (tgt : Int)) (k : xW E D cl nL cells slots ws lv tgt st) : xW E D cl nL cells slots ws lv pc st := fun H locs ls hP hD hS hl => lv_goto S.1.1 S.1.2.1 hd ht (k H locs ls hP hD hS hl)
theorem x_sub {lv' : List (Nat × Value)} (ks : List Nat) (h : lv_pick lv ks = lv') (k : xW E D cl nL cells slots ws lv' pc st) : xW E D cl nL cells slots ws lv pc st := fun H locs ls hP hD hS hl => k H locs ls hP hD hS (lv_sub hl ks h)
theorem x_ws {ws' : va_W} (h : ws = ws') (k : xW E D cl nL cells slots ws' lv pc st) : xW E D cl nL cells slots ws lv pc st := h ▸ k
theorem x_top {x : Int32} (y : Int32) (h : x = y) (k : xW E D cl nL cells slots ws lv pc (.int y :: st)) : xW E D cl nL cells slots ws lv pc (.int x :: st) := h ▸ k
theorem x_widen {c2 s2 : Nat} (h1 : cells ≤ c2) (h2 : slots ≤ s2) (k : xW E D cl nL c2 s2 ws lv pc st) : xW E D cl nL cells slots ws lv pc st := fun H locs ls hP hD hS hl => W.widen h1 h2 (k H locs ls hP hD hS hl)
theorem x_at {pc' : Nat} (h : pc = pc') (k : xW E D cl nL cells slots ws lv pc' st) : xW E D cl nL cells slots ws lv pc st := h ▸ k
theorem x_get (S : xOK E l R D cl tys cc own nL Ts nws) {C : String} {T : u_T} {N ci index a : Nat} {fs : List Value} {v : Value} {ref : String} (q0 f : Nat) (he : ws[q0]? = some (a, .inr (ci, fs))) (hc : cl[ci]? = some (C, T, N)) (hin : ∀ w ∈ u_ws C T N, w ∈ Ts) (hk : f < N) (hlink : Cond.fieldLink own index ref (T f).2.1 (T f).2.2.1 ∈ Ts) (href : ref = (T f).1) (hv : fs[f]? = some v) (hd : decode cc pc = .ok (.getfield index, 3)) (k : xW E D cl nL cells slots ws lv (pc + 3) (v :: st)) : xW E D cl nL cells slots ws lv pc (.ref a :: st) := fun H locs ls hP hD hS hl => va_get S.1.1 S.1.2.1 S.1.2.2.2.2 hin S.1.2.2.2.1 S.2.2.2.1 hP q0 he hc f hk (S.w _ hlink) (fun _ h => href ▸ h) hv hd (k H locs ls hP hD hS hl)
theorem x_put (S : xOK E l R D cl tys cc own nL Ts nws) {C : String} {T : u_T} {N ci index a : Nat} {fs : List Value} {v : Value} {ref : String} {ty : FieldType} {ws' : va_W} (q0 f : Nat) (he : ws[q0]? = some (a, .inr (ci, fs))) (hc : cl[ci]? = some (C, T, N)) (hin : ∀ w ∈ u_ws C T N, w ∈ Ts) (ty0 : Nat → FieldType) (hty : ∀ k, k < N → parseFieldDescriptor (T k).2.2.1 = some (ty0 k)) (hnm : ∀ a, a < N → ∀ b, b < N → a ≠ b → (T a).2.1 ≠ (T b).2.1) (hk : f < N) (hlink : Cond.fieldLink own index ref (T f).2.1 (T f).2.2.1 ∈ Ts) (href : ref = (T f).1) (hfin : (T f).2.2.2 = false) (hpd : parseFieldDescriptor (T f).2.2.1 = some ty) (hn : narrow ty v = v) (hfit : fits ty v = true) (hlen : f < fs.length) (hd : decode cc pc = .ok (.putfield index, 3)) (hw : ws.set q0 (a, .inr (ci, fs.set f v)) = ws') (k : xW E D cl nL cells slots ws' lv (pc + 3) st) : xW E D cl nL cells slots ws lv pc (v :: .ref a :: st) := fun H locs ls hP hD hS hl => va_put S.1.1 S.1.2.1 S.1.2.2.2.2 hin ty0 hty hnm S.1.2.2.2.1 S.2.2.2.1 hP hD hS q0 he hc f hk (S.w _ hlink) (fun _ h => href ▸ h) hfin hpd hn hfit hlen hd (fun H1 locs1 h1 h2 h3 => k H1 locs1 ls (hw ▸ h1) (hw ▸ h2) h3 hl)
theorem x_putF (S : xOK E l R D cl tys cc own nL Ts nws) {C : String} {T : u_T} {N ci index a : Nat} {fs : List Value} {v : Value} {ref : String} {ty : FieldType} {ws' : va_W} (hini : E.meth.name = "<init>") (q0 f : Nat) (he : ws[q0]? = some (a, .inr (ci, fs))) (hc : cl[ci]? = some (C, T, N)) (hin : ∀ w ∈ u_ws C T N, w ∈ Ts) (ty0 : Nat → FieldType) (hty : ∀ k, k < N → parseFieldDescriptor (T k).2.2.1 = some (ty0 k)) (hnm : ∀ a, a < N → ∀ b, b < N → a ≠ b → (T a).2.1 ≠ (T b).2.1) (hk : f < N) (hlink : Cond.fieldLink own index ref (T f).2.1 (T f).2.2.1 ∈ Ts) (href : ref = (T f).1) (hfin : (T f).2.2.2 = true) (hdecl : (T f).1 = own) (hpd : parseFieldDescriptor (T f).2.2.1 = some ty) (hn : narrow ty v = v) (hfit : fits ty v = true) (hlen : f < fs.length) (hd : decode cc pc = .ok (.putfield index, 3)) (hw : ws.set q0 (a, .inr (ci, fs.set f v)) = ws') (k : xW E D cl nL cells slots ws' lv (pc + 3) st) : xW E D cl nL cells slots ws lv pc (v :: .ref a :: st) := fun H locs ls hP hD hS hl => va_putF S.1.1 S.1.2.1 S.1.2.2.2.2 hin ty0 hty hnm S.1.2.2.2.1 S.2.2.2.1 hP hD hS q0 he hc f hk (S.w _ hlink) (fun _ h => href ▸ h) hfin hini hdecl hpd hn hfit hlen hd (fun H1 locs1 h1 h2 h3 => k H1 locs1 ls (hw ▸ h1) (hw ▸ h2) h3 hl)
theorem x_iald (S : xOK E l R D cl tys cc own nL Ts nws) {cA : ClassId} {n a : Nat} {f : Nat → Int32} {i : Int32} (q0 t0 j : Nat) (ha : ws[q0]? = some (a, .inl (cA, n, .inl f))) (ht : tys[t0]? = some (cA, .int)) (hi : i = nI j) (hj : j < n) (hn : n < 2 ^ 31) (hd : decode cc pc = .ok (.iaload, 1)) (k : xW E D cl nL cells slots ws lv (pc + 1) (.int (f j) :: st)) : xW E D cl nL cells slots ws lv pc (.int i :: .ref a :: st) := by
  subst hi
  intro H locs ls hP hD hS hl
  refine va_iald S.1.1 S.1.2.1 S.2.2.2.1 hP q0 t0 ha ht (vp_in_nI hj hn) hd ?_
  rw [nI_clamp (Nat.lt_trans hj hn)]
  exact k H locs ls hP hD hS hl
theorem x_iast (S : xOK E l R D cl tys cc own nL Ts nws) {cA : ClassId} {n a : Nat} {f : Nat → Int32} {i : Int32} {x : Int32} {ws' : va_W} (q0 t0 j : Nat) (ha : ws[q0]? = some (a, .inl (cA, n, .inl f))) (ht : tys[t0]? = some (cA, .int)) (hi : i = nI j) (hj : j < n) (hn : n < 2 ^ 31) (hd : decode cc pc = .ok (.iastore, 1)) (hw : ws.set q0 (a, .inl (cA, n, .inl (upd f j x))) = ws') (k : xW E D cl nL cells slots ws' lv (pc + 1) st) : xW E D cl nL cells slots ws lv pc (.int x :: .int i :: .ref a :: st) := by
  subst hi
  subst hw
  intro H locs ls hP hD hS hl
  refine va_iast S.1.1 S.1.2.1 S.2.2.2.1 hP hD hS q0 t0 ha ht (vp_in_nI hj hn) hd ?_
  rw [nI_clamp (Nat.lt_trans hj hn)]
  exact fun H1 locs1 h1 h2 h3 => k H1 locs1 ls h1 h2 h3 hl
theorem x_aald (S : xOK E l R D cl tys cc own nL Ts nws) {cA : ClassId} {n a : Nat} {f : Nat → Option Nat} {i : Int32} {ty : FieldType} {v : Value} (q0 t0 j : Nat) (ha : ws[q0]? = some (a, .inl (cA, n, .inr (.inr (.inr (.inr f)))))) (ht : tys[t0]? = some (cA, ty)) (hty : ty.isReference = true) (hi : i = nI j) (hj : j < n) (hn : n < 2 ^ 31) (hv : va_rf (f j) = v) (hd : decode cc pc = .ok (.aaload, 1)) (k : xW E D cl nL cells slots ws lv (pc + 1) (v :: st)) : xW E D cl nL cells slots ws lv pc (.int i :: .ref a :: st) := by
  subst hi
  subst hv
  intro H locs ls hP hD hS hl
  have hin := vp_in_nI hj hn
  exact W.aald (v := va_rf (f j)) (ty := ty) S.1.1 S.1.2.1 (hP q0 _ ha) ((S.2.2.2.1.2 t0 _ ht).1 n (fun j => va_rf (f j))) hty (fun q => by cases q) (by show ¬ (nI j < 0 ∨ (arrV _ _ _).slots.size ≤ _); rw [arrV_size]; exact hin) (by show (arrV _ _ _).slots[_]? = _; rw [nI_clamp (Nat.lt_trans hj hn), arrV_read _ _ hj]) rfl rfl hd (k H locs ls hP hD hS hl)
theorem x_alen (S : xOK E l R D cl tys cc own nL Ts nws) {cA : ClassId} {a : Nat} {x : vp_A} {ty : FieldType} {v : Int32} (q0 t0 : Nat) (ha : ws[q0]? = some (a, .inl (cA, x))) (ht : tys[t0]? = some (cA, ty)) (hv : Int32.ofNat x.1 = v) (hd : decode cc pc = .ok (.arraylength, 1)) (k : xW E D cl nL cells slots ws lv (pc + 1) (.int v :: st)) : xW E D cl nL cells slots ws lv pc (.ref a :: st) := fun H locs ls hP hD hS hl => va_alen S.1.1 S.1.2.1 S.2.2.2.1 hP q0 t0 ha ht hv hd (k H locs ls hP hD hS hl)
/-- contracts: from the world ws the method comes back with v and the world ws'; the whole world is the callee's -/
def xPre (D : va_G) (cl : List vw_C) (tys : List (ClassId × FieldType)) (nws : xN) (ws : va_W) (sz : Nat) : State → Prop := fun U => U.heap.size = sz ∧ va_P D cl ws U.heap ∧ va_K D cl tys U ∧ va_D (fun _ => True) ws ∧ xNw nws U
def xQ {S : Type} (D : va_G) (cl : List vw_C) (ws : va_W) (sz : Nat) (post : S → Prop) (ws' : S → va_W) (v : S → Option Value) : Array Value → State → Outcome → State → Prop := fun _ st oc t => ∃ u : S, oc = .returned (v u) ∧ post u ∧ va_P D cl (ws' u) t.heap ∧ va_D (va_A ws sz) (ws' u) ∧ va_F (va_A ws sz) st t
def xMetS {S : Type} (l : Launch) (y : MethodName) (wsC : List Cond) (rm : Room) (D : va_G) (cl : List vw_C) (tys : List (ClassId × FieldType)) (nws : xN) (av : List Value) (ws : va_W) (post : S → Prop) (ws' : S → va_W) (v : S → Option Value) : Prop :=
  ∀ sz, Met l y wsC rm (va_Pc av (xPre D cl tys nws ws sz)) (xQ D cl ws sz post ws' v) rm.cells rm.slots (va_A ws sz)
abbrev xMet (l : Launch) (y : MethodName) (wsC : List Cond) (rm : Room) (D : va_G) (cl : List vw_C) (tys : List (ClassId × FieldType)) (nws : xN) (av : List Value) (ws ws' : va_W) (v : Option Value) : Prop :=
  xMetS (S := Unit) l y wsC rm D cl tys nws av ws (fun _ => True) (fun _ => ws') (fun _ => v)
/-- how a method may end: the kind of its return instruction -/
def xEnds (cc : ByteArray) (pc : Nat) (v : Option Value) : Prop := match v with
  | none => decode cc pc = .ok (.return_, 1)
  | some (.int _) => decode cc pc = .ok (.ireturn, 1)
  | some _ => decode cc pc = .ok (.areturn, 1)
def xFits (ret : Option FieldType) (v : Option Value) : Prop := match v with
  | none => ret = none
  | some (.int r) => ∃ ty, ret = some ty ∧ narrow ty (.int r) = .int r
  | some (.ref _) => ∃ rt, ret = some rt ∧ ((∃ n, rt = .object n) ∨ ∃ t, rt = .array t)
  | some _ => False
def xRetS {S : Type} (E : xE) (D : va_G) (cl : List vw_C) (nL : Nat) (cc : ByteArray) (cells slots : Nat) (post : S → Prop) (ws' : S → va_W) (v : S → Option Value) : Prop := ∀ (u : S) (lv : List (Nat × Value)) (pc : Nat), post u → xEnds cc pc (v u) → xW E D cl nL cells slots (ws' u) lv pc (v u).toList
abbrev xRet (E : xE) (D : va_G) (cl : List vw_C) (nL : Nat) (cc : ByteArray) (cells slots : Nat) (ws' : va_W) (v : Option Value) : Prop := ∀ (lv : List (Nat × Value)) (pc : Nat), xEnds cc pc v → xW E D cl nL cells slots ws' lv pc v.toList
theorem xMetS_of {S : Type} {y : MethodName} {wsC wsC' : List Cond} {rm : Room} {av : List Value} {ret : Option FieldType} {maxL : Nat} {post : S → Prop} {ws' : S → va_W} {v : S → Option Value} (hy : plainName y.cls = true) (hw : wsC = Cond.code y cc maxL ret :: wsC') (hlen : (lg_sl av).length ≤ maxL) (hv : ∀ u, post u → xFits ret (v u))
    (body : ∀ E : xE, xOK E l rm D cl tys cc y.cls maxL wsC nws → E.meth.name = y.name → xRetS E D cl maxL cc rm.cells rm.slots post ws' v → xW E D cl maxL 0 0 ws (lv_args 0 av) 0 []) : xMetS l y wsC rm D cl tys nws av ws post ws' v := by
  intro sz
  refine Met.ofW (cc := cc) (maxL := maxL) (ret := ret) hy hw ?_
  intro p e s m args below meth c s₁ B hml hv0
  obtain ⟨rfl, hsz, hP, hK, hD0, hN⟩ := hv0
  have hx := B.exec
  have hb := B.bytes
  have hr := B.returns
  have hts := atoms_spec (ws := wsC) B.pre
  have hown : s.vm.findClass y.cls = some m.cls := findClass_of_methodNamed B.named
  have hlocks := B.notSynchronized
  have hin : meth.name = y.name := (name_of_methodNamed B.named B.method).1
  subst hsz
  have hD := hD0.self (sz := s.heap.size)
  have hl := lv_entry av hlen
  rw [lg_entry_eq]
  refine body (p, l, e, (headSpec wsC rm).room, s, m, av.toArray, below, meth, c, MQ below (xQ D cl ws s.heap.size post ws' v) av.toArray s rm.cells rm.slots (va_A ws s.heap.size), va_A ws s.heap.size) ⟨⟨hx, hb, hml, hown, hts⟩, rfl, rfl, hK, fun q h => Or.inr h, hN⟩ hin ?_ s.heap [] _ hP hD va_S.rf hl
  intro u lv pc hpu hend H locs ls hP hD hS hl
  have hq : ∀ t : State, t.heap = H → xQ D cl ws s.heap.size post ws' v av.toArray s (.returned (v u)) t := fun t ht => ⟨u, rfl, hpu, by rw [ht]; exact hP, hD, hS.F ht⟩
  have hf := hv u hpu
  generalize hvu : v u = w at hend hq hf ⊢
  match w, hend, hq, hf with
  | none, hend, hq, hf => exact W.vret hx hb (hr.trans hf) (fun t ht _ => hq t ht) hS.2.2 hend
  | some (.int r), hend, hq, hf =>
    obtain ⟨ty, h1, h2⟩ := hf
    exact W.zret hx hb (hr.trans h1) h2 (fun t ht _ => hq t ht) hS.2.2 hend
  | some (.ref a), hend, hq, hf =>
    obtain ⟨rt, h1, h2⟩ := hf
    exact W.aret hx hb (hr.trans h1) h2 (Or.inr ⟨a, rfl⟩) (fun t ht _ => hq t ht) hS.2.2 hend
theorem xMet_of {y : MethodName} {wsC wsC' : List Cond} {rm : Room} {av : List Value} {ret : Option FieldType} {maxL : Nat} {ws' : va_W} {v : Option Value} (hy : plainName y.cls = true) (hw : wsC = Cond.code y cc maxL ret :: wsC') (hlen : (lg_sl av).length ≤ maxL) (hv : xFits ret v)
    (body : ∀ E : xE, xOK E l rm D cl tys cc y.cls maxL wsC nws → E.meth.name = y.name → xRet E D cl maxL cc rm.cells rm.slots ws' v → xW E D cl maxL 0 0 ws (lv_args 0 av) 0 []) : xMet l y wsC rm D cl tys nws av ws ws' v :=
  xMetS_of hy hw hlen (fun _ _ => hv) (fun E h1 h2 h3 => body E h1 h2 (fun lv pc h => h3 () lv pc trivial h))

theorem x_goS {Sg : Type} {post : Sg → Prop} {ws' : Sg → va_W} {v : Sg → Option Value} {rest : List Value} {mc ms : Nat} {a : Array Value} (S : xOK E l R D cl tys cc own nL Ts nws) {H : Heap} {locs : List Loc} {ls : Array Slot} (hP : va_P D cl ws H) (hD : va_D E.A ws) (hS : va_S E.A E.s.heap H locs) (hl : lv_has ls nL lv)
    (hr : va_Run E.p E.l E.e E.R E.s E.m E.args E.below E.meth E.c H locs cells slots mc ms (F0 E.m pc ls st) rest (xQ D cl ws H.size post ws' v a) (va_A ws H.size)) (kk : ∀ u : Sg, post u → xW E D cl nL (cells + mc) (slots + ms) (ws' u) lv (pc + 3) ((v u).toList ++ rest)) : W E.p E.l E.e E.R E.s E.m E.args E.below E.meth E.c H locs cells slots E.Q (F0 E.m pc ls st) := by
  have hF : ∀ q, va_A ws H.size q → E.A q := by
    intro q h
    rcases h with ⟨k, e, h⟩ | h
    · exact hD.2 k (q, e) h
    · exact S.2.2.2.2.1 q (Nat.le_trans hS.1 h)
  intro T hT X
  obtain ⟨w, st₀, t, T', L, h0, X', hL, e1, e2, ⟨u, hv, hp, hP1, hD1, hz, hk⟩, go⟩ := hr T hT X
  have hw : w = v u := by cases hv; rfl
  subst hw
  rw [h0] at hz hk
  obtain ⟨t2, a1, b1⟩ := kk u hp T'.heap (locs ++ L) ls (by rw [e1]; exact hP1) (hD1.weaken (fun k q _ h => hF q.1 h))
    ⟨Nat.le_trans hS.1 (by rw [e1]; exact hz), fun q h1 h2 => by rw [e1, hk q (Nat.lt_of_lt_of_le h1 hS.1) (fun z => h2 (hF q z))]; exact hS.2.1 q h1 h2, fun q hq => by
      rcases List.mem_append.mp hq with h | h
      · exact hS.2.2 q h
      · exact hF _ (hL q h)⟩ hl T' rfl X'
  exact ⟨t2, go t2 a1, b1⟩
theorem x_blind {av : List Value} {sz : Nat} : FrameBlind (va_Pc av (xPre D cl tys nws ws sz)) := fun a U g mk q => by
  obtain ⟨q0, q1, qP, qK, qD, qN⟩ := q
  exact ⟨q0, q1, qP, va_K.moved (u := U) (U := U.calling g mk a) (Vm.Alike.refl U.vm) qK, qD, qN.same rfl⟩
theorem x_pre (S : xOK E l R D cl tys cc own nL Ts nws) {H : Heap} {av : List Value} (hP : va_P D cl ws H) (hD : va_D E.A ws) : ∀ U : State, U.heap = H → E.s.WarmedH U.vm → va_Pc av (xPre D cl tys nws ws H.size) av.toArray U := fun U hU hW => ⟨rfl, by rw [hU], by rw [hU]; exact hP, va_K.moved hW.alike S.2.2.2.1, hD.weaken (fun _ _ _ _ => trivial), S.2.2.2.2.2.warm hW⟩
theorem x_callVS (S0 : xOK E l R D cl tys cc own nL Ts nws) {Sg : Type} {post : Sg → Prop} {ws' : Sg → va_W} {v : Sg → Option Value} {y : MethodName} {wsC wsC' : List Cond} {rm : Room} {bytes : ByteArray} {maxL index b n : Nat} {ret : Option FieldType} {As rest : List Value} {C : String} {T : u_T} {N ci : Nat} {fs : List Value} (hM : xMetS l y wsC rm D cl tys nws (.ref b :: As) ws post ws' v) (hG : GoodIn Ts (wsV own index C y wsC)) (hw : wsC = Cond.code y bytes maxL ret :: wsC') (hdd : y.cls = C ∧ y.cls ≠ "java/lang/invoke/MethodHandle" ∧ y.cls ≠ "java/lang/invoke/VarHandle" ∧ (parseMethodDescriptor y.desc).map (fun d => d.parameters.length) = some n) (q0 : Nat) (he : ws[q0]? = some (b, .inr (ci, fs))) (hc : cl[ci]? = some (C, T, N)) (hn : As.length = n) (hst : st = As.reverse ++ .ref b :: rest) (hWt : (rest.map fun v => v.category).sum ≤ 8) (hd : decode cc pc = .ok (.invokevirtual index, 3)) (hR : rm.frames + 1 ≤ R.frames ∧ 8 + (maxL + 11) + rm.locals ≤ R.locals) (hC : cells + rm.cells ≤ R.cells ∧ slots + rm.slots ≤ R.slots) (kk : ∀ u : Sg, post u → xW E D cl nL (cells + rm.cells) (slots + rm.slots) (ws' u) lv (pc + 3) ((v u).toList ++ rest)) : xW E D cl nL cells slots ws lv pc st := by
  intro H locs ls hP hD hS hl
  obtain ⟨F, hl0, hR0, hK, hA, hN⟩ := id S0
  subst hl0; subst hR0
  exact x_goS S0 hP hD hS hl (va_runV (As := As) (rest := rest) (b := b) (C := C) F (hM H.size) (cwV n F.2.2.2.2 hG hw rfl rfl hdd hR) ⟨x_blind, va_recv hK hP hc he, x_pre S0 hP hD⟩ rfl hn hl.1 hst (lv_room hWt) hd hC) kk
theorem x_callVNS (S0 : xOK E l R D cl tys cc own nL Ts nws) {Sg : Type} {post : Sg → Prop} {ws' : Sg → va_W} {v : Sg → Option Value} {y : MethodName} {wsC wsC' : List Cond} {rm : Room} {bytes : ByteArray} {maxL index b n : Nat} {ret : Option FieldType} {As rest : List Value} {C host : String} {T : u_T} {N ci : Nat} {fs : List Value} (hM : xMetS l y wsC rm D cl tys nws (.ref b :: As) ws post ws' v) (hG : GoodIn Ts wsC) (hw : wsC = Cond.code y bytes maxL ret :: wsC') (hnw : (own, index, y, host) ∈ nws) (hini : Cond.initialized y.cls ∈ Ts) (hins : Cond.instanceMethod y ∈ Ts) (hsel : Cond.selects C y y ∈ Ts) (hdd : y.cls ≠ "java/lang/invoke/MethodHandle" ∧ y.cls ≠ "java/lang/invoke/VarHandle" ∧ (parseMethodDescriptor y.desc).map (fun d => d.parameters.length) = some n) (q0 : Nat) (he : ws[q0]? = some (b, .inr (ci, fs))) (hc : cl[ci]? = some (C, T, N)) (hn : As.length = n) (hst : st = As.reverse ++ .ref b :: rest) (hWt : (rest.map fun v => v.category).sum ≤ 8) (hd : decode cc pc = .ok (.invokevirtual index, 3)) (hR : rm.frames + 1 ≤ R.frames ∧ 8 + (maxL + 11) + rm.locals ≤ R.locals) (hC : cells + rm.cells ≤ R.cells ∧ slots + rm.slots ≤ R.slots) (kk : ∀ u : Sg, post u → xW E D cl nL (cells + rm.cells) (slots + rm.slots) (ws' u) lv (pc + 3) ((v u).toList ++ rest)) : xW E D cl nL cells slots ws lv pc st := by
  intro H locs ls hP hD hS hl
  obtain ⟨F, hl0, hR0, hK, hA, hN⟩ := id S0
  subst hl0; subst hR0
  exact x_goS S0 hP hD hS hl (va_runVN (As := As) (rest := rest) (b := b) (C := C) (host := host) F (hM H.size) ⟨va_cnB n F.2.2.2.2 hG hw rfl rfl (hN _ hnw) (S0.w _ hini) hdd hR, S0.w _ hins, S0.w _ hsel⟩ ⟨x_blind, va_recv hK hP hc he, x_pre S0 hP hD⟩ rfl hn hl.1 hst (lv_room hWt) hd hC) kk
theorem x_callSS (S0 : xOK E l R D cl tys cc own nL Ts nws) {Sg : Type} {post : Sg → Prop} {ws' : Sg → va_W} {v : Sg → Option Value} {y : MethodName} {wsC wsC' : List Cond} {rm : Room} {bytes : ByteArray} {maxL index b n : Nat} {ret : Option FieldType} {As rest : List Value} (hM : xMetS l y wsC rm D cl tys nws As ws post ws' v) (hG : GoodIn Ts (wsS own index y wsC)) (hw : wsC = Cond.code y bytes maxL ret :: wsC') (hdd : y.cls = own ∧ y.cls ≠ "java/lang/invoke/MethodHandle" ∧ y.cls ≠ "java/lang/invoke/VarHandle" ∧ (parseMethodDescriptor y.desc).map (fun d => d.parameters.length) = some n) (hn : As.length = n) (hst : st = As.reverse ++ rest) (hWt : (rest.map fun v => v.category).sum ≤ 8) (hd : decode cc pc = .ok (.invokestatic index, 3)) (hR : rm.frames + 1 ≤ R.frames ∧ 8 + (maxL + 11) + rm.locals ≤ R.locals) (hC : cells + rm.cells ≤ R.cells ∧ slots + rm.slots ≤ R.slots) (kk : ∀ u : Sg, post u → xW E D cl nL (cells + rm.cells) (slots + rm.slots) (ws' u) lv (pc + 3) ((v u).toList ++ rest)) : xW E D cl nL cells slots ws lv pc st := by
  intro H locs ls hP hD hS hl
  obtain ⟨F, hl0, hR0, hK, hA, hN⟩ := id S0
  subst hl0; subst hR0
  exact x_goS S0 hP hD hS hl (va_runS (As := As) (rest := rest) F (hM H.size) (cwS n F.2.2.2.2 hG hw rfl rfl hdd hR) ⟨x_blind, x_pre S0 hP hD⟩ rfl hn hl.1 hst (lv_room hWt) hd hC) kk
theorem x_callSNS (S0 : xOK E l R D cl tys cc own nL Ts nws) {Sg : Type} {post : Sg → Prop} {ws' : Sg → va_W} {v : Sg → Option Value} {y : MethodName} {wsC wsC' : List Cond} {rm : Room} {bytes : ByteArray} {maxL index b n : Nat} {ret : Option FieldType} {As rest : List Value} {host : String} (hM : xMetS l y wsC rm D cl tys nws As ws post ws' v) (hG : GoodIn Ts wsC) (hw : wsC = Cond.code y bytes maxL ret :: wsC') (hnw : (own, index, y, host) ∈ nws) (hini : Cond.initialized y.cls ∈ Ts) (hsta : Cond.static y ∈ Ts) (hdd : y.cls ≠ "java/lang/invoke/MethodHandle" ∧ y.cls ≠ "java/lang/invoke/VarHandle" ∧ (parseMethodDescriptor y.desc).map (fun d => d.parameters.length) = some n) (hn : As.length = n) (hst : st = As.reverse ++ rest) (hWt : (rest.map fun v => v.category).sum ≤ 8) (hd : decode cc pc = .ok (.invokestatic index, 3)) (hR : rm.frames + 1 ≤ R.frames ∧ 8 + (maxL + 11) + rm.locals ≤ R.locals) (hC : cells + rm.cells ≤ R.cells ∧ slots + rm.slots ≤ R.slots) (kk : ∀ u : Sg, post u → xW E D cl nL (cells + rm.cells) (slots + rm.slots) (ws' u) lv (pc + 3) ((v u).toList ++ rest)) : xW E D cl nL cells slots ws lv pc st := by
  intro H locs ls hP hD hS hl
  obtain ⟨F, hl0, hR0, hK, hA, hN⟩ := id S0
  subst hl0; subst hR0
  exact x_goS S0 hP hD hS hl (va_runSN (As := As) (rest := rest) (host := host) F (hM H.size) ⟨va_cnB n F.2.2.2.2 hG hw rfl rfl (hN _ hnw) (S0.w _ hini) hdd hR, S0.w _ hsta, trivial⟩ ⟨x_blind, x_pre S0 hP hD⟩ rfl hn hl.1 hst (lv_room hWt) hd hC) kk
theorem x_callIS (S0 : xOK E l R D cl tys cc own nL Ts nws) {Sg : Type} {post : Sg → Prop} {ws' : Sg → va_W} {v : Sg → Option Value} {y : MethodName} {wsC wsC' : List Cond} {rm : Room} {bytes : ByteArray} {maxL index b n : Nat} {ret : Option FieldType} {As rest : List Value} (hM : xMetS l y wsC rm D cl tys nws (.ref b :: As) ws post ws' v) (hG : GoodIn Ts wsC) (hw : wsC = Cond.code y bytes maxL none :: wsC') (hini : Cond.initialized y.cls ∈ Ts) (hlk : Cond.methodLink own index y ∈ Ts) (hins : Cond.instanceMethod y ∈ Ts) (hy1 : y.name = "<init>") (hdd : y.cls ≠ "java/lang/invoke/MethodHandle" ∧ y.cls ≠ "java/lang/invoke/VarHandle" ∧ (parseMethodDescriptor y.desc).map (fun d => d.parameters.length) = some n) (hn : As.length = n) (hst : st = As.reverse ++ .ref b :: rest) (hWt : (rest.map fun v => v.category).sum ≤ 8) (hd : decode cc pc = .ok (.invokespecial index, 3)) (hR : rm.frames + 1 ≤ R.frames ∧ 8 + (maxL + 11) + rm.locals ≤ R.locals) (hC : cells + rm.cells ≤ R.cells ∧ slots + rm.slots ≤ R.slots) (kk : ∀ u : Sg, post u → xW E D cl nL (cells + rm.cells) (slots + rm.slots) (ws' u) lv (pc + 3) ((v u).toList ++ rest)) : xW E D cl nL cells slots ws lv pc st := by
  intro H locs ls hP hD hS hl
  obtain ⟨F, hl0, hR0, hK, hA, hN⟩ := id S0
  subst hl0; subst hR0
  exact x_goS S0 hP hD hS hl (va_runI (As := As) (rest := rest) (b := b) F (hM H.size) (cwI n F.2.2.2.2 hG hw rfl rfl (S0.w _ hini) (S0.w _ hlk) (S0.w _ hins) hy1 hdd hR) ⟨x_blind, x_pre S0 hP hD⟩ rfl hn hl.1 hst (lv_room hWt) hd hC) kk
/-- an array of small numbers -/
def aN (c : Nat → Nat) : Nat → Int32 := fun i => nI (c i)
theorem aN_up (c : Nat → Nat) (j z : Nat) : upd (aN c) j (nI z) = aN (va_up c j z) := by
  funext i
  by_cases h : i = j
  · subst h; simp [upd, aN, va_up]
  · simp [upd, aN, va_up, h]
theorem x_ialdN (S : xOK E l R D cl tys cc own nL Ts nws) {cA : ClassId} {n a : Nat} {f : Nat → Nat} {i : Int32} (q0 t0 j : Nat) (ha : ws[q0]? = some (a, .inl (cA, n, .inl (aN f)))) (ht : tys[t0]? = some (cA, .int)) (hi : i = nI j) (hj : j < n) (hn : n < 2 ^ 31) (hd : decode cc pc = .ok (.iaload, 1)) (k : xW E D cl nL cells slots ws lv (pc + 1) (.int (nI (f j)) :: st)) : xW E D cl nL cells slots ws lv pc (.int i :: .ref a :: st) := x_iald S q0 t0 j ha ht hi hj hn hd k
theorem x_iastN (S : xOK E l R D cl tys cc own nL Ts nws) {cA : ClassId} {n a z : Nat} {f : Nat → Nat} {i x : Int32} {ws' : va_W} (q0 t0 j : Nat) (ha : ws[q0]? = some (a, .inl (cA, n, .inl (aN f)))) (ht : tys[t0]? = some (cA, .int)) (hi : i = nI j) (hj : j < n) (hn : n < 2 ^ 31) (hz : x = nI z) (hd : decode cc pc = .ok (.iastore, 1)) (hw : ws.set q0 (a, .inl (cA, n, .inl (aN (va_up f j z)))) = ws') (k : xW E D cl nL cells slots ws' lv (pc + 1) st) : xW E D cl nL cells slots ws lv pc (.int x :: .int i :: .ref a :: st) := x_iast S q0 t0 j ha ht hi hj hn hd (by rw [hz, aN_up]; exact hw) k
theorem x_ret {r r' : Int32} (hret : xRet E D cl nL cc cells slots ws (some (.int r))) (hr : r' = r) (hd : decode cc pc = .ok (.ireturn, 1)) : xW E D cl nL cells slots ws lv pc [.int r'] := by
  subst hr
  exact hret lv pc hd
theorem x_mmin (S : xOK E l R D cl tys cc own nL Ts nws) {index : Nat} {x y : Int32} (hlink : Cond.methodLink own index Lib.Math.min.name ∈ Ts) (hstat : Cond.static Lib.Math.min.name ∈ Ts) (hini : Cond.initialized "java/lang/Math" ∈ Ts) (hcode : Cond.code Lib.Math.min.name Lib.Math.min.code 2 (some .int) ∈ Ts) (hframes : 1 ≤ R.frames) (hlocals : (st.map fun v => v.category).sum + 13 ≤ R.locals) (hc : cells ≤ R.cells) (hs : slots ≤ R.slots) (hd : decode cc pc = .ok (.invokestatic index, 3)) (k : xW E D cl nL cells slots ws lv (pc + 3) (.int (if y < x then y else x) :: st)) : xW E D cl nL cells slots ws lv pc (.int y :: .int x :: st) := fun H locs ls hP hD hS hl => va_mmin S.1.1 S.1.2.1 (S.1.2.2.1.trans hl.1.symm) S.1.2.2.2.1 (S.w _ hlink) (S.w _ hstat) (S.w _ hini) (S.w _ hcode) (by rw [S.2.2.1]; exact hframes) (by rw [S.2.2.1]; exact hlocals) (by rw [S.2.2.1]; exact hc) (by rw [S.2.2.1]; exact hs) hd (k H locs ls hP hD hS hl)
theorem x_mmax (S : xOK E l R D cl tys cc own nL Ts nws) {index : Nat} {x y : Int32} (hlink : Cond.methodLink own index Lib.Math.max.name ∈ Ts) (hstat : Cond.static Lib.Math.max.name ∈ Ts) (hini : Cond.initialized "java/lang/Math" ∈ Ts) (hcode : Cond.code Lib.Math.max.name Lib.Math.max.code 2 (some .int) ∈ Ts) (hframes : 1 ≤ R.frames) (hlocals : (st.map fun v => v.category).sum + 13 ≤ R.locals) (hc : cells ≤ R.cells) (hs : slots ≤ R.slots) (hd : decode cc pc = .ok (.invokestatic index, 3)) (k : xW E D cl nL cells slots ws lv (pc + 3) (.int (if x < y then y else x) :: st)) : xW E D cl nL cells slots ws lv pc (.int y :: .int x :: st) := fun H locs ls hP hD hS hl => va_mmax S.1.1 S.1.2.1 (S.1.2.2.1.trans hl.1.symm) S.1.2.2.2.1 (S.w _ hlink) (S.w _ hstat) (S.w _ hini) (S.w _ hcode) (by rw [S.2.2.1]; exact hframes) (by rw [S.2.2.1]; exact hlocals) (by rw [S.2.2.1]; exact hc) (by rw [S.2.2.1]; exact hs) hd (k H locs ls hP hD hS hl)
/-- a world in another order -/
theorem x_perm {ws' : va_W} (is : List Nat) (hn : va_nd is = true) (h : is.map (fun i => ws[i]?) = ws'.map some) (k : xW E D cl nL cells slots ws' lv pc st) : xW E D cl nL cells slots ws lv pc st := fun H locs ls hP hD hS hl => k H locs ls (by
  intro k q hk
  have h1 : (is.map (fun i => ws[i]?))[k]? = some (some q) := by rw [h, List.getElem?_map, hk]; rfl
  rw [List.getElem?_map] at h1
  cases hi : is[k]? with
  | none => rw [hi] at h1; cases h1
  | some i => rw [hi] at h1; exact hP i q (Option.some.inj h1)) (hD.sub is hn h) hS hl
theorem x_swap {w1 w2 : va_W} (k : xW E D cl nL cells slots (w2 ++ w1) lv pc st) : xW E D cl nL cells slots (w1 ++ w2) lv pc st := fun H locs ls hP hD hS hl => k H locs ls (by
  have h1 : va_P D cl w1 H := fun k q hk => hP k q (by rw [List.getElem?_append_left (List.getElem?_eq_some_iff.mp hk).1]; exact hk)
  have h2 : va_P D cl w2 H := fun k q hk => hP (w1.length + k) q (by rw [List.getElem?_append_right (by omega)]; simpa using hk)
  exact va_P.app h2 h1) (by
  have g1 : ∀ (k : Nat) (q : Nat × va_E), w1[k]? = some q → (w1 ++ w2)[k]? = some q := fun k q hk => by rw [List.getElem?_append_left (List.getElem?_eq_some_iff.mp hk).1]; exact hk
  have g2 : ∀ (k : Nat) (q : Nat × va_E), w2[k]? = some q → (w1 ++ w2)[w1.length + k]? = some q := fun k q hk => by rw [List.getElem?_append_right (by omega)]; simpa using hk
  refine va_D.app ⟨fun i j x y hi hj hxy => ?_, fun k q hk => hD.2 _ q (g2 k q hk)⟩ ⟨fun i j x y hi hj hxy => ?_, fun k q hk => hD.2 _ q (g1 k q hk)⟩ (fun i j x y hi hj hxy => ?_)
  · have := hD.1 _ _ x y (g2 i x hi) (g2 j y hj) hxy
    omega
  · exact hD.1 _ _ x y (g1 i x hi) (g1 j y hj) hxy
  · have h3 := hD.1 _ _ x y (g2 i x hi) (g1 j y hj) hxy
    have h4 := (List.getElem?_eq_some_iff.mp hj).1
    omega) hS hl
end XR
end XL
end
section
-- ===== PART A: goes FIRST, ahead of the names: the tables' words, and 'selects' of the private methods out of them =====
/-- a private method of a class that the tables say can be made, by its rows of tables_1 -/
def lw_okq (q : MethodName × Nat) : Prop := (q.1.cls ≠ "java/lang/invoke/MethodHandle" ∧ q.1.cls ≠ "java/lang/invoke/VarHandle") ∧ Cond.instantiable q.1.cls q.2 ∈ tables_1 ∧ Cond.privateMethod q.1 ∈ tables_1 ∧ Cond.instanceMethod q.1 ∈ tables_1
theorem lw_p0 : lw_okq (⟨"CutTrees$Graph", "addBetween", "(III)V"⟩, 9) := ⟨⟨by decide +kernel, by decide +kernel⟩, List.mem_of_getElem? (i := 19) (by decide +kernel), List.mem_of_getElem? (i := 192) (by decide +kernel), List.mem_of_getElem? (i := 193) (by decide +kernel)⟩
theorem lw_p1 : lw_okq (⟨"CutTrees", "freshTable", "()LCutTrees$CutTable;"⟩, 5) := ⟨⟨by decide +kernel, by decide +kernel⟩, List.mem_of_getElem? (i := 11) (by decide +kernel), List.mem_of_getElem? (i := 240) (by decide +kernel), List.mem_of_getElem? (i := 241) (by decide +kernel)⟩
theorem lw_p2 : lw_okq (⟨"CutTrees$CutTable", "fillSetsUpTo", "(I)V"⟩, 3) := ⟨⟨by decide +kernel, by decide +kernel⟩, List.mem_of_getElem? (i := 71) (by decide +kernel), List.mem_of_getElem? (i := 248) (by decide +kernel), List.mem_of_getElem? (i := 249) (by decide +kernel)⟩
theorem lw_p3 : lw_okq (⟨"CutTrees", "freshTree", "()LCutTrees$PairTree;"⟩, 5) := ⟨⟨by decide +kernel, by decide +kernel⟩, List.mem_of_getElem? (i := 11) (by decide +kernel), List.mem_of_getElem? (i := 282) (by decide +kernel), List.mem_of_getElem? (i := 283) (by decide +kernel)⟩
theorem lw_p4 : lw_okq (⟨"CutTrees$PairTree", "hang", "(I)V"⟩, 5) := ⟨⟨by decide +kernel, by decide +kernel⟩, List.mem_of_getElem? (i := 87) (by decide +kernel), List.mem_of_getElem? (i := 290) (by decide +kernel), List.mem_of_getElem? (i := 291) (by decide +kernel)⟩
theorem lw_p5 : lw_okq (⟨"CutTrees$Drawing", "weightBetweenGroups", "()I"⟩, 2) := ⟨⟨by decide +kernel, by decide +kernel⟩, List.mem_of_getElem? (i := 111) (by decide +kernel), List.mem_of_getElem? (i := 353) (by decide +kernel), List.mem_of_getElem? (i := 354) (by decide +kernel)⟩
theorem lw_p6 : lw_okq (⟨"CutTrees$Drawing", "isBetweenGroups", "(I)Z"⟩, 2) := ⟨⟨by decide +kernel, by decide +kernel⟩, List.mem_of_getElem? (i := 111) (by decide +kernel), List.mem_of_getElem? (i := 357) (by decide +kernel), List.mem_of_getElem? (i := 358) (by decide +kernel)⟩
theorem lw_p7 : lw_okq (⟨"CutTrees$Drawing", "joinByArcAt", "(I)V"⟩, 2) := ⟨⟨by decide +kernel, by decide +kernel⟩, List.mem_of_getElem? (i := 111) (by decide +kernel), List.mem_of_getElem? (i := 363) (by decide +kernel), List.mem_of_getElem? (i := 364) (by decide +kernel)⟩
theorem lw_p8 : lw_okq (⟨"CutTrees$Drawing", "joinGroups", "(I)V"⟩, 2) := ⟨⟨by decide +kernel, by decide +kernel⟩, List.mem_of_getElem? (i := 111) (by decide +kernel), List.mem_of_getElem? (i := 367) (by decide +kernel), List.mem_of_getElem? (i := 368) (by decide +kernel)⟩
theorem lw_p9 : lw_okq (⟨"CutTrees", "refusalOfParts", "(I)I"⟩, 5) := ⟨⟨by decide +kernel, by decide +kernel⟩, List.mem_of_getElem? (i := 11) (by decide +kernel), List.mem_of_getElem? (i := 375) (by decide +kernel), List.mem_of_getElem? (i := 376) (by decide +kernel)⟩
theorem lw_p10 : lw_okq (⟨"CutTrees", "freshParting", "(I)LCutTrees$Parting;"⟩, 5) := ⟨⟨by decide +kernel, by decide +kernel⟩, List.mem_of_getElem? (i := 11) (by decide +kernel), List.mem_of_getElem? (i := 379) (by decide +kernel), List.mem_of_getElem? (i := 380) (by decide +kernel)⟩
theorem lw_p11 : lw_okq (⟨"CutTrees$Parting", "keepTried", "(I)V"⟩, 6) := ⟨⟨by decide +kernel, by decide +kernel⟩, List.mem_of_getElem? (i := 125) (by decide +kernel), List.mem_of_getElem? (i := 391) (by decide +kernel), List.mem_of_getElem? (i := 392) (by decide +kernel)⟩
theorem lw_p12 : lw_okq (⟨"CutTrees$Parting", "costToLower", "(I)I"⟩, 6) := ⟨⟨by decide +kernel, by decide +kernel⟩, List.mem_of_getElem? (i := 125) (by decide +kernel), List.mem_of_getElem? (i := 395) (by decide +kernel), List.mem_of_getElem? (i := 396) (by decide +kernel)⟩
theorem lw_p13 : lw_okq (⟨"CutTrees$Graph", "reachedFrom", "(II)I"⟩, 9) := ⟨⟨by decide +kernel, by decide +kernel⟩, List.mem_of_getElem? (i := 19) (by decide +kernel), List.mem_of_getElem? (i := 444) (by decide +kernel), List.mem_of_getElem? (i := 445) (by decide +kernel)⟩
theorem lw_p14 : lw_okq (⟨"CutTreesModel", "changed", "()V"⟩, 20) := ⟨⟨by decide +kernel, by decide +kernel⟩, List.mem_of_getElem? (i := 460) (by decide +kernel), List.mem_of_getElem? (i := 532) (by decide +kernel), List.mem_of_getElem? (i := 533) (by decide +kernel)⟩
theorem lw_p15 : lw_okq (⟨"CutTreesModel", "areTwo", "(II)Z"⟩, 20) := ⟨⟨by decide +kernel, by decide +kernel⟩, List.mem_of_getElem? (i := 460) (by decide +kernel), List.mem_of_getElem? (i := 540) (by decide +kernel), List.mem_of_getElem? (i := 541) (by decide +kernel)⟩
def lw_privs_1 : List (MethodName × Nat) := [(⟨"CutTrees$Graph", "addBetween", "(III)V"⟩, 9), (⟨"CutTrees", "freshTable", "()LCutTrees$CutTable;"⟩, 5), (⟨"CutTrees$CutTable", "fillSetsUpTo", "(I)V"⟩, 3), (⟨"CutTrees", "freshTree", "()LCutTrees$PairTree;"⟩, 5), (⟨"CutTrees$PairTree", "hang", "(I)V"⟩, 5), (⟨"CutTrees$Drawing", "weightBetweenGroups", "()I"⟩, 2), (⟨"CutTrees$Drawing", "isBetweenGroups", "(I)Z"⟩, 2), (⟨"CutTrees$Drawing", "joinByArcAt", "(I)V"⟩, 2), (⟨"CutTrees$Drawing", "joinGroups", "(I)V"⟩, 2), (⟨"CutTrees", "refusalOfParts", "(I)I"⟩, 5), (⟨"CutTrees", "freshParting", "(I)LCutTrees$Parting;"⟩, 5), (⟨"CutTrees$Parting", "keepTried", "(I)V"⟩, 6), (⟨"CutTrees$Parting", "costToLower", "(I)I"⟩, 6), (⟨"CutTrees$Graph", "reachedFrom", "(II)I"⟩, 9), (⟨"CutTreesModel", "changed", "()V"⟩, 20), (⟨"CutTreesModel", "areTwo", "(II)Z"⟩, 20)]
theorem lw_r1 : ∀ q ∈ lw_privs_1, lw_okq q := List.forall_mem_cons.mpr ⟨lw_p0, List.forall_mem_cons.mpr ⟨lw_p1, List.forall_mem_cons.mpr ⟨lw_p2, List.forall_mem_cons.mpr ⟨lw_p3, List.forall_mem_cons.mpr ⟨lw_p4, List.forall_mem_cons.mpr ⟨lw_p5, List.forall_mem_cons.mpr ⟨lw_p6, List.forall_mem_cons.mpr ⟨lw_p7, List.forall_mem_cons.mpr ⟨lw_p8, List.forall_mem_cons.mpr ⟨lw_p9, List.forall_mem_cons.mpr ⟨lw_p10, List.forall_mem_cons.mpr ⟨lw_p11, List.forall_mem_cons.mpr ⟨lw_p12, List.forall_mem_cons.mpr ⟨lw_p13, List.forall_mem_cons.mpr ⟨lw_p14, List.forall_mem_cons.mpr ⟨lw_p15, fun _ h => absurd h List.not_mem_nil⟩⟩⟩⟩⟩⟩⟩⟩⟩⟩⟩⟩⟩⟩⟩⟩
theorem lw_p16 : lw_okq (⟨"CutTreesModel", "all", "()I"⟩, 20) := ⟨⟨by decide +kernel, by decide +kernel⟩, List.mem_of_getElem? (i := 460) (by decide +kernel), List.mem_of_getElem? (i := 556) (by decide +kernel), List.mem_of_getElem? (i := 557) (by decide +kernel)⟩
theorem lw_p17 : lw_okq (⟨"CutTreesModel", "make", "()V"⟩, 20) := ⟨⟨by decide +kernel, by decide +kernel⟩, List.mem_of_getElem? (i := 460) (by decide +kernel), List.mem_of_getElem? (i := 560) (by decide +kernel), List.mem_of_getElem? (i := 561) (by decide +kernel)⟩
theorem lw_p18 : lw_okq (⟨"CutTreesModel", "tree", "()V"⟩, 20) := ⟨⟨by decide +kernel, by decide +kernel⟩, List.mem_of_getElem? (i := 460) (by decide +kernel), List.mem_of_getElem? (i := 564) (by decide +kernel), List.mem_of_getElem? (i := 565) (by decide +kernel)⟩
theorem lw_p19 : lw_okq (⟨"CutTreesModel", "sideOf", "(II)I"⟩, 20) := ⟨⟨by decide +kernel, by decide +kernel⟩, List.mem_of_getElem? (i := 460) (by decide +kernel), List.mem_of_getElem? (i := 568) (by decide +kernel), List.mem_of_getElem? (i := 569) (by decide +kernel)⟩
theorem lw_p20 : lw_okq (⟨"CutTreesModel", "ofNode", "(I[I)I"⟩, 20) := ⟨⟨by decide +kernel, by decide +kernel⟩, List.mem_of_getElem? (i := 460) (by decide +kernel), List.mem_of_getElem? (i := 584) (by decide +kernel), List.mem_of_getElem? (i := 585) (by decide +kernel)⟩
theorem lw_p21 : lw_okq (⟨"CutTreesModel", "up", "(I)I"⟩, 20) := ⟨⟨by decide +kernel, by decide +kernel⟩, List.mem_of_getElem? (i := 460) (by decide +kernel), List.mem_of_getElem? (i := 596) (by decide +kernel), List.mem_of_getElem? (i := 597) (by decide +kernel)⟩
theorem lw_p22 : lw_okq (⟨"CutTreesModel", "leastCut", "()I"⟩, 20) := ⟨⟨by decide +kernel, by decide +kernel⟩, List.mem_of_getElem? (i := 460) (by decide +kernel), List.mem_of_getElem? (i := 605) (by decide +kernel), List.mem_of_getElem? (i := 606) (by decide +kernel)⟩
theorem lw_p23 : lw_okq (⟨"CutTreesModel", "leastOne", "(I)I"⟩, 20) := ⟨⟨by decide +kernel, by decide +kernel⟩, List.mem_of_getElem? (i := 460) (by decide +kernel), List.mem_of_getElem? (i := 613) (by decide +kernel), List.mem_of_getElem? (i := 614) (by decide +kernel)⟩
theorem lw_p24 : lw_okq (⟨"CutTreesModel", "loose", "()I"⟩, 20) := ⟨⟨by decide +kernel, by decide +kernel⟩, List.mem_of_getElem? (i := 460) (by decide +kernel), List.mem_of_getElem? (i := 625) (by decide +kernel), List.mem_of_getElem? (i := 626) (by decide +kernel)⟩
theorem lw_p25 : lw_okq (⟨"CutTreesModel", "isLoose", "(I)Z"⟩, 20) := ⟨⟨by decide +kernel, by decide +kernel⟩, List.mem_of_getElem? (i := 460) (by decide +kernel), List.mem_of_getElem? (i := 629) (by decide +kernel), List.mem_of_getElem? (i := 630) (by decide +kernel)⟩
theorem lw_p26 : lw_okq (⟨"CutTreesModel", "partFault", "(I)I"⟩, 20) := ⟨⟨by decide +kernel, by decide +kernel⟩, List.mem_of_getElem? (i := 460) (by decide +kernel), List.mem_of_getElem? (i := 639) (by decide +kernel), List.mem_of_getElem? (i := 640) (by decide +kernel)⟩
theorem lw_p27 : lw_okq (⟨"CutTreesModel", "findParts", "(I)V"⟩, 20) := ⟨⟨by decide +kernel, by decide +kernel⟩, List.mem_of_getElem? (i := 460) (by decide +kernel), List.mem_of_getElem? (i := 643) (by decide +kernel), List.mem_of_getElem? (i := 644) (by decide +kernel)⟩
theorem lw_p28 : lw_okq (⟨"CutTreesModel", "isFull", "(I)Z"⟩, 20) := ⟨⟨by decide +kernel, by decide +kernel⟩, List.mem_of_getElem? (i := 460) (by decide +kernel), List.mem_of_getElem? (i := 647) (by decide +kernel), List.mem_of_getElem? (i := 648) (by decide +kernel)⟩
theorem lw_p29 : lw_okq (⟨"CutTreesModel", "sparsestOf", "()I"⟩, 20) := ⟨⟨by decide +kernel, by decide +kernel⟩, List.mem_of_getElem? (i := 460) (by decide +kernel), List.mem_of_getElem? (i := 659) (by decide +kernel), List.mem_of_getElem? (i := 660) (by decide +kernel)⟩
theorem lw_p30 : lw_okq (⟨"CutTreesModel", "below", "(I)I"⟩, 20) := ⟨⟨by decide +kernel, by decide +kernel⟩, List.mem_of_getElem? (i := 460) (by decide +kernel), List.mem_of_getElem? (i := 663) (by decide +kernel), List.mem_of_getElem? (i := 664) (by decide +kernel)⟩
theorem lw_p31 : lw_okq (⟨"CutTreesModel", "barFault", "(II)I"⟩, 20) := ⟨⟨by decide +kernel, by decide +kernel⟩, List.mem_of_getElem? (i := 460) (by decide +kernel), List.mem_of_getElem? (i := 678) (by decide +kernel), List.mem_of_getElem? (i := 679) (by decide +kernel)⟩
def lw_privs_2 : List (MethodName × Nat) := [(⟨"CutTreesModel", "all", "()I"⟩, 20), (⟨"CutTreesModel", "make", "()V"⟩, 20), (⟨"CutTreesModel", "tree", "()V"⟩, 20), (⟨"CutTreesModel", "sideOf", "(II)I"⟩, 20), (⟨"CutTreesModel", "ofNode", "(I[I)I"⟩, 20), (⟨"CutTreesModel", "up", "(I)I"⟩, 20), (⟨"CutTreesModel", "leastCut", "()I"⟩, 20), (⟨"CutTreesModel", "leastOne", "(I)I"⟩, 20), (⟨"CutTreesModel", "loose", "()I"⟩, 20), (⟨"CutTreesModel", "isLoose", "(I)Z"⟩, 20), (⟨"CutTreesModel", "partFault", "(I)I"⟩, 20), (⟨"CutTreesModel", "findParts", "(I)V"⟩, 20), (⟨"CutTreesModel", "isFull", "(I)Z"⟩, 20), (⟨"CutTreesModel", "sparsestOf", "()I"⟩, 20), (⟨"CutTreesModel", "below", "(I)I"⟩, 20), (⟨"CutTreesModel", "barFault", "(II)I"⟩, 20)]
theorem lw_r2 : ∀ q ∈ lw_privs_2, lw_okq q := List.forall_mem_cons.mpr ⟨lw_p16, List.forall_mem_cons.mpr ⟨lw_p17, List.forall_mem_cons.mpr ⟨lw_p18, List.forall_mem_cons.mpr ⟨lw_p19, List.forall_mem_cons.mpr ⟨lw_p20, List.forall_mem_cons.mpr ⟨lw_p21, List.forall_mem_cons.mpr ⟨lw_p22, List.forall_mem_cons.mpr ⟨lw_p23, List.forall_mem_cons.mpr ⟨lw_p24, List.forall_mem_cons.mpr ⟨lw_p25, List.forall_mem_cons.mpr ⟨lw_p26, List.forall_mem_cons.mpr ⟨lw_p27, List.forall_mem_cons.mpr ⟨lw_p28, List.forall_mem_cons.mpr ⟨lw_p29, List.forall_mem_cons.mpr ⟨lw_p30, List.forall_mem_cons.mpr ⟨lw_p31, fun _ h => absurd h List.not_mem_nil⟩⟩⟩⟩⟩⟩⟩⟩⟩⟩⟩⟩⟩⟩⟩⟩
theorem lw_p32 : lw_okq (⟨"CutTreesModel", "barsOf", "(II)I"⟩, 20) := ⟨⟨by decide +kernel, by decide +kernel⟩, List.mem_of_getElem? (i := 460) (by decide +kernel), List.mem_of_getElem? (i := 682) (by decide +kernel), List.mem_of_getElem? (i := 683) (by decide +kernel)⟩
theorem lw_p33 : lw_okq (⟨"CutTreesModel", "part", "(II)I"⟩, 20) := ⟨⟨by decide +kernel, by decide +kernel⟩, List.mem_of_getElem? (i := 460) (by decide +kernel), List.mem_of_getElem? (i := 686) (by decide +kernel), List.mem_of_getElem? (i := 687) (by decide +kernel)⟩
def lw_privs_3 : List (MethodName × Nat) := [(⟨"CutTreesModel", "barsOf", "(II)I"⟩, 20), (⟨"CutTreesModel", "part", "(II)I"⟩, 20)]
theorem lw_r3 : ∀ q ∈ lw_privs_3, lw_okq q := List.forall_mem_cons.mpr ⟨lw_p32, List.forall_mem_cons.mpr ⟨lw_p33, fun _ h => absurd h List.not_mem_nil⟩⟩
def lw_privs : List (MethodName × Nat) := lw_privs_1 ++ (lw_privs_2 ++ (lw_privs_3))
def lw_tbl : List Cond := k2_sels lw_privs ++ tables_1
theorem lw_privs_ok : ∀ q ∈ lw_privs, lw_okq q := by
  show ∀ q ∈ lw_privs_1 ++ (lw_privs_2 ++ (lw_privs_3)), lw_okq q
  exact List.forall_mem_append.mpr ⟨lw_r1, List.forall_mem_append.mpr ⟨lw_r2, lw_r3⟩⟩
end
section
/-! names, fields, methods, words: by program (wip/whole/gen/names.py) -/
def RX0 : String := "CutTrees$CutTable"
def TX0 : u_T := fun k => match k with
  | 0 => ("CutTrees$CutTable", "graph", "LCutTrees$Graph;", true)
  | 1 => ("CutTrees$CutTable", "cuts", "[I", true)
  | _ => ("CutTrees$CutTable", "changesSeen", "I", false)
def tyX0 : Nat → FieldType := fun k => match k with
  | 0 => (.object "CutTrees$Graph")
  | 1 => (.array .int)
  | _ => .int
theorem nmX0 : ∀ a, a < 3 → ∀ b, b < 3 → a ≠ b → (TX0 a).2.1 ≠ (TX0 b).2.1 := by decide +kernel
theorem tyX0_ok : ∀ k, k < 3 → parseFieldDescriptor (TX0 k).2.2.1 = some (tyX0 k) := by decide +kernel
def RX1 : String := "CutTrees$Drawing"
def TX1 : u_T := fun k => match k with
  | 0 => ("CutTrees$Drawing", "graph", "LCutTrees$Graph;", true)
  | _ => ("CutTrees$Drawing", "groups", "[I", true)
def tyX1 : Nat → FieldType := fun k => match k with
  | 0 => (.object "CutTrees$Graph")
  | _ => (.array .int)
theorem nmX1 : ∀ a, a < 2 → ∀ b, b < 2 → a ≠ b → (TX1 a).2.1 ≠ (TX1 b).2.1 := by decide +kernel
theorem tyX1_ok : ∀ k, k < 2 → parseFieldDescriptor (TX1 k).2.2.1 = some (tyX1 k) := by decide +kernel
def RX2 : String := "CutTrees$Graph"
def TX2 : u_T := fun k => match k with
  | 0 => ("CutTrees$Graph", "from", "[I", true)
  | 1 => ("CutTrees$Graph", "to", "[I", true)
  | 2 => ("CutTrees$Graph", "weight", "[I", true)
  | 3 => ("CutTrees$Graph", "weightBetween", "[[I", true)
  | 4 => ("CutTrees$Graph", "neighbours", "[I", true)
  | 5 => ("CutTrees$Graph", "nodes", "I", false)
  | 6 => ("CutTrees$Graph", "arcsMade", "I", false)
  | 7 => ("CutTrees$Graph", "arcsLeft", "I", false)
  | _ => ("CutTrees$Graph", "changes", "I", false)
def tyX2 : Nat → FieldType := fun k => match k with
  | 0 => (.array .int)
  | 1 => (.array .int)
  | 2 => (.array .int)
  | 3 => (.array (.array .int))
  | 4 => (.array .int)
  | 5 => .int
  | 6 => .int
  | 7 => .int
  | _ => .int
theorem nmX2 : ∀ a, a < 9 → ∀ b, b < 9 → a ≠ b → (TX2 a).2.1 ≠ (TX2 b).2.1 := by decide +kernel
theorem tyX2_ok : ∀ k, k < 9 → parseFieldDescriptor (TX2 k).2.2.1 = some (tyX2 k) := by decide +kernel
def RX3 : String := "CutTrees$PairTree"
def TX3 : u_T := fun k => match k with
  | 0 => ("CutTrees$PairTree", "graph", "LCutTrees$Graph;", true)
  | 1 => ("CutTrees$PairTree", "table", "LCutTrees$CutTable;", true)
  | 2 => ("CutTrees$PairTree", "parents", "[I", true)
  | 3 => ("CutTrees$PairTree", "branches", "[I", true)
  | _ => ("CutTrees$PairTree", "changesSeen", "I", false)
def tyX3 : Nat → FieldType := fun k => match k with
  | 0 => (.object "CutTrees$Graph")
  | 1 => (.object "CutTrees$CutTable")
  | 2 => (.array .int)
  | 3 => (.array .int)
  | _ => .int
theorem nmX3 : ∀ a, a < 5 → ∀ b, b < 5 → a ≠ b → (TX3 a).2.1 ≠ (TX3 b).2.1 := by decide +kernel
theorem tyX3_ok : ∀ k, k < 5 → parseFieldDescriptor (TX3 k).2.2.1 = some (tyX3 k) := by decide +kernel
def RX4 : String := "CutTrees$Parting"
def TX4 : u_T := fun k => match k with
  | 0 => ("CutTrees$Parting", "graph", "LCutTrees$Graph;", true)
  | 1 => ("CutTrees$Parting", "k", "I", true)
  | 2 => ("CutTrees$Parting", "tried", "[I", true)
  | 3 => ("CutTrees$Parting", "best", "[I", true)
  | 4 => ("CutTrees$Parting", "leastCost", "I", false)
  | _ => ("CutTrees$Parting", "changesSeen", "I", false)
def tyX4 : Nat → FieldType := fun k => match k with
  | 0 => (.object "CutTrees$Graph")
  | 1 => .int
  | 2 => (.array .int)
  | 3 => (.array .int)
  | 4 => .int
  | _ => .int
theorem nmX4 : ∀ a, a < 6 → ∀ b, b < 6 → a ≠ b → (TX4 a).2.1 ≠ (TX4 b).2.1 := by decide +kernel
theorem tyX4_ok : ∀ k, k < 6 → parseFieldDescriptor (TX4 k).2.2.1 = some (tyX4 k) := by decide +kernel
def RX5 : String := "CutTrees"
def TX5 : u_T := fun k => match k with
  | 0 => ("CutTrees", "graph", "LCutTrees$Graph;", true)
  | 1 => ("CutTrees", "table", "LCutTrees$CutTable;", true)
  | 2 => ("CutTrees", "tree", "LCutTrees$PairTree;", true)
  | 3 => ("CutTrees", "drawing", "LCutTrees$Drawing;", true)
  | _ => ("CutTrees", "partings", "[LCutTrees$Parting;", true)
def tyX5 : Nat → FieldType := fun k => match k with
  | 0 => (.object "CutTrees$Graph")
  | 1 => (.object "CutTrees$CutTable")
  | 2 => (.object "CutTrees$PairTree")
  | 3 => (.object "CutTrees$Drawing")
  | _ => (.array (.object "CutTrees$Parting"))
theorem nmX5 : ∀ a, a < 5 → ∀ b, b < 5 → a ≠ b → (TX5 a).2.1 ≠ (TX5 b).2.1 := by decide +kernel
theorem tyX5_ok : ∀ k, k < 5 → parseFieldDescriptor (TX5 k).2.2.1 = some (tyX5 k) := by decide +kernel
def RX6 : String := "CutTreesModel"
def TX6 : u_T := fun k => match k with
  | 0 => ("CutTreesModel", "nodes", "I", false)
  | 1 => ("CutTreesModel", "arcs", "I", false)
  | 2 => ("CutTreesModel", "left", "I", false)
  | 3 => ("CutTreesModel", "ones", "[I", true)
  | 4 => ("CutTreesModel", "others", "[I", true)
  | 5 => ("CutTreesModel", "weights", "[I", true)
  | 6 => ("CutTreesModel", "there", "[Z", true)
  | 7 => ("CutTreesModel", "between", "[I", true)
  | 8 => ("CutTreesModel", "near", "[I", true)
  | 9 => ("CutTreesModel", "cuts", "[I", true)
  | 10 => ("CutTreesModel", "isNew", "Z", false)
  | 11 => ("CutTreesModel", "parents", "[I", true)
  | 12 => ("CutTreesModel", "branches", "[I", true)
  | 13 => ("CutTreesModel", "partCost", "[I", true)
  | 14 => ("CutTreesModel", "arePartsNew", "[Z", true)
  | 15 => ("CutTreesModel", "partNumbers", "[I", true)
  | 16 => ("CutTreesModel", "least", "I", false)
  | 17 => ("CutTreesModel", "groups", "[I", true)
  | 18 => ("CutTreesModel", "trial", "[I", true)
  | _ => ("CutTreesModel", "costs", "[I", true)
def tyX6 : Nat → FieldType := fun k => match k with
  | 0 => .int
  | 1 => .int
  | 2 => .int
  | 3 => (.array .int)
  | 4 => (.array .int)
  | 5 => (.array .int)
  | 6 => (.array .boolean)
  | 7 => (.array .int)
  | 8 => (.array .int)
  | 9 => (.array .int)
  | 10 => .boolean
  | 11 => (.array .int)
  | 12 => (.array .int)
  | 13 => (.array .int)
  | 14 => (.array .boolean)
  | 15 => (.array .int)
  | 16 => .int
  | 17 => (.array .int)
  | 18 => (.array .int)
  | _ => (.array .int)
theorem nmX6 : ∀ a, a < 20 → ∀ b, b < 20 → a ≠ b → (TX6 a).2.1 ≠ (TX6 b).2.1 := by decide +kernel
theorem tyX6_ok : ∀ k, k < 20 → parseFieldDescriptor (TX6 k).2.2.1 = some (tyX6 k) := by decide +kernel
def RL : String := "CutTreesLaw"
abbrev vwCl : List vw_C := [(RX0, TX0, 3), (RX1, TX1, 2), (RX2, TX2, 9), (RX3, TX3, 5), (RX4, TX4, 6), (RX5, TX5, 5), (RX6, TX6, 20)]
abbrev cX5_init : ByteArray := prog_1_method_1_code
def yX5_init : MethodName := ⟨RX5, "<init>", "()V"⟩
abbrev cX5_node : ByteArray := prog_1_method_2_code
def yX5_node : MethodName := ⟨RX5, "node", "()I"⟩
abbrev cX5_arc : ByteArray := prog_1_method_3_code
def yX5_arc : MethodName := ⟨RX5, "arc", "(III)I"⟩
abbrev cX5_drop : ByteArray := prog_1_method_4_code
def yX5_drop : MethodName := ⟨RX5, "drop", "(I)I"⟩
abbrev cX5_clear : ByteArray := prog_1_method_5_code
def yX5_clear : MethodName := ⟨RX5, "clear", "()I"⟩
abbrev cX5_cut : ByteArray := prog_1_method_6_code
def yX5_cut : MethodName := ⟨RX5, "cut", "(I)I"⟩
abbrev cX5_pair : ByteArray := prog_1_method_7_code
def yX5_pair : MethodName := ⟨RX5, "pair", "(II)I"⟩
abbrev cX5_side : ByteArray := prog_1_method_8_code
def yX5_side : MethodName := ⟨RX5, "side", "(II)I"⟩
abbrev cX5_parent : ByteArray := prog_1_method_9_code
def yX5_parent : MethodName := ⟨RX5, "parent", "(I)I"⟩
abbrev cX5_branch : ByteArray := prog_1_method_10_code
def yX5_branch : MethodName := ⟨RX5, "branch", "(I)I"⟩
abbrev cX5_way : ByteArray := prog_1_method_11_code
def yX5_way : MethodName := ⟨RX5, "way", "(II)I"⟩
abbrev cX5_least : ByteArray := prog_1_method_12_code
def yX5_least : MethodName := ⟨RX5, "least", "()I"⟩
abbrev cX5_counted : ByteArray := prog_1_method_13_code
def yX5_counted : MethodName := ⟨RX5, "counted", "()I"⟩
abbrev cX5_every : ByteArray := prog_1_method_14_code
def yX5_every : MethodName := ⟨RX5, "every", "(I)I"⟩
abbrev cX5_drawn : ByteArray := prog_1_method_15_code
def yX5_drawn : MethodName := ⟨RX5, "drawn", "(I)I"⟩
abbrev cX5_parts : ByteArray := prog_1_method_16_code
def yX5_parts : MethodName := ⟨RX5, "parts", "(I)I"⟩
abbrev cX5_partOf : ByteArray := prog_1_method_17_code
def yX5_partOf : MethodName := ⟨RX5, "partOf", "(II)I"⟩
abbrev cX5_refusalOfParts : ByteArray := prog_1_method_18_code
def yX5_refusalOfParts : MethodName := ⟨RX5, "refusalOfParts", "(I)I"⟩
abbrev cX5_sparsest : ByteArray := prog_1_method_19_code
def yX5_sparsest : MethodName := ⟨RX5, "sparsest", "()I"⟩
abbrev cX5_share : ByteArray := prog_1_method_20_code
def yX5_share : MethodName := ⟨RX5, "share", "(I)I"⟩
abbrev cX5_greatestDivisor : ByteArray := prog_1_method_21_code
def yX5_greatestDivisor : MethodName := ⟨RX5, "greatestDivisor", "(II)I"⟩
abbrev cX5_bars : ByteArray := prog_1_method_22_code
def yX5_bars : MethodName := ⟨RX5, "bars", "(II)I"⟩
abbrev cX5_barSet : ByteArray := prog_1_method_23_code
def yX5_barSet : MethodName := ⟨RX5, "barSet", "(II)I"⟩
abbrev cX5_without : ByteArray := prog_1_method_24_code
def yX5_without : MethodName := ⟨RX5, "without", "(I)I"⟩
abbrev cX5_freshTable : ByteArray := prog_1_method_25_code
def yX5_freshTable : MethodName := ⟨RX5, "freshTable", "()LCutTrees$CutTable;"⟩
abbrev cX5_freshTree : ByteArray := prog_1_method_26_code
def yX5_freshTree : MethodName := ⟨RX5, "freshTree", "()LCutTrees$PairTree;"⟩
abbrev cX5_freshParting : ByteArray := prog_1_method_27_code
def yX5_freshParting : MethodName := ⟨RX5, "freshParting", "(I)LCutTrees$Parting;"⟩
abbrev cX5_nextWithin : ByteArray := prog_1_method_28_code
def yX5_nextWithin : MethodName := ⟨RX5, "nextWithin", "(II)I"⟩
abbrev cX6_init : ByteArray := prog_8_method_1_code
def yX6_init : MethodName := ⟨RX6, "<init>", "()V"⟩
abbrev cX6_changed : ByteArray := prog_8_method_2_code
def yX6_changed : MethodName := ⟨RX6, "changed", "()V"⟩
abbrev cX6_node : ByteArray := prog_8_method_3_code
def yX6_node : MethodName := ⟨RX6, "node", "()I"⟩
abbrev cX6_areTwo : ByteArray := prog_8_method_4_code
def yX6_areTwo : MethodName := ⟨RX6, "areTwo", "(II)Z"⟩
abbrev cX6_arc : ByteArray := prog_8_method_5_code
def yX6_arc : MethodName := ⟨RX6, "arc", "(III)I"⟩
abbrev cX6_drop : ByteArray := prog_8_method_6_code
def yX6_drop : MethodName := ⟨RX6, "drop", "(I)I"⟩
abbrev cX6_clear : ByteArray := prog_8_method_7_code
def yX6_clear : MethodName := ⟨RX6, "clear", "()I"⟩
abbrev cX6_all : ByteArray := prog_8_method_8_code
def yX6_all : MethodName := ⟨RX6, "all", "()I"⟩
abbrev cX6_make : ByteArray := prog_8_method_9_code
def yX6_make : MethodName := ⟨RX6, "make", "()V"⟩
abbrev cX6_cut : ByteArray := prog_8_method_10_code
def yX6_cut : MethodName := ⟨RX6, "cut", "(I)I"⟩
abbrev cX6_sideOf : ByteArray := prog_8_method_11_code
def yX6_sideOf : MethodName := ⟨RX6, "sideOf", "(II)I"⟩
abbrev cX6_tree : ByteArray := prog_8_method_12_code
def yX6_tree : MethodName := ⟨RX6, "tree", "()V"⟩
abbrev cX6_pair : ByteArray := prog_8_method_13_code
def yX6_pair : MethodName := ⟨RX6, "pair", "(II)I"⟩
abbrev cX6_side : ByteArray := prog_8_method_14_code
def yX6_side : MethodName := ⟨RX6, "side", "(II)I"⟩
abbrev cX6_ofNode : ByteArray := prog_8_method_15_code
def yX6_ofNode : MethodName := ⟨RX6, "ofNode", "(I[I)I"⟩
abbrev cX6_parent : ByteArray := prog_8_method_16_code
def yX6_parent : MethodName := ⟨RX6, "parent", "(I)I"⟩
abbrev cX6_branch : ByteArray := prog_8_method_17_code
def yX6_branch : MethodName := ⟨RX6, "branch", "(I)I"⟩
abbrev cX6_up : ByteArray := prog_8_method_18_code
def yX6_up : MethodName := ⟨RX6, "up", "(I)I"⟩
abbrev cX6_way : ByteArray := prog_8_method_19_code
def yX6_way : MethodName := ⟨RX6, "way", "(II)I"⟩
abbrev cX6_leastCut : ByteArray := prog_8_method_20_code
def yX6_leastCut : MethodName := ⟨RX6, "leastCut", "()I"⟩
abbrev cX6_least : ByteArray := prog_8_method_21_code
def yX6_least : MethodName := ⟨RX6, "least", "()I"⟩
abbrev cX6_leastOne : ByteArray := prog_8_method_22_code
def yX6_leastOne : MethodName := ⟨RX6, "leastOne", "(I)I"⟩
abbrev cX6_counted : ByteArray := prog_8_method_23_code
def yX6_counted : MethodName := ⟨RX6, "counted", "()I"⟩
abbrev cX6_every : ByteArray := prog_8_method_24_code
def yX6_every : MethodName := ⟨RX6, "every", "(I)I"⟩
abbrev cX6_drawn : ByteArray := prog_8_method_25_code
def yX6_drawn : MethodName := ⟨RX6, "drawn", "(I)I"⟩
abbrev cX6_isLoose : ByteArray := prog_8_method_26_code
def yX6_isLoose : MethodName := ⟨RX6, "isLoose", "(I)Z"⟩
abbrev cX6_loose : ByteArray := prog_8_method_27_code
def yX6_loose : MethodName := ⟨RX6, "loose", "()I"⟩
abbrev cX6_partFault : ByteArray := prog_8_method_28_code
def yX6_partFault : MethodName := ⟨RX6, "partFault", "(I)I"⟩
abbrev cX6_findParts : ByteArray := prog_8_method_29_code
def yX6_findParts : MethodName := ⟨RX6, "findParts", "(I)V"⟩
abbrev cX6_isFull : ByteArray := prog_8_method_30_code
def yX6_isFull : MethodName := ⟨RX6, "isFull", "(I)Z"⟩
abbrev cX6_parts : ByteArray := prog_8_method_31_code
def yX6_parts : MethodName := ⟨RX6, "parts", "(I)I"⟩
abbrev cX6_partOf : ByteArray := prog_8_method_32_code
def yX6_partOf : MethodName := ⟨RX6, "partOf", "(II)I"⟩
abbrev cX6_count : ByteArray := prog_8_method_33_code
def yX6_count : MethodName := ⟨RX6, "count", "(I)I"⟩
abbrev cX6_below : ByteArray := prog_8_method_34_code
def yX6_below : MethodName := ⟨RX6, "below", "(I)I"⟩
abbrev cX6_sparsestOf : ByteArray := prog_8_method_35_code
def yX6_sparsestOf : MethodName := ⟨RX6, "sparsestOf", "()I"⟩
abbrev cX6_sparsest : ByteArray := prog_8_method_36_code
def yX6_sparsest : MethodName := ⟨RX6, "sparsest", "()I"⟩
abbrev cX6_share : ByteArray := prog_8_method_37_code
def yX6_share : MethodName := ⟨RX6, "share", "(I)I"⟩
abbrev cX6_part : ByteArray := prog_8_method_38_code
def yX6_part : MethodName := ⟨RX6, "part", "(II)I"⟩
abbrev cX6_barsOf : ByteArray := prog_8_method_39_code
def yX6_barsOf : MethodName := ⟨RX6, "barsOf", "(II)I"⟩
abbrev cX6_barFault : ByteArray := prog_8_method_40_code
def yX6_barFault : MethodName := ⟨RX6, "barFault", "(II)I"⟩
abbrev cX6_bars : ByteArray := prog_8_method_41_code
def yX6_bars : MethodName := ⟨RX6, "bars", "(II)I"⟩
abbrev cX6_barSet : ByteArray := prog_8_method_42_code
def yX6_barSet : MethodName := ⟨RX6, "barSet", "(II)I"⟩
abbrev cX6_without : ByteArray := prog_8_method_43_code
def yX6_without : MethodName := ⟨RX6, "without", "(I)I"⟩
abbrev cX0_init : ByteArray := prog_2_method_1_code
def yX0_init : MethodName := ⟨RX0, "<init>", "(LCutTrees$Graph;)V"⟩
abbrev cX0_refresh : ByteArray := prog_2_method_2_code
def yX0_refresh : MethodName := ⟨RX0, "refresh", "()V"⟩
abbrev cX0_fillSetsUpTo : ByteArray := prog_2_method_3_code
def yX0_fillSetsUpTo : MethodName := ⟨RX0, "fillSetsUpTo", "(I)V"⟩
abbrev cX0_cutAt : ByteArray := prog_2_method_4_code
def yX0_cutAt : MethodName := ⟨RX0, "cutAt", "(I)I"⟩
abbrev cX0_cutBetween : ByteArray := prog_2_method_5_code
def yX0_cutBetween : MethodName := ⟨RX0, "cutBetween", "(II)I"⟩
abbrev cX0_sideAgainst : ByteArray := prog_2_method_6_code
def yX0_sideAgainst : MethodName := ⟨RX0, "sideAgainst", "(II)I"⟩
abbrev cX0_leastCut : ByteArray := prog_2_method_7_code
def yX0_leastCut : MethodName := ⟨RX0, "leastCut", "()I"⟩
abbrev cX0_countLeastOnes : ByteArray := prog_2_method_8_code
def yX0_countLeastOnes : MethodName := ⟨RX0, "countLeastOnes", "()I"⟩
abbrev cX0_leastOne : ByteArray := prog_2_method_9_code
def yX0_leastOne : MethodName := ⟨RX0, "leastOne", "(I)I"⟩
abbrev cX0_sparsestSide : ByteArray := prog_2_method_10_code
def yX0_sparsestSide : MethodName := ⟨RX0, "sparsestSide", "()I"⟩
abbrev cX1_init : ByteArray := prog_3_method_1_code
def yX1_init : MethodName := ⟨RX1, "<init>", "(LCutTrees$Graph;)V"⟩
abbrev cX1_drawBy : ByteArray := prog_3_method_2_code
def yX1_drawBy : MethodName := ⟨RX1, "drawBy", "(I)I"⟩
abbrev cX1_isBetweenGroups : ByteArray := prog_3_method_3_code
def yX1_isBetweenGroups : MethodName := ⟨RX1, "isBetweenGroups", "(I)Z"⟩
abbrev cX1_weightBetweenGroups : ByteArray := prog_3_method_4_code
def yX1_weightBetweenGroups : MethodName := ⟨RX1, "weightBetweenGroups", "()I"⟩
abbrev cX1_joinByArcAt : ByteArray := prog_3_method_5_code
def yX1_joinByArcAt : MethodName := ⟨RX1, "joinByArcAt", "(I)V"⟩
abbrev cX1_joinGroups : ByteArray := prog_3_method_6_code
def yX1_joinGroups : MethodName := ⟨RX1, "joinGroups", "(I)V"⟩
abbrev cX2_init : ByteArray := prog_4_method_1_code
def yX2_init : MethodName := ⟨RX2, "<init>", "()V"⟩
abbrev cX2_hasNode : ByteArray := prog_4_method_2_code
def yX2_hasNode : MethodName := ⟨RX2, "hasNode", "(I)Z"⟩
abbrev cX2_hasPair : ByteArray := prog_4_method_3_code
def yX2_hasPair : MethodName := ⟨RX2, "hasPair", "(II)Z"⟩
abbrev cX2_hasArc : ByteArray := prog_4_method_4_code
def yX2_hasArc : MethodName := ⟨RX2, "hasArc", "(I)Z"⟩
abbrev cX2_hasSet : ByteArray := prog_4_method_5_code
def yX2_hasSet : MethodName := ⟨RX2, "hasSet", "(I)Z"⟩
abbrev cX2_hasSides : ByteArray := prog_4_method_6_code
def yX2_hasSides : MethodName := ⟨RX2, "hasSides", "()Z"⟩
abbrev cX2_areJoined : ByteArray := prog_4_method_7_code
def yX2_areJoined : MethodName := ⟨RX2, "areJoined", "(II)Z"⟩
abbrev cX2_allNodes : ByteArray := prog_4_method_8_code
def yX2_allNodes : MethodName := ⟨RX2, "allNodes", "()I"⟩
abbrev cX2_addNode : ByteArray := prog_4_method_9_code
def yX2_addNode : MethodName := ⟨RX2, "addNode", "()I"⟩
abbrev cX2_addArc : ByteArray := prog_4_method_10_code
def yX2_addArc : MethodName := ⟨RX2, "addArc", "(III)I"⟩
abbrev cX2_removeArc : ByteArray := prog_4_method_11_code
def yX2_removeArc : MethodName := ⟨RX2, "removeArc", "(I)I"⟩
abbrev cX2_addBetween : ByteArray := prog_4_method_12_code
def yX2_addBetween : MethodName := ⟨RX2, "addBetween", "(III)V"⟩
abbrev cX2_removeAll : ByteArray := prog_4_method_13_code
def yX2_removeAll : MethodName := ⟨RX2, "removeAll", "()I"⟩
abbrev cX2_cutAround : ByteArray := prog_4_method_14_code
def yX2_cutAround : MethodName := ⟨RX2, "cutAround", "(I)I"⟩
abbrev cX2_weightAt : ByteArray := prog_4_method_15_code
def yX2_weightAt : MethodName := ⟨RX2, "weightAt", "(I)I"⟩
abbrev cX2_spread : ByteArray := prog_4_method_16_code
def yX2_spread : MethodName := ⟨RX2, "spread", "(I)I"⟩
abbrev cX2_reachedFrom : ByteArray := prog_4_method_17_code
def yX2_reachedFrom : MethodName := ⟨RX2, "reachedFrom", "(II)I"⟩
abbrev cX2_countConnected : ByteArray := prog_4_method_18_code
def yX2_countConnected : MethodName := ⟨RX2, "countConnected", "(I)I"⟩
abbrev cX2_fewestBars : ByteArray := prog_4_method_19_code
def yX2_fewestBars : MethodName := ⟨RX2, "fewestBars", "(II)I"⟩
abbrev cX3_init : ByteArray := prog_5_method_1_code
def yX3_init : MethodName := ⟨RX3, "<init>", "(LCutTrees$Graph;LCutTrees$CutTable;)V"⟩
abbrev cX3_refresh : ByteArray := prog_5_method_2_code
def yX3_refresh : MethodName := ⟨RX3, "refresh", "()V"⟩
abbrev cX3_hang : ByteArray := prog_5_method_3_code
def yX3_hang : MethodName := ⟨RX3, "hang", "(I)V"⟩
abbrev cX3_leastBranchBetween : ByteArray := prog_5_method_4_code
def yX3_leastBranchBetween : MethodName := ⟨RX3, "leastBranchBetween", "(II)I"⟩
abbrev cX4_init : ByteArray := prog_6_method_1_code
def yX4_init : MethodName := ⟨RX4, "<init>", "(LCutTrees$Graph;I)V"⟩
abbrev cX4_refresh : ByteArray := prog_6_method_2_code
def yX4_refresh : MethodName := ⟨RX4, "refresh", "()V"⟩
abbrev cX4_tryFrom : ByteArray := prog_6_method_3_code
def yX4_tryFrom : MethodName := ⟨RX4, "tryFrom", "(LCutTrees$Parting;III)V"⟩
abbrev cX4_costToLower : ByteArray := prog_6_method_4_code
def yX4_costToLower : MethodName := ⟨RX4, "costToLower", "(I)I"⟩
abbrev cX4_keepTried : ByteArray := prog_6_method_5_code
def yX4_keepTried : MethodName := ⟨RX4, "keepTried", "(I)V"⟩
abbrev cJI_bitCount : ByteArray := prog_9_method_49_code
def yJI_bitCount : MethodName := ⟨"java/lang/Integer", "bitCount", "(I)I"⟩
abbrev cJM_max : ByteArray := prog_10_method_65_code
def yJM_max : MethodName := ⟨"java/lang/Math", "max", "(II)I"⟩
abbrev cJM_min : ByteArray := prog_10_method_69_code
def yJM_min : MethodName := ⟨"java/lang/Math", "min", "(II)I"⟩
abbrev cL_law : ByteArray := code
/-- the words of the tables that stay good behind calls -/
def gT : List Cond := lw_tbl.filter goodWord
theorem gT_at {w : Cond} (i : Nat) (h : lw_tbl[i]? = some w) (hg : goodWord w = true) : w ∈ gT := List.mem_filter.mpr ⟨List.mem_of_getElem? h, hg⟩
theorem gT_in : ∀ w ∈ gT, w ∈ lw_tbl := fun w h => (List.mem_filter.mp h).1
theorem gT_sel (i : Nat) {q : MethodName × Nat} (h : lw_privs[i]? = some q) : Cond.selects q.1.cls q.1 q.1 ∈ gT := by
  refine List.mem_filter.mpr ⟨List.mem_append_left _ (List.mem_map.mpr ⟨q, List.mem_of_getElem? h, rfl⟩), rfl⟩
theorem gG {big : List Cond} {w : Cond} (hb : ∀ w ∈ gT, w ∈ big) (h : w ∈ gT) : GoodIn big (w :: gT) := fun v hv => by
  have hv2 : v ∈ gT := (List.mem_cons.mp hv).elim (fun e => e ▸ h) id
  exact ⟨hb v hv2, good_of_word (List.mem_filter.mp hv2).2⟩
theorem gGV {big : List Cond} {w : Cond} {own C : String} {idx : Nat} {y : MethodName} (hb : ∀ w ∈ gT, w ∈ big) (h : w ∈ gT) (h1 : Cond.methodLink own idx y ∈ gT) (h2 : Cond.instanceMethod y ∈ gT) (h3 : Cond.selects C y y ∈ gT) (h4 : Cond.initialized C ∈ gT) : GoodIn big (wsV own idx C y (w :: gT)) := fun v hv => by
  have hv2 : v ∈ gT := by
    rcases List.mem_append.mp hv with q | q
    · simp only [List.mem_cons, List.not_mem_nil, or_false] at q
      rcases q with rfl | rfl | rfl | rfl <;> assumption
    · exact (List.mem_cons.mp q).elim (fun e => e ▸ h) id
  exact ⟨hb v hv2, good_of_word (List.mem_filter.mp hv2).2⟩
theorem gGS {big : List Cond} {w : Cond} {own : String} {idx : Nat} {y : MethodName} (hb : ∀ w ∈ gT, w ∈ big) (h : w ∈ gT) (h1 : Cond.methodLink own idx y ∈ gT) (h2 : Cond.static y ∈ gT) (h4 : Cond.initialized own ∈ gT) : GoodIn big (wsS own idx y (w :: gT)) := fun v hv => by
  have hv2 : v ∈ gT := by
    rcases List.mem_append.mp hv with q | q
    · simp only [List.mem_cons, List.not_mem_nil, or_false] at q
      rcases q with rfl | rfl | rfl <;> assumption
    · exact (List.mem_cons.mp q).elim (fun e => e ▸ h) id
  exact ⟨hb v hv2, good_of_word (List.mem_filter.mp hv2).2⟩
theorem gC {c : Cond} : ∀ w ∈ gT, w ∈ c :: gT := fun _ h => List.mem_cons_of_mem _ h
end
section
/-! the words one by one: by program -/
set_option maxRecDepth 100000 in
theorem tw0 : Cond.initialized "CutTreesLaw" ∈ gT := gT_at 34 rfl rfl
set_option maxRecDepth 100000 in
theorem tw1 : Cond.initialized "CutTrees" ∈ gT := gT_at 35 rfl rfl
set_option maxRecDepth 100000 in
theorem tw2 : Cond.initialized "CutTrees$Graph" ∈ gT := gT_at 36 rfl rfl
set_option maxRecDepth 100000 in
theorem tw3 : Cond.initialized "CutTrees$CutTable" ∈ gT := gT_at 37 rfl rfl
set_option maxRecDepth 100000 in
theorem tw4 : Cond.initialized "CutTrees$PairTree" ∈ gT := gT_at 38 rfl rfl
set_option maxRecDepth 100000 in
theorem tw5 : Cond.initialized "CutTrees$Drawing" ∈ gT := gT_at 39 rfl rfl
set_option maxRecDepth 100000 in
theorem tw6 : Cond.initialized "CutTrees$Parting" ∈ gT := gT_at 40 rfl rfl
set_option maxRecDepth 100000 in
theorem tw7 : Cond.initialized "CutTreesModel" ∈ gT := gT_at 41 rfl rfl
set_option maxRecDepth 100000 in
theorem tw8 : Cond.initialized "java/lang/Math" ∈ gT := gT_at 42 rfl rfl
set_option maxRecDepth 100000 in
theorem tw9 : Cond.initialized "java/lang/Integer" ∈ gT := gT_at 43 rfl rfl
set_option maxRecDepth 100000 in
theorem tw10 : Cond.classLink "CutTreesLaw" 7 "CutTrees" ∈ gT := gT_at 44 rfl rfl
set_option maxRecDepth 100000 in
theorem tw11 : Cond.instantiable "CutTrees" 5 ∈ gT := gT_at 45 rfl rfl
set_option maxRecDepth 100000 in
theorem tw12 : Cond.methodLink "CutTreesLaw" 9 yX5_init ∈ gT := gT_at 46 rfl rfl
set_option maxRecDepth 100000 in
theorem tw13 : Cond.instanceMethod yX5_init ∈ gT := gT_at 47 rfl rfl
set_option maxRecDepth 100000 in
theorem tw14 : Cond.code yX5_init prog_1_method_1_code 2 (Option.none : Option FieldType) ∈ gT := gT_at 48 rfl rfl
set_option maxRecDepth 100000 in
theorem tw15 : Cond.methodLink "CutTrees" 1 objectInit ∈ gT := gT_at 49 rfl rfl
set_option maxRecDepth 100000 in
theorem tw16 : Cond.instanceMethod objectInit ∈ gT := gT_at 50 rfl rfl
set_option maxRecDepth 100000 in
theorem tw17 : Cond.code objectInit object_method_1_code 1 (Option.none : Option FieldType) ∈ gT := gT_at 51 rfl rfl
set_option maxRecDepth 100000 in
theorem tw18 : Cond.classLink "CutTrees" 7 "CutTrees$Graph" ∈ gT := gT_at 52 rfl rfl
set_option maxRecDepth 100000 in
theorem tw19 : Cond.instantiable "CutTrees$Graph" 9 ∈ gT := gT_at 53 rfl rfl
set_option maxRecDepth 100000 in
theorem tw21 : Cond.instanceMethod yX2_init ∈ gT := gT_at 55 rfl rfl
set_option maxRecDepth 100000 in
theorem tw22 : Cond.code yX2_init prog_4_method_1_code 1 (Option.none : Option FieldType) ∈ gT := gT_at 56 rfl rfl
set_option maxRecDepth 100000 in
theorem tw23 : Cond.methodLink "CutTrees$Graph" 3 objectInit ∈ gT := gT_at 57 rfl rfl
set_option maxRecDepth 100000 in
theorem tw24 : Cond.classLink "CutTrees$Graph" 21 "[[I" ∈ gT := gT_at 58 rfl rfl
set_option maxRecDepth 100000 in
theorem tw26 : Cond.fieldLink "CutTrees$Graph" 9 "CutTrees$Graph" "from" "[I" ∈ gT := gT_at 60 rfl rfl
set_option maxRecDepth 100000 in
theorem tw27 : Cond.fieldLink "CutTrees$Drawing" 35 "CutTrees$Graph" "from" "[I" ∈ gT := gT_at 61 rfl rfl
set_option maxRecDepth 100000 in
theorem tw28 : Cond.fieldLink "CutTrees$Graph" 15 "CutTrees$Graph" "to" "[I" ∈ gT := gT_at 62 rfl rfl
set_option maxRecDepth 100000 in
theorem tw29 : Cond.fieldLink "CutTrees$Drawing" 38 "CutTrees$Graph" "to" "[I" ∈ gT := gT_at 63 rfl rfl
set_option maxRecDepth 100000 in
theorem tw30 : Cond.fieldLink "CutTrees$Graph" 18 "CutTrees$Graph" "weight" "[I" ∈ gT := gT_at 64 rfl rfl
set_option maxRecDepth 100000 in
theorem tw31 : Cond.fieldLink "CutTrees$Drawing" 48 "CutTrees$Graph" "weight" "[I" ∈ gT := gT_at 65 rfl rfl
set_option maxRecDepth 100000 in
theorem tw32 : Cond.fieldLink "CutTrees$Graph" 23 "CutTrees$Graph" "weightBetween" "[[I" ∈ gT := gT_at 66 rfl rfl
set_option maxRecDepth 100000 in
theorem tw33 : Cond.fieldLink "CutTrees$CutTable" 35 "CutTrees$Graph" "weightBetween" "[[I" ∈ gT := gT_at 67 rfl rfl
set_option maxRecDepth 100000 in
theorem tw34 : Cond.fieldLink "CutTrees$Parting" 61 "CutTrees$Graph" "weightBetween" "[[I" ∈ gT := gT_at 68 rfl rfl
set_option maxRecDepth 100000 in
theorem tw35 : Cond.fieldLink "CutTrees$Graph" 26 "CutTrees$Graph" "neighbours" "[I" ∈ gT := gT_at 69 rfl rfl
set_option maxRecDepth 100000 in
theorem tw36 : Cond.fieldLink "CutTrees$Graph" 29 "CutTrees$Graph" "nodes" "I" ∈ gT := gT_at 70 rfl rfl
set_option maxRecDepth 100000 in
theorem tw37 : Cond.fieldLink "CutTrees" 50 "CutTrees$Graph" "nodes" "I" ∈ gT := gT_at 71 rfl rfl
set_option maxRecDepth 100000 in
theorem tw38 : Cond.fieldLink "CutTrees$Drawing" 19 "CutTrees$Graph" "nodes" "I" ∈ gT := gT_at 72 rfl rfl
set_option maxRecDepth 100000 in
theorem tw39 : Cond.fieldLink "CutTrees$Parting" 37 "CutTrees$Graph" "nodes" "I" ∈ gT := gT_at 73 rfl rfl
set_option maxRecDepth 100000 in
theorem tw40 : Cond.fieldLink "CutTrees$CutTable" 28 "CutTrees$Graph" "nodes" "I" ∈ gT := gT_at 74 rfl rfl
set_option maxRecDepth 100000 in
theorem tw41 : Cond.fieldLink "CutTrees$PairTree" 35 "CutTrees$Graph" "nodes" "I" ∈ gT := gT_at 75 rfl rfl
set_option maxRecDepth 100000 in
theorem tw42 : Cond.fieldLink "CutTrees$Graph" 33 "CutTrees$Graph" "arcsMade" "I" ∈ gT := gT_at 76 rfl rfl
set_option maxRecDepth 100000 in
theorem tw43 : Cond.fieldLink "CutTrees" 62 "CutTrees$Graph" "arcsMade" "I" ∈ gT := gT_at 77 rfl rfl
set_option maxRecDepth 100000 in
theorem tw44 : Cond.fieldLink "CutTrees$Drawing" 41 "CutTrees$Graph" "arcsMade" "I" ∈ gT := gT_at 78 rfl rfl
set_option maxRecDepth 100000 in
theorem tw45 : Cond.fieldLink "CutTrees$Graph" 36 "CutTrees$Graph" "arcsLeft" "I" ∈ gT := gT_at 79 rfl rfl
set_option maxRecDepth 100000 in
theorem tw46 : Cond.fieldLink "CutTrees$Graph" 39 "CutTrees$Graph" "changes" "I" ∈ gT := gT_at 80 rfl rfl
set_option maxRecDepth 100000 in
theorem tw47 : Cond.fieldLink "CutTrees$CutTable" 23 "CutTrees$Graph" "changes" "I" ∈ gT := gT_at 81 rfl rfl
set_option maxRecDepth 100000 in
theorem tw48 : Cond.fieldLink "CutTrees$PairTree" 30 "CutTrees$Graph" "changes" "I" ∈ gT := gT_at 82 rfl rfl
set_option maxRecDepth 100000 in
theorem tw49 : Cond.fieldLink "CutTrees$Parting" 32 "CutTrees$Graph" "changes" "I" ∈ gT := gT_at 83 rfl rfl
set_option maxRecDepth 100000 in
theorem tw69 : Cond.arrayClass FieldType.int ∈ gT := gT_at 103 rfl rfl
set_option maxRecDepth 100000 in
theorem tw70 : Cond.classLink "CutTrees" 16 "CutTrees$CutTable" ∈ gT := gT_at 104 rfl rfl
set_option maxRecDepth 100000 in
theorem tw71 : Cond.instantiable "CutTrees$CutTable" 3 ∈ gT := gT_at 105 rfl rfl
set_option maxRecDepth 100000 in
theorem tw72 : Cond.methodLink "CutTrees" 18 yX0_init ∈ gT := gT_at 106 rfl rfl
set_option maxRecDepth 100000 in
theorem tw73 : Cond.instanceMethod yX0_init ∈ gT := gT_at 107 rfl rfl
set_option maxRecDepth 100000 in
theorem tw74 : Cond.code yX0_init prog_2_method_1_code 2 (Option.none : Option FieldType) ∈ gT := gT_at 108 rfl rfl
set_option maxRecDepth 100000 in
theorem tw75 : Cond.methodLink "CutTrees$CutTable" 3 objectInit ∈ gT := gT_at 109 rfl rfl
set_option maxRecDepth 100000 in
theorem tw76 : Cond.fieldLink "CutTrees$CutTable" 19 "CutTrees$CutTable" "graph" "LCutTrees$Graph;" ∈ gT := gT_at 110 rfl rfl
set_option maxRecDepth 100000 in
theorem tw77 : Cond.fieldLink "CutTrees$CutTable" 9 "CutTrees$CutTable" "cuts" "[I" ∈ gT := gT_at 111 rfl rfl
set_option maxRecDepth 100000 in
theorem tw78 : Cond.fieldLink "CutTrees$CutTable" 15 "CutTrees$CutTable" "changesSeen" "I" ∈ gT := gT_at 112 rfl rfl
set_option maxRecDepth 100000 in
theorem tw86 : Cond.classLink "CutTrees" 25 "CutTrees$PairTree" ∈ gT := gT_at 120 rfl rfl
set_option maxRecDepth 100000 in
theorem tw87 : Cond.instantiable "CutTrees$PairTree" 5 ∈ gT := gT_at 121 rfl rfl
set_option maxRecDepth 100000 in
theorem tw88 : Cond.methodLink "CutTrees" 27 yX3_init ∈ gT := gT_at 122 rfl rfl
set_option maxRecDepth 100000 in
theorem tw89 : Cond.instanceMethod yX3_init ∈ gT := gT_at 123 rfl rfl
set_option maxRecDepth 100000 in
theorem tw90 : Cond.code yX3_init prog_5_method_1_code 3 (Option.none : Option FieldType) ∈ gT := gT_at 124 rfl rfl
set_option maxRecDepth 100000 in
theorem tw91 : Cond.methodLink "CutTrees$PairTree" 3 objectInit ∈ gT := gT_at 125 rfl rfl
set_option maxRecDepth 100000 in
theorem tw92 : Cond.fieldLink "CutTrees$PairTree" 22 "CutTrees$PairTree" "graph" "LCutTrees$Graph;" ∈ gT := gT_at 126 rfl rfl
set_option maxRecDepth 100000 in
theorem tw93 : Cond.fieldLink "CutTrees$PairTree" 26 "CutTrees$PairTree" "table" "LCutTrees$CutTable;" ∈ gT := gT_at 127 rfl rfl
set_option maxRecDepth 100000 in
theorem tw94 : Cond.fieldLink "CutTrees$PairTree" 9 "CutTrees$PairTree" "parents" "[I" ∈ gT := gT_at 128 rfl rfl
set_option maxRecDepth 100000 in
theorem tw95 : Cond.fieldLink "CutTrees" 104 "CutTrees$PairTree" "parents" "[I" ∈ gT := gT_at 129 rfl rfl
set_option maxRecDepth 100000 in
theorem tw96 : Cond.fieldLink "CutTrees$PairTree" 15 "CutTrees$PairTree" "branches" "[I" ∈ gT := gT_at 130 rfl rfl
set_option maxRecDepth 100000 in
theorem tw97 : Cond.fieldLink "CutTrees" 108 "CutTrees$PairTree" "branches" "[I" ∈ gT := gT_at 131 rfl rfl
set_option maxRecDepth 100000 in
theorem tw98 : Cond.fieldLink "CutTrees$PairTree" 18 "CutTrees$PairTree" "changesSeen" "I" ∈ gT := gT_at 132 rfl rfl
set_option maxRecDepth 100000 in
theorem tw110 : Cond.classLink "CutTrees" 34 "CutTrees$Drawing" ∈ gT := gT_at 144 rfl rfl
set_option maxRecDepth 100000 in
theorem tw111 : Cond.instantiable "CutTrees$Drawing" 2 ∈ gT := gT_at 145 rfl rfl
set_option maxRecDepth 100000 in
theorem tw112 : Cond.methodLink "CutTrees" 36 yX1_init ∈ gT := gT_at 146 rfl rfl
set_option maxRecDepth 100000 in
theorem tw113 : Cond.instanceMethod yX1_init ∈ gT := gT_at 147 rfl rfl
set_option maxRecDepth 100000 in
theorem tw114 : Cond.code yX1_init prog_3_method_1_code 2 (Option.none : Option FieldType) ∈ gT := gT_at 148 rfl rfl
set_option maxRecDepth 100000 in
theorem tw115 : Cond.methodLink "CutTrees$Drawing" 3 objectInit ∈ gT := gT_at 149 rfl rfl
set_option maxRecDepth 100000 in
theorem tw116 : Cond.fieldLink "CutTrees$Drawing" 15 "CutTrees$Drawing" "graph" "LCutTrees$Graph;" ∈ gT := gT_at 150 rfl rfl
set_option maxRecDepth 100000 in
theorem tw117 : Cond.fieldLink "CutTrees$Drawing" 9 "CutTrees$Drawing" "groups" "[I" ∈ gT := gT_at 151 rfl rfl
set_option maxRecDepth 100000 in
theorem tw123 : Cond.classLink "CutTrees" 41 "CutTrees$Parting" ∈ gT := gT_at 157 rfl rfl
set_option maxRecDepth 100000 in
theorem tw125 : Cond.instantiable "CutTrees$Parting" 6 ∈ gT := gT_at 159 rfl rfl
set_option maxRecDepth 100000 in
theorem tw126 : Cond.methodLink "CutTrees" 47 yX4_init ∈ gT := gT_at 160 rfl rfl
set_option maxRecDepth 100000 in
theorem tw127 : Cond.instanceMethod yX4_init ∈ gT := gT_at 161 rfl rfl
set_option maxRecDepth 100000 in
theorem tw128 : Cond.code yX4_init prog_6_method_1_code 3 (Option.none : Option FieldType) ∈ gT := gT_at 162 rfl rfl
set_option maxRecDepth 100000 in
theorem tw129 : Cond.methodLink "CutTrees$Parting" 3 objectInit ∈ gT := gT_at 163 rfl rfl
set_option maxRecDepth 100000 in
theorem tw130 : Cond.fieldLink "CutTrees$Parting" 25 "CutTrees$Parting" "graph" "LCutTrees$Graph;" ∈ gT := gT_at 164 rfl rfl
set_option maxRecDepth 100000 in
theorem tw131 : Cond.fieldLink "CutTrees$Parting" 29 "CutTrees$Parting" "k" "I" ∈ gT := gT_at 165 rfl rfl
set_option maxRecDepth 100000 in
theorem tw132 : Cond.fieldLink "CutTrees$Parting" 9 "CutTrees$Parting" "tried" "[I" ∈ gT := gT_at 166 rfl rfl
set_option maxRecDepth 100000 in
theorem tw133 : Cond.fieldLink "CutTrees$Parting" 15 "CutTrees$Parting" "best" "[I" ∈ gT := gT_at 167 rfl rfl
set_option maxRecDepth 100000 in
theorem tw134 : Cond.fieldLink "CutTrees" 140 "CutTrees$Parting" "best" "[I" ∈ gT := gT_at 168 rfl rfl
set_option maxRecDepth 100000 in
theorem tw135 : Cond.fieldLink "CutTrees$Parting" 18 "CutTrees$Parting" "leastCost" "I" ∈ gT := gT_at 169 rfl rfl
set_option maxRecDepth 100000 in
theorem tw136 : Cond.fieldLink "CutTrees" 137 "CutTrees$Parting" "leastCost" "I" ∈ gT := gT_at 170 rfl rfl
set_option maxRecDepth 100000 in
theorem tw137 : Cond.fieldLink "CutTrees$Parting" 22 "CutTrees$Parting" "changesSeen" "I" ∈ gT := gT_at 171 rfl rfl
set_option maxRecDepth 100000 in
theorem tw151 : Cond.fieldLink "CutTrees" 10 "CutTrees" "graph" "LCutTrees$Graph;" ∈ gT := gT_at 185 rfl rfl
set_option maxRecDepth 100000 in
theorem tw152 : Cond.fieldLink "CutTrees" 21 "CutTrees" "table" "LCutTrees$CutTable;" ∈ gT := gT_at 186 rfl rfl
set_option maxRecDepth 100000 in
theorem tw153 : Cond.fieldLink "CutTrees" 30 "CutTrees" "tree" "LCutTrees$PairTree;" ∈ gT := gT_at 187 rfl rfl
set_option maxRecDepth 100000 in
theorem tw154 : Cond.fieldLink "CutTrees" 37 "CutTrees" "drawing" "LCutTrees$Drawing;" ∈ gT := gT_at 188 rfl rfl
set_option maxRecDepth 100000 in
theorem tw155 : Cond.fieldLink "CutTrees" 43 "CutTrees" "partings" "[LCutTrees$Parting;" ∈ gT := gT_at 189 rfl rfl
set_option maxRecDepth 100000 in
theorem tw167 : Cond.methodLink "CutTreesLaw" 13 yX5_node ∈ gT := gT_at 201 rfl rfl
set_option maxRecDepth 100000 in
theorem tw168 : Cond.instanceMethod yX5_node ∈ gT := gT_at 202 rfl rfl
set_option maxRecDepth 100000 in
theorem tw169 : Cond.selects "CutTrees" yX5_node yX5_node ∈ gT := gT_at 203 rfl rfl
set_option maxRecDepth 100000 in
theorem tw170 : Cond.code yX5_node prog_1_method_2_code 1 (Option.some FieldType.int) ∈ gT := gT_at 204 rfl rfl
set_option maxRecDepth 100000 in
theorem tw171 : Cond.methodLink "CutTrees" 54 yX2_addNode ∈ gT := gT_at 205 rfl rfl
set_option maxRecDepth 100000 in
theorem tw172 : Cond.instanceMethod yX2_addNode ∈ gT := gT_at 206 rfl rfl
set_option maxRecDepth 100000 in
theorem tw173 : Cond.selects "CutTrees$Graph" yX2_addNode yX2_addNode ∈ gT := gT_at 207 rfl rfl
set_option maxRecDepth 100000 in
theorem tw174 : Cond.code yX2_addNode prog_4_method_9_code 1 (Option.some FieldType.int) ∈ gT := gT_at 208 rfl rfl
set_option maxRecDepth 100000 in
theorem tw175 : Cond.methodLink "CutTreesLaw" 18 yX5_arc ∈ gT := gT_at 209 rfl rfl
set_option maxRecDepth 100000 in
theorem tw176 : Cond.instanceMethod yX5_arc ∈ gT := gT_at 210 rfl rfl
set_option maxRecDepth 100000 in
theorem tw177 : Cond.selects "CutTrees" yX5_arc yX5_arc ∈ gT := gT_at 211 rfl rfl
set_option maxRecDepth 100000 in
theorem tw178 : Cond.code yX5_arc prog_1_method_3_code 4 (Option.some FieldType.int) ∈ gT := gT_at 212 rfl rfl
set_option maxRecDepth 100000 in
theorem tw179 : Cond.methodLink "CutTrees" 58 yX2_hasPair ∈ gT := gT_at 213 rfl rfl
set_option maxRecDepth 100000 in
theorem tw180 : Cond.instanceMethod yX2_hasPair ∈ gT := gT_at 214 rfl rfl
set_option maxRecDepth 100000 in
theorem tw181 : Cond.selects "CutTrees$Graph" yX2_hasPair yX2_hasPair ∈ gT := gT_at 215 rfl rfl
set_option maxRecDepth 100000 in
theorem tw182 : Cond.code yX2_hasPair prog_4_method_3_code 3 (Option.some FieldType.boolean) ∈ gT := gT_at 216 rfl rfl
set_option maxRecDepth 100000 in
theorem tw183 : Cond.methodLink "CutTrees$Graph" 42 yX2_hasNode ∈ gT := gT_at 217 rfl rfl
set_option maxRecDepth 100000 in
theorem tw184 : Cond.instanceMethod yX2_hasNode ∈ gT := gT_at 218 rfl rfl
set_option maxRecDepth 100000 in
theorem tw185 : Cond.selects "CutTrees$Graph" yX2_hasNode yX2_hasNode ∈ gT := gT_at 219 rfl rfl
set_option maxRecDepth 100000 in
theorem tw186 : Cond.code yX2_hasNode prog_4_method_2_code 2 (Option.some FieldType.boolean) ∈ gT := gT_at 220 rfl rfl
set_option maxRecDepth 100000 in
theorem tw187 : Cond.methodLink "CutTrees" 65 yX2_addArc ∈ gT := gT_at 221 rfl rfl
set_option maxRecDepth 100000 in
theorem tw188 : Cond.instanceMethod yX2_addArc ∈ gT := gT_at 222 rfl rfl
set_option maxRecDepth 100000 in
theorem tw189 : Cond.selects "CutTrees$Graph" yX2_addArc yX2_addArc ∈ gT := gT_at 223 rfl rfl
set_option maxRecDepth 100000 in
theorem tw190 : Cond.code yX2_addArc prog_4_method_10_code 5 (Option.some FieldType.int) ∈ gT := gT_at 224 rfl rfl
set_option maxRecDepth 100000 in
theorem tw191 : Cond.methodLink "CutTrees$Graph" 50 yX2_addBetween ∈ gT := gT_at 225 rfl rfl
set_option maxRecDepth 100000 in
theorem tw193 : Cond.instanceMethod yX2_addBetween ∈ gT := gT_at 227 rfl rfl
set_option maxRecDepth 100000 in
theorem tw194 : Cond.code yX2_addBetween prog_4_method_12_code 4 (Option.none : Option FieldType) ∈ gT := gT_at 228 rfl rfl
set_option maxRecDepth 100000 in
theorem tw195 : Cond.methodLink "CutTrees$Graph" 54 yX2_areJoined ∈ gT := gT_at 229 rfl rfl
set_option maxRecDepth 100000 in
theorem tw196 : Cond.instanceMethod yX2_areJoined ∈ gT := gT_at 230 rfl rfl
set_option maxRecDepth 100000 in
theorem tw197 : Cond.selects "CutTrees$Graph" yX2_areJoined yX2_areJoined ∈ gT := gT_at 231 rfl rfl
set_option maxRecDepth 100000 in
theorem tw198 : Cond.code yX2_areJoined prog_4_method_7_code 3 (Option.some FieldType.boolean) ∈ gT := gT_at 232 rfl rfl
set_option maxRecDepth 100000 in
theorem tw199 : Cond.methodLink "CutTreesLaw" 23 yX5_drop ∈ gT := gT_at 233 rfl rfl
set_option maxRecDepth 100000 in
theorem tw200 : Cond.instanceMethod yX5_drop ∈ gT := gT_at 234 rfl rfl
set_option maxRecDepth 100000 in
theorem tw201 : Cond.selects "CutTrees" yX5_drop yX5_drop ∈ gT := gT_at 235 rfl rfl
set_option maxRecDepth 100000 in
theorem tw202 : Cond.code yX5_drop prog_1_method_4_code 2 (Option.some FieldType.int) ∈ gT := gT_at 236 rfl rfl
set_option maxRecDepth 100000 in
theorem tw203 : Cond.methodLink "CutTrees" 69 yX2_hasArc ∈ gT := gT_at 237 rfl rfl
set_option maxRecDepth 100000 in
theorem tw204 : Cond.instanceMethod yX2_hasArc ∈ gT := gT_at 238 rfl rfl
set_option maxRecDepth 100000 in
theorem tw205 : Cond.selects "CutTrees$Graph" yX2_hasArc yX2_hasArc ∈ gT := gT_at 239 rfl rfl
set_option maxRecDepth 100000 in
theorem tw206 : Cond.code yX2_hasArc prog_4_method_4_code 2 (Option.some FieldType.boolean) ∈ gT := gT_at 240 rfl rfl
set_option maxRecDepth 100000 in
theorem tw207 : Cond.methodLink "CutTrees" 73 yX2_removeArc ∈ gT := gT_at 241 rfl rfl
set_option maxRecDepth 100000 in
theorem tw208 : Cond.instanceMethod yX2_removeArc ∈ gT := gT_at 242 rfl rfl
set_option maxRecDepth 100000 in
theorem tw209 : Cond.selects "CutTrees$Graph" yX2_removeArc yX2_removeArc ∈ gT := gT_at 243 rfl rfl
set_option maxRecDepth 100000 in
theorem tw210 : Cond.code yX2_removeArc prog_4_method_11_code 2 (Option.some FieldType.int) ∈ gT := gT_at 244 rfl rfl
set_option maxRecDepth 100000 in
theorem tw211 : Cond.methodLink "CutTreesLaw" 28 yX5_clear ∈ gT := gT_at 245 rfl rfl
set_option maxRecDepth 100000 in
theorem tw212 : Cond.instanceMethod yX5_clear ∈ gT := gT_at 246 rfl rfl
set_option maxRecDepth 100000 in
theorem tw213 : Cond.selects "CutTrees" yX5_clear yX5_clear ∈ gT := gT_at 247 rfl rfl
set_option maxRecDepth 100000 in
theorem tw214 : Cond.code yX5_clear prog_1_method_5_code 1 (Option.some FieldType.int) ∈ gT := gT_at 248 rfl rfl
set_option maxRecDepth 100000 in
theorem tw215 : Cond.methodLink "CutTrees" 77 yX2_removeAll ∈ gT := gT_at 249 rfl rfl
set_option maxRecDepth 100000 in
theorem tw216 : Cond.instanceMethod yX2_removeAll ∈ gT := gT_at 250 rfl rfl
set_option maxRecDepth 100000 in
theorem tw217 : Cond.selects "CutTrees$Graph" yX2_removeAll yX2_removeAll ∈ gT := gT_at 251 rfl rfl
set_option maxRecDepth 100000 in
theorem tw218 : Cond.code yX2_removeAll prog_4_method_13_code 4 (Option.some FieldType.int) ∈ gT := gT_at 252 rfl rfl
set_option maxRecDepth 100000 in
theorem tw219 : Cond.methodLink "CutTreesLaw" 32 yX5_cut ∈ gT := gT_at 253 rfl rfl
set_option maxRecDepth 100000 in
theorem tw220 : Cond.instanceMethod yX5_cut ∈ gT := gT_at 254 rfl rfl
set_option maxRecDepth 100000 in
theorem tw221 : Cond.selects "CutTrees" yX5_cut yX5_cut ∈ gT := gT_at 255 rfl rfl
set_option maxRecDepth 100000 in
theorem tw222 : Cond.code yX5_cut prog_1_method_6_code 2 (Option.some FieldType.int) ∈ gT := gT_at 256 rfl rfl
set_option maxRecDepth 100000 in
theorem tw223 : Cond.methodLink "CutTrees" 80 yX2_hasSet ∈ gT := gT_at 257 rfl rfl
set_option maxRecDepth 100000 in
theorem tw224 : Cond.instanceMethod yX2_hasSet ∈ gT := gT_at 258 rfl rfl
set_option maxRecDepth 100000 in
theorem tw225 : Cond.selects "CutTrees$Graph" yX2_hasSet yX2_hasSet ∈ gT := gT_at 259 rfl rfl
set_option maxRecDepth 100000 in
theorem tw226 : Cond.code yX2_hasSet prog_4_method_5_code 2 (Option.some FieldType.boolean) ∈ gT := gT_at 260 rfl rfl
set_option maxRecDepth 100000 in
theorem tw227 : Cond.methodLink "CutTrees$Graph" 46 yX2_allNodes ∈ gT := gT_at 261 rfl rfl
set_option maxRecDepth 100000 in
theorem tw228 : Cond.instanceMethod yX2_allNodes ∈ gT := gT_at 262 rfl rfl
set_option maxRecDepth 100000 in
theorem tw229 : Cond.selects "CutTrees$Graph" yX2_allNodes yX2_allNodes ∈ gT := gT_at 263 rfl rfl
set_option maxRecDepth 100000 in
theorem tw230 : Cond.code yX2_allNodes prog_4_method_8_code 1 (Option.some FieldType.int) ∈ gT := gT_at 264 rfl rfl
set_option maxRecDepth 100000 in
theorem tw231 : Cond.methodLink "CutTrees" 83 yX2_cutAround ∈ gT := gT_at 265 rfl rfl
set_option maxRecDepth 100000 in
theorem tw232 : Cond.instanceMethod yX2_cutAround ∈ gT := gT_at 266 rfl rfl
set_option maxRecDepth 100000 in
theorem tw233 : Cond.selects "CutTrees$Graph" yX2_cutAround yX2_cutAround ∈ gT := gT_at 267 rfl rfl
set_option maxRecDepth 100000 in
theorem tw234 : Cond.code yX2_cutAround prog_4_method_14_code 4 (Option.some FieldType.int) ∈ gT := gT_at 268 rfl rfl
set_option maxRecDepth 100000 in
theorem tw235 : Cond.methodLink "CutTreesLaw" 36 yX5_pair ∈ gT := gT_at 269 rfl rfl
set_option maxRecDepth 100000 in
theorem tw236 : Cond.instanceMethod yX5_pair ∈ gT := gT_at 270 rfl rfl
set_option maxRecDepth 100000 in
theorem tw237 : Cond.selects "CutTrees" yX5_pair yX5_pair ∈ gT := gT_at 271 rfl rfl
set_option maxRecDepth 100000 in
theorem tw238 : Cond.code yX5_pair prog_1_method_7_code 3 (Option.some FieldType.int) ∈ gT := gT_at 272 rfl rfl
set_option maxRecDepth 100000 in
theorem tw239 : Cond.methodLink "CutTrees" 86 yX5_freshTable ∈ gT := gT_at 273 rfl rfl
set_option maxRecDepth 100000 in
theorem tw241 : Cond.instanceMethod yX5_freshTable ∈ gT := gT_at 275 rfl rfl
set_option maxRecDepth 100000 in
theorem tw242 : Cond.code yX5_freshTable prog_1_method_25_code 1 (Option.some (FieldType.object "CutTrees$CutTable")) ∈ gT := gT_at 276 rfl rfl
set_option maxRecDepth 100000 in
theorem tw243 : Cond.methodLink "CutTrees" 175 yX0_refresh ∈ gT := gT_at 277 rfl rfl
set_option maxRecDepth 100000 in
theorem tw244 : Cond.instanceMethod yX0_refresh ∈ gT := gT_at 278 rfl rfl
set_option maxRecDepth 100000 in
theorem tw245 : Cond.selects "CutTrees$CutTable" yX0_refresh yX0_refresh ∈ gT := gT_at 279 rfl rfl
set_option maxRecDepth 100000 in
theorem tw246 : Cond.code yX0_refresh prog_2_method_2_code 2 (Option.none : Option FieldType) ∈ gT := gT_at 280 rfl rfl
set_option maxRecDepth 100000 in
theorem tw247 : Cond.methodLink "CutTrees$CutTable" 31 yX0_fillSetsUpTo ∈ gT := gT_at 281 rfl rfl
set_option maxRecDepth 100000 in
theorem tw249 : Cond.instanceMethod yX0_fillSetsUpTo ∈ gT := gT_at 283 rfl rfl
set_option maxRecDepth 100000 in
theorem tw250 : Cond.code yX0_fillSetsUpTo prog_2_method_3_code 7 (Option.none : Option FieldType) ∈ gT := gT_at 284 rfl rfl
set_option maxRecDepth 100000 in
theorem tw251 : Cond.methodLink "CutTrees$CutTable" 39 yX2_weightAt ∈ gT := gT_at 285 rfl rfl
set_option maxRecDepth 100000 in
theorem tw252 : Cond.instanceMethod yX2_weightAt ∈ gT := gT_at 286 rfl rfl
set_option maxRecDepth 100000 in
theorem tw253 : Cond.selects "CutTrees$Graph" yX2_weightAt yX2_weightAt ∈ gT := gT_at 287 rfl rfl
set_option maxRecDepth 100000 in
theorem tw254 : Cond.code yX2_weightAt prog_4_method_15_code 4 (Option.some FieldType.int) ∈ gT := gT_at 288 rfl rfl
set_option maxRecDepth 100000 in
theorem tw255 : Cond.methodLink "CutTrees" 90 yX0_cutBetween ∈ gT := gT_at 289 rfl rfl
set_option maxRecDepth 100000 in
theorem tw256 : Cond.instanceMethod yX0_cutBetween ∈ gT := gT_at 290 rfl rfl
set_option maxRecDepth 100000 in
theorem tw257 : Cond.selects "CutTrees$CutTable" yX0_cutBetween yX0_cutBetween ∈ gT := gT_at 291 rfl rfl
set_option maxRecDepth 100000 in
theorem tw258 : Cond.code yX0_cutBetween prog_2_method_5_code 3 (Option.some FieldType.int) ∈ gT := gT_at 292 rfl rfl
set_option maxRecDepth 100000 in
theorem tw259 : Cond.methodLink "CutTrees$CutTable" 47 yX0_sideAgainst ∈ gT := gT_at 293 rfl rfl
set_option maxRecDepth 100000 in
theorem tw260 : Cond.instanceMethod yX0_sideAgainst ∈ gT := gT_at 294 rfl rfl
set_option maxRecDepth 100000 in
theorem tw261 : Cond.selects "CutTrees$CutTable" yX0_sideAgainst yX0_sideAgainst ∈ gT := gT_at 295 rfl rfl
set_option maxRecDepth 100000 in
theorem tw262 : Cond.code yX0_sideAgainst prog_2_method_6_code 11 (Option.some FieldType.int) ∈ gT := gT_at 296 rfl rfl
set_option maxRecDepth 100000 in
theorem tw263 : Cond.methodLink "CutTrees$CutTable" 43 yX2_allNodes ∈ gT := gT_at 297 rfl rfl
set_option maxRecDepth 100000 in
theorem tw264 : Cond.methodLink "CutTrees$CutTable" 51 yX0_cutAt ∈ gT := gT_at 298 rfl rfl
set_option maxRecDepth 100000 in
theorem tw265 : Cond.instanceMethod yX0_cutAt ∈ gT := gT_at 299 rfl rfl
set_option maxRecDepth 100000 in
theorem tw266 : Cond.selects "CutTrees$CutTable" yX0_cutAt yX0_cutAt ∈ gT := gT_at 300 rfl rfl
set_option maxRecDepth 100000 in
theorem tw267 : Cond.code yX0_cutAt prog_2_method_4_code 3 (Option.some FieldType.int) ∈ gT := gT_at 301 rfl rfl
set_option maxRecDepth 100000 in
theorem tw269 : Cond.static yX5_nextWithin ∈ gT := gT_at 303 rfl rfl
set_option maxRecDepth 100000 in
theorem tw270 : Cond.code yX5_nextWithin prog_1_method_28_code 2 (Option.some FieldType.int) ∈ gT := gT_at 304 rfl rfl
set_option maxRecDepth 100000 in
theorem tw271 : Cond.methodLink "CutTreesLaw" 41 yX5_side ∈ gT := gT_at 305 rfl rfl
set_option maxRecDepth 100000 in
theorem tw272 : Cond.instanceMethod yX5_side ∈ gT := gT_at 306 rfl rfl
set_option maxRecDepth 100000 in
theorem tw273 : Cond.selects "CutTrees" yX5_side yX5_side ∈ gT := gT_at 307 rfl rfl
set_option maxRecDepth 100000 in
theorem tw274 : Cond.code yX5_side prog_1_method_8_code 3 (Option.some FieldType.int) ∈ gT := gT_at 308 rfl rfl
set_option maxRecDepth 100000 in
theorem tw275 : Cond.methodLink "CutTrees" 94 yX0_sideAgainst ∈ gT := gT_at 309 rfl rfl
set_option maxRecDepth 100000 in
theorem tw276 : Cond.methodLink "CutTreesLaw" 45 yX5_parent ∈ gT := gT_at 310 rfl rfl
set_option maxRecDepth 100000 in
theorem tw277 : Cond.instanceMethod yX5_parent ∈ gT := gT_at 311 rfl rfl
set_option maxRecDepth 100000 in
theorem tw278 : Cond.selects "CutTrees" yX5_parent yX5_parent ∈ gT := gT_at 312 rfl rfl
set_option maxRecDepth 100000 in
theorem tw279 : Cond.code yX5_parent prog_1_method_9_code 2 (Option.some FieldType.int) ∈ gT := gT_at 313 rfl rfl
set_option maxRecDepth 100000 in
theorem tw280 : Cond.methodLink "CutTrees" 97 yX2_hasNode ∈ gT := gT_at 314 rfl rfl
set_option maxRecDepth 100000 in
theorem tw281 : Cond.methodLink "CutTrees" 100 yX5_freshTree ∈ gT := gT_at 315 rfl rfl
set_option maxRecDepth 100000 in
theorem tw283 : Cond.instanceMethod yX5_freshTree ∈ gT := gT_at 317 rfl rfl
set_option maxRecDepth 100000 in
theorem tw284 : Cond.code yX5_freshTree prog_1_method_26_code 1 (Option.some (FieldType.object "CutTrees$PairTree")) ∈ gT := gT_at 318 rfl rfl
set_option maxRecDepth 100000 in
theorem tw285 : Cond.methodLink "CutTrees" 178 yX3_refresh ∈ gT := gT_at 319 rfl rfl
set_option maxRecDepth 100000 in
theorem tw286 : Cond.instanceMethod yX3_refresh ∈ gT := gT_at 320 rfl rfl
set_option maxRecDepth 100000 in
theorem tw287 : Cond.selects "CutTrees$PairTree" yX3_refresh yX3_refresh ∈ gT := gT_at 321 rfl rfl
set_option maxRecDepth 100000 in
theorem tw288 : Cond.code yX3_refresh prog_5_method_2_code 2 (Option.none : Option FieldType) ∈ gT := gT_at 322 rfl rfl
set_option maxRecDepth 100000 in
theorem tw289 : Cond.methodLink "CutTrees$PairTree" 38 yX3_hang ∈ gT := gT_at 323 rfl rfl
set_option maxRecDepth 100000 in
theorem tw291 : Cond.instanceMethod yX3_hang ∈ gT := gT_at 325 rfl rfl
set_option maxRecDepth 100000 in
theorem tw292 : Cond.code yX3_hang prog_5_method_3_code 5 (Option.none : Option FieldType) ∈ gT := gT_at 326 rfl rfl
set_option maxRecDepth 100000 in
theorem tw293 : Cond.methodLink "CutTrees$PairTree" 42 yX0_sideAgainst ∈ gT := gT_at 327 rfl rfl
set_option maxRecDepth 100000 in
theorem tw294 : Cond.methodLink "CutTrees$PairTree" 48 yX0_cutAt ∈ gT := gT_at 328 rfl rfl
set_option maxRecDepth 100000 in
theorem tw295 : Cond.methodLink "CutTreesLaw" 49 yX5_branch ∈ gT := gT_at 329 rfl rfl
set_option maxRecDepth 100000 in
theorem tw296 : Cond.instanceMethod yX5_branch ∈ gT := gT_at 330 rfl rfl
set_option maxRecDepth 100000 in
theorem tw297 : Cond.selects "CutTrees" yX5_branch yX5_branch ∈ gT := gT_at 331 rfl rfl
set_option maxRecDepth 100000 in
theorem tw298 : Cond.code yX5_branch prog_1_method_10_code 2 (Option.some FieldType.int) ∈ gT := gT_at 332 rfl rfl
set_option maxRecDepth 100000 in
theorem tw299 : Cond.methodLink "CutTreesLaw" 53 yX5_way ∈ gT := gT_at 333 rfl rfl
set_option maxRecDepth 100000 in
theorem tw300 : Cond.instanceMethod yX5_way ∈ gT := gT_at 334 rfl rfl
set_option maxRecDepth 100000 in
theorem tw301 : Cond.selects "CutTrees" yX5_way yX5_way ∈ gT := gT_at 335 rfl rfl
set_option maxRecDepth 100000 in
theorem tw302 : Cond.code yX5_way prog_1_method_11_code 3 (Option.some FieldType.int) ∈ gT := gT_at 336 rfl rfl
set_option maxRecDepth 100000 in
theorem tw303 : Cond.methodLink "CutTrees" 111 yX3_leastBranchBetween ∈ gT := gT_at 337 rfl rfl
set_option maxRecDepth 100000 in
theorem tw304 : Cond.instanceMethod yX3_leastBranchBetween ∈ gT := gT_at 338 rfl rfl
set_option maxRecDepth 100000 in
theorem tw305 : Cond.selects "CutTrees$PairTree" yX3_leastBranchBetween yX3_leastBranchBetween ∈ gT := gT_at 339 rfl rfl
set_option maxRecDepth 100000 in
theorem tw306 : Cond.code yX3_leastBranchBetween prog_5_method_4_code 8 (Option.some FieldType.int) ∈ gT := gT_at 340 rfl rfl
set_option maxRecDepth 100000 in
theorem tw307 : Cond.constant "CutTrees$PairTree" 54 (2147483647 : Int32) ∈ gT := gT_at 341 rfl rfl
set_option maxRecDepth 100000 in
theorem tw308 : Cond.methodLink "CutTrees$PairTree" 55 yJM_min ∈ gT := gT_at 342 rfl rfl
set_option maxRecDepth 100000 in
theorem tw309 : Cond.static yJM_min ∈ gT := gT_at 343 rfl rfl
set_option maxRecDepth 100000 in
theorem tw310 : Cond.code yJM_min prog_10_method_69_code 2 (Option.some FieldType.int) ∈ gT := gT_at 344 rfl rfl
set_option maxRecDepth 100000 in
theorem tw311 : Cond.methodLink "CutTrees$PairTree" 60 yJM_max ∈ gT := gT_at 345 rfl rfl
set_option maxRecDepth 100000 in
theorem tw312 : Cond.static yJM_max ∈ gT := gT_at 346 rfl rfl
set_option maxRecDepth 100000 in
theorem tw313 : Cond.code yJM_max prog_10_method_65_code 2 (Option.some FieldType.int) ∈ gT := gT_at 347 rfl rfl
set_option maxRecDepth 100000 in
theorem tw314 : Cond.methodLink "CutTreesLaw" 57 yX5_least ∈ gT := gT_at 348 rfl rfl
set_option maxRecDepth 100000 in
theorem tw315 : Cond.instanceMethod yX5_least ∈ gT := gT_at 349 rfl rfl
set_option maxRecDepth 100000 in
theorem tw316 : Cond.selects "CutTrees" yX5_least yX5_least ∈ gT := gT_at 350 rfl rfl
set_option maxRecDepth 100000 in
theorem tw317 : Cond.code yX5_least prog_1_method_12_code 1 (Option.some FieldType.int) ∈ gT := gT_at 351 rfl rfl
set_option maxRecDepth 100000 in
theorem tw318 : Cond.methodLink "CutTrees" 114 yX2_hasSides ∈ gT := gT_at 352 rfl rfl
set_option maxRecDepth 100000 in
theorem tw319 : Cond.instanceMethod yX2_hasSides ∈ gT := gT_at 353 rfl rfl
set_option maxRecDepth 100000 in
theorem tw320 : Cond.selects "CutTrees$Graph" yX2_hasSides yX2_hasSides ∈ gT := gT_at 354 rfl rfl
set_option maxRecDepth 100000 in
theorem tw321 : Cond.code yX2_hasSides prog_4_method_6_code 1 (Option.some FieldType.boolean) ∈ gT := gT_at 355 rfl rfl
set_option maxRecDepth 100000 in
theorem tw322 : Cond.methodLink "CutTrees" 118 yX0_leastCut ∈ gT := gT_at 356 rfl rfl
set_option maxRecDepth 100000 in
theorem tw323 : Cond.instanceMethod yX0_leastCut ∈ gT := gT_at 357 rfl rfl
set_option maxRecDepth 100000 in
theorem tw324 : Cond.selects "CutTrees$CutTable" yX0_leastCut yX0_leastCut ∈ gT := gT_at 358 rfl rfl
set_option maxRecDepth 100000 in
theorem tw325 : Cond.code yX0_leastCut prog_2_method_7_code 3 (Option.some FieldType.int) ∈ gT := gT_at 359 rfl rfl
set_option maxRecDepth 100000 in
theorem tw326 : Cond.methodLink "CutTrees$CutTable" 57 yJM_min ∈ gT := gT_at 360 rfl rfl
set_option maxRecDepth 100000 in
theorem tw327 : Cond.methodLink "CutTreesLaw" 61 yX5_counted ∈ gT := gT_at 361 rfl rfl
set_option maxRecDepth 100000 in
theorem tw328 : Cond.instanceMethod yX5_counted ∈ gT := gT_at 362 rfl rfl
set_option maxRecDepth 100000 in
theorem tw329 : Cond.selects "CutTrees" yX5_counted yX5_counted ∈ gT := gT_at 363 rfl rfl
set_option maxRecDepth 100000 in
theorem tw330 : Cond.code yX5_counted prog_1_method_13_code 1 (Option.some FieldType.int) ∈ gT := gT_at 364 rfl rfl
set_option maxRecDepth 100000 in
theorem tw331 : Cond.methodLink "CutTrees" 121 yX0_countLeastOnes ∈ gT := gT_at 365 rfl rfl
set_option maxRecDepth 100000 in
theorem tw332 : Cond.instanceMethod yX0_countLeastOnes ∈ gT := gT_at 366 rfl rfl
set_option maxRecDepth 100000 in
theorem tw333 : Cond.selects "CutTrees$CutTable" yX0_countLeastOnes yX0_countLeastOnes ∈ gT := gT_at 367 rfl rfl
set_option maxRecDepth 100000 in
theorem tw334 : Cond.code yX0_countLeastOnes prog_2_method_8_code 4 (Option.some FieldType.int) ∈ gT := gT_at 368 rfl rfl
set_option maxRecDepth 100000 in
theorem tw335 : Cond.methodLink "CutTrees$CutTable" 62 yX0_leastCut ∈ gT := gT_at 369 rfl rfl
set_option maxRecDepth 100000 in
theorem tw336 : Cond.methodLink "CutTreesLaw" 65 yX5_every ∈ gT := gT_at 370 rfl rfl
set_option maxRecDepth 100000 in
theorem tw337 : Cond.instanceMethod yX5_every ∈ gT := gT_at 371 rfl rfl
set_option maxRecDepth 100000 in
theorem tw338 : Cond.selects "CutTrees" yX5_every yX5_every ∈ gT := gT_at 372 rfl rfl
set_option maxRecDepth 100000 in
theorem tw339 : Cond.code yX5_every prog_1_method_14_code 2 (Option.some FieldType.int) ∈ gT := gT_at 373 rfl rfl
set_option maxRecDepth 100000 in
theorem tw340 : Cond.methodLink "CutTrees" 124 yX0_leastOne ∈ gT := gT_at 374 rfl rfl
set_option maxRecDepth 100000 in
theorem tw341 : Cond.instanceMethod yX0_leastOne ∈ gT := gT_at 375 rfl rfl
set_option maxRecDepth 100000 in
theorem tw342 : Cond.selects "CutTrees$CutTable" yX0_leastOne yX0_leastOne ∈ gT := gT_at 376 rfl rfl
set_option maxRecDepth 100000 in
theorem tw343 : Cond.code yX0_leastOne prog_2_method_9_code 5 (Option.some FieldType.int) ∈ gT := gT_at 377 rfl rfl
set_option maxRecDepth 100000 in
theorem tw344 : Cond.methodLink "CutTreesLaw" 69 yX5_drawn ∈ gT := gT_at 378 rfl rfl
set_option maxRecDepth 100000 in
theorem tw345 : Cond.instanceMethod yX5_drawn ∈ gT := gT_at 379 rfl rfl
set_option maxRecDepth 100000 in
theorem tw346 : Cond.selects "CutTrees" yX5_drawn yX5_drawn ∈ gT := gT_at 380 rfl rfl
set_option maxRecDepth 100000 in
theorem tw347 : Cond.code yX5_drawn prog_1_method_15_code 2 (Option.some FieldType.int) ∈ gT := gT_at 381 rfl rfl
set_option maxRecDepth 100000 in
theorem tw348 : Cond.methodLink "CutTrees" 127 yX1_drawBy ∈ gT := gT_at 382 rfl rfl
set_option maxRecDepth 100000 in
theorem tw349 : Cond.instanceMethod yX1_drawBy ∈ gT := gT_at 383 rfl rfl
set_option maxRecDepth 100000 in
theorem tw350 : Cond.selects "CutTrees$Drawing" yX1_drawBy yX1_drawBy ∈ gT := gT_at 384 rfl rfl
set_option maxRecDepth 100000 in
theorem tw351 : Cond.code yX1_drawBy prog_3_method_2_code 5 (Option.some FieldType.int) ∈ gT := gT_at 385 rfl rfl
set_option maxRecDepth 100000 in
theorem tw352 : Cond.methodLink "CutTrees$Drawing" 25 yX1_weightBetweenGroups ∈ gT := gT_at 386 rfl rfl
set_option maxRecDepth 100000 in
theorem tw354 : Cond.instanceMethod yX1_weightBetweenGroups ∈ gT := gT_at 388 rfl rfl
set_option maxRecDepth 100000 in
theorem tw355 : Cond.code yX1_weightBetweenGroups prog_3_method_4_code 3 (Option.some FieldType.int) ∈ gT := gT_at 389 rfl rfl
set_option maxRecDepth 100000 in
theorem tw356 : Cond.methodLink "CutTrees$Drawing" 44 yX1_isBetweenGroups ∈ gT := gT_at 390 rfl rfl
set_option maxRecDepth 100000 in
theorem tw358 : Cond.instanceMethod yX1_isBetweenGroups ∈ gT := gT_at 392 rfl rfl
set_option maxRecDepth 100000 in
theorem tw359 : Cond.code yX1_isBetweenGroups prog_3_method_3_code 2 (Option.some FieldType.boolean) ∈ gT := gT_at 393 rfl rfl
set_option maxRecDepth 100000 in
theorem tw360 : Cond.constant "CutTrees$Drawing" 29 (1664525 : Int32) ∈ gT := gT_at 394 rfl rfl
set_option maxRecDepth 100000 in
theorem tw361 : Cond.constant "CutTrees$Drawing" 30 (1013904223 : Int32) ∈ gT := gT_at 395 rfl rfl
set_option maxRecDepth 100000 in
theorem tw362 : Cond.methodLink "CutTrees$Drawing" 31 yX1_joinByArcAt ∈ gT := gT_at 396 rfl rfl
set_option maxRecDepth 100000 in
theorem tw364 : Cond.instanceMethod yX1_joinByArcAt ∈ gT := gT_at 398 rfl rfl
set_option maxRecDepth 100000 in
theorem tw365 : Cond.code yX1_joinByArcAt prog_3_method_5_code 4 (Option.none : Option FieldType) ∈ gT := gT_at 399 rfl rfl
set_option maxRecDepth 100000 in
theorem tw366 : Cond.methodLink "CutTrees$Drawing" 51 yX1_joinGroups ∈ gT := gT_at 400 rfl rfl
set_option maxRecDepth 100000 in
theorem tw368 : Cond.instanceMethod yX1_joinGroups ∈ gT := gT_at 402 rfl rfl
set_option maxRecDepth 100000 in
theorem tw369 : Cond.code yX1_joinGroups prog_3_method_6_code 3 (Option.none : Option FieldType) ∈ gT := gT_at 403 rfl rfl
set_option maxRecDepth 100000 in
theorem tw370 : Cond.methodLink "CutTreesLaw" 73 yX5_parts ∈ gT := gT_at 404 rfl rfl
set_option maxRecDepth 100000 in
theorem tw371 : Cond.instanceMethod yX5_parts ∈ gT := gT_at 405 rfl rfl
set_option maxRecDepth 100000 in
theorem tw372 : Cond.selects "CutTrees" yX5_parts yX5_parts ∈ gT := gT_at 406 rfl rfl
set_option maxRecDepth 100000 in
theorem tw373 : Cond.code yX5_parts prog_1_method_16_code 3 (Option.some FieldType.int) ∈ gT := gT_at 407 rfl rfl
set_option maxRecDepth 100000 in
theorem tw374 : Cond.methodLink "CutTrees" 130 yX5_refusalOfParts ∈ gT := gT_at 408 rfl rfl
set_option maxRecDepth 100000 in
theorem tw376 : Cond.instanceMethod yX5_refusalOfParts ∈ gT := gT_at 410 rfl rfl
set_option maxRecDepth 100000 in
theorem tw377 : Cond.code yX5_refusalOfParts prog_1_method_18_code 2 (Option.some FieldType.int) ∈ gT := gT_at 411 rfl rfl
set_option maxRecDepth 100000 in
theorem tw378 : Cond.methodLink "CutTrees" 133 yX5_freshParting ∈ gT := gT_at 412 rfl rfl
set_option maxRecDepth 100000 in
theorem tw380 : Cond.instanceMethod yX5_freshParting ∈ gT := gT_at 414 rfl rfl
set_option maxRecDepth 100000 in
theorem tw381 : Cond.code yX5_freshParting prog_1_method_27_code 2 (Option.some (FieldType.object "CutTrees$Parting")) ∈ gT := gT_at 415 rfl rfl
set_option maxRecDepth 100000 in
theorem tw382 : Cond.methodLink "CutTrees" 179 yX4_refresh ∈ gT := gT_at 416 rfl rfl
set_option maxRecDepth 100000 in
theorem tw383 : Cond.instanceMethod yX4_refresh ∈ gT := gT_at 417 rfl rfl
set_option maxRecDepth 100000 in
theorem tw384 : Cond.selects "CutTrees$Parting" yX4_refresh yX4_refresh ∈ gT := gT_at 418 rfl rfl
set_option maxRecDepth 100000 in
theorem tw385 : Cond.code yX4_refresh prog_6_method_2_code 1 (Option.none : Option FieldType) ∈ gT := gT_at 419 rfl rfl
set_option maxRecDepth 100000 in
theorem tw386 : Cond.constant "CutTrees$Parting" 42 (2147483647 : Int32) ∈ gT := gT_at 420 rfl rfl
set_option maxRecDepth 100000 in
theorem tw387 : Cond.methodLink "CutTrees$Parting" 43 yX4_tryFrom ∈ gT := gT_at 421 rfl rfl
set_option maxRecDepth 100000 in
theorem tw388 : Cond.static yX4_tryFrom ∈ gT := gT_at 422 rfl rfl
set_option maxRecDepth 100000 in
theorem tw389 : Cond.code yX4_tryFrom prog_6_method_3_code 8 (Option.none : Option FieldType) ∈ gT := gT_at 423 rfl rfl
set_option maxRecDepth 100000 in
theorem tw390 : Cond.methodLink "CutTrees$Parting" 47 yX4_keepTried ∈ gT := gT_at 424 rfl rfl
set_option maxRecDepth 100000 in
theorem tw392 : Cond.instanceMethod yX4_keepTried ∈ gT := gT_at 426 rfl rfl
set_option maxRecDepth 100000 in
theorem tw393 : Cond.code yX4_keepTried prog_6_method_5_code 3 (Option.none : Option FieldType) ∈ gT := gT_at 427 rfl rfl
set_option maxRecDepth 100000 in
theorem tw394 : Cond.methodLink "CutTrees$Parting" 51 yX4_costToLower ∈ gT := gT_at 428 rfl rfl
set_option maxRecDepth 100000 in
theorem tw396 : Cond.instanceMethod yX4_costToLower ∈ gT := gT_at 430 rfl rfl
set_option maxRecDepth 100000 in
theorem tw397 : Cond.code yX4_costToLower prog_6_method_4_code 4 (Option.some FieldType.int) ∈ gT := gT_at 431 rfl rfl
set_option maxRecDepth 100000 in
theorem tw398 : Cond.methodLink "CutTrees$Parting" 55 yJM_max ∈ gT := gT_at 432 rfl rfl
set_option maxRecDepth 100000 in
theorem tw399 : Cond.methodLink "CutTreesLaw" 77 yX5_partOf ∈ gT := gT_at 433 rfl rfl
set_option maxRecDepth 100000 in
theorem tw400 : Cond.instanceMethod yX5_partOf ∈ gT := gT_at 434 rfl rfl
set_option maxRecDepth 100000 in
theorem tw401 : Cond.selects "CutTrees" yX5_partOf yX5_partOf ∈ gT := gT_at 435 rfl rfl
set_option maxRecDepth 100000 in
theorem tw402 : Cond.code yX5_partOf prog_1_method_17_code 4 (Option.some FieldType.int) ∈ gT := gT_at 436 rfl rfl
set_option maxRecDepth 100000 in
theorem tw403 : Cond.methodLink "CutTreesLaw" 81 yX5_sparsest ∈ gT := gT_at 437 rfl rfl
set_option maxRecDepth 100000 in
theorem tw404 : Cond.instanceMethod yX5_sparsest ∈ gT := gT_at 438 rfl rfl
set_option maxRecDepth 100000 in
theorem tw405 : Cond.selects "CutTrees" yX5_sparsest yX5_sparsest ∈ gT := gT_at 439 rfl rfl
set_option maxRecDepth 100000 in
theorem tw406 : Cond.code yX5_sparsest prog_1_method_19_code 1 (Option.some FieldType.int) ∈ gT := gT_at 440 rfl rfl
set_option maxRecDepth 100000 in
theorem tw407 : Cond.methodLink "CutTrees" 143 yX0_sparsestSide ∈ gT := gT_at 441 rfl rfl
set_option maxRecDepth 100000 in
theorem tw408 : Cond.instanceMethod yX0_sparsestSide ∈ gT := gT_at 442 rfl rfl
set_option maxRecDepth 100000 in
theorem tw409 : Cond.selects "CutTrees$CutTable" yX0_sparsestSide yX0_sparsestSide ∈ gT := gT_at 443 rfl rfl
set_option maxRecDepth 100000 in
theorem tw410 : Cond.code yX0_sparsestSide prog_2_method_10_code 7 (Option.some FieldType.int) ∈ gT := gT_at 444 rfl rfl
set_option maxRecDepth 100000 in
theorem tw411 : Cond.methodLink "CutTrees$CutTable" 65 yX2_spread ∈ gT := gT_at 445 rfl rfl
set_option maxRecDepth 100000 in
theorem tw412 : Cond.instanceMethod yX2_spread ∈ gT := gT_at 446 rfl rfl
set_option maxRecDepth 100000 in
theorem tw413 : Cond.selects "CutTrees$Graph" yX2_spread yX2_spread ∈ gT := gT_at 447 rfl rfl
set_option maxRecDepth 100000 in
theorem tw414 : Cond.code yX2_spread prog_4_method_16_code 3 (Option.some FieldType.int) ∈ gT := gT_at 448 rfl rfl
set_option maxRecDepth 100000 in
theorem tw415 : Cond.methodLink "CutTrees$Graph" 58 yJI_bitCount ∈ gT := gT_at 449 rfl rfl
set_option maxRecDepth 100000 in
theorem tw416 : Cond.static yJI_bitCount ∈ gT := gT_at 450 rfl rfl
set_option maxRecDepth 100000 in
theorem tw417 : Cond.code yJI_bitCount prog_9_method_49_code 1 (Option.some FieldType.int) ∈ gT := gT_at 451 rfl rfl
set_option maxRecDepth 100000 in
theorem tw418 : Cond.constant "java/lang/Integer" 265 (1431655765 : Int32) ∈ gT := gT_at 452 rfl rfl
set_option maxRecDepth 100000 in
theorem tw419 : Cond.constant "java/lang/Integer" 266 (858993459 : Int32) ∈ gT := gT_at 453 rfl rfl
set_option maxRecDepth 100000 in
theorem tw420 : Cond.constant "java/lang/Integer" 267 (252645135 : Int32) ∈ gT := gT_at 454 rfl rfl
set_option maxRecDepth 100000 in
theorem tw421 : Cond.methodLink "CutTreesLaw" 85 yX5_share ∈ gT := gT_at 455 rfl rfl
set_option maxRecDepth 100000 in
theorem tw422 : Cond.instanceMethod yX5_share ∈ gT := gT_at 456 rfl rfl
set_option maxRecDepth 100000 in
theorem tw423 : Cond.selects "CutTrees" yX5_share yX5_share ∈ gT := gT_at 457 rfl rfl
set_option maxRecDepth 100000 in
theorem tw424 : Cond.code yX5_share prog_1_method_20_code 6 (Option.some FieldType.int) ∈ gT := gT_at 458 rfl rfl
set_option maxRecDepth 100000 in
theorem tw425 : Cond.methodLink "CutTrees" 146 yX0_cutAt ∈ gT := gT_at 459 rfl rfl
set_option maxRecDepth 100000 in
theorem tw426 : Cond.methodLink "CutTrees" 149 yX2_spread ∈ gT := gT_at 460 rfl rfl
set_option maxRecDepth 100000 in
theorem tw427 : Cond.methodLink "CutTrees" 152 yX5_greatestDivisor ∈ gT := gT_at 461 rfl rfl
set_option maxRecDepth 100000 in
theorem tw428 : Cond.static yX5_greatestDivisor ∈ gT := gT_at 462 rfl rfl
set_option maxRecDepth 100000 in
theorem tw429 : Cond.code yX5_greatestDivisor prog_1_method_21_code 3 (Option.some FieldType.int) ∈ gT := gT_at 463 rfl rfl
set_option maxRecDepth 100000 in
theorem tw430 : Cond.methodLink "CutTreesLaw" 89 yX5_bars ∈ gT := gT_at 464 rfl rfl
set_option maxRecDepth 100000 in
theorem tw431 : Cond.instanceMethod yX5_bars ∈ gT := gT_at 465 rfl rfl
set_option maxRecDepth 100000 in
theorem tw432 : Cond.selects "CutTrees" yX5_bars yX5_bars ∈ gT := gT_at 466 rfl rfl
set_option maxRecDepth 100000 in
theorem tw433 : Cond.code yX5_bars prog_1_method_22_code 4 (Option.some FieldType.int) ∈ gT := gT_at 467 rfl rfl
set_option maxRecDepth 100000 in
theorem tw434 : Cond.methodLink "CutTrees" 155 yX5_barSet ∈ gT := gT_at 468 rfl rfl
set_option maxRecDepth 100000 in
theorem tw435 : Cond.instanceMethod yX5_barSet ∈ gT := gT_at 469 rfl rfl
set_option maxRecDepth 100000 in
theorem tw436 : Cond.selects "CutTrees" yX5_barSet yX5_barSet ∈ gT := gT_at 470 rfl rfl
set_option maxRecDepth 100000 in
theorem tw437 : Cond.code yX5_barSet prog_1_method_23_code 3 (Option.some FieldType.int) ∈ gT := gT_at 471 rfl rfl
set_option maxRecDepth 100000 in
theorem tw438 : Cond.methodLink "CutTrees" 163 yX2_areJoined ∈ gT := gT_at 472 rfl rfl
set_option maxRecDepth 100000 in
theorem tw439 : Cond.methodLink "CutTrees" 166 yX2_fewestBars ∈ gT := gT_at 473 rfl rfl
set_option maxRecDepth 100000 in
theorem tw440 : Cond.instanceMethod yX2_fewestBars ∈ gT := gT_at 474 rfl rfl
set_option maxRecDepth 100000 in
theorem tw441 : Cond.selects "CutTrees$Graph" yX2_fewestBars yX2_fewestBars ∈ gT := gT_at 475 rfl rfl
set_option maxRecDepth 100000 in
theorem tw442 : Cond.code yX2_fewestBars prog_4_method_19_code 10 (Option.some FieldType.int) ∈ gT := gT_at 476 rfl rfl
set_option maxRecDepth 100000 in
theorem tw443 : Cond.methodLink "CutTrees$Graph" 64 yX2_reachedFrom ∈ gT := gT_at 477 rfl rfl
set_option maxRecDepth 100000 in
theorem tw445 : Cond.instanceMethod yX2_reachedFrom ∈ gT := gT_at 479 rfl rfl
set_option maxRecDepth 100000 in
theorem tw446 : Cond.code yX2_reachedFrom prog_4_method_17_code 7 (Option.some FieldType.int) ∈ gT := gT_at 480 rfl rfl
set_option maxRecDepth 100000 in
theorem tw448 : Cond.methodLink "CutTrees" 158 yJI_bitCount ∈ gT := gT_at 482 rfl rfl
set_option maxRecDepth 100000 in
theorem tw449 : Cond.methodLink "CutTreesLaw" 93 yX5_barSet ∈ gT := gT_at 483 rfl rfl
set_option maxRecDepth 100000 in
theorem tw450 : Cond.methodLink "CutTreesLaw" 97 yX5_without ∈ gT := gT_at 484 rfl rfl
set_option maxRecDepth 100000 in
theorem tw451 : Cond.instanceMethod yX5_without ∈ gT := gT_at 485 rfl rfl
set_option maxRecDepth 100000 in
theorem tw452 : Cond.selects "CutTrees" yX5_without yX5_without ∈ gT := gT_at 486 rfl rfl
set_option maxRecDepth 100000 in
theorem tw453 : Cond.code yX5_without prog_1_method_24_code 2 (Option.some FieldType.int) ∈ gT := gT_at 487 rfl rfl
set_option maxRecDepth 100000 in
theorem tw454 : Cond.methodLink "CutTrees" 169 yX2_allNodes ∈ gT := gT_at 488 rfl rfl
set_option maxRecDepth 100000 in
theorem tw455 : Cond.methodLink "CutTrees" 172 yX2_countConnected ∈ gT := gT_at 489 rfl rfl
set_option maxRecDepth 100000 in
theorem tw456 : Cond.instanceMethod yX2_countConnected ∈ gT := gT_at 490 rfl rfl
set_option maxRecDepth 100000 in
theorem tw457 : Cond.selects "CutTrees$Graph" yX2_countConnected yX2_countConnected ∈ gT := gT_at 491 rfl rfl
set_option maxRecDepth 100000 in
theorem tw458 : Cond.code yX2_countConnected prog_4_method_18_code 5 (Option.some FieldType.int) ∈ gT := gT_at 492 rfl rfl
set_option maxRecDepth 100000 in
theorem tw459 : Cond.classLink "CutTreesLaw" 10 "CutTreesModel" ∈ gT := gT_at 493 rfl rfl
set_option maxRecDepth 100000 in
theorem tw460 : Cond.instantiable "CutTreesModel" 20 ∈ gT := gT_at 494 rfl rfl
set_option maxRecDepth 100000 in
theorem tw461 : Cond.methodLink "CutTreesLaw" 12 yX6_init ∈ gT := gT_at 495 rfl rfl
set_option maxRecDepth 100000 in
theorem tw462 : Cond.instanceMethod yX6_init ∈ gT := gT_at 496 rfl rfl
set_option maxRecDepth 100000 in
theorem tw463 : Cond.code yX6_init prog_8_method_1_code 1 (Option.none : Option FieldType) ∈ gT := gT_at 497 rfl rfl
set_option maxRecDepth 100000 in
theorem tw464 : Cond.methodLink "CutTreesModel" 1 objectInit ∈ gT := gT_at 498 rfl rfl
set_option maxRecDepth 100000 in
theorem tw465 : Cond.fieldLink "CutTreesModel" 60 "CutTreesModel" "nodes" "I" ∈ gT := gT_at 499 rfl rfl
set_option maxRecDepth 100000 in
theorem tw466 : Cond.fieldLink "CutTreesModel" 71 "CutTreesModel" "arcs" "I" ∈ gT := gT_at 500 rfl rfl
set_option maxRecDepth 100000 in
theorem tw467 : Cond.fieldLink "CutTreesModel" 74 "CutTreesModel" "left" "I" ∈ gT := gT_at 501 rfl rfl
set_option maxRecDepth 100000 in
theorem tw468 : Cond.fieldLink "CutTreesModel" 7 "CutTreesModel" "ones" "[I" ∈ gT := gT_at 502 rfl rfl
set_option maxRecDepth 100000 in
theorem tw469 : Cond.fieldLink "CutTreesModel" 13 "CutTreesModel" "others" "[I" ∈ gT := gT_at 503 rfl rfl
set_option maxRecDepth 100000 in
theorem tw470 : Cond.fieldLink "CutTreesModel" 16 "CutTreesModel" "weights" "[I" ∈ gT := gT_at 504 rfl rfl
set_option maxRecDepth 100000 in
theorem tw471 : Cond.fieldLink "CutTreesModel" 19 "CutTreesModel" "there" "[Z" ∈ gT := gT_at 505 rfl rfl
set_option maxRecDepth 100000 in
theorem tw472 : Cond.fieldLink "CutTreesModel" 23 "CutTreesModel" "between" "[I" ∈ gT := gT_at 506 rfl rfl
set_option maxRecDepth 100000 in
theorem tw473 : Cond.fieldLink "CutTreesModel" 26 "CutTreesModel" "near" "[I" ∈ gT := gT_at 507 rfl rfl
set_option maxRecDepth 100000 in
theorem tw474 : Cond.fieldLink "CutTreesModel" 29 "CutTreesModel" "cuts" "[I" ∈ gT := gT_at 508 rfl rfl
set_option maxRecDepth 100000 in
theorem tw475 : Cond.fieldLink "CutTreesModel" 56 "CutTreesModel" "isNew" "Z" ∈ gT := gT_at 509 rfl rfl
set_option maxRecDepth 100000 in
theorem tw476 : Cond.fieldLink "CutTreesModel" 32 "CutTreesModel" "parents" "[I" ∈ gT := gT_at 510 rfl rfl
set_option maxRecDepth 100000 in
theorem tw477 : Cond.fieldLink "CutTreesModel" 35 "CutTreesModel" "branches" "[I" ∈ gT := gT_at 511 rfl rfl
set_option maxRecDepth 100000 in
theorem tw478 : Cond.fieldLink "CutTreesModel" 38 "CutTreesModel" "partCost" "[I" ∈ gT := gT_at 512 rfl rfl
set_option maxRecDepth 100000 in
theorem tw479 : Cond.fieldLink "CutTreesModel" 41 "CutTreesModel" "arePartsNew" "[Z" ∈ gT := gT_at 513 rfl rfl
set_option maxRecDepth 100000 in
theorem tw480 : Cond.fieldLink "CutTreesModel" 44 "CutTreesModel" "partNumbers" "[I" ∈ gT := gT_at 514 rfl rfl
set_option maxRecDepth 100000 in
theorem tw481 : Cond.fieldLink "CutTreesModel" 87 "CutTreesModel" "least" "I" ∈ gT := gT_at 515 rfl rfl
set_option maxRecDepth 100000 in
theorem tw482 : Cond.fieldLink "CutTreesModel" 47 "CutTreesModel" "groups" "[I" ∈ gT := gT_at 516 rfl rfl
set_option maxRecDepth 100000 in
theorem tw483 : Cond.fieldLink "CutTreesModel" 50 "CutTreesModel" "trial" "[I" ∈ gT := gT_at 517 rfl rfl
set_option maxRecDepth 100000 in
theorem tw484 : Cond.fieldLink "CutTreesModel" 53 "CutTreesModel" "costs" "[I" ∈ gT := gT_at 518 rfl rfl
set_option maxRecDepth 100000 in
theorem tw526 : Cond.arrayClass FieldType.boolean ∈ gT := gT_at 560 rfl rfl
set_option maxRecDepth 100000 in
theorem tw527 : Cond.methodLink "CutTreesLaw" 17 yX6_node ∈ gT := gT_at 561 rfl rfl
set_option maxRecDepth 100000 in
theorem tw528 : Cond.instanceMethod yX6_node ∈ gT := gT_at 562 rfl rfl
set_option maxRecDepth 100000 in
theorem tw529 : Cond.selects "CutTreesModel" yX6_node yX6_node ∈ gT := gT_at 563 rfl rfl
set_option maxRecDepth 100000 in
theorem tw530 : Cond.code yX6_node prog_8_method_3_code 1 (Option.some FieldType.int) ∈ gT := gT_at 564 rfl rfl
set_option maxRecDepth 100000 in
theorem tw531 : Cond.methodLink "CutTreesModel" 64 yX6_changed ∈ gT := gT_at 565 rfl rfl
set_option maxRecDepth 100000 in
theorem tw533 : Cond.instanceMethod yX6_changed ∈ gT := gT_at 567 rfl rfl
set_option maxRecDepth 100000 in
theorem tw534 : Cond.code yX6_changed prog_8_method_2_code 2 (Option.none : Option FieldType) ∈ gT := gT_at 568 rfl rfl
set_option maxRecDepth 100000 in
theorem tw535 : Cond.methodLink "CutTreesLaw" 22 yX6_arc ∈ gT := gT_at 569 rfl rfl
set_option maxRecDepth 100000 in
theorem tw536 : Cond.instanceMethod yX6_arc ∈ gT := gT_at 570 rfl rfl
set_option maxRecDepth 100000 in
theorem tw537 : Cond.selects "CutTreesModel" yX6_arc yX6_arc ∈ gT := gT_at 571 rfl rfl
set_option maxRecDepth 100000 in
theorem tw538 : Cond.code yX6_arc prog_8_method_5_code 4 (Option.some FieldType.int) ∈ gT := gT_at 572 rfl rfl
set_option maxRecDepth 100000 in
theorem tw539 : Cond.methodLink "CutTreesModel" 67 yX6_areTwo ∈ gT := gT_at 573 rfl rfl
set_option maxRecDepth 100000 in
theorem tw541 : Cond.instanceMethod yX6_areTwo ∈ gT := gT_at 575 rfl rfl
set_option maxRecDepth 100000 in
theorem tw542 : Cond.code yX6_areTwo prog_8_method_4_code 3 (Option.some FieldType.boolean) ∈ gT := gT_at 576 rfl rfl
set_option maxRecDepth 100000 in
theorem tw543 : Cond.methodLink "CutTreesLaw" 27 yX6_drop ∈ gT := gT_at 577 rfl rfl
set_option maxRecDepth 100000 in
theorem tw544 : Cond.instanceMethod yX6_drop ∈ gT := gT_at 578 rfl rfl
set_option maxRecDepth 100000 in
theorem tw545 : Cond.selects "CutTreesModel" yX6_drop yX6_drop ∈ gT := gT_at 579 rfl rfl
set_option maxRecDepth 100000 in
theorem tw546 : Cond.code yX6_drop prog_8_method_6_code 2 (Option.some FieldType.int) ∈ gT := gT_at 580 rfl rfl
set_option maxRecDepth 100000 in
theorem tw547 : Cond.methodLink "CutTreesLaw" 31 yX6_clear ∈ gT := gT_at 581 rfl rfl
set_option maxRecDepth 100000 in
theorem tw548 : Cond.instanceMethod yX6_clear ∈ gT := gT_at 582 rfl rfl
set_option maxRecDepth 100000 in
theorem tw549 : Cond.selects "CutTreesModel" yX6_clear yX6_clear ∈ gT := gT_at 583 rfl rfl
set_option maxRecDepth 100000 in
theorem tw550 : Cond.code yX6_clear prog_8_method_7_code 2 (Option.some FieldType.int) ∈ gT := gT_at 584 rfl rfl
set_option maxRecDepth 100000 in
theorem tw551 : Cond.methodLink "CutTreesLaw" 35 yX6_cut ∈ gT := gT_at 585 rfl rfl
set_option maxRecDepth 100000 in
theorem tw552 : Cond.instanceMethod yX6_cut ∈ gT := gT_at 586 rfl rfl
set_option maxRecDepth 100000 in
theorem tw553 : Cond.selects "CutTreesModel" yX6_cut yX6_cut ∈ gT := gT_at 587 rfl rfl
set_option maxRecDepth 100000 in
theorem tw554 : Cond.code yX6_cut prog_8_method_10_code 2 (Option.some FieldType.int) ∈ gT := gT_at 588 rfl rfl
set_option maxRecDepth 100000 in
theorem tw555 : Cond.methodLink "CutTreesModel" 77 yX6_all ∈ gT := gT_at 589 rfl rfl
set_option maxRecDepth 100000 in
theorem tw557 : Cond.instanceMethod yX6_all ∈ gT := gT_at 591 rfl rfl
set_option maxRecDepth 100000 in
theorem tw558 : Cond.code yX6_all prog_8_method_8_code 1 (Option.some FieldType.int) ∈ gT := gT_at 592 rfl rfl
set_option maxRecDepth 100000 in
theorem tw559 : Cond.methodLink "CutTreesModel" 84 yX6_make ∈ gT := gT_at 593 rfl rfl
set_option maxRecDepth 100000 in
theorem tw561 : Cond.instanceMethod yX6_make ∈ gT := gT_at 595 rfl rfl
set_option maxRecDepth 100000 in
theorem tw562 : Cond.code yX6_make prog_8_method_9_code 6 (Option.none : Option FieldType) ∈ gT := gT_at 596 rfl rfl
set_option maxRecDepth 100000 in
theorem tw563 : Cond.methodLink "CutTreesModel" 81 yX6_tree ∈ gT := gT_at 597 rfl rfl
set_option maxRecDepth 100000 in
theorem tw565 : Cond.instanceMethod yX6_tree ∈ gT := gT_at 599 rfl rfl
set_option maxRecDepth 100000 in
theorem tw566 : Cond.code yX6_tree prog_8_method_12_code 5 (Option.none : Option FieldType) ∈ gT := gT_at 600 rfl rfl
set_option maxRecDepth 100000 in
theorem tw567 : Cond.methodLink "CutTreesModel" 90 yX6_sideOf ∈ gT := gT_at 601 rfl rfl
set_option maxRecDepth 100000 in
theorem tw569 : Cond.instanceMethod yX6_sideOf ∈ gT := gT_at 603 rfl rfl
set_option maxRecDepth 100000 in
theorem tw570 : Cond.code yX6_sideOf prog_8_method_11_code 5 (Option.some FieldType.int) ∈ gT := gT_at 604 rfl rfl
set_option maxRecDepth 100000 in
theorem tw571 : Cond.methodLink "CutTreesLaw" 40 yX6_pair ∈ gT := gT_at 605 rfl rfl
set_option maxRecDepth 100000 in
theorem tw572 : Cond.instanceMethod yX6_pair ∈ gT := gT_at 606 rfl rfl
set_option maxRecDepth 100000 in
theorem tw573 : Cond.selects "CutTreesModel" yX6_pair yX6_pair ∈ gT := gT_at 607 rfl rfl
set_option maxRecDepth 100000 in
theorem tw574 : Cond.code yX6_pair prog_8_method_13_code 4 (Option.some FieldType.int) ∈ gT := gT_at 608 rfl rfl
set_option maxRecDepth 100000 in
theorem tw575 : Cond.methodLink "CutTreesLaw" 44 yX6_side ∈ gT := gT_at 609 rfl rfl
set_option maxRecDepth 100000 in
theorem tw576 : Cond.instanceMethod yX6_side ∈ gT := gT_at 610 rfl rfl
set_option maxRecDepth 100000 in
theorem tw577 : Cond.selects "CutTreesModel" yX6_side yX6_side ∈ gT := gT_at 611 rfl rfl
set_option maxRecDepth 100000 in
theorem tw578 : Cond.code yX6_side prog_8_method_14_code 3 (Option.some FieldType.int) ∈ gT := gT_at 612 rfl rfl
set_option maxRecDepth 100000 in
theorem tw579 : Cond.methodLink "CutTreesLaw" 48 yX6_parent ∈ gT := gT_at 613 rfl rfl
set_option maxRecDepth 100000 in
theorem tw580 : Cond.instanceMethod yX6_parent ∈ gT := gT_at 614 rfl rfl
set_option maxRecDepth 100000 in
theorem tw581 : Cond.selects "CutTreesModel" yX6_parent yX6_parent ∈ gT := gT_at 615 rfl rfl
set_option maxRecDepth 100000 in
theorem tw582 : Cond.code yX6_parent prog_8_method_16_code 2 (Option.some FieldType.int) ∈ gT := gT_at 616 rfl rfl
set_option maxRecDepth 100000 in
theorem tw583 : Cond.methodLink "CutTreesModel" 94 yX6_ofNode ∈ gT := gT_at 617 rfl rfl
set_option maxRecDepth 100000 in
theorem tw585 : Cond.instanceMethod yX6_ofNode ∈ gT := gT_at 619 rfl rfl
set_option maxRecDepth 100000 in
theorem tw586 : Cond.code yX6_ofNode prog_8_method_15_code 3 (Option.some FieldType.int) ∈ gT := gT_at 620 rfl rfl
set_option maxRecDepth 100000 in
theorem tw587 : Cond.methodLink "CutTreesLaw" 52 yX6_branch ∈ gT := gT_at 621 rfl rfl
set_option maxRecDepth 100000 in
theorem tw588 : Cond.instanceMethod yX6_branch ∈ gT := gT_at 622 rfl rfl
set_option maxRecDepth 100000 in
theorem tw589 : Cond.selects "CutTreesModel" yX6_branch yX6_branch ∈ gT := gT_at 623 rfl rfl
set_option maxRecDepth 100000 in
theorem tw590 : Cond.code yX6_branch prog_8_method_17_code 2 (Option.some FieldType.int) ∈ gT := gT_at 624 rfl rfl
set_option maxRecDepth 100000 in
theorem tw591 : Cond.methodLink "CutTreesLaw" 56 yX6_way ∈ gT := gT_at 625 rfl rfl
set_option maxRecDepth 100000 in
theorem tw592 : Cond.instanceMethod yX6_way ∈ gT := gT_at 626 rfl rfl
set_option maxRecDepth 100000 in
theorem tw593 : Cond.selects "CutTreesModel" yX6_way yX6_way ∈ gT := gT_at 627 rfl rfl
set_option maxRecDepth 100000 in
theorem tw594 : Cond.code yX6_way prog_8_method_19_code 6 (Option.some FieldType.int) ∈ gT := gT_at 628 rfl rfl
set_option maxRecDepth 100000 in
theorem tw595 : Cond.methodLink "CutTreesModel" 98 yX6_up ∈ gT := gT_at 629 rfl rfl
set_option maxRecDepth 100000 in
theorem tw597 : Cond.instanceMethod yX6_up ∈ gT := gT_at 631 rfl rfl
set_option maxRecDepth 100000 in
theorem tw598 : Cond.code yX6_up prog_8_method_18_code 4 (Option.some FieldType.int) ∈ gT := gT_at 632 rfl rfl
set_option maxRecDepth 100000 in
theorem tw599 : Cond.constant "CutTreesModel" 102 (1073741824 : Int32) ∈ gT := gT_at 633 rfl rfl
set_option maxRecDepth 100000 in
theorem tw600 : Cond.methodLink "CutTreesLaw" 60 yX6_least ∈ gT := gT_at 634 rfl rfl
set_option maxRecDepth 100000 in
theorem tw601 : Cond.instanceMethod yX6_least ∈ gT := gT_at 635 rfl rfl
set_option maxRecDepth 100000 in
theorem tw602 : Cond.selects "CutTreesModel" yX6_least yX6_least ∈ gT := gT_at 636 rfl rfl
set_option maxRecDepth 100000 in
theorem tw603 : Cond.code yX6_least prog_8_method_21_code 1 (Option.some FieldType.int) ∈ gT := gT_at 637 rfl rfl
set_option maxRecDepth 100000 in
theorem tw604 : Cond.methodLink "CutTreesModel" 103 yX6_leastCut ∈ gT := gT_at 638 rfl rfl
set_option maxRecDepth 100000 in
theorem tw606 : Cond.instanceMethod yX6_leastCut ∈ gT := gT_at 640 rfl rfl
set_option maxRecDepth 100000 in
theorem tw607 : Cond.code yX6_leastCut prog_8_method_20_code 3 (Option.some FieldType.int) ∈ gT := gT_at 641 rfl rfl
set_option maxRecDepth 100000 in
theorem tw608 : Cond.methodLink "CutTreesLaw" 64 yX6_counted ∈ gT := gT_at 642 rfl rfl
set_option maxRecDepth 100000 in
theorem tw609 : Cond.instanceMethod yX6_counted ∈ gT := gT_at 643 rfl rfl
set_option maxRecDepth 100000 in
theorem tw610 : Cond.selects "CutTreesModel" yX6_counted yX6_counted ∈ gT := gT_at 644 rfl rfl
set_option maxRecDepth 100000 in
theorem tw611 : Cond.code yX6_counted prog_8_method_23_code 1 (Option.some FieldType.int) ∈ gT := gT_at 645 rfl rfl
set_option maxRecDepth 100000 in
theorem tw612 : Cond.methodLink "CutTreesModel" 106 yX6_leastOne ∈ gT := gT_at 646 rfl rfl
set_option maxRecDepth 100000 in
theorem tw614 : Cond.instanceMethod yX6_leastOne ∈ gT := gT_at 648 rfl rfl
set_option maxRecDepth 100000 in
theorem tw615 : Cond.code yX6_leastOne prog_8_method_22_code 5 (Option.some FieldType.int) ∈ gT := gT_at 649 rfl rfl
set_option maxRecDepth 100000 in
theorem tw616 : Cond.methodLink "CutTreesLaw" 68 yX6_every ∈ gT := gT_at 650 rfl rfl
set_option maxRecDepth 100000 in
theorem tw617 : Cond.instanceMethod yX6_every ∈ gT := gT_at 651 rfl rfl
set_option maxRecDepth 100000 in
theorem tw618 : Cond.selects "CutTreesModel" yX6_every yX6_every ∈ gT := gT_at 652 rfl rfl
set_option maxRecDepth 100000 in
theorem tw619 : Cond.code yX6_every prog_8_method_24_code 2 (Option.some FieldType.int) ∈ gT := gT_at 653 rfl rfl
set_option maxRecDepth 100000 in
theorem tw620 : Cond.methodLink "CutTreesLaw" 72 yX6_drawn ∈ gT := gT_at 654 rfl rfl
set_option maxRecDepth 100000 in
theorem tw621 : Cond.instanceMethod yX6_drawn ∈ gT := gT_at 655 rfl rfl
set_option maxRecDepth 100000 in
theorem tw622 : Cond.selects "CutTreesModel" yX6_drawn yX6_drawn ∈ gT := gT_at 656 rfl rfl
set_option maxRecDepth 100000 in
theorem tw623 : Cond.code yX6_drawn prog_8_method_25_code 11 (Option.some FieldType.int) ∈ gT := gT_at 657 rfl rfl
set_option maxRecDepth 100000 in
theorem tw624 : Cond.methodLink "CutTreesModel" 109 yX6_loose ∈ gT := gT_at 658 rfl rfl
set_option maxRecDepth 100000 in
theorem tw626 : Cond.instanceMethod yX6_loose ∈ gT := gT_at 660 rfl rfl
set_option maxRecDepth 100000 in
theorem tw627 : Cond.code yX6_loose prog_8_method_27_code 3 (Option.some FieldType.int) ∈ gT := gT_at 661 rfl rfl
set_option maxRecDepth 100000 in
theorem tw628 : Cond.methodLink "CutTreesModel" 114 yX6_isLoose ∈ gT := gT_at 662 rfl rfl
set_option maxRecDepth 100000 in
theorem tw630 : Cond.instanceMethod yX6_isLoose ∈ gT := gT_at 664 rfl rfl
set_option maxRecDepth 100000 in
theorem tw631 : Cond.code yX6_isLoose prog_8_method_26_code 2 (Option.some FieldType.boolean) ∈ gT := gT_at 665 rfl rfl
set_option maxRecDepth 100000 in
theorem tw632 : Cond.constant "CutTreesModel" 112 (1664525 : Int32) ∈ gT := gT_at 666 rfl rfl
set_option maxRecDepth 100000 in
theorem tw633 : Cond.constant "CutTreesModel" 113 (1013904223 : Int32) ∈ gT := gT_at 667 rfl rfl
set_option maxRecDepth 100000 in
theorem tw634 : Cond.methodLink "CutTreesLaw" 76 yX6_parts ∈ gT := gT_at 668 rfl rfl
set_option maxRecDepth 100000 in
theorem tw635 : Cond.instanceMethod yX6_parts ∈ gT := gT_at 669 rfl rfl
set_option maxRecDepth 100000 in
theorem tw636 : Cond.selects "CutTreesModel" yX6_parts yX6_parts ∈ gT := gT_at 670 rfl rfl
set_option maxRecDepth 100000 in
theorem tw637 : Cond.code yX6_parts prog_8_method_31_code 3 (Option.some FieldType.int) ∈ gT := gT_at 671 rfl rfl
set_option maxRecDepth 100000 in
theorem tw638 : Cond.methodLink "CutTreesModel" 121 yX6_partFault ∈ gT := gT_at 672 rfl rfl
set_option maxRecDepth 100000 in
theorem tw640 : Cond.instanceMethod yX6_partFault ∈ gT := gT_at 674 rfl rfl
set_option maxRecDepth 100000 in
theorem tw641 : Cond.code yX6_partFault prog_8_method_28_code 2 (Option.some FieldType.int) ∈ gT := gT_at 675 rfl rfl
set_option maxRecDepth 100000 in
theorem tw642 : Cond.methodLink "CutTreesModel" 124 yX6_findParts ∈ gT := gT_at 676 rfl rfl
set_option maxRecDepth 100000 in
theorem tw644 : Cond.instanceMethod yX6_findParts ∈ gT := gT_at 678 rfl rfl
set_option maxRecDepth 100000 in
theorem tw645 : Cond.code yX6_findParts prog_8_method_29_code 6 (Option.none : Option FieldType) ∈ gT := gT_at 679 rfl rfl
set_option maxRecDepth 100000 in
theorem tw646 : Cond.methodLink "CutTreesModel" 118 yX6_isFull ∈ gT := gT_at 680 rfl rfl
set_option maxRecDepth 100000 in
theorem tw648 : Cond.instanceMethod yX6_isFull ∈ gT := gT_at 682 rfl rfl
set_option maxRecDepth 100000 in
theorem tw649 : Cond.code yX6_isFull prog_8_method_30_code 4 (Option.some FieldType.boolean) ∈ gT := gT_at 683 rfl rfl
set_option maxRecDepth 100000 in
theorem tw650 : Cond.methodLink "CutTreesLaw" 80 yX6_partOf ∈ gT := gT_at 684 rfl rfl
set_option maxRecDepth 100000 in
theorem tw651 : Cond.instanceMethod yX6_partOf ∈ gT := gT_at 685 rfl rfl
set_option maxRecDepth 100000 in
theorem tw652 : Cond.selects "CutTreesModel" yX6_partOf yX6_partOf ∈ gT := gT_at 686 rfl rfl
set_option maxRecDepth 100000 in
theorem tw653 : Cond.code yX6_partOf prog_8_method_32_code 4 (Option.some FieldType.int) ∈ gT := gT_at 687 rfl rfl
set_option maxRecDepth 100000 in
theorem tw654 : Cond.methodLink "CutTreesLaw" 84 yX6_sparsest ∈ gT := gT_at 688 rfl rfl
set_option maxRecDepth 100000 in
theorem tw655 : Cond.instanceMethod yX6_sparsest ∈ gT := gT_at 689 rfl rfl
set_option maxRecDepth 100000 in
theorem tw656 : Cond.selects "CutTreesModel" yX6_sparsest yX6_sparsest ∈ gT := gT_at 690 rfl rfl
set_option maxRecDepth 100000 in
theorem tw657 : Cond.code yX6_sparsest prog_8_method_36_code 1 (Option.some FieldType.int) ∈ gT := gT_at 691 rfl rfl
set_option maxRecDepth 100000 in
theorem tw658 : Cond.methodLink "CutTreesModel" 134 yX6_sparsestOf ∈ gT := gT_at 692 rfl rfl
set_option maxRecDepth 100000 in
theorem tw660 : Cond.instanceMethod yX6_sparsestOf ∈ gT := gT_at 694 rfl rfl
set_option maxRecDepth 100000 in
theorem tw661 : Cond.code yX6_sparsestOf prog_8_method_35_code 3 (Option.some FieldType.int) ∈ gT := gT_at 695 rfl rfl
set_option maxRecDepth 100000 in
theorem tw662 : Cond.methodLink "CutTreesModel" 131 yX6_below ∈ gT := gT_at 696 rfl rfl
set_option maxRecDepth 100000 in
theorem tw664 : Cond.instanceMethod yX6_below ∈ gT := gT_at 698 rfl rfl
set_option maxRecDepth 100000 in
theorem tw665 : Cond.code yX6_below prog_8_method_34_code 2 (Option.some FieldType.int) ∈ gT := gT_at 699 rfl rfl
set_option maxRecDepth 100000 in
theorem tw666 : Cond.methodLink "CutTreesModel" 128 yX6_count ∈ gT := gT_at 700 rfl rfl
set_option maxRecDepth 100000 in
theorem tw667 : Cond.static yX6_count ∈ gT := gT_at 701 rfl rfl
set_option maxRecDepth 100000 in
theorem tw668 : Cond.code yX6_count prog_8_method_33_code 3 (Option.some FieldType.int) ∈ gT := gT_at 702 rfl rfl
set_option maxRecDepth 100000 in
theorem tw669 : Cond.methodLink "CutTreesLaw" 88 yX6_share ∈ gT := gT_at 703 rfl rfl
set_option maxRecDepth 100000 in
theorem tw670 : Cond.instanceMethod yX6_share ∈ gT := gT_at 704 rfl rfl
set_option maxRecDepth 100000 in
theorem tw671 : Cond.selects "CutTreesModel" yX6_share yX6_share ∈ gT := gT_at 705 rfl rfl
set_option maxRecDepth 100000 in
theorem tw672 : Cond.code yX6_share prog_8_method_37_code 8 (Option.some FieldType.int) ∈ gT := gT_at 706 rfl rfl
set_option maxRecDepth 100000 in
theorem tw673 : Cond.methodLink "CutTreesLaw" 92 yX6_bars ∈ gT := gT_at 707 rfl rfl
set_option maxRecDepth 100000 in
theorem tw674 : Cond.instanceMethod yX6_bars ∈ gT := gT_at 708 rfl rfl
set_option maxRecDepth 100000 in
theorem tw675 : Cond.selects "CutTreesModel" yX6_bars yX6_bars ∈ gT := gT_at 709 rfl rfl
set_option maxRecDepth 100000 in
theorem tw676 : Cond.code yX6_bars prog_8_method_41_code 4 (Option.some FieldType.int) ∈ gT := gT_at 710 rfl rfl
set_option maxRecDepth 100000 in
theorem tw677 : Cond.methodLink "CutTreesModel" 140 yX6_barFault ∈ gT := gT_at 711 rfl rfl
set_option maxRecDepth 100000 in
theorem tw679 : Cond.instanceMethod yX6_barFault ∈ gT := gT_at 713 rfl rfl
set_option maxRecDepth 100000 in
theorem tw680 : Cond.code yX6_barFault prog_8_method_40_code 3 (Option.some FieldType.int) ∈ gT := gT_at 714 rfl rfl
set_option maxRecDepth 100000 in
theorem tw681 : Cond.methodLink "CutTreesModel" 143 yX6_barsOf ∈ gT := gT_at 715 rfl rfl
set_option maxRecDepth 100000 in
theorem tw683 : Cond.instanceMethod yX6_barsOf ∈ gT := gT_at 717 rfl rfl
set_option maxRecDepth 100000 in
theorem tw684 : Cond.code yX6_barsOf prog_8_method_39_code 5 (Option.some FieldType.int) ∈ gT := gT_at 718 rfl rfl
set_option maxRecDepth 100000 in
theorem tw685 : Cond.methodLink "CutTreesModel" 137 yX6_part ∈ gT := gT_at 719 rfl rfl
set_option maxRecDepth 100000 in
theorem tw687 : Cond.instanceMethod yX6_part ∈ gT := gT_at 721 rfl rfl
set_option maxRecDepth 100000 in
theorem tw688 : Cond.code yX6_part prog_8_method_38_code 6 (Option.some FieldType.int) ∈ gT := gT_at 722 rfl rfl
set_option maxRecDepth 100000 in
theorem tw689 : Cond.methodLink "CutTreesLaw" 96 yX6_barSet ∈ gT := gT_at 723 rfl rfl
set_option maxRecDepth 100000 in
theorem tw690 : Cond.instanceMethod yX6_barSet ∈ gT := gT_at 724 rfl rfl
set_option maxRecDepth 100000 in
theorem tw691 : Cond.selects "CutTreesModel" yX6_barSet yX6_barSet ∈ gT := gT_at 725 rfl rfl
set_option maxRecDepth 100000 in
theorem tw692 : Cond.code yX6_barSet prog_8_method_42_code 4 (Option.some FieldType.int) ∈ gT := gT_at 726 rfl rfl
set_option maxRecDepth 100000 in
theorem tw693 : Cond.methodLink "CutTreesLaw" 100 yX6_without ∈ gT := gT_at 727 rfl rfl
set_option maxRecDepth 100000 in
theorem tw694 : Cond.instanceMethod yX6_without ∈ gT := gT_at 728 rfl rfl
set_option maxRecDepth 100000 in
theorem tw695 : Cond.selects "CutTreesModel" yX6_without yX6_without ∈ gT := gT_at 729 rfl rfl
set_option maxRecDepth 100000 in
theorem tw696 : Cond.code yX6_without prog_8_method_43_code 5 (Option.some FieldType.int) ∈ gT := gT_at 730 rfl rfl
set_option maxRecDepth 100000 in
theorem ts0 : Cond.selects RX2 yX2_addBetween yX2_addBetween ∈ gT := gT_sel 0 (q := (yX2_addBetween, _)) rfl
set_option maxRecDepth 100000 in
theorem ts1 : Cond.selects RX5 yX5_freshTable yX5_freshTable ∈ gT := gT_sel 1 (q := (yX5_freshTable, _)) rfl
set_option maxRecDepth 100000 in
theorem ts2 : Cond.selects RX0 yX0_fillSetsUpTo yX0_fillSetsUpTo ∈ gT := gT_sel 2 (q := (yX0_fillSetsUpTo, _)) rfl
set_option maxRecDepth 100000 in
theorem ts3 : Cond.selects RX5 yX5_freshTree yX5_freshTree ∈ gT := gT_sel 3 (q := (yX5_freshTree, _)) rfl
set_option maxRecDepth 100000 in
theorem ts4 : Cond.selects RX3 yX3_hang yX3_hang ∈ gT := gT_sel 4 (q := (yX3_hang, _)) rfl
set_option maxRecDepth 100000 in
theorem ts5 : Cond.selects RX1 yX1_weightBetweenGroups yX1_weightBetweenGroups ∈ gT := gT_sel 5 (q := (yX1_weightBetweenGroups, _)) rfl
set_option maxRecDepth 100000 in
theorem ts6 : Cond.selects RX1 yX1_isBetweenGroups yX1_isBetweenGroups ∈ gT := gT_sel 6 (q := (yX1_isBetweenGroups, _)) rfl
set_option maxRecDepth 100000 in
theorem ts7 : Cond.selects RX1 yX1_joinByArcAt yX1_joinByArcAt ∈ gT := gT_sel 7 (q := (yX1_joinByArcAt, _)) rfl
set_option maxRecDepth 100000 in
theorem ts8 : Cond.selects RX1 yX1_joinGroups yX1_joinGroups ∈ gT := gT_sel 8 (q := (yX1_joinGroups, _)) rfl
set_option maxRecDepth 100000 in
theorem ts9 : Cond.selects RX5 yX5_refusalOfParts yX5_refusalOfParts ∈ gT := gT_sel 9 (q := (yX5_refusalOfParts, _)) rfl
set_option maxRecDepth 100000 in
theorem ts10 : Cond.selects RX5 yX5_freshParting yX5_freshParting ∈ gT := gT_sel 10 (q := (yX5_freshParting, _)) rfl
set_option maxRecDepth 100000 in
theorem ts11 : Cond.selects RX4 yX4_keepTried yX4_keepTried ∈ gT := gT_sel 11 (q := (yX4_keepTried, _)) rfl
set_option maxRecDepth 100000 in
theorem ts12 : Cond.selects RX4 yX4_costToLower yX4_costToLower ∈ gT := gT_sel 12 (q := (yX4_costToLower, _)) rfl
set_option maxRecDepth 100000 in
theorem ts13 : Cond.selects RX2 yX2_reachedFrom yX2_reachedFrom ∈ gT := gT_sel 13 (q := (yX2_reachedFrom, _)) rfl
set_option maxRecDepth 100000 in
theorem ts14 : Cond.selects RX6 yX6_changed yX6_changed ∈ gT := gT_sel 14 (q := (yX6_changed, _)) rfl
set_option maxRecDepth 100000 in
theorem ts15 : Cond.selects RX6 yX6_areTwo yX6_areTwo ∈ gT := gT_sel 15 (q := (yX6_areTwo, _)) rfl
set_option maxRecDepth 100000 in
theorem ts16 : Cond.selects RX6 yX6_all yX6_all ∈ gT := gT_sel 16 (q := (yX6_all, _)) rfl
set_option maxRecDepth 100000 in
theorem ts17 : Cond.selects RX6 yX6_make yX6_make ∈ gT := gT_sel 17 (q := (yX6_make, _)) rfl
set_option maxRecDepth 100000 in
theorem ts18 : Cond.selects RX6 yX6_tree yX6_tree ∈ gT := gT_sel 18 (q := (yX6_tree, _)) rfl
set_option maxRecDepth 100000 in
theorem ts19 : Cond.selects RX6 yX6_sideOf yX6_sideOf ∈ gT := gT_sel 19 (q := (yX6_sideOf, _)) rfl
set_option maxRecDepth 100000 in
theorem ts20 : Cond.selects RX6 yX6_ofNode yX6_ofNode ∈ gT := gT_sel 20 (q := (yX6_ofNode, _)) rfl
set_option maxRecDepth 100000 in
theorem ts21 : Cond.selects RX6 yX6_up yX6_up ∈ gT := gT_sel 21 (q := (yX6_up, _)) rfl
set_option maxRecDepth 100000 in
theorem ts22 : Cond.selects RX6 yX6_leastCut yX6_leastCut ∈ gT := gT_sel 22 (q := (yX6_leastCut, _)) rfl
set_option maxRecDepth 100000 in
theorem ts23 : Cond.selects RX6 yX6_leastOne yX6_leastOne ∈ gT := gT_sel 23 (q := (yX6_leastOne, _)) rfl
set_option maxRecDepth 100000 in
theorem ts24 : Cond.selects RX6 yX6_loose yX6_loose ∈ gT := gT_sel 24 (q := (yX6_loose, _)) rfl
set_option maxRecDepth 100000 in
theorem ts25 : Cond.selects RX6 yX6_isLoose yX6_isLoose ∈ gT := gT_sel 25 (q := (yX6_isLoose, _)) rfl
set_option maxRecDepth 100000 in
theorem ts26 : Cond.selects RX6 yX6_partFault yX6_partFault ∈ gT := gT_sel 26 (q := (yX6_partFault, _)) rfl
set_option maxRecDepth 100000 in
theorem ts27 : Cond.selects RX6 yX6_findParts yX6_findParts ∈ gT := gT_sel 27 (q := (yX6_findParts, _)) rfl
set_option maxRecDepth 100000 in
theorem ts28 : Cond.selects RX6 yX6_isFull yX6_isFull ∈ gT := gT_sel 28 (q := (yX6_isFull, _)) rfl
set_option maxRecDepth 100000 in
theorem ts29 : Cond.selects RX6 yX6_sparsestOf yX6_sparsestOf ∈ gT := gT_sel 29 (q := (yX6_sparsestOf, _)) rfl
set_option maxRecDepth 100000 in
theorem ts30 : Cond.selects RX6 yX6_below yX6_below ∈ gT := gT_sel 30 (q := (yX6_below, _)) rfl
set_option maxRecDepth 100000 in
theorem ts31 : Cond.selects RX6 yX6_barFault yX6_barFault ∈ gT := gT_sel 31 (q := (yX6_barFault, _)) rfl
set_option maxRecDepth 100000 in
theorem ts32 : Cond.selects RX6 yX6_barsOf yX6_barsOf ∈ gT := gT_sel 32 (q := (yX6_barsOf, _)) rfl
set_option maxRecDepth 100000 in
theorem ts33 : Cond.selects RX6 yX6_part yX6_part ∈ gT := gT_sel 33 (q := (yX6_part, _)) rfl
set_option maxRecDepth 100000 in
theorem inX0 : ∀ w ∈ u_ws RX0 TX0 3, w ∈ gT := by
  intro w hw
  obtain ⟨k, hk, rfl⟩ := List.mem_map.mp hw
  have hk := List.mem_range.mp hk
  match k, hk with
  | 0, _ => exact gT_at 113 rfl rfl
  | 1, _ => exact gT_at 115 rfl rfl
  | 2, _ => exact gT_at 117 rfl rfl
  | k + 3, hk => exact absurd hk (by omega)
set_option maxRecDepth 100000 in
theorem inX1 : ∀ w ∈ u_ws RX1 TX1 2, w ∈ gT := by
  intro w hw
  obtain ⟨k, hk, rfl⟩ := List.mem_map.mp hw
  have hk := List.mem_range.mp hk
  match k, hk with
  | 0, _ => exact gT_at 152 rfl rfl
  | 1, _ => exact gT_at 154 rfl rfl
  | k + 2, hk => exact absurd hk (by omega)
set_option maxRecDepth 100000 in
theorem inX2 : ∀ w ∈ u_ws RX2 TX2 9, w ∈ gT := by
  intro w hw
  obtain ⟨k, hk, rfl⟩ := List.mem_map.mp hw
  have hk := List.mem_range.mp hk
  match k, hk with
  | 0, _ => exact gT_at 84 rfl rfl
  | 1, _ => exact gT_at 86 rfl rfl
  | 2, _ => exact gT_at 88 rfl rfl
  | 3, _ => exact gT_at 90 rfl rfl
  | 4, _ => exact gT_at 92 rfl rfl
  | 5, _ => exact gT_at 94 rfl rfl
  | 6, _ => exact gT_at 96 rfl rfl
  | 7, _ => exact gT_at 98 rfl rfl
  | 8, _ => exact gT_at 100 rfl rfl
  | k + 9, hk => exact absurd hk (by omega)
set_option maxRecDepth 100000 in
theorem inX3 : ∀ w ∈ u_ws RX3 TX3 5, w ∈ gT := by
  intro w hw
  obtain ⟨k, hk, rfl⟩ := List.mem_map.mp hw
  have hk := List.mem_range.mp hk
  match k, hk with
  | 0, _ => exact gT_at 133 rfl rfl
  | 1, _ => exact gT_at 135 rfl rfl
  | 2, _ => exact gT_at 137 rfl rfl
  | 3, _ => exact gT_at 139 rfl rfl
  | 4, _ => exact gT_at 141 rfl rfl
  | k + 5, hk => exact absurd hk (by omega)
set_option maxRecDepth 100000 in
theorem inX4 : ∀ w ∈ u_ws RX4 TX4 6, w ∈ gT := by
  intro w hw
  obtain ⟨k, hk, rfl⟩ := List.mem_map.mp hw
  have hk := List.mem_range.mp hk
  match k, hk with
  | 0, _ => exact gT_at 172 rfl rfl
  | 1, _ => exact gT_at 174 rfl rfl
  | 2, _ => exact gT_at 176 rfl rfl
  | 3, _ => exact gT_at 178 rfl rfl
  | 4, _ => exact gT_at 180 rfl rfl
  | 5, _ => exact gT_at 182 rfl rfl
  | k + 6, hk => exact absurd hk (by omega)
set_option maxRecDepth 100000 in
theorem inX5 : ∀ w ∈ u_ws RX5 TX5 5, w ∈ gT := by
  intro w hw
  obtain ⟨k, hk, rfl⟩ := List.mem_map.mp hw
  have hk := List.mem_range.mp hk
  match k, hk with
  | 0, _ => exact gT_at 190 rfl rfl
  | 1, _ => exact gT_at 192 rfl rfl
  | 2, _ => exact gT_at 194 rfl rfl
  | 3, _ => exact gT_at 196 rfl rfl
  | 4, _ => exact gT_at 198 rfl rfl
  | k + 5, hk => exact absurd hk (by omega)
set_option maxRecDepth 100000 in
theorem inX6 : ∀ w ∈ u_ws RX6 TX6 20, w ∈ gT := by
  intro w hw
  obtain ⟨k, hk, rfl⟩ := List.mem_map.mp hw
  have hk := List.mem_range.mp hk
  match k, hk with
  | 0, _ => exact gT_at 519 rfl rfl
  | 1, _ => exact gT_at 521 rfl rfl
  | 2, _ => exact gT_at 523 rfl rfl
  | 3, _ => exact gT_at 525 rfl rfl
  | 4, _ => exact gT_at 527 rfl rfl
  | 5, _ => exact gT_at 529 rfl rfl
  | 6, _ => exact gT_at 531 rfl rfl
  | 7, _ => exact gT_at 533 rfl rfl
  | 8, _ => exact gT_at 535 rfl rfl
  | 9, _ => exact gT_at 537 rfl rfl
  | 10, _ => exact gT_at 539 rfl rfl
  | 11, _ => exact gT_at 541 rfl rfl
  | 12, _ => exact gT_at 543 rfl rfl
  | 13, _ => exact gT_at 545 rfl rfl
  | 14, _ => exact gT_at 547 rfl rfl
  | 15, _ => exact gT_at 549 rfl rfl
  | 16, _ => exact gT_at 551 rfl rfl
  | 17, _ => exact gT_at 553 rfl rfl
  | 18, _ => exact gT_at 555 rfl rfl
  | 19, _ => exact gT_at 557 rfl rfl
  | k + 20, hk => exact absurd hk (by omega)
end
section
/-! decode rows: by program -/
theorem dX2_init_0 : decode cX2_init 0 = .ok (.aload_n 0, 1) := by decide +kernel
theorem dX2_init_1 : decode cX2_init 1 = .ok (.invokespecial 3, 3) := by decide +kernel
theorem dX2_init_4 : decode cX2_init 4 = .ok (.aload_n 0, 1) := by decide +kernel
theorem dX2_init_5 : decode cX2_init 5 = .ok (.bipush 50, 2) := by decide +kernel
theorem dX2_init_7 : decode cX2_init 7 = .ok (.newarray .int, 2) := by decide +kernel
theorem dX2_init_9 : decode cX2_init 9 = .ok (.putfield 9, 3) := by decide +kernel
theorem dX2_init_12 : decode cX2_init 12 = .ok (.aload_n 0, 1) := by decide +kernel
theorem dX2_init_13 : decode cX2_init 13 = .ok (.bipush 50, 2) := by decide +kernel
theorem dX2_init_15 : decode cX2_init 15 = .ok (.newarray .int, 2) := by decide +kernel
theorem dX2_init_17 : decode cX2_init 17 = .ok (.putfield 15, 3) := by decide +kernel
theorem dX2_init_20 : decode cX2_init 20 = .ok (.aload_n 0, 1) := by decide +kernel
theorem dX2_init_21 : decode cX2_init 21 = .ok (.bipush 50, 2) := by decide +kernel
theorem dX2_init_23 : decode cX2_init 23 = .ok (.newarray .int, 2) := by decide +kernel
theorem dX2_init_25 : decode cX2_init 25 = .ok (.putfield 18, 3) := by decide +kernel
theorem dX2_init_28 : decode cX2_init 28 = .ok (.aload_n 0, 1) := by decide +kernel
theorem dX2_init_29 : decode cX2_init 29 = .ok (.bipush 12, 2) := by decide +kernel
theorem dX2_init_31 : decode cX2_init 31 = .ok (.bipush 12, 2) := by decide +kernel
theorem dX2_init_33 : decode cX2_init 33 = .ok (.multianewarray 21 2, 4) := by decide +kernel
theorem dX2_init_37 : decode cX2_init 37 = .ok (.putfield 23, 3) := by decide +kernel
theorem dX2_init_40 : decode cX2_init 40 = .ok (.aload_n 0, 1) := by decide +kernel
theorem dX2_init_41 : decode cX2_init 41 = .ok (.bipush 12, 2) := by decide +kernel
theorem dX2_init_43 : decode cX2_init 43 = .ok (.newarray .int, 2) := by decide +kernel
theorem dX2_init_45 : decode cX2_init 45 = .ok (.putfield 26, 3) := by decide +kernel
theorem dX2_init_48 : decode cX2_init 48 = .ok (.aload_n 0, 1) := by decide +kernel
theorem dX2_init_49 : decode cX2_init 49 = .ok (.iconst 0, 1) := by decide +kernel
theorem dX2_init_50 : decode cX2_init 50 = .ok (.putfield 29, 3) := by decide +kernel
theorem dX2_init_53 : decode cX2_init 53 = .ok (.aload_n 0, 1) := by decide +kernel
theorem dX2_init_54 : decode cX2_init 54 = .ok (.iconst 0, 1) := by decide +kernel
theorem dX2_init_55 : decode cX2_init 55 = .ok (.putfield 33, 3) := by decide +kernel
theorem dX2_init_58 : decode cX2_init 58 = .ok (.aload_n 0, 1) := by decide +kernel
theorem dX2_init_59 : decode cX2_init 59 = .ok (.iconst 0, 1) := by decide +kernel
theorem dX2_init_60 : decode cX2_init 60 = .ok (.putfield 36, 3) := by decide +kernel
theorem dX2_init_63 : decode cX2_init 63 = .ok (.aload_n 0, 1) := by decide +kernel
theorem dX2_init_64 : decode cX2_init 64 = .ok (.iconst 0, 1) := by decide +kernel
theorem dX2_init_65 : decode cX2_init 65 = .ok (.putfield 39, 3) := by decide +kernel
theorem dX2_init_68 : decode cX2_init 68 = .ok (.return_, 1) := by decide +kernel
theorem dX2_hasNode_0 : decode cX2_hasNode 0 = .ok (.iload_n 1, 1) := by decide +kernel
theorem dX2_hasNode_1 : decode cX2_hasNode 1 = .ok (.ifCond .lt 15, 3) := by decide +kernel
theorem dX2_hasNode_4 : decode cX2_hasNode 4 = .ok (.iload_n 1, 1) := by decide +kernel
theorem dX2_hasNode_5 : decode cX2_hasNode 5 = .ok (.aload_n 0, 1) := by decide +kernel
theorem dX2_hasNode_6 : decode cX2_hasNode 6 = .ok (.getfield 29, 3) := by decide +kernel
theorem dX2_hasNode_9 : decode cX2_hasNode 9 = .ok (.if_icmp .ge 7, 3) := by decide +kernel
theorem dX2_hasNode_12 : decode cX2_hasNode 12 = .ok (.iconst 1, 1) := by decide +kernel
theorem dX2_hasNode_13 : decode cX2_hasNode 13 = .ok (.goto 4, 3) := by decide +kernel
theorem dX2_hasNode_16 : decode cX2_hasNode 16 = .ok (.iconst 0, 1) := by decide +kernel
theorem dX2_hasNode_17 : decode cX2_hasNode 17 = .ok (.ireturn, 1) := by decide +kernel
theorem dX2_hasPair_0 : decode cX2_hasPair 0 = .ok (.aload_n 0, 1) := by decide +kernel
theorem dX2_hasPair_1 : decode cX2_hasPair 1 = .ok (.iload_n 1, 1) := by decide +kernel
theorem dX2_hasPair_2 : decode cX2_hasPair 2 = .ok (.invokevirtual 42, 3) := by decide +kernel
theorem dX2_hasPair_5 : decode cX2_hasPair 5 = .ok (.ifCond .eq 20, 3) := by decide +kernel
theorem dX2_hasPair_8 : decode cX2_hasPair 8 = .ok (.aload_n 0, 1) := by decide +kernel
theorem dX2_hasPair_9 : decode cX2_hasPair 9 = .ok (.iload_n 2, 1) := by decide +kernel
theorem dX2_hasPair_10 : decode cX2_hasPair 10 = .ok (.invokevirtual 42, 3) := by decide +kernel
theorem dX2_hasPair_13 : decode cX2_hasPair 13 = .ok (.ifCond .eq 12, 3) := by decide +kernel
theorem dX2_hasPair_16 : decode cX2_hasPair 16 = .ok (.iload_n 1, 1) := by decide +kernel
theorem dX2_hasPair_17 : decode cX2_hasPair 17 = .ok (.iload_n 2, 1) := by decide +kernel
theorem dX2_hasPair_18 : decode cX2_hasPair 18 = .ok (.if_icmp .eq 7, 3) := by decide +kernel
theorem dX2_hasPair_21 : decode cX2_hasPair 21 = .ok (.iconst 1, 1) := by decide +kernel
theorem dX2_hasPair_22 : decode cX2_hasPair 22 = .ok (.goto 4, 3) := by decide +kernel
theorem dX2_hasPair_25 : decode cX2_hasPair 25 = .ok (.iconst 0, 1) := by decide +kernel
theorem dX2_hasPair_26 : decode cX2_hasPair 26 = .ok (.ireturn, 1) := by decide +kernel
theorem dX2_hasArc_0 : decode cX2_hasArc 0 = .ok (.iload_n 1, 1) := by decide +kernel
theorem dX2_hasArc_1 : decode cX2_hasArc 1 = .ok (.ifCond .lt 24, 3) := by decide +kernel
theorem dX2_hasArc_4 : decode cX2_hasArc 4 = .ok (.iload_n 1, 1) := by decide +kernel
theorem dX2_hasArc_5 : decode cX2_hasArc 5 = .ok (.aload_n 0, 1) := by decide +kernel
theorem dX2_hasArc_6 : decode cX2_hasArc 6 = .ok (.getfield 33, 3) := by decide +kernel
theorem dX2_hasArc_9 : decode cX2_hasArc 9 = .ok (.if_icmp .ge 16, 3) := by decide +kernel
theorem dX2_hasArc_12 : decode cX2_hasArc 12 = .ok (.aload_n 0, 1) := by decide +kernel
theorem dX2_hasArc_13 : decode cX2_hasArc 13 = .ok (.getfield 18, 3) := by decide +kernel
theorem dX2_hasArc_16 : decode cX2_hasArc 16 = .ok (.iload_n 1, 1) := by decide +kernel
theorem dX2_hasArc_17 : decode cX2_hasArc 17 = .ok (.iaload, 1) := by decide +kernel
theorem dX2_hasArc_18 : decode cX2_hasArc 18 = .ok (.ifCond .le 7, 3) := by decide +kernel
theorem dX2_hasArc_21 : decode cX2_hasArc 21 = .ok (.iconst 1, 1) := by decide +kernel
theorem dX2_hasArc_22 : decode cX2_hasArc 22 = .ok (.goto 4, 3) := by decide +kernel
theorem dX2_hasArc_25 : decode cX2_hasArc 25 = .ok (.iconst 0, 1) := by decide +kernel
theorem dX2_hasArc_26 : decode cX2_hasArc 26 = .ok (.ireturn, 1) := by decide +kernel
theorem dX2_hasSet_0 : decode cX2_hasSet 0 = .ok (.iload_n 1, 1) := by decide +kernel
theorem dX2_hasSet_1 : decode cX2_hasSet 1 = .ok (.ifCond .lt 15, 3) := by decide +kernel
theorem dX2_hasSet_4 : decode cX2_hasSet 4 = .ok (.iload_n 1, 1) := by decide +kernel
theorem dX2_hasSet_5 : decode cX2_hasSet 5 = .ok (.aload_n 0, 1) := by decide +kernel
theorem dX2_hasSet_6 : decode cX2_hasSet 6 = .ok (.invokevirtual 46, 3) := by decide +kernel
theorem dX2_hasSet_9 : decode cX2_hasSet 9 = .ok (.if_icmp .gt 7, 3) := by decide +kernel
theorem dX2_hasSet_12 : decode cX2_hasSet 12 = .ok (.iconst 1, 1) := by decide +kernel
theorem dX2_hasSet_13 : decode cX2_hasSet 13 = .ok (.goto 4, 3) := by decide +kernel
theorem dX2_hasSet_16 : decode cX2_hasSet 16 = .ok (.iconst 0, 1) := by decide +kernel
theorem dX2_hasSet_17 : decode cX2_hasSet 17 = .ok (.ireturn, 1) := by decide +kernel
theorem dX2_hasSides_0 : decode cX2_hasSides 0 = .ok (.aload_n 0, 1) := by decide +kernel
theorem dX2_hasSides_1 : decode cX2_hasSides 1 = .ok (.getfield 29, 3) := by decide +kernel
theorem dX2_hasSides_4 : decode cX2_hasSides 4 = .ok (.iconst 1, 1) := by decide +kernel
theorem dX2_hasSides_5 : decode cX2_hasSides 5 = .ok (.if_icmp .le 7, 3) := by decide +kernel
theorem dX2_hasSides_8 : decode cX2_hasSides 8 = .ok (.iconst 1, 1) := by decide +kernel
theorem dX2_hasSides_9 : decode cX2_hasSides 9 = .ok (.goto 4, 3) := by decide +kernel
theorem dX2_hasSides_12 : decode cX2_hasSides 12 = .ok (.iconst 0, 1) := by decide +kernel
theorem dX2_hasSides_13 : decode cX2_hasSides 13 = .ok (.ireturn, 1) := by decide +kernel
theorem dX2_areJoined_0 : decode cX2_areJoined 0 = .ok (.aload_n 0, 1) := by decide +kernel
theorem dX2_areJoined_1 : decode cX2_areJoined 1 = .ok (.getfield 23, 3) := by decide +kernel
theorem dX2_areJoined_4 : decode cX2_areJoined 4 = .ok (.iload_n 1, 1) := by decide +kernel
theorem dX2_areJoined_5 : decode cX2_areJoined 5 = .ok (.aaload, 1) := by decide +kernel
theorem dX2_areJoined_6 : decode cX2_areJoined 6 = .ok (.iload_n 2, 1) := by decide +kernel
theorem dX2_areJoined_7 : decode cX2_areJoined 7 = .ok (.iaload, 1) := by decide +kernel
theorem dX2_areJoined_8 : decode cX2_areJoined 8 = .ok (.ifCond .le 7, 3) := by decide +kernel
theorem dX2_areJoined_11 : decode cX2_areJoined 11 = .ok (.iconst 1, 1) := by decide +kernel
theorem dX2_areJoined_12 : decode cX2_areJoined 12 = .ok (.goto 4, 3) := by decide +kernel
theorem dX2_areJoined_15 : decode cX2_areJoined 15 = .ok (.iconst 0, 1) := by decide +kernel
theorem dX2_areJoined_16 : decode cX2_areJoined 16 = .ok (.ireturn, 1) := by decide +kernel
theorem dX2_allNodes_0 : decode cX2_allNodes 0 = .ok (.iconst 1, 1) := by decide +kernel
theorem dX2_allNodes_1 : decode cX2_allNodes 1 = .ok (.aload_n 0, 1) := by decide +kernel
theorem dX2_allNodes_2 : decode cX2_allNodes 2 = .ok (.getfield 29, 3) := by decide +kernel
theorem dX2_allNodes_5 : decode cX2_allNodes 5 = .ok (.ishl, 1) := by decide +kernel
theorem dX2_allNodes_6 : decode cX2_allNodes 6 = .ok (.iconst 1, 1) := by decide +kernel
theorem dX2_allNodes_7 : decode cX2_allNodes 7 = .ok (.isub, 1) := by decide +kernel
theorem dX2_allNodes_8 : decode cX2_allNodes 8 = .ok (.ireturn, 1) := by decide +kernel
theorem dX2_addNode_0 : decode cX2_addNode 0 = .ok (.aload_n 0, 1) := by decide +kernel
theorem dX2_addNode_1 : decode cX2_addNode 1 = .ok (.dup, 1) := by decide +kernel
theorem dX2_addNode_2 : decode cX2_addNode 2 = .ok (.getfield 39, 3) := by decide +kernel
theorem dX2_addNode_5 : decode cX2_addNode 5 = .ok (.iconst 1, 1) := by decide +kernel
theorem dX2_addNode_6 : decode cX2_addNode 6 = .ok (.iadd, 1) := by decide +kernel
theorem dX2_addNode_7 : decode cX2_addNode 7 = .ok (.putfield 39, 3) := by decide +kernel
theorem dX2_addNode_10 : decode cX2_addNode 10 = .ok (.aload_n 0, 1) := by decide +kernel
theorem dX2_addNode_11 : decode cX2_addNode 11 = .ok (.dup, 1) := by decide +kernel
theorem dX2_addNode_12 : decode cX2_addNode 12 = .ok (.getfield 29, 3) := by decide +kernel
theorem dX2_addNode_15 : decode cX2_addNode 15 = .ok (.iconst 1, 1) := by decide +kernel
theorem dX2_addNode_16 : decode cX2_addNode 16 = .ok (.iadd, 1) := by decide +kernel
theorem dX2_addNode_17 : decode cX2_addNode 17 = .ok (.putfield 29, 3) := by decide +kernel
theorem dX2_addNode_20 : decode cX2_addNode 20 = .ok (.aload_n 0, 1) := by decide +kernel
theorem dX2_addNode_21 : decode cX2_addNode 21 = .ok (.getfield 29, 3) := by decide +kernel
theorem dX2_addNode_24 : decode cX2_addNode 24 = .ok (.iconst 1, 1) := by decide +kernel
theorem dX2_addNode_25 : decode cX2_addNode 25 = .ok (.isub, 1) := by decide +kernel
theorem dX2_addNode_26 : decode cX2_addNode 26 = .ok (.ireturn, 1) := by decide +kernel
theorem dX2_addArc_0 : decode cX2_addArc 0 = .ok (.aload_n 0, 1) := by decide +kernel
theorem dX2_addArc_1 : decode cX2_addArc 1 = .ok (.getfield 33, 3) := by decide +kernel
theorem dX2_addArc_4 : decode cX2_addArc 4 = .ok (.istore 4, 2) := by decide +kernel
theorem dX2_addArc_6 : decode cX2_addArc 6 = .ok (.aload_n 0, 1) := by decide +kernel
theorem dX2_addArc_7 : decode cX2_addArc 7 = .ok (.getfield 9, 3) := by decide +kernel
theorem dX2_addArc_10 : decode cX2_addArc 10 = .ok (.iload 4, 2) := by decide +kernel
theorem dX2_addArc_12 : decode cX2_addArc 12 = .ok (.iload_n 1, 1) := by decide +kernel
theorem dX2_addArc_13 : decode cX2_addArc 13 = .ok (.iastore, 1) := by decide +kernel
theorem dX2_addArc_14 : decode cX2_addArc 14 = .ok (.aload_n 0, 1) := by decide +kernel
theorem dX2_addArc_15 : decode cX2_addArc 15 = .ok (.getfield 15, 3) := by decide +kernel
theorem dX2_addArc_18 : decode cX2_addArc 18 = .ok (.iload 4, 2) := by decide +kernel
theorem dX2_addArc_20 : decode cX2_addArc 20 = .ok (.iload_n 2, 1) := by decide +kernel
theorem dX2_addArc_21 : decode cX2_addArc 21 = .ok (.iastore, 1) := by decide +kernel
theorem dX2_addArc_22 : decode cX2_addArc 22 = .ok (.aload_n 0, 1) := by decide +kernel
theorem dX2_addArc_23 : decode cX2_addArc 23 = .ok (.getfield 18, 3) := by decide +kernel
theorem dX2_addArc_26 : decode cX2_addArc 26 = .ok (.iload 4, 2) := by decide +kernel
theorem dX2_addArc_28 : decode cX2_addArc 28 = .ok (.iload_n 3, 1) := by decide +kernel
theorem dX2_addArc_29 : decode cX2_addArc 29 = .ok (.iastore, 1) := by decide +kernel
theorem dX2_addArc_30 : decode cX2_addArc 30 = .ok (.aload_n 0, 1) := by decide +kernel
theorem dX2_addArc_31 : decode cX2_addArc 31 = .ok (.dup, 1) := by decide +kernel
theorem dX2_addArc_32 : decode cX2_addArc 32 = .ok (.getfield 33, 3) := by decide +kernel
theorem dX2_addArc_35 : decode cX2_addArc 35 = .ok (.iconst 1, 1) := by decide +kernel
theorem dX2_addArc_36 : decode cX2_addArc 36 = .ok (.iadd, 1) := by decide +kernel
theorem dX2_addArc_37 : decode cX2_addArc 37 = .ok (.putfield 33, 3) := by decide +kernel
theorem dX2_addArc_40 : decode cX2_addArc 40 = .ok (.aload_n 0, 1) := by decide +kernel
theorem dX2_addArc_41 : decode cX2_addArc 41 = .ok (.dup, 1) := by decide +kernel
theorem dX2_addArc_42 : decode cX2_addArc 42 = .ok (.getfield 36, 3) := by decide +kernel
theorem dX2_addArc_45 : decode cX2_addArc 45 = .ok (.iconst 1, 1) := by decide +kernel
theorem dX2_addArc_46 : decode cX2_addArc 46 = .ok (.iadd, 1) := by decide +kernel
theorem dX2_addArc_47 : decode cX2_addArc 47 = .ok (.putfield 36, 3) := by decide +kernel
theorem dX2_addArc_50 : decode cX2_addArc 50 = .ok (.aload_n 0, 1) := by decide +kernel
theorem dX2_addArc_51 : decode cX2_addArc 51 = .ok (.iload_n 1, 1) := by decide +kernel
theorem dX2_addArc_52 : decode cX2_addArc 52 = .ok (.iload_n 2, 1) := by decide +kernel
theorem dX2_addArc_53 : decode cX2_addArc 53 = .ok (.iload_n 3, 1) := by decide +kernel
theorem dX2_addArc_54 : decode cX2_addArc 54 = .ok (.invokevirtual 50, 3) := by decide +kernel
theorem dX2_addArc_57 : decode cX2_addArc 57 = .ok (.iload 4, 2) := by decide +kernel
theorem dX2_addArc_59 : decode cX2_addArc 59 = .ok (.ireturn, 1) := by decide +kernel
theorem dX2_removeArc_0 : decode cX2_removeArc 0 = .ok (.aload_n 0, 1) := by decide +kernel
theorem dX2_removeArc_1 : decode cX2_removeArc 1 = .ok (.aload_n 0, 1) := by decide +kernel
theorem dX2_removeArc_2 : decode cX2_removeArc 2 = .ok (.getfield 9, 3) := by decide +kernel
theorem dX2_removeArc_5 : decode cX2_removeArc 5 = .ok (.iload_n 1, 1) := by decide +kernel
theorem dX2_removeArc_6 : decode cX2_removeArc 6 = .ok (.iaload, 1) := by decide +kernel
theorem dX2_removeArc_7 : decode cX2_removeArc 7 = .ok (.aload_n 0, 1) := by decide +kernel
theorem dX2_removeArc_8 : decode cX2_removeArc 8 = .ok (.getfield 15, 3) := by decide +kernel
theorem dX2_removeArc_11 : decode cX2_removeArc 11 = .ok (.iload_n 1, 1) := by decide +kernel
theorem dX2_removeArc_12 : decode cX2_removeArc 12 = .ok (.iaload, 1) := by decide +kernel
theorem dX2_removeArc_13 : decode cX2_removeArc 13 = .ok (.aload_n 0, 1) := by decide +kernel
theorem dX2_removeArc_14 : decode cX2_removeArc 14 = .ok (.getfield 18, 3) := by decide +kernel
theorem dX2_removeArc_17 : decode cX2_removeArc 17 = .ok (.iload_n 1, 1) := by decide +kernel
theorem dX2_removeArc_18 : decode cX2_removeArc 18 = .ok (.iaload, 1) := by decide +kernel
theorem dX2_removeArc_19 : decode cX2_removeArc 19 = .ok (.ineg, 1) := by decide +kernel
theorem dX2_removeArc_20 : decode cX2_removeArc 20 = .ok (.invokevirtual 50, 3) := by decide +kernel
theorem dX2_removeArc_23 : decode cX2_removeArc 23 = .ok (.aload_n 0, 1) := by decide +kernel
theorem dX2_removeArc_24 : decode cX2_removeArc 24 = .ok (.getfield 18, 3) := by decide +kernel
theorem dX2_removeArc_27 : decode cX2_removeArc 27 = .ok (.iload_n 1, 1) := by decide +kernel
theorem dX2_removeArc_28 : decode cX2_removeArc 28 = .ok (.iconst 0, 1) := by decide +kernel
theorem dX2_removeArc_29 : decode cX2_removeArc 29 = .ok (.iastore, 1) := by decide +kernel
theorem dX2_removeArc_30 : decode cX2_removeArc 30 = .ok (.aload_n 0, 1) := by decide +kernel
theorem dX2_removeArc_31 : decode cX2_removeArc 31 = .ok (.dup, 1) := by decide +kernel
theorem dX2_removeArc_32 : decode cX2_removeArc 32 = .ok (.getfield 36, 3) := by decide +kernel
theorem dX2_removeArc_35 : decode cX2_removeArc 35 = .ok (.iconst 1, 1) := by decide +kernel
theorem dX2_removeArc_36 : decode cX2_removeArc 36 = .ok (.isub, 1) := by decide +kernel
theorem dX2_removeArc_37 : decode cX2_removeArc 37 = .ok (.putfield 36, 3) := by decide +kernel
theorem dX2_removeArc_40 : decode cX2_removeArc 40 = .ok (.aload_n 0, 1) := by decide +kernel
theorem dX2_removeArc_41 : decode cX2_removeArc 41 = .ok (.getfield 36, 3) := by decide +kernel
theorem dX2_removeArc_44 : decode cX2_removeArc 44 = .ok (.ireturn, 1) := by decide +kernel
theorem dX2_addBetween_0 : decode cX2_addBetween 0 = .ok (.aload_n 0, 1) := by decide +kernel
theorem dX2_addBetween_1 : decode cX2_addBetween 1 = .ok (.dup, 1) := by decide +kernel
theorem dX2_addBetween_2 : decode cX2_addBetween 2 = .ok (.getfield 39, 3) := by decide +kernel
theorem dX2_addBetween_5 : decode cX2_addBetween 5 = .ok (.iconst 1, 1) := by decide +kernel
theorem dX2_addBetween_6 : decode cX2_addBetween 6 = .ok (.iadd, 1) := by decide +kernel
theorem dX2_addBetween_7 : decode cX2_addBetween 7 = .ok (.putfield 39, 3) := by decide +kernel
theorem dX2_addBetween_10 : decode cX2_addBetween 10 = .ok (.aload_n 0, 1) := by decide +kernel
theorem dX2_addBetween_11 : decode cX2_addBetween 11 = .ok (.getfield 23, 3) := by decide +kernel
theorem dX2_addBetween_14 : decode cX2_addBetween 14 = .ok (.iload_n 1, 1) := by decide +kernel
theorem dX2_addBetween_15 : decode cX2_addBetween 15 = .ok (.aaload, 1) := by decide +kernel
theorem dX2_addBetween_16 : decode cX2_addBetween 16 = .ok (.iload_n 2, 1) := by decide +kernel
theorem dX2_addBetween_17 : decode cX2_addBetween 17 = .ok (.dup2, 1) := by decide +kernel
theorem dX2_addBetween_18 : decode cX2_addBetween 18 = .ok (.iaload, 1) := by decide +kernel
theorem dX2_addBetween_19 : decode cX2_addBetween 19 = .ok (.iload_n 3, 1) := by decide +kernel
theorem dX2_addBetween_20 : decode cX2_addBetween 20 = .ok (.iadd, 1) := by decide +kernel
theorem dX2_addBetween_21 : decode cX2_addBetween 21 = .ok (.iastore, 1) := by decide +kernel
theorem dX2_addBetween_22 : decode cX2_addBetween 22 = .ok (.aload_n 0, 1) := by decide +kernel
theorem dX2_addBetween_23 : decode cX2_addBetween 23 = .ok (.getfield 23, 3) := by decide +kernel
theorem dX2_addBetween_26 : decode cX2_addBetween 26 = .ok (.iload_n 2, 1) := by decide +kernel
theorem dX2_addBetween_27 : decode cX2_addBetween 27 = .ok (.aaload, 1) := by decide +kernel
theorem dX2_addBetween_28 : decode cX2_addBetween 28 = .ok (.iload_n 1, 1) := by decide +kernel
theorem dX2_addBetween_29 : decode cX2_addBetween 29 = .ok (.dup2, 1) := by decide +kernel
theorem dX2_addBetween_30 : decode cX2_addBetween 30 = .ok (.iaload, 1) := by decide +kernel
theorem dX2_addBetween_31 : decode cX2_addBetween 31 = .ok (.iload_n 3, 1) := by decide +kernel
theorem dX2_addBetween_32 : decode cX2_addBetween 32 = .ok (.iadd, 1) := by decide +kernel
theorem dX2_addBetween_33 : decode cX2_addBetween 33 = .ok (.iastore, 1) := by decide +kernel
theorem dX2_addBetween_34 : decode cX2_addBetween 34 = .ok (.aload_n 0, 1) := by decide +kernel
theorem dX2_addBetween_35 : decode cX2_addBetween 35 = .ok (.iload_n 1, 1) := by decide +kernel
theorem dX2_addBetween_36 : decode cX2_addBetween 36 = .ok (.iload_n 2, 1) := by decide +kernel
theorem dX2_addBetween_37 : decode cX2_addBetween 37 = .ok (.invokevirtual 54, 3) := by decide +kernel
theorem dX2_addBetween_40 : decode cX2_addBetween 40 = .ok (.ifCond .eq 30, 3) := by decide +kernel
theorem dX2_addBetween_43 : decode cX2_addBetween 43 = .ok (.aload_n 0, 1) := by decide +kernel
theorem dX2_addBetween_44 : decode cX2_addBetween 44 = .ok (.getfield 26, 3) := by decide +kernel
theorem dX2_addBetween_47 : decode cX2_addBetween 47 = .ok (.iload_n 1, 1) := by decide +kernel
theorem dX2_addBetween_48 : decode cX2_addBetween 48 = .ok (.dup2, 1) := by decide +kernel
theorem dX2_addBetween_49 : decode cX2_addBetween 49 = .ok (.iaload, 1) := by decide +kernel
theorem dX2_addBetween_50 : decode cX2_addBetween 50 = .ok (.iconst 1, 1) := by decide +kernel
theorem dX2_addBetween_51 : decode cX2_addBetween 51 = .ok (.iload_n 2, 1) := by decide +kernel
theorem dX2_addBetween_52 : decode cX2_addBetween 52 = .ok (.ishl, 1) := by decide +kernel
theorem dX2_addBetween_53 : decode cX2_addBetween 53 = .ok (.ior, 1) := by decide +kernel
theorem dX2_addBetween_54 : decode cX2_addBetween 54 = .ok (.iastore, 1) := by decide +kernel
theorem dX2_addBetween_55 : decode cX2_addBetween 55 = .ok (.aload_n 0, 1) := by decide +kernel
theorem dX2_addBetween_56 : decode cX2_addBetween 56 = .ok (.getfield 26, 3) := by decide +kernel
theorem dX2_addBetween_59 : decode cX2_addBetween 59 = .ok (.iload_n 2, 1) := by decide +kernel
theorem dX2_addBetween_60 : decode cX2_addBetween 60 = .ok (.dup2, 1) := by decide +kernel
theorem dX2_addBetween_61 : decode cX2_addBetween 61 = .ok (.iaload, 1) := by decide +kernel
theorem dX2_addBetween_62 : decode cX2_addBetween 62 = .ok (.iconst 1, 1) := by decide +kernel
theorem dX2_addBetween_63 : decode cX2_addBetween 63 = .ok (.iload_n 1, 1) := by decide +kernel
theorem dX2_addBetween_64 : decode cX2_addBetween 64 = .ok (.ishl, 1) := by decide +kernel
theorem dX2_addBetween_65 : decode cX2_addBetween 65 = .ok (.ior, 1) := by decide +kernel
theorem dX2_addBetween_66 : decode cX2_addBetween 66 = .ok (.iastore, 1) := by decide +kernel
theorem dX2_addBetween_67 : decode cX2_addBetween 67 = .ok (.goto 31, 3) := by decide +kernel
theorem dX2_addBetween_70 : decode cX2_addBetween 70 = .ok (.aload_n 0, 1) := by decide +kernel
theorem dX2_addBetween_71 : decode cX2_addBetween 71 = .ok (.getfield 26, 3) := by decide +kernel
theorem dX2_addBetween_74 : decode cX2_addBetween 74 = .ok (.iload_n 1, 1) := by decide +kernel
theorem dX2_addBetween_75 : decode cX2_addBetween 75 = .ok (.dup2, 1) := by decide +kernel
theorem dX2_addBetween_76 : decode cX2_addBetween 76 = .ok (.iaload, 1) := by decide +kernel
theorem dX2_addBetween_77 : decode cX2_addBetween 77 = .ok (.iconst 1, 1) := by decide +kernel
theorem dX2_addBetween_78 : decode cX2_addBetween 78 = .ok (.iload_n 2, 1) := by decide +kernel
theorem dX2_addBetween_79 : decode cX2_addBetween 79 = .ok (.ishl, 1) := by decide +kernel
theorem dX2_addBetween_80 : decode cX2_addBetween 80 = .ok (.iconst (-1), 1) := by decide +kernel
theorem dX2_addBetween_81 : decode cX2_addBetween 81 = .ok (.ixor, 1) := by decide +kernel
theorem dX2_addBetween_82 : decode cX2_addBetween 82 = .ok (.iand, 1) := by decide +kernel
theorem dX2_addBetween_83 : decode cX2_addBetween 83 = .ok (.iastore, 1) := by decide +kernel
theorem dX2_addBetween_84 : decode cX2_addBetween 84 = .ok (.aload_n 0, 1) := by decide +kernel
theorem dX2_addBetween_85 : decode cX2_addBetween 85 = .ok (.getfield 26, 3) := by decide +kernel
theorem dX2_addBetween_88 : decode cX2_addBetween 88 = .ok (.iload_n 2, 1) := by decide +kernel
theorem dX2_addBetween_89 : decode cX2_addBetween 89 = .ok (.dup2, 1) := by decide +kernel
theorem dX2_addBetween_90 : decode cX2_addBetween 90 = .ok (.iaload, 1) := by decide +kernel
theorem dX2_addBetween_91 : decode cX2_addBetween 91 = .ok (.iconst 1, 1) := by decide +kernel
theorem dX2_addBetween_92 : decode cX2_addBetween 92 = .ok (.iload_n 1, 1) := by decide +kernel
theorem dX2_addBetween_93 : decode cX2_addBetween 93 = .ok (.ishl, 1) := by decide +kernel
theorem dX2_addBetween_94 : decode cX2_addBetween 94 = .ok (.iconst (-1), 1) := by decide +kernel
theorem dX2_addBetween_95 : decode cX2_addBetween 95 = .ok (.ixor, 1) := by decide +kernel
theorem dX2_addBetween_96 : decode cX2_addBetween 96 = .ok (.iand, 1) := by decide +kernel
theorem dX2_addBetween_97 : decode cX2_addBetween 97 = .ok (.iastore, 1) := by decide +kernel
theorem dX2_addBetween_98 : decode cX2_addBetween 98 = .ok (.return_, 1) := by decide +kernel
theorem dX2_removeAll_0 : decode cX2_removeAll 0 = .ok (.aload_n 0, 1) := by decide +kernel
theorem dX2_removeAll_1 : decode cX2_removeAll 1 = .ok (.getfield 29, 3) := by decide +kernel
theorem dX2_removeAll_4 : decode cX2_removeAll 4 = .ok (.istore_n 1, 1) := by decide +kernel
theorem dX2_removeAll_5 : decode cX2_removeAll 5 = .ok (.iconst 0, 1) := by decide +kernel
theorem dX2_removeAll_6 : decode cX2_removeAll 6 = .ok (.istore_n 2, 1) := by decide +kernel
theorem dX2_removeAll_7 : decode cX2_removeAll 7 = .ok (.iload_n 2, 1) := by decide +kernel
theorem dX2_removeAll_8 : decode cX2_removeAll 8 = .ok (.bipush 12, 2) := by decide +kernel
theorem dX2_removeAll_10 : decode cX2_removeAll 10 = .ok (.if_icmp .ge 39, 3) := by decide +kernel
theorem dX2_removeAll_13 : decode cX2_removeAll 13 = .ok (.aload_n 0, 1) := by decide +kernel
theorem dX2_removeAll_14 : decode cX2_removeAll 14 = .ok (.getfield 26, 3) := by decide +kernel
theorem dX2_removeAll_17 : decode cX2_removeAll 17 = .ok (.iload_n 2, 1) := by decide +kernel
theorem dX2_removeAll_18 : decode cX2_removeAll 18 = .ok (.iconst 0, 1) := by decide +kernel
theorem dX2_removeAll_19 : decode cX2_removeAll 19 = .ok (.iastore, 1) := by decide +kernel
theorem dX2_removeAll_20 : decode cX2_removeAll 20 = .ok (.iconst 0, 1) := by decide +kernel
theorem dX2_removeAll_21 : decode cX2_removeAll 21 = .ok (.istore_n 3, 1) := by decide +kernel
theorem dX2_removeAll_22 : decode cX2_removeAll 22 = .ok (.iload_n 3, 1) := by decide +kernel
theorem dX2_removeAll_23 : decode cX2_removeAll 23 = .ok (.bipush 12, 2) := by decide +kernel
theorem dX2_removeAll_25 : decode cX2_removeAll 25 = .ok (.if_icmp .ge 18, 3) := by decide +kernel
theorem dX2_removeAll_28 : decode cX2_removeAll 28 = .ok (.aload_n 0, 1) := by decide +kernel
theorem dX2_removeAll_29 : decode cX2_removeAll 29 = .ok (.getfield 23, 3) := by decide +kernel
theorem dX2_removeAll_32 : decode cX2_removeAll 32 = .ok (.iload_n 2, 1) := by decide +kernel
theorem dX2_removeAll_33 : decode cX2_removeAll 33 = .ok (.aaload, 1) := by decide +kernel
theorem dX2_removeAll_34 : decode cX2_removeAll 34 = .ok (.iload_n 3, 1) := by decide +kernel
theorem dX2_removeAll_35 : decode cX2_removeAll 35 = .ok (.iconst 0, 1) := by decide +kernel
theorem dX2_removeAll_36 : decode cX2_removeAll 36 = .ok (.iastore, 1) := by decide +kernel
theorem dX2_removeAll_37 : decode cX2_removeAll 37 = .ok (.iinc 3 1, 3) := by decide +kernel
theorem dX2_removeAll_40 : decode cX2_removeAll 40 = .ok (.goto (-18), 3) := by decide +kernel
theorem dX2_removeAll_43 : decode cX2_removeAll 43 = .ok (.iinc 2 1, 3) := by decide +kernel
theorem dX2_removeAll_46 : decode cX2_removeAll 46 = .ok (.goto (-39), 3) := by decide +kernel
theorem dX2_removeAll_49 : decode cX2_removeAll 49 = .ok (.aload_n 0, 1) := by decide +kernel
theorem dX2_removeAll_50 : decode cX2_removeAll 50 = .ok (.iconst 0, 1) := by decide +kernel
theorem dX2_removeAll_51 : decode cX2_removeAll 51 = .ok (.putfield 29, 3) := by decide +kernel
theorem dX2_removeAll_54 : decode cX2_removeAll 54 = .ok (.aload_n 0, 1) := by decide +kernel
theorem dX2_removeAll_55 : decode cX2_removeAll 55 = .ok (.iconst 0, 1) := by decide +kernel
theorem dX2_removeAll_56 : decode cX2_removeAll 56 = .ok (.putfield 33, 3) := by decide +kernel
theorem dX2_removeAll_59 : decode cX2_removeAll 59 = .ok (.aload_n 0, 1) := by decide +kernel
theorem dX2_removeAll_60 : decode cX2_removeAll 60 = .ok (.iconst 0, 1) := by decide +kernel
theorem dX2_removeAll_61 : decode cX2_removeAll 61 = .ok (.putfield 36, 3) := by decide +kernel
theorem dX2_removeAll_64 : decode cX2_removeAll 64 = .ok (.aload_n 0, 1) := by decide +kernel
theorem dX2_removeAll_65 : decode cX2_removeAll 65 = .ok (.dup, 1) := by decide +kernel
theorem dX2_removeAll_66 : decode cX2_removeAll 66 = .ok (.getfield 39, 3) := by decide +kernel
theorem dX2_removeAll_69 : decode cX2_removeAll 69 = .ok (.iconst 1, 1) := by decide +kernel
theorem dX2_removeAll_70 : decode cX2_removeAll 70 = .ok (.iadd, 1) := by decide +kernel
theorem dX2_removeAll_71 : decode cX2_removeAll 71 = .ok (.putfield 39, 3) := by decide +kernel
theorem dX2_removeAll_74 : decode cX2_removeAll 74 = .ok (.iload_n 1, 1) := by decide +kernel
theorem dX2_removeAll_75 : decode cX2_removeAll 75 = .ok (.ireturn, 1) := by decide +kernel
theorem dX2_cutAround_0 : decode cX2_cutAround 0 = .ok (.iconst 0, 1) := by decide +kernel
theorem dX2_cutAround_1 : decode cX2_cutAround 1 = .ok (.istore_n 2, 1) := by decide +kernel
theorem dX2_cutAround_2 : decode cX2_cutAround 2 = .ok (.iconst 0, 1) := by decide +kernel
theorem dX2_cutAround_3 : decode cX2_cutAround 3 = .ok (.istore_n 3, 1) := by decide +kernel
theorem dX2_cutAround_4 : decode cX2_cutAround 4 = .ok (.iload_n 3, 1) := by decide +kernel
theorem dX2_cutAround_5 : decode cX2_cutAround 5 = .ok (.aload_n 0, 1) := by decide +kernel
theorem dX2_cutAround_6 : decode cX2_cutAround 6 = .ok (.getfield 33, 3) := by decide +kernel
theorem dX2_cutAround_9 : decode cX2_cutAround 9 = .ok (.if_icmp .ge 41, 3) := by decide +kernel
theorem dX2_cutAround_12 : decode cX2_cutAround 12 = .ok (.iload_n 1, 1) := by decide +kernel
theorem dX2_cutAround_13 : decode cX2_cutAround 13 = .ok (.aload_n 0, 1) := by decide +kernel
theorem dX2_cutAround_14 : decode cX2_cutAround 14 = .ok (.getfield 9, 3) := by decide +kernel
theorem dX2_cutAround_17 : decode cX2_cutAround 17 = .ok (.iload_n 3, 1) := by decide +kernel
theorem dX2_cutAround_18 : decode cX2_cutAround 18 = .ok (.iaload, 1) := by decide +kernel
theorem dX2_cutAround_19 : decode cX2_cutAround 19 = .ok (.ishr, 1) := by decide +kernel
theorem dX2_cutAround_20 : decode cX2_cutAround 20 = .ok (.iconst 1, 1) := by decide +kernel
theorem dX2_cutAround_21 : decode cX2_cutAround 21 = .ok (.iand, 1) := by decide +kernel
theorem dX2_cutAround_22 : decode cX2_cutAround 22 = .ok (.iload_n 1, 1) := by decide +kernel
theorem dX2_cutAround_23 : decode cX2_cutAround 23 = .ok (.aload_n 0, 1) := by decide +kernel
theorem dX2_cutAround_24 : decode cX2_cutAround 24 = .ok (.getfield 15, 3) := by decide +kernel
theorem dX2_cutAround_27 : decode cX2_cutAround 27 = .ok (.iload_n 3, 1) := by decide +kernel
theorem dX2_cutAround_28 : decode cX2_cutAround 28 = .ok (.iaload, 1) := by decide +kernel
theorem dX2_cutAround_29 : decode cX2_cutAround 29 = .ok (.ishr, 1) := by decide +kernel
theorem dX2_cutAround_30 : decode cX2_cutAround 30 = .ok (.iconst 1, 1) := by decide +kernel
theorem dX2_cutAround_31 : decode cX2_cutAround 31 = .ok (.iand, 1) := by decide +kernel
theorem dX2_cutAround_32 : decode cX2_cutAround 32 = .ok (.if_icmp .eq 12, 3) := by decide +kernel
theorem dX2_cutAround_35 : decode cX2_cutAround 35 = .ok (.iload_n 2, 1) := by decide +kernel
theorem dX2_cutAround_36 : decode cX2_cutAround 36 = .ok (.aload_n 0, 1) := by decide +kernel
theorem dX2_cutAround_37 : decode cX2_cutAround 37 = .ok (.getfield 18, 3) := by decide +kernel
theorem dX2_cutAround_40 : decode cX2_cutAround 40 = .ok (.iload_n 3, 1) := by decide +kernel
theorem dX2_cutAround_41 : decode cX2_cutAround 41 = .ok (.iaload, 1) := by decide +kernel
theorem dX2_cutAround_42 : decode cX2_cutAround 42 = .ok (.iadd, 1) := by decide +kernel
theorem dX2_cutAround_43 : decode cX2_cutAround 43 = .ok (.istore_n 2, 1) := by decide +kernel
theorem dX2_cutAround_44 : decode cX2_cutAround 44 = .ok (.iinc 3 1, 3) := by decide +kernel
theorem dX2_cutAround_47 : decode cX2_cutAround 47 = .ok (.goto (-43), 3) := by decide +kernel
theorem dX2_cutAround_50 : decode cX2_cutAround 50 = .ok (.iload_n 2, 1) := by decide +kernel
theorem dX2_cutAround_51 : decode cX2_cutAround 51 = .ok (.ireturn, 1) := by decide +kernel
theorem dX2_weightAt_0 : decode cX2_weightAt 0 = .ok (.iconst 0, 1) := by decide +kernel
theorem dX2_weightAt_1 : decode cX2_weightAt 1 = .ok (.istore_n 2, 1) := by decide +kernel
theorem dX2_weightAt_2 : decode cX2_weightAt 2 = .ok (.iconst 0, 1) := by decide +kernel
theorem dX2_weightAt_3 : decode cX2_weightAt 3 = .ok (.istore_n 3, 1) := by decide +kernel
theorem dX2_weightAt_4 : decode cX2_weightAt 4 = .ok (.iload_n 3, 1) := by decide +kernel
theorem dX2_weightAt_5 : decode cX2_weightAt 5 = .ok (.aload_n 0, 1) := by decide +kernel
theorem dX2_weightAt_6 : decode cX2_weightAt 6 = .ok (.getfield 29, 3) := by decide +kernel
theorem dX2_weightAt_9 : decode cX2_weightAt 9 = .ok (.if_icmp .ge 20, 3) := by decide +kernel
theorem dX2_weightAt_12 : decode cX2_weightAt 12 = .ok (.iload_n 2, 1) := by decide +kernel
theorem dX2_weightAt_13 : decode cX2_weightAt 13 = .ok (.aload_n 0, 1) := by decide +kernel
theorem dX2_weightAt_14 : decode cX2_weightAt 14 = .ok (.getfield 23, 3) := by decide +kernel
theorem dX2_weightAt_17 : decode cX2_weightAt 17 = .ok (.iload_n 1, 1) := by decide +kernel
theorem dX2_weightAt_18 : decode cX2_weightAt 18 = .ok (.aaload, 1) := by decide +kernel
theorem dX2_weightAt_19 : decode cX2_weightAt 19 = .ok (.iload_n 3, 1) := by decide +kernel
theorem dX2_weightAt_20 : decode cX2_weightAt 20 = .ok (.iaload, 1) := by decide +kernel
theorem dX2_weightAt_21 : decode cX2_weightAt 21 = .ok (.iadd, 1) := by decide +kernel
theorem dX2_weightAt_22 : decode cX2_weightAt 22 = .ok (.istore_n 2, 1) := by decide +kernel
theorem dX2_weightAt_23 : decode cX2_weightAt 23 = .ok (.iinc 3 1, 3) := by decide +kernel
theorem dX2_weightAt_26 : decode cX2_weightAt 26 = .ok (.goto (-22), 3) := by decide +kernel
theorem dX2_weightAt_29 : decode cX2_weightAt 29 = .ok (.iload_n 2, 1) := by decide +kernel
theorem dX2_weightAt_30 : decode cX2_weightAt 30 = .ok (.ireturn, 1) := by decide +kernel
theorem dX2_spread_0 : decode cX2_spread 0 = .ok (.iload_n 1, 1) := by decide +kernel
theorem dX2_spread_1 : decode cX2_spread 1 = .ok (.invokestatic 58, 3) := by decide +kernel
theorem dX2_spread_4 : decode cX2_spread 4 = .ok (.istore_n 2, 1) := by decide +kernel
theorem dX2_spread_5 : decode cX2_spread 5 = .ok (.iload_n 2, 1) := by decide +kernel
theorem dX2_spread_6 : decode cX2_spread 6 = .ok (.aload_n 0, 1) := by decide +kernel
theorem dX2_spread_7 : decode cX2_spread 7 = .ok (.getfield 29, 3) := by decide +kernel
theorem dX2_spread_10 : decode cX2_spread 10 = .ok (.iload_n 2, 1) := by decide +kernel
theorem dX2_spread_11 : decode cX2_spread 11 = .ok (.isub, 1) := by decide +kernel
theorem dX2_spread_12 : decode cX2_spread 12 = .ok (.imul, 1) := by decide +kernel
theorem dX2_spread_13 : decode cX2_spread 13 = .ok (.ireturn, 1) := by decide +kernel
theorem dX2_reachedFrom_0 : decode cX2_reachedFrom 0 = .ok (.iconst 1, 1) := by decide +kernel
theorem dX2_reachedFrom_1 : decode cX2_reachedFrom 1 = .ok (.iload_n 1, 1) := by decide +kernel
theorem dX2_reachedFrom_2 : decode cX2_reachedFrom 2 = .ok (.ishl, 1) := by decide +kernel
theorem dX2_reachedFrom_3 : decode cX2_reachedFrom 3 = .ok (.istore_n 3, 1) := by decide +kernel
theorem dX2_reachedFrom_4 : decode cX2_reachedFrom 4 = .ok (.iconst 0, 1) := by decide +kernel
theorem dX2_reachedFrom_5 : decode cX2_reachedFrom 5 = .ok (.istore 4, 2) := by decide +kernel
theorem dX2_reachedFrom_7 : decode cX2_reachedFrom 7 = .ok (.iload 4, 2) := by decide +kernel
theorem dX2_reachedFrom_9 : decode cX2_reachedFrom 9 = .ok (.aload_n 0, 1) := by decide +kernel
theorem dX2_reachedFrom_10 : decode cX2_reachedFrom 10 = .ok (.getfield 29, 3) := by decide +kernel
theorem dX2_reachedFrom_13 : decode cX2_reachedFrom 13 = .ok (.if_icmp .ge 66, 3) := by decide +kernel
theorem dX2_reachedFrom_16 : decode cX2_reachedFrom 16 = .ok (.iload_n 3, 1) := by decide +kernel
theorem dX2_reachedFrom_17 : decode cX2_reachedFrom 17 = .ok (.istore 5, 2) := by decide +kernel
theorem dX2_reachedFrom_19 : decode cX2_reachedFrom 19 = .ok (.iconst 0, 1) := by decide +kernel
theorem dX2_reachedFrom_20 : decode cX2_reachedFrom 20 = .ok (.istore 6, 2) := by decide +kernel
theorem dX2_reachedFrom_22 : decode cX2_reachedFrom 22 = .ok (.iload 6, 2) := by decide +kernel
theorem dX2_reachedFrom_24 : decode cX2_reachedFrom 24 = .ok (.aload_n 0, 1) := by decide +kernel
theorem dX2_reachedFrom_25 : decode cX2_reachedFrom 25 = .ok (.getfield 29, 3) := by decide +kernel
theorem dX2_reachedFrom_28 : decode cX2_reachedFrom 28 = .ok (.if_icmp .ge 33, 3) := by decide +kernel
theorem dX2_reachedFrom_31 : decode cX2_reachedFrom 31 = .ok (.iload_n 3, 1) := by decide +kernel
theorem dX2_reachedFrom_32 : decode cX2_reachedFrom 32 = .ok (.iload 6, 2) := by decide +kernel
theorem dX2_reachedFrom_34 : decode cX2_reachedFrom 34 = .ok (.ishr, 1) := by decide +kernel
theorem dX2_reachedFrom_35 : decode cX2_reachedFrom 35 = .ok (.iconst 1, 1) := by decide +kernel
theorem dX2_reachedFrom_36 : decode cX2_reachedFrom 36 = .ok (.iand, 1) := by decide +kernel
theorem dX2_reachedFrom_37 : decode cX2_reachedFrom 37 = .ok (.iconst 1, 1) := by decide +kernel
theorem dX2_reachedFrom_38 : decode cX2_reachedFrom 38 = .ok (.if_icmp .ne 17, 3) := by decide +kernel
theorem dX2_reachedFrom_41 : decode cX2_reachedFrom 41 = .ok (.iload 5, 2) := by decide +kernel
theorem dX2_reachedFrom_43 : decode cX2_reachedFrom 43 = .ok (.aload_n 0, 1) := by decide +kernel
theorem dX2_reachedFrom_44 : decode cX2_reachedFrom 44 = .ok (.getfield 26, 3) := by decide +kernel
theorem dX2_reachedFrom_47 : decode cX2_reachedFrom 47 = .ok (.iload 6, 2) := by decide +kernel
theorem dX2_reachedFrom_49 : decode cX2_reachedFrom 49 = .ok (.iaload, 1) := by decide +kernel
theorem dX2_reachedFrom_50 : decode cX2_reachedFrom 50 = .ok (.iload_n 2, 1) := by decide +kernel
theorem dX2_reachedFrom_51 : decode cX2_reachedFrom 51 = .ok (.iand, 1) := by decide +kernel
theorem dX2_reachedFrom_52 : decode cX2_reachedFrom 52 = .ok (.ior, 1) := by decide +kernel
theorem dX2_reachedFrom_53 : decode cX2_reachedFrom 53 = .ok (.istore 5, 2) := by decide +kernel
theorem dX2_reachedFrom_55 : decode cX2_reachedFrom 55 = .ok (.iinc 6 1, 3) := by decide +kernel
theorem dX2_reachedFrom_58 : decode cX2_reachedFrom 58 = .ok (.goto (-36), 3) := by decide +kernel
theorem dX2_reachedFrom_61 : decode cX2_reachedFrom 61 = .ok (.iload 5, 2) := by decide +kernel
theorem dX2_reachedFrom_63 : decode cX2_reachedFrom 63 = .ok (.iload_n 3, 1) := by decide +kernel
theorem dX2_reachedFrom_64 : decode cX2_reachedFrom 64 = .ok (.if_icmp .ne 6, 3) := by decide +kernel
theorem dX2_reachedFrom_67 : decode cX2_reachedFrom 67 = .ok (.goto 12, 3) := by decide +kernel
theorem dX2_reachedFrom_70 : decode cX2_reachedFrom 70 = .ok (.iload 5, 2) := by decide +kernel
theorem dX2_reachedFrom_72 : decode cX2_reachedFrom 72 = .ok (.istore_n 3, 1) := by decide +kernel
theorem dX2_reachedFrom_73 : decode cX2_reachedFrom 73 = .ok (.iinc 4 1, 3) := by decide +kernel
theorem dX2_reachedFrom_76 : decode cX2_reachedFrom 76 = .ok (.goto (-69), 3) := by decide +kernel
theorem dX2_reachedFrom_79 : decode cX2_reachedFrom 79 = .ok (.iload_n 3, 1) := by decide +kernel
theorem dX2_reachedFrom_80 : decode cX2_reachedFrom 80 = .ok (.ireturn, 1) := by decide +kernel
theorem dX2_countConnected_0 : decode cX2_countConnected 0 = .ok (.iconst 0, 1) := by decide +kernel
theorem dX2_countConnected_1 : decode cX2_countConnected 1 = .ok (.istore_n 2, 1) := by decide +kernel
theorem dX2_countConnected_2 : decode cX2_countConnected 2 = .ok (.iload_n 1, 1) := by decide +kernel
theorem dX2_countConnected_3 : decode cX2_countConnected 3 = .ok (.istore_n 3, 1) := by decide +kernel
theorem dX2_countConnected_4 : decode cX2_countConnected 4 = .ok (.iconst 0, 1) := by decide +kernel
theorem dX2_countConnected_5 : decode cX2_countConnected 5 = .ok (.istore 4, 2) := by decide +kernel
theorem dX2_countConnected_7 : decode cX2_countConnected 7 = .ok (.iload 4, 2) := by decide +kernel
theorem dX2_countConnected_9 : decode cX2_countConnected 9 = .ok (.aload_n 0, 1) := by decide +kernel
theorem dX2_countConnected_10 : decode cX2_countConnected 10 = .ok (.getfield 29, 3) := by decide +kernel
theorem dX2_countConnected_13 : decode cX2_countConnected 13 = .ok (.if_icmp .ge 34, 3) := by decide +kernel
theorem dX2_countConnected_16 : decode cX2_countConnected 16 = .ok (.iload_n 3, 1) := by decide +kernel
theorem dX2_countConnected_17 : decode cX2_countConnected 17 = .ok (.iload 4, 2) := by decide +kernel
theorem dX2_countConnected_19 : decode cX2_countConnected 19 = .ok (.ishr, 1) := by decide +kernel
theorem dX2_countConnected_20 : decode cX2_countConnected 20 = .ok (.iconst 1, 1) := by decide +kernel
theorem dX2_countConnected_21 : decode cX2_countConnected 21 = .ok (.iand, 1) := by decide +kernel
theorem dX2_countConnected_22 : decode cX2_countConnected 22 = .ok (.iconst 1, 1) := by decide +kernel
theorem dX2_countConnected_23 : decode cX2_countConnected 23 = .ok (.if_icmp .ne 18, 3) := by decide +kernel
theorem dX2_countConnected_26 : decode cX2_countConnected 26 = .ok (.iload_n 3, 1) := by decide +kernel
theorem dX2_countConnected_27 : decode cX2_countConnected 27 = .ok (.aload_n 0, 1) := by decide +kernel
theorem dX2_countConnected_28 : decode cX2_countConnected 28 = .ok (.iload 4, 2) := by decide +kernel
theorem dX2_countConnected_30 : decode cX2_countConnected 30 = .ok (.iload_n 1, 1) := by decide +kernel
theorem dX2_countConnected_31 : decode cX2_countConnected 31 = .ok (.invokevirtual 64, 3) := by decide +kernel
theorem dX2_countConnected_34 : decode cX2_countConnected 34 = .ok (.iconst (-1), 1) := by decide +kernel
theorem dX2_countConnected_35 : decode cX2_countConnected 35 = .ok (.ixor, 1) := by decide +kernel
theorem dX2_countConnected_36 : decode cX2_countConnected 36 = .ok (.iand, 1) := by decide +kernel
theorem dX2_countConnected_37 : decode cX2_countConnected 37 = .ok (.istore_n 3, 1) := by decide +kernel
theorem dX2_countConnected_38 : decode cX2_countConnected 38 = .ok (.iinc 2 1, 3) := by decide +kernel
theorem dX2_countConnected_41 : decode cX2_countConnected 41 = .ok (.iinc 4 1, 3) := by decide +kernel
theorem dX2_countConnected_44 : decode cX2_countConnected 44 = .ok (.goto (-37), 3) := by decide +kernel
theorem dX2_countConnected_47 : decode cX2_countConnected 47 = .ok (.iload_n 2, 1) := by decide +kernel
theorem dX2_countConnected_48 : decode cX2_countConnected 48 = .ok (.ireturn, 1) := by decide +kernel
theorem dX2_fewestBars_0 : decode cX2_fewestBars 0 = .ok (.aload_n 0, 1) := by decide +kernel
theorem dX2_fewestBars_1 : decode cX2_fewestBars 1 = .ok (.invokevirtual 46, 3) := by decide +kernel
theorem dX2_fewestBars_4 : decode cX2_fewestBars 4 = .ok (.istore_n 3, 1) := by decide +kernel
theorem dX2_fewestBars_5 : decode cX2_fewestBars 5 = .ok (.iload_n 3, 1) := by decide +kernel
theorem dX2_fewestBars_6 : decode cX2_fewestBars 6 = .ok (.iconst 1, 1) := by decide +kernel
theorem dX2_fewestBars_7 : decode cX2_fewestBars 7 = .ok (.iload_n 1, 1) := by decide +kernel
theorem dX2_fewestBars_8 : decode cX2_fewestBars 8 = .ok (.ishl, 1) := by decide +kernel
theorem dX2_fewestBars_9 : decode cX2_fewestBars 9 = .ok (.iconst (-1), 1) := by decide +kernel
theorem dX2_fewestBars_10 : decode cX2_fewestBars 10 = .ok (.ixor, 1) := by decide +kernel
theorem dX2_fewestBars_11 : decode cX2_fewestBars 11 = .ok (.iand, 1) := by decide +kernel
theorem dX2_fewestBars_12 : decode cX2_fewestBars 12 = .ok (.iconst 1, 1) := by decide +kernel
theorem dX2_fewestBars_13 : decode cX2_fewestBars 13 = .ok (.iload_n 2, 1) := by decide +kernel
theorem dX2_fewestBars_14 : decode cX2_fewestBars 14 = .ok (.ishl, 1) := by decide +kernel
theorem dX2_fewestBars_15 : decode cX2_fewestBars 15 = .ok (.iconst (-1), 1) := by decide +kernel
theorem dX2_fewestBars_16 : decode cX2_fewestBars 16 = .ok (.ixor, 1) := by decide +kernel
theorem dX2_fewestBars_17 : decode cX2_fewestBars 17 = .ok (.iand, 1) := by decide +kernel
theorem dX2_fewestBars_18 : decode cX2_fewestBars 18 = .ok (.istore 4, 2) := by decide +kernel
theorem dX2_fewestBars_20 : decode cX2_fewestBars 20 = .ok (.iload 4, 2) := by decide +kernel
theorem dX2_fewestBars_22 : decode cX2_fewestBars 22 = .ok (.istore 5, 2) := by decide +kernel
theorem dX2_fewestBars_24 : decode cX2_fewestBars 24 = .ok (.iconst 1, 1) := by decide +kernel
theorem dX2_fewestBars_25 : decode cX2_fewestBars 25 = .ok (.aload_n 0, 1) := by decide +kernel
theorem dX2_fewestBars_26 : decode cX2_fewestBars 26 = .ok (.getfield 29, 3) := by decide +kernel
theorem dX2_fewestBars_29 : decode cX2_fewestBars 29 = .ok (.iconst 2, 1) := by decide +kernel
theorem dX2_fewestBars_30 : decode cX2_fewestBars 30 = .ok (.isub, 1) := by decide +kernel
theorem dX2_fewestBars_31 : decode cX2_fewestBars 31 = .ok (.ishl, 1) := by decide +kernel
theorem dX2_fewestBars_32 : decode cX2_fewestBars 32 = .ok (.istore 6, 2) := by decide +kernel
theorem dX2_fewestBars_34 : decode cX2_fewestBars 34 = .ok (.iconst 0, 1) := by decide +kernel
theorem dX2_fewestBars_35 : decode cX2_fewestBars 35 = .ok (.istore 7, 2) := by decide +kernel
theorem dX2_fewestBars_37 : decode cX2_fewestBars 37 = .ok (.iconst 0, 1) := by decide +kernel
theorem dX2_fewestBars_38 : decode cX2_fewestBars 38 = .ok (.istore 8, 2) := by decide +kernel
theorem dX2_fewestBars_40 : decode cX2_fewestBars 40 = .ok (.iload 8, 2) := by decide +kernel
theorem dX2_fewestBars_42 : decode cX2_fewestBars 42 = .ok (.iload 6, 2) := by decide +kernel
theorem dX2_fewestBars_44 : decode cX2_fewestBars 44 = .ok (.if_icmp .ge 65, 3) := by decide +kernel
theorem dX2_fewestBars_47 : decode cX2_fewestBars 47 = .ok (.iload 7, 2) := by decide +kernel
theorem dX2_fewestBars_49 : decode cX2_fewestBars 49 = .ok (.invokestatic 58, 3) := by decide +kernel
theorem dX2_fewestBars_52 : decode cX2_fewestBars 52 = .ok (.iload 5, 2) := by decide +kernel
theorem dX2_fewestBars_54 : decode cX2_fewestBars 54 = .ok (.invokestatic 58, 3) := by decide +kernel
theorem dX2_fewestBars_57 : decode cX2_fewestBars 57 = .ok (.if_icmp .ge 7, 3) := by decide +kernel
theorem dX2_fewestBars_60 : decode cX2_fewestBars 60 = .ok (.iconst 1, 1) := by decide +kernel
theorem dX2_fewestBars_61 : decode cX2_fewestBars 61 = .ok (.goto 4, 3) := by decide +kernel
theorem dX2_fewestBars_64 : decode cX2_fewestBars 64 = .ok (.iconst 0, 1) := by decide +kernel
theorem dX2_fewestBars_65 : decode cX2_fewestBars 65 = .ok (.istore 9, 2) := by decide +kernel
theorem dX2_fewestBars_67 : decode cX2_fewestBars 67 = .ok (.iload 9, 2) := by decide +kernel
theorem dX2_fewestBars_69 : decode cX2_fewestBars 69 = .ok (.ifCond .eq 25, 3) := by decide +kernel
theorem dX2_fewestBars_72 : decode cX2_fewestBars 72 = .ok (.aload_n 0, 1) := by decide +kernel
theorem dX2_fewestBars_73 : decode cX2_fewestBars 73 = .ok (.iload_n 1, 1) := by decide +kernel
theorem dX2_fewestBars_74 : decode cX2_fewestBars 74 = .ok (.iload_n 3, 1) := by decide +kernel
theorem dX2_fewestBars_75 : decode cX2_fewestBars 75 = .ok (.iload 7, 2) := by decide +kernel
theorem dX2_fewestBars_77 : decode cX2_fewestBars 77 = .ok (.iconst (-1), 1) := by decide +kernel
theorem dX2_fewestBars_78 : decode cX2_fewestBars 78 = .ok (.ixor, 1) := by decide +kernel
theorem dX2_fewestBars_79 : decode cX2_fewestBars 79 = .ok (.iand, 1) := by decide +kernel
theorem dX2_fewestBars_80 : decode cX2_fewestBars 80 = .ok (.invokevirtual 64, 3) := by decide +kernel
theorem dX2_fewestBars_83 : decode cX2_fewestBars 83 = .ok (.iload_n 2, 1) := by decide +kernel
theorem dX2_fewestBars_84 : decode cX2_fewestBars 84 = .ok (.ishr, 1) := by decide +kernel
theorem dX2_fewestBars_85 : decode cX2_fewestBars 85 = .ok (.iconst 1, 1) := by decide +kernel
theorem dX2_fewestBars_86 : decode cX2_fewestBars 86 = .ok (.iand, 1) := by decide +kernel
theorem dX2_fewestBars_87 : decode cX2_fewestBars 87 = .ok (.ifCond .ne 7, 3) := by decide +kernel
theorem dX2_fewestBars_90 : decode cX2_fewestBars 90 = .ok (.iload 7, 2) := by decide +kernel
theorem dX2_fewestBars_92 : decode cX2_fewestBars 92 = .ok (.istore 5, 2) := by decide +kernel
theorem dX2_fewestBars_94 : decode cX2_fewestBars 94 = .ok (.iload 4, 2) := by decide +kernel
theorem dX2_fewestBars_96 : decode cX2_fewestBars 96 = .ok (.iload 7, 2) := by decide +kernel
theorem dX2_fewestBars_98 : decode cX2_fewestBars 98 = .ok (.invokestatic 68, 3) := by decide +kernel
theorem dX2_fewestBars_101 : decode cX2_fewestBars 101 = .ok (.istore 7, 2) := by decide +kernel
theorem dX2_fewestBars_103 : decode cX2_fewestBars 103 = .ok (.iinc 8 1, 3) := by decide +kernel
theorem dX2_fewestBars_106 : decode cX2_fewestBars 106 = .ok (.goto (-66), 3) := by decide +kernel
theorem dX2_fewestBars_109 : decode cX2_fewestBars 109 = .ok (.iload 5, 2) := by decide +kernel
theorem dX2_fewestBars_111 : decode cX2_fewestBars 111 = .ok (.ireturn, 1) := by decide +kernel
end
section
/-! decode rows: by program -/
theorem dX0_init_0 : decode cX0_init 0 = .ok (.aload_n 0, 1) := by decide +kernel
theorem dX0_init_1 : decode cX0_init 1 = .ok (.invokespecial 3, 3) := by decide +kernel
theorem dX0_init_4 : decode cX0_init 4 = .ok (.aload_n 0, 1) := by decide +kernel
theorem dX0_init_5 : decode cX0_init 5 = .ok (.sipush 2048, 3) := by decide +kernel
theorem dX0_init_8 : decode cX0_init 8 = .ok (.newarray .int, 2) := by decide +kernel
theorem dX0_init_10 : decode cX0_init 10 = .ok (.putfield 9, 3) := by decide +kernel
theorem dX0_init_13 : decode cX0_init 13 = .ok (.aload_n 0, 1) := by decide +kernel
theorem dX0_init_14 : decode cX0_init 14 = .ok (.iconst (-1), 1) := by decide +kernel
theorem dX0_init_15 : decode cX0_init 15 = .ok (.putfield 15, 3) := by decide +kernel
theorem dX0_init_18 : decode cX0_init 18 = .ok (.aload_n 0, 1) := by decide +kernel
theorem dX0_init_19 : decode cX0_init 19 = .ok (.aload_n 1, 1) := by decide +kernel
theorem dX0_init_20 : decode cX0_init 20 = .ok (.putfield 19, 3) := by decide +kernel
theorem dX0_init_23 : decode cX0_init 23 = .ok (.return_, 1) := by decide +kernel
theorem dX0_refresh_0 : decode cX0_refresh 0 = .ok (.aload_n 0, 1) := by decide +kernel
theorem dX0_refresh_1 : decode cX0_refresh 1 = .ok (.getfield 15, 3) := by decide +kernel
theorem dX0_refresh_4 : decode cX0_refresh 4 = .ok (.aload_n 0, 1) := by decide +kernel
theorem dX0_refresh_5 : decode cX0_refresh 5 = .ok (.getfield 19, 3) := by decide +kernel
theorem dX0_refresh_8 : decode cX0_refresh 8 = .ok (.getfield 23, 3) := by decide +kernel
theorem dX0_refresh_11 : decode cX0_refresh 11 = .ok (.if_icmp .ne 4, 3) := by decide +kernel
theorem dX0_refresh_14 : decode cX0_refresh 14 = .ok (.return_, 1) := by decide +kernel
theorem dX0_refresh_15 : decode cX0_refresh 15 = .ok (.aload_n 0, 1) := by decide +kernel
theorem dX0_refresh_16 : decode cX0_refresh 16 = .ok (.aload_n 0, 1) := by decide +kernel
theorem dX0_refresh_17 : decode cX0_refresh 17 = .ok (.getfield 19, 3) := by decide +kernel
theorem dX0_refresh_20 : decode cX0_refresh 20 = .ok (.getfield 23, 3) := by decide +kernel
theorem dX0_refresh_23 : decode cX0_refresh 23 = .ok (.putfield 15, 3) := by decide +kernel
theorem dX0_refresh_26 : decode cX0_refresh 26 = .ok (.iconst 1, 1) := by decide +kernel
theorem dX0_refresh_27 : decode cX0_refresh 27 = .ok (.istore_n 1, 1) := by decide +kernel
theorem dX0_refresh_28 : decode cX0_refresh 28 = .ok (.iload_n 1, 1) := by decide +kernel
theorem dX0_refresh_29 : decode cX0_refresh 29 = .ok (.aload_n 0, 1) := by decide +kernel
theorem dX0_refresh_30 : decode cX0_refresh 30 = .ok (.getfield 19, 3) := by decide +kernel
theorem dX0_refresh_33 : decode cX0_refresh 33 = .ok (.getfield 28, 3) := by decide +kernel
theorem dX0_refresh_36 : decode cX0_refresh 36 = .ok (.if_icmp .ge 14, 3) := by decide +kernel
theorem dX0_refresh_39 : decode cX0_refresh 39 = .ok (.aload_n 0, 1) := by decide +kernel
theorem dX0_refresh_40 : decode cX0_refresh 40 = .ok (.iload_n 1, 1) := by decide +kernel
theorem dX0_refresh_41 : decode cX0_refresh 41 = .ok (.invokevirtual 31, 3) := by decide +kernel
theorem dX0_refresh_44 : decode cX0_refresh 44 = .ok (.iinc 1 1, 3) := by decide +kernel
theorem dX0_refresh_47 : decode cX0_refresh 47 = .ok (.goto (-19), 3) := by decide +kernel
theorem dX0_refresh_50 : decode cX0_refresh 50 = .ok (.return_, 1) := by decide +kernel
theorem dX0_fillSetsUpTo_0 : decode cX0_fillSetsUpTo 0 = .ok (.iconst 1, 1) := by decide +kernel
theorem dX0_fillSetsUpTo_1 : decode cX0_fillSetsUpTo 1 = .ok (.iload_n 1, 1) := by decide +kernel
theorem dX0_fillSetsUpTo_2 : decode cX0_fillSetsUpTo 2 = .ok (.iconst 1, 1) := by decide +kernel
theorem dX0_fillSetsUpTo_3 : decode cX0_fillSetsUpTo 3 = .ok (.isub, 1) := by decide +kernel
theorem dX0_fillSetsUpTo_4 : decode cX0_fillSetsUpTo 4 = .ok (.ishl, 1) := by decide +kernel
theorem dX0_fillSetsUpTo_5 : decode cX0_fillSetsUpTo 5 = .ok (.istore_n 2, 1) := by decide +kernel
theorem dX0_fillSetsUpTo_6 : decode cX0_fillSetsUpTo 6 = .ok (.aload_n 0, 1) := by decide +kernel
theorem dX0_fillSetsUpTo_7 : decode cX0_fillSetsUpTo 7 = .ok (.getfield 9, 3) := by decide +kernel
theorem dX0_fillSetsUpTo_10 : decode cX0_fillSetsUpTo 10 = .ok (.iload_n 2, 1) := by decide +kernel
theorem dX0_fillSetsUpTo_11 : decode cX0_fillSetsUpTo 11 = .ok (.iconst 0, 1) := by decide +kernel
theorem dX0_fillSetsUpTo_12 : decode cX0_fillSetsUpTo 12 = .ok (.iastore, 1) := by decide +kernel
theorem dX0_fillSetsUpTo_13 : decode cX0_fillSetsUpTo 13 = .ok (.iconst 1, 1) := by decide +kernel
theorem dX0_fillSetsUpTo_14 : decode cX0_fillSetsUpTo 14 = .ok (.istore_n 3, 1) := by decide +kernel
theorem dX0_fillSetsUpTo_15 : decode cX0_fillSetsUpTo 15 = .ok (.iload_n 3, 1) := by decide +kernel
theorem dX0_fillSetsUpTo_16 : decode cX0_fillSetsUpTo 16 = .ok (.iload_n 1, 1) := by decide +kernel
theorem dX0_fillSetsUpTo_17 : decode cX0_fillSetsUpTo 17 = .ok (.if_icmp .ge 69, 3) := by decide +kernel
theorem dX0_fillSetsUpTo_20 : decode cX0_fillSetsUpTo 20 = .ok (.iconst 1, 1) := by decide +kernel
theorem dX0_fillSetsUpTo_21 : decode cX0_fillSetsUpTo 21 = .ok (.iload_n 3, 1) := by decide +kernel
theorem dX0_fillSetsUpTo_22 : decode cX0_fillSetsUpTo 22 = .ok (.iconst 1, 1) := by decide +kernel
theorem dX0_fillSetsUpTo_23 : decode cX0_fillSetsUpTo 23 = .ok (.isub, 1) := by decide +kernel
theorem dX0_fillSetsUpTo_24 : decode cX0_fillSetsUpTo 24 = .ok (.ishl, 1) := by decide +kernel
theorem dX0_fillSetsUpTo_25 : decode cX0_fillSetsUpTo 25 = .ok (.istore 4, 2) := by decide +kernel
theorem dX0_fillSetsUpTo_27 : decode cX0_fillSetsUpTo 27 = .ok (.aload_n 0, 1) := by decide +kernel
theorem dX0_fillSetsUpTo_28 : decode cX0_fillSetsUpTo 28 = .ok (.getfield 19, 3) := by decide +kernel
theorem dX0_fillSetsUpTo_31 : decode cX0_fillSetsUpTo 31 = .ok (.getfield 35, 3) := by decide +kernel
theorem dX0_fillSetsUpTo_34 : decode cX0_fillSetsUpTo 34 = .ok (.iload_n 1, 1) := by decide +kernel
theorem dX0_fillSetsUpTo_35 : decode cX0_fillSetsUpTo 35 = .ok (.aaload, 1) := by decide +kernel
theorem dX0_fillSetsUpTo_36 : decode cX0_fillSetsUpTo 36 = .ok (.iload_n 3, 1) := by decide +kernel
theorem dX0_fillSetsUpTo_37 : decode cX0_fillSetsUpTo 37 = .ok (.iaload, 1) := by decide +kernel
theorem dX0_fillSetsUpTo_38 : decode cX0_fillSetsUpTo 38 = .ok (.istore 5, 2) := by decide +kernel
theorem dX0_fillSetsUpTo_40 : decode cX0_fillSetsUpTo 40 = .ok (.iconst 0, 1) := by decide +kernel
theorem dX0_fillSetsUpTo_41 : decode cX0_fillSetsUpTo 41 = .ok (.istore 6, 2) := by decide +kernel
theorem dX0_fillSetsUpTo_43 : decode cX0_fillSetsUpTo 43 = .ok (.iload 6, 2) := by decide +kernel
theorem dX0_fillSetsUpTo_45 : decode cX0_fillSetsUpTo 45 = .ok (.iload 4, 2) := by decide +kernel
theorem dX0_fillSetsUpTo_47 : decode cX0_fillSetsUpTo 47 = .ok (.if_icmp .ge 33, 3) := by decide +kernel
theorem dX0_fillSetsUpTo_50 : decode cX0_fillSetsUpTo 50 = .ok (.aload_n 0, 1) := by decide +kernel
theorem dX0_fillSetsUpTo_51 : decode cX0_fillSetsUpTo 51 = .ok (.getfield 9, 3) := by decide +kernel
theorem dX0_fillSetsUpTo_54 : decode cX0_fillSetsUpTo 54 = .ok (.iload_n 2, 1) := by decide +kernel
theorem dX0_fillSetsUpTo_55 : decode cX0_fillSetsUpTo 55 = .ok (.iload 4, 2) := by decide +kernel
theorem dX0_fillSetsUpTo_57 : decode cX0_fillSetsUpTo 57 = .ok (.iadd, 1) := by decide +kernel
theorem dX0_fillSetsUpTo_58 : decode cX0_fillSetsUpTo 58 = .ok (.iload 6, 2) := by decide +kernel
theorem dX0_fillSetsUpTo_60 : decode cX0_fillSetsUpTo 60 = .ok (.iadd, 1) := by decide +kernel
theorem dX0_fillSetsUpTo_61 : decode cX0_fillSetsUpTo 61 = .ok (.aload_n 0, 1) := by decide +kernel
theorem dX0_fillSetsUpTo_62 : decode cX0_fillSetsUpTo 62 = .ok (.getfield 9, 3) := by decide +kernel
theorem dX0_fillSetsUpTo_65 : decode cX0_fillSetsUpTo 65 = .ok (.iload_n 2, 1) := by decide +kernel
theorem dX0_fillSetsUpTo_66 : decode cX0_fillSetsUpTo 66 = .ok (.iload 6, 2) := by decide +kernel
theorem dX0_fillSetsUpTo_68 : decode cX0_fillSetsUpTo 68 = .ok (.iadd, 1) := by decide +kernel
theorem dX0_fillSetsUpTo_69 : decode cX0_fillSetsUpTo 69 = .ok (.iaload, 1) := by decide +kernel
theorem dX0_fillSetsUpTo_70 : decode cX0_fillSetsUpTo 70 = .ok (.iload 5, 2) := by decide +kernel
theorem dX0_fillSetsUpTo_72 : decode cX0_fillSetsUpTo 72 = .ok (.iadd, 1) := by decide +kernel
theorem dX0_fillSetsUpTo_73 : decode cX0_fillSetsUpTo 73 = .ok (.iastore, 1) := by decide +kernel
theorem dX0_fillSetsUpTo_74 : decode cX0_fillSetsUpTo 74 = .ok (.iinc 6 1, 3) := by decide +kernel
theorem dX0_fillSetsUpTo_77 : decode cX0_fillSetsUpTo 77 = .ok (.goto (-34), 3) := by decide +kernel
theorem dX0_fillSetsUpTo_80 : decode cX0_fillSetsUpTo 80 = .ok (.iinc 3 1, 3) := by decide +kernel
theorem dX0_fillSetsUpTo_83 : decode cX0_fillSetsUpTo 83 = .ok (.goto (-68), 3) := by decide +kernel
theorem dX0_fillSetsUpTo_86 : decode cX0_fillSetsUpTo 86 = .ok (.aload_n 0, 1) := by decide +kernel
theorem dX0_fillSetsUpTo_87 : decode cX0_fillSetsUpTo 87 = .ok (.getfield 19, 3) := by decide +kernel
theorem dX0_fillSetsUpTo_90 : decode cX0_fillSetsUpTo 90 = .ok (.iload_n 1, 1) := by decide +kernel
theorem dX0_fillSetsUpTo_91 : decode cX0_fillSetsUpTo 91 = .ok (.invokevirtual 39, 3) := by decide +kernel
theorem dX0_fillSetsUpTo_94 : decode cX0_fillSetsUpTo 94 = .ok (.istore_n 3, 1) := by decide +kernel
theorem dX0_fillSetsUpTo_95 : decode cX0_fillSetsUpTo 95 = .ok (.iconst 0, 1) := by decide +kernel
theorem dX0_fillSetsUpTo_96 : decode cX0_fillSetsUpTo 96 = .ok (.istore 4, 2) := by decide +kernel
theorem dX0_fillSetsUpTo_98 : decode cX0_fillSetsUpTo 98 = .ok (.iload 4, 2) := by decide +kernel
theorem dX0_fillSetsUpTo_100 : decode cX0_fillSetsUpTo 100 = .ok (.iload_n 2, 1) := by decide +kernel
theorem dX0_fillSetsUpTo_101 : decode cX0_fillSetsUpTo 101 = .ok (.if_icmp .ge 39, 3) := by decide +kernel
theorem dX0_fillSetsUpTo_104 : decode cX0_fillSetsUpTo 104 = .ok (.aload_n 0, 1) := by decide +kernel
theorem dX0_fillSetsUpTo_105 : decode cX0_fillSetsUpTo 105 = .ok (.getfield 9, 3) := by decide +kernel
theorem dX0_fillSetsUpTo_108 : decode cX0_fillSetsUpTo 108 = .ok (.iload_n 2, 1) := by decide +kernel
theorem dX0_fillSetsUpTo_109 : decode cX0_fillSetsUpTo 109 = .ok (.iload 4, 2) := by decide +kernel
theorem dX0_fillSetsUpTo_111 : decode cX0_fillSetsUpTo 111 = .ok (.iadd, 1) := by decide +kernel
theorem dX0_fillSetsUpTo_112 : decode cX0_fillSetsUpTo 112 = .ok (.aload_n 0, 1) := by decide +kernel
theorem dX0_fillSetsUpTo_113 : decode cX0_fillSetsUpTo 113 = .ok (.getfield 9, 3) := by decide +kernel
theorem dX0_fillSetsUpTo_116 : decode cX0_fillSetsUpTo 116 = .ok (.iload 4, 2) := by decide +kernel
theorem dX0_fillSetsUpTo_118 : decode cX0_fillSetsUpTo 118 = .ok (.iaload, 1) := by decide +kernel
theorem dX0_fillSetsUpTo_119 : decode cX0_fillSetsUpTo 119 = .ok (.iload_n 3, 1) := by decide +kernel
theorem dX0_fillSetsUpTo_120 : decode cX0_fillSetsUpTo 120 = .ok (.iadd, 1) := by decide +kernel
theorem dX0_fillSetsUpTo_121 : decode cX0_fillSetsUpTo 121 = .ok (.iconst 2, 1) := by decide +kernel
theorem dX0_fillSetsUpTo_122 : decode cX0_fillSetsUpTo 122 = .ok (.aload_n 0, 1) := by decide +kernel
theorem dX0_fillSetsUpTo_123 : decode cX0_fillSetsUpTo 123 = .ok (.getfield 9, 3) := by decide +kernel
theorem dX0_fillSetsUpTo_126 : decode cX0_fillSetsUpTo 126 = .ok (.iload_n 2, 1) := by decide +kernel
theorem dX0_fillSetsUpTo_127 : decode cX0_fillSetsUpTo 127 = .ok (.iload 4, 2) := by decide +kernel
theorem dX0_fillSetsUpTo_129 : decode cX0_fillSetsUpTo 129 = .ok (.iadd, 1) := by decide +kernel
theorem dX0_fillSetsUpTo_130 : decode cX0_fillSetsUpTo 130 = .ok (.iaload, 1) := by decide +kernel
theorem dX0_fillSetsUpTo_131 : decode cX0_fillSetsUpTo 131 = .ok (.imul, 1) := by decide +kernel
theorem dX0_fillSetsUpTo_132 : decode cX0_fillSetsUpTo 132 = .ok (.isub, 1) := by decide +kernel
theorem dX0_fillSetsUpTo_133 : decode cX0_fillSetsUpTo 133 = .ok (.iastore, 1) := by decide +kernel
theorem dX0_fillSetsUpTo_134 : decode cX0_fillSetsUpTo 134 = .ok (.iinc 4 1, 3) := by decide +kernel
theorem dX0_fillSetsUpTo_137 : decode cX0_fillSetsUpTo 137 = .ok (.goto (-39), 3) := by decide +kernel
theorem dX0_fillSetsUpTo_140 : decode cX0_fillSetsUpTo 140 = .ok (.return_, 1) := by decide +kernel
theorem dX0_cutAt_0 : decode cX0_cutAt 0 = .ok (.iload_n 1, 1) := by decide +kernel
theorem dX0_cutAt_1 : decode cX0_cutAt 1 = .ok (.iconst 1, 1) := by decide +kernel
theorem dX0_cutAt_2 : decode cX0_cutAt 2 = .ok (.iand, 1) := by decide +kernel
theorem dX0_cutAt_3 : decode cX0_cutAt 3 = .ok (.ifCond .ne 7, 3) := by decide +kernel
theorem dX0_cutAt_6 : decode cX0_cutAt 6 = .ok (.iload_n 1, 1) := by decide +kernel
theorem dX0_cutAt_7 : decode cX0_cutAt 7 = .ok (.goto 14, 3) := by decide +kernel
theorem dX0_cutAt_10 : decode cX0_cutAt 10 = .ok (.aload_n 0, 1) := by decide +kernel
theorem dX0_cutAt_11 : decode cX0_cutAt 11 = .ok (.getfield 19, 3) := by decide +kernel
theorem dX0_cutAt_14 : decode cX0_cutAt 14 = .ok (.invokevirtual 43, 3) := by decide +kernel
theorem dX0_cutAt_17 : decode cX0_cutAt 17 = .ok (.iload_n 1, 1) := by decide +kernel
theorem dX0_cutAt_18 : decode cX0_cutAt 18 = .ok (.iconst (-1), 1) := by decide +kernel
theorem dX0_cutAt_19 : decode cX0_cutAt 19 = .ok (.ixor, 1) := by decide +kernel
theorem dX0_cutAt_20 : decode cX0_cutAt 20 = .ok (.iand, 1) := by decide +kernel
theorem dX0_cutAt_21 : decode cX0_cutAt 21 = .ok (.istore_n 2, 1) := by decide +kernel
theorem dX0_cutAt_22 : decode cX0_cutAt 22 = .ok (.aload_n 0, 1) := by decide +kernel
theorem dX0_cutAt_23 : decode cX0_cutAt 23 = .ok (.getfield 9, 3) := by decide +kernel
theorem dX0_cutAt_26 : decode cX0_cutAt 26 = .ok (.iload_n 2, 1) := by decide +kernel
theorem dX0_cutAt_27 : decode cX0_cutAt 27 = .ok (.iconst 1, 1) := by decide +kernel
theorem dX0_cutAt_28 : decode cX0_cutAt 28 = .ok (.ishr, 1) := by decide +kernel
theorem dX0_cutAt_29 : decode cX0_cutAt 29 = .ok (.iaload, 1) := by decide +kernel
theorem dX0_cutAt_30 : decode cX0_cutAt 30 = .ok (.ireturn, 1) := by decide +kernel
theorem dX0_cutBetween_0 : decode cX0_cutBetween 0 = .ok (.aload_n 0, 1) := by decide +kernel
theorem dX0_cutBetween_1 : decode cX0_cutBetween 1 = .ok (.aload_n 0, 1) := by decide +kernel
theorem dX0_cutBetween_2 : decode cX0_cutBetween 2 = .ok (.iload_n 1, 1) := by decide +kernel
theorem dX0_cutBetween_3 : decode cX0_cutBetween 3 = .ok (.iload_n 2, 1) := by decide +kernel
theorem dX0_cutBetween_4 : decode cX0_cutBetween 4 = .ok (.invokevirtual 47, 3) := by decide +kernel
theorem dX0_cutBetween_7 : decode cX0_cutBetween 7 = .ok (.invokevirtual 51, 3) := by decide +kernel
theorem dX0_cutBetween_10 : decode cX0_cutBetween 10 = .ok (.ireturn, 1) := by decide +kernel
theorem dX0_sideAgainst_0 : decode cX0_sideAgainst 0 = .ok (.iconst 1, 1) := by decide +kernel
theorem dX0_sideAgainst_1 : decode cX0_sideAgainst 1 = .ok (.iload_n 1, 1) := by decide +kernel
theorem dX0_sideAgainst_2 : decode cX0_sideAgainst 2 = .ok (.ishl, 1) := by decide +kernel
theorem dX0_sideAgainst_3 : decode cX0_sideAgainst 3 = .ok (.istore_n 3, 1) := by decide +kernel
theorem dX0_sideAgainst_4 : decode cX0_sideAgainst 4 = .ok (.aload_n 0, 1) := by decide +kernel
theorem dX0_sideAgainst_5 : decode cX0_sideAgainst 5 = .ok (.getfield 19, 3) := by decide +kernel
theorem dX0_sideAgainst_8 : decode cX0_sideAgainst 8 = .ok (.invokevirtual 43, 3) := by decide +kernel
theorem dX0_sideAgainst_11 : decode cX0_sideAgainst 11 = .ok (.iload_n 3, 1) := by decide +kernel
theorem dX0_sideAgainst_12 : decode cX0_sideAgainst 12 = .ok (.iconst (-1), 1) := by decide +kernel
theorem dX0_sideAgainst_13 : decode cX0_sideAgainst 13 = .ok (.ixor, 1) := by decide +kernel
theorem dX0_sideAgainst_14 : decode cX0_sideAgainst 14 = .ok (.iand, 1) := by decide +kernel
theorem dX0_sideAgainst_15 : decode cX0_sideAgainst 15 = .ok (.iconst 1, 1) := by decide +kernel
theorem dX0_sideAgainst_16 : decode cX0_sideAgainst 16 = .ok (.iload_n 2, 1) := by decide +kernel
theorem dX0_sideAgainst_17 : decode cX0_sideAgainst 17 = .ok (.ishl, 1) := by decide +kernel
theorem dX0_sideAgainst_18 : decode cX0_sideAgainst 18 = .ok (.iconst (-1), 1) := by decide +kernel
theorem dX0_sideAgainst_19 : decode cX0_sideAgainst 19 = .ok (.ixor, 1) := by decide +kernel
theorem dX0_sideAgainst_20 : decode cX0_sideAgainst 20 = .ok (.iand, 1) := by decide +kernel
theorem dX0_sideAgainst_21 : decode cX0_sideAgainst 21 = .ok (.istore 4, 2) := by decide +kernel
theorem dX0_sideAgainst_23 : decode cX0_sideAgainst 23 = .ok (.iload_n 3, 1) := by decide +kernel
theorem dX0_sideAgainst_24 : decode cX0_sideAgainst 24 = .ok (.istore 5, 2) := by decide +kernel
theorem dX0_sideAgainst_26 : decode cX0_sideAgainst 26 = .ok (.aload_n 0, 1) := by decide +kernel
theorem dX0_sideAgainst_27 : decode cX0_sideAgainst 27 = .ok (.iload_n 3, 1) := by decide +kernel
theorem dX0_sideAgainst_28 : decode cX0_sideAgainst 28 = .ok (.invokevirtual 51, 3) := by decide +kernel
theorem dX0_sideAgainst_31 : decode cX0_sideAgainst 31 = .ok (.istore 6, 2) := by decide +kernel
theorem dX0_sideAgainst_33 : decode cX0_sideAgainst 33 = .ok (.iconst 1, 1) := by decide +kernel
theorem dX0_sideAgainst_34 : decode cX0_sideAgainst 34 = .ok (.aload_n 0, 1) := by decide +kernel
theorem dX0_sideAgainst_35 : decode cX0_sideAgainst 35 = .ok (.getfield 19, 3) := by decide +kernel
theorem dX0_sideAgainst_38 : decode cX0_sideAgainst 38 = .ok (.getfield 28, 3) := by decide +kernel
theorem dX0_sideAgainst_41 : decode cX0_sideAgainst 41 = .ok (.iconst 2, 1) := by decide +kernel
theorem dX0_sideAgainst_42 : decode cX0_sideAgainst 42 = .ok (.isub, 1) := by decide +kernel
theorem dX0_sideAgainst_43 : decode cX0_sideAgainst 43 = .ok (.ishl, 1) := by decide +kernel
theorem dX0_sideAgainst_44 : decode cX0_sideAgainst 44 = .ok (.istore 7, 2) := by decide +kernel
theorem dX0_sideAgainst_46 : decode cX0_sideAgainst 46 = .ok (.iconst 0, 1) := by decide +kernel
theorem dX0_sideAgainst_47 : decode cX0_sideAgainst 47 = .ok (.istore 8, 2) := by decide +kernel
theorem dX0_sideAgainst_49 : decode cX0_sideAgainst 49 = .ok (.iconst 1, 1) := by decide +kernel
theorem dX0_sideAgainst_50 : decode cX0_sideAgainst 50 = .ok (.istore 9, 2) := by decide +kernel
theorem dX0_sideAgainst_52 : decode cX0_sideAgainst 52 = .ok (.iload 9, 2) := by decide +kernel
theorem dX0_sideAgainst_54 : decode cX0_sideAgainst 54 = .ok (.iload 7, 2) := by decide +kernel
theorem dX0_sideAgainst_56 : decode cX0_sideAgainst 56 = .ok (.if_icmp .ge 45, 3) := by decide +kernel
theorem dX0_sideAgainst_59 : decode cX0_sideAgainst 59 = .ok (.iload 4, 2) := by decide +kernel
theorem dX0_sideAgainst_61 : decode cX0_sideAgainst 61 = .ok (.iload 8, 2) := by decide +kernel
theorem dX0_sideAgainst_63 : decode cX0_sideAgainst 63 = .ok (.invokestatic 54, 3) := by decide +kernel
theorem dX0_sideAgainst_66 : decode cX0_sideAgainst 66 = .ok (.istore 8, 2) := by decide +kernel
theorem dX0_sideAgainst_68 : decode cX0_sideAgainst 68 = .ok (.aload_n 0, 1) := by decide +kernel
theorem dX0_sideAgainst_69 : decode cX0_sideAgainst 69 = .ok (.iload_n 3, 1) := by decide +kernel
theorem dX0_sideAgainst_70 : decode cX0_sideAgainst 70 = .ok (.iload 8, 2) := by decide +kernel
theorem dX0_sideAgainst_72 : decode cX0_sideAgainst 72 = .ok (.ior, 1) := by decide +kernel
theorem dX0_sideAgainst_73 : decode cX0_sideAgainst 73 = .ok (.invokevirtual 51, 3) := by decide +kernel
theorem dX0_sideAgainst_76 : decode cX0_sideAgainst 76 = .ok (.istore 10, 2) := by decide +kernel
theorem dX0_sideAgainst_78 : decode cX0_sideAgainst 78 = .ok (.iload 10, 2) := by decide +kernel
theorem dX0_sideAgainst_80 : decode cX0_sideAgainst 80 = .ok (.iload 6, 2) := by decide +kernel
theorem dX0_sideAgainst_82 : decode cX0_sideAgainst 82 = .ok (.if_icmp .ge 13, 3) := by decide +kernel
theorem dX0_sideAgainst_85 : decode cX0_sideAgainst 85 = .ok (.iload_n 3, 1) := by decide +kernel
theorem dX0_sideAgainst_86 : decode cX0_sideAgainst 86 = .ok (.iload 8, 2) := by decide +kernel
theorem dX0_sideAgainst_88 : decode cX0_sideAgainst 88 = .ok (.ior, 1) := by decide +kernel
theorem dX0_sideAgainst_89 : decode cX0_sideAgainst 89 = .ok (.istore 5, 2) := by decide +kernel
theorem dX0_sideAgainst_91 : decode cX0_sideAgainst 91 = .ok (.iload 10, 2) := by decide +kernel
theorem dX0_sideAgainst_93 : decode cX0_sideAgainst 93 = .ok (.istore 6, 2) := by decide +kernel
theorem dX0_sideAgainst_95 : decode cX0_sideAgainst 95 = .ok (.iinc 9 1, 3) := by decide +kernel
theorem dX0_sideAgainst_98 : decode cX0_sideAgainst 98 = .ok (.goto (-46), 3) := by decide +kernel
theorem dX0_sideAgainst_101 : decode cX0_sideAgainst 101 = .ok (.iload 5, 2) := by decide +kernel
theorem dX0_sideAgainst_103 : decode cX0_sideAgainst 103 = .ok (.ireturn, 1) := by decide +kernel
theorem dX0_leastCut_0 : decode cX0_leastCut 0 = .ok (.aload_n 0, 1) := by decide +kernel
theorem dX0_leastCut_1 : decode cX0_leastCut 1 = .ok (.iconst 2, 1) := by decide +kernel
theorem dX0_leastCut_2 : decode cX0_leastCut 2 = .ok (.invokevirtual 51, 3) := by decide +kernel
theorem dX0_leastCut_5 : decode cX0_leastCut 5 = .ok (.istore_n 1, 1) := by decide +kernel
theorem dX0_leastCut_6 : decode cX0_leastCut 6 = .ok (.iconst 4, 1) := by decide +kernel
theorem dX0_leastCut_7 : decode cX0_leastCut 7 = .ok (.istore_n 2, 1) := by decide +kernel
theorem dX0_leastCut_8 : decode cX0_leastCut 8 = .ok (.iload_n 2, 1) := by decide +kernel
theorem dX0_leastCut_9 : decode cX0_leastCut 9 = .ok (.aload_n 0, 1) := by decide +kernel
theorem dX0_leastCut_10 : decode cX0_leastCut 10 = .ok (.getfield 19, 3) := by decide +kernel
theorem dX0_leastCut_13 : decode cX0_leastCut 13 = .ok (.invokevirtual 43, 3) := by decide +kernel
theorem dX0_leastCut_16 : decode cX0_leastCut 16 = .ok (.if_icmp .gt 19, 3) := by decide +kernel
theorem dX0_leastCut_19 : decode cX0_leastCut 19 = .ok (.iload_n 1, 1) := by decide +kernel
theorem dX0_leastCut_20 : decode cX0_leastCut 20 = .ok (.aload_n 0, 1) := by decide +kernel
theorem dX0_leastCut_21 : decode cX0_leastCut 21 = .ok (.iload_n 2, 1) := by decide +kernel
theorem dX0_leastCut_22 : decode cX0_leastCut 22 = .ok (.invokevirtual 51, 3) := by decide +kernel
theorem dX0_leastCut_25 : decode cX0_leastCut 25 = .ok (.invokestatic 57, 3) := by decide +kernel
theorem dX0_leastCut_28 : decode cX0_leastCut 28 = .ok (.istore_n 1, 1) := by decide +kernel
theorem dX0_leastCut_29 : decode cX0_leastCut 29 = .ok (.iinc 2 2, 3) := by decide +kernel
theorem dX0_leastCut_32 : decode cX0_leastCut 32 = .ok (.goto (-24), 3) := by decide +kernel
theorem dX0_leastCut_35 : decode cX0_leastCut 35 = .ok (.iload_n 1, 1) := by decide +kernel
theorem dX0_leastCut_36 : decode cX0_leastCut 36 = .ok (.ireturn, 1) := by decide +kernel
theorem dX0_countLeastOnes_0 : decode cX0_countLeastOnes 0 = .ok (.aload_n 0, 1) := by decide +kernel
theorem dX0_countLeastOnes_1 : decode cX0_countLeastOnes 1 = .ok (.invokevirtual 62, 3) := by decide +kernel
theorem dX0_countLeastOnes_4 : decode cX0_countLeastOnes 4 = .ok (.istore_n 1, 1) := by decide +kernel
theorem dX0_countLeastOnes_5 : decode cX0_countLeastOnes 5 = .ok (.iconst 0, 1) := by decide +kernel
theorem dX0_countLeastOnes_6 : decode cX0_countLeastOnes 6 = .ok (.istore_n 2, 1) := by decide +kernel
theorem dX0_countLeastOnes_7 : decode cX0_countLeastOnes 7 = .ok (.iconst 2, 1) := by decide +kernel
theorem dX0_countLeastOnes_8 : decode cX0_countLeastOnes 8 = .ok (.istore_n 3, 1) := by decide +kernel
theorem dX0_countLeastOnes_9 : decode cX0_countLeastOnes 9 = .ok (.iload_n 3, 1) := by decide +kernel
theorem dX0_countLeastOnes_10 : decode cX0_countLeastOnes 10 = .ok (.aload_n 0, 1) := by decide +kernel
theorem dX0_countLeastOnes_11 : decode cX0_countLeastOnes 11 = .ok (.getfield 19, 3) := by decide +kernel
theorem dX0_countLeastOnes_14 : decode cX0_countLeastOnes 14 = .ok (.invokevirtual 43, 3) := by decide +kernel
theorem dX0_countLeastOnes_17 : decode cX0_countLeastOnes 17 = .ok (.if_icmp .gt 21, 3) := by decide +kernel
theorem dX0_countLeastOnes_20 : decode cX0_countLeastOnes 20 = .ok (.aload_n 0, 1) := by decide +kernel
theorem dX0_countLeastOnes_21 : decode cX0_countLeastOnes 21 = .ok (.iload_n 3, 1) := by decide +kernel
theorem dX0_countLeastOnes_22 : decode cX0_countLeastOnes 22 = .ok (.invokevirtual 51, 3) := by decide +kernel
theorem dX0_countLeastOnes_25 : decode cX0_countLeastOnes 25 = .ok (.iload_n 1, 1) := by decide +kernel
theorem dX0_countLeastOnes_26 : decode cX0_countLeastOnes 26 = .ok (.if_icmp .ne 6, 3) := by decide +kernel
theorem dX0_countLeastOnes_29 : decode cX0_countLeastOnes 29 = .ok (.iinc 2 1, 3) := by decide +kernel
theorem dX0_countLeastOnes_32 : decode cX0_countLeastOnes 32 = .ok (.iinc 3 2, 3) := by decide +kernel
theorem dX0_countLeastOnes_35 : decode cX0_countLeastOnes 35 = .ok (.goto (-26), 3) := by decide +kernel
theorem dX0_countLeastOnes_38 : decode cX0_countLeastOnes 38 = .ok (.iload_n 2, 1) := by decide +kernel
theorem dX0_countLeastOnes_39 : decode cX0_countLeastOnes 39 = .ok (.ireturn, 1) := by decide +kernel
theorem dX0_leastOne_0 : decode cX0_leastOne 0 = .ok (.aload_n 0, 1) := by decide +kernel
theorem dX0_leastOne_1 : decode cX0_leastOne 1 = .ok (.invokevirtual 62, 3) := by decide +kernel
theorem dX0_leastOne_4 : decode cX0_leastOne 4 = .ok (.istore_n 2, 1) := by decide +kernel
theorem dX0_leastOne_5 : decode cX0_leastOne 5 = .ok (.iconst 0, 1) := by decide +kernel
theorem dX0_leastOne_6 : decode cX0_leastOne 6 = .ok (.istore_n 3, 1) := by decide +kernel
theorem dX0_leastOne_7 : decode cX0_leastOne 7 = .ok (.iconst 2, 1) := by decide +kernel
theorem dX0_leastOne_8 : decode cX0_leastOne 8 = .ok (.istore 4, 2) := by decide +kernel
theorem dX0_leastOne_10 : decode cX0_leastOne 10 = .ok (.iload 4, 2) := by decide +kernel
theorem dX0_leastOne_12 : decode cX0_leastOne 12 = .ok (.aload_n 0, 1) := by decide +kernel
theorem dX0_leastOne_13 : decode cX0_leastOne 13 = .ok (.getfield 19, 3) := by decide +kernel
theorem dX0_leastOne_16 : decode cX0_leastOne 16 = .ok (.invokevirtual 43, 3) := by decide +kernel
theorem dX0_leastOne_19 : decode cX0_leastOne 19 = .ok (.if_icmp .gt 30, 3) := by decide +kernel
theorem dX0_leastOne_22 : decode cX0_leastOne 22 = .ok (.aload_n 0, 1) := by decide +kernel
theorem dX0_leastOne_23 : decode cX0_leastOne 23 = .ok (.iload 4, 2) := by decide +kernel
theorem dX0_leastOne_25 : decode cX0_leastOne 25 = .ok (.invokevirtual 51, 3) := by decide +kernel
theorem dX0_leastOne_28 : decode cX0_leastOne 28 = .ok (.iload_n 2, 1) := by decide +kernel
theorem dX0_leastOne_29 : decode cX0_leastOne 29 = .ok (.if_icmp .ne 14, 3) := by decide +kernel
theorem dX0_leastOne_32 : decode cX0_leastOne 32 = .ok (.iload_n 3, 1) := by decide +kernel
theorem dX0_leastOne_33 : decode cX0_leastOne 33 = .ok (.iload_n 1, 1) := by decide +kernel
theorem dX0_leastOne_34 : decode cX0_leastOne 34 = .ok (.if_icmp .ne 6, 3) := by decide +kernel
theorem dX0_leastOne_37 : decode cX0_leastOne 37 = .ok (.iload 4, 2) := by decide +kernel
theorem dX0_leastOne_39 : decode cX0_leastOne 39 = .ok (.ireturn, 1) := by decide +kernel
theorem dX0_leastOne_40 : decode cX0_leastOne 40 = .ok (.iinc 3 1, 3) := by decide +kernel
theorem dX0_leastOne_43 : decode cX0_leastOne 43 = .ok (.iinc 4 2, 3) := by decide +kernel
theorem dX0_leastOne_46 : decode cX0_leastOne 46 = .ok (.goto (-36), 3) := by decide +kernel
theorem dX0_leastOne_49 : decode cX0_leastOne 49 = .ok (.iconst (-1), 1) := by decide +kernel
theorem dX0_leastOne_50 : decode cX0_leastOne 50 = .ok (.ireturn, 1) := by decide +kernel
theorem dX0_sparsestSide_0 : decode cX0_sparsestSide 0 = .ok (.iconst 2, 1) := by decide +kernel
theorem dX0_sparsestSide_1 : decode cX0_sparsestSide 1 = .ok (.istore_n 1, 1) := by decide +kernel
theorem dX0_sparsestSide_2 : decode cX0_sparsestSide 2 = .ok (.aload_n 0, 1) := by decide +kernel
theorem dX0_sparsestSide_3 : decode cX0_sparsestSide 3 = .ok (.iconst 2, 1) := by decide +kernel
theorem dX0_sparsestSide_4 : decode cX0_sparsestSide 4 = .ok (.invokevirtual 51, 3) := by decide +kernel
theorem dX0_sparsestSide_7 : decode cX0_sparsestSide 7 = .ok (.istore_n 2, 1) := by decide +kernel
theorem dX0_sparsestSide_8 : decode cX0_sparsestSide 8 = .ok (.aload_n 0, 1) := by decide +kernel
theorem dX0_sparsestSide_9 : decode cX0_sparsestSide 9 = .ok (.getfield 19, 3) := by decide +kernel
theorem dX0_sparsestSide_12 : decode cX0_sparsestSide 12 = .ok (.iconst 2, 1) := by decide +kernel
theorem dX0_sparsestSide_13 : decode cX0_sparsestSide 13 = .ok (.invokevirtual 65, 3) := by decide +kernel
theorem dX0_sparsestSide_16 : decode cX0_sparsestSide 16 = .ok (.istore_n 3, 1) := by decide +kernel
theorem dX0_sparsestSide_17 : decode cX0_sparsestSide 17 = .ok (.iconst 4, 1) := by decide +kernel
theorem dX0_sparsestSide_18 : decode cX0_sparsestSide 18 = .ok (.istore 4, 2) := by decide +kernel
theorem dX0_sparsestSide_20 : decode cX0_sparsestSide 20 = .ok (.iload 4, 2) := by decide +kernel
theorem dX0_sparsestSide_22 : decode cX0_sparsestSide 22 = .ok (.aload_n 0, 1) := by decide +kernel
theorem dX0_sparsestSide_23 : decode cX0_sparsestSide 23 = .ok (.getfield 19, 3) := by decide +kernel
theorem dX0_sparsestSide_26 : decode cX0_sparsestSide 26 = .ok (.invokevirtual 43, 3) := by decide +kernel
theorem dX0_sparsestSide_29 : decode cX0_sparsestSide 29 = .ok (.if_icmp .gt 48, 3) := by decide +kernel
theorem dX0_sparsestSide_32 : decode cX0_sparsestSide 32 = .ok (.aload_n 0, 1) := by decide +kernel
theorem dX0_sparsestSide_33 : decode cX0_sparsestSide 33 = .ok (.iload 4, 2) := by decide +kernel
theorem dX0_sparsestSide_35 : decode cX0_sparsestSide 35 = .ok (.invokevirtual 51, 3) := by decide +kernel
theorem dX0_sparsestSide_38 : decode cX0_sparsestSide 38 = .ok (.istore 5, 2) := by decide +kernel
theorem dX0_sparsestSide_40 : decode cX0_sparsestSide 40 = .ok (.aload_n 0, 1) := by decide +kernel
theorem dX0_sparsestSide_41 : decode cX0_sparsestSide 41 = .ok (.getfield 19, 3) := by decide +kernel
theorem dX0_sparsestSide_44 : decode cX0_sparsestSide 44 = .ok (.iload 4, 2) := by decide +kernel
theorem dX0_sparsestSide_46 : decode cX0_sparsestSide 46 = .ok (.invokevirtual 65, 3) := by decide +kernel
theorem dX0_sparsestSide_49 : decode cX0_sparsestSide 49 = .ok (.istore 6, 2) := by decide +kernel
theorem dX0_sparsestSide_51 : decode cX0_sparsestSide 51 = .ok (.iload 5, 2) := by decide +kernel
theorem dX0_sparsestSide_53 : decode cX0_sparsestSide 53 = .ok (.iload_n 3, 1) := by decide +kernel
theorem dX0_sparsestSide_54 : decode cX0_sparsestSide 54 = .ok (.imul, 1) := by decide +kernel
theorem dX0_sparsestSide_55 : decode cX0_sparsestSide 55 = .ok (.iload_n 2, 1) := by decide +kernel
theorem dX0_sparsestSide_56 : decode cX0_sparsestSide 56 = .ok (.iload 6, 2) := by decide +kernel
theorem dX0_sparsestSide_58 : decode cX0_sparsestSide 58 = .ok (.imul, 1) := by decide +kernel
theorem dX0_sparsestSide_59 : decode cX0_sparsestSide 59 = .ok (.if_icmp .ge 12, 3) := by decide +kernel
theorem dX0_sparsestSide_62 : decode cX0_sparsestSide 62 = .ok (.iload 4, 2) := by decide +kernel
theorem dX0_sparsestSide_64 : decode cX0_sparsestSide 64 = .ok (.istore_n 1, 1) := by decide +kernel
theorem dX0_sparsestSide_65 : decode cX0_sparsestSide 65 = .ok (.iload 5, 2) := by decide +kernel
theorem dX0_sparsestSide_67 : decode cX0_sparsestSide 67 = .ok (.istore_n 2, 1) := by decide +kernel
theorem dX0_sparsestSide_68 : decode cX0_sparsestSide 68 = .ok (.iload 6, 2) := by decide +kernel
theorem dX0_sparsestSide_70 : decode cX0_sparsestSide 70 = .ok (.istore_n 3, 1) := by decide +kernel
theorem dX0_sparsestSide_71 : decode cX0_sparsestSide 71 = .ok (.iinc 4 2, 3) := by decide +kernel
theorem dX0_sparsestSide_74 : decode cX0_sparsestSide 74 = .ok (.goto (-54), 3) := by decide +kernel
theorem dX0_sparsestSide_77 : decode cX0_sparsestSide 77 = .ok (.iload_n 1, 1) := by decide +kernel
theorem dX0_sparsestSide_78 : decode cX0_sparsestSide 78 = .ok (.ireturn, 1) := by decide +kernel
theorem dX1_init_0 : decode cX1_init 0 = .ok (.aload_n 0, 1) := by decide +kernel
theorem dX1_init_1 : decode cX1_init 1 = .ok (.invokespecial 3, 3) := by decide +kernel
theorem dX1_init_4 : decode cX1_init 4 = .ok (.aload_n 0, 1) := by decide +kernel
theorem dX1_init_5 : decode cX1_init 5 = .ok (.bipush 12, 2) := by decide +kernel
theorem dX1_init_7 : decode cX1_init 7 = .ok (.newarray .int, 2) := by decide +kernel
theorem dX1_init_9 : decode cX1_init 9 = .ok (.putfield 9, 3) := by decide +kernel
theorem dX1_init_12 : decode cX1_init 12 = .ok (.aload_n 0, 1) := by decide +kernel
theorem dX1_init_13 : decode cX1_init 13 = .ok (.aload_n 1, 1) := by decide +kernel
theorem dX1_init_14 : decode cX1_init 14 = .ok (.putfield 15, 3) := by decide +kernel
theorem dX1_init_17 : decode cX1_init 17 = .ok (.return_, 1) := by decide +kernel
theorem dX1_drawBy_0 : decode cX1_drawBy 0 = .ok (.iconst 0, 1) := by decide +kernel
theorem dX1_drawBy_1 : decode cX1_drawBy 1 = .ok (.istore_n 2, 1) := by decide +kernel
theorem dX1_drawBy_2 : decode cX1_drawBy 2 = .ok (.iload_n 2, 1) := by decide +kernel
theorem dX1_drawBy_3 : decode cX1_drawBy 3 = .ok (.aload_n 0, 1) := by decide +kernel
theorem dX1_drawBy_4 : decode cX1_drawBy 4 = .ok (.getfield 15, 3) := by decide +kernel
theorem dX1_drawBy_7 : decode cX1_drawBy 7 = .ok (.getfield 19, 3) := by decide +kernel
theorem dX1_drawBy_10 : decode cX1_drawBy 10 = .ok (.if_icmp .ge 18, 3) := by decide +kernel
theorem dX1_drawBy_13 : decode cX1_drawBy 13 = .ok (.aload_n 0, 1) := by decide +kernel
theorem dX1_drawBy_14 : decode cX1_drawBy 14 = .ok (.getfield 9, 3) := by decide +kernel
theorem dX1_drawBy_17 : decode cX1_drawBy 17 = .ok (.iload_n 2, 1) := by decide +kernel
theorem dX1_drawBy_18 : decode cX1_drawBy 18 = .ok (.iconst 1, 1) := by decide +kernel
theorem dX1_drawBy_19 : decode cX1_drawBy 19 = .ok (.iload_n 2, 1) := by decide +kernel
theorem dX1_drawBy_20 : decode cX1_drawBy 20 = .ok (.ishl, 1) := by decide +kernel
theorem dX1_drawBy_21 : decode cX1_drawBy 21 = .ok (.iastore, 1) := by decide +kernel
theorem dX1_drawBy_22 : decode cX1_drawBy 22 = .ok (.iinc 2 1, 3) := by decide +kernel
theorem dX1_drawBy_25 : decode cX1_drawBy 25 = .ok (.goto (-23), 3) := by decide +kernel
theorem dX1_drawBy_28 : decode cX1_drawBy 28 = .ok (.iload_n 1, 1) := by decide +kernel
theorem dX1_drawBy_29 : decode cX1_drawBy 29 = .ok (.istore_n 2, 1) := by decide +kernel
theorem dX1_drawBy_30 : decode cX1_drawBy 30 = .ok (.aload_n 0, 1) := by decide +kernel
theorem dX1_drawBy_31 : decode cX1_drawBy 31 = .ok (.getfield 15, 3) := by decide +kernel
theorem dX1_drawBy_34 : decode cX1_drawBy 34 = .ok (.getfield 19, 3) := by decide +kernel
theorem dX1_drawBy_37 : decode cX1_drawBy 37 = .ok (.istore_n 3, 1) := by decide +kernel
theorem dX1_drawBy_38 : decode cX1_drawBy 38 = .ok (.iload_n 3, 1) := by decide +kernel
theorem dX1_drawBy_39 : decode cX1_drawBy 39 = .ok (.iconst 2, 1) := by decide +kernel
theorem dX1_drawBy_40 : decode cX1_drawBy 40 = .ok (.if_icmp .le 42, 3) := by decide +kernel
theorem dX1_drawBy_43 : decode cX1_drawBy 43 = .ok (.aload_n 0, 1) := by decide +kernel
theorem dX1_drawBy_44 : decode cX1_drawBy 44 = .ok (.invokevirtual 25, 3) := by decide +kernel
theorem dX1_drawBy_47 : decode cX1_drawBy 47 = .ok (.istore 4, 2) := by decide +kernel
theorem dX1_drawBy_49 : decode cX1_drawBy 49 = .ok (.iload 4, 2) := by decide +kernel
theorem dX1_drawBy_51 : decode cX1_drawBy 51 = .ok (.iconst 1, 1) := by decide +kernel
theorem dX1_drawBy_52 : decode cX1_drawBy 52 = .ok (.if_icmp .ge 6, 3) := by decide +kernel
theorem dX1_drawBy_55 : decode cX1_drawBy 55 = .ok (.goto 27, 3) := by decide +kernel
theorem dX1_drawBy_58 : decode cX1_drawBy 58 = .ok (.iload_n 2, 1) := by decide +kernel
theorem dX1_drawBy_59 : decode cX1_drawBy 59 = .ok (.ldc 29, 2) := by decide +kernel
theorem dX1_drawBy_61 : decode cX1_drawBy 61 = .ok (.imul, 1) := by decide +kernel
theorem dX1_drawBy_62 : decode cX1_drawBy 62 = .ok (.ldc 30, 2) := by decide +kernel
theorem dX1_drawBy_64 : decode cX1_drawBy 64 = .ok (.iadd, 1) := by decide +kernel
theorem dX1_drawBy_65 : decode cX1_drawBy 65 = .ok (.istore_n 2, 1) := by decide +kernel
theorem dX1_drawBy_66 : decode cX1_drawBy 66 = .ok (.aload_n 0, 1) := by decide +kernel
theorem dX1_drawBy_67 : decode cX1_drawBy 67 = .ok (.iload_n 2, 1) := by decide +kernel
theorem dX1_drawBy_68 : decode cX1_drawBy 68 = .ok (.iconst 1, 1) := by decide +kernel
theorem dX1_drawBy_69 : decode cX1_drawBy 69 = .ok (.iushr, 1) := by decide +kernel
theorem dX1_drawBy_70 : decode cX1_drawBy 70 = .ok (.iload 4, 2) := by decide +kernel
theorem dX1_drawBy_72 : decode cX1_drawBy 72 = .ok (.irem, 1) := by decide +kernel
theorem dX1_drawBy_73 : decode cX1_drawBy 73 = .ok (.invokevirtual 31, 3) := by decide +kernel
theorem dX1_drawBy_76 : decode cX1_drawBy 76 = .ok (.iinc 3 (-1), 3) := by decide +kernel
theorem dX1_drawBy_79 : decode cX1_drawBy 79 = .ok (.goto (-41), 3) := by decide +kernel
theorem dX1_drawBy_82 : decode cX1_drawBy 82 = .ok (.aload_n 0, 1) := by decide +kernel
theorem dX1_drawBy_83 : decode cX1_drawBy 83 = .ok (.getfield 9, 3) := by decide +kernel
theorem dX1_drawBy_86 : decode cX1_drawBy 86 = .ok (.iconst 0, 1) := by decide +kernel
theorem dX1_drawBy_87 : decode cX1_drawBy 87 = .ok (.iaload, 1) := by decide +kernel
theorem dX1_drawBy_88 : decode cX1_drawBy 88 = .ok (.ireturn, 1) := by decide +kernel
theorem dX1_isBetweenGroups_0 : decode cX1_isBetweenGroups 0 = .ok (.aload_n 0, 1) := by decide +kernel
theorem dX1_isBetweenGroups_1 : decode cX1_isBetweenGroups 1 = .ok (.getfield 9, 3) := by decide +kernel
theorem dX1_isBetweenGroups_4 : decode cX1_isBetweenGroups 4 = .ok (.aload_n 0, 1) := by decide +kernel
theorem dX1_isBetweenGroups_5 : decode cX1_isBetweenGroups 5 = .ok (.getfield 15, 3) := by decide +kernel
theorem dX1_isBetweenGroups_8 : decode cX1_isBetweenGroups 8 = .ok (.getfield 35, 3) := by decide +kernel
theorem dX1_isBetweenGroups_11 : decode cX1_isBetweenGroups 11 = .ok (.iload_n 1, 1) := by decide +kernel
theorem dX1_isBetweenGroups_12 : decode cX1_isBetweenGroups 12 = .ok (.iaload, 1) := by decide +kernel
theorem dX1_isBetweenGroups_13 : decode cX1_isBetweenGroups 13 = .ok (.iaload, 1) := by decide +kernel
theorem dX1_isBetweenGroups_14 : decode cX1_isBetweenGroups 14 = .ok (.aload_n 0, 1) := by decide +kernel
theorem dX1_isBetweenGroups_15 : decode cX1_isBetweenGroups 15 = .ok (.getfield 9, 3) := by decide +kernel
theorem dX1_isBetweenGroups_18 : decode cX1_isBetweenGroups 18 = .ok (.aload_n 0, 1) := by decide +kernel
theorem dX1_isBetweenGroups_19 : decode cX1_isBetweenGroups 19 = .ok (.getfield 15, 3) := by decide +kernel
theorem dX1_isBetweenGroups_22 : decode cX1_isBetweenGroups 22 = .ok (.getfield 38, 3) := by decide +kernel
theorem dX1_isBetweenGroups_25 : decode cX1_isBetweenGroups 25 = .ok (.iload_n 1, 1) := by decide +kernel
theorem dX1_isBetweenGroups_26 : decode cX1_isBetweenGroups 26 = .ok (.iaload, 1) := by decide +kernel
theorem dX1_isBetweenGroups_27 : decode cX1_isBetweenGroups 27 = .ok (.iaload, 1) := by decide +kernel
theorem dX1_isBetweenGroups_28 : decode cX1_isBetweenGroups 28 = .ok (.if_icmp .eq 7, 3) := by decide +kernel
theorem dX1_isBetweenGroups_31 : decode cX1_isBetweenGroups 31 = .ok (.iconst 1, 1) := by decide +kernel
theorem dX1_isBetweenGroups_32 : decode cX1_isBetweenGroups 32 = .ok (.goto 4, 3) := by decide +kernel
theorem dX1_isBetweenGroups_35 : decode cX1_isBetweenGroups 35 = .ok (.iconst 0, 1) := by decide +kernel
theorem dX1_isBetweenGroups_36 : decode cX1_isBetweenGroups 36 = .ok (.ireturn, 1) := by decide +kernel
theorem dX1_weightBetweenGroups_0 : decode cX1_weightBetweenGroups 0 = .ok (.iconst 0, 1) := by decide +kernel
theorem dX1_weightBetweenGroups_1 : decode cX1_weightBetweenGroups 1 = .ok (.istore_n 1, 1) := by decide +kernel
theorem dX1_weightBetweenGroups_2 : decode cX1_weightBetweenGroups 2 = .ok (.iconst 0, 1) := by decide +kernel
theorem dX1_weightBetweenGroups_3 : decode cX1_weightBetweenGroups 3 = .ok (.istore_n 2, 1) := by decide +kernel
theorem dX1_weightBetweenGroups_4 : decode cX1_weightBetweenGroups 4 = .ok (.iload_n 2, 1) := by decide +kernel
theorem dX1_weightBetweenGroups_5 : decode cX1_weightBetweenGroups 5 = .ok (.aload_n 0, 1) := by decide +kernel
theorem dX1_weightBetweenGroups_6 : decode cX1_weightBetweenGroups 6 = .ok (.getfield 15, 3) := by decide +kernel
theorem dX1_weightBetweenGroups_9 : decode cX1_weightBetweenGroups 9 = .ok (.getfield 41, 3) := by decide +kernel
theorem dX1_weightBetweenGroups_12 : decode cX1_weightBetweenGroups 12 = .ok (.if_icmp .ge 29, 3) := by decide +kernel
theorem dX1_weightBetweenGroups_15 : decode cX1_weightBetweenGroups 15 = .ok (.aload_n 0, 1) := by decide +kernel
theorem dX1_weightBetweenGroups_16 : decode cX1_weightBetweenGroups 16 = .ok (.iload_n 2, 1) := by decide +kernel
theorem dX1_weightBetweenGroups_17 : decode cX1_weightBetweenGroups 17 = .ok (.invokevirtual 44, 3) := by decide +kernel
theorem dX1_weightBetweenGroups_20 : decode cX1_weightBetweenGroups 20 = .ok (.ifCond .eq 15, 3) := by decide +kernel
theorem dX1_weightBetweenGroups_23 : decode cX1_weightBetweenGroups 23 = .ok (.iload_n 1, 1) := by decide +kernel
theorem dX1_weightBetweenGroups_24 : decode cX1_weightBetweenGroups 24 = .ok (.aload_n 0, 1) := by decide +kernel
theorem dX1_weightBetweenGroups_25 : decode cX1_weightBetweenGroups 25 = .ok (.getfield 15, 3) := by decide +kernel
theorem dX1_weightBetweenGroups_28 : decode cX1_weightBetweenGroups 28 = .ok (.getfield 48, 3) := by decide +kernel
theorem dX1_weightBetweenGroups_31 : decode cX1_weightBetweenGroups 31 = .ok (.iload_n 2, 1) := by decide +kernel
theorem dX1_weightBetweenGroups_32 : decode cX1_weightBetweenGroups 32 = .ok (.iaload, 1) := by decide +kernel
theorem dX1_weightBetweenGroups_33 : decode cX1_weightBetweenGroups 33 = .ok (.iadd, 1) := by decide +kernel
theorem dX1_weightBetweenGroups_34 : decode cX1_weightBetweenGroups 34 = .ok (.istore_n 1, 1) := by decide +kernel
theorem dX1_weightBetweenGroups_35 : decode cX1_weightBetweenGroups 35 = .ok (.iinc 2 1, 3) := by decide +kernel
theorem dX1_weightBetweenGroups_38 : decode cX1_weightBetweenGroups 38 = .ok (.goto (-34), 3) := by decide +kernel
theorem dX1_weightBetweenGroups_41 : decode cX1_weightBetweenGroups 41 = .ok (.iload_n 1, 1) := by decide +kernel
theorem dX1_weightBetweenGroups_42 : decode cX1_weightBetweenGroups 42 = .ok (.ireturn, 1) := by decide +kernel
theorem dX1_joinByArcAt_0 : decode cX1_joinByArcAt 0 = .ok (.iconst 0, 1) := by decide +kernel
theorem dX1_joinByArcAt_1 : decode cX1_joinByArcAt 1 = .ok (.istore_n 2, 1) := by decide +kernel
theorem dX1_joinByArcAt_2 : decode cX1_joinByArcAt 2 = .ok (.iconst 0, 1) := by decide +kernel
theorem dX1_joinByArcAt_3 : decode cX1_joinByArcAt 3 = .ok (.istore_n 3, 1) := by decide +kernel
theorem dX1_joinByArcAt_4 : decode cX1_joinByArcAt 4 = .ok (.iload_n 3, 1) := by decide +kernel
theorem dX1_joinByArcAt_5 : decode cX1_joinByArcAt 5 = .ok (.aload_n 0, 1) := by decide +kernel
theorem dX1_joinByArcAt_6 : decode cX1_joinByArcAt 6 = .ok (.getfield 15, 3) := by decide +kernel
theorem dX1_joinByArcAt_9 : decode cX1_joinByArcAt 9 = .ok (.getfield 41, 3) := by decide +kernel
theorem dX1_joinByArcAt_12 : decode cX1_joinByArcAt 12 = .ok (.if_icmp .ge 68, 3) := by decide +kernel
theorem dX1_joinByArcAt_15 : decode cX1_joinByArcAt 15 = .ok (.aload_n 0, 1) := by decide +kernel
theorem dX1_joinByArcAt_16 : decode cX1_joinByArcAt 16 = .ok (.iload_n 3, 1) := by decide +kernel
theorem dX1_joinByArcAt_17 : decode cX1_joinByArcAt 17 = .ok (.invokevirtual 44, 3) := by decide +kernel
theorem dX1_joinByArcAt_20 : decode cX1_joinByArcAt 20 = .ok (.ifCond .eq 54, 3) := by decide +kernel
theorem dX1_joinByArcAt_23 : decode cX1_joinByArcAt 23 = .ok (.iload_n 2, 1) := by decide +kernel
theorem dX1_joinByArcAt_24 : decode cX1_joinByArcAt 24 = .ok (.aload_n 0, 1) := by decide +kernel
theorem dX1_joinByArcAt_25 : decode cX1_joinByArcAt 25 = .ok (.getfield 15, 3) := by decide +kernel
theorem dX1_joinByArcAt_28 : decode cX1_joinByArcAt 28 = .ok (.getfield 48, 3) := by decide +kernel
theorem dX1_joinByArcAt_31 : decode cX1_joinByArcAt 31 = .ok (.iload_n 3, 1) := by decide +kernel
theorem dX1_joinByArcAt_32 : decode cX1_joinByArcAt 32 = .ok (.iaload, 1) := by decide +kernel
theorem dX1_joinByArcAt_33 : decode cX1_joinByArcAt 33 = .ok (.iadd, 1) := by decide +kernel
theorem dX1_joinByArcAt_34 : decode cX1_joinByArcAt 34 = .ok (.istore_n 2, 1) := by decide +kernel
theorem dX1_joinByArcAt_35 : decode cX1_joinByArcAt 35 = .ok (.iload_n 2, 1) := by decide +kernel
theorem dX1_joinByArcAt_36 : decode cX1_joinByArcAt 36 = .ok (.iload_n 1, 1) := by decide +kernel
theorem dX1_joinByArcAt_37 : decode cX1_joinByArcAt 37 = .ok (.if_icmp .le 37, 3) := by decide +kernel
theorem dX1_joinByArcAt_40 : decode cX1_joinByArcAt 40 = .ok (.aload_n 0, 1) := by decide +kernel
theorem dX1_joinByArcAt_41 : decode cX1_joinByArcAt 41 = .ok (.aload_n 0, 1) := by decide +kernel
theorem dX1_joinByArcAt_42 : decode cX1_joinByArcAt 42 = .ok (.getfield 9, 3) := by decide +kernel
theorem dX1_joinByArcAt_45 : decode cX1_joinByArcAt 45 = .ok (.aload_n 0, 1) := by decide +kernel
theorem dX1_joinByArcAt_46 : decode cX1_joinByArcAt 46 = .ok (.getfield 15, 3) := by decide +kernel
theorem dX1_joinByArcAt_49 : decode cX1_joinByArcAt 49 = .ok (.getfield 35, 3) := by decide +kernel
theorem dX1_joinByArcAt_52 : decode cX1_joinByArcAt 52 = .ok (.iload_n 3, 1) := by decide +kernel
theorem dX1_joinByArcAt_53 : decode cX1_joinByArcAt 53 = .ok (.iaload, 1) := by decide +kernel
theorem dX1_joinByArcAt_54 : decode cX1_joinByArcAt 54 = .ok (.iaload, 1) := by decide +kernel
theorem dX1_joinByArcAt_55 : decode cX1_joinByArcAt 55 = .ok (.aload_n 0, 1) := by decide +kernel
theorem dX1_joinByArcAt_56 : decode cX1_joinByArcAt 56 = .ok (.getfield 9, 3) := by decide +kernel
theorem dX1_joinByArcAt_59 : decode cX1_joinByArcAt 59 = .ok (.aload_n 0, 1) := by decide +kernel
theorem dX1_joinByArcAt_60 : decode cX1_joinByArcAt 60 = .ok (.getfield 15, 3) := by decide +kernel
theorem dX1_joinByArcAt_63 : decode cX1_joinByArcAt 63 = .ok (.getfield 38, 3) := by decide +kernel
theorem dX1_joinByArcAt_66 : decode cX1_joinByArcAt 66 = .ok (.iload_n 3, 1) := by decide +kernel
theorem dX1_joinByArcAt_67 : decode cX1_joinByArcAt 67 = .ok (.iaload, 1) := by decide +kernel
theorem dX1_joinByArcAt_68 : decode cX1_joinByArcAt 68 = .ok (.iaload, 1) := by decide +kernel
theorem dX1_joinByArcAt_69 : decode cX1_joinByArcAt 69 = .ok (.ior, 1) := by decide +kernel
theorem dX1_joinByArcAt_70 : decode cX1_joinByArcAt 70 = .ok (.invokevirtual 51, 3) := by decide +kernel
theorem dX1_joinByArcAt_73 : decode cX1_joinByArcAt 73 = .ok (.return_, 1) := by decide +kernel
theorem dX1_joinByArcAt_74 : decode cX1_joinByArcAt 74 = .ok (.iinc 3 1, 3) := by decide +kernel
theorem dX1_joinByArcAt_77 : decode cX1_joinByArcAt 77 = .ok (.goto (-73), 3) := by decide +kernel
theorem dX1_joinByArcAt_80 : decode cX1_joinByArcAt 80 = .ok (.return_, 1) := by decide +kernel
theorem dX1_joinGroups_0 : decode cX1_joinGroups 0 = .ok (.iconst 0, 1) := by decide +kernel
theorem dX1_joinGroups_1 : decode cX1_joinGroups 1 = .ok (.istore_n 2, 1) := by decide +kernel
theorem dX1_joinGroups_2 : decode cX1_joinGroups 2 = .ok (.iload_n 2, 1) := by decide +kernel
theorem dX1_joinGroups_3 : decode cX1_joinGroups 3 = .ok (.aload_n 0, 1) := by decide +kernel
theorem dX1_joinGroups_4 : decode cX1_joinGroups 4 = .ok (.getfield 15, 3) := by decide +kernel
theorem dX1_joinGroups_7 : decode cX1_joinGroups 7 = .ok (.getfield 19, 3) := by decide +kernel
theorem dX1_joinGroups_10 : decode cX1_joinGroups 10 = .ok (.if_icmp .ge 25, 3) := by decide +kernel
theorem dX1_joinGroups_13 : decode cX1_joinGroups 13 = .ok (.iload_n 1, 1) := by decide +kernel
theorem dX1_joinGroups_14 : decode cX1_joinGroups 14 = .ok (.iload_n 2, 1) := by decide +kernel
theorem dX1_joinGroups_15 : decode cX1_joinGroups 15 = .ok (.ishr, 1) := by decide +kernel
theorem dX1_joinGroups_16 : decode cX1_joinGroups 16 = .ok (.iconst 1, 1) := by decide +kernel
theorem dX1_joinGroups_17 : decode cX1_joinGroups 17 = .ok (.iand, 1) := by decide +kernel
theorem dX1_joinGroups_18 : decode cX1_joinGroups 18 = .ok (.iconst 1, 1) := by decide +kernel
theorem dX1_joinGroups_19 : decode cX1_joinGroups 19 = .ok (.if_icmp .ne 10, 3) := by decide +kernel
theorem dX1_joinGroups_22 : decode cX1_joinGroups 22 = .ok (.aload_n 0, 1) := by decide +kernel
theorem dX1_joinGroups_23 : decode cX1_joinGroups 23 = .ok (.getfield 9, 3) := by decide +kernel
theorem dX1_joinGroups_26 : decode cX1_joinGroups 26 = .ok (.iload_n 2, 1) := by decide +kernel
theorem dX1_joinGroups_27 : decode cX1_joinGroups 27 = .ok (.iload_n 1, 1) := by decide +kernel
theorem dX1_joinGroups_28 : decode cX1_joinGroups 28 = .ok (.iastore, 1) := by decide +kernel
theorem dX1_joinGroups_29 : decode cX1_joinGroups 29 = .ok (.iinc 2 1, 3) := by decide +kernel
theorem dX1_joinGroups_32 : decode cX1_joinGroups 32 = .ok (.goto (-30), 3) := by decide +kernel
theorem dX1_joinGroups_35 : decode cX1_joinGroups 35 = .ok (.return_, 1) := by decide +kernel
theorem dX3_init_0 : decode cX3_init 0 = .ok (.aload_n 0, 1) := by decide +kernel
theorem dX3_init_1 : decode cX3_init 1 = .ok (.invokespecial 3, 3) := by decide +kernel
theorem dX3_init_4 : decode cX3_init 4 = .ok (.aload_n 0, 1) := by decide +kernel
theorem dX3_init_5 : decode cX3_init 5 = .ok (.bipush 12, 2) := by decide +kernel
theorem dX3_init_7 : decode cX3_init 7 = .ok (.newarray .int, 2) := by decide +kernel
theorem dX3_init_9 : decode cX3_init 9 = .ok (.putfield 9, 3) := by decide +kernel
theorem dX3_init_12 : decode cX3_init 12 = .ok (.aload_n 0, 1) := by decide +kernel
theorem dX3_init_13 : decode cX3_init 13 = .ok (.bipush 12, 2) := by decide +kernel
theorem dX3_init_15 : decode cX3_init 15 = .ok (.newarray .int, 2) := by decide +kernel
theorem dX3_init_17 : decode cX3_init 17 = .ok (.putfield 15, 3) := by decide +kernel
theorem dX3_init_20 : decode cX3_init 20 = .ok (.aload_n 0, 1) := by decide +kernel
theorem dX3_init_21 : decode cX3_init 21 = .ok (.iconst (-1), 1) := by decide +kernel
theorem dX3_init_22 : decode cX3_init 22 = .ok (.putfield 18, 3) := by decide +kernel
theorem dX3_init_25 : decode cX3_init 25 = .ok (.aload_n 0, 1) := by decide +kernel
theorem dX3_init_26 : decode cX3_init 26 = .ok (.aload_n 1, 1) := by decide +kernel
theorem dX3_init_27 : decode cX3_init 27 = .ok (.putfield 22, 3) := by decide +kernel
theorem dX3_init_30 : decode cX3_init 30 = .ok (.aload_n 0, 1) := by decide +kernel
theorem dX3_init_31 : decode cX3_init 31 = .ok (.aload_n 2, 1) := by decide +kernel
theorem dX3_init_32 : decode cX3_init 32 = .ok (.putfield 26, 3) := by decide +kernel
theorem dX3_init_35 : decode cX3_init 35 = .ok (.return_, 1) := by decide +kernel
theorem dX3_refresh_0 : decode cX3_refresh 0 = .ok (.aload_n 0, 1) := by decide +kernel
theorem dX3_refresh_1 : decode cX3_refresh 1 = .ok (.getfield 18, 3) := by decide +kernel
theorem dX3_refresh_4 : decode cX3_refresh 4 = .ok (.aload_n 0, 1) := by decide +kernel
theorem dX3_refresh_5 : decode cX3_refresh 5 = .ok (.getfield 22, 3) := by decide +kernel
theorem dX3_refresh_8 : decode cX3_refresh 8 = .ok (.getfield 30, 3) := by decide +kernel
theorem dX3_refresh_11 : decode cX3_refresh 11 = .ok (.if_icmp .ne 4, 3) := by decide +kernel
theorem dX3_refresh_14 : decode cX3_refresh 14 = .ok (.return_, 1) := by decide +kernel
theorem dX3_refresh_15 : decode cX3_refresh 15 = .ok (.aload_n 0, 1) := by decide +kernel
theorem dX3_refresh_16 : decode cX3_refresh 16 = .ok (.aload_n 0, 1) := by decide +kernel
theorem dX3_refresh_17 : decode cX3_refresh 17 = .ok (.getfield 22, 3) := by decide +kernel
theorem dX3_refresh_20 : decode cX3_refresh 20 = .ok (.getfield 30, 3) := by decide +kernel
theorem dX3_refresh_23 : decode cX3_refresh 23 = .ok (.putfield 18, 3) := by decide +kernel
theorem dX3_refresh_26 : decode cX3_refresh 26 = .ok (.iconst 0, 1) := by decide +kernel
theorem dX3_refresh_27 : decode cX3_refresh 27 = .ok (.istore_n 1, 1) := by decide +kernel
theorem dX3_refresh_28 : decode cX3_refresh 28 = .ok (.iload_n 1, 1) := by decide +kernel
theorem dX3_refresh_29 : decode cX3_refresh 29 = .ok (.aload_n 0, 1) := by decide +kernel
theorem dX3_refresh_30 : decode cX3_refresh 30 = .ok (.getfield 22, 3) := by decide +kernel
theorem dX3_refresh_33 : decode cX3_refresh 33 = .ok (.getfield 35, 3) := by decide +kernel
theorem dX3_refresh_36 : decode cX3_refresh 36 = .ok (.if_icmp .ge 16, 3) := by decide +kernel
theorem dX3_refresh_39 : decode cX3_refresh 39 = .ok (.aload_n 0, 1) := by decide +kernel
theorem dX3_refresh_40 : decode cX3_refresh 40 = .ok (.getfield 9, 3) := by decide +kernel
theorem dX3_refresh_43 : decode cX3_refresh 43 = .ok (.iload_n 1, 1) := by decide +kernel
theorem dX3_refresh_44 : decode cX3_refresh 44 = .ok (.iconst 0, 1) := by decide +kernel
theorem dX3_refresh_45 : decode cX3_refresh 45 = .ok (.iastore, 1) := by decide +kernel
theorem dX3_refresh_46 : decode cX3_refresh 46 = .ok (.iinc 1 1, 3) := by decide +kernel
theorem dX3_refresh_49 : decode cX3_refresh 49 = .ok (.goto (-21), 3) := by decide +kernel
theorem dX3_refresh_52 : decode cX3_refresh 52 = .ok (.iconst 1, 1) := by decide +kernel
theorem dX3_refresh_53 : decode cX3_refresh 53 = .ok (.istore_n 1, 1) := by decide +kernel
theorem dX3_refresh_54 : decode cX3_refresh 54 = .ok (.iload_n 1, 1) := by decide +kernel
theorem dX3_refresh_55 : decode cX3_refresh 55 = .ok (.aload_n 0, 1) := by decide +kernel
theorem dX3_refresh_56 : decode cX3_refresh 56 = .ok (.getfield 22, 3) := by decide +kernel
theorem dX3_refresh_59 : decode cX3_refresh 59 = .ok (.getfield 35, 3) := by decide +kernel
theorem dX3_refresh_62 : decode cX3_refresh 62 = .ok (.if_icmp .ge 14, 3) := by decide +kernel
theorem dX3_refresh_65 : decode cX3_refresh 65 = .ok (.aload_n 0, 1) := by decide +kernel
theorem dX3_refresh_66 : decode cX3_refresh 66 = .ok (.iload_n 1, 1) := by decide +kernel
theorem dX3_refresh_67 : decode cX3_refresh 67 = .ok (.invokevirtual 38, 3) := by decide +kernel
theorem dX3_refresh_70 : decode cX3_refresh 70 = .ok (.iinc 1 1, 3) := by decide +kernel
theorem dX3_refresh_73 : decode cX3_refresh 73 = .ok (.goto (-19), 3) := by decide +kernel
theorem dX3_refresh_76 : decode cX3_refresh 76 = .ok (.return_, 1) := by decide +kernel
theorem dX3_hang_0 : decode cX3_hang 0 = .ok (.aload_n 0, 1) := by decide +kernel
theorem dX3_hang_1 : decode cX3_hang 1 = .ok (.getfield 9, 3) := by decide +kernel
theorem dX3_hang_4 : decode cX3_hang 4 = .ok (.iload_n 1, 1) := by decide +kernel
theorem dX3_hang_5 : decode cX3_hang 5 = .ok (.iaload, 1) := by decide +kernel
theorem dX3_hang_6 : decode cX3_hang 6 = .ok (.istore_n 2, 1) := by decide +kernel
theorem dX3_hang_7 : decode cX3_hang 7 = .ok (.aload_n 0, 1) := by decide +kernel
theorem dX3_hang_8 : decode cX3_hang 8 = .ok (.getfield 26, 3) := by decide +kernel
theorem dX3_hang_11 : decode cX3_hang 11 = .ok (.iload_n 1, 1) := by decide +kernel
theorem dX3_hang_12 : decode cX3_hang 12 = .ok (.iload_n 2, 1) := by decide +kernel
theorem dX3_hang_13 : decode cX3_hang 13 = .ok (.invokevirtual 42, 3) := by decide +kernel
theorem dX3_hang_16 : decode cX3_hang 16 = .ok (.istore_n 3, 1) := by decide +kernel
theorem dX3_hang_17 : decode cX3_hang 17 = .ok (.aload_n 0, 1) := by decide +kernel
theorem dX3_hang_18 : decode cX3_hang 18 = .ok (.getfield 15, 3) := by decide +kernel
theorem dX3_hang_21 : decode cX3_hang 21 = .ok (.iload_n 1, 1) := by decide +kernel
theorem dX3_hang_22 : decode cX3_hang 22 = .ok (.aload_n 0, 1) := by decide +kernel
theorem dX3_hang_23 : decode cX3_hang 23 = .ok (.getfield 26, 3) := by decide +kernel
theorem dX3_hang_26 : decode cX3_hang 26 = .ok (.iload_n 3, 1) := by decide +kernel
theorem dX3_hang_27 : decode cX3_hang 27 = .ok (.invokevirtual 48, 3) := by decide +kernel
theorem dX3_hang_30 : decode cX3_hang 30 = .ok (.iastore, 1) := by decide +kernel
theorem dX3_hang_31 : decode cX3_hang 31 = .ok (.iload_n 1, 1) := by decide +kernel
theorem dX3_hang_32 : decode cX3_hang 32 = .ok (.iconst 1, 1) := by decide +kernel
theorem dX3_hang_33 : decode cX3_hang 33 = .ok (.iadd, 1) := by decide +kernel
theorem dX3_hang_34 : decode cX3_hang 34 = .ok (.istore 4, 2) := by decide +kernel
theorem dX3_hang_36 : decode cX3_hang 36 = .ok (.iload 4, 2) := by decide +kernel
theorem dX3_hang_38 : decode cX3_hang 38 = .ok (.aload_n 0, 1) := by decide +kernel
theorem dX3_hang_39 : decode cX3_hang 39 = .ok (.getfield 22, 3) := by decide +kernel
theorem dX3_hang_42 : decode cX3_hang 42 = .ok (.getfield 35, 3) := by decide +kernel
theorem dX3_hang_45 : decode cX3_hang 45 = .ok (.if_icmp .ge 38, 3) := by decide +kernel
theorem dX3_hang_48 : decode cX3_hang 48 = .ok (.aload_n 0, 1) := by decide +kernel
theorem dX3_hang_49 : decode cX3_hang 49 = .ok (.getfield 9, 3) := by decide +kernel
theorem dX3_hang_52 : decode cX3_hang 52 = .ok (.iload 4, 2) := by decide +kernel
theorem dX3_hang_54 : decode cX3_hang 54 = .ok (.iaload, 1) := by decide +kernel
theorem dX3_hang_55 : decode cX3_hang 55 = .ok (.iload_n 2, 1) := by decide +kernel
theorem dX3_hang_56 : decode cX3_hang 56 = .ok (.if_icmp .ne 21, 3) := by decide +kernel
theorem dX3_hang_59 : decode cX3_hang 59 = .ok (.iload_n 3, 1) := by decide +kernel
theorem dX3_hang_60 : decode cX3_hang 60 = .ok (.iload 4, 2) := by decide +kernel
theorem dX3_hang_62 : decode cX3_hang 62 = .ok (.ishr, 1) := by decide +kernel
theorem dX3_hang_63 : decode cX3_hang 63 = .ok (.iconst 1, 1) := by decide +kernel
theorem dX3_hang_64 : decode cX3_hang 64 = .ok (.iand, 1) := by decide +kernel
theorem dX3_hang_65 : decode cX3_hang 65 = .ok (.iconst 1, 1) := by decide +kernel
theorem dX3_hang_66 : decode cX3_hang 66 = .ok (.if_icmp .ne 11, 3) := by decide +kernel
theorem dX3_hang_69 : decode cX3_hang 69 = .ok (.aload_n 0, 1) := by decide +kernel
theorem dX3_hang_70 : decode cX3_hang 70 = .ok (.getfield 9, 3) := by decide +kernel
theorem dX3_hang_73 : decode cX3_hang 73 = .ok (.iload 4, 2) := by decide +kernel
theorem dX3_hang_75 : decode cX3_hang 75 = .ok (.iload_n 1, 1) := by decide +kernel
theorem dX3_hang_76 : decode cX3_hang 76 = .ok (.iastore, 1) := by decide +kernel
theorem dX3_hang_77 : decode cX3_hang 77 = .ok (.iinc 4 1, 3) := by decide +kernel
theorem dX3_hang_80 : decode cX3_hang 80 = .ok (.goto (-44), 3) := by decide +kernel
theorem dX3_hang_83 : decode cX3_hang 83 = .ok (.return_, 1) := by decide +kernel
theorem dX3_leastBranchBetween_0 : decode cX3_leastBranchBetween 0 = .ok (.ldc 54, 2) := by decide +kernel
theorem dX3_leastBranchBetween_2 : decode cX3_leastBranchBetween 2 = .ok (.istore_n 3, 1) := by decide +kernel
theorem dX3_leastBranchBetween_3 : decode cX3_leastBranchBetween 3 = .ok (.iload_n 1, 1) := by decide +kernel
theorem dX3_leastBranchBetween_4 : decode cX3_leastBranchBetween 4 = .ok (.istore 4, 2) := by decide +kernel
theorem dX3_leastBranchBetween_6 : decode cX3_leastBranchBetween 6 = .ok (.iload_n 2, 1) := by decide +kernel
theorem dX3_leastBranchBetween_7 : decode cX3_leastBranchBetween 7 = .ok (.istore 5, 2) := by decide +kernel
theorem dX3_leastBranchBetween_9 : decode cX3_leastBranchBetween 9 = .ok (.iconst 0, 1) := by decide +kernel
theorem dX3_leastBranchBetween_10 : decode cX3_leastBranchBetween 10 = .ok (.istore 6, 2) := by decide +kernel
theorem dX3_leastBranchBetween_12 : decode cX3_leastBranchBetween 12 = .ok (.iload 6, 2) := by decide +kernel
theorem dX3_leastBranchBetween_14 : decode cX3_leastBranchBetween 14 = .ok (.bipush 24, 2) := by decide +kernel
theorem dX3_leastBranchBetween_16 : decode cX3_leastBranchBetween 16 = .ok (.if_icmp .ge 59, 3) := by decide +kernel
theorem dX3_leastBranchBetween_19 : decode cX3_leastBranchBetween 19 = .ok (.iload 4, 2) := by decide +kernel
theorem dX3_leastBranchBetween_21 : decode cX3_leastBranchBetween 21 = .ok (.iload 5, 2) := by decide +kernel
theorem dX3_leastBranchBetween_23 : decode cX3_leastBranchBetween 23 = .ok (.if_icmp .eq 52, 3) := by decide +kernel
theorem dX3_leastBranchBetween_26 : decode cX3_leastBranchBetween 26 = .ok (.iload 4, 2) := by decide +kernel
theorem dX3_leastBranchBetween_28 : decode cX3_leastBranchBetween 28 = .ok (.iload 5, 2) := by decide +kernel
theorem dX3_leastBranchBetween_30 : decode cX3_leastBranchBetween 30 = .ok (.invokestatic 55, 3) := by decide +kernel
theorem dX3_leastBranchBetween_33 : decode cX3_leastBranchBetween 33 = .ok (.istore 7, 2) := by decide +kernel
theorem dX3_leastBranchBetween_35 : decode cX3_leastBranchBetween 35 = .ok (.iload 4, 2) := by decide +kernel
theorem dX3_leastBranchBetween_37 : decode cX3_leastBranchBetween 37 = .ok (.iload 5, 2) := by decide +kernel
theorem dX3_leastBranchBetween_39 : decode cX3_leastBranchBetween 39 = .ok (.invokestatic 60, 3) := by decide +kernel
theorem dX3_leastBranchBetween_42 : decode cX3_leastBranchBetween 42 = .ok (.istore 5, 2) := by decide +kernel
theorem dX3_leastBranchBetween_44 : decode cX3_leastBranchBetween 44 = .ok (.iload 7, 2) := by decide +kernel
theorem dX3_leastBranchBetween_46 : decode cX3_leastBranchBetween 46 = .ok (.istore 4, 2) := by decide +kernel
theorem dX3_leastBranchBetween_48 : decode cX3_leastBranchBetween 48 = .ok (.iload_n 3, 1) := by decide +kernel
theorem dX3_leastBranchBetween_49 : decode cX3_leastBranchBetween 49 = .ok (.aload_n 0, 1) := by decide +kernel
theorem dX3_leastBranchBetween_50 : decode cX3_leastBranchBetween 50 = .ok (.getfield 15, 3) := by decide +kernel
theorem dX3_leastBranchBetween_53 : decode cX3_leastBranchBetween 53 = .ok (.iload 5, 2) := by decide +kernel
theorem dX3_leastBranchBetween_55 : decode cX3_leastBranchBetween 55 = .ok (.iaload, 1) := by decide +kernel
theorem dX3_leastBranchBetween_56 : decode cX3_leastBranchBetween 56 = .ok (.invokestatic 55, 3) := by decide +kernel
theorem dX3_leastBranchBetween_59 : decode cX3_leastBranchBetween 59 = .ok (.istore_n 3, 1) := by decide +kernel
theorem dX3_leastBranchBetween_60 : decode cX3_leastBranchBetween 60 = .ok (.aload_n 0, 1) := by decide +kernel
theorem dX3_leastBranchBetween_61 : decode cX3_leastBranchBetween 61 = .ok (.getfield 9, 3) := by decide +kernel
theorem dX3_leastBranchBetween_64 : decode cX3_leastBranchBetween 64 = .ok (.iload 5, 2) := by decide +kernel
theorem dX3_leastBranchBetween_66 : decode cX3_leastBranchBetween 66 = .ok (.iaload, 1) := by decide +kernel
theorem dX3_leastBranchBetween_67 : decode cX3_leastBranchBetween 67 = .ok (.istore 5, 2) := by decide +kernel
theorem dX3_leastBranchBetween_69 : decode cX3_leastBranchBetween 69 = .ok (.iinc 6 1, 3) := by decide +kernel
theorem dX3_leastBranchBetween_72 : decode cX3_leastBranchBetween 72 = .ok (.goto (-60), 3) := by decide +kernel
theorem dX3_leastBranchBetween_75 : decode cX3_leastBranchBetween 75 = .ok (.iload_n 3, 1) := by decide +kernel
theorem dX3_leastBranchBetween_76 : decode cX3_leastBranchBetween 76 = .ok (.ireturn, 1) := by decide +kernel
theorem dX4_init_0 : decode cX4_init 0 = .ok (.aload_n 0, 1) := by decide +kernel
theorem dX4_init_1 : decode cX4_init 1 = .ok (.invokespecial 3, 3) := by decide +kernel
theorem dX4_init_4 : decode cX4_init 4 = .ok (.aload_n 0, 1) := by decide +kernel
theorem dX4_init_5 : decode cX4_init 5 = .ok (.bipush 10, 2) := by decide +kernel
theorem dX4_init_7 : decode cX4_init 7 = .ok (.newarray .int, 2) := by decide +kernel
theorem dX4_init_9 : decode cX4_init 9 = .ok (.putfield 9, 3) := by decide +kernel
theorem dX4_init_12 : decode cX4_init 12 = .ok (.aload_n 0, 1) := by decide +kernel
theorem dX4_init_13 : decode cX4_init 13 = .ok (.bipush 10, 2) := by decide +kernel
theorem dX4_init_15 : decode cX4_init 15 = .ok (.newarray .int, 2) := by decide +kernel
theorem dX4_init_17 : decode cX4_init 17 = .ok (.putfield 15, 3) := by decide +kernel
theorem dX4_init_20 : decode cX4_init 20 = .ok (.aload_n 0, 1) := by decide +kernel
theorem dX4_init_21 : decode cX4_init 21 = .ok (.iconst 0, 1) := by decide +kernel
theorem dX4_init_22 : decode cX4_init 22 = .ok (.putfield 18, 3) := by decide +kernel
theorem dX4_init_25 : decode cX4_init 25 = .ok (.aload_n 0, 1) := by decide +kernel
theorem dX4_init_26 : decode cX4_init 26 = .ok (.iconst (-1), 1) := by decide +kernel
theorem dX4_init_27 : decode cX4_init 27 = .ok (.putfield 22, 3) := by decide +kernel
theorem dX4_init_30 : decode cX4_init 30 = .ok (.aload_n 0, 1) := by decide +kernel
theorem dX4_init_31 : decode cX4_init 31 = .ok (.aload_n 1, 1) := by decide +kernel
theorem dX4_init_32 : decode cX4_init 32 = .ok (.putfield 25, 3) := by decide +kernel
theorem dX4_init_35 : decode cX4_init 35 = .ok (.aload_n 0, 1) := by decide +kernel
theorem dX4_init_36 : decode cX4_init 36 = .ok (.iload_n 2, 1) := by decide +kernel
theorem dX4_init_37 : decode cX4_init 37 = .ok (.putfield 29, 3) := by decide +kernel
theorem dX4_init_40 : decode cX4_init 40 = .ok (.return_, 1) := by decide +kernel
theorem dX4_refresh_0 : decode cX4_refresh 0 = .ok (.aload_n 0, 1) := by decide +kernel
theorem dX4_refresh_1 : decode cX4_refresh 1 = .ok (.getfield 22, 3) := by decide +kernel
theorem dX4_refresh_4 : decode cX4_refresh 4 = .ok (.aload_n 0, 1) := by decide +kernel
theorem dX4_refresh_5 : decode cX4_refresh 5 = .ok (.getfield 25, 3) := by decide +kernel
theorem dX4_refresh_8 : decode cX4_refresh 8 = .ok (.getfield 32, 3) := by decide +kernel
theorem dX4_refresh_11 : decode cX4_refresh 11 = .ok (.if_icmp .eq 15, 3) := by decide +kernel
theorem dX4_refresh_14 : decode cX4_refresh 14 = .ok (.aload_n 0, 1) := by decide +kernel
theorem dX4_refresh_15 : decode cX4_refresh 15 = .ok (.getfield 25, 3) := by decide +kernel
theorem dX4_refresh_18 : decode cX4_refresh 18 = .ok (.getfield 37, 3) := by decide +kernel
theorem dX4_refresh_21 : decode cX4_refresh 21 = .ok (.bipush 10, 2) := by decide +kernel
theorem dX4_refresh_23 : decode cX4_refresh 23 = .ok (.if_icmp .le 4, 3) := by decide +kernel
theorem dX4_refresh_26 : decode cX4_refresh 26 = .ok (.return_, 1) := by decide +kernel
theorem dX4_refresh_27 : decode cX4_refresh 27 = .ok (.aload_n 0, 1) := by decide +kernel
theorem dX4_refresh_28 : decode cX4_refresh 28 = .ok (.aload_n 0, 1) := by decide +kernel
theorem dX4_refresh_29 : decode cX4_refresh 29 = .ok (.getfield 25, 3) := by decide +kernel
theorem dX4_refresh_32 : decode cX4_refresh 32 = .ok (.getfield 32, 3) := by decide +kernel
theorem dX4_refresh_35 : decode cX4_refresh 35 = .ok (.putfield 22, 3) := by decide +kernel
theorem dX4_refresh_38 : decode cX4_refresh 38 = .ok (.aload_n 0, 1) := by decide +kernel
theorem dX4_refresh_39 : decode cX4_refresh 39 = .ok (.ldc 42, 2) := by decide +kernel
theorem dX4_refresh_41 : decode cX4_refresh 41 = .ok (.putfield 18, 3) := by decide +kernel
theorem dX4_refresh_44 : decode cX4_refresh 44 = .ok (.aload_n 0, 1) := by decide +kernel
theorem dX4_refresh_45 : decode cX4_refresh 45 = .ok (.iconst 0, 1) := by decide +kernel
theorem dX4_refresh_46 : decode cX4_refresh 46 = .ok (.iconst 0, 1) := by decide +kernel
theorem dX4_refresh_47 : decode cX4_refresh 47 = .ok (.iconst 0, 1) := by decide +kernel
theorem dX4_refresh_48 : decode cX4_refresh 48 = .ok (.invokestatic 43, 3) := by decide +kernel
theorem dX4_refresh_51 : decode cX4_refresh 51 = .ok (.return_, 1) := by decide +kernel
theorem dX4_tryFrom_0 : decode cX4_tryFrom 0 = .ok (.aload_n 0, 1) := by decide +kernel
theorem dX4_tryFrom_1 : decode cX4_tryFrom 1 = .ok (.getfield 25, 3) := by decide +kernel
theorem dX4_tryFrom_4 : decode cX4_tryFrom 4 = .ok (.getfield 37, 3) := by decide +kernel
theorem dX4_tryFrom_7 : decode cX4_tryFrom 7 = .ok (.istore 4, 2) := by decide +kernel
theorem dX4_tryFrom_9 : decode cX4_tryFrom 9 = .ok (.aload_n 0, 1) := by decide +kernel
theorem dX4_tryFrom_10 : decode cX4_tryFrom 10 = .ok (.getfield 29, 3) := by decide +kernel
theorem dX4_tryFrom_13 : decode cX4_tryFrom 13 = .ok (.iload_n 2, 1) := by decide +kernel
theorem dX4_tryFrom_14 : decode cX4_tryFrom 14 = .ok (.isub, 1) := by decide +kernel
theorem dX4_tryFrom_15 : decode cX4_tryFrom 15 = .ok (.iload 4, 2) := by decide +kernel
theorem dX4_tryFrom_17 : decode cX4_tryFrom 17 = .ok (.iload_n 1, 1) := by decide +kernel
theorem dX4_tryFrom_18 : decode cX4_tryFrom 18 = .ok (.isub, 1) := by decide +kernel
theorem dX4_tryFrom_19 : decode cX4_tryFrom 19 = .ok (.if_icmp .gt 7, 3) := by decide +kernel
theorem dX4_tryFrom_22 : decode cX4_tryFrom 22 = .ok (.iconst 1, 1) := by decide +kernel
theorem dX4_tryFrom_23 : decode cX4_tryFrom 23 = .ok (.goto 4, 3) := by decide +kernel
theorem dX4_tryFrom_26 : decode cX4_tryFrom 26 = .ok (.iconst 0, 1) := by decide +kernel
theorem dX4_tryFrom_27 : decode cX4_tryFrom 27 = .ok (.istore 5, 2) := by decide +kernel
theorem dX4_tryFrom_29 : decode cX4_tryFrom 29 = .ok (.iload 5, 2) := by decide +kernel
theorem dX4_tryFrom_31 : decode cX4_tryFrom 31 = .ok (.ifCond .eq 11, 3) := by decide +kernel
theorem dX4_tryFrom_34 : decode cX4_tryFrom 34 = .ok (.iload_n 3, 1) := by decide +kernel
theorem dX4_tryFrom_35 : decode cX4_tryFrom 35 = .ok (.aload_n 0, 1) := by decide +kernel
theorem dX4_tryFrom_36 : decode cX4_tryFrom 36 = .ok (.getfield 18, 3) := by decide +kernel
theorem dX4_tryFrom_39 : decode cX4_tryFrom 39 = .ok (.if_icmp .lt 4, 3) := by decide +kernel
theorem dX4_tryFrom_42 : decode cX4_tryFrom 42 = .ok (.return_, 1) := by decide +kernel
theorem dX4_tryFrom_43 : decode cX4_tryFrom 43 = .ok (.iload_n 1, 1) := by decide +kernel
theorem dX4_tryFrom_44 : decode cX4_tryFrom 44 = .ok (.iload 4, 2) := by decide +kernel
theorem dX4_tryFrom_46 : decode cX4_tryFrom 46 = .ok (.if_icmp .lt 9, 3) := by decide +kernel
theorem dX4_tryFrom_49 : decode cX4_tryFrom 49 = .ok (.aload_n 0, 1) := by decide +kernel
theorem dX4_tryFrom_50 : decode cX4_tryFrom 50 = .ok (.iload_n 3, 1) := by decide +kernel
theorem dX4_tryFrom_51 : decode cX4_tryFrom 51 = .ok (.invokevirtual 47, 3) := by decide +kernel
theorem dX4_tryFrom_54 : decode cX4_tryFrom 54 = .ok (.return_, 1) := by decide +kernel
theorem dX4_tryFrom_55 : decode cX4_tryFrom 55 = .ok (.iconst 0, 1) := by decide +kernel
theorem dX4_tryFrom_56 : decode cX4_tryFrom 56 = .ok (.istore 6, 2) := by decide +kernel
theorem dX4_tryFrom_58 : decode cX4_tryFrom 58 = .ok (.iload 6, 2) := by decide +kernel
theorem dX4_tryFrom_60 : decode cX4_tryFrom 60 = .ok (.iload_n 2, 1) := by decide +kernel
theorem dX4_tryFrom_61 : decode cX4_tryFrom 61 = .ok (.if_icmp .gt 52, 3) := by decide +kernel
theorem dX4_tryFrom_64 : decode cX4_tryFrom 64 = .ok (.iload 6, 2) := by decide +kernel
theorem dX4_tryFrom_66 : decode cX4_tryFrom 66 = .ok (.aload_n 0, 1) := by decide +kernel
theorem dX4_tryFrom_67 : decode cX4_tryFrom 67 = .ok (.getfield 29, 3) := by decide +kernel
theorem dX4_tryFrom_70 : decode cX4_tryFrom 70 = .ok (.if_icmp .ge 43, 3) := by decide +kernel
theorem dX4_tryFrom_73 : decode cX4_tryFrom 73 = .ok (.aload_n 0, 1) := by decide +kernel
theorem dX4_tryFrom_74 : decode cX4_tryFrom 74 = .ok (.getfield 9, 3) := by decide +kernel
theorem dX4_tryFrom_77 : decode cX4_tryFrom 77 = .ok (.iload_n 1, 1) := by decide +kernel
theorem dX4_tryFrom_78 : decode cX4_tryFrom 78 = .ok (.iload 6, 2) := by decide +kernel
theorem dX4_tryFrom_80 : decode cX4_tryFrom 80 = .ok (.iastore, 1) := by decide +kernel
theorem dX4_tryFrom_81 : decode cX4_tryFrom 81 = .ok (.aload_n 0, 1) := by decide +kernel
theorem dX4_tryFrom_82 : decode cX4_tryFrom 82 = .ok (.iload_n 1, 1) := by decide +kernel
theorem dX4_tryFrom_83 : decode cX4_tryFrom 83 = .ok (.invokevirtual 51, 3) := by decide +kernel
theorem dX4_tryFrom_86 : decode cX4_tryFrom 86 = .ok (.istore 7, 2) := by decide +kernel
theorem dX4_tryFrom_88 : decode cX4_tryFrom 88 = .ok (.aload_n 0, 1) := by decide +kernel
theorem dX4_tryFrom_89 : decode cX4_tryFrom 89 = .ok (.iload_n 1, 1) := by decide +kernel
theorem dX4_tryFrom_90 : decode cX4_tryFrom 90 = .ok (.iconst 1, 1) := by decide +kernel
theorem dX4_tryFrom_91 : decode cX4_tryFrom 91 = .ok (.iadd, 1) := by decide +kernel
theorem dX4_tryFrom_92 : decode cX4_tryFrom 92 = .ok (.iload_n 2, 1) := by decide +kernel
theorem dX4_tryFrom_93 : decode cX4_tryFrom 93 = .ok (.iload 6, 2) := by decide +kernel
theorem dX4_tryFrom_95 : decode cX4_tryFrom 95 = .ok (.iconst 1, 1) := by decide +kernel
theorem dX4_tryFrom_96 : decode cX4_tryFrom 96 = .ok (.iadd, 1) := by decide +kernel
theorem dX4_tryFrom_97 : decode cX4_tryFrom 97 = .ok (.invokestatic 55, 3) := by decide +kernel
theorem dX4_tryFrom_100 : decode cX4_tryFrom 100 = .ok (.iload_n 3, 1) := by decide +kernel
theorem dX4_tryFrom_101 : decode cX4_tryFrom 101 = .ok (.iload 7, 2) := by decide +kernel
theorem dX4_tryFrom_103 : decode cX4_tryFrom 103 = .ok (.iadd, 1) := by decide +kernel
theorem dX4_tryFrom_104 : decode cX4_tryFrom 104 = .ok (.invokestatic 43, 3) := by decide +kernel
theorem dX4_tryFrom_107 : decode cX4_tryFrom 107 = .ok (.iinc 6 1, 3) := by decide +kernel
theorem dX4_tryFrom_110 : decode cX4_tryFrom 110 = .ok (.goto (-52), 3) := by decide +kernel
theorem dX4_tryFrom_113 : decode cX4_tryFrom 113 = .ok (.return_, 1) := by decide +kernel
theorem dX4_costToLower_0 : decode cX4_costToLower 0 = .ok (.iconst 0, 1) := by decide +kernel
theorem dX4_costToLower_1 : decode cX4_costToLower 1 = .ok (.istore_n 2, 1) := by decide +kernel
theorem dX4_costToLower_2 : decode cX4_costToLower 2 = .ok (.iconst 0, 1) := by decide +kernel
theorem dX4_costToLower_3 : decode cX4_costToLower 3 = .ok (.istore_n 3, 1) := by decide +kernel
theorem dX4_costToLower_4 : decode cX4_costToLower 4 = .ok (.iload_n 3, 1) := by decide +kernel
theorem dX4_costToLower_5 : decode cX4_costToLower 5 = .ok (.iload_n 1, 1) := by decide +kernel
theorem dX4_costToLower_6 : decode cX4_costToLower 6 = .ok (.if_icmp .ge 38, 3) := by decide +kernel
theorem dX4_costToLower_9 : decode cX4_costToLower 9 = .ok (.aload_n 0, 1) := by decide +kernel
theorem dX4_costToLower_10 : decode cX4_costToLower 10 = .ok (.getfield 9, 3) := by decide +kernel
theorem dX4_costToLower_13 : decode cX4_costToLower 13 = .ok (.iload_n 3, 1) := by decide +kernel
theorem dX4_costToLower_14 : decode cX4_costToLower 14 = .ok (.iaload, 1) := by decide +kernel
theorem dX4_costToLower_15 : decode cX4_costToLower 15 = .ok (.aload_n 0, 1) := by decide +kernel
theorem dX4_costToLower_16 : decode cX4_costToLower 16 = .ok (.getfield 9, 3) := by decide +kernel
theorem dX4_costToLower_19 : decode cX4_costToLower 19 = .ok (.iload_n 1, 1) := by decide +kernel
theorem dX4_costToLower_20 : decode cX4_costToLower 20 = .ok (.iaload, 1) := by decide +kernel
theorem dX4_costToLower_21 : decode cX4_costToLower 21 = .ok (.if_icmp .eq 17, 3) := by decide +kernel
theorem dX4_costToLower_24 : decode cX4_costToLower 24 = .ok (.iload_n 2, 1) := by decide +kernel
theorem dX4_costToLower_25 : decode cX4_costToLower 25 = .ok (.aload_n 0, 1) := by decide +kernel
theorem dX4_costToLower_26 : decode cX4_costToLower 26 = .ok (.getfield 25, 3) := by decide +kernel
theorem dX4_costToLower_29 : decode cX4_costToLower 29 = .ok (.getfield 61, 3) := by decide +kernel
theorem dX4_costToLower_32 : decode cX4_costToLower 32 = .ok (.iload_n 1, 1) := by decide +kernel
theorem dX4_costToLower_33 : decode cX4_costToLower 33 = .ok (.aaload, 1) := by decide +kernel
theorem dX4_costToLower_34 : decode cX4_costToLower 34 = .ok (.iload_n 3, 1) := by decide +kernel
theorem dX4_costToLower_35 : decode cX4_costToLower 35 = .ok (.iaload, 1) := by decide +kernel
theorem dX4_costToLower_36 : decode cX4_costToLower 36 = .ok (.iadd, 1) := by decide +kernel
theorem dX4_costToLower_37 : decode cX4_costToLower 37 = .ok (.istore_n 2, 1) := by decide +kernel
theorem dX4_costToLower_38 : decode cX4_costToLower 38 = .ok (.iinc 3 1, 3) := by decide +kernel
theorem dX4_costToLower_41 : decode cX4_costToLower 41 = .ok (.goto (-37), 3) := by decide +kernel
theorem dX4_costToLower_44 : decode cX4_costToLower 44 = .ok (.iload_n 2, 1) := by decide +kernel
theorem dX4_costToLower_45 : decode cX4_costToLower 45 = .ok (.ireturn, 1) := by decide +kernel
theorem dX4_keepTried_0 : decode cX4_keepTried 0 = .ok (.aload_n 0, 1) := by decide +kernel
theorem dX4_keepTried_1 : decode cX4_keepTried 1 = .ok (.iload_n 1, 1) := by decide +kernel
theorem dX4_keepTried_2 : decode cX4_keepTried 2 = .ok (.putfield 18, 3) := by decide +kernel
theorem dX4_keepTried_5 : decode cX4_keepTried 5 = .ok (.iconst 0, 1) := by decide +kernel
theorem dX4_keepTried_6 : decode cX4_keepTried 6 = .ok (.istore_n 2, 1) := by decide +kernel
theorem dX4_keepTried_7 : decode cX4_keepTried 7 = .ok (.iload_n 2, 1) := by decide +kernel
theorem dX4_keepTried_8 : decode cX4_keepTried 8 = .ok (.aload_n 0, 1) := by decide +kernel
theorem dX4_keepTried_9 : decode cX4_keepTried 9 = .ok (.getfield 25, 3) := by decide +kernel
theorem dX4_keepTried_12 : decode cX4_keepTried 12 = .ok (.getfield 37, 3) := by decide +kernel
theorem dX4_keepTried_15 : decode cX4_keepTried 15 = .ok (.if_icmp .ge 21, 3) := by decide +kernel
theorem dX4_keepTried_18 : decode cX4_keepTried 18 = .ok (.aload_n 0, 1) := by decide +kernel
theorem dX4_keepTried_19 : decode cX4_keepTried 19 = .ok (.getfield 15, 3) := by decide +kernel
theorem dX4_keepTried_22 : decode cX4_keepTried 22 = .ok (.iload_n 2, 1) := by decide +kernel
theorem dX4_keepTried_23 : decode cX4_keepTried 23 = .ok (.aload_n 0, 1) := by decide +kernel
theorem dX4_keepTried_24 : decode cX4_keepTried 24 = .ok (.getfield 9, 3) := by decide +kernel
theorem dX4_keepTried_27 : decode cX4_keepTried 27 = .ok (.iload_n 2, 1) := by decide +kernel
theorem dX4_keepTried_28 : decode cX4_keepTried 28 = .ok (.iaload, 1) := by decide +kernel
theorem dX4_keepTried_29 : decode cX4_keepTried 29 = .ok (.iastore, 1) := by decide +kernel
theorem dX4_keepTried_30 : decode cX4_keepTried 30 = .ok (.iinc 2 1, 3) := by decide +kernel
theorem dX4_keepTried_33 : decode cX4_keepTried 33 = .ok (.goto (-26), 3) := by decide +kernel
theorem dX4_keepTried_36 : decode cX4_keepTried 36 = .ok (.return_, 1) := by decide +kernel
end
section
/-! decode rows: by program -/
theorem dX5_init_0 : decode cX5_init 0 = .ok (.aload_n 0, 1) := by decide +kernel
theorem dX5_init_1 : decode cX5_init 1 = .ok (.invokespecial 1, 3) := by decide +kernel
theorem dX5_init_4 : decode cX5_init 4 = .ok (.aload_n 0, 1) := by decide +kernel
theorem dX5_init_5 : decode cX5_init 5 = .ok (.new 7, 3) := by decide +kernel
theorem dX5_init_8 : decode cX5_init 8 = .ok (.dup, 1) := by decide +kernel
theorem dX5_init_9 : decode cX5_init 9 = .ok (.invokespecial 9, 3) := by decide +kernel
theorem dX5_init_12 : decode cX5_init 12 = .ok (.putfield 10, 3) := by decide +kernel
theorem dX5_init_15 : decode cX5_init 15 = .ok (.aload_n 0, 1) := by decide +kernel
theorem dX5_init_16 : decode cX5_init 16 = .ok (.new 16, 3) := by decide +kernel
theorem dX5_init_19 : decode cX5_init 19 = .ok (.dup, 1) := by decide +kernel
theorem dX5_init_20 : decode cX5_init 20 = .ok (.aload_n 0, 1) := by decide +kernel
theorem dX5_init_21 : decode cX5_init 21 = .ok (.getfield 10, 3) := by decide +kernel
theorem dX5_init_24 : decode cX5_init 24 = .ok (.invokespecial 18, 3) := by decide +kernel
theorem dX5_init_27 : decode cX5_init 27 = .ok (.putfield 21, 3) := by decide +kernel
theorem dX5_init_30 : decode cX5_init 30 = .ok (.aload_n 0, 1) := by decide +kernel
theorem dX5_init_31 : decode cX5_init 31 = .ok (.new 25, 3) := by decide +kernel
theorem dX5_init_34 : decode cX5_init 34 = .ok (.dup, 1) := by decide +kernel
theorem dX5_init_35 : decode cX5_init 35 = .ok (.aload_n 0, 1) := by decide +kernel
theorem dX5_init_36 : decode cX5_init 36 = .ok (.getfield 10, 3) := by decide +kernel
theorem dX5_init_39 : decode cX5_init 39 = .ok (.aload_n 0, 1) := by decide +kernel
theorem dX5_init_40 : decode cX5_init 40 = .ok (.getfield 21, 3) := by decide +kernel
theorem dX5_init_43 : decode cX5_init 43 = .ok (.invokespecial 27, 3) := by decide +kernel
theorem dX5_init_46 : decode cX5_init 46 = .ok (.putfield 30, 3) := by decide +kernel
theorem dX5_init_49 : decode cX5_init 49 = .ok (.aload_n 0, 1) := by decide +kernel
theorem dX5_init_50 : decode cX5_init 50 = .ok (.new 34, 3) := by decide +kernel
theorem dX5_init_53 : decode cX5_init 53 = .ok (.dup, 1) := by decide +kernel
theorem dX5_init_54 : decode cX5_init 54 = .ok (.aload_n 0, 1) := by decide +kernel
theorem dX5_init_55 : decode cX5_init 55 = .ok (.getfield 10, 3) := by decide +kernel
theorem dX5_init_58 : decode cX5_init 58 = .ok (.invokespecial 36, 3) := by decide +kernel
theorem dX5_init_61 : decode cX5_init 61 = .ok (.putfield 37, 3) := by decide +kernel
theorem dX5_init_64 : decode cX5_init 64 = .ok (.aload_n 0, 1) := by decide +kernel
theorem dX5_init_65 : decode cX5_init 65 = .ok (.iconst 4, 1) := by decide +kernel
theorem dX5_init_66 : decode cX5_init 66 = .ok (.anewarray 41, 3) := by decide +kernel
theorem dX5_init_69 : decode cX5_init 69 = .ok (.putfield 43, 3) := by decide +kernel
theorem dX5_init_72 : decode cX5_init 72 = .ok (.iconst 0, 1) := by decide +kernel
theorem dX5_init_73 : decode cX5_init 73 = .ok (.istore_n 1, 1) := by decide +kernel
theorem dX5_init_74 : decode cX5_init 74 = .ok (.iload_n 1, 1) := by decide +kernel
theorem dX5_init_75 : decode cX5_init 75 = .ok (.iconst 4, 1) := by decide +kernel
theorem dX5_init_76 : decode cX5_init 76 = .ok (.if_icmp .ge 29, 3) := by decide +kernel
theorem dX5_init_79 : decode cX5_init 79 = .ok (.aload_n 0, 1) := by decide +kernel
theorem dX5_init_80 : decode cX5_init 80 = .ok (.getfield 43, 3) := by decide +kernel
theorem dX5_init_83 : decode cX5_init 83 = .ok (.iload_n 1, 1) := by decide +kernel
theorem dX5_init_84 : decode cX5_init 84 = .ok (.new 41, 3) := by decide +kernel
theorem dX5_init_87 : decode cX5_init 87 = .ok (.dup, 1) := by decide +kernel
theorem dX5_init_88 : decode cX5_init 88 = .ok (.aload_n 0, 1) := by decide +kernel
theorem dX5_init_89 : decode cX5_init 89 = .ok (.getfield 10, 3) := by decide +kernel
theorem dX5_init_92 : decode cX5_init 92 = .ok (.iload_n 1, 1) := by decide +kernel
theorem dX5_init_93 : decode cX5_init 93 = .ok (.iconst 1, 1) := by decide +kernel
theorem dX5_init_94 : decode cX5_init 94 = .ok (.iadd, 1) := by decide +kernel
theorem dX5_init_95 : decode cX5_init 95 = .ok (.invokespecial 47, 3) := by decide +kernel
theorem dX5_init_98 : decode cX5_init 98 = .ok (.aastore, 1) := by decide +kernel
theorem dX5_init_99 : decode cX5_init 99 = .ok (.iinc 1 1, 3) := by decide +kernel
theorem dX5_init_102 : decode cX5_init 102 = .ok (.goto (-28), 3) := by decide +kernel
theorem dX5_init_105 : decode cX5_init 105 = .ok (.return_, 1) := by decide +kernel
theorem dX5_node_0 : decode cX5_node 0 = .ok (.aload_n 0, 1) := by decide +kernel
theorem dX5_node_1 : decode cX5_node 1 = .ok (.getfield 10, 3) := by decide +kernel
theorem dX5_node_4 : decode cX5_node 4 = .ok (.getfield 50, 3) := by decide +kernel
theorem dX5_node_7 : decode cX5_node 7 = .ok (.bipush 12, 2) := by decide +kernel
theorem dX5_node_9 : decode cX5_node 9 = .ok (.if_icmp .lt 8, 3) := by decide +kernel
theorem dX5_node_12 : decode cX5_node 12 = .ok (.bipush (-4), 2) := by decide +kernel
theorem dX5_node_14 : decode cX5_node 14 = .ok (.goto 10, 3) := by decide +kernel
theorem dX5_node_17 : decode cX5_node 17 = .ok (.aload_n 0, 1) := by decide +kernel
theorem dX5_node_18 : decode cX5_node 18 = .ok (.getfield 10, 3) := by decide +kernel
theorem dX5_node_21 : decode cX5_node 21 = .ok (.invokevirtual 54, 3) := by decide +kernel
theorem dX5_node_24 : decode cX5_node 24 = .ok (.ireturn, 1) := by decide +kernel
theorem dX5_arc_0 : decode cX5_arc 0 = .ok (.aload_n 0, 1) := by decide +kernel
theorem dX5_arc_1 : decode cX5_arc 1 = .ok (.getfield 10, 3) := by decide +kernel
theorem dX5_arc_4 : decode cX5_arc 4 = .ok (.iload_n 1, 1) := by decide +kernel
theorem dX5_arc_5 : decode cX5_arc 5 = .ok (.iload_n 2, 1) := by decide +kernel
theorem dX5_arc_6 : decode cX5_arc 6 = .ok (.invokevirtual 58, 3) := by decide +kernel
theorem dX5_arc_9 : decode cX5_arc 9 = .ok (.ifCond .ne 5, 3) := by decide +kernel
theorem dX5_arc_12 : decode cX5_arc 12 = .ok (.iconst (-1), 1) := by decide +kernel
theorem dX5_arc_13 : decode cX5_arc 13 = .ok (.ireturn, 1) := by decide +kernel
theorem dX5_arc_14 : decode cX5_arc 14 = .ok (.iload_n 3, 1) := by decide +kernel
theorem dX5_arc_15 : decode cX5_arc 15 = .ok (.iconst 1, 1) := by decide +kernel
theorem dX5_arc_16 : decode cX5_arc 16 = .ok (.if_icmp .lt 10, 3) := by decide +kernel
theorem dX5_arc_19 : decode cX5_arc 19 = .ok (.iload_n 3, 1) := by decide +kernel
theorem dX5_arc_20 : decode cX5_arc 20 = .ok (.sipush 1000, 3) := by decide +kernel
theorem dX5_arc_23 : decode cX5_arc 23 = .ok (.if_icmp .le 6, 3) := by decide +kernel
theorem dX5_arc_26 : decode cX5_arc 26 = .ok (.bipush (-2), 2) := by decide +kernel
theorem dX5_arc_28 : decode cX5_arc 28 = .ok (.ireturn, 1) := by decide +kernel
theorem dX5_arc_29 : decode cX5_arc 29 = .ok (.aload_n 0, 1) := by decide +kernel
theorem dX5_arc_30 : decode cX5_arc 30 = .ok (.getfield 10, 3) := by decide +kernel
theorem dX5_arc_33 : decode cX5_arc 33 = .ok (.getfield 62, 3) := by decide +kernel
theorem dX5_arc_36 : decode cX5_arc 36 = .ok (.bipush 50, 2) := by decide +kernel
theorem dX5_arc_38 : decode cX5_arc 38 = .ok (.if_icmp .lt 8, 3) := by decide +kernel
theorem dX5_arc_41 : decode cX5_arc 41 = .ok (.bipush (-4), 2) := by decide +kernel
theorem dX5_arc_43 : decode cX5_arc 43 = .ok (.goto 13, 3) := by decide +kernel
theorem dX5_arc_46 : decode cX5_arc 46 = .ok (.aload_n 0, 1) := by decide +kernel
theorem dX5_arc_47 : decode cX5_arc 47 = .ok (.getfield 10, 3) := by decide +kernel
theorem dX5_arc_50 : decode cX5_arc 50 = .ok (.iload_n 1, 1) := by decide +kernel
theorem dX5_arc_51 : decode cX5_arc 51 = .ok (.iload_n 2, 1) := by decide +kernel
theorem dX5_arc_52 : decode cX5_arc 52 = .ok (.iload_n 3, 1) := by decide +kernel
theorem dX5_arc_53 : decode cX5_arc 53 = .ok (.invokevirtual 65, 3) := by decide +kernel
theorem dX5_arc_56 : decode cX5_arc 56 = .ok (.ireturn, 1) := by decide +kernel
theorem dX5_drop_0 : decode cX5_drop 0 = .ok (.aload_n 0, 1) := by decide +kernel
theorem dX5_drop_1 : decode cX5_drop 1 = .ok (.getfield 10, 3) := by decide +kernel
theorem dX5_drop_4 : decode cX5_drop 4 = .ok (.iload_n 1, 1) := by decide +kernel
theorem dX5_drop_5 : decode cX5_drop 5 = .ok (.invokevirtual 69, 3) := by decide +kernel
theorem dX5_drop_8 : decode cX5_drop 8 = .ok (.ifCond .eq 14, 3) := by decide +kernel
theorem dX5_drop_11 : decode cX5_drop 11 = .ok (.aload_n 0, 1) := by decide +kernel
theorem dX5_drop_12 : decode cX5_drop 12 = .ok (.getfield 10, 3) := by decide +kernel
theorem dX5_drop_15 : decode cX5_drop 15 = .ok (.iload_n 1, 1) := by decide +kernel
theorem dX5_drop_16 : decode cX5_drop 16 = .ok (.invokevirtual 73, 3) := by decide +kernel
theorem dX5_drop_19 : decode cX5_drop 19 = .ok (.goto 4, 3) := by decide +kernel
theorem dX5_drop_22 : decode cX5_drop 22 = .ok (.iconst (-1), 1) := by decide +kernel
theorem dX5_drop_23 : decode cX5_drop 23 = .ok (.ireturn, 1) := by decide +kernel
theorem dX5_clear_0 : decode cX5_clear 0 = .ok (.aload_n 0, 1) := by decide +kernel
theorem dX5_clear_1 : decode cX5_clear 1 = .ok (.getfield 10, 3) := by decide +kernel
theorem dX5_clear_4 : decode cX5_clear 4 = .ok (.invokevirtual 77, 3) := by decide +kernel
theorem dX5_clear_7 : decode cX5_clear 7 = .ok (.ireturn, 1) := by decide +kernel
theorem dX5_cut_0 : decode cX5_cut 0 = .ok (.aload_n 0, 1) := by decide +kernel
theorem dX5_cut_1 : decode cX5_cut 1 = .ok (.getfield 10, 3) := by decide +kernel
theorem dX5_cut_4 : decode cX5_cut 4 = .ok (.iload_n 1, 1) := by decide +kernel
theorem dX5_cut_5 : decode cX5_cut 5 = .ok (.invokevirtual 80, 3) := by decide +kernel
theorem dX5_cut_8 : decode cX5_cut 8 = .ok (.ifCond .eq 14, 3) := by decide +kernel
theorem dX5_cut_11 : decode cX5_cut 11 = .ok (.aload_n 0, 1) := by decide +kernel
theorem dX5_cut_12 : decode cX5_cut 12 = .ok (.getfield 10, 3) := by decide +kernel
theorem dX5_cut_15 : decode cX5_cut 15 = .ok (.iload_n 1, 1) := by decide +kernel
theorem dX5_cut_16 : decode cX5_cut 16 = .ok (.invokevirtual 83, 3) := by decide +kernel
theorem dX5_cut_19 : decode cX5_cut 19 = .ok (.goto 5, 3) := by decide +kernel
theorem dX5_cut_22 : decode cX5_cut 22 = .ok (.bipush (-2), 2) := by decide +kernel
theorem dX5_cut_24 : decode cX5_cut 24 = .ok (.ireturn, 1) := by decide +kernel
theorem dX5_pair_0 : decode cX5_pair 0 = .ok (.aload_n 0, 1) := by decide +kernel
theorem dX5_pair_1 : decode cX5_pair 1 = .ok (.getfield 10, 3) := by decide +kernel
theorem dX5_pair_4 : decode cX5_pair 4 = .ok (.iload_n 1, 1) := by decide +kernel
theorem dX5_pair_5 : decode cX5_pair 5 = .ok (.iload_n 2, 1) := by decide +kernel
theorem dX5_pair_6 : decode cX5_pair 6 = .ok (.invokevirtual 58, 3) := by decide +kernel
theorem dX5_pair_9 : decode cX5_pair 9 = .ok (.ifCond .eq 15, 3) := by decide +kernel
theorem dX5_pair_12 : decode cX5_pair 12 = .ok (.aload_n 0, 1) := by decide +kernel
theorem dX5_pair_13 : decode cX5_pair 13 = .ok (.invokevirtual 86, 3) := by decide +kernel
theorem dX5_pair_16 : decode cX5_pair 16 = .ok (.iload_n 1, 1) := by decide +kernel
theorem dX5_pair_17 : decode cX5_pair 17 = .ok (.iload_n 2, 1) := by decide +kernel
theorem dX5_pair_18 : decode cX5_pair 18 = .ok (.invokevirtual 90, 3) := by decide +kernel
theorem dX5_pair_21 : decode cX5_pair 21 = .ok (.goto 4, 3) := by decide +kernel
theorem dX5_pair_24 : decode cX5_pair 24 = .ok (.iconst (-1), 1) := by decide +kernel
theorem dX5_pair_25 : decode cX5_pair 25 = .ok (.ireturn, 1) := by decide +kernel
theorem dX5_side_0 : decode cX5_side 0 = .ok (.aload_n 0, 1) := by decide +kernel
theorem dX5_side_1 : decode cX5_side 1 = .ok (.getfield 10, 3) := by decide +kernel
theorem dX5_side_4 : decode cX5_side 4 = .ok (.iload_n 1, 1) := by decide +kernel
theorem dX5_side_5 : decode cX5_side 5 = .ok (.iload_n 2, 1) := by decide +kernel
theorem dX5_side_6 : decode cX5_side 6 = .ok (.invokevirtual 58, 3) := by decide +kernel
theorem dX5_side_9 : decode cX5_side 9 = .ok (.ifCond .eq 15, 3) := by decide +kernel
theorem dX5_side_12 : decode cX5_side 12 = .ok (.aload_n 0, 1) := by decide +kernel
theorem dX5_side_13 : decode cX5_side 13 = .ok (.invokevirtual 86, 3) := by decide +kernel
theorem dX5_side_16 : decode cX5_side 16 = .ok (.iload_n 1, 1) := by decide +kernel
theorem dX5_side_17 : decode cX5_side 17 = .ok (.iload_n 2, 1) := by decide +kernel
theorem dX5_side_18 : decode cX5_side 18 = .ok (.invokevirtual 94, 3) := by decide +kernel
theorem dX5_side_21 : decode cX5_side 21 = .ok (.goto 4, 3) := by decide +kernel
theorem dX5_side_24 : decode cX5_side 24 = .ok (.iconst (-1), 1) := by decide +kernel
theorem dX5_side_25 : decode cX5_side 25 = .ok (.ireturn, 1) := by decide +kernel
theorem dX5_parent_0 : decode cX5_parent 0 = .ok (.aload_n 0, 1) := by decide +kernel
theorem dX5_parent_1 : decode cX5_parent 1 = .ok (.getfield 10, 3) := by decide +kernel
theorem dX5_parent_4 : decode cX5_parent 4 = .ok (.iload_n 1, 1) := by decide +kernel
theorem dX5_parent_5 : decode cX5_parent 5 = .ok (.invokevirtual 97, 3) := by decide +kernel
theorem dX5_parent_8 : decode cX5_parent 8 = .ok (.ifCond .ne 5, 3) := by decide +kernel
theorem dX5_parent_11 : decode cX5_parent 11 = .ok (.iconst (-1), 1) := by decide +kernel
theorem dX5_parent_12 : decode cX5_parent 12 = .ok (.ireturn, 1) := by decide +kernel
theorem dX5_parent_13 : decode cX5_parent 13 = .ok (.iload_n 1, 1) := by decide +kernel
theorem dX5_parent_14 : decode cX5_parent 14 = .ok (.ifCond .ne 8, 3) := by decide +kernel
theorem dX5_parent_17 : decode cX5_parent 17 = .ok (.bipush (-3), 2) := by decide +kernel
theorem dX5_parent_19 : decode cX5_parent 19 = .ok (.goto 12, 3) := by decide +kernel
theorem dX5_parent_22 : decode cX5_parent 22 = .ok (.aload_n 0, 1) := by decide +kernel
theorem dX5_parent_23 : decode cX5_parent 23 = .ok (.invokevirtual 100, 3) := by decide +kernel
theorem dX5_parent_26 : decode cX5_parent 26 = .ok (.getfield 104, 3) := by decide +kernel
theorem dX5_parent_29 : decode cX5_parent 29 = .ok (.iload_n 1, 1) := by decide +kernel
theorem dX5_parent_30 : decode cX5_parent 30 = .ok (.iaload, 1) := by decide +kernel
theorem dX5_parent_31 : decode cX5_parent 31 = .ok (.ireturn, 1) := by decide +kernel
theorem dX5_branch_0 : decode cX5_branch 0 = .ok (.aload_n 0, 1) := by decide +kernel
theorem dX5_branch_1 : decode cX5_branch 1 = .ok (.getfield 10, 3) := by decide +kernel
theorem dX5_branch_4 : decode cX5_branch 4 = .ok (.iload_n 1, 1) := by decide +kernel
theorem dX5_branch_5 : decode cX5_branch 5 = .ok (.invokevirtual 97, 3) := by decide +kernel
theorem dX5_branch_8 : decode cX5_branch 8 = .ok (.ifCond .ne 5, 3) := by decide +kernel
theorem dX5_branch_11 : decode cX5_branch 11 = .ok (.iconst (-1), 1) := by decide +kernel
theorem dX5_branch_12 : decode cX5_branch 12 = .ok (.ireturn, 1) := by decide +kernel
theorem dX5_branch_13 : decode cX5_branch 13 = .ok (.iload_n 1, 1) := by decide +kernel
theorem dX5_branch_14 : decode cX5_branch 14 = .ok (.ifCond .ne 8, 3) := by decide +kernel
theorem dX5_branch_17 : decode cX5_branch 17 = .ok (.bipush (-3), 2) := by decide +kernel
theorem dX5_branch_19 : decode cX5_branch 19 = .ok (.goto 12, 3) := by decide +kernel
theorem dX5_branch_22 : decode cX5_branch 22 = .ok (.aload_n 0, 1) := by decide +kernel
theorem dX5_branch_23 : decode cX5_branch 23 = .ok (.invokevirtual 100, 3) := by decide +kernel
theorem dX5_branch_26 : decode cX5_branch 26 = .ok (.getfield 108, 3) := by decide +kernel
theorem dX5_branch_29 : decode cX5_branch 29 = .ok (.iload_n 1, 1) := by decide +kernel
theorem dX5_branch_30 : decode cX5_branch 30 = .ok (.iaload, 1) := by decide +kernel
theorem dX5_branch_31 : decode cX5_branch 31 = .ok (.ireturn, 1) := by decide +kernel
theorem dX5_way_0 : decode cX5_way 0 = .ok (.aload_n 0, 1) := by decide +kernel
theorem dX5_way_1 : decode cX5_way 1 = .ok (.getfield 10, 3) := by decide +kernel
theorem dX5_way_4 : decode cX5_way 4 = .ok (.iload_n 1, 1) := by decide +kernel
theorem dX5_way_5 : decode cX5_way 5 = .ok (.iload_n 2, 1) := by decide +kernel
theorem dX5_way_6 : decode cX5_way 6 = .ok (.invokevirtual 58, 3) := by decide +kernel
theorem dX5_way_9 : decode cX5_way 9 = .ok (.ifCond .eq 15, 3) := by decide +kernel
theorem dX5_way_12 : decode cX5_way 12 = .ok (.aload_n 0, 1) := by decide +kernel
theorem dX5_way_13 : decode cX5_way 13 = .ok (.invokevirtual 100, 3) := by decide +kernel
theorem dX5_way_16 : decode cX5_way 16 = .ok (.iload_n 1, 1) := by decide +kernel
theorem dX5_way_17 : decode cX5_way 17 = .ok (.iload_n 2, 1) := by decide +kernel
theorem dX5_way_18 : decode cX5_way 18 = .ok (.invokevirtual 111, 3) := by decide +kernel
theorem dX5_way_21 : decode cX5_way 21 = .ok (.goto 4, 3) := by decide +kernel
theorem dX5_way_24 : decode cX5_way 24 = .ok (.iconst (-1), 1) := by decide +kernel
theorem dX5_way_25 : decode cX5_way 25 = .ok (.ireturn, 1) := by decide +kernel
theorem dX5_least_0 : decode cX5_least 0 = .ok (.aload_n 0, 1) := by decide +kernel
theorem dX5_least_1 : decode cX5_least 1 = .ok (.getfield 10, 3) := by decide +kernel
theorem dX5_least_4 : decode cX5_least 4 = .ok (.invokevirtual 114, 3) := by decide +kernel
theorem dX5_least_7 : decode cX5_least 7 = .ok (.ifCond .eq 13, 3) := by decide +kernel
theorem dX5_least_10 : decode cX5_least 10 = .ok (.aload_n 0, 1) := by decide +kernel
theorem dX5_least_11 : decode cX5_least 11 = .ok (.invokevirtual 86, 3) := by decide +kernel
theorem dX5_least_14 : decode cX5_least 14 = .ok (.invokevirtual 118, 3) := by decide +kernel
theorem dX5_least_17 : decode cX5_least 17 = .ok (.goto 5, 3) := by decide +kernel
theorem dX5_least_20 : decode cX5_least 20 = .ok (.bipush (-3), 2) := by decide +kernel
theorem dX5_least_22 : decode cX5_least 22 = .ok (.ireturn, 1) := by decide +kernel
theorem dX5_counted_0 : decode cX5_counted 0 = .ok (.aload_n 0, 1) := by decide +kernel
theorem dX5_counted_1 : decode cX5_counted 1 = .ok (.getfield 10, 3) := by decide +kernel
theorem dX5_counted_4 : decode cX5_counted 4 = .ok (.invokevirtual 114, 3) := by decide +kernel
theorem dX5_counted_7 : decode cX5_counted 7 = .ok (.ifCond .eq 13, 3) := by decide +kernel
theorem dX5_counted_10 : decode cX5_counted 10 = .ok (.aload_n 0, 1) := by decide +kernel
theorem dX5_counted_11 : decode cX5_counted 11 = .ok (.invokevirtual 86, 3) := by decide +kernel
theorem dX5_counted_14 : decode cX5_counted 14 = .ok (.invokevirtual 121, 3) := by decide +kernel
theorem dX5_counted_17 : decode cX5_counted 17 = .ok (.goto 4, 3) := by decide +kernel
theorem dX5_counted_20 : decode cX5_counted 20 = .ok (.iconst 0, 1) := by decide +kernel
theorem dX5_counted_21 : decode cX5_counted 21 = .ok (.ireturn, 1) := by decide +kernel
theorem dX5_every_0 : decode cX5_every 0 = .ok (.aload_n 0, 1) := by decide +kernel
theorem dX5_every_1 : decode cX5_every 1 = .ok (.getfield 10, 3) := by decide +kernel
theorem dX5_every_4 : decode cX5_every 4 = .ok (.invokevirtual 114, 3) := by decide +kernel
theorem dX5_every_7 : decode cX5_every 7 = .ok (.ifCond .eq 18, 3) := by decide +kernel
theorem dX5_every_10 : decode cX5_every 10 = .ok (.iload_n 1, 1) := by decide +kernel
theorem dX5_every_11 : decode cX5_every 11 = .ok (.ifCond .lt 14, 3) := by decide +kernel
theorem dX5_every_14 : decode cX5_every 14 = .ok (.aload_n 0, 1) := by decide +kernel
theorem dX5_every_15 : decode cX5_every 15 = .ok (.invokevirtual 86, 3) := by decide +kernel
theorem dX5_every_18 : decode cX5_every 18 = .ok (.iload_n 1, 1) := by decide +kernel
theorem dX5_every_19 : decode cX5_every 19 = .ok (.invokevirtual 124, 3) := by decide +kernel
theorem dX5_every_22 : decode cX5_every 22 = .ok (.goto 4, 3) := by decide +kernel
theorem dX5_every_25 : decode cX5_every 25 = .ok (.iconst (-1), 1) := by decide +kernel
theorem dX5_every_26 : decode cX5_every 26 = .ok (.ireturn, 1) := by decide +kernel
theorem dX5_drawn_0 : decode cX5_drawn 0 = .ok (.aload_n 0, 1) := by decide +kernel
theorem dX5_drawn_1 : decode cX5_drawn 1 = .ok (.getfield 10, 3) := by decide +kernel
theorem dX5_drawn_4 : decode cX5_drawn 4 = .ok (.invokevirtual 114, 3) := by decide +kernel
theorem dX5_drawn_7 : decode cX5_drawn 7 = .ok (.ifCond .eq 14, 3) := by decide +kernel
theorem dX5_drawn_10 : decode cX5_drawn 10 = .ok (.aload_n 0, 1) := by decide +kernel
theorem dX5_drawn_11 : decode cX5_drawn 11 = .ok (.getfield 37, 3) := by decide +kernel
theorem dX5_drawn_14 : decode cX5_drawn 14 = .ok (.iload_n 1, 1) := by decide +kernel
theorem dX5_drawn_15 : decode cX5_drawn 15 = .ok (.invokevirtual 127, 3) := by decide +kernel
theorem dX5_drawn_18 : decode cX5_drawn 18 = .ok (.goto 5, 3) := by decide +kernel
theorem dX5_drawn_21 : decode cX5_drawn 21 = .ok (.bipush (-3), 2) := by decide +kernel
theorem dX5_drawn_23 : decode cX5_drawn 23 = .ok (.ireturn, 1) := by decide +kernel
theorem dX5_parts_0 : decode cX5_parts 0 = .ok (.aload_n 0, 1) := by decide +kernel
theorem dX5_parts_1 : decode cX5_parts 1 = .ok (.iload_n 1, 1) := by decide +kernel
theorem dX5_parts_2 : decode cX5_parts 2 = .ok (.invokevirtual 130, 3) := by decide +kernel
theorem dX5_parts_5 : decode cX5_parts 5 = .ok (.istore_n 2, 1) := by decide +kernel
theorem dX5_parts_6 : decode cX5_parts 6 = .ok (.iload_n 2, 1) := by decide +kernel
theorem dX5_parts_7 : decode cX5_parts 7 = .ok (.ifCond .ge 7, 3) := by decide +kernel
theorem dX5_parts_10 : decode cX5_parts 10 = .ok (.iload_n 2, 1) := by decide +kernel
theorem dX5_parts_11 : decode cX5_parts 11 = .ok (.goto 11, 3) := by decide +kernel
theorem dX5_parts_14 : decode cX5_parts 14 = .ok (.aload_n 0, 1) := by decide +kernel
theorem dX5_parts_15 : decode cX5_parts 15 = .ok (.iload_n 1, 1) := by decide +kernel
theorem dX5_parts_16 : decode cX5_parts 16 = .ok (.invokevirtual 133, 3) := by decide +kernel
theorem dX5_parts_19 : decode cX5_parts 19 = .ok (.getfield 137, 3) := by decide +kernel
theorem dX5_parts_22 : decode cX5_parts 22 = .ok (.ireturn, 1) := by decide +kernel
theorem dX5_partOf_0 : decode cX5_partOf 0 = .ok (.aload_n 0, 1) := by decide +kernel
theorem dX5_partOf_1 : decode cX5_partOf 1 = .ok (.getfield 10, 3) := by decide +kernel
theorem dX5_partOf_4 : decode cX5_partOf 4 = .ok (.iload_n 2, 1) := by decide +kernel
theorem dX5_partOf_5 : decode cX5_partOf 5 = .ok (.invokevirtual 97, 3) := by decide +kernel
theorem dX5_partOf_8 : decode cX5_partOf 8 = .ok (.ifCond .ne 5, 3) := by decide +kernel
theorem dX5_partOf_11 : decode cX5_partOf 11 = .ok (.iconst (-1), 1) := by decide +kernel
theorem dX5_partOf_12 : decode cX5_partOf 12 = .ok (.ireturn, 1) := by decide +kernel
theorem dX5_partOf_13 : decode cX5_partOf 13 = .ok (.aload_n 0, 1) := by decide +kernel
theorem dX5_partOf_14 : decode cX5_partOf 14 = .ok (.iload_n 1, 1) := by decide +kernel
theorem dX5_partOf_15 : decode cX5_partOf 15 = .ok (.invokevirtual 130, 3) := by decide +kernel
theorem dX5_partOf_18 : decode cX5_partOf 18 = .ok (.istore_n 3, 1) := by decide +kernel
theorem dX5_partOf_19 : decode cX5_partOf 19 = .ok (.iload_n 3, 1) := by decide +kernel
theorem dX5_partOf_20 : decode cX5_partOf 20 = .ok (.ifCond .ge 7, 3) := by decide +kernel
theorem dX5_partOf_23 : decode cX5_partOf 23 = .ok (.iload_n 3, 1) := by decide +kernel
theorem dX5_partOf_24 : decode cX5_partOf 24 = .ok (.goto 13, 3) := by decide +kernel
theorem dX5_partOf_27 : decode cX5_partOf 27 = .ok (.aload_n 0, 1) := by decide +kernel
theorem dX5_partOf_28 : decode cX5_partOf 28 = .ok (.iload_n 1, 1) := by decide +kernel
theorem dX5_partOf_29 : decode cX5_partOf 29 = .ok (.invokevirtual 133, 3) := by decide +kernel
theorem dX5_partOf_32 : decode cX5_partOf 32 = .ok (.getfield 140, 3) := by decide +kernel
theorem dX5_partOf_35 : decode cX5_partOf 35 = .ok (.iload_n 2, 1) := by decide +kernel
theorem dX5_partOf_36 : decode cX5_partOf 36 = .ok (.iaload, 1) := by decide +kernel
theorem dX5_partOf_37 : decode cX5_partOf 37 = .ok (.ireturn, 1) := by decide +kernel
theorem dX5_refusalOfParts_0 : decode cX5_refusalOfParts 0 = .ok (.iload_n 1, 1) := by decide +kernel
theorem dX5_refusalOfParts_1 : decode cX5_refusalOfParts 1 = .ok (.iconst 1, 1) := by decide +kernel
theorem dX5_refusalOfParts_2 : decode cX5_refusalOfParts 2 = .ok (.if_icmp .lt 8, 3) := by decide +kernel
theorem dX5_refusalOfParts_5 : decode cX5_refusalOfParts 5 = .ok (.iload_n 1, 1) := by decide +kernel
theorem dX5_refusalOfParts_6 : decode cX5_refusalOfParts 6 = .ok (.iconst 4, 1) := by decide +kernel
theorem dX5_refusalOfParts_7 : decode cX5_refusalOfParts 7 = .ok (.if_icmp .le 6, 3) := by decide +kernel
theorem dX5_refusalOfParts_10 : decode cX5_refusalOfParts 10 = .ok (.bipush (-2), 2) := by decide +kernel
theorem dX5_refusalOfParts_12 : decode cX5_refusalOfParts 12 = .ok (.ireturn, 1) := by decide +kernel
theorem dX5_refusalOfParts_13 : decode cX5_refusalOfParts 13 = .ok (.aload_n 0, 1) := by decide +kernel
theorem dX5_refusalOfParts_14 : decode cX5_refusalOfParts 14 = .ok (.getfield 10, 3) := by decide +kernel
theorem dX5_refusalOfParts_17 : decode cX5_refusalOfParts 17 = .ok (.getfield 50, 3) := by decide +kernel
theorem dX5_refusalOfParts_20 : decode cX5_refusalOfParts 20 = .ok (.bipush 10, 2) := by decide +kernel
theorem dX5_refusalOfParts_22 : decode cX5_refusalOfParts 22 = .ok (.if_icmp .le 6, 3) := by decide +kernel
theorem dX5_refusalOfParts_25 : decode cX5_refusalOfParts 25 = .ok (.bipush (-4), 2) := by decide +kernel
theorem dX5_refusalOfParts_27 : decode cX5_refusalOfParts 27 = .ok (.ireturn, 1) := by decide +kernel
theorem dX5_refusalOfParts_28 : decode cX5_refusalOfParts 28 = .ok (.aload_n 0, 1) := by decide +kernel
theorem dX5_refusalOfParts_29 : decode cX5_refusalOfParts 29 = .ok (.getfield 10, 3) := by decide +kernel
theorem dX5_refusalOfParts_32 : decode cX5_refusalOfParts 32 = .ok (.getfield 50, 3) := by decide +kernel
theorem dX5_refusalOfParts_35 : decode cX5_refusalOfParts 35 = .ok (.iload_n 1, 1) := by decide +kernel
theorem dX5_refusalOfParts_36 : decode cX5_refusalOfParts 36 = .ok (.if_icmp .ge 8, 3) := by decide +kernel
theorem dX5_refusalOfParts_39 : decode cX5_refusalOfParts 39 = .ok (.bipush (-3), 2) := by decide +kernel
theorem dX5_refusalOfParts_41 : decode cX5_refusalOfParts 41 = .ok (.goto 4, 3) := by decide +kernel
theorem dX5_refusalOfParts_44 : decode cX5_refusalOfParts 44 = .ok (.iconst 0, 1) := by decide +kernel
theorem dX5_refusalOfParts_45 : decode cX5_refusalOfParts 45 = .ok (.ireturn, 1) := by decide +kernel
theorem dX5_sparsest_0 : decode cX5_sparsest 0 = .ok (.aload_n 0, 1) := by decide +kernel
theorem dX5_sparsest_1 : decode cX5_sparsest 1 = .ok (.getfield 10, 3) := by decide +kernel
theorem dX5_sparsest_4 : decode cX5_sparsest 4 = .ok (.invokevirtual 114, 3) := by decide +kernel
theorem dX5_sparsest_7 : decode cX5_sparsest 7 = .ok (.ifCond .eq 13, 3) := by decide +kernel
theorem dX5_sparsest_10 : decode cX5_sparsest 10 = .ok (.aload_n 0, 1) := by decide +kernel
theorem dX5_sparsest_11 : decode cX5_sparsest 11 = .ok (.invokevirtual 86, 3) := by decide +kernel
theorem dX5_sparsest_14 : decode cX5_sparsest 14 = .ok (.invokevirtual 143, 3) := by decide +kernel
theorem dX5_sparsest_17 : decode cX5_sparsest 17 = .ok (.goto 5, 3) := by decide +kernel
theorem dX5_sparsest_20 : decode cX5_sparsest 20 = .ok (.bipush (-3), 2) := by decide +kernel
theorem dX5_sparsest_22 : decode cX5_sparsest 22 = .ok (.ireturn, 1) := by decide +kernel
theorem dX5_share_0 : decode cX5_share 0 = .ok (.iload_n 1, 1) := by decide +kernel
theorem dX5_share_1 : decode cX5_share 1 = .ok (.ifCond .eq 11, 3) := by decide +kernel
theorem dX5_share_4 : decode cX5_share 4 = .ok (.iload_n 1, 1) := by decide +kernel
theorem dX5_share_5 : decode cX5_share 5 = .ok (.iconst 1, 1) := by decide +kernel
theorem dX5_share_6 : decode cX5_share 6 = .ok (.if_icmp .eq 6, 3) := by decide +kernel
theorem dX5_share_9 : decode cX5_share 9 = .ok (.bipush (-2), 2) := by decide +kernel
theorem dX5_share_11 : decode cX5_share 11 = .ok (.ireturn, 1) := by decide +kernel
theorem dX5_share_12 : decode cX5_share 12 = .ok (.aload_n 0, 1) := by decide +kernel
theorem dX5_share_13 : decode cX5_share 13 = .ok (.getfield 10, 3) := by decide +kernel
theorem dX5_share_16 : decode cX5_share 16 = .ok (.invokevirtual 114, 3) := by decide +kernel
theorem dX5_share_19 : decode cX5_share 19 = .ok (.ifCond .ne 6, 3) := by decide +kernel
theorem dX5_share_22 : decode cX5_share 22 = .ok (.bipush (-3), 2) := by decide +kernel
theorem dX5_share_24 : decode cX5_share 24 = .ok (.ireturn, 1) := by decide +kernel
theorem dX5_share_25 : decode cX5_share 25 = .ok (.aload_n 0, 1) := by decide +kernel
theorem dX5_share_26 : decode cX5_share 26 = .ok (.invokevirtual 86, 3) := by decide +kernel
theorem dX5_share_29 : decode cX5_share 29 = .ok (.invokevirtual 143, 3) := by decide +kernel
theorem dX5_share_32 : decode cX5_share 32 = .ok (.istore_n 2, 1) := by decide +kernel
theorem dX5_share_33 : decode cX5_share 33 = .ok (.aload_n 0, 1) := by decide +kernel
theorem dX5_share_34 : decode cX5_share 34 = .ok (.getfield 21, 3) := by decide +kernel
theorem dX5_share_37 : decode cX5_share 37 = .ok (.iload_n 2, 1) := by decide +kernel
theorem dX5_share_38 : decode cX5_share 38 = .ok (.invokevirtual 146, 3) := by decide +kernel
theorem dX5_share_41 : decode cX5_share 41 = .ok (.istore_n 3, 1) := by decide +kernel
theorem dX5_share_42 : decode cX5_share 42 = .ok (.aload_n 0, 1) := by decide +kernel
theorem dX5_share_43 : decode cX5_share 43 = .ok (.getfield 10, 3) := by decide +kernel
theorem dX5_share_46 : decode cX5_share 46 = .ok (.iload_n 2, 1) := by decide +kernel
theorem dX5_share_47 : decode cX5_share 47 = .ok (.invokevirtual 149, 3) := by decide +kernel
theorem dX5_share_50 : decode cX5_share 50 = .ok (.istore 4, 2) := by decide +kernel
theorem dX5_share_52 : decode cX5_share 52 = .ok (.iload_n 3, 1) := by decide +kernel
theorem dX5_share_53 : decode cX5_share 53 = .ok (.iload 4, 2) := by decide +kernel
theorem dX5_share_55 : decode cX5_share 55 = .ok (.invokestatic 152, 3) := by decide +kernel
theorem dX5_share_58 : decode cX5_share 58 = .ok (.istore 5, 2) := by decide +kernel
theorem dX5_share_60 : decode cX5_share 60 = .ok (.iload_n 1, 1) := by decide +kernel
theorem dX5_share_61 : decode cX5_share 61 = .ok (.ifCond .ne 7, 3) := by decide +kernel
theorem dX5_share_64 : decode cX5_share 64 = .ok (.iload_n 3, 1) := by decide +kernel
theorem dX5_share_65 : decode cX5_share 65 = .ok (.goto 5, 3) := by decide +kernel
theorem dX5_share_68 : decode cX5_share 68 = .ok (.iload 4, 2) := by decide +kernel
theorem dX5_share_70 : decode cX5_share 70 = .ok (.iload 5, 2) := by decide +kernel
theorem dX5_share_72 : decode cX5_share 72 = .ok (.idiv, 1) := by decide +kernel
theorem dX5_share_73 : decode cX5_share 73 = .ok (.ireturn, 1) := by decide +kernel
theorem dX5_greatestDivisor_0 : decode cX5_greatestDivisor 0 = .ok (.iload_n 1, 1) := by decide +kernel
theorem dX5_greatestDivisor_1 : decode cX5_greatestDivisor 1 = .ok (.istore_n 2, 1) := by decide +kernel
theorem dX5_greatestDivisor_2 : decode cX5_greatestDivisor 2 = .ok (.iload_n 2, 1) := by decide +kernel
theorem dX5_greatestDivisor_3 : decode cX5_greatestDivisor 3 = .ok (.iconst 1, 1) := by decide +kernel
theorem dX5_greatestDivisor_4 : decode cX5_greatestDivisor 4 = .ok (.if_icmp .le 23, 3) := by decide +kernel
theorem dX5_greatestDivisor_7 : decode cX5_greatestDivisor 7 = .ok (.iload_n 0, 1) := by decide +kernel
theorem dX5_greatestDivisor_8 : decode cX5_greatestDivisor 8 = .ok (.iload_n 2, 1) := by decide +kernel
theorem dX5_greatestDivisor_9 : decode cX5_greatestDivisor 9 = .ok (.irem, 1) := by decide +kernel
theorem dX5_greatestDivisor_10 : decode cX5_greatestDivisor 10 = .ok (.ifCond .ne 11, 3) := by decide +kernel
theorem dX5_greatestDivisor_13 : decode cX5_greatestDivisor 13 = .ok (.iload_n 1, 1) := by decide +kernel
theorem dX5_greatestDivisor_14 : decode cX5_greatestDivisor 14 = .ok (.iload_n 2, 1) := by decide +kernel
theorem dX5_greatestDivisor_15 : decode cX5_greatestDivisor 15 = .ok (.irem, 1) := by decide +kernel
theorem dX5_greatestDivisor_16 : decode cX5_greatestDivisor 16 = .ok (.ifCond .ne 5, 3) := by decide +kernel
theorem dX5_greatestDivisor_19 : decode cX5_greatestDivisor 19 = .ok (.iload_n 2, 1) := by decide +kernel
theorem dX5_greatestDivisor_20 : decode cX5_greatestDivisor 20 = .ok (.ireturn, 1) := by decide +kernel
theorem dX5_greatestDivisor_21 : decode cX5_greatestDivisor 21 = .ok (.iinc 2 (-1), 3) := by decide +kernel
theorem dX5_greatestDivisor_24 : decode cX5_greatestDivisor 24 = .ok (.goto (-22), 3) := by decide +kernel
theorem dX5_greatestDivisor_27 : decode cX5_greatestDivisor 27 = .ok (.iconst 1, 1) := by decide +kernel
theorem dX5_greatestDivisor_28 : decode cX5_greatestDivisor 28 = .ok (.ireturn, 1) := by decide +kernel
theorem dX5_bars_0 : decode cX5_bars 0 = .ok (.aload_n 0, 1) := by decide +kernel
theorem dX5_bars_1 : decode cX5_bars 1 = .ok (.iload_n 1, 1) := by decide +kernel
theorem dX5_bars_2 : decode cX5_bars 2 = .ok (.iload_n 2, 1) := by decide +kernel
theorem dX5_bars_3 : decode cX5_bars 3 = .ok (.invokevirtual 155, 3) := by decide +kernel
theorem dX5_bars_6 : decode cX5_bars 6 = .ok (.istore_n 3, 1) := by decide +kernel
theorem dX5_bars_7 : decode cX5_bars 7 = .ok (.iload_n 3, 1) := by decide +kernel
theorem dX5_bars_8 : decode cX5_bars 8 = .ok (.ifCond .ge 7, 3) := by decide +kernel
theorem dX5_bars_11 : decode cX5_bars 11 = .ok (.iload_n 3, 1) := by decide +kernel
theorem dX5_bars_12 : decode cX5_bars 12 = .ok (.goto 7, 3) := by decide +kernel
theorem dX5_bars_15 : decode cX5_bars 15 = .ok (.iload_n 3, 1) := by decide +kernel
theorem dX5_bars_16 : decode cX5_bars 16 = .ok (.invokestatic 158, 3) := by decide +kernel
theorem dX5_bars_19 : decode cX5_bars 19 = .ok (.ireturn, 1) := by decide +kernel
theorem dX5_barSet_0 : decode cX5_barSet 0 = .ok (.aload_n 0, 1) := by decide +kernel
theorem dX5_barSet_1 : decode cX5_barSet 1 = .ok (.getfield 10, 3) := by decide +kernel
theorem dX5_barSet_4 : decode cX5_barSet 4 = .ok (.iload_n 1, 1) := by decide +kernel
theorem dX5_barSet_5 : decode cX5_barSet 5 = .ok (.iload_n 2, 1) := by decide +kernel
theorem dX5_barSet_6 : decode cX5_barSet 6 = .ok (.invokevirtual 58, 3) := by decide +kernel
theorem dX5_barSet_9 : decode cX5_barSet 9 = .ok (.ifCond .ne 5, 3) := by decide +kernel
theorem dX5_barSet_12 : decode cX5_barSet 12 = .ok (.iconst (-1), 1) := by decide +kernel
theorem dX5_barSet_13 : decode cX5_barSet 13 = .ok (.ireturn, 1) := by decide +kernel
theorem dX5_barSet_14 : decode cX5_barSet 14 = .ok (.aload_n 0, 1) := by decide +kernel
theorem dX5_barSet_15 : decode cX5_barSet 15 = .ok (.getfield 10, 3) := by decide +kernel
theorem dX5_barSet_18 : decode cX5_barSet 18 = .ok (.iload_n 1, 1) := by decide +kernel
theorem dX5_barSet_19 : decode cX5_barSet 19 = .ok (.iload_n 2, 1) := by decide +kernel
theorem dX5_barSet_20 : decode cX5_barSet 20 = .ok (.invokevirtual 163, 3) := by decide +kernel
theorem dX5_barSet_23 : decode cX5_barSet 23 = .ok (.ifCond .eq 8, 3) := by decide +kernel
theorem dX5_barSet_26 : decode cX5_barSet 26 = .ok (.bipush (-3), 2) := by decide +kernel
theorem dX5_barSet_28 : decode cX5_barSet 28 = .ok (.goto 12, 3) := by decide +kernel
theorem dX5_barSet_31 : decode cX5_barSet 31 = .ok (.aload_n 0, 1) := by decide +kernel
theorem dX5_barSet_32 : decode cX5_barSet 32 = .ok (.getfield 10, 3) := by decide +kernel
theorem dX5_barSet_35 : decode cX5_barSet 35 = .ok (.iload_n 1, 1) := by decide +kernel
theorem dX5_barSet_36 : decode cX5_barSet 36 = .ok (.iload_n 2, 1) := by decide +kernel
theorem dX5_barSet_37 : decode cX5_barSet 37 = .ok (.invokevirtual 166, 3) := by decide +kernel
theorem dX5_barSet_40 : decode cX5_barSet 40 = .ok (.ireturn, 1) := by decide +kernel
theorem dX5_without_0 : decode cX5_without 0 = .ok (.aload_n 0, 1) := by decide +kernel
theorem dX5_without_1 : decode cX5_without 1 = .ok (.getfield 10, 3) := by decide +kernel
theorem dX5_without_4 : decode cX5_without 4 = .ok (.iload_n 1, 1) := by decide +kernel
theorem dX5_without_5 : decode cX5_without 5 = .ok (.invokevirtual 80, 3) := by decide +kernel
theorem dX5_without_8 : decode cX5_without 8 = .ok (.ifCond .eq 24, 3) := by decide +kernel
theorem dX5_without_11 : decode cX5_without 11 = .ok (.aload_n 0, 1) := by decide +kernel
theorem dX5_without_12 : decode cX5_without 12 = .ok (.getfield 10, 3) := by decide +kernel
theorem dX5_without_15 : decode cX5_without 15 = .ok (.aload_n 0, 1) := by decide +kernel
theorem dX5_without_16 : decode cX5_without 16 = .ok (.getfield 10, 3) := by decide +kernel
theorem dX5_without_19 : decode cX5_without 19 = .ok (.invokevirtual 169, 3) := by decide +kernel
theorem dX5_without_22 : decode cX5_without 22 = .ok (.iload_n 1, 1) := by decide +kernel
theorem dX5_without_23 : decode cX5_without 23 = .ok (.iconst (-1), 1) := by decide +kernel
theorem dX5_without_24 : decode cX5_without 24 = .ok (.ixor, 1) := by decide +kernel
theorem dX5_without_25 : decode cX5_without 25 = .ok (.iand, 1) := by decide +kernel
theorem dX5_without_26 : decode cX5_without 26 = .ok (.invokevirtual 172, 3) := by decide +kernel
theorem dX5_without_29 : decode cX5_without 29 = .ok (.goto 5, 3) := by decide +kernel
theorem dX5_without_32 : decode cX5_without 32 = .ok (.bipush (-2), 2) := by decide +kernel
theorem dX5_without_34 : decode cX5_without 34 = .ok (.ireturn, 1) := by decide +kernel
theorem dX5_freshTable_0 : decode cX5_freshTable 0 = .ok (.aload_n 0, 1) := by decide +kernel
theorem dX5_freshTable_1 : decode cX5_freshTable 1 = .ok (.getfield 21, 3) := by decide +kernel
theorem dX5_freshTable_4 : decode cX5_freshTable 4 = .ok (.invokevirtual 175, 3) := by decide +kernel
theorem dX5_freshTable_7 : decode cX5_freshTable 7 = .ok (.aload_n 0, 1) := by decide +kernel
theorem dX5_freshTable_8 : decode cX5_freshTable 8 = .ok (.getfield 21, 3) := by decide +kernel
theorem dX5_freshTable_11 : decode cX5_freshTable 11 = .ok (.areturn, 1) := by decide +kernel
theorem dX5_freshTree_0 : decode cX5_freshTree 0 = .ok (.aload_n 0, 1) := by decide +kernel
theorem dX5_freshTree_1 : decode cX5_freshTree 1 = .ok (.getfield 21, 3) := by decide +kernel
theorem dX5_freshTree_4 : decode cX5_freshTree 4 = .ok (.invokevirtual 175, 3) := by decide +kernel
theorem dX5_freshTree_7 : decode cX5_freshTree 7 = .ok (.aload_n 0, 1) := by decide +kernel
theorem dX5_freshTree_8 : decode cX5_freshTree 8 = .ok (.getfield 30, 3) := by decide +kernel
theorem dX5_freshTree_11 : decode cX5_freshTree 11 = .ok (.invokevirtual 178, 3) := by decide +kernel
theorem dX5_freshTree_14 : decode cX5_freshTree 14 = .ok (.aload_n 0, 1) := by decide +kernel
theorem dX5_freshTree_15 : decode cX5_freshTree 15 = .ok (.getfield 30, 3) := by decide +kernel
theorem dX5_freshTree_18 : decode cX5_freshTree 18 = .ok (.areturn, 1) := by decide +kernel
theorem dX5_freshParting_0 : decode cX5_freshParting 0 = .ok (.aload_n 0, 1) := by decide +kernel
theorem dX5_freshParting_1 : decode cX5_freshParting 1 = .ok (.getfield 43, 3) := by decide +kernel
theorem dX5_freshParting_4 : decode cX5_freshParting 4 = .ok (.iload_n 1, 1) := by decide +kernel
theorem dX5_freshParting_5 : decode cX5_freshParting 5 = .ok (.iconst 1, 1) := by decide +kernel
theorem dX5_freshParting_6 : decode cX5_freshParting 6 = .ok (.isub, 1) := by decide +kernel
theorem dX5_freshParting_7 : decode cX5_freshParting 7 = .ok (.aaload, 1) := by decide +kernel
theorem dX5_freshParting_8 : decode cX5_freshParting 8 = .ok (.invokevirtual 179, 3) := by decide +kernel
theorem dX5_freshParting_11 : decode cX5_freshParting 11 = .ok (.aload_n 0, 1) := by decide +kernel
theorem dX5_freshParting_12 : decode cX5_freshParting 12 = .ok (.getfield 43, 3) := by decide +kernel
theorem dX5_freshParting_15 : decode cX5_freshParting 15 = .ok (.iload_n 1, 1) := by decide +kernel
theorem dX5_freshParting_16 : decode cX5_freshParting 16 = .ok (.iconst 1, 1) := by decide +kernel
theorem dX5_freshParting_17 : decode cX5_freshParting 17 = .ok (.isub, 1) := by decide +kernel
theorem dX5_freshParting_18 : decode cX5_freshParting 18 = .ok (.aaload, 1) := by decide +kernel
theorem dX5_freshParting_19 : decode cX5_freshParting 19 = .ok (.areturn, 1) := by decide +kernel
theorem dX5_nextWithin_0 : decode cX5_nextWithin 0 = .ok (.iload_n 1, 1) := by decide +kernel
theorem dX5_nextWithin_1 : decode cX5_nextWithin 1 = .ok (.iload_n 0, 1) := by decide +kernel
theorem dX5_nextWithin_2 : decode cX5_nextWithin 2 = .ok (.isub, 1) := by decide +kernel
theorem dX5_nextWithin_3 : decode cX5_nextWithin 3 = .ok (.iload_n 0, 1) := by decide +kernel
theorem dX5_nextWithin_4 : decode cX5_nextWithin 4 = .ok (.iand, 1) := by decide +kernel
theorem dX5_nextWithin_5 : decode cX5_nextWithin 5 = .ok (.ireturn, 1) := by decide +kernel
theorem dJI_bitCount_0 : decode cJI_bitCount 0 = .ok (.iload_n 0, 1) := by decide +kernel
theorem dJI_bitCount_1 : decode cJI_bitCount 1 = .ok (.iload_n 0, 1) := by decide +kernel
theorem dJI_bitCount_2 : decode cJI_bitCount 2 = .ok (.iconst 1, 1) := by decide +kernel
theorem dJI_bitCount_3 : decode cJI_bitCount 3 = .ok (.iushr, 1) := by decide +kernel
theorem dJI_bitCount_4 : decode cJI_bitCount 4 = .ok (.ldc_w 265, 3) := by decide +kernel
theorem dJI_bitCount_7 : decode cJI_bitCount 7 = .ok (.iand, 1) := by decide +kernel
theorem dJI_bitCount_8 : decode cJI_bitCount 8 = .ok (.isub, 1) := by decide +kernel
theorem dJI_bitCount_9 : decode cJI_bitCount 9 = .ok (.istore_n 0, 1) := by decide +kernel
theorem dJI_bitCount_10 : decode cJI_bitCount 10 = .ok (.iload_n 0, 1) := by decide +kernel
theorem dJI_bitCount_11 : decode cJI_bitCount 11 = .ok (.ldc_w 266, 3) := by decide +kernel
theorem dJI_bitCount_14 : decode cJI_bitCount 14 = .ok (.iand, 1) := by decide +kernel
theorem dJI_bitCount_15 : decode cJI_bitCount 15 = .ok (.iload_n 0, 1) := by decide +kernel
theorem dJI_bitCount_16 : decode cJI_bitCount 16 = .ok (.iconst 2, 1) := by decide +kernel
theorem dJI_bitCount_17 : decode cJI_bitCount 17 = .ok (.iushr, 1) := by decide +kernel
theorem dJI_bitCount_18 : decode cJI_bitCount 18 = .ok (.ldc_w 266, 3) := by decide +kernel
theorem dJI_bitCount_21 : decode cJI_bitCount 21 = .ok (.iand, 1) := by decide +kernel
theorem dJI_bitCount_22 : decode cJI_bitCount 22 = .ok (.iadd, 1) := by decide +kernel
theorem dJI_bitCount_23 : decode cJI_bitCount 23 = .ok (.istore_n 0, 1) := by decide +kernel
theorem dJI_bitCount_24 : decode cJI_bitCount 24 = .ok (.iload_n 0, 1) := by decide +kernel
theorem dJI_bitCount_25 : decode cJI_bitCount 25 = .ok (.iload_n 0, 1) := by decide +kernel
theorem dJI_bitCount_26 : decode cJI_bitCount 26 = .ok (.iconst 4, 1) := by decide +kernel
theorem dJI_bitCount_27 : decode cJI_bitCount 27 = .ok (.iushr, 1) := by decide +kernel
theorem dJI_bitCount_28 : decode cJI_bitCount 28 = .ok (.iadd, 1) := by decide +kernel
theorem dJI_bitCount_29 : decode cJI_bitCount 29 = .ok (.ldc_w 267, 3) := by decide +kernel
theorem dJI_bitCount_32 : decode cJI_bitCount 32 = .ok (.iand, 1) := by decide +kernel
theorem dJI_bitCount_33 : decode cJI_bitCount 33 = .ok (.istore_n 0, 1) := by decide +kernel
theorem dJI_bitCount_34 : decode cJI_bitCount 34 = .ok (.iload_n 0, 1) := by decide +kernel
theorem dJI_bitCount_35 : decode cJI_bitCount 35 = .ok (.iload_n 0, 1) := by decide +kernel
theorem dJI_bitCount_36 : decode cJI_bitCount 36 = .ok (.bipush 8, 2) := by decide +kernel
theorem dJI_bitCount_38 : decode cJI_bitCount 38 = .ok (.iushr, 1) := by decide +kernel
theorem dJI_bitCount_39 : decode cJI_bitCount 39 = .ok (.iadd, 1) := by decide +kernel
theorem dJI_bitCount_40 : decode cJI_bitCount 40 = .ok (.istore_n 0, 1) := by decide +kernel
theorem dJI_bitCount_41 : decode cJI_bitCount 41 = .ok (.iload_n 0, 1) := by decide +kernel
theorem dJI_bitCount_42 : decode cJI_bitCount 42 = .ok (.iload_n 0, 1) := by decide +kernel
theorem dJI_bitCount_43 : decode cJI_bitCount 43 = .ok (.bipush 16, 2) := by decide +kernel
theorem dJI_bitCount_45 : decode cJI_bitCount 45 = .ok (.iushr, 1) := by decide +kernel
theorem dJI_bitCount_46 : decode cJI_bitCount 46 = .ok (.iadd, 1) := by decide +kernel
theorem dJI_bitCount_47 : decode cJI_bitCount 47 = .ok (.istore_n 0, 1) := by decide +kernel
theorem dJI_bitCount_48 : decode cJI_bitCount 48 = .ok (.iload_n 0, 1) := by decide +kernel
theorem dJI_bitCount_49 : decode cJI_bitCount 49 = .ok (.bipush 63, 2) := by decide +kernel
theorem dJI_bitCount_51 : decode cJI_bitCount 51 = .ok (.iand, 1) := by decide +kernel
theorem dJI_bitCount_52 : decode cJI_bitCount 52 = .ok (.ireturn, 1) := by decide +kernel
end
section
/-! decode rows: by program -/
theorem dX6_init_0 : decode cX6_init 0 = .ok (.aload_n 0, 1) := by decide +kernel
theorem dX6_init_1 : decode cX6_init 1 = .ok (.invokespecial 1, 3) := by decide +kernel
theorem dX6_init_4 : decode cX6_init 4 = .ok (.aload_n 0, 1) := by decide +kernel
theorem dX6_init_5 : decode cX6_init 5 = .ok (.bipush 50, 2) := by decide +kernel
theorem dX6_init_7 : decode cX6_init 7 = .ok (.newarray .int, 2) := by decide +kernel
theorem dX6_init_9 : decode cX6_init 9 = .ok (.putfield 7, 3) := by decide +kernel
theorem dX6_init_12 : decode cX6_init 12 = .ok (.aload_n 0, 1) := by decide +kernel
theorem dX6_init_13 : decode cX6_init 13 = .ok (.bipush 50, 2) := by decide +kernel
theorem dX6_init_15 : decode cX6_init 15 = .ok (.newarray .int, 2) := by decide +kernel
theorem dX6_init_17 : decode cX6_init 17 = .ok (.putfield 13, 3) := by decide +kernel
theorem dX6_init_20 : decode cX6_init 20 = .ok (.aload_n 0, 1) := by decide +kernel
theorem dX6_init_21 : decode cX6_init 21 = .ok (.bipush 50, 2) := by decide +kernel
theorem dX6_init_23 : decode cX6_init 23 = .ok (.newarray .int, 2) := by decide +kernel
theorem dX6_init_25 : decode cX6_init 25 = .ok (.putfield 16, 3) := by decide +kernel
theorem dX6_init_28 : decode cX6_init 28 = .ok (.aload_n 0, 1) := by decide +kernel
theorem dX6_init_29 : decode cX6_init 29 = .ok (.bipush 50, 2) := by decide +kernel
theorem dX6_init_31 : decode cX6_init 31 = .ok (.newarray .boolean, 2) := by decide +kernel
theorem dX6_init_33 : decode cX6_init 33 = .ok (.putfield 19, 3) := by decide +kernel
theorem dX6_init_36 : decode cX6_init 36 = .ok (.aload_n 0, 1) := by decide +kernel
theorem dX6_init_37 : decode cX6_init 37 = .ok (.sipush 144, 3) := by decide +kernel
theorem dX6_init_40 : decode cX6_init 40 = .ok (.newarray .int, 2) := by decide +kernel
theorem dX6_init_42 : decode cX6_init 42 = .ok (.putfield 23, 3) := by decide +kernel
theorem dX6_init_45 : decode cX6_init 45 = .ok (.aload_n 0, 1) := by decide +kernel
theorem dX6_init_46 : decode cX6_init 46 = .ok (.bipush 12, 2) := by decide +kernel
theorem dX6_init_48 : decode cX6_init 48 = .ok (.newarray .int, 2) := by decide +kernel
theorem dX6_init_50 : decode cX6_init 50 = .ok (.putfield 26, 3) := by decide +kernel
theorem dX6_init_53 : decode cX6_init 53 = .ok (.aload_n 0, 1) := by decide +kernel
theorem dX6_init_54 : decode cX6_init 54 = .ok (.sipush 4096, 3) := by decide +kernel
theorem dX6_init_57 : decode cX6_init 57 = .ok (.newarray .int, 2) := by decide +kernel
theorem dX6_init_59 : decode cX6_init 59 = .ok (.putfield 29, 3) := by decide +kernel
theorem dX6_init_62 : decode cX6_init 62 = .ok (.aload_n 0, 1) := by decide +kernel
theorem dX6_init_63 : decode cX6_init 63 = .ok (.bipush 12, 2) := by decide +kernel
theorem dX6_init_65 : decode cX6_init 65 = .ok (.newarray .int, 2) := by decide +kernel
theorem dX6_init_67 : decode cX6_init 67 = .ok (.putfield 32, 3) := by decide +kernel
theorem dX6_init_70 : decode cX6_init 70 = .ok (.aload_n 0, 1) := by decide +kernel
theorem dX6_init_71 : decode cX6_init 71 = .ok (.bipush 12, 2) := by decide +kernel
theorem dX6_init_73 : decode cX6_init 73 = .ok (.newarray .int, 2) := by decide +kernel
theorem dX6_init_75 : decode cX6_init 75 = .ok (.putfield 35, 3) := by decide +kernel
theorem dX6_init_78 : decode cX6_init 78 = .ok (.aload_n 0, 1) := by decide +kernel
theorem dX6_init_79 : decode cX6_init 79 = .ok (.iconst 5, 1) := by decide +kernel
theorem dX6_init_80 : decode cX6_init 80 = .ok (.newarray .int, 2) := by decide +kernel
theorem dX6_init_82 : decode cX6_init 82 = .ok (.putfield 38, 3) := by decide +kernel
theorem dX6_init_85 : decode cX6_init 85 = .ok (.aload_n 0, 1) := by decide +kernel
theorem dX6_init_86 : decode cX6_init 86 = .ok (.iconst 5, 1) := by decide +kernel
theorem dX6_init_87 : decode cX6_init 87 = .ok (.newarray .boolean, 2) := by decide +kernel
theorem dX6_init_89 : decode cX6_init 89 = .ok (.putfield 41, 3) := by decide +kernel
theorem dX6_init_92 : decode cX6_init 92 = .ok (.aload_n 0, 1) := by decide +kernel
theorem dX6_init_93 : decode cX6_init 93 = .ok (.bipush 60, 2) := by decide +kernel
theorem dX6_init_95 : decode cX6_init 95 = .ok (.newarray .int, 2) := by decide +kernel
theorem dX6_init_97 : decode cX6_init 97 = .ok (.putfield 44, 3) := by decide +kernel
theorem dX6_init_100 : decode cX6_init 100 = .ok (.aload_n 0, 1) := by decide +kernel
theorem dX6_init_101 : decode cX6_init 101 = .ok (.bipush 12, 2) := by decide +kernel
theorem dX6_init_103 : decode cX6_init 103 = .ok (.newarray .int, 2) := by decide +kernel
theorem dX6_init_105 : decode cX6_init 105 = .ok (.putfield 47, 3) := by decide +kernel
theorem dX6_init_108 : decode cX6_init 108 = .ok (.aload_n 0, 1) := by decide +kernel
theorem dX6_init_109 : decode cX6_init 109 = .ok (.bipush 13, 2) := by decide +kernel
theorem dX6_init_111 : decode cX6_init 111 = .ok (.newarray .int, 2) := by decide +kernel
theorem dX6_init_113 : decode cX6_init 113 = .ok (.putfield 50, 3) := by decide +kernel
theorem dX6_init_116 : decode cX6_init 116 = .ok (.aload_n 0, 1) := by decide +kernel
theorem dX6_init_117 : decode cX6_init 117 = .ok (.bipush 13, 2) := by decide +kernel
theorem dX6_init_119 : decode cX6_init 119 = .ok (.newarray .int, 2) := by decide +kernel
theorem dX6_init_121 : decode cX6_init 121 = .ok (.putfield 53, 3) := by decide +kernel
theorem dX6_init_124 : decode cX6_init 124 = .ok (.return_, 1) := by decide +kernel
theorem dX6_changed_0 : decode cX6_changed 0 = .ok (.aload_n 0, 1) := by decide +kernel
theorem dX6_changed_1 : decode cX6_changed 1 = .ok (.iconst 1, 1) := by decide +kernel
theorem dX6_changed_2 : decode cX6_changed 2 = .ok (.putfield 56, 3) := by decide +kernel
theorem dX6_changed_5 : decode cX6_changed 5 = .ok (.iconst 0, 1) := by decide +kernel
theorem dX6_changed_6 : decode cX6_changed 6 = .ok (.istore_n 1, 1) := by decide +kernel
theorem dX6_changed_7 : decode cX6_changed 7 = .ok (.iload_n 1, 1) := by decide +kernel
theorem dX6_changed_8 : decode cX6_changed 8 = .ok (.iconst 5, 1) := by decide +kernel
theorem dX6_changed_9 : decode cX6_changed 9 = .ok (.if_icmp .ge 16, 3) := by decide +kernel
theorem dX6_changed_12 : decode cX6_changed 12 = .ok (.aload_n 0, 1) := by decide +kernel
theorem dX6_changed_13 : decode cX6_changed 13 = .ok (.getfield 41, 3) := by decide +kernel
theorem dX6_changed_16 : decode cX6_changed 16 = .ok (.iload_n 1, 1) := by decide +kernel
theorem dX6_changed_17 : decode cX6_changed 17 = .ok (.iconst 1, 1) := by decide +kernel
theorem dX6_changed_18 : decode cX6_changed 18 = .ok (.bastore, 1) := by decide +kernel
theorem dX6_changed_19 : decode cX6_changed 19 = .ok (.iinc 1 1, 3) := by decide +kernel
theorem dX6_changed_22 : decode cX6_changed 22 = .ok (.goto (-15), 3) := by decide +kernel
theorem dX6_changed_25 : decode cX6_changed 25 = .ok (.return_, 1) := by decide +kernel
theorem dX6_node_0 : decode cX6_node 0 = .ok (.aload_n 0, 1) := by decide +kernel
theorem dX6_node_1 : decode cX6_node 1 = .ok (.getfield 60, 3) := by decide +kernel
theorem dX6_node_4 : decode cX6_node 4 = .ok (.bipush 12, 2) := by decide +kernel
theorem dX6_node_6 : decode cX6_node 6 = .ok (.if_icmp .ne 6, 3) := by decide +kernel
theorem dX6_node_9 : decode cX6_node 9 = .ok (.bipush (-4), 2) := by decide +kernel
theorem dX6_node_11 : decode cX6_node 11 = .ok (.ireturn, 1) := by decide +kernel
theorem dX6_node_12 : decode cX6_node 12 = .ok (.aload_n 0, 1) := by decide +kernel
theorem dX6_node_13 : decode cX6_node 13 = .ok (.invokevirtual 64, 3) := by decide +kernel
theorem dX6_node_16 : decode cX6_node 16 = .ok (.aload_n 0, 1) := by decide +kernel
theorem dX6_node_17 : decode cX6_node 17 = .ok (.dup, 1) := by decide +kernel
theorem dX6_node_18 : decode cX6_node 18 = .ok (.getfield 60, 3) := by decide +kernel
theorem dX6_node_21 : decode cX6_node 21 = .ok (.iconst 1, 1) := by decide +kernel
theorem dX6_node_22 : decode cX6_node 22 = .ok (.iadd, 1) := by decide +kernel
theorem dX6_node_23 : decode cX6_node 23 = .ok (.putfield 60, 3) := by decide +kernel
theorem dX6_node_26 : decode cX6_node 26 = .ok (.aload_n 0, 1) := by decide +kernel
theorem dX6_node_27 : decode cX6_node 27 = .ok (.getfield 60, 3) := by decide +kernel
theorem dX6_node_30 : decode cX6_node 30 = .ok (.iconst 1, 1) := by decide +kernel
theorem dX6_node_31 : decode cX6_node 31 = .ok (.isub, 1) := by decide +kernel
theorem dX6_node_32 : decode cX6_node 32 = .ok (.ireturn, 1) := by decide +kernel
theorem dX6_areTwo_0 : decode cX6_areTwo 0 = .ok (.iload_n 1, 1) := by decide +kernel
theorem dX6_areTwo_1 : decode cX6_areTwo 1 = .ok (.ifCond .lt 32, 3) := by decide +kernel
theorem dX6_areTwo_4 : decode cX6_areTwo 4 = .ok (.iload_n 1, 1) := by decide +kernel
theorem dX6_areTwo_5 : decode cX6_areTwo 5 = .ok (.aload_n 0, 1) := by decide +kernel
theorem dX6_areTwo_6 : decode cX6_areTwo 6 = .ok (.getfield 60, 3) := by decide +kernel
theorem dX6_areTwo_9 : decode cX6_areTwo 9 = .ok (.if_icmp .ge 24, 3) := by decide +kernel
theorem dX6_areTwo_12 : decode cX6_areTwo 12 = .ok (.iload_n 2, 1) := by decide +kernel
theorem dX6_areTwo_13 : decode cX6_areTwo 13 = .ok (.ifCond .lt 20, 3) := by decide +kernel
theorem dX6_areTwo_16 : decode cX6_areTwo 16 = .ok (.iload_n 2, 1) := by decide +kernel
theorem dX6_areTwo_17 : decode cX6_areTwo 17 = .ok (.aload_n 0, 1) := by decide +kernel
theorem dX6_areTwo_18 : decode cX6_areTwo 18 = .ok (.getfield 60, 3) := by decide +kernel
theorem dX6_areTwo_21 : decode cX6_areTwo 21 = .ok (.if_icmp .ge 12, 3) := by decide +kernel
theorem dX6_areTwo_24 : decode cX6_areTwo 24 = .ok (.iload_n 1, 1) := by decide +kernel
theorem dX6_areTwo_25 : decode cX6_areTwo 25 = .ok (.iload_n 2, 1) := by decide +kernel
theorem dX6_areTwo_26 : decode cX6_areTwo 26 = .ok (.if_icmp .eq 7, 3) := by decide +kernel
theorem dX6_areTwo_29 : decode cX6_areTwo 29 = .ok (.iconst 1, 1) := by decide +kernel
theorem dX6_areTwo_30 : decode cX6_areTwo 30 = .ok (.goto 4, 3) := by decide +kernel
theorem dX6_areTwo_33 : decode cX6_areTwo 33 = .ok (.iconst 0, 1) := by decide +kernel
theorem dX6_areTwo_34 : decode cX6_areTwo 34 = .ok (.ireturn, 1) := by decide +kernel
theorem dX6_arc_0 : decode cX6_arc 0 = .ok (.aload_n 0, 1) := by decide +kernel
theorem dX6_arc_1 : decode cX6_arc 1 = .ok (.iload_n 1, 1) := by decide +kernel
theorem dX6_arc_2 : decode cX6_arc 2 = .ok (.iload_n 2, 1) := by decide +kernel
theorem dX6_arc_3 : decode cX6_arc 3 = .ok (.invokevirtual 67, 3) := by decide +kernel
theorem dX6_arc_6 : decode cX6_arc 6 = .ok (.ifCond .ne 5, 3) := by decide +kernel
theorem dX6_arc_9 : decode cX6_arc 9 = .ok (.iconst (-1), 1) := by decide +kernel
theorem dX6_arc_10 : decode cX6_arc 10 = .ok (.ireturn, 1) := by decide +kernel
theorem dX6_arc_11 : decode cX6_arc 11 = .ok (.iload_n 3, 1) := by decide +kernel
theorem dX6_arc_12 : decode cX6_arc 12 = .ok (.iconst 1, 1) := by decide +kernel
theorem dX6_arc_13 : decode cX6_arc 13 = .ok (.if_icmp .lt 10, 3) := by decide +kernel
theorem dX6_arc_16 : decode cX6_arc 16 = .ok (.iload_n 3, 1) := by decide +kernel
theorem dX6_arc_17 : decode cX6_arc 17 = .ok (.sipush 1000, 3) := by decide +kernel
theorem dX6_arc_20 : decode cX6_arc 20 = .ok (.if_icmp .le 6, 3) := by decide +kernel
theorem dX6_arc_23 : decode cX6_arc 23 = .ok (.bipush (-2), 2) := by decide +kernel
theorem dX6_arc_25 : decode cX6_arc 25 = .ok (.ireturn, 1) := by decide +kernel
theorem dX6_arc_26 : decode cX6_arc 26 = .ok (.aload_n 0, 1) := by decide +kernel
theorem dX6_arc_27 : decode cX6_arc 27 = .ok (.getfield 71, 3) := by decide +kernel
theorem dX6_arc_30 : decode cX6_arc 30 = .ok (.bipush 50, 2) := by decide +kernel
theorem dX6_arc_32 : decode cX6_arc 32 = .ok (.if_icmp .ne 6, 3) := by decide +kernel
theorem dX6_arc_35 : decode cX6_arc 35 = .ok (.bipush (-4), 2) := by decide +kernel
theorem dX6_arc_37 : decode cX6_arc 37 = .ok (.ireturn, 1) := by decide +kernel
theorem dX6_arc_38 : decode cX6_arc 38 = .ok (.aload_n 0, 1) := by decide +kernel
theorem dX6_arc_39 : decode cX6_arc 39 = .ok (.getfield 7, 3) := by decide +kernel
theorem dX6_arc_42 : decode cX6_arc 42 = .ok (.aload_n 0, 1) := by decide +kernel
theorem dX6_arc_43 : decode cX6_arc 43 = .ok (.getfield 71, 3) := by decide +kernel
theorem dX6_arc_46 : decode cX6_arc 46 = .ok (.iload_n 1, 1) := by decide +kernel
theorem dX6_arc_47 : decode cX6_arc 47 = .ok (.iastore, 1) := by decide +kernel
theorem dX6_arc_48 : decode cX6_arc 48 = .ok (.aload_n 0, 1) := by decide +kernel
theorem dX6_arc_49 : decode cX6_arc 49 = .ok (.getfield 13, 3) := by decide +kernel
theorem dX6_arc_52 : decode cX6_arc 52 = .ok (.aload_n 0, 1) := by decide +kernel
theorem dX6_arc_53 : decode cX6_arc 53 = .ok (.getfield 71, 3) := by decide +kernel
theorem dX6_arc_56 : decode cX6_arc 56 = .ok (.iload_n 2, 1) := by decide +kernel
theorem dX6_arc_57 : decode cX6_arc 57 = .ok (.iastore, 1) := by decide +kernel
theorem dX6_arc_58 : decode cX6_arc 58 = .ok (.aload_n 0, 1) := by decide +kernel
theorem dX6_arc_59 : decode cX6_arc 59 = .ok (.getfield 16, 3) := by decide +kernel
theorem dX6_arc_62 : decode cX6_arc 62 = .ok (.aload_n 0, 1) := by decide +kernel
theorem dX6_arc_63 : decode cX6_arc 63 = .ok (.getfield 71, 3) := by decide +kernel
theorem dX6_arc_66 : decode cX6_arc 66 = .ok (.iload_n 3, 1) := by decide +kernel
theorem dX6_arc_67 : decode cX6_arc 67 = .ok (.iastore, 1) := by decide +kernel
theorem dX6_arc_68 : decode cX6_arc 68 = .ok (.aload_n 0, 1) := by decide +kernel
theorem dX6_arc_69 : decode cX6_arc 69 = .ok (.getfield 19, 3) := by decide +kernel
theorem dX6_arc_72 : decode cX6_arc 72 = .ok (.aload_n 0, 1) := by decide +kernel
theorem dX6_arc_73 : decode cX6_arc 73 = .ok (.getfield 71, 3) := by decide +kernel
theorem dX6_arc_76 : decode cX6_arc 76 = .ok (.iconst 1, 1) := by decide +kernel
theorem dX6_arc_77 : decode cX6_arc 77 = .ok (.bastore, 1) := by decide +kernel
theorem dX6_arc_78 : decode cX6_arc 78 = .ok (.aload_n 0, 1) := by decide +kernel
theorem dX6_arc_79 : decode cX6_arc 79 = .ok (.dup, 1) := by decide +kernel
theorem dX6_arc_80 : decode cX6_arc 80 = .ok (.getfield 71, 3) := by decide +kernel
theorem dX6_arc_83 : decode cX6_arc 83 = .ok (.iconst 1, 1) := by decide +kernel
theorem dX6_arc_84 : decode cX6_arc 84 = .ok (.iadd, 1) := by decide +kernel
theorem dX6_arc_85 : decode cX6_arc 85 = .ok (.putfield 71, 3) := by decide +kernel
theorem dX6_arc_88 : decode cX6_arc 88 = .ok (.aload_n 0, 1) := by decide +kernel
theorem dX6_arc_89 : decode cX6_arc 89 = .ok (.dup, 1) := by decide +kernel
theorem dX6_arc_90 : decode cX6_arc 90 = .ok (.getfield 74, 3) := by decide +kernel
theorem dX6_arc_93 : decode cX6_arc 93 = .ok (.iconst 1, 1) := by decide +kernel
theorem dX6_arc_94 : decode cX6_arc 94 = .ok (.iadd, 1) := by decide +kernel
theorem dX6_arc_95 : decode cX6_arc 95 = .ok (.putfield 74, 3) := by decide +kernel
theorem dX6_arc_98 : decode cX6_arc 98 = .ok (.aload_n 0, 1) := by decide +kernel
theorem dX6_arc_99 : decode cX6_arc 99 = .ok (.invokevirtual 64, 3) := by decide +kernel
theorem dX6_arc_102 : decode cX6_arc 102 = .ok (.aload_n 0, 1) := by decide +kernel
theorem dX6_arc_103 : decode cX6_arc 103 = .ok (.getfield 71, 3) := by decide +kernel
theorem dX6_arc_106 : decode cX6_arc 106 = .ok (.iconst 1, 1) := by decide +kernel
theorem dX6_arc_107 : decode cX6_arc 107 = .ok (.isub, 1) := by decide +kernel
theorem dX6_arc_108 : decode cX6_arc 108 = .ok (.ireturn, 1) := by decide +kernel
theorem dX6_drop_0 : decode cX6_drop 0 = .ok (.iload_n 1, 1) := by decide +kernel
theorem dX6_drop_1 : decode cX6_drop 1 = .ok (.ifCond .lt 20, 3) := by decide +kernel
theorem dX6_drop_4 : decode cX6_drop 4 = .ok (.iload_n 1, 1) := by decide +kernel
theorem dX6_drop_5 : decode cX6_drop 5 = .ok (.aload_n 0, 1) := by decide +kernel
theorem dX6_drop_6 : decode cX6_drop 6 = .ok (.getfield 71, 3) := by decide +kernel
theorem dX6_drop_9 : decode cX6_drop 9 = .ok (.if_icmp .ge 12, 3) := by decide +kernel
theorem dX6_drop_12 : decode cX6_drop 12 = .ok (.aload_n 0, 1) := by decide +kernel
theorem dX6_drop_13 : decode cX6_drop 13 = .ok (.getfield 19, 3) := by decide +kernel
theorem dX6_drop_16 : decode cX6_drop 16 = .ok (.iload_n 1, 1) := by decide +kernel
theorem dX6_drop_17 : decode cX6_drop 17 = .ok (.baload, 1) := by decide +kernel
theorem dX6_drop_18 : decode cX6_drop 18 = .ok (.ifCond .ne 5, 3) := by decide +kernel
theorem dX6_drop_21 : decode cX6_drop 21 = .ok (.iconst (-1), 1) := by decide +kernel
theorem dX6_drop_22 : decode cX6_drop 22 = .ok (.ireturn, 1) := by decide +kernel
theorem dX6_drop_23 : decode cX6_drop 23 = .ok (.aload_n 0, 1) := by decide +kernel
theorem dX6_drop_24 : decode cX6_drop 24 = .ok (.getfield 19, 3) := by decide +kernel
theorem dX6_drop_27 : decode cX6_drop 27 = .ok (.iload_n 1, 1) := by decide +kernel
theorem dX6_drop_28 : decode cX6_drop 28 = .ok (.iconst 0, 1) := by decide +kernel
theorem dX6_drop_29 : decode cX6_drop 29 = .ok (.bastore, 1) := by decide +kernel
theorem dX6_drop_30 : decode cX6_drop 30 = .ok (.aload_n 0, 1) := by decide +kernel
theorem dX6_drop_31 : decode cX6_drop 31 = .ok (.dup, 1) := by decide +kernel
theorem dX6_drop_32 : decode cX6_drop 32 = .ok (.getfield 74, 3) := by decide +kernel
theorem dX6_drop_35 : decode cX6_drop 35 = .ok (.iconst 1, 1) := by decide +kernel
theorem dX6_drop_36 : decode cX6_drop 36 = .ok (.isub, 1) := by decide +kernel
theorem dX6_drop_37 : decode cX6_drop 37 = .ok (.putfield 74, 3) := by decide +kernel
theorem dX6_drop_40 : decode cX6_drop 40 = .ok (.aload_n 0, 1) := by decide +kernel
theorem dX6_drop_41 : decode cX6_drop 41 = .ok (.invokevirtual 64, 3) := by decide +kernel
theorem dX6_drop_44 : decode cX6_drop 44 = .ok (.aload_n 0, 1) := by decide +kernel
theorem dX6_drop_45 : decode cX6_drop 45 = .ok (.getfield 74, 3) := by decide +kernel
theorem dX6_drop_48 : decode cX6_drop 48 = .ok (.ireturn, 1) := by decide +kernel
theorem dX6_clear_0 : decode cX6_clear 0 = .ok (.aload_n 0, 1) := by decide +kernel
theorem dX6_clear_1 : decode cX6_clear 1 = .ok (.getfield 60, 3) := by decide +kernel
theorem dX6_clear_4 : decode cX6_clear 4 = .ok (.istore_n 1, 1) := by decide +kernel
theorem dX6_clear_5 : decode cX6_clear 5 = .ok (.aload_n 0, 1) := by decide +kernel
theorem dX6_clear_6 : decode cX6_clear 6 = .ok (.iconst 0, 1) := by decide +kernel
theorem dX6_clear_7 : decode cX6_clear 7 = .ok (.putfield 60, 3) := by decide +kernel
theorem dX6_clear_10 : decode cX6_clear 10 = .ok (.aload_n 0, 1) := by decide +kernel
theorem dX6_clear_11 : decode cX6_clear 11 = .ok (.iconst 0, 1) := by decide +kernel
theorem dX6_clear_12 : decode cX6_clear 12 = .ok (.putfield 71, 3) := by decide +kernel
theorem dX6_clear_15 : decode cX6_clear 15 = .ok (.aload_n 0, 1) := by decide +kernel
theorem dX6_clear_16 : decode cX6_clear 16 = .ok (.iconst 0, 1) := by decide +kernel
theorem dX6_clear_17 : decode cX6_clear 17 = .ok (.putfield 74, 3) := by decide +kernel
theorem dX6_clear_20 : decode cX6_clear 20 = .ok (.aload_n 0, 1) := by decide +kernel
theorem dX6_clear_21 : decode cX6_clear 21 = .ok (.invokevirtual 64, 3) := by decide +kernel
theorem dX6_clear_24 : decode cX6_clear 24 = .ok (.iload_n 1, 1) := by decide +kernel
theorem dX6_clear_25 : decode cX6_clear 25 = .ok (.ireturn, 1) := by decide +kernel
theorem dX6_all_0 : decode cX6_all 0 = .ok (.iconst 1, 1) := by decide +kernel
theorem dX6_all_1 : decode cX6_all 1 = .ok (.aload_n 0, 1) := by decide +kernel
theorem dX6_all_2 : decode cX6_all 2 = .ok (.getfield 60, 3) := by decide +kernel
theorem dX6_all_5 : decode cX6_all 5 = .ok (.ishl, 1) := by decide +kernel
theorem dX6_all_6 : decode cX6_all 6 = .ok (.iconst 1, 1) := by decide +kernel
theorem dX6_all_7 : decode cX6_all 7 = .ok (.isub, 1) := by decide +kernel
theorem dX6_all_8 : decode cX6_all 8 = .ok (.ireturn, 1) := by decide +kernel
theorem dX6_make_0 : decode cX6_make 0 = .ok (.aload_n 0, 1) := by decide +kernel
theorem dX6_make_1 : decode cX6_make 1 = .ok (.getfield 56, 3) := by decide +kernel
theorem dX6_make_4 : decode cX6_make 4 = .ok (.ifCond .ne 4, 3) := by decide +kernel
theorem dX6_make_7 : decode cX6_make 7 = .ok (.return_, 1) := by decide +kernel
theorem dX6_make_8 : decode cX6_make 8 = .ok (.aload_n 0, 1) := by decide +kernel
theorem dX6_make_9 : decode cX6_make 9 = .ok (.iconst 0, 1) := by decide +kernel
theorem dX6_make_10 : decode cX6_make 10 = .ok (.putfield 56, 3) := by decide +kernel
theorem dX6_make_13 : decode cX6_make 13 = .ok (.iconst 0, 1) := by decide +kernel
theorem dX6_make_14 : decode cX6_make 14 = .ok (.istore_n 1, 1) := by decide +kernel
theorem dX6_make_15 : decode cX6_make 15 = .ok (.iload_n 1, 1) := by decide +kernel
theorem dX6_make_16 : decode cX6_make 16 = .ok (.sipush 144, 3) := by decide +kernel
theorem dX6_make_19 : decode cX6_make 19 = .ok (.if_icmp .ge 16, 3) := by decide +kernel
theorem dX6_make_22 : decode cX6_make 22 = .ok (.aload_n 0, 1) := by decide +kernel
theorem dX6_make_23 : decode cX6_make 23 = .ok (.getfield 23, 3) := by decide +kernel
theorem dX6_make_26 : decode cX6_make 26 = .ok (.iload_n 1, 1) := by decide +kernel
theorem dX6_make_27 : decode cX6_make 27 = .ok (.iconst 0, 1) := by decide +kernel
theorem dX6_make_28 : decode cX6_make 28 = .ok (.iastore, 1) := by decide +kernel
theorem dX6_make_29 : decode cX6_make 29 = .ok (.iinc 1 1, 3) := by decide +kernel
theorem dX6_make_32 : decode cX6_make 32 = .ok (.goto (-17), 3) := by decide +kernel
theorem dX6_make_35 : decode cX6_make 35 = .ok (.iconst 0, 1) := by decide +kernel
theorem dX6_make_36 : decode cX6_make 36 = .ok (.istore_n 1, 1) := by decide +kernel
theorem dX6_make_37 : decode cX6_make 37 = .ok (.iload_n 1, 1) := by decide +kernel
theorem dX6_make_38 : decode cX6_make 38 = .ok (.bipush 12, 2) := by decide +kernel
theorem dX6_make_40 : decode cX6_make 40 = .ok (.if_icmp .ge 16, 3) := by decide +kernel
theorem dX6_make_43 : decode cX6_make 43 = .ok (.aload_n 0, 1) := by decide +kernel
theorem dX6_make_44 : decode cX6_make 44 = .ok (.getfield 26, 3) := by decide +kernel
theorem dX6_make_47 : decode cX6_make 47 = .ok (.iload_n 1, 1) := by decide +kernel
theorem dX6_make_48 : decode cX6_make 48 = .ok (.iconst 0, 1) := by decide +kernel
theorem dX6_make_49 : decode cX6_make 49 = .ok (.iastore, 1) := by decide +kernel
theorem dX6_make_50 : decode cX6_make 50 = .ok (.iinc 1 1, 3) := by decide +kernel
theorem dX6_make_53 : decode cX6_make 53 = .ok (.goto (-16), 3) := by decide +kernel
theorem dX6_make_56 : decode cX6_make 56 = .ok (.iconst 0, 1) := by decide +kernel
theorem dX6_make_57 : decode cX6_make 57 = .ok (.istore_n 1, 1) := by decide +kernel
theorem dX6_make_58 : decode cX6_make 58 = .ok (.iload_n 1, 1) := by decide +kernel
theorem dX6_make_59 : decode cX6_make 59 = .ok (.aload_n 0, 1) := by decide +kernel
theorem dX6_make_60 : decode cX6_make 60 = .ok (.getfield 71, 3) := by decide +kernel
theorem dX6_make_63 : decode cX6_make 63 = .ok (.if_icmp .ge 122, 3) := by decide +kernel
theorem dX6_make_66 : decode cX6_make 66 = .ok (.aload_n 0, 1) := by decide +kernel
theorem dX6_make_67 : decode cX6_make 67 = .ok (.getfield 19, 3) := by decide +kernel
theorem dX6_make_70 : decode cX6_make 70 = .ok (.iload_n 1, 1) := by decide +kernel
theorem dX6_make_71 : decode cX6_make 71 = .ok (.baload, 1) := by decide +kernel
theorem dX6_make_72 : decode cX6_make 72 = .ok (.ifCond .eq 107, 3) := by decide +kernel
theorem dX6_make_75 : decode cX6_make 75 = .ok (.aload_n 0, 1) := by decide +kernel
theorem dX6_make_76 : decode cX6_make 76 = .ok (.getfield 23, 3) := by decide +kernel
theorem dX6_make_79 : decode cX6_make 79 = .ok (.bipush 12, 2) := by decide +kernel
theorem dX6_make_81 : decode cX6_make 81 = .ok (.aload_n 0, 1) := by decide +kernel
theorem dX6_make_82 : decode cX6_make 82 = .ok (.getfield 7, 3) := by decide +kernel
theorem dX6_make_85 : decode cX6_make 85 = .ok (.iload_n 1, 1) := by decide +kernel
theorem dX6_make_86 : decode cX6_make 86 = .ok (.iaload, 1) := by decide +kernel
theorem dX6_make_87 : decode cX6_make 87 = .ok (.imul, 1) := by decide +kernel
theorem dX6_make_88 : decode cX6_make 88 = .ok (.aload_n 0, 1) := by decide +kernel
theorem dX6_make_89 : decode cX6_make 89 = .ok (.getfield 13, 3) := by decide +kernel
theorem dX6_make_92 : decode cX6_make 92 = .ok (.iload_n 1, 1) := by decide +kernel
theorem dX6_make_93 : decode cX6_make 93 = .ok (.iaload, 1) := by decide +kernel
theorem dX6_make_94 : decode cX6_make 94 = .ok (.iadd, 1) := by decide +kernel
theorem dX6_make_95 : decode cX6_make 95 = .ok (.dup2, 1) := by decide +kernel
theorem dX6_make_96 : decode cX6_make 96 = .ok (.iaload, 1) := by decide +kernel
theorem dX6_make_97 : decode cX6_make 97 = .ok (.aload_n 0, 1) := by decide +kernel
theorem dX6_make_98 : decode cX6_make 98 = .ok (.getfield 16, 3) := by decide +kernel
theorem dX6_make_101 : decode cX6_make 101 = .ok (.iload_n 1, 1) := by decide +kernel
theorem dX6_make_102 : decode cX6_make 102 = .ok (.iaload, 1) := by decide +kernel
theorem dX6_make_103 : decode cX6_make 103 = .ok (.iadd, 1) := by decide +kernel
theorem dX6_make_104 : decode cX6_make 104 = .ok (.iastore, 1) := by decide +kernel
theorem dX6_make_105 : decode cX6_make 105 = .ok (.aload_n 0, 1) := by decide +kernel
theorem dX6_make_106 : decode cX6_make 106 = .ok (.getfield 23, 3) := by decide +kernel
theorem dX6_make_109 : decode cX6_make 109 = .ok (.bipush 12, 2) := by decide +kernel
theorem dX6_make_111 : decode cX6_make 111 = .ok (.aload_n 0, 1) := by decide +kernel
theorem dX6_make_112 : decode cX6_make 112 = .ok (.getfield 13, 3) := by decide +kernel
theorem dX6_make_115 : decode cX6_make 115 = .ok (.iload_n 1, 1) := by decide +kernel
theorem dX6_make_116 : decode cX6_make 116 = .ok (.iaload, 1) := by decide +kernel
theorem dX6_make_117 : decode cX6_make 117 = .ok (.imul, 1) := by decide +kernel
theorem dX6_make_118 : decode cX6_make 118 = .ok (.aload_n 0, 1) := by decide +kernel
theorem dX6_make_119 : decode cX6_make 119 = .ok (.getfield 7, 3) := by decide +kernel
theorem dX6_make_122 : decode cX6_make 122 = .ok (.iload_n 1, 1) := by decide +kernel
theorem dX6_make_123 : decode cX6_make 123 = .ok (.iaload, 1) := by decide +kernel
theorem dX6_make_124 : decode cX6_make 124 = .ok (.iadd, 1) := by decide +kernel
theorem dX6_make_125 : decode cX6_make 125 = .ok (.dup2, 1) := by decide +kernel
theorem dX6_make_126 : decode cX6_make 126 = .ok (.iaload, 1) := by decide +kernel
theorem dX6_make_127 : decode cX6_make 127 = .ok (.aload_n 0, 1) := by decide +kernel
theorem dX6_make_128 : decode cX6_make 128 = .ok (.getfield 16, 3) := by decide +kernel
theorem dX6_make_131 : decode cX6_make 131 = .ok (.iload_n 1, 1) := by decide +kernel
theorem dX6_make_132 : decode cX6_make 132 = .ok (.iaload, 1) := by decide +kernel
theorem dX6_make_133 : decode cX6_make 133 = .ok (.iadd, 1) := by decide +kernel
theorem dX6_make_134 : decode cX6_make 134 = .ok (.iastore, 1) := by decide +kernel
theorem dX6_make_135 : decode cX6_make 135 = .ok (.aload_n 0, 1) := by decide +kernel
theorem dX6_make_136 : decode cX6_make 136 = .ok (.getfield 26, 3) := by decide +kernel
theorem dX6_make_139 : decode cX6_make 139 = .ok (.aload_n 0, 1) := by decide +kernel
theorem dX6_make_140 : decode cX6_make 140 = .ok (.getfield 7, 3) := by decide +kernel
theorem dX6_make_143 : decode cX6_make 143 = .ok (.iload_n 1, 1) := by decide +kernel
theorem dX6_make_144 : decode cX6_make 144 = .ok (.iaload, 1) := by decide +kernel
theorem dX6_make_145 : decode cX6_make 145 = .ok (.dup2, 1) := by decide +kernel
theorem dX6_make_146 : decode cX6_make 146 = .ok (.iaload, 1) := by decide +kernel
theorem dX6_make_147 : decode cX6_make 147 = .ok (.iconst 1, 1) := by decide +kernel
theorem dX6_make_148 : decode cX6_make 148 = .ok (.aload_n 0, 1) := by decide +kernel
theorem dX6_make_149 : decode cX6_make 149 = .ok (.getfield 13, 3) := by decide +kernel
theorem dX6_make_152 : decode cX6_make 152 = .ok (.iload_n 1, 1) := by decide +kernel
theorem dX6_make_153 : decode cX6_make 153 = .ok (.iaload, 1) := by decide +kernel
theorem dX6_make_154 : decode cX6_make 154 = .ok (.ishl, 1) := by decide +kernel
theorem dX6_make_155 : decode cX6_make 155 = .ok (.ior, 1) := by decide +kernel
theorem dX6_make_156 : decode cX6_make 156 = .ok (.iastore, 1) := by decide +kernel
theorem dX6_make_157 : decode cX6_make 157 = .ok (.aload_n 0, 1) := by decide +kernel
theorem dX6_make_158 : decode cX6_make 158 = .ok (.getfield 26, 3) := by decide +kernel
theorem dX6_make_161 : decode cX6_make 161 = .ok (.aload_n 0, 1) := by decide +kernel
theorem dX6_make_162 : decode cX6_make 162 = .ok (.getfield 13, 3) := by decide +kernel
theorem dX6_make_165 : decode cX6_make 165 = .ok (.iload_n 1, 1) := by decide +kernel
theorem dX6_make_166 : decode cX6_make 166 = .ok (.iaload, 1) := by decide +kernel
theorem dX6_make_167 : decode cX6_make 167 = .ok (.dup2, 1) := by decide +kernel
theorem dX6_make_168 : decode cX6_make 168 = .ok (.iaload, 1) := by decide +kernel
theorem dX6_make_169 : decode cX6_make 169 = .ok (.iconst 1, 1) := by decide +kernel
theorem dX6_make_170 : decode cX6_make 170 = .ok (.aload_n 0, 1) := by decide +kernel
theorem dX6_make_171 : decode cX6_make 171 = .ok (.getfield 7, 3) := by decide +kernel
theorem dX6_make_174 : decode cX6_make 174 = .ok (.iload_n 1, 1) := by decide +kernel
theorem dX6_make_175 : decode cX6_make 175 = .ok (.iaload, 1) := by decide +kernel
theorem dX6_make_176 : decode cX6_make 176 = .ok (.ishl, 1) := by decide +kernel
theorem dX6_make_177 : decode cX6_make 177 = .ok (.ior, 1) := by decide +kernel
theorem dX6_make_178 : decode cX6_make 178 = .ok (.iastore, 1) := by decide +kernel
theorem dX6_make_179 : decode cX6_make 179 = .ok (.iinc 1 1, 3) := by decide +kernel
theorem dX6_make_182 : decode cX6_make 182 = .ok (.goto (-124), 3) := by decide +kernel
theorem dX6_make_185 : decode cX6_make 185 = .ok (.aload_n 0, 1) := by decide +kernel
theorem dX6_make_186 : decode cX6_make 186 = .ok (.getfield 29, 3) := by decide +kernel
theorem dX6_make_189 : decode cX6_make 189 = .ok (.iconst 0, 1) := by decide +kernel
theorem dX6_make_190 : decode cX6_make 190 = .ok (.iconst 0, 1) := by decide +kernel
theorem dX6_make_191 : decode cX6_make 191 = .ok (.iastore, 1) := by decide +kernel
theorem dX6_make_192 : decode cX6_make 192 = .ok (.iconst 1, 1) := by decide +kernel
theorem dX6_make_193 : decode cX6_make 193 = .ok (.istore_n 1, 1) := by decide +kernel
theorem dX6_make_194 : decode cX6_make 194 = .ok (.iload_n 1, 1) := by decide +kernel
theorem dX6_make_195 : decode cX6_make 195 = .ok (.aload_n 0, 1) := by decide +kernel
theorem dX6_make_196 : decode cX6_make 196 = .ok (.invokevirtual 77, 3) := by decide +kernel
theorem dX6_make_199 : decode cX6_make 199 = .ok (.if_icmp .gt 110, 3) := by decide +kernel
theorem dX6_make_202 : decode cX6_make 202 = .ok (.iconst 0, 1) := by decide +kernel
theorem dX6_make_203 : decode cX6_make 203 = .ok (.istore_n 2, 1) := by decide +kernel
theorem dX6_make_204 : decode cX6_make 204 = .ok (.iload_n 1, 1) := by decide +kernel
theorem dX6_make_205 : decode cX6_make 205 = .ok (.iload_n 2, 1) := by decide +kernel
theorem dX6_make_206 : decode cX6_make 206 = .ok (.ishr, 1) := by decide +kernel
theorem dX6_make_207 : decode cX6_make 207 = .ok (.iconst 1, 1) := by decide +kernel
theorem dX6_make_208 : decode cX6_make 208 = .ok (.iand, 1) := by decide +kernel
theorem dX6_make_209 : decode cX6_make 209 = .ok (.ifCond .ne 9, 3) := by decide +kernel
theorem dX6_make_212 : decode cX6_make 212 = .ok (.iinc 2 1, 3) := by decide +kernel
theorem dX6_make_215 : decode cX6_make 215 = .ok (.goto (-11), 3) := by decide +kernel
theorem dX6_make_218 : decode cX6_make 218 = .ok (.iload_n 1, 1) := by decide +kernel
theorem dX6_make_219 : decode cX6_make 219 = .ok (.iconst 1, 1) := by decide +kernel
theorem dX6_make_220 : decode cX6_make 220 = .ok (.iload_n 2, 1) := by decide +kernel
theorem dX6_make_221 : decode cX6_make 221 = .ok (.ishl, 1) := by decide +kernel
theorem dX6_make_222 : decode cX6_make 222 = .ok (.iconst (-1), 1) := by decide +kernel
theorem dX6_make_223 : decode cX6_make 223 = .ok (.ixor, 1) := by decide +kernel
theorem dX6_make_224 : decode cX6_make 224 = .ok (.iand, 1) := by decide +kernel
theorem dX6_make_225 : decode cX6_make 225 = .ok (.istore_n 3, 1) := by decide +kernel
theorem dX6_make_226 : decode cX6_make 226 = .ok (.aload_n 0, 1) := by decide +kernel
theorem dX6_make_227 : decode cX6_make 227 = .ok (.getfield 29, 3) := by decide +kernel
theorem dX6_make_230 : decode cX6_make 230 = .ok (.iload_n 3, 1) := by decide +kernel
theorem dX6_make_231 : decode cX6_make 231 = .ok (.iaload, 1) := by decide +kernel
theorem dX6_make_232 : decode cX6_make 232 = .ok (.istore 4, 2) := by decide +kernel
theorem dX6_make_234 : decode cX6_make 234 = .ok (.iconst 0, 1) := by decide +kernel
theorem dX6_make_235 : decode cX6_make 235 = .ok (.istore 5, 2) := by decide +kernel
theorem dX6_make_237 : decode cX6_make 237 = .ok (.iload 5, 2) := by decide +kernel
theorem dX6_make_239 : decode cX6_make 239 = .ok (.aload_n 0, 1) := by decide +kernel
theorem dX6_make_240 : decode cX6_make 240 = .ok (.getfield 60, 3) := by decide +kernel
theorem dX6_make_243 : decode cX6_make 243 = .ok (.if_icmp .ge 52, 3) := by decide +kernel
theorem dX6_make_246 : decode cX6_make 246 = .ok (.iload 4, 2) := by decide +kernel
theorem dX6_make_248 : decode cX6_make 248 = .ok (.iload_n 3, 1) := by decide +kernel
theorem dX6_make_249 : decode cX6_make 249 = .ok (.iload 5, 2) := by decide +kernel
theorem dX6_make_251 : decode cX6_make 251 = .ok (.ishr, 1) := by decide +kernel
theorem dX6_make_252 : decode cX6_make 252 = .ok (.iconst 1, 1) := by decide +kernel
theorem dX6_make_253 : decode cX6_make 253 = .ok (.iand, 1) := by decide +kernel
theorem dX6_make_254 : decode cX6_make 254 = .ok (.iconst 1, 1) := by decide +kernel
theorem dX6_make_255 : decode cX6_make 255 = .ok (.if_icmp .ne 19, 3) := by decide +kernel
theorem dX6_make_258 : decode cX6_make 258 = .ok (.aload_n 0, 1) := by decide +kernel
theorem dX6_make_259 : decode cX6_make 259 = .ok (.getfield 23, 3) := by decide +kernel
theorem dX6_make_262 : decode cX6_make 262 = .ok (.bipush 12, 2) := by decide +kernel
theorem dX6_make_264 : decode cX6_make 264 = .ok (.iload_n 2, 1) := by decide +kernel
theorem dX6_make_265 : decode cX6_make 265 = .ok (.imul, 1) := by decide +kernel
theorem dX6_make_266 : decode cX6_make 266 = .ok (.iload 5, 2) := by decide +kernel
theorem dX6_make_268 : decode cX6_make 268 = .ok (.iadd, 1) := by decide +kernel
theorem dX6_make_269 : decode cX6_make 269 = .ok (.iaload, 1) := by decide +kernel
theorem dX6_make_270 : decode cX6_make 270 = .ok (.ineg, 1) := by decide +kernel
theorem dX6_make_271 : decode cX6_make 271 = .ok (.goto 15, 3) := by decide +kernel
theorem dX6_make_274 : decode cX6_make 274 = .ok (.aload_n 0, 1) := by decide +kernel
theorem dX6_make_275 : decode cX6_make 275 = .ok (.getfield 23, 3) := by decide +kernel
theorem dX6_make_278 : decode cX6_make 278 = .ok (.bipush 12, 2) := by decide +kernel
theorem dX6_make_280 : decode cX6_make 280 = .ok (.iload_n 2, 1) := by decide +kernel
theorem dX6_make_281 : decode cX6_make 281 = .ok (.imul, 1) := by decide +kernel
theorem dX6_make_282 : decode cX6_make 282 = .ok (.iload 5, 2) := by decide +kernel
theorem dX6_make_284 : decode cX6_make 284 = .ok (.iadd, 1) := by decide +kernel
theorem dX6_make_285 : decode cX6_make 285 = .ok (.iaload, 1) := by decide +kernel
theorem dX6_make_286 : decode cX6_make 286 = .ok (.iadd, 1) := by decide +kernel
theorem dX6_make_287 : decode cX6_make 287 = .ok (.istore 4, 2) := by decide +kernel
theorem dX6_make_289 : decode cX6_make 289 = .ok (.iinc 5 1, 3) := by decide +kernel
theorem dX6_make_292 : decode cX6_make 292 = .ok (.goto (-55), 3) := by decide +kernel
theorem dX6_make_295 : decode cX6_make 295 = .ok (.aload_n 0, 1) := by decide +kernel
theorem dX6_make_296 : decode cX6_make 296 = .ok (.getfield 29, 3) := by decide +kernel
theorem dX6_make_299 : decode cX6_make 299 = .ok (.iload_n 1, 1) := by decide +kernel
theorem dX6_make_300 : decode cX6_make 300 = .ok (.iload 4, 2) := by decide +kernel
theorem dX6_make_302 : decode cX6_make 302 = .ok (.iastore, 1) := by decide +kernel
theorem dX6_make_303 : decode cX6_make 303 = .ok (.iinc 1 1, 3) := by decide +kernel
theorem dX6_make_306 : decode cX6_make 306 = .ok (.goto (-112), 3) := by decide +kernel
theorem dX6_make_309 : decode cX6_make 309 = .ok (.aload_n 0, 1) := by decide +kernel
theorem dX6_make_310 : decode cX6_make 310 = .ok (.invokevirtual 81, 3) := by decide +kernel
theorem dX6_make_313 : decode cX6_make 313 = .ok (.return_, 1) := by decide +kernel
theorem dX6_cut_0 : decode cX6_cut 0 = .ok (.iload_n 1, 1) := by decide +kernel
theorem dX6_cut_1 : decode cX6_cut 1 = .ok (.aload_n 0, 1) := by decide +kernel
theorem dX6_cut_2 : decode cX6_cut 2 = .ok (.invokevirtual 77, 3) := by decide +kernel
theorem dX6_cut_5 : decode cX6_cut 5 = .ok (.iconst (-1), 1) := by decide +kernel
theorem dX6_cut_6 : decode cX6_cut 6 = .ok (.ixor, 1) := by decide +kernel
theorem dX6_cut_7 : decode cX6_cut 7 = .ok (.iand, 1) := by decide +kernel
theorem dX6_cut_8 : decode cX6_cut 8 = .ok (.ifCond .eq 6, 3) := by decide +kernel
theorem dX6_cut_11 : decode cX6_cut 11 = .ok (.bipush (-2), 2) := by decide +kernel
theorem dX6_cut_13 : decode cX6_cut 13 = .ok (.ireturn, 1) := by decide +kernel
theorem dX6_cut_14 : decode cX6_cut 14 = .ok (.aload_n 0, 1) := by decide +kernel
theorem dX6_cut_15 : decode cX6_cut 15 = .ok (.invokevirtual 84, 3) := by decide +kernel
theorem dX6_cut_18 : decode cX6_cut 18 = .ok (.aload_n 0, 1) := by decide +kernel
theorem dX6_cut_19 : decode cX6_cut 19 = .ok (.getfield 29, 3) := by decide +kernel
theorem dX6_cut_22 : decode cX6_cut 22 = .ok (.iload_n 1, 1) := by decide +kernel
theorem dX6_cut_23 : decode cX6_cut 23 = .ok (.iaload, 1) := by decide +kernel
theorem dX6_cut_24 : decode cX6_cut 24 = .ok (.ireturn, 1) := by decide +kernel
theorem dX6_sideOf_0 : decode cX6_sideOf 0 = .ok (.aload_n 0, 1) := by decide +kernel
theorem dX6_sideOf_1 : decode cX6_sideOf 1 = .ok (.iconst (-1), 1) := by decide +kernel
theorem dX6_sideOf_2 : decode cX6_sideOf 2 = .ok (.putfield 87, 3) := by decide +kernel
theorem dX6_sideOf_5 : decode cX6_sideOf 5 = .ok (.iconst 0, 1) := by decide +kernel
theorem dX6_sideOf_6 : decode cX6_sideOf 6 = .ok (.istore_n 3, 1) := by decide +kernel
theorem dX6_sideOf_7 : decode cX6_sideOf 7 = .ok (.iconst 1, 1) := by decide +kernel
theorem dX6_sideOf_8 : decode cX6_sideOf 8 = .ok (.istore 4, 2) := by decide +kernel
theorem dX6_sideOf_10 : decode cX6_sideOf 10 = .ok (.iload 4, 2) := by decide +kernel
theorem dX6_sideOf_12 : decode cX6_sideOf 12 = .ok (.aload_n 0, 1) := by decide +kernel
theorem dX6_sideOf_13 : decode cX6_sideOf 13 = .ok (.invokevirtual 77, 3) := by decide +kernel
theorem dX6_sideOf_16 : decode cX6_sideOf 16 = .ok (.if_icmp .ge 85, 3) := by decide +kernel
theorem dX6_sideOf_19 : decode cX6_sideOf 19 = .ok (.iload 4, 2) := by decide +kernel
theorem dX6_sideOf_21 : decode cX6_sideOf 21 = .ok (.iload_n 1, 1) := by decide +kernel
theorem dX6_sideOf_22 : decode cX6_sideOf 22 = .ok (.ishr, 1) := by decide +kernel
theorem dX6_sideOf_23 : decode cX6_sideOf 23 = .ok (.iconst 1, 1) := by decide +kernel
theorem dX6_sideOf_24 : decode cX6_sideOf 24 = .ok (.iand, 1) := by decide +kernel
theorem dX6_sideOf_25 : decode cX6_sideOf 25 = .ok (.iconst 1, 1) := by decide +kernel
theorem dX6_sideOf_26 : decode cX6_sideOf 26 = .ok (.if_icmp .ne 69, 3) := by decide +kernel
theorem dX6_sideOf_29 : decode cX6_sideOf 29 = .ok (.iload 4, 2) := by decide +kernel
theorem dX6_sideOf_31 : decode cX6_sideOf 31 = .ok (.iload_n 2, 1) := by decide +kernel
theorem dX6_sideOf_32 : decode cX6_sideOf 32 = .ok (.ishr, 1) := by decide +kernel
theorem dX6_sideOf_33 : decode cX6_sideOf 33 = .ok (.iconst 1, 1) := by decide +kernel
theorem dX6_sideOf_34 : decode cX6_sideOf 34 = .ok (.iand, 1) := by decide +kernel
theorem dX6_sideOf_35 : decode cX6_sideOf 35 = .ok (.ifCond .ne 60, 3) := by decide +kernel
theorem dX6_sideOf_38 : decode cX6_sideOf 38 = .ok (.aload_n 0, 1) := by decide +kernel
theorem dX6_sideOf_39 : decode cX6_sideOf 39 = .ok (.getfield 87, 3) := by decide +kernel
theorem dX6_sideOf_42 : decode cX6_sideOf 42 = .ok (.ifCond .lt 17, 3) := by decide +kernel
theorem dX6_sideOf_45 : decode cX6_sideOf 45 = .ok (.aload_n 0, 1) := by decide +kernel
theorem dX6_sideOf_46 : decode cX6_sideOf 46 = .ok (.getfield 29, 3) := by decide +kernel
theorem dX6_sideOf_49 : decode cX6_sideOf 49 = .ok (.iload 4, 2) := by decide +kernel
theorem dX6_sideOf_51 : decode cX6_sideOf 51 = .ok (.iaload, 1) := by decide +kernel
theorem dX6_sideOf_52 : decode cX6_sideOf 52 = .ok (.aload_n 0, 1) := by decide +kernel
theorem dX6_sideOf_53 : decode cX6_sideOf 53 = .ok (.getfield 87, 3) := by decide +kernel
theorem dX6_sideOf_56 : decode cX6_sideOf 56 = .ok (.if_icmp .ge 20, 3) := by decide +kernel
theorem dX6_sideOf_59 : decode cX6_sideOf 59 = .ok (.aload_n 0, 1) := by decide +kernel
theorem dX6_sideOf_60 : decode cX6_sideOf 60 = .ok (.aload_n 0, 1) := by decide +kernel
theorem dX6_sideOf_61 : decode cX6_sideOf 61 = .ok (.getfield 29, 3) := by decide +kernel
theorem dX6_sideOf_64 : decode cX6_sideOf 64 = .ok (.iload 4, 2) := by decide +kernel
theorem dX6_sideOf_66 : decode cX6_sideOf 66 = .ok (.iaload, 1) := by decide +kernel
theorem dX6_sideOf_67 : decode cX6_sideOf 67 = .ok (.putfield 87, 3) := by decide +kernel
theorem dX6_sideOf_70 : decode cX6_sideOf 70 = .ok (.iload 4, 2) := by decide +kernel
theorem dX6_sideOf_72 : decode cX6_sideOf 72 = .ok (.istore_n 3, 1) := by decide +kernel
theorem dX6_sideOf_73 : decode cX6_sideOf 73 = .ok (.goto 22, 3) := by decide +kernel
theorem dX6_sideOf_76 : decode cX6_sideOf 76 = .ok (.aload_n 0, 1) := by decide +kernel
theorem dX6_sideOf_77 : decode cX6_sideOf 77 = .ok (.getfield 29, 3) := by decide +kernel
theorem dX6_sideOf_80 : decode cX6_sideOf 80 = .ok (.iload 4, 2) := by decide +kernel
theorem dX6_sideOf_82 : decode cX6_sideOf 82 = .ok (.iaload, 1) := by decide +kernel
theorem dX6_sideOf_83 : decode cX6_sideOf 83 = .ok (.aload_n 0, 1) := by decide +kernel
theorem dX6_sideOf_84 : decode cX6_sideOf 84 = .ok (.getfield 87, 3) := by decide +kernel
theorem dX6_sideOf_87 : decode cX6_sideOf 87 = .ok (.if_icmp .ne 8, 3) := by decide +kernel
theorem dX6_sideOf_90 : decode cX6_sideOf 90 = .ok (.iload_n 3, 1) := by decide +kernel
theorem dX6_sideOf_91 : decode cX6_sideOf 91 = .ok (.iload 4, 2) := by decide +kernel
theorem dX6_sideOf_93 : decode cX6_sideOf 93 = .ok (.iand, 1) := by decide +kernel
theorem dX6_sideOf_94 : decode cX6_sideOf 94 = .ok (.istore_n 3, 1) := by decide +kernel
theorem dX6_sideOf_95 : decode cX6_sideOf 95 = .ok (.iinc 4 1, 3) := by decide +kernel
theorem dX6_sideOf_98 : decode cX6_sideOf 98 = .ok (.goto (-88), 3) := by decide +kernel
theorem dX6_sideOf_101 : decode cX6_sideOf 101 = .ok (.iload_n 3, 1) := by decide +kernel
theorem dX6_sideOf_102 : decode cX6_sideOf 102 = .ok (.ireturn, 1) := by decide +kernel
theorem dX6_tree_0 : decode cX6_tree 0 = .ok (.iconst 0, 1) := by decide +kernel
theorem dX6_tree_1 : decode cX6_tree 1 = .ok (.istore_n 1, 1) := by decide +kernel
theorem dX6_tree_2 : decode cX6_tree 2 = .ok (.iload_n 1, 1) := by decide +kernel
theorem dX6_tree_3 : decode cX6_tree 3 = .ok (.aload_n 0, 1) := by decide +kernel
theorem dX6_tree_4 : decode cX6_tree 4 = .ok (.getfield 60, 3) := by decide +kernel
theorem dX6_tree_7 : decode cX6_tree 7 = .ok (.if_icmp .ge 16, 3) := by decide +kernel
theorem dX6_tree_10 : decode cX6_tree 10 = .ok (.aload_n 0, 1) := by decide +kernel
theorem dX6_tree_11 : decode cX6_tree 11 = .ok (.getfield 32, 3) := by decide +kernel
theorem dX6_tree_14 : decode cX6_tree 14 = .ok (.iload_n 1, 1) := by decide +kernel
theorem dX6_tree_15 : decode cX6_tree 15 = .ok (.iconst 0, 1) := by decide +kernel
theorem dX6_tree_16 : decode cX6_tree 16 = .ok (.iastore, 1) := by decide +kernel
theorem dX6_tree_17 : decode cX6_tree 17 = .ok (.iinc 1 1, 3) := by decide +kernel
theorem dX6_tree_20 : decode cX6_tree 20 = .ok (.goto (-18), 3) := by decide +kernel
theorem dX6_tree_23 : decode cX6_tree 23 = .ok (.iconst 1, 1) := by decide +kernel
theorem dX6_tree_24 : decode cX6_tree 24 = .ok (.istore_n 1, 1) := by decide +kernel
theorem dX6_tree_25 : decode cX6_tree 25 = .ok (.iload_n 1, 1) := by decide +kernel
theorem dX6_tree_26 : decode cX6_tree 26 = .ok (.aload_n 0, 1) := by decide +kernel
theorem dX6_tree_27 : decode cX6_tree 27 = .ok (.getfield 60, 3) := by decide +kernel
theorem dX6_tree_30 : decode cX6_tree 30 = .ok (.if_icmp .ge 82, 3) := by decide +kernel
theorem dX6_tree_33 : decode cX6_tree 33 = .ok (.aload_n 0, 1) := by decide +kernel
theorem dX6_tree_34 : decode cX6_tree 34 = .ok (.getfield 32, 3) := by decide +kernel
theorem dX6_tree_37 : decode cX6_tree 37 = .ok (.iload_n 1, 1) := by decide +kernel
theorem dX6_tree_38 : decode cX6_tree 38 = .ok (.iaload, 1) := by decide +kernel
theorem dX6_tree_39 : decode cX6_tree 39 = .ok (.istore_n 2, 1) := by decide +kernel
theorem dX6_tree_40 : decode cX6_tree 40 = .ok (.aload_n 0, 1) := by decide +kernel
theorem dX6_tree_41 : decode cX6_tree 41 = .ok (.iload_n 1, 1) := by decide +kernel
theorem dX6_tree_42 : decode cX6_tree 42 = .ok (.iload_n 2, 1) := by decide +kernel
theorem dX6_tree_43 : decode cX6_tree 43 = .ok (.invokevirtual 90, 3) := by decide +kernel
theorem dX6_tree_46 : decode cX6_tree 46 = .ok (.istore_n 3, 1) := by decide +kernel
theorem dX6_tree_47 : decode cX6_tree 47 = .ok (.aload_n 0, 1) := by decide +kernel
theorem dX6_tree_48 : decode cX6_tree 48 = .ok (.getfield 35, 3) := by decide +kernel
theorem dX6_tree_51 : decode cX6_tree 51 = .ok (.iload_n 1, 1) := by decide +kernel
theorem dX6_tree_52 : decode cX6_tree 52 = .ok (.aload_n 0, 1) := by decide +kernel
theorem dX6_tree_53 : decode cX6_tree 53 = .ok (.getfield 87, 3) := by decide +kernel
theorem dX6_tree_56 : decode cX6_tree 56 = .ok (.iastore, 1) := by decide +kernel
theorem dX6_tree_57 : decode cX6_tree 57 = .ok (.iload_n 1, 1) := by decide +kernel
theorem dX6_tree_58 : decode cX6_tree 58 = .ok (.iconst 1, 1) := by decide +kernel
theorem dX6_tree_59 : decode cX6_tree 59 = .ok (.iadd, 1) := by decide +kernel
theorem dX6_tree_60 : decode cX6_tree 60 = .ok (.istore 4, 2) := by decide +kernel
theorem dX6_tree_62 : decode cX6_tree 62 = .ok (.iload 4, 2) := by decide +kernel
theorem dX6_tree_64 : decode cX6_tree 64 = .ok (.aload_n 0, 1) := by decide +kernel
theorem dX6_tree_65 : decode cX6_tree 65 = .ok (.getfield 60, 3) := by decide +kernel
theorem dX6_tree_68 : decode cX6_tree 68 = .ok (.if_icmp .ge 38, 3) := by decide +kernel
theorem dX6_tree_71 : decode cX6_tree 71 = .ok (.aload_n 0, 1) := by decide +kernel
theorem dX6_tree_72 : decode cX6_tree 72 = .ok (.getfield 32, 3) := by decide +kernel
theorem dX6_tree_75 : decode cX6_tree 75 = .ok (.iload 4, 2) := by decide +kernel
theorem dX6_tree_77 : decode cX6_tree 77 = .ok (.iaload, 1) := by decide +kernel
theorem dX6_tree_78 : decode cX6_tree 78 = .ok (.iload_n 2, 1) := by decide +kernel
theorem dX6_tree_79 : decode cX6_tree 79 = .ok (.if_icmp .ne 21, 3) := by decide +kernel
theorem dX6_tree_82 : decode cX6_tree 82 = .ok (.iload_n 3, 1) := by decide +kernel
theorem dX6_tree_83 : decode cX6_tree 83 = .ok (.iload 4, 2) := by decide +kernel
theorem dX6_tree_85 : decode cX6_tree 85 = .ok (.ishr, 1) := by decide +kernel
theorem dX6_tree_86 : decode cX6_tree 86 = .ok (.iconst 1, 1) := by decide +kernel
theorem dX6_tree_87 : decode cX6_tree 87 = .ok (.iand, 1) := by decide +kernel
theorem dX6_tree_88 : decode cX6_tree 88 = .ok (.iconst 1, 1) := by decide +kernel
theorem dX6_tree_89 : decode cX6_tree 89 = .ok (.if_icmp .ne 11, 3) := by decide +kernel
theorem dX6_tree_92 : decode cX6_tree 92 = .ok (.aload_n 0, 1) := by decide +kernel
theorem dX6_tree_93 : decode cX6_tree 93 = .ok (.getfield 32, 3) := by decide +kernel
theorem dX6_tree_96 : decode cX6_tree 96 = .ok (.iload 4, 2) := by decide +kernel
theorem dX6_tree_98 : decode cX6_tree 98 = .ok (.iload_n 1, 1) := by decide +kernel
theorem dX6_tree_99 : decode cX6_tree 99 = .ok (.iastore, 1) := by decide +kernel
theorem dX6_tree_100 : decode cX6_tree 100 = .ok (.iinc 4 1, 3) := by decide +kernel
theorem dX6_tree_103 : decode cX6_tree 103 = .ok (.goto (-41), 3) := by decide +kernel
theorem dX6_tree_106 : decode cX6_tree 106 = .ok (.iinc 1 1, 3) := by decide +kernel
theorem dX6_tree_109 : decode cX6_tree 109 = .ok (.goto (-84), 3) := by decide +kernel
theorem dX6_tree_112 : decode cX6_tree 112 = .ok (.return_, 1) := by decide +kernel
theorem dX6_pair_0 : decode cX6_pair 0 = .ok (.aload_n 0, 1) := by decide +kernel
theorem dX6_pair_1 : decode cX6_pair 1 = .ok (.iload_n 1, 1) := by decide +kernel
theorem dX6_pair_2 : decode cX6_pair 2 = .ok (.iload_n 2, 1) := by decide +kernel
theorem dX6_pair_3 : decode cX6_pair 3 = .ok (.invokevirtual 67, 3) := by decide +kernel
theorem dX6_pair_6 : decode cX6_pair 6 = .ok (.ifCond .ne 5, 3) := by decide +kernel
theorem dX6_pair_9 : decode cX6_pair 9 = .ok (.iconst (-1), 1) := by decide +kernel
theorem dX6_pair_10 : decode cX6_pair 10 = .ok (.ireturn, 1) := by decide +kernel
theorem dX6_pair_11 : decode cX6_pair 11 = .ok (.aload_n 0, 1) := by decide +kernel
theorem dX6_pair_12 : decode cX6_pair 12 = .ok (.invokevirtual 84, 3) := by decide +kernel
theorem dX6_pair_15 : decode cX6_pair 15 = .ok (.aload_n 0, 1) := by decide +kernel
theorem dX6_pair_16 : decode cX6_pair 16 = .ok (.iload_n 1, 1) := by decide +kernel
theorem dX6_pair_17 : decode cX6_pair 17 = .ok (.iload_n 2, 1) := by decide +kernel
theorem dX6_pair_18 : decode cX6_pair 18 = .ok (.invokevirtual 90, 3) := by decide +kernel
theorem dX6_pair_21 : decode cX6_pair 21 = .ok (.istore_n 3, 1) := by decide +kernel
theorem dX6_pair_22 : decode cX6_pair 22 = .ok (.aload_n 0, 1) := by decide +kernel
theorem dX6_pair_23 : decode cX6_pair 23 = .ok (.getfield 87, 3) := by decide +kernel
theorem dX6_pair_26 : decode cX6_pair 26 = .ok (.ireturn, 1) := by decide +kernel
theorem dX6_side_0 : decode cX6_side 0 = .ok (.aload_n 0, 1) := by decide +kernel
theorem dX6_side_1 : decode cX6_side 1 = .ok (.iload_n 1, 1) := by decide +kernel
theorem dX6_side_2 : decode cX6_side 2 = .ok (.iload_n 2, 1) := by decide +kernel
theorem dX6_side_3 : decode cX6_side 3 = .ok (.invokevirtual 67, 3) := by decide +kernel
theorem dX6_side_6 : decode cX6_side 6 = .ok (.ifCond .ne 5, 3) := by decide +kernel
theorem dX6_side_9 : decode cX6_side 9 = .ok (.iconst (-1), 1) := by decide +kernel
theorem dX6_side_10 : decode cX6_side 10 = .ok (.ireturn, 1) := by decide +kernel
theorem dX6_side_11 : decode cX6_side 11 = .ok (.aload_n 0, 1) := by decide +kernel
theorem dX6_side_12 : decode cX6_side 12 = .ok (.invokevirtual 84, 3) := by decide +kernel
theorem dX6_side_15 : decode cX6_side 15 = .ok (.aload_n 0, 1) := by decide +kernel
theorem dX6_side_16 : decode cX6_side 16 = .ok (.iload_n 1, 1) := by decide +kernel
theorem dX6_side_17 : decode cX6_side 17 = .ok (.iload_n 2, 1) := by decide +kernel
theorem dX6_side_18 : decode cX6_side 18 = .ok (.invokevirtual 90, 3) := by decide +kernel
theorem dX6_side_21 : decode cX6_side 21 = .ok (.ireturn, 1) := by decide +kernel
theorem dX6_ofNode_0 : decode cX6_ofNode 0 = .ok (.iload_n 1, 1) := by decide +kernel
theorem dX6_ofNode_1 : decode cX6_ofNode 1 = .ok (.ifCond .lt 11, 3) := by decide +kernel
theorem dX6_ofNode_4 : decode cX6_ofNode 4 = .ok (.iload_n 1, 1) := by decide +kernel
theorem dX6_ofNode_5 : decode cX6_ofNode 5 = .ok (.aload_n 0, 1) := by decide +kernel
theorem dX6_ofNode_6 : decode cX6_ofNode 6 = .ok (.getfield 60, 3) := by decide +kernel
theorem dX6_ofNode_9 : decode cX6_ofNode 9 = .ok (.if_icmp .lt 5, 3) := by decide +kernel
theorem dX6_ofNode_12 : decode cX6_ofNode 12 = .ok (.iconst (-1), 1) := by decide +kernel
theorem dX6_ofNode_13 : decode cX6_ofNode 13 = .ok (.ireturn, 1) := by decide +kernel
theorem dX6_ofNode_14 : decode cX6_ofNode 14 = .ok (.aload_n 0, 1) := by decide +kernel
theorem dX6_ofNode_15 : decode cX6_ofNode 15 = .ok (.invokevirtual 84, 3) := by decide +kernel
theorem dX6_ofNode_18 : decode cX6_ofNode 18 = .ok (.iload_n 1, 1) := by decide +kernel
theorem dX6_ofNode_19 : decode cX6_ofNode 19 = .ok (.ifCond .ne 8, 3) := by decide +kernel
theorem dX6_ofNode_22 : decode cX6_ofNode 22 = .ok (.bipush (-3), 2) := by decide +kernel
theorem dX6_ofNode_24 : decode cX6_ofNode 24 = .ok (.goto 6, 3) := by decide +kernel
theorem dX6_ofNode_27 : decode cX6_ofNode 27 = .ok (.aload_n 2, 1) := by decide +kernel
theorem dX6_ofNode_28 : decode cX6_ofNode 28 = .ok (.iload_n 1, 1) := by decide +kernel
theorem dX6_ofNode_29 : decode cX6_ofNode 29 = .ok (.iaload, 1) := by decide +kernel
theorem dX6_ofNode_30 : decode cX6_ofNode 30 = .ok (.ireturn, 1) := by decide +kernel
theorem dX6_parent_0 : decode cX6_parent 0 = .ok (.aload_n 0, 1) := by decide +kernel
theorem dX6_parent_1 : decode cX6_parent 1 = .ok (.iload_n 1, 1) := by decide +kernel
theorem dX6_parent_2 : decode cX6_parent 2 = .ok (.aload_n 0, 1) := by decide +kernel
theorem dX6_parent_3 : decode cX6_parent 3 = .ok (.getfield 32, 3) := by decide +kernel
theorem dX6_parent_6 : decode cX6_parent 6 = .ok (.invokevirtual 94, 3) := by decide +kernel
theorem dX6_parent_9 : decode cX6_parent 9 = .ok (.ireturn, 1) := by decide +kernel
theorem dX6_branch_0 : decode cX6_branch 0 = .ok (.aload_n 0, 1) := by decide +kernel
theorem dX6_branch_1 : decode cX6_branch 1 = .ok (.iload_n 1, 1) := by decide +kernel
theorem dX6_branch_2 : decode cX6_branch 2 = .ok (.aload_n 0, 1) := by decide +kernel
theorem dX6_branch_3 : decode cX6_branch 3 = .ok (.getfield 35, 3) := by decide +kernel
theorem dX6_branch_6 : decode cX6_branch 6 = .ok (.invokevirtual 94, 3) := by decide +kernel
theorem dX6_branch_9 : decode cX6_branch 9 = .ok (.ireturn, 1) := by decide +kernel
theorem dX6_up_0 : decode cX6_up 0 = .ok (.iconst 1, 1) := by decide +kernel
theorem dX6_up_1 : decode cX6_up 1 = .ok (.iload_n 1, 1) := by decide +kernel
theorem dX6_up_2 : decode cX6_up 2 = .ok (.ishl, 1) := by decide +kernel
theorem dX6_up_3 : decode cX6_up 3 = .ok (.istore_n 2, 1) := by decide +kernel
theorem dX6_up_4 : decode cX6_up 4 = .ok (.iload_n 1, 1) := by decide +kernel
theorem dX6_up_5 : decode cX6_up 5 = .ok (.istore_n 3, 1) := by decide +kernel
theorem dX6_up_6 : decode cX6_up 6 = .ok (.iload_n 3, 1) := by decide +kernel
theorem dX6_up_7 : decode cX6_up 7 = .ok (.ifCond .le 19, 3) := by decide +kernel
theorem dX6_up_10 : decode cX6_up 10 = .ok (.aload_n 0, 1) := by decide +kernel
theorem dX6_up_11 : decode cX6_up 11 = .ok (.getfield 32, 3) := by decide +kernel
theorem dX6_up_14 : decode cX6_up 14 = .ok (.iload_n 3, 1) := by decide +kernel
theorem dX6_up_15 : decode cX6_up 15 = .ok (.iaload, 1) := by decide +kernel
theorem dX6_up_16 : decode cX6_up 16 = .ok (.istore_n 3, 1) := by decide +kernel
theorem dX6_up_17 : decode cX6_up 17 = .ok (.iload_n 2, 1) := by decide +kernel
theorem dX6_up_18 : decode cX6_up 18 = .ok (.iconst 1, 1) := by decide +kernel
theorem dX6_up_19 : decode cX6_up 19 = .ok (.iload_n 3, 1) := by decide +kernel
theorem dX6_up_20 : decode cX6_up 20 = .ok (.ishl, 1) := by decide +kernel
theorem dX6_up_21 : decode cX6_up 21 = .ok (.ior, 1) := by decide +kernel
theorem dX6_up_22 : decode cX6_up 22 = .ok (.istore_n 2, 1) := by decide +kernel
theorem dX6_up_23 : decode cX6_up 23 = .ok (.goto (-17), 3) := by decide +kernel
theorem dX6_up_26 : decode cX6_up 26 = .ok (.iload_n 2, 1) := by decide +kernel
theorem dX6_up_27 : decode cX6_up 27 = .ok (.ireturn, 1) := by decide +kernel
theorem dX6_way_0 : decode cX6_way 0 = .ok (.aload_n 0, 1) := by decide +kernel
theorem dX6_way_1 : decode cX6_way 1 = .ok (.iload_n 1, 1) := by decide +kernel
theorem dX6_way_2 : decode cX6_way 2 = .ok (.iload_n 2, 1) := by decide +kernel
theorem dX6_way_3 : decode cX6_way 3 = .ok (.invokevirtual 67, 3) := by decide +kernel
theorem dX6_way_6 : decode cX6_way 6 = .ok (.ifCond .ne 5, 3) := by decide +kernel
theorem dX6_way_9 : decode cX6_way 9 = .ok (.iconst (-1), 1) := by decide +kernel
theorem dX6_way_10 : decode cX6_way 10 = .ok (.ireturn, 1) := by decide +kernel
theorem dX6_way_11 : decode cX6_way 11 = .ok (.aload_n 0, 1) := by decide +kernel
theorem dX6_way_12 : decode cX6_way 12 = .ok (.invokevirtual 84, 3) := by decide +kernel
theorem dX6_way_15 : decode cX6_way 15 = .ok (.aload_n 0, 1) := by decide +kernel
theorem dX6_way_16 : decode cX6_way 16 = .ok (.iload_n 1, 1) := by decide +kernel
theorem dX6_way_17 : decode cX6_way 17 = .ok (.invokevirtual 98, 3) := by decide +kernel
theorem dX6_way_20 : decode cX6_way 20 = .ok (.aload_n 0, 1) := by decide +kernel
theorem dX6_way_21 : decode cX6_way 21 = .ok (.iload_n 2, 1) := by decide +kernel
theorem dX6_way_22 : decode cX6_way 22 = .ok (.invokevirtual 98, 3) := by decide +kernel
theorem dX6_way_25 : decode cX6_way 25 = .ok (.ixor, 1) := by decide +kernel
theorem dX6_way_26 : decode cX6_way 26 = .ok (.istore_n 3, 1) := by decide +kernel
theorem dX6_way_27 : decode cX6_way 27 = .ok (.ldc 102, 2) := by decide +kernel
theorem dX6_way_29 : decode cX6_way 29 = .ok (.istore 4, 2) := by decide +kernel
theorem dX6_way_31 : decode cX6_way 31 = .ok (.iconst 1, 1) := by decide +kernel
theorem dX6_way_32 : decode cX6_way 32 = .ok (.istore 5, 2) := by decide +kernel
theorem dX6_way_34 : decode cX6_way 34 = .ok (.iload 5, 2) := by decide +kernel
theorem dX6_way_36 : decode cX6_way 36 = .ok (.aload_n 0, 1) := by decide +kernel
theorem dX6_way_37 : decode cX6_way 37 = .ok (.getfield 60, 3) := by decide +kernel
theorem dX6_way_40 : decode cX6_way 40 = .ok (.if_icmp .ge 40, 3) := by decide +kernel
theorem dX6_way_43 : decode cX6_way 43 = .ok (.iload_n 3, 1) := by decide +kernel
theorem dX6_way_44 : decode cX6_way 44 = .ok (.iload 5, 2) := by decide +kernel
theorem dX6_way_46 : decode cX6_way 46 = .ok (.ishr, 1) := by decide +kernel
theorem dX6_way_47 : decode cX6_way 47 = .ok (.iconst 1, 1) := by decide +kernel
theorem dX6_way_48 : decode cX6_way 48 = .ok (.iand, 1) := by decide +kernel
theorem dX6_way_49 : decode cX6_way 49 = .ok (.iconst 1, 1) := by decide +kernel
theorem dX6_way_50 : decode cX6_way 50 = .ok (.if_icmp .ne 24, 3) := by decide +kernel
theorem dX6_way_53 : decode cX6_way 53 = .ok (.aload_n 0, 1) := by decide +kernel
theorem dX6_way_54 : decode cX6_way 54 = .ok (.getfield 35, 3) := by decide +kernel
theorem dX6_way_57 : decode cX6_way 57 = .ok (.iload 5, 2) := by decide +kernel
theorem dX6_way_59 : decode cX6_way 59 = .ok (.iaload, 1) := by decide +kernel
theorem dX6_way_60 : decode cX6_way 60 = .ok (.iload 4, 2) := by decide +kernel
theorem dX6_way_62 : decode cX6_way 62 = .ok (.if_icmp .ge 12, 3) := by decide +kernel
theorem dX6_way_65 : decode cX6_way 65 = .ok (.aload_n 0, 1) := by decide +kernel
theorem dX6_way_66 : decode cX6_way 66 = .ok (.getfield 35, 3) := by decide +kernel
theorem dX6_way_69 : decode cX6_way 69 = .ok (.iload 5, 2) := by decide +kernel
theorem dX6_way_71 : decode cX6_way 71 = .ok (.iaload, 1) := by decide +kernel
theorem dX6_way_72 : decode cX6_way 72 = .ok (.istore 4, 2) := by decide +kernel
theorem dX6_way_74 : decode cX6_way 74 = .ok (.iinc 5 1, 3) := by decide +kernel
theorem dX6_way_77 : decode cX6_way 77 = .ok (.goto (-43), 3) := by decide +kernel
theorem dX6_way_80 : decode cX6_way 80 = .ok (.iload 4, 2) := by decide +kernel
theorem dX6_way_82 : decode cX6_way 82 = .ok (.ireturn, 1) := by decide +kernel
theorem dX6_leastCut_0 : decode cX6_leastCut 0 = .ok (.aload_n 0, 1) := by decide +kernel
theorem dX6_leastCut_1 : decode cX6_leastCut 1 = .ok (.invokevirtual 84, 3) := by decide +kernel
theorem dX6_leastCut_4 : decode cX6_leastCut 4 = .ok (.iconst (-1), 1) := by decide +kernel
theorem dX6_leastCut_5 : decode cX6_leastCut 5 = .ok (.istore_n 1, 1) := by decide +kernel
theorem dX6_leastCut_6 : decode cX6_leastCut 6 = .ok (.iconst 1, 1) := by decide +kernel
theorem dX6_leastCut_7 : decode cX6_leastCut 7 = .ok (.istore_n 2, 1) := by decide +kernel
theorem dX6_leastCut_8 : decode cX6_leastCut 8 = .ok (.iload_n 2, 1) := by decide +kernel
theorem dX6_leastCut_9 : decode cX6_leastCut 9 = .ok (.aload_n 0, 1) := by decide +kernel
theorem dX6_leastCut_10 : decode cX6_leastCut 10 = .ok (.invokevirtual 77, 3) := by decide +kernel
theorem dX6_leastCut_13 : decode cX6_leastCut 13 = .ok (.if_icmp .ge 30, 3) := by decide +kernel
theorem dX6_leastCut_16 : decode cX6_leastCut 16 = .ok (.iload_n 1, 1) := by decide +kernel
theorem dX6_leastCut_17 : decode cX6_leastCut 17 = .ok (.ifCond .lt 13, 3) := by decide +kernel
theorem dX6_leastCut_20 : decode cX6_leastCut 20 = .ok (.aload_n 0, 1) := by decide +kernel
theorem dX6_leastCut_21 : decode cX6_leastCut 21 = .ok (.getfield 29, 3) := by decide +kernel
theorem dX6_leastCut_24 : decode cX6_leastCut 24 = .ok (.iload_n 2, 1) := by decide +kernel
theorem dX6_leastCut_25 : decode cX6_leastCut 25 = .ok (.iaload, 1) := by decide +kernel
theorem dX6_leastCut_26 : decode cX6_leastCut 26 = .ok (.iload_n 1, 1) := by decide +kernel
theorem dX6_leastCut_27 : decode cX6_leastCut 27 = .ok (.if_icmp .ge 10, 3) := by decide +kernel
theorem dX6_leastCut_30 : decode cX6_leastCut 30 = .ok (.aload_n 0, 1) := by decide +kernel
theorem dX6_leastCut_31 : decode cX6_leastCut 31 = .ok (.getfield 29, 3) := by decide +kernel
theorem dX6_leastCut_34 : decode cX6_leastCut 34 = .ok (.iload_n 2, 1) := by decide +kernel
theorem dX6_leastCut_35 : decode cX6_leastCut 35 = .ok (.iaload, 1) := by decide +kernel
theorem dX6_leastCut_36 : decode cX6_leastCut 36 = .ok (.istore_n 1, 1) := by decide +kernel
theorem dX6_leastCut_37 : decode cX6_leastCut 37 = .ok (.iinc 2 1, 3) := by decide +kernel
theorem dX6_leastCut_40 : decode cX6_leastCut 40 = .ok (.goto (-32), 3) := by decide +kernel
theorem dX6_leastCut_43 : decode cX6_leastCut 43 = .ok (.iload_n 1, 1) := by decide +kernel
theorem dX6_leastCut_44 : decode cX6_leastCut 44 = .ok (.ireturn, 1) := by decide +kernel
end
section
/-! decode rows: by program -/
theorem dX6_least_0 : decode cX6_least 0 = .ok (.aload_n 0, 1) := by decide +kernel
theorem dX6_least_1 : decode cX6_least 1 = .ok (.getfield 60, 3) := by decide +kernel
theorem dX6_least_4 : decode cX6_least 4 = .ok (.iconst 2, 1) := by decide +kernel
theorem dX6_least_5 : decode cX6_least 5 = .ok (.if_icmp .ge 8, 3) := by decide +kernel
theorem dX6_least_8 : decode cX6_least 8 = .ok (.bipush (-3), 2) := by decide +kernel
theorem dX6_least_10 : decode cX6_least 10 = .ok (.goto 7, 3) := by decide +kernel
theorem dX6_least_13 : decode cX6_least 13 = .ok (.aload_n 0, 1) := by decide +kernel
theorem dX6_least_14 : decode cX6_least 14 = .ok (.invokevirtual 103, 3) := by decide +kernel
theorem dX6_least_17 : decode cX6_least 17 = .ok (.ireturn, 1) := by decide +kernel
theorem dX6_leastOne_0 : decode cX6_leastOne 0 = .ok (.aload_n 0, 1) := by decide +kernel
theorem dX6_leastOne_1 : decode cX6_leastOne 1 = .ok (.invokevirtual 103, 3) := by decide +kernel
theorem dX6_leastOne_4 : decode cX6_leastOne 4 = .ok (.istore_n 2, 1) := by decide +kernel
theorem dX6_leastOne_5 : decode cX6_leastOne 5 = .ok (.iconst 0, 1) := by decide +kernel
theorem dX6_leastOne_6 : decode cX6_leastOne 6 = .ok (.istore_n 3, 1) := by decide +kernel
theorem dX6_leastOne_7 : decode cX6_leastOne 7 = .ok (.iconst 2, 1) := by decide +kernel
theorem dX6_leastOne_8 : decode cX6_leastOne 8 = .ok (.istore 4, 2) := by decide +kernel
theorem dX6_leastOne_10 : decode cX6_leastOne 10 = .ok (.iload 4, 2) := by decide +kernel
theorem dX6_leastOne_12 : decode cX6_leastOne 12 = .ok (.aload_n 0, 1) := by decide +kernel
theorem dX6_leastOne_13 : decode cX6_leastOne 13 = .ok (.invokevirtual 77, 3) := by decide +kernel
theorem dX6_leastOne_16 : decode cX6_leastOne 16 = .ok (.if_icmp .gt 39, 3) := by decide +kernel
theorem dX6_leastOne_19 : decode cX6_leastOne 19 = .ok (.aload_n 0, 1) := by decide +kernel
theorem dX6_leastOne_20 : decode cX6_leastOne 20 = .ok (.getfield 60, 3) := by decide +kernel
theorem dX6_leastOne_23 : decode cX6_leastOne 23 = .ok (.iconst 1, 1) := by decide +kernel
theorem dX6_leastOne_24 : decode cX6_leastOne 24 = .ok (.if_icmp .le 31, 3) := by decide +kernel
theorem dX6_leastOne_27 : decode cX6_leastOne 27 = .ok (.aload_n 0, 1) := by decide +kernel
theorem dX6_leastOne_28 : decode cX6_leastOne 28 = .ok (.getfield 29, 3) := by decide +kernel
theorem dX6_leastOne_31 : decode cX6_leastOne 31 = .ok (.iload 4, 2) := by decide +kernel
theorem dX6_leastOne_33 : decode cX6_leastOne 33 = .ok (.iaload, 1) := by decide +kernel
theorem dX6_leastOne_34 : decode cX6_leastOne 34 = .ok (.iload_n 2, 1) := by decide +kernel
theorem dX6_leastOne_35 : decode cX6_leastOne 35 = .ok (.if_icmp .ne 14, 3) := by decide +kernel
theorem dX6_leastOne_38 : decode cX6_leastOne 38 = .ok (.iload_n 3, 1) := by decide +kernel
theorem dX6_leastOne_39 : decode cX6_leastOne 39 = .ok (.iload_n 1, 1) := by decide +kernel
theorem dX6_leastOne_40 : decode cX6_leastOne 40 = .ok (.if_icmp .ne 6, 3) := by decide +kernel
theorem dX6_leastOne_43 : decode cX6_leastOne 43 = .ok (.iload 4, 2) := by decide +kernel
theorem dX6_leastOne_45 : decode cX6_leastOne 45 = .ok (.ireturn, 1) := by decide +kernel
theorem dX6_leastOne_46 : decode cX6_leastOne 46 = .ok (.iinc 3 1, 3) := by decide +kernel
theorem dX6_leastOne_49 : decode cX6_leastOne 49 = .ok (.iinc 4 2, 3) := by decide +kernel
theorem dX6_leastOne_52 : decode cX6_leastOne 52 = .ok (.goto (-42), 3) := by decide +kernel
theorem dX6_leastOne_55 : decode cX6_leastOne 55 = .ok (.iload_n 1, 1) := by decide +kernel
theorem dX6_leastOne_56 : decode cX6_leastOne 56 = .ok (.ifCond .ge 7, 3) := by decide +kernel
theorem dX6_leastOne_59 : decode cX6_leastOne 59 = .ok (.iload_n 3, 1) := by decide +kernel
theorem dX6_leastOne_60 : decode cX6_leastOne 60 = .ok (.goto 4, 3) := by decide +kernel
theorem dX6_leastOne_63 : decode cX6_leastOne 63 = .ok (.iconst (-1), 1) := by decide +kernel
theorem dX6_leastOne_64 : decode cX6_leastOne 64 = .ok (.ireturn, 1) := by decide +kernel
theorem dX6_counted_0 : decode cX6_counted 0 = .ok (.aload_n 0, 1) := by decide +kernel
theorem dX6_counted_1 : decode cX6_counted 1 = .ok (.iconst (-1), 1) := by decide +kernel
theorem dX6_counted_2 : decode cX6_counted 2 = .ok (.invokevirtual 106, 3) := by decide +kernel
theorem dX6_counted_5 : decode cX6_counted 5 = .ok (.ireturn, 1) := by decide +kernel
theorem dX6_every_0 : decode cX6_every 0 = .ok (.iload_n 1, 1) := by decide +kernel
theorem dX6_every_1 : decode cX6_every 1 = .ok (.ifCond .ge 7, 3) := by decide +kernel
theorem dX6_every_4 : decode cX6_every 4 = .ok (.iconst (-1), 1) := by decide +kernel
theorem dX6_every_5 : decode cX6_every 5 = .ok (.goto 8, 3) := by decide +kernel
theorem dX6_every_8 : decode cX6_every 8 = .ok (.aload_n 0, 1) := by decide +kernel
theorem dX6_every_9 : decode cX6_every 9 = .ok (.iload_n 1, 1) := by decide +kernel
theorem dX6_every_10 : decode cX6_every 10 = .ok (.invokevirtual 106, 3) := by decide +kernel
theorem dX6_every_13 : decode cX6_every 13 = .ok (.ireturn, 1) := by decide +kernel
theorem dX6_drawn_0 : decode cX6_drawn 0 = .ok (.aload_n 0, 1) := by decide +kernel
theorem dX6_drawn_1 : decode cX6_drawn 1 = .ok (.getfield 60, 3) := by decide +kernel
theorem dX6_drawn_4 : decode cX6_drawn 4 = .ok (.iconst 2, 1) := by decide +kernel
theorem dX6_drawn_5 : decode cX6_drawn 5 = .ok (.if_icmp .ge 6, 3) := by decide +kernel
theorem dX6_drawn_8 : decode cX6_drawn 8 = .ok (.bipush (-3), 2) := by decide +kernel
theorem dX6_drawn_10 : decode cX6_drawn 10 = .ok (.ireturn, 1) := by decide +kernel
theorem dX6_drawn_11 : decode cX6_drawn 11 = .ok (.iconst 0, 1) := by decide +kernel
theorem dX6_drawn_12 : decode cX6_drawn 12 = .ok (.istore_n 2, 1) := by decide +kernel
theorem dX6_drawn_13 : decode cX6_drawn 13 = .ok (.iload_n 2, 1) := by decide +kernel
theorem dX6_drawn_14 : decode cX6_drawn 14 = .ok (.aload_n 0, 1) := by decide +kernel
theorem dX6_drawn_15 : decode cX6_drawn 15 = .ok (.getfield 60, 3) := by decide +kernel
theorem dX6_drawn_18 : decode cX6_drawn 18 = .ok (.if_icmp .ge 16, 3) := by decide +kernel
theorem dX6_drawn_21 : decode cX6_drawn 21 = .ok (.aload_n 0, 1) := by decide +kernel
theorem dX6_drawn_22 : decode cX6_drawn 22 = .ok (.getfield 47, 3) := by decide +kernel
theorem dX6_drawn_25 : decode cX6_drawn 25 = .ok (.iload_n 2, 1) := by decide +kernel
theorem dX6_drawn_26 : decode cX6_drawn 26 = .ok (.iload_n 2, 1) := by decide +kernel
theorem dX6_drawn_27 : decode cX6_drawn 27 = .ok (.iastore, 1) := by decide +kernel
theorem dX6_drawn_28 : decode cX6_drawn 28 = .ok (.iinc 2 1, 3) := by decide +kernel
theorem dX6_drawn_31 : decode cX6_drawn 31 = .ok (.goto (-18), 3) := by decide +kernel
theorem dX6_drawn_34 : decode cX6_drawn 34 = .ok (.iload_n 1, 1) := by decide +kernel
theorem dX6_drawn_35 : decode cX6_drawn 35 = .ok (.istore_n 2, 1) := by decide +kernel
theorem dX6_drawn_36 : decode cX6_drawn 36 = .ok (.aload_n 0, 1) := by decide +kernel
theorem dX6_drawn_37 : decode cX6_drawn 37 = .ok (.getfield 60, 3) := by decide +kernel
theorem dX6_drawn_40 : decode cX6_drawn 40 = .ok (.istore_n 3, 1) := by decide +kernel
theorem dX6_drawn_41 : decode cX6_drawn 41 = .ok (.aload_n 0, 1) := by decide +kernel
theorem dX6_drawn_42 : decode cX6_drawn 42 = .ok (.invokevirtual 109, 3) := by decide +kernel
theorem dX6_drawn_45 : decode cX6_drawn 45 = .ok (.istore 4, 2) := by decide +kernel
theorem dX6_drawn_47 : decode cX6_drawn 47 = .ok (.iload_n 3, 1) := by decide +kernel
theorem dX6_drawn_48 : decode cX6_drawn 48 = .ok (.iconst 2, 1) := by decide +kernel
theorem dX6_drawn_49 : decode cX6_drawn 49 = .ok (.if_icmp .le 161, 3) := by decide +kernel
theorem dX6_drawn_52 : decode cX6_drawn 52 = .ok (.iload 4, 2) := by decide +kernel
theorem dX6_drawn_54 : decode cX6_drawn 54 = .ok (.ifCond .le 156, 3) := by decide +kernel
theorem dX6_drawn_57 : decode cX6_drawn 57 = .ok (.iload_n 2, 1) := by decide +kernel
theorem dX6_drawn_58 : decode cX6_drawn 58 = .ok (.ldc 112, 2) := by decide +kernel
theorem dX6_drawn_60 : decode cX6_drawn 60 = .ok (.imul, 1) := by decide +kernel
theorem dX6_drawn_61 : decode cX6_drawn 61 = .ok (.ldc 113, 2) := by decide +kernel
theorem dX6_drawn_63 : decode cX6_drawn 63 = .ok (.iadd, 1) := by decide +kernel
theorem dX6_drawn_64 : decode cX6_drawn 64 = .ok (.istore_n 2, 1) := by decide +kernel
theorem dX6_drawn_65 : decode cX6_drawn 65 = .ok (.iload_n 2, 1) := by decide +kernel
theorem dX6_drawn_66 : decode cX6_drawn 66 = .ok (.iconst 1, 1) := by decide +kernel
theorem dX6_drawn_67 : decode cX6_drawn 67 = .ok (.iushr, 1) := by decide +kernel
theorem dX6_drawn_68 : decode cX6_drawn 68 = .ok (.iload 4, 2) := by decide +kernel
theorem dX6_drawn_70 : decode cX6_drawn 70 = .ok (.irem, 1) := by decide +kernel
theorem dX6_drawn_71 : decode cX6_drawn 71 = .ok (.istore 5, 2) := by decide +kernel
theorem dX6_drawn_73 : decode cX6_drawn 73 = .ok (.iconst 0, 1) := by decide +kernel
theorem dX6_drawn_74 : decode cX6_drawn 74 = .ok (.istore 6, 2) := by decide +kernel
theorem dX6_drawn_76 : decode cX6_drawn 76 = .ok (.iconst 0, 1) := by decide +kernel
theorem dX6_drawn_77 : decode cX6_drawn 77 = .ok (.istore 7, 2) := by decide +kernel
theorem dX6_drawn_79 : decode cX6_drawn 79 = .ok (.iload 7, 2) := by decide +kernel
theorem dX6_drawn_81 : decode cX6_drawn 81 = .ok (.iload 5, 2) := by decide +kernel
theorem dX6_drawn_83 : decode cX6_drawn 83 = .ok (.if_icmp .gt 34, 3) := by decide +kernel
theorem dX6_drawn_86 : decode cX6_drawn 86 = .ok (.iload 7, 2) := by decide +kernel
theorem dX6_drawn_88 : decode cX6_drawn 88 = .ok (.aload_n 0, 1) := by decide +kernel
theorem dX6_drawn_89 : decode cX6_drawn 89 = .ok (.iload 6, 2) := by decide +kernel
theorem dX6_drawn_91 : decode cX6_drawn 91 = .ok (.invokevirtual 114, 3) := by decide +kernel
theorem dX6_drawn_94 : decode cX6_drawn 94 = .ok (.ifCond .eq 13, 3) := by decide +kernel
theorem dX6_drawn_97 : decode cX6_drawn 97 = .ok (.aload_n 0, 1) := by decide +kernel
theorem dX6_drawn_98 : decode cX6_drawn 98 = .ok (.getfield 16, 3) := by decide +kernel
theorem dX6_drawn_101 : decode cX6_drawn 101 = .ok (.iload 6, 2) := by decide +kernel
theorem dX6_drawn_103 : decode cX6_drawn 103 = .ok (.iaload, 1) := by decide +kernel
theorem dX6_drawn_104 : decode cX6_drawn 104 = .ok (.goto 4, 3) := by decide +kernel
theorem dX6_drawn_107 : decode cX6_drawn 107 = .ok (.iconst 0, 1) := by decide +kernel
theorem dX6_drawn_108 : decode cX6_drawn 108 = .ok (.iadd, 1) := by decide +kernel
theorem dX6_drawn_109 : decode cX6_drawn 109 = .ok (.istore 7, 2) := by decide +kernel
theorem dX6_drawn_111 : decode cX6_drawn 111 = .ok (.iinc 6 1, 3) := by decide +kernel
theorem dX6_drawn_114 : decode cX6_drawn 114 = .ok (.goto (-35), 3) := by decide +kernel
theorem dX6_drawn_117 : decode cX6_drawn 117 = .ok (.aload_n 0, 1) := by decide +kernel
theorem dX6_drawn_118 : decode cX6_drawn 118 = .ok (.getfield 47, 3) := by decide +kernel
theorem dX6_drawn_121 : decode cX6_drawn 121 = .ok (.aload_n 0, 1) := by decide +kernel
theorem dX6_drawn_122 : decode cX6_drawn 122 = .ok (.getfield 13, 3) := by decide +kernel
theorem dX6_drawn_125 : decode cX6_drawn 125 = .ok (.iload 6, 2) := by decide +kernel
theorem dX6_drawn_127 : decode cX6_drawn 127 = .ok (.iconst 1, 1) := by decide +kernel
theorem dX6_drawn_128 : decode cX6_drawn 128 = .ok (.isub, 1) := by decide +kernel
theorem dX6_drawn_129 : decode cX6_drawn 129 = .ok (.iaload, 1) := by decide +kernel
theorem dX6_drawn_130 : decode cX6_drawn 130 = .ok (.iaload, 1) := by decide +kernel
theorem dX6_drawn_131 : decode cX6_drawn 131 = .ok (.istore 8, 2) := by decide +kernel
theorem dX6_drawn_133 : decode cX6_drawn 133 = .ok (.aload_n 0, 1) := by decide +kernel
theorem dX6_drawn_134 : decode cX6_drawn 134 = .ok (.getfield 47, 3) := by decide +kernel
theorem dX6_drawn_137 : decode cX6_drawn 137 = .ok (.aload_n 0, 1) := by decide +kernel
theorem dX6_drawn_138 : decode cX6_drawn 138 = .ok (.getfield 7, 3) := by decide +kernel
theorem dX6_drawn_141 : decode cX6_drawn 141 = .ok (.iload 6, 2) := by decide +kernel
theorem dX6_drawn_143 : decode cX6_drawn 143 = .ok (.iconst 1, 1) := by decide +kernel
theorem dX6_drawn_144 : decode cX6_drawn 144 = .ok (.isub, 1) := by decide +kernel
theorem dX6_drawn_145 : decode cX6_drawn 145 = .ok (.iaload, 1) := by decide +kernel
theorem dX6_drawn_146 : decode cX6_drawn 146 = .ok (.iaload, 1) := by decide +kernel
theorem dX6_drawn_147 : decode cX6_drawn 147 = .ok (.istore 9, 2) := by decide +kernel
theorem dX6_drawn_149 : decode cX6_drawn 149 = .ok (.iconst 0, 1) := by decide +kernel
theorem dX6_drawn_150 : decode cX6_drawn 150 = .ok (.istore 10, 2) := by decide +kernel
theorem dX6_drawn_152 : decode cX6_drawn 152 = .ok (.iload 10, 2) := by decide +kernel
theorem dX6_drawn_154 : decode cX6_drawn 154 = .ok (.aload_n 0, 1) := by decide +kernel
theorem dX6_drawn_155 : decode cX6_drawn 155 = .ok (.getfield 60, 3) := by decide +kernel
theorem dX6_drawn_158 : decode cX6_drawn 158 = .ok (.if_icmp .ge 40, 3) := by decide +kernel
theorem dX6_drawn_161 : decode cX6_drawn 161 = .ok (.aload_n 0, 1) := by decide +kernel
theorem dX6_drawn_162 : decode cX6_drawn 162 = .ok (.getfield 47, 3) := by decide +kernel
theorem dX6_drawn_165 : decode cX6_drawn 165 = .ok (.iload 10, 2) := by decide +kernel
theorem dX6_drawn_167 : decode cX6_drawn 167 = .ok (.aload_n 0, 1) := by decide +kernel
theorem dX6_drawn_168 : decode cX6_drawn 168 = .ok (.getfield 47, 3) := by decide +kernel
theorem dX6_drawn_171 : decode cX6_drawn 171 = .ok (.iload 10, 2) := by decide +kernel
theorem dX6_drawn_173 : decode cX6_drawn 173 = .ok (.iaload, 1) := by decide +kernel
theorem dX6_drawn_174 : decode cX6_drawn 174 = .ok (.iload 8, 2) := by decide +kernel
theorem dX6_drawn_176 : decode cX6_drawn 176 = .ok (.if_icmp .ne 8, 3) := by decide +kernel
theorem dX6_drawn_179 : decode cX6_drawn 179 = .ok (.iload 9, 2) := by decide +kernel
theorem dX6_drawn_181 : decode cX6_drawn 181 = .ok (.goto 10, 3) := by decide +kernel
theorem dX6_drawn_184 : decode cX6_drawn 184 = .ok (.aload_n 0, 1) := by decide +kernel
theorem dX6_drawn_185 : decode cX6_drawn 185 = .ok (.getfield 47, 3) := by decide +kernel
theorem dX6_drawn_188 : decode cX6_drawn 188 = .ok (.iload 10, 2) := by decide +kernel
theorem dX6_drawn_190 : decode cX6_drawn 190 = .ok (.iaload, 1) := by decide +kernel
theorem dX6_drawn_191 : decode cX6_drawn 191 = .ok (.iastore, 1) := by decide +kernel
theorem dX6_drawn_192 : decode cX6_drawn 192 = .ok (.iinc 10 1, 3) := by decide +kernel
theorem dX6_drawn_195 : decode cX6_drawn 195 = .ok (.goto (-43), 3) := by decide +kernel
theorem dX6_drawn_198 : decode cX6_drawn 198 = .ok (.iinc 3 (-1), 3) := by decide +kernel
theorem dX6_drawn_201 : decode cX6_drawn 201 = .ok (.aload_n 0, 1) := by decide +kernel
theorem dX6_drawn_202 : decode cX6_drawn 202 = .ok (.invokevirtual 109, 3) := by decide +kernel
theorem dX6_drawn_205 : decode cX6_drawn 205 = .ok (.istore 4, 2) := by decide +kernel
theorem dX6_drawn_207 : decode cX6_drawn 207 = .ok (.goto (-160), 3) := by decide +kernel
theorem dX6_drawn_210 : decode cX6_drawn 210 = .ok (.iconst 0, 1) := by decide +kernel
theorem dX6_drawn_211 : decode cX6_drawn 211 = .ok (.istore 5, 2) := by decide +kernel
theorem dX6_drawn_213 : decode cX6_drawn 213 = .ok (.iconst 0, 1) := by decide +kernel
theorem dX6_drawn_214 : decode cX6_drawn 214 = .ok (.istore 6, 2) := by decide +kernel
theorem dX6_drawn_216 : decode cX6_drawn 216 = .ok (.iload 6, 2) := by decide +kernel
theorem dX6_drawn_218 : decode cX6_drawn 218 = .ok (.aload_n 0, 1) := by decide +kernel
theorem dX6_drawn_219 : decode cX6_drawn 219 = .ok (.getfield 60, 3) := by decide +kernel
theorem dX6_drawn_222 : decode cX6_drawn 222 = .ok (.if_icmp .ge 38, 3) := by decide +kernel
theorem dX6_drawn_225 : decode cX6_drawn 225 = .ok (.iload 5, 2) := by decide +kernel
theorem dX6_drawn_227 : decode cX6_drawn 227 = .ok (.aload_n 0, 1) := by decide +kernel
theorem dX6_drawn_228 : decode cX6_drawn 228 = .ok (.getfield 47, 3) := by decide +kernel
theorem dX6_drawn_231 : decode cX6_drawn 231 = .ok (.iload 6, 2) := by decide +kernel
theorem dX6_drawn_233 : decode cX6_drawn 233 = .ok (.iaload, 1) := by decide +kernel
theorem dX6_drawn_234 : decode cX6_drawn 234 = .ok (.aload_n 0, 1) := by decide +kernel
theorem dX6_drawn_235 : decode cX6_drawn 235 = .ok (.getfield 47, 3) := by decide +kernel
theorem dX6_drawn_238 : decode cX6_drawn 238 = .ok (.iconst 0, 1) := by decide +kernel
theorem dX6_drawn_239 : decode cX6_drawn 239 = .ok (.iaload, 1) := by decide +kernel
theorem dX6_drawn_240 : decode cX6_drawn 240 = .ok (.if_icmp .ne 10, 3) := by decide +kernel
theorem dX6_drawn_243 : decode cX6_drawn 243 = .ok (.iconst 1, 1) := by decide +kernel
theorem dX6_drawn_244 : decode cX6_drawn 244 = .ok (.iload 6, 2) := by decide +kernel
theorem dX6_drawn_246 : decode cX6_drawn 246 = .ok (.ishl, 1) := by decide +kernel
theorem dX6_drawn_247 : decode cX6_drawn 247 = .ok (.goto 4, 3) := by decide +kernel
theorem dX6_drawn_250 : decode cX6_drawn 250 = .ok (.iconst 0, 1) := by decide +kernel
theorem dX6_drawn_251 : decode cX6_drawn 251 = .ok (.ior, 1) := by decide +kernel
theorem dX6_drawn_252 : decode cX6_drawn 252 = .ok (.istore 5, 2) := by decide +kernel
theorem dX6_drawn_254 : decode cX6_drawn 254 = .ok (.iinc 6 1, 3) := by decide +kernel
theorem dX6_drawn_257 : decode cX6_drawn 257 = .ok (.goto (-41), 3) := by decide +kernel
theorem dX6_drawn_260 : decode cX6_drawn 260 = .ok (.iload 5, 2) := by decide +kernel
theorem dX6_drawn_262 : decode cX6_drawn 262 = .ok (.ireturn, 1) := by decide +kernel
theorem dX6_isLoose_0 : decode cX6_isLoose 0 = .ok (.aload_n 0, 1) := by decide +kernel
theorem dX6_isLoose_1 : decode cX6_isLoose 1 = .ok (.getfield 19, 3) := by decide +kernel
theorem dX6_isLoose_4 : decode cX6_isLoose 4 = .ok (.iload_n 1, 1) := by decide +kernel
theorem dX6_isLoose_5 : decode cX6_isLoose 5 = .ok (.baload, 1) := by decide +kernel
theorem dX6_isLoose_6 : decode cX6_isLoose 6 = .ok (.ifCond .eq 32, 3) := by decide +kernel
theorem dX6_isLoose_9 : decode cX6_isLoose 9 = .ok (.aload_n 0, 1) := by decide +kernel
theorem dX6_isLoose_10 : decode cX6_isLoose 10 = .ok (.getfield 47, 3) := by decide +kernel
theorem dX6_isLoose_13 : decode cX6_isLoose 13 = .ok (.aload_n 0, 1) := by decide +kernel
theorem dX6_isLoose_14 : decode cX6_isLoose 14 = .ok (.getfield 7, 3) := by decide +kernel
theorem dX6_isLoose_17 : decode cX6_isLoose 17 = .ok (.iload_n 1, 1) := by decide +kernel
theorem dX6_isLoose_18 : decode cX6_isLoose 18 = .ok (.iaload, 1) := by decide +kernel
theorem dX6_isLoose_19 : decode cX6_isLoose 19 = .ok (.iaload, 1) := by decide +kernel
theorem dX6_isLoose_20 : decode cX6_isLoose 20 = .ok (.aload_n 0, 1) := by decide +kernel
theorem dX6_isLoose_21 : decode cX6_isLoose 21 = .ok (.getfield 47, 3) := by decide +kernel
theorem dX6_isLoose_24 : decode cX6_isLoose 24 = .ok (.aload_n 0, 1) := by decide +kernel
theorem dX6_isLoose_25 : decode cX6_isLoose 25 = .ok (.getfield 13, 3) := by decide +kernel
theorem dX6_isLoose_28 : decode cX6_isLoose 28 = .ok (.iload_n 1, 1) := by decide +kernel
theorem dX6_isLoose_29 : decode cX6_isLoose 29 = .ok (.iaload, 1) := by decide +kernel
theorem dX6_isLoose_30 : decode cX6_isLoose 30 = .ok (.iaload, 1) := by decide +kernel
theorem dX6_isLoose_31 : decode cX6_isLoose 31 = .ok (.if_icmp .eq 7, 3) := by decide +kernel
theorem dX6_isLoose_34 : decode cX6_isLoose 34 = .ok (.iconst 1, 1) := by decide +kernel
theorem dX6_isLoose_35 : decode cX6_isLoose 35 = .ok (.goto 4, 3) := by decide +kernel
theorem dX6_isLoose_38 : decode cX6_isLoose 38 = .ok (.iconst 0, 1) := by decide +kernel
theorem dX6_isLoose_39 : decode cX6_isLoose 39 = .ok (.ireturn, 1) := by decide +kernel
theorem dX6_loose_0 : decode cX6_loose 0 = .ok (.iconst 0, 1) := by decide +kernel
theorem dX6_loose_1 : decode cX6_loose 1 = .ok (.istore_n 1, 1) := by decide +kernel
theorem dX6_loose_2 : decode cX6_loose 2 = .ok (.iconst 0, 1) := by decide +kernel
theorem dX6_loose_3 : decode cX6_loose 3 = .ok (.istore_n 2, 1) := by decide +kernel
theorem dX6_loose_4 : decode cX6_loose 4 = .ok (.iload_n 2, 1) := by decide +kernel
theorem dX6_loose_5 : decode cX6_loose 5 = .ok (.aload_n 0, 1) := by decide +kernel
theorem dX6_loose_6 : decode cX6_loose 6 = .ok (.getfield 71, 3) := by decide +kernel
theorem dX6_loose_9 : decode cX6_loose 9 = .ok (.if_icmp .ge 30, 3) := by decide +kernel
theorem dX6_loose_12 : decode cX6_loose 12 = .ok (.iload_n 1, 1) := by decide +kernel
theorem dX6_loose_13 : decode cX6_loose 13 = .ok (.aload_n 0, 1) := by decide +kernel
theorem dX6_loose_14 : decode cX6_loose 14 = .ok (.iload_n 2, 1) := by decide +kernel
theorem dX6_loose_15 : decode cX6_loose 15 = .ok (.invokevirtual 114, 3) := by decide +kernel
theorem dX6_loose_18 : decode cX6_loose 18 = .ok (.ifCond .eq 12, 3) := by decide +kernel
theorem dX6_loose_21 : decode cX6_loose 21 = .ok (.aload_n 0, 1) := by decide +kernel
theorem dX6_loose_22 : decode cX6_loose 22 = .ok (.getfield 16, 3) := by decide +kernel
theorem dX6_loose_25 : decode cX6_loose 25 = .ok (.iload_n 2, 1) := by decide +kernel
theorem dX6_loose_26 : decode cX6_loose 26 = .ok (.iaload, 1) := by decide +kernel
theorem dX6_loose_27 : decode cX6_loose 27 = .ok (.goto 4, 3) := by decide +kernel
theorem dX6_loose_30 : decode cX6_loose 30 = .ok (.iconst 0, 1) := by decide +kernel
theorem dX6_loose_31 : decode cX6_loose 31 = .ok (.iadd, 1) := by decide +kernel
theorem dX6_loose_32 : decode cX6_loose 32 = .ok (.istore_n 1, 1) := by decide +kernel
theorem dX6_loose_33 : decode cX6_loose 33 = .ok (.iinc 2 1, 3) := by decide +kernel
theorem dX6_loose_36 : decode cX6_loose 36 = .ok (.goto (-32), 3) := by decide +kernel
theorem dX6_loose_39 : decode cX6_loose 39 = .ok (.iload_n 1, 1) := by decide +kernel
theorem dX6_loose_40 : decode cX6_loose 40 = .ok (.ireturn, 1) := by decide +kernel
theorem dX6_partFault_0 : decode cX6_partFault 0 = .ok (.iload_n 1, 1) := by decide +kernel
theorem dX6_partFault_1 : decode cX6_partFault 1 = .ok (.iconst 1, 1) := by decide +kernel
theorem dX6_partFault_2 : decode cX6_partFault 2 = .ok (.if_icmp .lt 8, 3) := by decide +kernel
theorem dX6_partFault_5 : decode cX6_partFault 5 = .ok (.iload_n 1, 1) := by decide +kernel
theorem dX6_partFault_6 : decode cX6_partFault 6 = .ok (.iconst 4, 1) := by decide +kernel
theorem dX6_partFault_7 : decode cX6_partFault 7 = .ok (.if_icmp .le 8, 3) := by decide +kernel
theorem dX6_partFault_10 : decode cX6_partFault 10 = .ok (.bipush (-2), 2) := by decide +kernel
theorem dX6_partFault_12 : decode cX6_partFault 12 = .ok (.goto 31, 3) := by decide +kernel
theorem dX6_partFault_15 : decode cX6_partFault 15 = .ok (.aload_n 0, 1) := by decide +kernel
theorem dX6_partFault_16 : decode cX6_partFault 16 = .ok (.getfield 60, 3) := by decide +kernel
theorem dX6_partFault_19 : decode cX6_partFault 19 = .ok (.bipush 10, 2) := by decide +kernel
theorem dX6_partFault_21 : decode cX6_partFault 21 = .ok (.if_icmp .le 8, 3) := by decide +kernel
theorem dX6_partFault_24 : decode cX6_partFault 24 = .ok (.bipush (-4), 2) := by decide +kernel
theorem dX6_partFault_26 : decode cX6_partFault 26 = .ok (.goto 17, 3) := by decide +kernel
theorem dX6_partFault_29 : decode cX6_partFault 29 = .ok (.aload_n 0, 1) := by decide +kernel
theorem dX6_partFault_30 : decode cX6_partFault 30 = .ok (.getfield 60, 3) := by decide +kernel
theorem dX6_partFault_33 : decode cX6_partFault 33 = .ok (.iload_n 1, 1) := by decide +kernel
theorem dX6_partFault_34 : decode cX6_partFault 34 = .ok (.if_icmp .ge 8, 3) := by decide +kernel
theorem dX6_partFault_37 : decode cX6_partFault 37 = .ok (.bipush (-3), 2) := by decide +kernel
theorem dX6_partFault_39 : decode cX6_partFault 39 = .ok (.goto 4, 3) := by decide +kernel
theorem dX6_partFault_42 : decode cX6_partFault 42 = .ok (.iconst 0, 1) := by decide +kernel
theorem dX6_partFault_43 : decode cX6_partFault 43 = .ok (.ireturn, 1) := by decide +kernel
theorem dX6_findParts_0 : decode cX6_findParts 0 = .ok (.aload_n 0, 1) := by decide +kernel
theorem dX6_findParts_1 : decode cX6_findParts 1 = .ok (.invokevirtual 84, 3) := by decide +kernel
theorem dX6_findParts_4 : decode cX6_findParts 4 = .ok (.aload_n 0, 1) := by decide +kernel
theorem dX6_findParts_5 : decode cX6_findParts 5 = .ok (.getfield 41, 3) := by decide +kernel
theorem dX6_findParts_8 : decode cX6_findParts 8 = .ok (.iload_n 1, 1) := by decide +kernel
theorem dX6_findParts_9 : decode cX6_findParts 9 = .ok (.baload, 1) := by decide +kernel
theorem dX6_findParts_10 : decode cX6_findParts 10 = .ok (.ifCond .ne 4, 3) := by decide +kernel
theorem dX6_findParts_13 : decode cX6_findParts 13 = .ok (.return_, 1) := by decide +kernel
theorem dX6_findParts_14 : decode cX6_findParts 14 = .ok (.aload_n 0, 1) := by decide +kernel
theorem dX6_findParts_15 : decode cX6_findParts 15 = .ok (.getfield 41, 3) := by decide +kernel
theorem dX6_findParts_18 : decode cX6_findParts 18 = .ok (.iload_n 1, 1) := by decide +kernel
theorem dX6_findParts_19 : decode cX6_findParts 19 = .ok (.iconst 0, 1) := by decide +kernel
theorem dX6_findParts_20 : decode cX6_findParts 20 = .ok (.bastore, 1) := by decide +kernel
theorem dX6_findParts_21 : decode cX6_findParts 21 = .ok (.iconst (-1), 1) := by decide +kernel
theorem dX6_findParts_22 : decode cX6_findParts 22 = .ok (.istore_n 2, 1) := by decide +kernel
theorem dX6_findParts_23 : decode cX6_findParts 23 = .ok (.iconst 0, 1) := by decide +kernel
theorem dX6_findParts_24 : decode cX6_findParts 24 = .ok (.istore_n 3, 1) := by decide +kernel
theorem dX6_findParts_25 : decode cX6_findParts 25 = .ok (.aload_n 0, 1) := by decide +kernel
theorem dX6_findParts_26 : decode cX6_findParts 26 = .ok (.getfield 50, 3) := by decide +kernel
theorem dX6_findParts_29 : decode cX6_findParts 29 = .ok (.iconst 0, 1) := by decide +kernel
theorem dX6_findParts_30 : decode cX6_findParts 30 = .ok (.iconst (-1), 1) := by decide +kernel
theorem dX6_findParts_31 : decode cX6_findParts 31 = .ok (.iastore, 1) := by decide +kernel
theorem dX6_findParts_32 : decode cX6_findParts 32 = .ok (.aload_n 0, 1) := by decide +kernel
theorem dX6_findParts_33 : decode cX6_findParts 33 = .ok (.getfield 53, 3) := by decide +kernel
theorem dX6_findParts_36 : decode cX6_findParts 36 = .ok (.iconst 0, 1) := by decide +kernel
theorem dX6_findParts_37 : decode cX6_findParts 37 = .ok (.iconst 0, 1) := by decide +kernel
theorem dX6_findParts_38 : decode cX6_findParts 38 = .ok (.iastore, 1) := by decide +kernel
theorem dX6_findParts_39 : decode cX6_findParts 39 = .ok (.iload_n 3, 1) := by decide +kernel
theorem dX6_findParts_40 : decode cX6_findParts 40 = .ok (.ifCond .lt 184, 3) := by decide +kernel
theorem dX6_findParts_43 : decode cX6_findParts 43 = .ok (.aload_n 0, 1) := by decide +kernel
theorem dX6_findParts_44 : decode cX6_findParts 44 = .ok (.getfield 50, 3) := by decide +kernel
theorem dX6_findParts_47 : decode cX6_findParts 47 = .ok (.iload_n 3, 1) := by decide +kernel
theorem dX6_findParts_48 : decode cX6_findParts 48 = .ok (.dup2, 1) := by decide +kernel
theorem dX6_findParts_49 : decode cX6_findParts 49 = .ok (.iaload, 1) := by decide +kernel
theorem dX6_findParts_50 : decode cX6_findParts 50 = .ok (.iconst 1, 1) := by decide +kernel
theorem dX6_findParts_51 : decode cX6_findParts 51 = .ok (.iadd, 1) := by decide +kernel
theorem dX6_findParts_52 : decode cX6_findParts 52 = .ok (.iastore, 1) := by decide +kernel
theorem dX6_findParts_53 : decode cX6_findParts 53 = .ok (.aload_n 0, 1) := by decide +kernel
theorem dX6_findParts_54 : decode cX6_findParts 54 = .ok (.getfield 50, 3) := by decide +kernel
theorem dX6_findParts_57 : decode cX6_findParts 57 = .ok (.iload_n 3, 1) := by decide +kernel
theorem dX6_findParts_58 : decode cX6_findParts 58 = .ok (.iaload, 1) := by decide +kernel
theorem dX6_findParts_59 : decode cX6_findParts 59 = .ok (.iload_n 1, 1) := by decide +kernel
theorem dX6_findParts_60 : decode cX6_findParts 60 = .ok (.if_icmp .ne 9, 3) := by decide +kernel
theorem dX6_findParts_63 : decode cX6_findParts 63 = .ok (.iinc 3 (-1), 3) := by decide +kernel
theorem dX6_findParts_66 : decode cX6_findParts 66 = .ok (.goto (-27), 3) := by decide +kernel
theorem dX6_findParts_69 : decode cX6_findParts 69 = .ok (.aload_n 0, 1) := by decide +kernel
theorem dX6_findParts_70 : decode cX6_findParts 70 = .ok (.getfield 53, 3) := by decide +kernel
theorem dX6_findParts_73 : decode cX6_findParts 73 = .ok (.iload_n 3, 1) := by decide +kernel
theorem dX6_findParts_74 : decode cX6_findParts 74 = .ok (.iaload, 1) := by decide +kernel
theorem dX6_findParts_75 : decode cX6_findParts 75 = .ok (.istore 4, 2) := by decide +kernel
theorem dX6_findParts_77 : decode cX6_findParts 77 = .ok (.iconst 0, 1) := by decide +kernel
theorem dX6_findParts_78 : decode cX6_findParts 78 = .ok (.istore 5, 2) := by decide +kernel
theorem dX6_findParts_80 : decode cX6_findParts 80 = .ok (.iload 5, 2) := by decide +kernel
theorem dX6_findParts_82 : decode cX6_findParts 82 = .ok (.iload_n 3, 1) := by decide +kernel
theorem dX6_findParts_83 : decode cX6_findParts 83 = .ok (.if_icmp .ge 46, 3) := by decide +kernel
theorem dX6_findParts_86 : decode cX6_findParts 86 = .ok (.iload 4, 2) := by decide +kernel
theorem dX6_findParts_88 : decode cX6_findParts 88 = .ok (.aload_n 0, 1) := by decide +kernel
theorem dX6_findParts_89 : decode cX6_findParts 89 = .ok (.getfield 50, 3) := by decide +kernel
theorem dX6_findParts_92 : decode cX6_findParts 92 = .ok (.iload 5, 2) := by decide +kernel
theorem dX6_findParts_94 : decode cX6_findParts 94 = .ok (.iaload, 1) := by decide +kernel
theorem dX6_findParts_95 : decode cX6_findParts 95 = .ok (.aload_n 0, 1) := by decide +kernel
theorem dX6_findParts_96 : decode cX6_findParts 96 = .ok (.getfield 50, 3) := by decide +kernel
theorem dX6_findParts_99 : decode cX6_findParts 99 = .ok (.iload_n 3, 1) := by decide +kernel
theorem dX6_findParts_100 : decode cX6_findParts 100 = .ok (.iaload, 1) := by decide +kernel
theorem dX6_findParts_101 : decode cX6_findParts 101 = .ok (.if_icmp .eq 18, 3) := by decide +kernel
theorem dX6_findParts_104 : decode cX6_findParts 104 = .ok (.aload_n 0, 1) := by decide +kernel
theorem dX6_findParts_105 : decode cX6_findParts 105 = .ok (.getfield 23, 3) := by decide +kernel
theorem dX6_findParts_108 : decode cX6_findParts 108 = .ok (.bipush 12, 2) := by decide +kernel
theorem dX6_findParts_110 : decode cX6_findParts 110 = .ok (.iload_n 3, 1) := by decide +kernel
theorem dX6_findParts_111 : decode cX6_findParts 111 = .ok (.imul, 1) := by decide +kernel
theorem dX6_findParts_112 : decode cX6_findParts 112 = .ok (.iload 5, 2) := by decide +kernel
theorem dX6_findParts_114 : decode cX6_findParts 114 = .ok (.iadd, 1) := by decide +kernel
theorem dX6_findParts_115 : decode cX6_findParts 115 = .ok (.iaload, 1) := by decide +kernel
theorem dX6_findParts_116 : decode cX6_findParts 116 = .ok (.goto 4, 3) := by decide +kernel
theorem dX6_findParts_119 : decode cX6_findParts 119 = .ok (.iconst 0, 1) := by decide +kernel
theorem dX6_findParts_120 : decode cX6_findParts 120 = .ok (.iadd, 1) := by decide +kernel
theorem dX6_findParts_121 : decode cX6_findParts 121 = .ok (.istore 4, 2) := by decide +kernel
theorem dX6_findParts_123 : decode cX6_findParts 123 = .ok (.iinc 5 1, 3) := by decide +kernel
theorem dX6_findParts_126 : decode cX6_findParts 126 = .ok (.goto (-46), 3) := by decide +kernel
theorem dX6_findParts_129 : decode cX6_findParts 129 = .ok (.iload_n 2, 1) := by decide +kernel
theorem dX6_findParts_130 : decode cX6_findParts 130 = .ok (.ifCond .lt 12, 3) := by decide +kernel
theorem dX6_findParts_133 : decode cX6_findParts 133 = .ok (.iload 4, 2) := by decide +kernel
theorem dX6_findParts_135 : decode cX6_findParts 135 = .ok (.iload_n 2, 1) := by decide +kernel
theorem dX6_findParts_136 : decode cX6_findParts 136 = .ok (.if_icmp .lt 6, 3) := by decide +kernel
theorem dX6_findParts_139 : decode cX6_findParts 139 = .ok (.goto (-100), 3) := by decide +kernel
theorem dX6_findParts_142 : decode cX6_findParts 142 = .ok (.iload_n 3, 1) := by decide +kernel
theorem dX6_findParts_143 : decode cX6_findParts 143 = .ok (.aload_n 0, 1) := by decide +kernel
theorem dX6_findParts_144 : decode cX6_findParts 144 = .ok (.getfield 60, 3) := by decide +kernel
theorem dX6_findParts_147 : decode cX6_findParts 147 = .ok (.iconst 1, 1) := by decide +kernel
theorem dX6_findParts_148 : decode cX6_findParts 148 = .ok (.isub, 1) := by decide +kernel
theorem dX6_findParts_149 : decode cX6_findParts 149 = .ok (.if_icmp .ge 24, 3) := by decide +kernel
theorem dX6_findParts_152 : decode cX6_findParts 152 = .ok (.iinc 3 1, 3) := by decide +kernel
theorem dX6_findParts_155 : decode cX6_findParts 155 = .ok (.aload_n 0, 1) := by decide +kernel
theorem dX6_findParts_156 : decode cX6_findParts 156 = .ok (.getfield 50, 3) := by decide +kernel
theorem dX6_findParts_159 : decode cX6_findParts 159 = .ok (.iload_n 3, 1) := by decide +kernel
theorem dX6_findParts_160 : decode cX6_findParts 160 = .ok (.iconst (-1), 1) := by decide +kernel
theorem dX6_findParts_161 : decode cX6_findParts 161 = .ok (.iastore, 1) := by decide +kernel
theorem dX6_findParts_162 : decode cX6_findParts 162 = .ok (.aload_n 0, 1) := by decide +kernel
theorem dX6_findParts_163 : decode cX6_findParts 163 = .ok (.getfield 53, 3) := by decide +kernel
theorem dX6_findParts_166 : decode cX6_findParts 166 = .ok (.iload_n 3, 1) := by decide +kernel
theorem dX6_findParts_167 : decode cX6_findParts 167 = .ok (.iload 4, 2) := by decide +kernel
theorem dX6_findParts_169 : decode cX6_findParts 169 = .ok (.iastore, 1) := by decide +kernel
theorem dX6_findParts_170 : decode cX6_findParts 170 = .ok (.goto 51, 3) := by decide +kernel
theorem dX6_findParts_173 : decode cX6_findParts 173 = .ok (.aload_n 0, 1) := by decide +kernel
theorem dX6_findParts_174 : decode cX6_findParts 174 = .ok (.iload_n 1, 1) := by decide +kernel
theorem dX6_findParts_175 : decode cX6_findParts 175 = .ok (.invokevirtual 118, 3) := by decide +kernel
theorem dX6_findParts_178 : decode cX6_findParts 178 = .ok (.ifCond .eq 43, 3) := by decide +kernel
theorem dX6_findParts_181 : decode cX6_findParts 181 = .ok (.iload 4, 2) := by decide +kernel
theorem dX6_findParts_183 : decode cX6_findParts 183 = .ok (.istore_n 2, 1) := by decide +kernel
theorem dX6_findParts_184 : decode cX6_findParts 184 = .ok (.iconst 0, 1) := by decide +kernel
theorem dX6_findParts_185 : decode cX6_findParts 185 = .ok (.istore 5, 2) := by decide +kernel
theorem dX6_findParts_187 : decode cX6_findParts 187 = .ok (.iload 5, 2) := by decide +kernel
theorem dX6_findParts_189 : decode cX6_findParts 189 = .ok (.aload_n 0, 1) := by decide +kernel
theorem dX6_findParts_190 : decode cX6_findParts 190 = .ok (.getfield 60, 3) := by decide +kernel
theorem dX6_findParts_193 : decode cX6_findParts 193 = .ok (.if_icmp .ge 28, 3) := by decide +kernel
theorem dX6_findParts_196 : decode cX6_findParts 196 = .ok (.aload_n 0, 1) := by decide +kernel
theorem dX6_findParts_197 : decode cX6_findParts 197 = .ok (.getfield 44, 3) := by decide +kernel
theorem dX6_findParts_200 : decode cX6_findParts 200 = .ok (.bipush 12, 2) := by decide +kernel
theorem dX6_findParts_202 : decode cX6_findParts 202 = .ok (.iload_n 1, 1) := by decide +kernel
theorem dX6_findParts_203 : decode cX6_findParts 203 = .ok (.imul, 1) := by decide +kernel
theorem dX6_findParts_204 : decode cX6_findParts 204 = .ok (.iload 5, 2) := by decide +kernel
theorem dX6_findParts_206 : decode cX6_findParts 206 = .ok (.iadd, 1) := by decide +kernel
theorem dX6_findParts_207 : decode cX6_findParts 207 = .ok (.aload_n 0, 1) := by decide +kernel
theorem dX6_findParts_208 : decode cX6_findParts 208 = .ok (.getfield 50, 3) := by decide +kernel
theorem dX6_findParts_211 : decode cX6_findParts 211 = .ok (.iload 5, 2) := by decide +kernel
theorem dX6_findParts_213 : decode cX6_findParts 213 = .ok (.iaload, 1) := by decide +kernel
theorem dX6_findParts_214 : decode cX6_findParts 214 = .ok (.iastore, 1) := by decide +kernel
theorem dX6_findParts_215 : decode cX6_findParts 215 = .ok (.iinc 5 1, 3) := by decide +kernel
theorem dX6_findParts_218 : decode cX6_findParts 218 = .ok (.goto (-31), 3) := by decide +kernel
theorem dX6_findParts_221 : decode cX6_findParts 221 = .ok (.goto (-182), 3) := by decide +kernel
theorem dX6_findParts_224 : decode cX6_findParts 224 = .ok (.aload_n 0, 1) := by decide +kernel
theorem dX6_findParts_225 : decode cX6_findParts 225 = .ok (.getfield 38, 3) := by decide +kernel
theorem dX6_findParts_228 : decode cX6_findParts 228 = .ok (.iload_n 1, 1) := by decide +kernel
theorem dX6_findParts_229 : decode cX6_findParts 229 = .ok (.iload_n 2, 1) := by decide +kernel
theorem dX6_findParts_230 : decode cX6_findParts 230 = .ok (.iastore, 1) := by decide +kernel
theorem dX6_findParts_231 : decode cX6_findParts 231 = .ok (.return_, 1) := by decide +kernel
theorem dX6_isFull_0 : decode cX6_isFull 0 = .ok (.iconst 0, 1) := by decide +kernel
theorem dX6_isFull_1 : decode cX6_isFull 1 = .ok (.istore_n 2, 1) := by decide +kernel
theorem dX6_isFull_2 : decode cX6_isFull 2 = .ok (.iconst 0, 1) := by decide +kernel
theorem dX6_isFull_3 : decode cX6_isFull 3 = .ok (.istore_n 3, 1) := by decide +kernel
theorem dX6_isFull_4 : decode cX6_isFull 4 = .ok (.iload_n 3, 1) := by decide +kernel
theorem dX6_isFull_5 : decode cX6_isFull 5 = .ok (.aload_n 0, 1) := by decide +kernel
theorem dX6_isFull_6 : decode cX6_isFull 6 = .ok (.getfield 60, 3) := by decide +kernel
theorem dX6_isFull_9 : decode cX6_isFull 9 = .ok (.if_icmp .ge 20, 3) := by decide +kernel
theorem dX6_isFull_12 : decode cX6_isFull 12 = .ok (.iload_n 2, 1) := by decide +kernel
theorem dX6_isFull_13 : decode cX6_isFull 13 = .ok (.iconst 1, 1) := by decide +kernel
theorem dX6_isFull_14 : decode cX6_isFull 14 = .ok (.aload_n 0, 1) := by decide +kernel
theorem dX6_isFull_15 : decode cX6_isFull 15 = .ok (.getfield 50, 3) := by decide +kernel
theorem dX6_isFull_18 : decode cX6_isFull 18 = .ok (.iload_n 3, 1) := by decide +kernel
theorem dX6_isFull_19 : decode cX6_isFull 19 = .ok (.iaload, 1) := by decide +kernel
theorem dX6_isFull_20 : decode cX6_isFull 20 = .ok (.ishl, 1) := by decide +kernel
theorem dX6_isFull_21 : decode cX6_isFull 21 = .ok (.ior, 1) := by decide +kernel
theorem dX6_isFull_22 : decode cX6_isFull 22 = .ok (.istore_n 2, 1) := by decide +kernel
theorem dX6_isFull_23 : decode cX6_isFull 23 = .ok (.iinc 3 1, 3) := by decide +kernel
theorem dX6_isFull_26 : decode cX6_isFull 26 = .ok (.goto (-22), 3) := by decide +kernel
theorem dX6_isFull_29 : decode cX6_isFull 29 = .ok (.iload_n 2, 1) := by decide +kernel
theorem dX6_isFull_30 : decode cX6_isFull 30 = .ok (.iconst 1, 1) := by decide +kernel
theorem dX6_isFull_31 : decode cX6_isFull 31 = .ok (.iload_n 1, 1) := by decide +kernel
theorem dX6_isFull_32 : decode cX6_isFull 32 = .ok (.ishl, 1) := by decide +kernel
theorem dX6_isFull_33 : decode cX6_isFull 33 = .ok (.iconst 1, 1) := by decide +kernel
theorem dX6_isFull_34 : decode cX6_isFull 34 = .ok (.isub, 1) := by decide +kernel
theorem dX6_isFull_35 : decode cX6_isFull 35 = .ok (.if_icmp .ne 7, 3) := by decide +kernel
theorem dX6_isFull_38 : decode cX6_isFull 38 = .ok (.iconst 1, 1) := by decide +kernel
theorem dX6_isFull_39 : decode cX6_isFull 39 = .ok (.goto 4, 3) := by decide +kernel
theorem dX6_isFull_42 : decode cX6_isFull 42 = .ok (.iconst 0, 1) := by decide +kernel
theorem dX6_isFull_43 : decode cX6_isFull 43 = .ok (.ireturn, 1) := by decide +kernel
theorem dX6_parts_0 : decode cX6_parts 0 = .ok (.aload_n 0, 1) := by decide +kernel
theorem dX6_parts_1 : decode cX6_parts 1 = .ok (.iload_n 1, 1) := by decide +kernel
theorem dX6_parts_2 : decode cX6_parts 2 = .ok (.invokevirtual 121, 3) := by decide +kernel
theorem dX6_parts_5 : decode cX6_parts 5 = .ok (.istore_n 2, 1) := by decide +kernel
theorem dX6_parts_6 : decode cX6_parts 6 = .ok (.iload_n 2, 1) := by decide +kernel
theorem dX6_parts_7 : decode cX6_parts 7 = .ok (.ifCond .ge 5, 3) := by decide +kernel
theorem dX6_parts_10 : decode cX6_parts 10 = .ok (.iload_n 2, 1) := by decide +kernel
theorem dX6_parts_11 : decode cX6_parts 11 = .ok (.ireturn, 1) := by decide +kernel
theorem dX6_parts_12 : decode cX6_parts 12 = .ok (.aload_n 0, 1) := by decide +kernel
theorem dX6_parts_13 : decode cX6_parts 13 = .ok (.iload_n 1, 1) := by decide +kernel
theorem dX6_parts_14 : decode cX6_parts 14 = .ok (.invokevirtual 124, 3) := by decide +kernel
theorem dX6_parts_17 : decode cX6_parts 17 = .ok (.aload_n 0, 1) := by decide +kernel
theorem dX6_parts_18 : decode cX6_parts 18 = .ok (.getfield 38, 3) := by decide +kernel
theorem dX6_parts_21 : decode cX6_parts 21 = .ok (.iload_n 1, 1) := by decide +kernel
theorem dX6_parts_22 : decode cX6_parts 22 = .ok (.iaload, 1) := by decide +kernel
theorem dX6_parts_23 : decode cX6_parts 23 = .ok (.ireturn, 1) := by decide +kernel
theorem dX6_partOf_0 : decode cX6_partOf 0 = .ok (.iload_n 2, 1) := by decide +kernel
theorem dX6_partOf_1 : decode cX6_partOf 1 = .ok (.ifCond .lt 11, 3) := by decide +kernel
theorem dX6_partOf_4 : decode cX6_partOf 4 = .ok (.iload_n 2, 1) := by decide +kernel
theorem dX6_partOf_5 : decode cX6_partOf 5 = .ok (.aload_n 0, 1) := by decide +kernel
theorem dX6_partOf_6 : decode cX6_partOf 6 = .ok (.getfield 60, 3) := by decide +kernel
theorem dX6_partOf_9 : decode cX6_partOf 9 = .ok (.if_icmp .lt 5, 3) := by decide +kernel
theorem dX6_partOf_12 : decode cX6_partOf 12 = .ok (.iconst (-1), 1) := by decide +kernel
theorem dX6_partOf_13 : decode cX6_partOf 13 = .ok (.ireturn, 1) := by decide +kernel
theorem dX6_partOf_14 : decode cX6_partOf 14 = .ok (.aload_n 0, 1) := by decide +kernel
theorem dX6_partOf_15 : decode cX6_partOf 15 = .ok (.iload_n 1, 1) := by decide +kernel
theorem dX6_partOf_16 : decode cX6_partOf 16 = .ok (.invokevirtual 121, 3) := by decide +kernel
theorem dX6_partOf_19 : decode cX6_partOf 19 = .ok (.istore_n 3, 1) := by decide +kernel
theorem dX6_partOf_20 : decode cX6_partOf 20 = .ok (.iload_n 3, 1) := by decide +kernel
theorem dX6_partOf_21 : decode cX6_partOf 21 = .ok (.ifCond .ge 5, 3) := by decide +kernel
theorem dX6_partOf_24 : decode cX6_partOf 24 = .ok (.iload_n 3, 1) := by decide +kernel
theorem dX6_partOf_25 : decode cX6_partOf 25 = .ok (.ireturn, 1) := by decide +kernel
theorem dX6_partOf_26 : decode cX6_partOf 26 = .ok (.aload_n 0, 1) := by decide +kernel
theorem dX6_partOf_27 : decode cX6_partOf 27 = .ok (.iload_n 1, 1) := by decide +kernel
theorem dX6_partOf_28 : decode cX6_partOf 28 = .ok (.invokevirtual 124, 3) := by decide +kernel
theorem dX6_partOf_31 : decode cX6_partOf 31 = .ok (.aload_n 0, 1) := by decide +kernel
theorem dX6_partOf_32 : decode cX6_partOf 32 = .ok (.getfield 44, 3) := by decide +kernel
theorem dX6_partOf_35 : decode cX6_partOf 35 = .ok (.bipush 12, 2) := by decide +kernel
theorem dX6_partOf_37 : decode cX6_partOf 37 = .ok (.iload_n 1, 1) := by decide +kernel
theorem dX6_partOf_38 : decode cX6_partOf 38 = .ok (.imul, 1) := by decide +kernel
theorem dX6_partOf_39 : decode cX6_partOf 39 = .ok (.iload_n 2, 1) := by decide +kernel
theorem dX6_partOf_40 : decode cX6_partOf 40 = .ok (.iadd, 1) := by decide +kernel
theorem dX6_partOf_41 : decode cX6_partOf 41 = .ok (.iaload, 1) := by decide +kernel
theorem dX6_partOf_42 : decode cX6_partOf 42 = .ok (.ireturn, 1) := by decide +kernel
theorem dX6_count_0 : decode cX6_count 0 = .ok (.iconst 0, 1) := by decide +kernel
theorem dX6_count_1 : decode cX6_count 1 = .ok (.istore_n 1, 1) := by decide +kernel
theorem dX6_count_2 : decode cX6_count 2 = .ok (.iconst 0, 1) := by decide +kernel
theorem dX6_count_3 : decode cX6_count 3 = .ok (.istore_n 2, 1) := by decide +kernel
theorem dX6_count_4 : decode cX6_count 4 = .ok (.iload_n 2, 1) := by decide +kernel
theorem dX6_count_5 : decode cX6_count 5 = .ok (.bipush 12, 2) := by decide +kernel
theorem dX6_count_7 : decode cX6_count 7 = .ok (.if_icmp .ge 17, 3) := by decide +kernel
theorem dX6_count_10 : decode cX6_count 10 = .ok (.iload_n 1, 1) := by decide +kernel
theorem dX6_count_11 : decode cX6_count 11 = .ok (.iload_n 0, 1) := by decide +kernel
theorem dX6_count_12 : decode cX6_count 12 = .ok (.iload_n 2, 1) := by decide +kernel
theorem dX6_count_13 : decode cX6_count 13 = .ok (.ishr, 1) := by decide +kernel
theorem dX6_count_14 : decode cX6_count 14 = .ok (.iconst 1, 1) := by decide +kernel
theorem dX6_count_15 : decode cX6_count 15 = .ok (.iand, 1) := by decide +kernel
theorem dX6_count_16 : decode cX6_count 16 = .ok (.iadd, 1) := by decide +kernel
theorem dX6_count_17 : decode cX6_count 17 = .ok (.istore_n 1, 1) := by decide +kernel
theorem dX6_count_18 : decode cX6_count 18 = .ok (.iinc 2 1, 3) := by decide +kernel
theorem dX6_count_21 : decode cX6_count 21 = .ok (.goto (-17), 3) := by decide +kernel
theorem dX6_count_24 : decode cX6_count 24 = .ok (.iload_n 1, 1) := by decide +kernel
theorem dX6_count_25 : decode cX6_count 25 = .ok (.ireturn, 1) := by decide +kernel
theorem dX6_below_0 : decode cX6_below 0 = .ok (.iload_n 1, 1) := by decide +kernel
theorem dX6_below_1 : decode cX6_below 1 = .ok (.invokestatic 128, 3) := by decide +kernel
theorem dX6_below_4 : decode cX6_below 4 = .ok (.aload_n 0, 1) := by decide +kernel
theorem dX6_below_5 : decode cX6_below 5 = .ok (.getfield 60, 3) := by decide +kernel
theorem dX6_below_8 : decode cX6_below 8 = .ok (.iload_n 1, 1) := by decide +kernel
theorem dX6_below_9 : decode cX6_below 9 = .ok (.invokestatic 128, 3) := by decide +kernel
theorem dX6_below_12 : decode cX6_below 12 = .ok (.isub, 1) := by decide +kernel
theorem dX6_below_13 : decode cX6_below 13 = .ok (.imul, 1) := by decide +kernel
theorem dX6_below_14 : decode cX6_below 14 = .ok (.ireturn, 1) := by decide +kernel
theorem dX6_sparsestOf_0 : decode cX6_sparsestOf 0 = .ok (.aload_n 0, 1) := by decide +kernel
theorem dX6_sparsestOf_1 : decode cX6_sparsestOf 1 = .ok (.invokevirtual 84, 3) := by decide +kernel
theorem dX6_sparsestOf_4 : decode cX6_sparsestOf 4 = .ok (.iconst 2, 1) := by decide +kernel
theorem dX6_sparsestOf_5 : decode cX6_sparsestOf 5 = .ok (.istore_n 1, 1) := by decide +kernel
theorem dX6_sparsestOf_6 : decode cX6_sparsestOf 6 = .ok (.iconst 4, 1) := by decide +kernel
theorem dX6_sparsestOf_7 : decode cX6_sparsestOf 7 = .ok (.istore_n 2, 1) := by decide +kernel
theorem dX6_sparsestOf_8 : decode cX6_sparsestOf 8 = .ok (.iload_n 2, 1) := by decide +kernel
theorem dX6_sparsestOf_9 : decode cX6_sparsestOf 9 = .ok (.aload_n 0, 1) := by decide +kernel
theorem dX6_sparsestOf_10 : decode cX6_sparsestOf 10 = .ok (.invokevirtual 77, 3) := by decide +kernel
theorem dX6_sparsestOf_13 : decode cX6_sparsestOf 13 = .ok (.if_icmp .gt 38, 3) := by decide +kernel
theorem dX6_sparsestOf_16 : decode cX6_sparsestOf 16 = .ok (.aload_n 0, 1) := by decide +kernel
theorem dX6_sparsestOf_17 : decode cX6_sparsestOf 17 = .ok (.getfield 29, 3) := by decide +kernel
theorem dX6_sparsestOf_20 : decode cX6_sparsestOf 20 = .ok (.iload_n 2, 1) := by decide +kernel
theorem dX6_sparsestOf_21 : decode cX6_sparsestOf 21 = .ok (.iaload, 1) := by decide +kernel
theorem dX6_sparsestOf_22 : decode cX6_sparsestOf 22 = .ok (.aload_n 0, 1) := by decide +kernel
theorem dX6_sparsestOf_23 : decode cX6_sparsestOf 23 = .ok (.iload_n 1, 1) := by decide +kernel
theorem dX6_sparsestOf_24 : decode cX6_sparsestOf 24 = .ok (.invokevirtual 131, 3) := by decide +kernel
theorem dX6_sparsestOf_27 : decode cX6_sparsestOf 27 = .ok (.imul, 1) := by decide +kernel
theorem dX6_sparsestOf_28 : decode cX6_sparsestOf 28 = .ok (.aload_n 0, 1) := by decide +kernel
theorem dX6_sparsestOf_29 : decode cX6_sparsestOf 29 = .ok (.getfield 29, 3) := by decide +kernel
theorem dX6_sparsestOf_32 : decode cX6_sparsestOf 32 = .ok (.iload_n 1, 1) := by decide +kernel
theorem dX6_sparsestOf_33 : decode cX6_sparsestOf 33 = .ok (.iaload, 1) := by decide +kernel
theorem dX6_sparsestOf_34 : decode cX6_sparsestOf 34 = .ok (.aload_n 0, 1) := by decide +kernel
theorem dX6_sparsestOf_35 : decode cX6_sparsestOf 35 = .ok (.iload_n 2, 1) := by decide +kernel
theorem dX6_sparsestOf_36 : decode cX6_sparsestOf 36 = .ok (.invokevirtual 131, 3) := by decide +kernel
theorem dX6_sparsestOf_39 : decode cX6_sparsestOf 39 = .ok (.imul, 1) := by decide +kernel
theorem dX6_sparsestOf_40 : decode cX6_sparsestOf 40 = .ok (.if_icmp .ge 5, 3) := by decide +kernel
theorem dX6_sparsestOf_43 : decode cX6_sparsestOf 43 = .ok (.iload_n 2, 1) := by decide +kernel
theorem dX6_sparsestOf_44 : decode cX6_sparsestOf 44 = .ok (.istore_n 1, 1) := by decide +kernel
theorem dX6_sparsestOf_45 : decode cX6_sparsestOf 45 = .ok (.iinc 2 2, 3) := by decide +kernel
theorem dX6_sparsestOf_48 : decode cX6_sparsestOf 48 = .ok (.goto (-40), 3) := by decide +kernel
theorem dX6_sparsestOf_51 : decode cX6_sparsestOf 51 = .ok (.iload_n 1, 1) := by decide +kernel
theorem dX6_sparsestOf_52 : decode cX6_sparsestOf 52 = .ok (.ireturn, 1) := by decide +kernel
theorem dX6_sparsest_0 : decode cX6_sparsest 0 = .ok (.aload_n 0, 1) := by decide +kernel
theorem dX6_sparsest_1 : decode cX6_sparsest 1 = .ok (.getfield 60, 3) := by decide +kernel
theorem dX6_sparsest_4 : decode cX6_sparsest 4 = .ok (.iconst 2, 1) := by decide +kernel
theorem dX6_sparsest_5 : decode cX6_sparsest 5 = .ok (.if_icmp .ge 8, 3) := by decide +kernel
theorem dX6_sparsest_8 : decode cX6_sparsest 8 = .ok (.bipush (-3), 2) := by decide +kernel
theorem dX6_sparsest_10 : decode cX6_sparsest 10 = .ok (.goto 7, 3) := by decide +kernel
theorem dX6_sparsest_13 : decode cX6_sparsest 13 = .ok (.aload_n 0, 1) := by decide +kernel
theorem dX6_sparsest_14 : decode cX6_sparsest 14 = .ok (.invokevirtual 134, 3) := by decide +kernel
theorem dX6_sparsest_17 : decode cX6_sparsest 17 = .ok (.ireturn, 1) := by decide +kernel
theorem dX6_share_0 : decode cX6_share 0 = .ok (.iload_n 1, 1) := by decide +kernel
theorem dX6_share_1 : decode cX6_share 1 = .ok (.ifCond .lt 8, 3) := by decide +kernel
theorem dX6_share_4 : decode cX6_share 4 = .ok (.iload_n 1, 1) := by decide +kernel
theorem dX6_share_5 : decode cX6_share 5 = .ok (.iconst 1, 1) := by decide +kernel
theorem dX6_share_6 : decode cX6_share 6 = .ok (.if_icmp .le 6, 3) := by decide +kernel
theorem dX6_share_9 : decode cX6_share 9 = .ok (.bipush (-2), 2) := by decide +kernel
theorem dX6_share_11 : decode cX6_share 11 = .ok (.ireturn, 1) := by decide +kernel
theorem dX6_share_12 : decode cX6_share 12 = .ok (.aload_n 0, 1) := by decide +kernel
theorem dX6_share_13 : decode cX6_share 13 = .ok (.getfield 60, 3) := by decide +kernel
theorem dX6_share_16 : decode cX6_share 16 = .ok (.iconst 2, 1) := by decide +kernel
theorem dX6_share_17 : decode cX6_share 17 = .ok (.if_icmp .ge 6, 3) := by decide +kernel
theorem dX6_share_20 : decode cX6_share 20 = .ok (.bipush (-3), 2) := by decide +kernel
theorem dX6_share_22 : decode cX6_share 22 = .ok (.ireturn, 1) := by decide +kernel
theorem dX6_share_23 : decode cX6_share 23 = .ok (.aload_n 0, 1) := by decide +kernel
theorem dX6_share_24 : decode cX6_share 24 = .ok (.invokevirtual 134, 3) := by decide +kernel
theorem dX6_share_27 : decode cX6_share 27 = .ok (.istore_n 2, 1) := by decide +kernel
theorem dX6_share_28 : decode cX6_share 28 = .ok (.aload_n 0, 1) := by decide +kernel
theorem dX6_share_29 : decode cX6_share 29 = .ok (.getfield 29, 3) := by decide +kernel
theorem dX6_share_32 : decode cX6_share 32 = .ok (.iload_n 2, 1) := by decide +kernel
theorem dX6_share_33 : decode cX6_share 33 = .ok (.iaload, 1) := by decide +kernel
theorem dX6_share_34 : decode cX6_share 34 = .ok (.istore_n 3, 1) := by decide +kernel
theorem dX6_share_35 : decode cX6_share 35 = .ok (.aload_n 0, 1) := by decide +kernel
theorem dX6_share_36 : decode cX6_share 36 = .ok (.iload_n 2, 1) := by decide +kernel
theorem dX6_share_37 : decode cX6_share 37 = .ok (.invokevirtual 131, 3) := by decide +kernel
theorem dX6_share_40 : decode cX6_share 40 = .ok (.istore 4, 2) := by decide +kernel
theorem dX6_share_42 : decode cX6_share 42 = .ok (.iload_n 3, 1) := by decide +kernel
theorem dX6_share_43 : decode cX6_share 43 = .ok (.istore 5, 2) := by decide +kernel
theorem dX6_share_45 : decode cX6_share 45 = .ok (.iload 4, 2) := by decide +kernel
theorem dX6_share_47 : decode cX6_share 47 = .ok (.istore 6, 2) := by decide +kernel
theorem dX6_share_49 : decode cX6_share 49 = .ok (.iload 6, 2) := by decide +kernel
theorem dX6_share_51 : decode cX6_share 51 = .ok (.ifCond .eq 21, 3) := by decide +kernel
theorem dX6_share_54 : decode cX6_share 54 = .ok (.iload 5, 2) := by decide +kernel
theorem dX6_share_56 : decode cX6_share 56 = .ok (.iload 6, 2) := by decide +kernel
theorem dX6_share_58 : decode cX6_share 58 = .ok (.irem, 1) := by decide +kernel
theorem dX6_share_59 : decode cX6_share 59 = .ok (.istore 7, 2) := by decide +kernel
theorem dX6_share_61 : decode cX6_share 61 = .ok (.iload 6, 2) := by decide +kernel
theorem dX6_share_63 : decode cX6_share 63 = .ok (.istore 5, 2) := by decide +kernel
theorem dX6_share_65 : decode cX6_share 65 = .ok (.iload 7, 2) := by decide +kernel
theorem dX6_share_67 : decode cX6_share 67 = .ok (.istore 6, 2) := by decide +kernel
theorem dX6_share_69 : decode cX6_share 69 = .ok (.goto (-20), 3) := by decide +kernel
theorem dX6_share_72 : decode cX6_share 72 = .ok (.iload_n 1, 1) := by decide +kernel
theorem dX6_share_73 : decode cX6_share 73 = .ok (.ifCond .ne 7, 3) := by decide +kernel
theorem dX6_share_76 : decode cX6_share 76 = .ok (.iload_n 3, 1) := by decide +kernel
theorem dX6_share_77 : decode cX6_share 77 = .ok (.goto 5, 3) := by decide +kernel
theorem dX6_share_80 : decode cX6_share 80 = .ok (.iload 4, 2) := by decide +kernel
theorem dX6_share_82 : decode cX6_share 82 = .ok (.iload 5, 2) := by decide +kernel
theorem dX6_share_84 : decode cX6_share 84 = .ok (.idiv, 1) := by decide +kernel
theorem dX6_share_85 : decode cX6_share 85 = .ok (.ireturn, 1) := by decide +kernel
theorem dX6_part_0 : decode cX6_part 0 = .ok (.iconst 1, 1) := by decide +kernel
theorem dX6_part_1 : decode cX6_part 1 = .ok (.iload_n 1, 1) := by decide +kernel
theorem dX6_part_2 : decode cX6_part 2 = .ok (.ishl, 1) := by decide +kernel
theorem dX6_part_3 : decode cX6_part 3 = .ok (.istore_n 3, 1) := by decide +kernel
theorem dX6_part_4 : decode cX6_part 4 = .ok (.iconst 0, 1) := by decide +kernel
theorem dX6_part_5 : decode cX6_part 5 = .ok (.istore 4, 2) := by decide +kernel
theorem dX6_part_7 : decode cX6_part 7 = .ok (.iload 4, 2) := by decide +kernel
theorem dX6_part_9 : decode cX6_part 9 = .ok (.iload_n 3, 1) := by decide +kernel
theorem dX6_part_10 : decode cX6_part 10 = .ok (.if_icmp .eq 51, 3) := by decide +kernel
theorem dX6_part_13 : decode cX6_part 13 = .ok (.iload_n 3, 1) := by decide +kernel
theorem dX6_part_14 : decode cX6_part 14 = .ok (.istore 4, 2) := by decide +kernel
theorem dX6_part_16 : decode cX6_part 16 = .ok (.iconst 0, 1) := by decide +kernel
theorem dX6_part_17 : decode cX6_part 17 = .ok (.istore 5, 2) := by decide +kernel
theorem dX6_part_19 : decode cX6_part 19 = .ok (.iload 5, 2) := by decide +kernel
theorem dX6_part_21 : decode cX6_part 21 = .ok (.aload_n 0, 1) := by decide +kernel
theorem dX6_part_22 : decode cX6_part 22 = .ok (.getfield 60, 3) := by decide +kernel
theorem dX6_part_25 : decode cX6_part 25 = .ok (.if_icmp .ge 33, 3) := by decide +kernel
theorem dX6_part_28 : decode cX6_part 28 = .ok (.iload_n 3, 1) := by decide +kernel
theorem dX6_part_29 : decode cX6_part 29 = .ok (.iload 5, 2) := by decide +kernel
theorem dX6_part_31 : decode cX6_part 31 = .ok (.ishr, 1) := by decide +kernel
theorem dX6_part_32 : decode cX6_part 32 = .ok (.iconst 1, 1) := by decide +kernel
theorem dX6_part_33 : decode cX6_part 33 = .ok (.iand, 1) := by decide +kernel
theorem dX6_part_34 : decode cX6_part 34 = .ok (.iconst 1, 1) := by decide +kernel
theorem dX6_part_35 : decode cX6_part 35 = .ok (.if_icmp .ne 17, 3) := by decide +kernel
theorem dX6_part_38 : decode cX6_part 38 = .ok (.iload_n 3, 1) := by decide +kernel
theorem dX6_part_39 : decode cX6_part 39 = .ok (.aload_n 0, 1) := by decide +kernel
theorem dX6_part_40 : decode cX6_part 40 = .ok (.getfield 26, 3) := by decide +kernel
theorem dX6_part_43 : decode cX6_part 43 = .ok (.iload 5, 2) := by decide +kernel
theorem dX6_part_45 : decode cX6_part 45 = .ok (.iaload, 1) := by decide +kernel
theorem dX6_part_46 : decode cX6_part 46 = .ok (.iload_n 2, 1) := by decide +kernel
theorem dX6_part_47 : decode cX6_part 47 = .ok (.iconst (-1), 1) := by decide +kernel
theorem dX6_part_48 : decode cX6_part 48 = .ok (.ixor, 1) := by decide +kernel
theorem dX6_part_49 : decode cX6_part 49 = .ok (.iand, 1) := by decide +kernel
theorem dX6_part_50 : decode cX6_part 50 = .ok (.ior, 1) := by decide +kernel
theorem dX6_part_51 : decode cX6_part 51 = .ok (.istore_n 3, 1) := by decide +kernel
theorem dX6_part_52 : decode cX6_part 52 = .ok (.iinc 5 1, 3) := by decide +kernel
theorem dX6_part_55 : decode cX6_part 55 = .ok (.goto (-36), 3) := by decide +kernel
theorem dX6_part_58 : decode cX6_part 58 = .ok (.goto (-51), 3) := by decide +kernel
theorem dX6_part_61 : decode cX6_part 61 = .ok (.iload_n 3, 1) := by decide +kernel
theorem dX6_part_62 : decode cX6_part 62 = .ok (.ireturn, 1) := by decide +kernel
theorem dX6_barsOf_0 : decode cX6_barsOf 0 = .ok (.iconst (-1), 1) := by decide +kernel
theorem dX6_barsOf_1 : decode cX6_barsOf 1 = .ok (.istore_n 3, 1) := by decide +kernel
theorem dX6_barsOf_2 : decode cX6_barsOf 2 = .ok (.iconst 0, 1) := by decide +kernel
theorem dX6_barsOf_3 : decode cX6_barsOf 3 = .ok (.istore 4, 2) := by decide +kernel
theorem dX6_barsOf_5 : decode cX6_barsOf 5 = .ok (.iload 4, 2) := by decide +kernel
theorem dX6_barsOf_7 : decode cX6_barsOf 7 = .ok (.aload_n 0, 1) := by decide +kernel
theorem dX6_barsOf_8 : decode cX6_barsOf 8 = .ok (.invokevirtual 77, 3) := by decide +kernel
theorem dX6_barsOf_11 : decode cX6_barsOf 11 = .ok (.if_icmp .gt 60, 3) := by decide +kernel
theorem dX6_barsOf_14 : decode cX6_barsOf 14 = .ok (.iload 4, 2) := by decide +kernel
theorem dX6_barsOf_16 : decode cX6_barsOf 16 = .ok (.iload_n 1, 1) := by decide +kernel
theorem dX6_barsOf_17 : decode cX6_barsOf 17 = .ok (.ishr, 1) := by decide +kernel
theorem dX6_barsOf_18 : decode cX6_barsOf 18 = .ok (.iconst 1, 1) := by decide +kernel
theorem dX6_barsOf_19 : decode cX6_barsOf 19 = .ok (.iand, 1) := by decide +kernel
theorem dX6_barsOf_20 : decode cX6_barsOf 20 = .ok (.ifCond .ne 45, 3) := by decide +kernel
theorem dX6_barsOf_23 : decode cX6_barsOf 23 = .ok (.iload 4, 2) := by decide +kernel
theorem dX6_barsOf_25 : decode cX6_barsOf 25 = .ok (.iload_n 2, 1) := by decide +kernel
theorem dX6_barsOf_26 : decode cX6_barsOf 26 = .ok (.ishr, 1) := by decide +kernel
theorem dX6_barsOf_27 : decode cX6_barsOf 27 = .ok (.iconst 1, 1) := by decide +kernel
theorem dX6_barsOf_28 : decode cX6_barsOf 28 = .ok (.iand, 1) := by decide +kernel
theorem dX6_barsOf_29 : decode cX6_barsOf 29 = .ok (.ifCond .ne 36, 3) := by decide +kernel
theorem dX6_barsOf_32 : decode cX6_barsOf 32 = .ok (.aload_n 0, 1) := by decide +kernel
theorem dX6_barsOf_33 : decode cX6_barsOf 33 = .ok (.iload_n 1, 1) := by decide +kernel
theorem dX6_barsOf_34 : decode cX6_barsOf 34 = .ok (.iload 4, 2) := by decide +kernel
theorem dX6_barsOf_36 : decode cX6_barsOf 36 = .ok (.invokevirtual 137, 3) := by decide +kernel
theorem dX6_barsOf_39 : decode cX6_barsOf 39 = .ok (.iload_n 2, 1) := by decide +kernel
theorem dX6_barsOf_40 : decode cX6_barsOf 40 = .ok (.ishr, 1) := by decide +kernel
theorem dX6_barsOf_41 : decode cX6_barsOf 41 = .ok (.iconst 1, 1) := by decide +kernel
theorem dX6_barsOf_42 : decode cX6_barsOf 42 = .ok (.iand, 1) := by decide +kernel
theorem dX6_barsOf_43 : decode cX6_barsOf 43 = .ok (.ifCond .ne 22, 3) := by decide +kernel
theorem dX6_barsOf_46 : decode cX6_barsOf 46 = .ok (.iload_n 3, 1) := by decide +kernel
theorem dX6_barsOf_47 : decode cX6_barsOf 47 = .ok (.ifCond .lt 15, 3) := by decide +kernel
theorem dX6_barsOf_50 : decode cX6_barsOf 50 = .ok (.iload 4, 2) := by decide +kernel
theorem dX6_barsOf_52 : decode cX6_barsOf 52 = .ok (.invokestatic 128, 3) := by decide +kernel
theorem dX6_barsOf_55 : decode cX6_barsOf 55 = .ok (.iload_n 3, 1) := by decide +kernel
theorem dX6_barsOf_56 : decode cX6_barsOf 56 = .ok (.invokestatic 128, 3) := by decide +kernel
theorem dX6_barsOf_59 : decode cX6_barsOf 59 = .ok (.if_icmp .ge 6, 3) := by decide +kernel
theorem dX6_barsOf_62 : decode cX6_barsOf 62 = .ok (.iload 4, 2) := by decide +kernel
theorem dX6_barsOf_64 : decode cX6_barsOf 64 = .ok (.istore_n 3, 1) := by decide +kernel
theorem dX6_barsOf_65 : decode cX6_barsOf 65 = .ok (.iinc 4 1, 3) := by decide +kernel
theorem dX6_barsOf_68 : decode cX6_barsOf 68 = .ok (.goto (-63), 3) := by decide +kernel
theorem dX6_barsOf_71 : decode cX6_barsOf 71 = .ok (.iload_n 3, 1) := by decide +kernel
theorem dX6_barsOf_72 : decode cX6_barsOf 72 = .ok (.ireturn, 1) := by decide +kernel
theorem dX6_barFault_0 : decode cX6_barFault 0 = .ok (.aload_n 0, 1) := by decide +kernel
theorem dX6_barFault_1 : decode cX6_barFault 1 = .ok (.iload_n 1, 1) := by decide +kernel
theorem dX6_barFault_2 : decode cX6_barFault 2 = .ok (.iload_n 2, 1) := by decide +kernel
theorem dX6_barFault_3 : decode cX6_barFault 3 = .ok (.invokevirtual 67, 3) := by decide +kernel
theorem dX6_barFault_6 : decode cX6_barFault 6 = .ok (.ifCond .ne 5, 3) := by decide +kernel
theorem dX6_barFault_9 : decode cX6_barFault 9 = .ok (.iconst (-1), 1) := by decide +kernel
theorem dX6_barFault_10 : decode cX6_barFault 10 = .ok (.ireturn, 1) := by decide +kernel
theorem dX6_barFault_11 : decode cX6_barFault 11 = .ok (.aload_n 0, 1) := by decide +kernel
theorem dX6_barFault_12 : decode cX6_barFault 12 = .ok (.invokevirtual 84, 3) := by decide +kernel
theorem dX6_barFault_15 : decode cX6_barFault 15 = .ok (.aload_n 0, 1) := by decide +kernel
theorem dX6_barFault_16 : decode cX6_barFault 16 = .ok (.getfield 26, 3) := by decide +kernel
theorem dX6_barFault_19 : decode cX6_barFault 19 = .ok (.iload_n 1, 1) := by decide +kernel
theorem dX6_barFault_20 : decode cX6_barFault 20 = .ok (.iaload, 1) := by decide +kernel
theorem dX6_barFault_21 : decode cX6_barFault 21 = .ok (.iload_n 2, 1) := by decide +kernel
theorem dX6_barFault_22 : decode cX6_barFault 22 = .ok (.ishr, 1) := by decide +kernel
theorem dX6_barFault_23 : decode cX6_barFault 23 = .ok (.iconst 1, 1) := by decide +kernel
theorem dX6_barFault_24 : decode cX6_barFault 24 = .ok (.iand, 1) := by decide +kernel
theorem dX6_barFault_25 : decode cX6_barFault 25 = .ok (.iconst 1, 1) := by decide +kernel
theorem dX6_barFault_26 : decode cX6_barFault 26 = .ok (.if_icmp .ne 8, 3) := by decide +kernel
theorem dX6_barFault_29 : decode cX6_barFault 29 = .ok (.bipush (-3), 2) := by decide +kernel
theorem dX6_barFault_31 : decode cX6_barFault 31 = .ok (.goto 4, 3) := by decide +kernel
theorem dX6_barFault_34 : decode cX6_barFault 34 = .ok (.iconst 0, 1) := by decide +kernel
theorem dX6_barFault_35 : decode cX6_barFault 35 = .ok (.ireturn, 1) := by decide +kernel
theorem dX6_bars_0 : decode cX6_bars 0 = .ok (.aload_n 0, 1) := by decide +kernel
theorem dX6_bars_1 : decode cX6_bars 1 = .ok (.iload_n 1, 1) := by decide +kernel
theorem dX6_bars_2 : decode cX6_bars 2 = .ok (.iload_n 2, 1) := by decide +kernel
theorem dX6_bars_3 : decode cX6_bars 3 = .ok (.invokevirtual 140, 3) := by decide +kernel
theorem dX6_bars_6 : decode cX6_bars 6 = .ok (.istore_n 3, 1) := by decide +kernel
theorem dX6_bars_7 : decode cX6_bars 7 = .ok (.iload_n 3, 1) := by decide +kernel
theorem dX6_bars_8 : decode cX6_bars 8 = .ok (.ifCond .ge 7, 3) := by decide +kernel
theorem dX6_bars_11 : decode cX6_bars 11 = .ok (.iload_n 3, 1) := by decide +kernel
theorem dX6_bars_12 : decode cX6_bars 12 = .ok (.goto 12, 3) := by decide +kernel
theorem dX6_bars_15 : decode cX6_bars 15 = .ok (.aload_n 0, 1) := by decide +kernel
theorem dX6_bars_16 : decode cX6_bars 16 = .ok (.iload_n 1, 1) := by decide +kernel
theorem dX6_bars_17 : decode cX6_bars 17 = .ok (.iload_n 2, 1) := by decide +kernel
theorem dX6_bars_18 : decode cX6_bars 18 = .ok (.invokevirtual 143, 3) := by decide +kernel
theorem dX6_bars_21 : decode cX6_bars 21 = .ok (.invokestatic 128, 3) := by decide +kernel
theorem dX6_bars_24 : decode cX6_bars 24 = .ok (.ireturn, 1) := by decide +kernel
theorem dX6_barSet_0 : decode cX6_barSet 0 = .ok (.aload_n 0, 1) := by decide +kernel
theorem dX6_barSet_1 : decode cX6_barSet 1 = .ok (.iload_n 1, 1) := by decide +kernel
theorem dX6_barSet_2 : decode cX6_barSet 2 = .ok (.iload_n 2, 1) := by decide +kernel
theorem dX6_barSet_3 : decode cX6_barSet 3 = .ok (.invokevirtual 140, 3) := by decide +kernel
theorem dX6_barSet_6 : decode cX6_barSet 6 = .ok (.istore_n 3, 1) := by decide +kernel
theorem dX6_barSet_7 : decode cX6_barSet 7 = .ok (.iload_n 3, 1) := by decide +kernel
theorem dX6_barSet_8 : decode cX6_barSet 8 = .ok (.ifCond .ge 7, 3) := by decide +kernel
theorem dX6_barSet_11 : decode cX6_barSet 11 = .ok (.iload_n 3, 1) := by decide +kernel
theorem dX6_barSet_12 : decode cX6_barSet 12 = .ok (.goto 9, 3) := by decide +kernel
theorem dX6_barSet_15 : decode cX6_barSet 15 = .ok (.aload_n 0, 1) := by decide +kernel
theorem dX6_barSet_16 : decode cX6_barSet 16 = .ok (.iload_n 1, 1) := by decide +kernel
theorem dX6_barSet_17 : decode cX6_barSet 17 = .ok (.iload_n 2, 1) := by decide +kernel
theorem dX6_barSet_18 : decode cX6_barSet 18 = .ok (.invokevirtual 143, 3) := by decide +kernel
theorem dX6_barSet_21 : decode cX6_barSet 21 = .ok (.ireturn, 1) := by decide +kernel
theorem dX6_without_0 : decode cX6_without 0 = .ok (.iload_n 1, 1) := by decide +kernel
theorem dX6_without_1 : decode cX6_without 1 = .ok (.aload_n 0, 1) := by decide +kernel
theorem dX6_without_2 : decode cX6_without 2 = .ok (.invokevirtual 77, 3) := by decide +kernel
theorem dX6_without_5 : decode cX6_without 5 = .ok (.iconst (-1), 1) := by decide +kernel
theorem dX6_without_6 : decode cX6_without 6 = .ok (.ixor, 1) := by decide +kernel
theorem dX6_without_7 : decode cX6_without 7 = .ok (.iand, 1) := by decide +kernel
theorem dX6_without_8 : decode cX6_without 8 = .ok (.ifCond .eq 6, 3) := by decide +kernel
theorem dX6_without_11 : decode cX6_without 11 = .ok (.bipush (-2), 2) := by decide +kernel
theorem dX6_without_13 : decode cX6_without 13 = .ok (.ireturn, 1) := by decide +kernel
theorem dX6_without_14 : decode cX6_without 14 = .ok (.aload_n 0, 1) := by decide +kernel
theorem dX6_without_15 : decode cX6_without 15 = .ok (.invokevirtual 84, 3) := by decide +kernel
theorem dX6_without_18 : decode cX6_without 18 = .ok (.iconst 0, 1) := by decide +kernel
theorem dX6_without_19 : decode cX6_without 19 = .ok (.istore_n 2, 1) := by decide +kernel
theorem dX6_without_20 : decode cX6_without 20 = .ok (.iload_n 1, 1) := by decide +kernel
theorem dX6_without_21 : decode cX6_without 21 = .ok (.istore_n 3, 1) := by decide +kernel
theorem dX6_without_22 : decode cX6_without 22 = .ok (.iconst 0, 1) := by decide +kernel
theorem dX6_without_23 : decode cX6_without 23 = .ok (.istore 4, 2) := by decide +kernel
theorem dX6_without_25 : decode cX6_without 25 = .ok (.iload 4, 2) := by decide +kernel
theorem dX6_without_27 : decode cX6_without 27 = .ok (.aload_n 0, 1) := by decide +kernel
theorem dX6_without_28 : decode cX6_without 28 = .ok (.getfield 60, 3) := by decide +kernel
theorem dX6_without_31 : decode cX6_without 31 = .ok (.if_icmp .ge 31, 3) := by decide +kernel
theorem dX6_without_34 : decode cX6_without 34 = .ok (.iload_n 3, 1) := by decide +kernel
theorem dX6_without_35 : decode cX6_without 35 = .ok (.iload 4, 2) := by decide +kernel
theorem dX6_without_37 : decode cX6_without 37 = .ok (.ishr, 1) := by decide +kernel
theorem dX6_without_38 : decode cX6_without 38 = .ok (.iconst 1, 1) := by decide +kernel
theorem dX6_without_39 : decode cX6_without 39 = .ok (.iand, 1) := by decide +kernel
theorem dX6_without_40 : decode cX6_without 40 = .ok (.ifCond .ne 16, 3) := by decide +kernel
theorem dX6_without_43 : decode cX6_without 43 = .ok (.iload_n 3, 1) := by decide +kernel
theorem dX6_without_44 : decode cX6_without 44 = .ok (.aload_n 0, 1) := by decide +kernel
theorem dX6_without_45 : decode cX6_without 45 = .ok (.iload 4, 2) := by decide +kernel
theorem dX6_without_47 : decode cX6_without 47 = .ok (.iload_n 1, 1) := by decide +kernel
theorem dX6_without_48 : decode cX6_without 48 = .ok (.invokevirtual 137, 3) := by decide +kernel
theorem dX6_without_51 : decode cX6_without 51 = .ok (.ior, 1) := by decide +kernel
theorem dX6_without_52 : decode cX6_without 52 = .ok (.istore_n 3, 1) := by decide +kernel
theorem dX6_without_53 : decode cX6_without 53 = .ok (.iinc 2 1, 3) := by decide +kernel
theorem dX6_without_56 : decode cX6_without 56 = .ok (.iinc 4 1, 3) := by decide +kernel
theorem dX6_without_59 : decode cX6_without 59 = .ok (.goto (-34), 3) := by decide +kernel
theorem dX6_without_62 : decode cX6_without 62 = .ok (.iload_n 2, 1) := by decide +kernel
theorem dX6_without_63 : decode cX6_without 63 = .ok (.ireturn, 1) := by decide +kernel
end
section
/-! decode rows: by program -/
theorem dL_law_0 : decode cL_law 0 = .ok (.new 7, 3) := by decide +kernel
theorem dL_law_3 : decode cL_law 3 = .ok (.dup, 1) := by decide +kernel
theorem dL_law_4 : decode cL_law 4 = .ok (.invokespecial 9, 3) := by decide +kernel
theorem dL_law_7 : decode cL_law 7 = .ok (.astore_n 1, 1) := by decide +kernel
theorem dL_law_8 : decode cL_law 8 = .ok (.new 10, 3) := by decide +kernel
theorem dL_law_11 : decode cL_law 11 = .ok (.dup, 1) := by decide +kernel
theorem dL_law_12 : decode cL_law 12 = .ok (.invokespecial 12, 3) := by decide +kernel
theorem dL_law_15 : decode cL_law 15 = .ok (.astore_n 2, 1) := by decide +kernel
theorem dL_law_16 : decode cL_law 16 = .ok (.iconst 0, 1) := by decide +kernel
theorem dL_law_17 : decode cL_law 17 = .ok (.istore_n 3, 1) := by decide +kernel
theorem dL_law_18 : decode cL_law 18 = .ok (.iload_n 3, 1) := by decide +kernel
theorem dL_law_19 : decode cL_law 19 = .ok (.aload_n 0, 1) := by decide +kernel
theorem dL_law_20 : decode cL_law 20 = .ok (.arraylength, 1) := by decide +kernel
theorem dL_law_21 : decode cL_law 21 = .ok (.iconst 4, 1) := by decide +kernel
theorem dL_law_22 : decode cL_law 22 = .ok (.isub, 1) := by decide +kernel
theorem dL_law_23 : decode cL_law 23 = .ok (.if_icmp .gt 628, 3) := by decide +kernel
theorem dL_law_26 : decode cL_law 26 = .ok (.aload_n 0, 1) := by decide +kernel
theorem dL_law_27 : decode cL_law 27 = .ok (.iload_n 3, 1) := by decide +kernel
theorem dL_law_28 : decode cL_law 28 = .ok (.iaload, 1) := by decide +kernel
theorem dL_law_29 : decode cL_law 29 = .ok (.bipush 31, 2) := by decide +kernel
theorem dL_law_31 : decode cL_law 31 = .ok (.iand, 1) := by decide +kernel
theorem dL_law_32 : decode cL_law 32 = .ok (.tableswitch 613 0 20 #[100, 113, 156, 179, 192, 215, 248, 281, 304, 327, 360, 373, 386, 409, 432, 455, 488, 501, 524, 557, 590], 100) := by decide +kernel
theorem dL_law_132 : decode cL_law 132 = .ok (.aload_n 1, 1) := by decide +kernel
theorem dL_law_133 : decode cL_law 133 = .ok (.invokevirtual 13, 3) := by decide +kernel
theorem dL_law_136 : decode cL_law 136 = .ok (.aload_n 2, 1) := by decide +kernel
theorem dL_law_137 : decode cL_law 137 = .ok (.invokevirtual 17, 3) := by decide +kernel
theorem dL_law_140 : decode cL_law 140 = .ok (.if_icmp .eq 505, 3) := by decide +kernel
theorem dL_law_143 : decode cL_law 143 = .ok (.iconst 0, 1) := by decide +kernel
theorem dL_law_144 : decode cL_law 144 = .ok (.ireturn, 1) := by decide +kernel
theorem dL_law_145 : decode cL_law 145 = .ok (.aload_n 1, 1) := by decide +kernel
theorem dL_law_146 : decode cL_law 146 = .ok (.aload_n 0, 1) := by decide +kernel
theorem dL_law_147 : decode cL_law 147 = .ok (.iload_n 3, 1) := by decide +kernel
theorem dL_law_148 : decode cL_law 148 = .ok (.iconst 1, 1) := by decide +kernel
theorem dL_law_149 : decode cL_law 149 = .ok (.iadd, 1) := by decide +kernel
theorem dL_law_150 : decode cL_law 150 = .ok (.iaload, 1) := by decide +kernel
theorem dL_law_151 : decode cL_law 151 = .ok (.aload_n 0, 1) := by decide +kernel
theorem dL_law_152 : decode cL_law 152 = .ok (.iload_n 3, 1) := by decide +kernel
theorem dL_law_153 : decode cL_law 153 = .ok (.iconst 2, 1) := by decide +kernel
theorem dL_law_154 : decode cL_law 154 = .ok (.iadd, 1) := by decide +kernel
theorem dL_law_155 : decode cL_law 155 = .ok (.iaload, 1) := by decide +kernel
theorem dL_law_156 : decode cL_law 156 = .ok (.aload_n 0, 1) := by decide +kernel
theorem dL_law_157 : decode cL_law 157 = .ok (.iload_n 3, 1) := by decide +kernel
theorem dL_law_158 : decode cL_law 158 = .ok (.iconst 3, 1) := by decide +kernel
theorem dL_law_159 : decode cL_law 159 = .ok (.iadd, 1) := by decide +kernel
theorem dL_law_160 : decode cL_law 160 = .ok (.iaload, 1) := by decide +kernel
theorem dL_law_161 : decode cL_law 161 = .ok (.invokevirtual 18, 3) := by decide +kernel
theorem dL_law_164 : decode cL_law 164 = .ok (.aload_n 2, 1) := by decide +kernel
theorem dL_law_165 : decode cL_law 165 = .ok (.aload_n 0, 1) := by decide +kernel
theorem dL_law_166 : decode cL_law 166 = .ok (.iload_n 3, 1) := by decide +kernel
theorem dL_law_167 : decode cL_law 167 = .ok (.iconst 1, 1) := by decide +kernel
theorem dL_law_168 : decode cL_law 168 = .ok (.iadd, 1) := by decide +kernel
theorem dL_law_169 : decode cL_law 169 = .ok (.iaload, 1) := by decide +kernel
theorem dL_law_170 : decode cL_law 170 = .ok (.aload_n 0, 1) := by decide +kernel
theorem dL_law_171 : decode cL_law 171 = .ok (.iload_n 3, 1) := by decide +kernel
theorem dL_law_172 : decode cL_law 172 = .ok (.iconst 2, 1) := by decide +kernel
theorem dL_law_173 : decode cL_law 173 = .ok (.iadd, 1) := by decide +kernel
theorem dL_law_174 : decode cL_law 174 = .ok (.iaload, 1) := by decide +kernel
theorem dL_law_175 : decode cL_law 175 = .ok (.aload_n 0, 1) := by decide +kernel
theorem dL_law_176 : decode cL_law 176 = .ok (.iload_n 3, 1) := by decide +kernel
theorem dL_law_177 : decode cL_law 177 = .ok (.iconst 3, 1) := by decide +kernel
theorem dL_law_178 : decode cL_law 178 = .ok (.iadd, 1) := by decide +kernel
theorem dL_law_179 : decode cL_law 179 = .ok (.iaload, 1) := by decide +kernel
theorem dL_law_180 : decode cL_law 180 = .ok (.invokevirtual 22, 3) := by decide +kernel
theorem dL_law_183 : decode cL_law 183 = .ok (.if_icmp .eq 462, 3) := by decide +kernel
theorem dL_law_186 : decode cL_law 186 = .ok (.iconst 0, 1) := by decide +kernel
theorem dL_law_187 : decode cL_law 187 = .ok (.ireturn, 1) := by decide +kernel
theorem dL_law_188 : decode cL_law 188 = .ok (.aload_n 1, 1) := by decide +kernel
theorem dL_law_189 : decode cL_law 189 = .ok (.aload_n 0, 1) := by decide +kernel
theorem dL_law_190 : decode cL_law 190 = .ok (.iload_n 3, 1) := by decide +kernel
theorem dL_law_191 : decode cL_law 191 = .ok (.iconst 1, 1) := by decide +kernel
theorem dL_law_192 : decode cL_law 192 = .ok (.iadd, 1) := by decide +kernel
theorem dL_law_193 : decode cL_law 193 = .ok (.iaload, 1) := by decide +kernel
theorem dL_law_194 : decode cL_law 194 = .ok (.invokevirtual 23, 3) := by decide +kernel
theorem dL_law_197 : decode cL_law 197 = .ok (.aload_n 2, 1) := by decide +kernel
theorem dL_law_198 : decode cL_law 198 = .ok (.aload_n 0, 1) := by decide +kernel
theorem dL_law_199 : decode cL_law 199 = .ok (.iload_n 3, 1) := by decide +kernel
theorem dL_law_200 : decode cL_law 200 = .ok (.iconst 1, 1) := by decide +kernel
theorem dL_law_201 : decode cL_law 201 = .ok (.iadd, 1) := by decide +kernel
theorem dL_law_202 : decode cL_law 202 = .ok (.iaload, 1) := by decide +kernel
theorem dL_law_203 : decode cL_law 203 = .ok (.invokevirtual 27, 3) := by decide +kernel
theorem dL_law_206 : decode cL_law 206 = .ok (.if_icmp .eq 439, 3) := by decide +kernel
theorem dL_law_209 : decode cL_law 209 = .ok (.iconst 0, 1) := by decide +kernel
theorem dL_law_210 : decode cL_law 210 = .ok (.ireturn, 1) := by decide +kernel
theorem dL_law_211 : decode cL_law 211 = .ok (.aload_n 1, 1) := by decide +kernel
theorem dL_law_212 : decode cL_law 212 = .ok (.invokevirtual 28, 3) := by decide +kernel
theorem dL_law_215 : decode cL_law 215 = .ok (.aload_n 2, 1) := by decide +kernel
theorem dL_law_216 : decode cL_law 216 = .ok (.invokevirtual 31, 3) := by decide +kernel
theorem dL_law_219 : decode cL_law 219 = .ok (.if_icmp .eq 426, 3) := by decide +kernel
theorem dL_law_222 : decode cL_law 222 = .ok (.iconst 0, 1) := by decide +kernel
theorem dL_law_223 : decode cL_law 223 = .ok (.ireturn, 1) := by decide +kernel
theorem dL_law_224 : decode cL_law 224 = .ok (.aload_n 1, 1) := by decide +kernel
theorem dL_law_225 : decode cL_law 225 = .ok (.aload_n 0, 1) := by decide +kernel
theorem dL_law_226 : decode cL_law 226 = .ok (.iload_n 3, 1) := by decide +kernel
theorem dL_law_227 : decode cL_law 227 = .ok (.iconst 1, 1) := by decide +kernel
theorem dL_law_228 : decode cL_law 228 = .ok (.iadd, 1) := by decide +kernel
theorem dL_law_229 : decode cL_law 229 = .ok (.iaload, 1) := by decide +kernel
theorem dL_law_230 : decode cL_law 230 = .ok (.invokevirtual 32, 3) := by decide +kernel
theorem dL_law_233 : decode cL_law 233 = .ok (.aload_n 2, 1) := by decide +kernel
theorem dL_law_234 : decode cL_law 234 = .ok (.aload_n 0, 1) := by decide +kernel
theorem dL_law_235 : decode cL_law 235 = .ok (.iload_n 3, 1) := by decide +kernel
theorem dL_law_236 : decode cL_law 236 = .ok (.iconst 1, 1) := by decide +kernel
theorem dL_law_237 : decode cL_law 237 = .ok (.iadd, 1) := by decide +kernel
theorem dL_law_238 : decode cL_law 238 = .ok (.iaload, 1) := by decide +kernel
theorem dL_law_239 : decode cL_law 239 = .ok (.invokevirtual 35, 3) := by decide +kernel
theorem dL_law_242 : decode cL_law 242 = .ok (.if_icmp .eq 403, 3) := by decide +kernel
theorem dL_law_245 : decode cL_law 245 = .ok (.iconst 0, 1) := by decide +kernel
theorem dL_law_246 : decode cL_law 246 = .ok (.ireturn, 1) := by decide +kernel
theorem dL_law_247 : decode cL_law 247 = .ok (.aload_n 1, 1) := by decide +kernel
theorem dL_law_248 : decode cL_law 248 = .ok (.aload_n 0, 1) := by decide +kernel
theorem dL_law_249 : decode cL_law 249 = .ok (.iload_n 3, 1) := by decide +kernel
theorem dL_law_250 : decode cL_law 250 = .ok (.iconst 1, 1) := by decide +kernel
theorem dL_law_251 : decode cL_law 251 = .ok (.iadd, 1) := by decide +kernel
theorem dL_law_252 : decode cL_law 252 = .ok (.iaload, 1) := by decide +kernel
theorem dL_law_253 : decode cL_law 253 = .ok (.aload_n 0, 1) := by decide +kernel
theorem dL_law_254 : decode cL_law 254 = .ok (.iload_n 3, 1) := by decide +kernel
theorem dL_law_255 : decode cL_law 255 = .ok (.iconst 2, 1) := by decide +kernel
theorem dL_law_256 : decode cL_law 256 = .ok (.iadd, 1) := by decide +kernel
theorem dL_law_257 : decode cL_law 257 = .ok (.iaload, 1) := by decide +kernel
theorem dL_law_258 : decode cL_law 258 = .ok (.invokevirtual 36, 3) := by decide +kernel
theorem dL_law_261 : decode cL_law 261 = .ok (.aload_n 2, 1) := by decide +kernel
theorem dL_law_262 : decode cL_law 262 = .ok (.aload_n 0, 1) := by decide +kernel
theorem dL_law_263 : decode cL_law 263 = .ok (.iload_n 3, 1) := by decide +kernel
theorem dL_law_264 : decode cL_law 264 = .ok (.iconst 1, 1) := by decide +kernel
theorem dL_law_265 : decode cL_law 265 = .ok (.iadd, 1) := by decide +kernel
theorem dL_law_266 : decode cL_law 266 = .ok (.iaload, 1) := by decide +kernel
theorem dL_law_267 : decode cL_law 267 = .ok (.aload_n 0, 1) := by decide +kernel
theorem dL_law_268 : decode cL_law 268 = .ok (.iload_n 3, 1) := by decide +kernel
theorem dL_law_269 : decode cL_law 269 = .ok (.iconst 2, 1) := by decide +kernel
theorem dL_law_270 : decode cL_law 270 = .ok (.iadd, 1) := by decide +kernel
theorem dL_law_271 : decode cL_law 271 = .ok (.iaload, 1) := by decide +kernel
theorem dL_law_272 : decode cL_law 272 = .ok (.invokevirtual 40, 3) := by decide +kernel
theorem dL_law_275 : decode cL_law 275 = .ok (.if_icmp .eq 370, 3) := by decide +kernel
theorem dL_law_278 : decode cL_law 278 = .ok (.iconst 0, 1) := by decide +kernel
theorem dL_law_279 : decode cL_law 279 = .ok (.ireturn, 1) := by decide +kernel
theorem dL_law_280 : decode cL_law 280 = .ok (.aload_n 1, 1) := by decide +kernel
theorem dL_law_281 : decode cL_law 281 = .ok (.aload_n 0, 1) := by decide +kernel
theorem dL_law_282 : decode cL_law 282 = .ok (.iload_n 3, 1) := by decide +kernel
theorem dL_law_283 : decode cL_law 283 = .ok (.iconst 1, 1) := by decide +kernel
theorem dL_law_284 : decode cL_law 284 = .ok (.iadd, 1) := by decide +kernel
theorem dL_law_285 : decode cL_law 285 = .ok (.iaload, 1) := by decide +kernel
theorem dL_law_286 : decode cL_law 286 = .ok (.aload_n 0, 1) := by decide +kernel
theorem dL_law_287 : decode cL_law 287 = .ok (.iload_n 3, 1) := by decide +kernel
theorem dL_law_288 : decode cL_law 288 = .ok (.iconst 2, 1) := by decide +kernel
theorem dL_law_289 : decode cL_law 289 = .ok (.iadd, 1) := by decide +kernel
theorem dL_law_290 : decode cL_law 290 = .ok (.iaload, 1) := by decide +kernel
theorem dL_law_291 : decode cL_law 291 = .ok (.invokevirtual 41, 3) := by decide +kernel
theorem dL_law_294 : decode cL_law 294 = .ok (.aload_n 2, 1) := by decide +kernel
theorem dL_law_295 : decode cL_law 295 = .ok (.aload_n 0, 1) := by decide +kernel
theorem dL_law_296 : decode cL_law 296 = .ok (.iload_n 3, 1) := by decide +kernel
theorem dL_law_297 : decode cL_law 297 = .ok (.iconst 1, 1) := by decide +kernel
theorem dL_law_298 : decode cL_law 298 = .ok (.iadd, 1) := by decide +kernel
theorem dL_law_299 : decode cL_law 299 = .ok (.iaload, 1) := by decide +kernel
theorem dL_law_300 : decode cL_law 300 = .ok (.aload_n 0, 1) := by decide +kernel
theorem dL_law_301 : decode cL_law 301 = .ok (.iload_n 3, 1) := by decide +kernel
theorem dL_law_302 : decode cL_law 302 = .ok (.iconst 2, 1) := by decide +kernel
theorem dL_law_303 : decode cL_law 303 = .ok (.iadd, 1) := by decide +kernel
theorem dL_law_304 : decode cL_law 304 = .ok (.iaload, 1) := by decide +kernel
theorem dL_law_305 : decode cL_law 305 = .ok (.invokevirtual 44, 3) := by decide +kernel
theorem dL_law_308 : decode cL_law 308 = .ok (.if_icmp .eq 337, 3) := by decide +kernel
theorem dL_law_311 : decode cL_law 311 = .ok (.iconst 0, 1) := by decide +kernel
theorem dL_law_312 : decode cL_law 312 = .ok (.ireturn, 1) := by decide +kernel
theorem dL_law_313 : decode cL_law 313 = .ok (.aload_n 1, 1) := by decide +kernel
theorem dL_law_314 : decode cL_law 314 = .ok (.aload_n 0, 1) := by decide +kernel
theorem dL_law_315 : decode cL_law 315 = .ok (.iload_n 3, 1) := by decide +kernel
theorem dL_law_316 : decode cL_law 316 = .ok (.iconst 1, 1) := by decide +kernel
theorem dL_law_317 : decode cL_law 317 = .ok (.iadd, 1) := by decide +kernel
theorem dL_law_318 : decode cL_law 318 = .ok (.iaload, 1) := by decide +kernel
theorem dL_law_319 : decode cL_law 319 = .ok (.invokevirtual 45, 3) := by decide +kernel
theorem dL_law_322 : decode cL_law 322 = .ok (.aload_n 2, 1) := by decide +kernel
theorem dL_law_323 : decode cL_law 323 = .ok (.aload_n 0, 1) := by decide +kernel
theorem dL_law_324 : decode cL_law 324 = .ok (.iload_n 3, 1) := by decide +kernel
theorem dL_law_325 : decode cL_law 325 = .ok (.iconst 1, 1) := by decide +kernel
theorem dL_law_326 : decode cL_law 326 = .ok (.iadd, 1) := by decide +kernel
theorem dL_law_327 : decode cL_law 327 = .ok (.iaload, 1) := by decide +kernel
theorem dL_law_328 : decode cL_law 328 = .ok (.invokevirtual 48, 3) := by decide +kernel
theorem dL_law_331 : decode cL_law 331 = .ok (.if_icmp .eq 314, 3) := by decide +kernel
theorem dL_law_334 : decode cL_law 334 = .ok (.iconst 0, 1) := by decide +kernel
theorem dL_law_335 : decode cL_law 335 = .ok (.ireturn, 1) := by decide +kernel
theorem dL_law_336 : decode cL_law 336 = .ok (.aload_n 1, 1) := by decide +kernel
theorem dL_law_337 : decode cL_law 337 = .ok (.aload_n 0, 1) := by decide +kernel
theorem dL_law_338 : decode cL_law 338 = .ok (.iload_n 3, 1) := by decide +kernel
theorem dL_law_339 : decode cL_law 339 = .ok (.iconst 1, 1) := by decide +kernel
theorem dL_law_340 : decode cL_law 340 = .ok (.iadd, 1) := by decide +kernel
theorem dL_law_341 : decode cL_law 341 = .ok (.iaload, 1) := by decide +kernel
theorem dL_law_342 : decode cL_law 342 = .ok (.invokevirtual 49, 3) := by decide +kernel
theorem dL_law_345 : decode cL_law 345 = .ok (.aload_n 2, 1) := by decide +kernel
theorem dL_law_346 : decode cL_law 346 = .ok (.aload_n 0, 1) := by decide +kernel
theorem dL_law_347 : decode cL_law 347 = .ok (.iload_n 3, 1) := by decide +kernel
theorem dL_law_348 : decode cL_law 348 = .ok (.iconst 1, 1) := by decide +kernel
theorem dL_law_349 : decode cL_law 349 = .ok (.iadd, 1) := by decide +kernel
theorem dL_law_350 : decode cL_law 350 = .ok (.iaload, 1) := by decide +kernel
theorem dL_law_351 : decode cL_law 351 = .ok (.invokevirtual 52, 3) := by decide +kernel
theorem dL_law_354 : decode cL_law 354 = .ok (.if_icmp .eq 291, 3) := by decide +kernel
theorem dL_law_357 : decode cL_law 357 = .ok (.iconst 0, 1) := by decide +kernel
theorem dL_law_358 : decode cL_law 358 = .ok (.ireturn, 1) := by decide +kernel
theorem dL_law_359 : decode cL_law 359 = .ok (.aload_n 1, 1) := by decide +kernel
theorem dL_law_360 : decode cL_law 360 = .ok (.aload_n 0, 1) := by decide +kernel
theorem dL_law_361 : decode cL_law 361 = .ok (.iload_n 3, 1) := by decide +kernel
theorem dL_law_362 : decode cL_law 362 = .ok (.iconst 1, 1) := by decide +kernel
theorem dL_law_363 : decode cL_law 363 = .ok (.iadd, 1) := by decide +kernel
theorem dL_law_364 : decode cL_law 364 = .ok (.iaload, 1) := by decide +kernel
theorem dL_law_365 : decode cL_law 365 = .ok (.aload_n 0, 1) := by decide +kernel
theorem dL_law_366 : decode cL_law 366 = .ok (.iload_n 3, 1) := by decide +kernel
theorem dL_law_367 : decode cL_law 367 = .ok (.iconst 2, 1) := by decide +kernel
theorem dL_law_368 : decode cL_law 368 = .ok (.iadd, 1) := by decide +kernel
theorem dL_law_369 : decode cL_law 369 = .ok (.iaload, 1) := by decide +kernel
theorem dL_law_370 : decode cL_law 370 = .ok (.invokevirtual 53, 3) := by decide +kernel
theorem dL_law_373 : decode cL_law 373 = .ok (.aload_n 2, 1) := by decide +kernel
theorem dL_law_374 : decode cL_law 374 = .ok (.aload_n 0, 1) := by decide +kernel
theorem dL_law_375 : decode cL_law 375 = .ok (.iload_n 3, 1) := by decide +kernel
theorem dL_law_376 : decode cL_law 376 = .ok (.iconst 1, 1) := by decide +kernel
theorem dL_law_377 : decode cL_law 377 = .ok (.iadd, 1) := by decide +kernel
theorem dL_law_378 : decode cL_law 378 = .ok (.iaload, 1) := by decide +kernel
theorem dL_law_379 : decode cL_law 379 = .ok (.aload_n 0, 1) := by decide +kernel
theorem dL_law_380 : decode cL_law 380 = .ok (.iload_n 3, 1) := by decide +kernel
theorem dL_law_381 : decode cL_law 381 = .ok (.iconst 2, 1) := by decide +kernel
theorem dL_law_382 : decode cL_law 382 = .ok (.iadd, 1) := by decide +kernel
theorem dL_law_383 : decode cL_law 383 = .ok (.iaload, 1) := by decide +kernel
theorem dL_law_384 : decode cL_law 384 = .ok (.invokevirtual 56, 3) := by decide +kernel
theorem dL_law_387 : decode cL_law 387 = .ok (.if_icmp .eq 258, 3) := by decide +kernel
theorem dL_law_390 : decode cL_law 390 = .ok (.iconst 0, 1) := by decide +kernel
theorem dL_law_391 : decode cL_law 391 = .ok (.ireturn, 1) := by decide +kernel
theorem dL_law_392 : decode cL_law 392 = .ok (.aload_n 1, 1) := by decide +kernel
theorem dL_law_393 : decode cL_law 393 = .ok (.invokevirtual 57, 3) := by decide +kernel
theorem dL_law_396 : decode cL_law 396 = .ok (.aload_n 2, 1) := by decide +kernel
theorem dL_law_397 : decode cL_law 397 = .ok (.invokevirtual 60, 3) := by decide +kernel
theorem dL_law_400 : decode cL_law 400 = .ok (.if_icmp .eq 245, 3) := by decide +kernel
theorem dL_law_403 : decode cL_law 403 = .ok (.iconst 0, 1) := by decide +kernel
theorem dL_law_404 : decode cL_law 404 = .ok (.ireturn, 1) := by decide +kernel
theorem dL_law_405 : decode cL_law 405 = .ok (.aload_n 1, 1) := by decide +kernel
theorem dL_law_406 : decode cL_law 406 = .ok (.invokevirtual 61, 3) := by decide +kernel
theorem dL_law_409 : decode cL_law 409 = .ok (.aload_n 2, 1) := by decide +kernel
theorem dL_law_410 : decode cL_law 410 = .ok (.invokevirtual 64, 3) := by decide +kernel
theorem dL_law_413 : decode cL_law 413 = .ok (.if_icmp .eq 232, 3) := by decide +kernel
theorem dL_law_416 : decode cL_law 416 = .ok (.iconst 0, 1) := by decide +kernel
theorem dL_law_417 : decode cL_law 417 = .ok (.ireturn, 1) := by decide +kernel
theorem dL_law_418 : decode cL_law 418 = .ok (.aload_n 1, 1) := by decide +kernel
theorem dL_law_419 : decode cL_law 419 = .ok (.aload_n 0, 1) := by decide +kernel
theorem dL_law_420 : decode cL_law 420 = .ok (.iload_n 3, 1) := by decide +kernel
theorem dL_law_421 : decode cL_law 421 = .ok (.iconst 1, 1) := by decide +kernel
theorem dL_law_422 : decode cL_law 422 = .ok (.iadd, 1) := by decide +kernel
theorem dL_law_423 : decode cL_law 423 = .ok (.iaload, 1) := by decide +kernel
theorem dL_law_424 : decode cL_law 424 = .ok (.invokevirtual 65, 3) := by decide +kernel
theorem dL_law_427 : decode cL_law 427 = .ok (.aload_n 2, 1) := by decide +kernel
theorem dL_law_428 : decode cL_law 428 = .ok (.aload_n 0, 1) := by decide +kernel
theorem dL_law_429 : decode cL_law 429 = .ok (.iload_n 3, 1) := by decide +kernel
theorem dL_law_430 : decode cL_law 430 = .ok (.iconst 1, 1) := by decide +kernel
theorem dL_law_431 : decode cL_law 431 = .ok (.iadd, 1) := by decide +kernel
theorem dL_law_432 : decode cL_law 432 = .ok (.iaload, 1) := by decide +kernel
theorem dL_law_433 : decode cL_law 433 = .ok (.invokevirtual 68, 3) := by decide +kernel
theorem dL_law_436 : decode cL_law 436 = .ok (.if_icmp .eq 209, 3) := by decide +kernel
theorem dL_law_439 : decode cL_law 439 = .ok (.iconst 0, 1) := by decide +kernel
theorem dL_law_440 : decode cL_law 440 = .ok (.ireturn, 1) := by decide +kernel
theorem dL_law_441 : decode cL_law 441 = .ok (.aload_n 1, 1) := by decide +kernel
theorem dL_law_442 : decode cL_law 442 = .ok (.aload_n 0, 1) := by decide +kernel
theorem dL_law_443 : decode cL_law 443 = .ok (.iload_n 3, 1) := by decide +kernel
theorem dL_law_444 : decode cL_law 444 = .ok (.iconst 1, 1) := by decide +kernel
theorem dL_law_445 : decode cL_law 445 = .ok (.iadd, 1) := by decide +kernel
theorem dL_law_446 : decode cL_law 446 = .ok (.iaload, 1) := by decide +kernel
theorem dL_law_447 : decode cL_law 447 = .ok (.invokevirtual 69, 3) := by decide +kernel
theorem dL_law_450 : decode cL_law 450 = .ok (.aload_n 2, 1) := by decide +kernel
theorem dL_law_451 : decode cL_law 451 = .ok (.aload_n 0, 1) := by decide +kernel
theorem dL_law_452 : decode cL_law 452 = .ok (.iload_n 3, 1) := by decide +kernel
theorem dL_law_453 : decode cL_law 453 = .ok (.iconst 1, 1) := by decide +kernel
theorem dL_law_454 : decode cL_law 454 = .ok (.iadd, 1) := by decide +kernel
theorem dL_law_455 : decode cL_law 455 = .ok (.iaload, 1) := by decide +kernel
theorem dL_law_456 : decode cL_law 456 = .ok (.invokevirtual 72, 3) := by decide +kernel
theorem dL_law_459 : decode cL_law 459 = .ok (.if_icmp .eq 186, 3) := by decide +kernel
theorem dL_law_462 : decode cL_law 462 = .ok (.iconst 0, 1) := by decide +kernel
theorem dL_law_463 : decode cL_law 463 = .ok (.ireturn, 1) := by decide +kernel
theorem dL_law_464 : decode cL_law 464 = .ok (.aload_n 1, 1) := by decide +kernel
theorem dL_law_465 : decode cL_law 465 = .ok (.aload_n 0, 1) := by decide +kernel
theorem dL_law_466 : decode cL_law 466 = .ok (.iload_n 3, 1) := by decide +kernel
theorem dL_law_467 : decode cL_law 467 = .ok (.iconst 1, 1) := by decide +kernel
theorem dL_law_468 : decode cL_law 468 = .ok (.iadd, 1) := by decide +kernel
theorem dL_law_469 : decode cL_law 469 = .ok (.iaload, 1) := by decide +kernel
theorem dL_law_470 : decode cL_law 470 = .ok (.invokevirtual 73, 3) := by decide +kernel
theorem dL_law_473 : decode cL_law 473 = .ok (.aload_n 2, 1) := by decide +kernel
theorem dL_law_474 : decode cL_law 474 = .ok (.aload_n 0, 1) := by decide +kernel
theorem dL_law_475 : decode cL_law 475 = .ok (.iload_n 3, 1) := by decide +kernel
theorem dL_law_476 : decode cL_law 476 = .ok (.iconst 1, 1) := by decide +kernel
theorem dL_law_477 : decode cL_law 477 = .ok (.iadd, 1) := by decide +kernel
theorem dL_law_478 : decode cL_law 478 = .ok (.iaload, 1) := by decide +kernel
theorem dL_law_479 : decode cL_law 479 = .ok (.invokevirtual 76, 3) := by decide +kernel
theorem dL_law_482 : decode cL_law 482 = .ok (.if_icmp .eq 163, 3) := by decide +kernel
theorem dL_law_485 : decode cL_law 485 = .ok (.iconst 0, 1) := by decide +kernel
theorem dL_law_486 : decode cL_law 486 = .ok (.ireturn, 1) := by decide +kernel
theorem dL_law_487 : decode cL_law 487 = .ok (.aload_n 1, 1) := by decide +kernel
theorem dL_law_488 : decode cL_law 488 = .ok (.aload_n 0, 1) := by decide +kernel
theorem dL_law_489 : decode cL_law 489 = .ok (.iload_n 3, 1) := by decide +kernel
theorem dL_law_490 : decode cL_law 490 = .ok (.iconst 1, 1) := by decide +kernel
theorem dL_law_491 : decode cL_law 491 = .ok (.iadd, 1) := by decide +kernel
theorem dL_law_492 : decode cL_law 492 = .ok (.iaload, 1) := by decide +kernel
theorem dL_law_493 : decode cL_law 493 = .ok (.aload_n 0, 1) := by decide +kernel
theorem dL_law_494 : decode cL_law 494 = .ok (.iload_n 3, 1) := by decide +kernel
theorem dL_law_495 : decode cL_law 495 = .ok (.iconst 2, 1) := by decide +kernel
theorem dL_law_496 : decode cL_law 496 = .ok (.iadd, 1) := by decide +kernel
theorem dL_law_497 : decode cL_law 497 = .ok (.iaload, 1) := by decide +kernel
theorem dL_law_498 : decode cL_law 498 = .ok (.invokevirtual 77, 3) := by decide +kernel
theorem dL_law_501 : decode cL_law 501 = .ok (.aload_n 2, 1) := by decide +kernel
theorem dL_law_502 : decode cL_law 502 = .ok (.aload_n 0, 1) := by decide +kernel
theorem dL_law_503 : decode cL_law 503 = .ok (.iload_n 3, 1) := by decide +kernel
theorem dL_law_504 : decode cL_law 504 = .ok (.iconst 1, 1) := by decide +kernel
theorem dL_law_505 : decode cL_law 505 = .ok (.iadd, 1) := by decide +kernel
theorem dL_law_506 : decode cL_law 506 = .ok (.iaload, 1) := by decide +kernel
theorem dL_law_507 : decode cL_law 507 = .ok (.aload_n 0, 1) := by decide +kernel
theorem dL_law_508 : decode cL_law 508 = .ok (.iload_n 3, 1) := by decide +kernel
theorem dL_law_509 : decode cL_law 509 = .ok (.iconst 2, 1) := by decide +kernel
theorem dL_law_510 : decode cL_law 510 = .ok (.iadd, 1) := by decide +kernel
theorem dL_law_511 : decode cL_law 511 = .ok (.iaload, 1) := by decide +kernel
theorem dL_law_512 : decode cL_law 512 = .ok (.invokevirtual 80, 3) := by decide +kernel
theorem dL_law_515 : decode cL_law 515 = .ok (.if_icmp .eq 130, 3) := by decide +kernel
theorem dL_law_518 : decode cL_law 518 = .ok (.iconst 0, 1) := by decide +kernel
theorem dL_law_519 : decode cL_law 519 = .ok (.ireturn, 1) := by decide +kernel
theorem dL_law_520 : decode cL_law 520 = .ok (.aload_n 1, 1) := by decide +kernel
theorem dL_law_521 : decode cL_law 521 = .ok (.invokevirtual 81, 3) := by decide +kernel
theorem dL_law_524 : decode cL_law 524 = .ok (.aload_n 2, 1) := by decide +kernel
theorem dL_law_525 : decode cL_law 525 = .ok (.invokevirtual 84, 3) := by decide +kernel
theorem dL_law_528 : decode cL_law 528 = .ok (.if_icmp .eq 117, 3) := by decide +kernel
theorem dL_law_531 : decode cL_law 531 = .ok (.iconst 0, 1) := by decide +kernel
theorem dL_law_532 : decode cL_law 532 = .ok (.ireturn, 1) := by decide +kernel
theorem dL_law_533 : decode cL_law 533 = .ok (.aload_n 1, 1) := by decide +kernel
theorem dL_law_534 : decode cL_law 534 = .ok (.aload_n 0, 1) := by decide +kernel
theorem dL_law_535 : decode cL_law 535 = .ok (.iload_n 3, 1) := by decide +kernel
theorem dL_law_536 : decode cL_law 536 = .ok (.iconst 1, 1) := by decide +kernel
theorem dL_law_537 : decode cL_law 537 = .ok (.iadd, 1) := by decide +kernel
theorem dL_law_538 : decode cL_law 538 = .ok (.iaload, 1) := by decide +kernel
theorem dL_law_539 : decode cL_law 539 = .ok (.invokevirtual 85, 3) := by decide +kernel
theorem dL_law_542 : decode cL_law 542 = .ok (.aload_n 2, 1) := by decide +kernel
theorem dL_law_543 : decode cL_law 543 = .ok (.aload_n 0, 1) := by decide +kernel
theorem dL_law_544 : decode cL_law 544 = .ok (.iload_n 3, 1) := by decide +kernel
theorem dL_law_545 : decode cL_law 545 = .ok (.iconst 1, 1) := by decide +kernel
theorem dL_law_546 : decode cL_law 546 = .ok (.iadd, 1) := by decide +kernel
theorem dL_law_547 : decode cL_law 547 = .ok (.iaload, 1) := by decide +kernel
theorem dL_law_548 : decode cL_law 548 = .ok (.invokevirtual 88, 3) := by decide +kernel
theorem dL_law_551 : decode cL_law 551 = .ok (.if_icmp .eq 94, 3) := by decide +kernel
theorem dL_law_554 : decode cL_law 554 = .ok (.iconst 0, 1) := by decide +kernel
theorem dL_law_555 : decode cL_law 555 = .ok (.ireturn, 1) := by decide +kernel
theorem dL_law_556 : decode cL_law 556 = .ok (.aload_n 1, 1) := by decide +kernel
theorem dL_law_557 : decode cL_law 557 = .ok (.aload_n 0, 1) := by decide +kernel
theorem dL_law_558 : decode cL_law 558 = .ok (.iload_n 3, 1) := by decide +kernel
theorem dL_law_559 : decode cL_law 559 = .ok (.iconst 1, 1) := by decide +kernel
theorem dL_law_560 : decode cL_law 560 = .ok (.iadd, 1) := by decide +kernel
theorem dL_law_561 : decode cL_law 561 = .ok (.iaload, 1) := by decide +kernel
theorem dL_law_562 : decode cL_law 562 = .ok (.aload_n 0, 1) := by decide +kernel
theorem dL_law_563 : decode cL_law 563 = .ok (.iload_n 3, 1) := by decide +kernel
theorem dL_law_564 : decode cL_law 564 = .ok (.iconst 2, 1) := by decide +kernel
theorem dL_law_565 : decode cL_law 565 = .ok (.iadd, 1) := by decide +kernel
theorem dL_law_566 : decode cL_law 566 = .ok (.iaload, 1) := by decide +kernel
theorem dL_law_567 : decode cL_law 567 = .ok (.invokevirtual 89, 3) := by decide +kernel
theorem dL_law_570 : decode cL_law 570 = .ok (.aload_n 2, 1) := by decide +kernel
theorem dL_law_571 : decode cL_law 571 = .ok (.aload_n 0, 1) := by decide +kernel
theorem dL_law_572 : decode cL_law 572 = .ok (.iload_n 3, 1) := by decide +kernel
theorem dL_law_573 : decode cL_law 573 = .ok (.iconst 1, 1) := by decide +kernel
theorem dL_law_574 : decode cL_law 574 = .ok (.iadd, 1) := by decide +kernel
theorem dL_law_575 : decode cL_law 575 = .ok (.iaload, 1) := by decide +kernel
theorem dL_law_576 : decode cL_law 576 = .ok (.aload_n 0, 1) := by decide +kernel
theorem dL_law_577 : decode cL_law 577 = .ok (.iload_n 3, 1) := by decide +kernel
theorem dL_law_578 : decode cL_law 578 = .ok (.iconst 2, 1) := by decide +kernel
theorem dL_law_579 : decode cL_law 579 = .ok (.iadd, 1) := by decide +kernel
theorem dL_law_580 : decode cL_law 580 = .ok (.iaload, 1) := by decide +kernel
theorem dL_law_581 : decode cL_law 581 = .ok (.invokevirtual 92, 3) := by decide +kernel
theorem dL_law_584 : decode cL_law 584 = .ok (.if_icmp .eq 61, 3) := by decide +kernel
theorem dL_law_587 : decode cL_law 587 = .ok (.iconst 0, 1) := by decide +kernel
theorem dL_law_588 : decode cL_law 588 = .ok (.ireturn, 1) := by decide +kernel
theorem dL_law_589 : decode cL_law 589 = .ok (.aload_n 1, 1) := by decide +kernel
theorem dL_law_590 : decode cL_law 590 = .ok (.aload_n 0, 1) := by decide +kernel
theorem dL_law_591 : decode cL_law 591 = .ok (.iload_n 3, 1) := by decide +kernel
theorem dL_law_592 : decode cL_law 592 = .ok (.iconst 1, 1) := by decide +kernel
theorem dL_law_593 : decode cL_law 593 = .ok (.iadd, 1) := by decide +kernel
theorem dL_law_594 : decode cL_law 594 = .ok (.iaload, 1) := by decide +kernel
theorem dL_law_595 : decode cL_law 595 = .ok (.aload_n 0, 1) := by decide +kernel
theorem dL_law_596 : decode cL_law 596 = .ok (.iload_n 3, 1) := by decide +kernel
theorem dL_law_597 : decode cL_law 597 = .ok (.iconst 2, 1) := by decide +kernel
theorem dL_law_598 : decode cL_law 598 = .ok (.iadd, 1) := by decide +kernel
theorem dL_law_599 : decode cL_law 599 = .ok (.iaload, 1) := by decide +kernel
theorem dL_law_600 : decode cL_law 600 = .ok (.invokevirtual 93, 3) := by decide +kernel
theorem dL_law_603 : decode cL_law 603 = .ok (.aload_n 2, 1) := by decide +kernel
theorem dL_law_604 : decode cL_law 604 = .ok (.aload_n 0, 1) := by decide +kernel
theorem dL_law_605 : decode cL_law 605 = .ok (.iload_n 3, 1) := by decide +kernel
theorem dL_law_606 : decode cL_law 606 = .ok (.iconst 1, 1) := by decide +kernel
theorem dL_law_607 : decode cL_law 607 = .ok (.iadd, 1) := by decide +kernel
theorem dL_law_608 : decode cL_law 608 = .ok (.iaload, 1) := by decide +kernel
theorem dL_law_609 : decode cL_law 609 = .ok (.aload_n 0, 1) := by decide +kernel
theorem dL_law_610 : decode cL_law 610 = .ok (.iload_n 3, 1) := by decide +kernel
theorem dL_law_611 : decode cL_law 611 = .ok (.iconst 2, 1) := by decide +kernel
theorem dL_law_612 : decode cL_law 612 = .ok (.iadd, 1) := by decide +kernel
theorem dL_law_613 : decode cL_law 613 = .ok (.iaload, 1) := by decide +kernel
theorem dL_law_614 : decode cL_law 614 = .ok (.invokevirtual 96, 3) := by decide +kernel
theorem dL_law_617 : decode cL_law 617 = .ok (.if_icmp .eq 28, 3) := by decide +kernel
theorem dL_law_620 : decode cL_law 620 = .ok (.iconst 0, 1) := by decide +kernel
theorem dL_law_621 : decode cL_law 621 = .ok (.ireturn, 1) := by decide +kernel
theorem dL_law_622 : decode cL_law 622 = .ok (.aload_n 1, 1) := by decide +kernel
theorem dL_law_623 : decode cL_law 623 = .ok (.aload_n 0, 1) := by decide +kernel
theorem dL_law_624 : decode cL_law 624 = .ok (.iload_n 3, 1) := by decide +kernel
theorem dL_law_625 : decode cL_law 625 = .ok (.iconst 1, 1) := by decide +kernel
theorem dL_law_626 : decode cL_law 626 = .ok (.iadd, 1) := by decide +kernel
theorem dL_law_627 : decode cL_law 627 = .ok (.iaload, 1) := by decide +kernel
theorem dL_law_628 : decode cL_law 628 = .ok (.invokevirtual 97, 3) := by decide +kernel
theorem dL_law_631 : decode cL_law 631 = .ok (.aload_n 2, 1) := by decide +kernel
theorem dL_law_632 : decode cL_law 632 = .ok (.aload_n 0, 1) := by decide +kernel
theorem dL_law_633 : decode cL_law 633 = .ok (.iload_n 3, 1) := by decide +kernel
theorem dL_law_634 : decode cL_law 634 = .ok (.iconst 1, 1) := by decide +kernel
theorem dL_law_635 : decode cL_law 635 = .ok (.iadd, 1) := by decide +kernel
theorem dL_law_636 : decode cL_law 636 = .ok (.iaload, 1) := by decide +kernel
theorem dL_law_637 : decode cL_law 637 = .ok (.invokevirtual 100, 3) := by decide +kernel
theorem dL_law_640 : decode cL_law 640 = .ok (.if_icmp .eq 5, 3) := by decide +kernel
theorem dL_law_643 : decode cL_law 643 = .ok (.iconst 0, 1) := by decide +kernel
theorem dL_law_644 : decode cL_law 644 = .ok (.ireturn, 1) := by decide +kernel
theorem dL_law_645 : decode cL_law 645 = .ok (.iinc 3 4, 3) := by decide +kernel
theorem dL_law_648 : decode cL_law 648 = .ok (.goto (-630), 3) := by decide +kernel
theorem dL_law_651 : decode cL_law 651 = .ok (.iconst 1, 1) := by decide +kernel
theorem dL_law_652 : decode cL_law 652 = .ok (.ireturn, 1) := by decide +kernel
end
section
/-! the class's own loops as functions of numbers -/
section SPEC
def kR1 (nb : Nat → Nat) (o r : Nat) : Nat → Nat
  | 0 => r
  | v + 1 => if r.testBit v = true then kR1 nb o r v ||| (nb v &&& o) else kR1 nb o r v
def kR (nb : Nat → Nat) (o n : Nat) : Nat → Nat → Nat
  | 0, r => r
  | j + 1, r => if kR1 nb o r n = r then r else kR nb o n j (kR1 nb o r n)
theorem kR1_lt {nb : Nat → Nat} {o r : Nat} (hr : r < 4096) (ho : o < 4096) : ∀ v, kR1 nb o r v < 4096
  | 0 => hr
  | v + 1 => by
    have ih := kR1_lt (nb := nb) hr ho v
    have h1 : nb v &&& o < 2 ^ 12 := Nat.lt_of_le_of_lt Nat.and_le_right ho
    simp only [kR1]
    split
    · exact Nat.or_lt_two_pow (n := 12) ih h1
    · exact ih
theorem kR_lt {nb : Nat → Nat} {o n : Nat} (ho : o < 4096) : ∀ (j r : Nat), r < 4096 → kR nb o n j r < 4096
  | 0, r, hr => hr
  | j + 1, r, hr => by
    simp only [kR]
    split
    · exact hr
    · exact kR_lt ho j _ (kR1_lt hr ho n)
def kCC (nb : Nat → Nat) (o n : Nat) : Nat → Nat × Nat
  | 0 => (o, 0)
  | v + 1 => if (kCC nb o n v).1.testBit v = true then (pl_di (kCC nb o n v).1 (kR nb o n n (2 ^ v)), (kCC nb o n v).2 + 1) else kCC nb o n v
theorem kCC_lt {nb : Nat → Nat} {o n : Nat} (ho : o < 4096) : ∀ v, (kCC nb o n v).1 < 4096
  | 0 => ho
  | v + 1 => by
    have ih := kCC_lt (nb := nb) (n := n) ho v
    simp only [kCC]
    split
    · exact Nat.lt_of_le_of_lt (pl_di_le _ _) ih
    · exact ih
/-- NODES of a SET -/
abbrev kP (s : Nat) : Nat := pn_pop 12 s
/-- all NODES but two -/
abbrev kO (n a b : Nat) : Nat := pl_di (pl_di (2 ^ n - 1) (2 ^ a)) (2 ^ b)
theorem kO_pop : ∀ n, n < 13 → ∀ a, a < n → ∀ b, b < n → a ≠ b → pn_pop 12 (kO n a b) = n - 2 := by decide +kernel
theorem kO_lt {n a b : Nat} (hn : n ≤ 12) : kO n a b < 4096 := by
  have h1 := pl_di_le (pl_di (2 ^ n - 1) (2 ^ a)) (2 ^ b)
  have h2 := pl_di_le (2 ^ n - 1) (2 ^ a)
  have h3 := pl_pow12 hn
  have h4 := Nat.two_pow_pos n
  unfold kO
  omega
def kFB (nb : Nat → Nat) (n a b : Nat) : Nat → Nat
  | 0 => kO n a b
  | i + 1 => if kP (pn_dep 12 (kO n a b) i) < kP (kFB nb n a b i) ∧ (kR nb (pl_di (2 ^ n - 1) (pn_dep 12 (kO n a b) i)) n n (2 ^ a)).testBit b = false then pn_dep 12 (kO n a b) i else kFB nb n a b i
theorem kFB_lt {nb : Nat → Nat} {n a b : Nat} (hn : n ≤ 12) : ∀ i, kFB nb n a b i < 4096
  | 0 => kO_lt hn
  | i + 1 => by
    have ih := kFB_lt (nb := nb) (a := a) (b := b) hn i
    simp only [kFB]
    split
    · exact Nat.lt_of_le_of_lt (pn_dep_le (w := 12) (kO_lt hn)) (kO_lt hn)
    · exact ih
def uM (M : Nat → Nat → Nat) (a b m1 m2 : Nat) : Nat → Nat → Nat := va_up (va_up M a (va_up (M a) b m1)) b (va_up ((va_up M a (va_up (M a) b m1)) b) a m2)
def uB (nb : Nat → Nat) (a b : Nat) (j : Bool) : Nat → Nat := va_up (va_up nb a (if j = true then nb a ||| 2 ^ b else pl_di (nb a) (2 ^ b))) b (if j = true then (va_up nb a (if j = true then nb a ||| 2 ^ b else pl_di (nb a) (2 ^ b))) b ||| 2 ^ a else pl_di ((va_up nb a (if j = true then nb a ||| 2 ^ b else pl_di (nb a) (2 ^ b))) b) (2 ^ a))
theorem pop_le : ∀ (w s : Nat), pn_pop w s ≤ w
  | 0, _ => Nat.le_refl _
  | w + 1, s => by
    have := pop_le w (s / 2)
    simp only [pn_pop]
    omega
end SPEC
end
section
/-! calls of methods that make nothing, in short form -/
abbrev rD (d : Nat) : Room := { frames := d, cells := 0, slots := 0, locals := 40 * d }
section XC
variable {E : xE} {l : Launch} {R : Room} {D : va_G} {cl : List vw_C} {tys : List (ClassId × FieldType)} {cc : ByteArray} {own : String} {nL : Nat} {Ts : List Cond} {nws : xN} {cells slots : Nat} {ws : va_W} {lv : List (Nat × Value)} {pc : Nat} {st : List Value}
variable {ws' : va_W} {y : MethodName} {wsC wsC' : List Cond} {bytes : ByteArray} {maxL index b n d : Nat} {ret : Option FieldType} {As rest : List Value} {C host : String} {T : u_T} {N ci : Nat} {fs : List Value}
theorem x_cVi (S0 : xOK E l R D cl tys cc own nL Ts nws) {r : Int32} (hM : xMet l y wsC (rD d) D cl tys nws (.ref b :: As) ws ws' (some (.int r))) (hG : GoodIn Ts (wsV own index C y wsC)) (hw : wsC = Cond.code y bytes maxL ret :: wsC') (hdd : y.cls = C ∧ y.cls ≠ "java/lang/invoke/MethodHandle" ∧ y.cls ≠ "java/lang/invoke/VarHandle" ∧ (parseMethodDescriptor y.desc).map (fun d => d.parameters.length) = some n) (q0 : Nat) (he : ws[q0]? = some (b, .inr (ci, fs))) (hc : cl[ci]? = some (C, T, N)) (hn : As.length = n) (hst : st = As.reverse ++ .ref b :: rest) (hWt : (rest.map fun v => v.category).sum ≤ 8) (hd : decode cc pc = .ok (.invokevirtual index, 3)) (hR : d + 1 ≤ R.frames ∧ 8 + (maxL + 11) + 40 * d ≤ R.locals) (hC : cells ≤ R.cells ∧ slots ≤ R.slots) (kk : xW E D cl nL cells slots ws' lv (pc + 3) (.int r :: rest)) : xW E D cl nL cells slots ws lv pc st := x_callVS S0 hM hG hw hdd q0 he hc hn hst hWt hd hR hC (fun _ _ => kk)
theorem x_cSi (S0 : xOK E l R D cl tys cc own nL Ts nws) {r : Int32} (hM : xMet l y wsC (rD d) D cl tys nws As ws ws' (some (.int r))) (hG : GoodIn Ts (wsS own index y wsC)) (hw : wsC = Cond.code y bytes maxL ret :: wsC') (hdd : y.cls = own ∧ y.cls ≠ "java/lang/invoke/MethodHandle" ∧ y.cls ≠ "java/lang/invoke/VarHandle" ∧ (parseMethodDescriptor y.desc).map (fun d => d.parameters.length) = some n) (hn : As.length = n) (hst : st = As.reverse ++ rest) (hWt : (rest.map fun v => v.category).sum ≤ 8) (hd : decode cc pc = .ok (.invokestatic index, 3)) (hR : d + 1 ≤ R.frames ∧ 8 + (maxL + 11) + 40 * d ≤ R.locals) (hC : cells ≤ R.cells ∧ slots ≤ R.slots) (kk : xW E D cl nL cells slots ws' lv (pc + 3) (.int r :: rest)) : xW E D cl nL cells slots ws lv pc st := x_callSS (b := 0) S0 hM hG hw hdd hn hst hWt hd hR hC (fun _ _ => kk)
theorem x_cNi (S0 : xOK E l R D cl tys cc own nL Ts nws) {r : Int32} (hM : xMet l y wsC (rD d) D cl tys nws As ws ws' (some (.int r))) (hG : GoodIn Ts wsC) (hw : wsC = Cond.code y bytes maxL ret :: wsC') (hnw : (own, index, y, host) ∈ nws) (hini : Cond.initialized y.cls ∈ Ts) (hsta : Cond.static y ∈ Ts) (hdd : y.cls ≠ "java/lang/invoke/MethodHandle" ∧ y.cls ≠ "java/lang/invoke/VarHandle" ∧ (parseMethodDescriptor y.desc).map (fun d => d.parameters.length) = some n) (hn : As.length = n) (hst : st = As.reverse ++ rest) (hWt : (rest.map fun v => v.category).sum ≤ 8) (hd : decode cc pc = .ok (.invokestatic index, 3)) (hR : d + 1 ≤ R.frames ∧ 8 + (maxL + 11) + 40 * d ≤ R.locals) (hC : cells ≤ R.cells ∧ slots ≤ R.slots) (kk : xW E D cl nL cells slots ws' lv (pc + 3) (.int r :: rest)) : xW E D cl nL cells slots ws lv pc st := x_callSNS (b := 0) S0 hM hG hw hnw hini hsta hdd hn hst hWt hd hR hC (fun _ _ => kk)
theorem x_cVv (S0 : xOK E l R D cl tys cc own nL Ts nws) (hM : xMet l y wsC (rD d) D cl tys nws (.ref b :: As) ws ws' none) (hG : GoodIn Ts (wsV own index C y wsC)) (hw : wsC = Cond.code y bytes maxL ret :: wsC') (hdd : y.cls = C ∧ y.cls ≠ "java/lang/invoke/MethodHandle" ∧ y.cls ≠ "java/lang/invoke/VarHandle" ∧ (parseMethodDescriptor y.desc).map (fun d => d.parameters.length) = some n) (q0 : Nat) (he : ws[q0]? = some (b, .inr (ci, fs))) (hc : cl[ci]? = some (C, T, N)) (hn : As.length = n) (hst : st = As.reverse ++ .ref b :: rest) (hWt : (rest.map fun v => v.category).sum ≤ 8) (hd : decode cc pc = .ok (.invokevirtual index, 3)) (hR : d + 1 ≤ R.frames ∧ 8 + (maxL + 11) + 40 * d ≤ R.locals) (hC : cells ≤ R.cells ∧ slots ≤ R.slots) (kk : xW E D cl nL cells slots ws' lv (pc + 3) rest) : xW E D cl nL cells slots ws lv pc st := x_callVS S0 hM hG hw hdd q0 he hc hn hst hWt hd hR hC (fun _ _ => kk)
theorem x_cSv (S0 : xOK E l R D cl tys cc own nL Ts nws) (hM : xMet l y wsC (rD d) D cl tys nws As ws ws' none) (hG : GoodIn Ts (wsS own index y wsC)) (hw : wsC = Cond.code y bytes maxL ret :: wsC') (hdd : y.cls = own ∧ y.cls ≠ "java/lang/invoke/MethodHandle" ∧ y.cls ≠ "java/lang/invoke/VarHandle" ∧ (parseMethodDescriptor y.desc).map (fun d => d.parameters.length) = some n) (hn : As.length = n) (hst : st = As.reverse ++ rest) (hWt : (rest.map fun v => v.category).sum ≤ 8) (hd : decode cc pc = .ok (.invokestatic index, 3)) (hR : d + 1 ≤ R.frames ∧ 8 + (maxL + 11) + 40 * d ≤ R.locals) (hC : cells ≤ R.cells ∧ slots ≤ R.slots) (kk : xW E D cl nL cells slots ws' lv (pc + 3) rest) : xW E D cl nL cells slots ws lv pc st := x_callSS (b := 0) S0 hM hG hw hdd hn hst hWt hd hR hC (fun _ _ => kk)
theorem x_cNv (S0 : xOK E l R D cl tys cc own nL Ts nws) (hM : xMet l y wsC (rD d) D cl tys nws As ws ws' none) (hG : GoodIn Ts wsC) (hw : wsC = Cond.code y bytes maxL ret :: wsC') (hnw : (own, index, y, host) ∈ nws) (hini : Cond.initialized y.cls ∈ Ts) (hsta : Cond.static y ∈ Ts) (hdd : y.cls ≠ "java/lang/invoke/MethodHandle" ∧ y.cls ≠ "java/lang/invoke/VarHandle" ∧ (parseMethodDescriptor y.desc).map (fun d => d.parameters.length) = some n) (hn : As.length = n) (hst : st = As.reverse ++ rest) (hWt : (rest.map fun v => v.category).sum ≤ 8) (hd : decode cc pc = .ok (.invokestatic index, 3)) (hR : d + 1 ≤ R.frames ∧ 8 + (maxL + 11) + 40 * d ≤ R.locals) (hC : cells ≤ R.cells ∧ slots ≤ R.slots) (kk : xW E D cl nL cells slots ws' lv (pc + 3) rest) : xW E D cl nL cells slots ws lv pc st := x_callSNS (b := 0) S0 hM hG hw hnw hini hsta hdd hn hst hWt hd hR hC (fun _ _ => kk)
theorem x_cVa (S0 : xOK E l R D cl tys cc own nL Ts nws) {r : Nat} (hM : xMet l y wsC (rD d) D cl tys nws (.ref b :: As) ws ws' (some (.ref r))) (hG : GoodIn Ts (wsV own index C y wsC)) (hw : wsC = Cond.code y bytes maxL ret :: wsC') (hdd : y.cls = C ∧ y.cls ≠ "java/lang/invoke/MethodHandle" ∧ y.cls ≠ "java/lang/invoke/VarHandle" ∧ (parseMethodDescriptor y.desc).map (fun d => d.parameters.length) = some n) (q0 : Nat) (he : ws[q0]? = some (b, .inr (ci, fs))) (hc : cl[ci]? = some (C, T, N)) (hn : As.length = n) (hst : st = As.reverse ++ .ref b :: rest) (hWt : (rest.map fun v => v.category).sum ≤ 8) (hd : decode cc pc = .ok (.invokevirtual index, 3)) (hR : d + 1 ≤ R.frames ∧ 8 + (maxL + 11) + 40 * d ≤ R.locals) (hC : cells ≤ R.cells ∧ slots ≤ R.slots) (kk : xW E D cl nL cells slots ws' lv (pc + 3) (.ref r :: rest)) : xW E D cl nL cells slots ws lv pc st := x_callVS S0 hM hG hw hdd q0 he hc hn hst hWt hd hR hC (fun _ _ => kk)
theorem x_cSa (S0 : xOK E l R D cl tys cc own nL Ts nws) {r : Nat} (hM : xMet l y wsC (rD d) D cl tys nws As ws ws' (some (.ref r))) (hG : GoodIn Ts (wsS own index y wsC)) (hw : wsC = Cond.code y bytes maxL ret :: wsC') (hdd : y.cls = own ∧ y.cls ≠ "java/lang/invoke/MethodHandle" ∧ y.cls ≠ "java/lang/invoke/VarHandle" ∧ (parseMethodDescriptor y.desc).map (fun d => d.parameters.length) = some n) (hn : As.length = n) (hst : st = As.reverse ++ rest) (hWt : (rest.map fun v => v.category).sum ≤ 8) (hd : decode cc pc = .ok (.invokestatic index, 3)) (hR : d + 1 ≤ R.frames ∧ 8 + (maxL + 11) + 40 * d ≤ R.locals) (hC : cells ≤ R.cells ∧ slots ≤ R.slots) (kk : xW E D cl nL cells slots ws' lv (pc + 3) (.ref r :: rest)) : xW E D cl nL cells slots ws lv pc st := x_callSS (b := 0) S0 hM hG hw hdd hn hst hWt hd hR hC (fun _ _ => kk)
theorem x_cNa (S0 : xOK E l R D cl tys cc own nL Ts nws) {r : Nat} (hM : xMet l y wsC (rD d) D cl tys nws As ws ws' (some (.ref r))) (hG : GoodIn Ts wsC) (hw : wsC = Cond.code y bytes maxL ret :: wsC') (hnw : (own, index, y, host) ∈ nws) (hini : Cond.initialized y.cls ∈ Ts) (hsta : Cond.static y ∈ Ts) (hdd : y.cls ≠ "java/lang/invoke/MethodHandle" ∧ y.cls ≠ "java/lang/invoke/VarHandle" ∧ (parseMethodDescriptor y.desc).map (fun d => d.parameters.length) = some n) (hn : As.length = n) (hst : st = As.reverse ++ rest) (hWt : (rest.map fun v => v.category).sum ≤ 8) (hd : decode cc pc = .ok (.invokestatic index, 3)) (hR : d + 1 ≤ R.frames ∧ 8 + (maxL + 11) + 40 * d ≤ R.locals) (hC : cells ≤ R.cells ∧ slots ≤ R.slots) (kk : xW E D cl nL cells slots ws' lv (pc + 3) (.ref r :: rest)) : xW E D cl nL cells slots ws lv pc st := x_callSNS (b := 0) S0 hM hG hw hnw hini hsta hdd hn hst hWt hd hR hC (fun _ _ => kk)
theorem x_cJi (S0 : xOK E l R D cl tys cc own nL Ts nws) {r : Int32} (hM : xMet l y wsC (rD d) D cl tys nws As ws ws' (some (.int r))) (hG : GoodIn Ts wsC) (hw : wsC = Cond.code y bytes maxL ret :: wsC') (hlk : Cond.methodLink own index y ∈ Ts) (hini : Cond.initialized y.cls ∈ Ts) (hsta : Cond.static y ∈ Ts) (hdd : y.cls ≠ "java/lang/invoke/MethodHandle" ∧ y.cls ≠ "java/lang/invoke/VarHandle" ∧ (parseMethodDescriptor y.desc).map (fun d => d.parameters.length) = some n) (hn : As.length = n) (hst : st = As.reverse ++ rest) (hWt : (rest.map fun v => v.category).sum ≤ 8) (hd : decode cc pc = .ok (.invokestatic index, 3)) (hR : d + 1 ≤ R.frames ∧ 8 + (maxL + 11) + 40 * d ≤ R.locals) (hC : cells ≤ R.cells ∧ slots ≤ R.slots) (kk : xW E D cl nL cells slots ws' lv (pc + 3) (.int r :: rest)) : xW E D cl nL cells slots ws lv pc st := by
  intro H locs ls hP hD hS hl
  obtain ⟨F, hl0, hR0, hK, hA, hN⟩ := id S0
  subst hl0; subst hR0
  exact x_goS S0 hP hD hS hl (va_runS (As := As) (rest := rest) F (hM H.size) ⟨callB_of n F.2.2.2.2 hG hw rfl rfl (S0.w _ hini) (S0.w _ hlk) hdd hR, S0.w _ hsta⟩ ⟨x_blind, x_pre S0 hP hD⟩ rfl hn hl.1 hst (lv_room hWt) hd hC) (fun _ _ => kk)
theorem x_ldcw (S0 : xOK E l R D cl tys cc own nL Ts nws) {index : Nat} {v : Int32} (hc : Jvm.Cond.constant own index v ∈ Ts) (hd : decode cc pc = .ok (.ldc_w index, 3)) (k : xW E D cl nL cells slots ws lv (pc + 3) (.int v :: st)) : xW E D cl nL cells slots ws lv pc st := fun H locs ls hP hD hS hl => lv_ldcw S0.1.1 S0.1.2.1 S0.1.2.2.2.1 (S0.w _ hc) hd (k H locs ls hP hD hS hl)
theorem x_cViS (S0 : xOK E l R D cl tys cc own nL Ts nws) {Sg : Type} {post : Sg → Prop} {wsu : Sg → va_W} {r : Sg → Int32} (hM : xMetS l y wsC (rD d) D cl tys nws (.ref b :: As) ws post wsu (fun u => some (.int (r u)))) (hG : GoodIn Ts (wsV own index C y wsC)) (hw : wsC = Cond.code y bytes maxL ret :: wsC') (hdd : y.cls = C ∧ y.cls ≠ "java/lang/invoke/MethodHandle" ∧ y.cls ≠ "java/lang/invoke/VarHandle" ∧ (parseMethodDescriptor y.desc).map (fun d => d.parameters.length) = some n) (q0 : Nat) (he : ws[q0]? = some (b, .inr (ci, fs))) (hc : cl[ci]? = some (C, T, N)) (hn : As.length = n) (hst : st = As.reverse ++ .ref b :: rest) (hWt : (rest.map fun v => v.category).sum ≤ 8) (hd : decode cc pc = .ok (.invokevirtual index, 3)) (hR : d + 1 ≤ R.frames ∧ 8 + (maxL + 11) + 40 * d ≤ R.locals) (hC : cells ≤ R.cells ∧ slots ≤ R.slots) (kk : ∀ u : Sg, post u → xW E D cl nL cells slots (wsu u) lv (pc + 3) (.int (r u) :: rest)) : xW E D cl nL cells slots ws lv pc st := x_callVS S0 hM hG hw hdd q0 he hc hn hst hWt hd hR hC (fun u hu => kk u hu)
theorem x_cSiS (S0 : xOK E l R D cl tys cc own nL Ts nws) {Sg : Type} {post : Sg → Prop} {wsu : Sg → va_W} {r : Sg → Int32} (hM : xMetS l y wsC (rD d) D cl tys nws As ws post wsu (fun u => some (.int (r u)))) (hG : GoodIn Ts (wsS own index y wsC)) (hw : wsC = Cond.code y bytes maxL ret :: wsC') (hdd : y.cls = own ∧ y.cls ≠ "java/lang/invoke/MethodHandle" ∧ y.cls ≠ "java/lang/invoke/VarHandle" ∧ (parseMethodDescriptor y.desc).map (fun d => d.parameters.length) = some n) (hn : As.length = n) (hst : st = As.reverse ++ rest) (hWt : (rest.map fun v => v.category).sum ≤ 8) (hd : decode cc pc = .ok (.invokestatic index, 3)) (hR : d + 1 ≤ R.frames ∧ 8 + (maxL + 11) + 40 * d ≤ R.locals) (hC : cells ≤ R.cells ∧ slots ≤ R.slots) (kk : ∀ u : Sg, post u → xW E D cl nL cells slots (wsu u) lv (pc + 3) (.int (r u) :: rest)) : xW E D cl nL cells slots ws lv pc st := x_callSS (b := 0) S0 hM hG hw hdd hn hst hWt hd hR hC (fun u hu => kk u hu)
theorem x_cVvS (S0 : xOK E l R D cl tys cc own nL Ts nws) {Sg : Type} {post : Sg → Prop} {wsu : Sg → va_W} (hM : xMetS l y wsC (rD d) D cl tys nws (.ref b :: As) ws post wsu (fun _ => none)) (hG : GoodIn Ts (wsV own index C y wsC)) (hw : wsC = Cond.code y bytes maxL ret :: wsC') (hdd : y.cls = C ∧ y.cls ≠ "java/lang/invoke/MethodHandle" ∧ y.cls ≠ "java/lang/invoke/VarHandle" ∧ (parseMethodDescriptor y.desc).map (fun d => d.parameters.length) = some n) (q0 : Nat) (he : ws[q0]? = some (b, .inr (ci, fs))) (hc : cl[ci]? = some (C, T, N)) (hn : As.length = n) (hst : st = As.reverse ++ .ref b :: rest) (hWt : (rest.map fun v => v.category).sum ≤ 8) (hd : decode cc pc = .ok (.invokevirtual index, 3)) (hR : d + 1 ≤ R.frames ∧ 8 + (maxL + 11) + 40 * d ≤ R.locals) (hC : cells ≤ R.cells ∧ slots ≤ R.slots) (kk : ∀ u : Sg, post u → xW E D cl nL cells slots (wsu u) lv (pc + 3) rest) : xW E D cl nL cells slots ws lv pc st := x_callVS S0 hM hG hw hdd q0 he hc hn hst hWt hd hR hC (fun u hu => kk u hu)
theorem x_cSvS (S0 : xOK E l R D cl tys cc own nL Ts nws) {Sg : Type} {post : Sg → Prop} {wsu : Sg → va_W} (hM : xMetS l y wsC (rD d) D cl tys nws As ws post wsu (fun _ => none)) (hG : GoodIn Ts (wsS own index y wsC)) (hw : wsC = Cond.code y bytes maxL ret :: wsC') (hdd : y.cls = own ∧ y.cls ≠ "java/lang/invoke/MethodHandle" ∧ y.cls ≠ "java/lang/invoke/VarHandle" ∧ (parseMethodDescriptor y.desc).map (fun d => d.parameters.length) = some n) (hn : As.length = n) (hst : st = As.reverse ++ rest) (hWt : (rest.map fun v => v.category).sum ≤ 8) (hd : decode cc pc = .ok (.invokestatic index, 3)) (hR : d + 1 ≤ R.frames ∧ 8 + (maxL + 11) + 40 * d ≤ R.locals) (hC : cells ≤ R.cells ∧ slots ≤ R.slots) (kk : ∀ u : Sg, post u → xW E D cl nL cells slots (wsu u) lv (pc + 3) rest) : xW E D cl nL cells slots ws lv pc st := x_callSS (b := 0) S0 hM hG hw hdd hn hst hWt hd hR hC (fun u hu => kk u hu)
theorem x_cVaS (S0 : xOK E l R D cl tys cc own nL Ts nws) {Sg : Type} {post : Sg → Prop} {wsu : Sg → va_W} {r : Sg → Nat} (hM : xMetS l y wsC (rD d) D cl tys nws (.ref b :: As) ws post wsu (fun u => some (.ref (r u)))) (hG : GoodIn Ts (wsV own index C y wsC)) (hw : wsC = Cond.code y bytes maxL ret :: wsC') (hdd : y.cls = C ∧ y.cls ≠ "java/lang/invoke/MethodHandle" ∧ y.cls ≠ "java/lang/invoke/VarHandle" ∧ (parseMethodDescriptor y.desc).map (fun d => d.parameters.length) = some n) (q0 : Nat) (he : ws[q0]? = some (b, .inr (ci, fs))) (hc : cl[ci]? = some (C, T, N)) (hn : As.length = n) (hst : st = As.reverse ++ .ref b :: rest) (hWt : (rest.map fun v => v.category).sum ≤ 8) (hd : decode cc pc = .ok (.invokevirtual index, 3)) (hR : d + 1 ≤ R.frames ∧ 8 + (maxL + 11) + 40 * d ≤ R.locals) (hC : cells ≤ R.cells ∧ slots ≤ R.slots) (kk : ∀ u : Sg, post u → xW E D cl nL cells slots (wsu u) lv (pc + 3) (.ref (r u) :: rest)) : xW E D cl nL cells slots ws lv pc st := x_callVS S0 hM hG hw hdd q0 he hc hn hst hWt hd hR hC (fun u hu => kk u hu)
theorem x_cSaS (S0 : xOK E l R D cl tys cc own nL Ts nws) {Sg : Type} {post : Sg → Prop} {wsu : Sg → va_W} {r : Sg → Nat} (hM : xMetS l y wsC (rD d) D cl tys nws As ws post wsu (fun u => some (.ref (r u)))) (hG : GoodIn Ts (wsS own index y wsC)) (hw : wsC = Cond.code y bytes maxL ret :: wsC') (hdd : y.cls = own ∧ y.cls ≠ "java/lang/invoke/MethodHandle" ∧ y.cls ≠ "java/lang/invoke/VarHandle" ∧ (parseMethodDescriptor y.desc).map (fun d => d.parameters.length) = some n) (hn : As.length = n) (hst : st = As.reverse ++ rest) (hWt : (rest.map fun v => v.category).sum ≤ 8) (hd : decode cc pc = .ok (.invokestatic index, 3)) (hR : d + 1 ≤ R.frames ∧ 8 + (maxL + 11) + 40 * d ≤ R.locals) (hC : cells ≤ R.cells ∧ slots ≤ R.slots) (kk : ∀ u : Sg, post u → xW E D cl nL cells slots (wsu u) lv (pc + 3) (.ref (r u) :: rest)) : xW E D cl nL cells slots ws lv pc st := x_callSS (b := 0) S0 hM hG hw hdd hn hst hWt hd hR hC (fun u hu => kk u hu)
theorem x_iincN (S0 : xOK E l R D cl tys cc own nL Ts nws) {i j : Nat} {lv' : List (Nat × Value)} (hd : decode cc pc = .ok (.iinc i 1, 3)) (q : Nat) (hq : lv[q]? = some (i, .int (nI j))) (hn : i < nL) (hl' : (i, Value.int (nI (j + 1))) :: lv.filter (fun q => !(q.1 == i) && !(q.1 + 1 == i && q.2.category == 2)) = lv') (k : xW E D cl nL cells slots ws lv' (pc + 3) st) : xW E D cl nL cells slots ws lv pc st := x_iinc S0 hd q hq (nI_1 j) hn hl' k
theorem x_if_eqB (S0 : xOK E l R D cl tys cc own nL Ts nws) {c : Prop} [Decidable c] {off : Int} {tgt : Nat} (hd : decode cc pc = .ok (.ifCond .eq off, 3)) (ht : (pc : Int) + off = (tgt : Int)) (kt : ¬ c → xW E D cl nL cells slots ws lv tgt st) (kf : c → xW E D cl nL cells slots ws lv (pc + 3) st) : xW E D cl nL cells slots ws lv pc (.int (if c then 1 else 0) :: st) := by
  by_cases h : c
  · rw [if_pos h]
    exact x_if_eq S0 hd ht (fun q => absurd q (by decide)) (fun q => kf h)
  · rw [if_neg h]
    exact x_if_eq S0 hd ht (fun q => kt h) (fun q => absurd rfl q)
theorem x_if_neB (S0 : xOK E l R D cl tys cc own nL Ts nws) {c : Prop} [Decidable c] {off : Int} {tgt : Nat} (hd : decode cc pc = .ok (.ifCond .ne off, 3)) (ht : (pc : Int) + off = (tgt : Int)) (kt : c → xW E D cl nL cells slots ws lv tgt st) (kf : ¬ c → xW E D cl nL cells slots ws lv (pc + 3) st) : xW E D cl nL cells slots ws lv pc (.int (if c then 1 else 0) :: st) := by
  by_cases h : c
  · rw [if_pos h]
    exact x_if_ne S0 hd ht (fun q => kt h) (fun q => absurd q (by decide))
  · rw [if_neg h]
    exact x_if_ne S0 hd ht (fun q => absurd rfl q) (fun q => kf h)
theorem xfz {c : Prop} [Decidable c] : xFits (some .boolean) (some (.int (if c then 1 else 0))) := ⟨_, rfl, by split <;> rfl⟩
theorem xfi {r : Int32} : xFits (some .int) (some (.int r)) := ⟨_, rfl, rfl⟩
theorem xfv : xFits none none := rfl
end XC
theorem inC0 {c : Cond} : ∀ w ∈ u_ws RX0 TX0 3, w ∈ c :: gT := fun w h => gC w (inX0 w h)
theorem inC1 {c : Cond} : ∀ w ∈ u_ws RX1 TX1 2, w ∈ c :: gT := fun w h => gC w (inX1 w h)
theorem inC2 {c : Cond} : ∀ w ∈ u_ws RX2 TX2 9, w ∈ c :: gT := fun w h => gC w (inX2 w h)
theorem inC3 {c : Cond} : ∀ w ∈ u_ws RX3 TX3 5, w ∈ c :: gT := fun w h => gC w (inX3 w h)
theorem inC4 {c : Cond} : ∀ w ∈ u_ws RX4 TX4 6, w ∈ c :: gT := fun w h => gC w (inX4 w h)
theorem inC5 {c : Cond} : ∀ w ∈ u_ws RX5 TX5 5, w ∈ c :: gT := fun w h => gC w (inX5 w h)
theorem inC6 {c : Cond} : ∀ w ∈ u_ws RX6 TX6 20, w ∈ c :: gT := fun w h => gC w (inX6 w h)
/-- the cells of a CutTrees: the Graph and its arrays (0 to 17), the CutTable (18, 19), the PairTree (20 to 22), the Drawing (23, 24), the CutTrees and its array (25, 26), the Partings (27 to 38) -/
def cw (ad : Nat → Nat) (cI cII cP : ClassId) (n am al ch : Nat) (fr to wt nb : Nat → Nat) (M : Nat → Nat → Nat) (tch : Int32) (cu : Nat → Nat) (rch : Int32) (pa br gp : Nat → Nat) (P : Nat → Int32 × Nat × (Nat → Nat) × (Nat → Nat)) : va_W := [(ad 0, .inr (2, [.ref (ad 1), .ref (ad 2), .ref (ad 3), .ref (ad 4), .ref (ad 5), .int (nI n), .int (nI am), .int (nI al), .int (nI ch)])), (ad 1, .inl (cI, 50, .inl (aN fr))), (ad 2, .inl (cI, 50, .inl (aN to))), (ad 3, .inl (cI, 50, .inl (aN wt))), (ad 4, .inl (cII, 12, .inr (.inr (.inr (.inr (fun i => some (ad (6 + i)))))))), (ad 5, .inl (cI, 12, .inl (aN nb))), (ad 6, .inl (cI, 12, .inl (aN (M 0)))), (ad 7, .inl (cI, 12, .inl (aN (M 1)))), (ad 8, .inl (cI, 12, .inl (aN (M 2)))), (ad 9, .inl (cI, 12, .inl (aN (M 3)))), (ad 10, .inl (cI, 12, .inl (aN (M 4)))), (ad 11, .inl (cI, 12, .inl (aN (M 5)))), (ad 12, .inl (cI, 12, .inl (aN (M 6)))), (ad 13, .inl (cI, 12, .inl (aN (M 7)))), (ad 14, .inl (cI, 12, .inl (aN (M 8)))), (ad 15, .inl (cI, 12, .inl (aN (M 9)))), (ad 16, .inl (cI, 12, .inl (aN (M 10)))), (ad 17, .inl (cI, 12, .inl (aN (M 11)))), (ad 18, .inr (0, [.ref (ad 0), .ref (ad 19), .int tch])), (ad 19, .inl (cI, 2048, .inl (aN cu))), (ad 20, .inr (3, [.ref (ad 0), .ref (ad 18), .ref (ad 21), .ref (ad 22), .int rch])), (ad 21, .inl (cI, 12, .inl (aN pa))), (ad 22, .inl (cI, 12, .inl (aN br))), (ad 23, .inr (1, [.ref (ad 0), .ref (ad 24)])), (ad 24, .inl (cI, 12, .inl (aN gp))), (ad 25, .inr (5, [.ref (ad 0), .ref (ad 18), .ref (ad 20), .ref (ad 23), .ref (ad 26)])), (ad 26, .inl (cP, 4, .inr (.inr (.inr (.inr (fun i => some (ad (27 + 3 * i)))))))), (ad 27, .inr (4, [.ref (ad 0), .int 1, .ref (ad 28), .ref (ad 29), .int (nI (P 0).2.1), .int (P 0).1])), (ad 28, .inl (cI, 10, .inl (aN (P 0).2.2.1))), (ad 29, .inl (cI, 10, .inl (aN (P 0).2.2.2))), (ad 30, .inr (4, [.ref (ad 0), .int 2, .ref (ad 31), .ref (ad 32), .int (nI (P 1).2.1), .int (P 1).1])), (ad 31, .inl (cI, 10, .inl (aN (P 1).2.2.1))), (ad 32, .inl (cI, 10, .inl (aN (P 1).2.2.2))), (ad 33, .inr (4, [.ref (ad 0), .int 3, .ref (ad 34), .ref (ad 35), .int (nI (P 2).2.1), .int (P 2).1])), (ad 34, .inl (cI, 10, .inl (aN (P 2).2.2.1))), (ad 35, .inl (cI, 10, .inl (aN (P 2).2.2.2))), (ad 36, .inr (4, [.ref (ad 0), .int 4, .ref (ad 37), .ref (ad 38), .int (nI (P 3).2.1), .int (P 3).1])), (ad 37, .inl (cI, 10, .inl (aN (P 3).2.2.1))), (ad 38, .inl (cI, 10, .inl (aN (P 3).2.2.2)))]
abbrev tyC (cI cII cP cZ : ClassId) : List (ClassId × FieldType) := [(cI, .int), (cII, .array .int), (cP, .object "CutTrees$Parting"), (cZ, .boolean)]
abbrev nwC : xN := [(RX5, 9, yX2_init, RX5), (RX0, 54, yX5_nextWithin, RX5), (RX2, 68, yX5_nextWithin, RX5)]
section CWR
variable {ad : Nat → Nat} {cI cII cP : ClassId} {n am al ch : Nat} {fr to wt nb : Nat → Nat} {M : Nat → Nat → Nat} {tch : Int32} {cu : Nat → Nat} {rch : Int32} {pa br gp : Nat → Nat} {P : Nat → Int32 × Nat × (Nat → Nat) × (Nat → Nat)} {X : va_W}
theorem cw_row {v : Nat} (hv : v < 12) : (cw ad cI cII cP n am al ch fr to wt nb M tch cu rch pa br gp P ++ X)[6 + v]? = some (ad (6 + v), .inl (cI, 12, .inl (aN (M v)))) := by
  match v, hv with
  | 0, _ => rfl
  | 1, _ => rfl
  | 2, _ => rfl
  | 3, _ => rfl
  | 4, _ => rfl
  | 5, _ => rfl
  | 6, _ => rfl
  | 7, _ => rfl
  | 8, _ => rfl
  | 9, _ => rfl
  | 10, _ => rfl
  | 11, _ => rfl
  | v + 12, h => exact absurd h (by omega)
theorem cw_rows {v : Nat} (hv : v < 12) (r : Nat → Nat) : (cw ad cI cII cP n am al ch fr to wt nb M tch cu rch pa br gp P ++ X).set (6 + v) (ad (6 + v), .inl (cI, 12, .inl (aN r))) = cw ad cI cII cP n am al ch fr to wt nb (va_up M v r) tch cu rch pa br gp P ++ X := by
  match v, hv with
  | 0, _ => rfl
  | 1, _ => rfl
  | 2, _ => rfl
  | 3, _ => rfl
  | 4, _ => rfl
  | 5, _ => rfl
  | 6, _ => rfl
  | 7, _ => rfl
  | 8, _ => rfl
  | 9, _ => rfl
  | 10, _ => rfl
  | 11, _ => rfl
  | v + 12, h => exact absurd h (by omega)
theorem cw_p0 {j : Nat} (hj : j < 4) : (cw ad cI cII cP n am al ch fr to wt nb M tch cu rch pa br gp P ++ X)[27 + 3 * j]? = some (ad (27 + 3 * j), .inr (4, [.ref (ad 0), .int (nI (j + 1)), .ref (ad (28 + 3 * j)), .ref (ad (29 + 3 * j)), .int (nI (P j).2.1), .int (P j).1])) := by
  match j, hj with
  | 0, _ => rfl
  | 1, _ => rfl
  | 2, _ => rfl
  | 3, _ => rfl
  | j + 4, h => exact absurd h (by omega)
theorem cw_p1 {j : Nat} (hj : j < 4) : (cw ad cI cII cP n am al ch fr to wt nb M tch cu rch pa br gp P ++ X)[28 + 3 * j]? = some (ad (28 + 3 * j), .inl (cI, 10, .inl (aN (P j).2.2.1))) := by
  match j, hj with
  | 0, _ => rfl
  | 1, _ => rfl
  | 2, _ => rfl
  | 3, _ => rfl
  | j + 4, h => exact absurd h (by omega)
theorem cw_p2 {j : Nat} (hj : j < 4) : (cw ad cI cII cP n am al ch fr to wt nb M tch cu rch pa br gp P ++ X)[29 + 3 * j]? = some (ad (29 + 3 * j), .inl (cI, 10, .inl (aN (P j).2.2.2))) := by
  match j, hj with
  | 0, _ => rfl
  | 1, _ => rfl
  | 2, _ => rfl
  | 3, _ => rfl
  | j + 4, h => exact absurd h (by omega)
end CWR
abbrev wX5_init : List Cond := Cond.code yX5_init cX5_init 2 none :: gT
abbrev wX5_node : List Cond := Cond.code yX5_node cX5_node 1 (some .int) :: gT
abbrev wX5_arc : List Cond := Cond.code yX5_arc cX5_arc 4 (some .int) :: gT
abbrev wX5_drop : List Cond := Cond.code yX5_drop cX5_drop 2 (some .int) :: gT
abbrev wX5_clear : List Cond := Cond.code yX5_clear cX5_clear 1 (some .int) :: gT
abbrev wX5_cut : List Cond := Cond.code yX5_cut cX5_cut 2 (some .int) :: gT
abbrev wX5_pair : List Cond := Cond.code yX5_pair cX5_pair 3 (some .int) :: gT
abbrev wX5_side : List Cond := Cond.code yX5_side cX5_side 3 (some .int) :: gT
abbrev wX5_parent : List Cond := Cond.code yX5_parent cX5_parent 2 (some .int) :: gT
abbrev wX5_branch : List Cond := Cond.code yX5_branch cX5_branch 2 (some .int) :: gT
abbrev wX5_way : List Cond := Cond.code yX5_way cX5_way 3 (some .int) :: gT
abbrev wX5_least : List Cond := Cond.code yX5_least cX5_least 1 (some .int) :: gT
abbrev wX5_counted : List Cond := Cond.code yX5_counted cX5_counted 1 (some .int) :: gT
abbrev wX5_every : List Cond := Cond.code yX5_every cX5_every 2 (some .int) :: gT
abbrev wX5_drawn : List Cond := Cond.code yX5_drawn cX5_drawn 2 (some .int) :: gT
abbrev wX5_parts : List Cond := Cond.code yX5_parts cX5_parts 3 (some .int) :: gT
abbrev wX5_partOf : List Cond := Cond.code yX5_partOf cX5_partOf 4 (some .int) :: gT
abbrev wX5_refusalOfParts : List Cond := Cond.code yX5_refusalOfParts cX5_refusalOfParts 2 (some .int) :: gT
abbrev wX5_sparsest : List Cond := Cond.code yX5_sparsest cX5_sparsest 1 (some .int) :: gT
abbrev wX5_share : List Cond := Cond.code yX5_share cX5_share 6 (some .int) :: gT
abbrev wX5_greatestDivisor : List Cond := Cond.code yX5_greatestDivisor cX5_greatestDivisor 3 (some .int) :: gT
abbrev wX5_bars : List Cond := Cond.code yX5_bars cX5_bars 4 (some .int) :: gT
abbrev wX5_barSet : List Cond := Cond.code yX5_barSet cX5_barSet 3 (some .int) :: gT
abbrev wX5_without : List Cond := Cond.code yX5_without cX5_without 2 (some .int) :: gT
abbrev wX5_freshTable : List Cond := Cond.code yX5_freshTable cX5_freshTable 1 (some (.object "CutTrees$CutTable")) :: gT
abbrev wX5_freshTree : List Cond := Cond.code yX5_freshTree cX5_freshTree 1 (some (.object "CutTrees$PairTree")) :: gT
abbrev wX5_freshParting : List Cond := Cond.code yX5_freshParting cX5_freshParting 2 (some (.object "CutTrees$Parting")) :: gT
abbrev wX5_nextWithin : List Cond := Cond.code yX5_nextWithin cX5_nextWithin 2 (some .int) :: gT
abbrev wX6_init : List Cond := Cond.code yX6_init cX6_init 1 none :: gT
abbrev wX6_changed : List Cond := Cond.code yX6_changed cX6_changed 2 none :: gT
abbrev wX6_node : List Cond := Cond.code yX6_node cX6_node 1 (some .int) :: gT
abbrev wX6_areTwo : List Cond := Cond.code yX6_areTwo cX6_areTwo 3 (some .boolean) :: gT
abbrev wX6_arc : List Cond := Cond.code yX6_arc cX6_arc 4 (some .int) :: gT
abbrev wX6_drop : List Cond := Cond.code yX6_drop cX6_drop 2 (some .int) :: gT
abbrev wX6_clear : List Cond := Cond.code yX6_clear cX6_clear 2 (some .int) :: gT
abbrev wX6_all : List Cond := Cond.code yX6_all cX6_all 1 (some .int) :: gT
abbrev wX6_make : List Cond := Cond.code yX6_make cX6_make 6 none :: gT
abbrev wX6_cut : List Cond := Cond.code yX6_cut cX6_cut 2 (some .int) :: gT
abbrev wX6_sideOf : List Cond := Cond.code yX6_sideOf cX6_sideOf 5 (some .int) :: gT
abbrev wX6_tree : List Cond := Cond.code yX6_tree cX6_tree 5 none :: gT
abbrev wX6_pair : List Cond := Cond.code yX6_pair cX6_pair 4 (some .int) :: gT
abbrev wX6_side : List Cond := Cond.code yX6_side cX6_side 3 (some .int) :: gT
abbrev wX6_ofNode : List Cond := Cond.code yX6_ofNode cX6_ofNode 3 (some .int) :: gT
abbrev wX6_parent : List Cond := Cond.code yX6_parent cX6_parent 2 (some .int) :: gT
abbrev wX6_branch : List Cond := Cond.code yX6_branch cX6_branch 2 (some .int) :: gT
abbrev wX6_up : List Cond := Cond.code yX6_up cX6_up 4 (some .int) :: gT
abbrev wX6_way : List Cond := Cond.code yX6_way cX6_way 6 (some .int) :: gT
abbrev wX6_leastCut : List Cond := Cond.code yX6_leastCut cX6_leastCut 3 (some .int) :: gT
abbrev wX6_least : List Cond := Cond.code yX6_least cX6_least 1 (some .int) :: gT
abbrev wX6_leastOne : List Cond := Cond.code yX6_leastOne cX6_leastOne 5 (some .int) :: gT
abbrev wX6_counted : List Cond := Cond.code yX6_counted cX6_counted 1 (some .int) :: gT
abbrev wX6_every : List Cond := Cond.code yX6_every cX6_every 2 (some .int) :: gT
abbrev wX6_drawn : List Cond := Cond.code yX6_drawn cX6_drawn 11 (some .int) :: gT
abbrev wX6_isLoose : List Cond := Cond.code yX6_isLoose cX6_isLoose 2 (some .boolean) :: gT
abbrev wX6_loose : List Cond := Cond.code yX6_loose cX6_loose 3 (some .int) :: gT
abbrev wX6_partFault : List Cond := Cond.code yX6_partFault cX6_partFault 2 (some .int) :: gT
abbrev wX6_findParts : List Cond := Cond.code yX6_findParts cX6_findParts 6 none :: gT
abbrev wX6_isFull : List Cond := Cond.code yX6_isFull cX6_isFull 4 (some .boolean) :: gT
abbrev wX6_parts : List Cond := Cond.code yX6_parts cX6_parts 3 (some .int) :: gT
abbrev wX6_partOf : List Cond := Cond.code yX6_partOf cX6_partOf 4 (some .int) :: gT
abbrev wX6_count : List Cond := Cond.code yX6_count cX6_count 3 (some .int) :: gT
abbrev wX6_below : List Cond := Cond.code yX6_below cX6_below 2 (some .int) :: gT
abbrev wX6_sparsestOf : List Cond := Cond.code yX6_sparsestOf cX6_sparsestOf 3 (some .int) :: gT
abbrev wX6_sparsest : List Cond := Cond.code yX6_sparsest cX6_sparsest 1 (some .int) :: gT
abbrev wX6_share : List Cond := Cond.code yX6_share cX6_share 8 (some .int) :: gT
abbrev wX6_part : List Cond := Cond.code yX6_part cX6_part 6 (some .int) :: gT
abbrev wX6_barsOf : List Cond := Cond.code yX6_barsOf cX6_barsOf 5 (some .int) :: gT
abbrev wX6_barFault : List Cond := Cond.code yX6_barFault cX6_barFault 3 (some .int) :: gT
abbrev wX6_bars : List Cond := Cond.code yX6_bars cX6_bars 4 (some .int) :: gT
abbrev wX6_barSet : List Cond := Cond.code yX6_barSet cX6_barSet 4 (some .int) :: gT
abbrev wX6_without : List Cond := Cond.code yX6_without cX6_without 5 (some .int) :: gT
abbrev wX0_init : List Cond := Cond.code yX0_init cX0_init 2 none :: gT
abbrev wX0_refresh : List Cond := Cond.code yX0_refresh cX0_refresh 2 none :: gT
abbrev wX0_fillSetsUpTo : List Cond := Cond.code yX0_fillSetsUpTo cX0_fillSetsUpTo 7 none :: gT
abbrev wX0_cutAt : List Cond := Cond.code yX0_cutAt cX0_cutAt 3 (some .int) :: gT
abbrev wX0_cutBetween : List Cond := Cond.code yX0_cutBetween cX0_cutBetween 3 (some .int) :: gT
abbrev wX0_sideAgainst : List Cond := Cond.code yX0_sideAgainst cX0_sideAgainst 11 (some .int) :: gT
abbrev wX0_leastCut : List Cond := Cond.code yX0_leastCut cX0_leastCut 3 (some .int) :: gT
abbrev wX0_countLeastOnes : List Cond := Cond.code yX0_countLeastOnes cX0_countLeastOnes 4 (some .int) :: gT
abbrev wX0_leastOne : List Cond := Cond.code yX0_leastOne cX0_leastOne 5 (some .int) :: gT
abbrev wX0_sparsestSide : List Cond := Cond.code yX0_sparsestSide cX0_sparsestSide 7 (some .int) :: gT
abbrev wX1_init : List Cond := Cond.code yX1_init cX1_init 2 none :: gT
abbrev wX1_drawBy : List Cond := Cond.code yX1_drawBy cX1_drawBy 5 (some .int) :: gT
abbrev wX1_isBetweenGroups : List Cond := Cond.code yX1_isBetweenGroups cX1_isBetweenGroups 2 (some .boolean) :: gT
abbrev wX1_weightBetweenGroups : List Cond := Cond.code yX1_weightBetweenGroups cX1_weightBetweenGroups 3 (some .int) :: gT
abbrev wX1_joinByArcAt : List Cond := Cond.code yX1_joinByArcAt cX1_joinByArcAt 4 none :: gT
abbrev wX1_joinGroups : List Cond := Cond.code yX1_joinGroups cX1_joinGroups 3 none :: gT
abbrev wX2_init : List Cond := Cond.code yX2_init cX2_init 1 none :: gT
abbrev wX2_hasNode : List Cond := Cond.code yX2_hasNode cX2_hasNode 2 (some .boolean) :: gT
abbrev wX2_hasPair : List Cond := Cond.code yX2_hasPair cX2_hasPair 3 (some .boolean) :: gT
abbrev wX2_hasArc : List Cond := Cond.code yX2_hasArc cX2_hasArc 2 (some .boolean) :: gT
abbrev wX2_hasSet : List Cond := Cond.code yX2_hasSet cX2_hasSet 2 (some .boolean) :: gT
abbrev wX2_hasSides : List Cond := Cond.code yX2_hasSides cX2_hasSides 1 (some .boolean) :: gT
abbrev wX2_areJoined : List Cond := Cond.code yX2_areJoined cX2_areJoined 3 (some .boolean) :: gT
abbrev wX2_allNodes : List Cond := Cond.code yX2_allNodes cX2_allNodes 1 (some .int) :: gT
abbrev wX2_addNode : List Cond := Cond.code yX2_addNode cX2_addNode 1 (some .int) :: gT
abbrev wX2_addArc : List Cond := Cond.code yX2_addArc cX2_addArc 5 (some .int) :: gT
abbrev wX2_removeArc : List Cond := Cond.code yX2_removeArc cX2_removeArc 2 (some .int) :: gT
abbrev wX2_addBetween : List Cond := Cond.code yX2_addBetween cX2_addBetween 4 none :: gT
abbrev wX2_removeAll : List Cond := Cond.code yX2_removeAll cX2_removeAll 4 (some .int) :: gT
abbrev wX2_cutAround : List Cond := Cond.code yX2_cutAround cX2_cutAround 4 (some .int) :: gT
abbrev wX2_weightAt : List Cond := Cond.code yX2_weightAt cX2_weightAt 4 (some .int) :: gT
abbrev wX2_spread : List Cond := Cond.code yX2_spread cX2_spread 3 (some .int) :: gT
abbrev wX2_reachedFrom : List Cond := Cond.code yX2_reachedFrom cX2_reachedFrom 7 (some .int) :: gT
abbrev wX2_countConnected : List Cond := Cond.code yX2_countConnected cX2_countConnected 5 (some .int) :: gT
abbrev wX2_fewestBars : List Cond := Cond.code yX2_fewestBars cX2_fewestBars 10 (some .int) :: gT
abbrev wX3_init : List Cond := Cond.code yX3_init cX3_init 3 none :: gT
abbrev wX3_refresh : List Cond := Cond.code yX3_refresh cX3_refresh 2 none :: gT
abbrev wX3_hang : List Cond := Cond.code yX3_hang cX3_hang 5 none :: gT
abbrev wX3_leastBranchBetween : List Cond := Cond.code yX3_leastBranchBetween cX3_leastBranchBetween 8 (some .int) :: gT
abbrev wX4_init : List Cond := Cond.code yX4_init cX4_init 3 none :: gT
abbrev wX4_refresh : List Cond := Cond.code yX4_refresh cX4_refresh 1 none :: gT
abbrev wX4_tryFrom : List Cond := Cond.code yX4_tryFrom cX4_tryFrom 8 none :: gT
abbrev wX4_costToLower : List Cond := Cond.code yX4_costToLower cX4_costToLower 4 (some .int) :: gT
abbrev wX4_keepTried : List Cond := Cond.code yX4_keepTried cX4_keepTried 3 none :: gT
abbrev wJI_bitCount : List Cond := Cond.code yJI_bitCount cJI_bitCount 1 (some .int) :: gT
abbrev wJM_max : List Cond := Cond.code yJM_max cJM_max 2 (some .int) :: gT
abbrev wJM_min : List Cond := Cond.code yJM_min cJM_min 2 (some .int) :: gT
end
section
/-! Graph: contracts -/
section GR
theorem kC_succ (fr to wt : Nat → Nat) (k s : Nat) : kC fr to wt (k + 1) s = kC fr to wt k s + if s.testBit (fr k) = s.testBit (to k) then 0 else wt k := rfl
variable {l : Launch} {D : va_G} {ad : Nat → Nat} {cI cII cP cZ : ClassId} {n am al ch : Nat} {fr to wt nb : Nat → Nat} {M : Nat → Nat → Nat} {tch : Int32} {cu : Nat → Nat} {rch : Int32} {pa br gp : Nat → Nat} {P : Nat → Int32 × Nat × (Nat → Nat) × (Nat → Nat)} {X : va_W}
set_option maxHeartbeats 4000000 in
set_option maxRecDepth 100000 in
theorem c_hasNode (v : Int32) : xMet l yX2_hasNode wX2_hasNode (rD 0) D vwCl (tyC cI cII cP cZ) nwC [.ref (ad 0), .int v] (cw ad cI cII cP n am al ch fr to wt nb M tch cu rch pa br gp P ++ X) (cw ad cI cII cP n am al ch fr to wt nb M tch cu rch pa br gp P ++ X) (some (.int (if 0 ≤ v ∧ v < nI n then 1 else 0))) := by
  refine xMet_of (cc := cX2_hasNode) (maxL := 2) (ret := (some .boolean)) (by decide +kernel) rfl (Nat.le_of_ble_eq_true rfl) xfz ?_
  intro E S hnm hret
  show xW E D vwCl 2 0 0 _ [(0, .ref (ad 0)), (1, .int v)] 0 []
  refine x_iload_n S dX2_hasNode_0 1 rfl rfl ?_
  refine x_if_lt (tgt := 16) S dX2_hasNode_1 (by decide) (fun h1 => ?_) (fun h1 => ?_)
  · refine x_iconst (v := 0) S dX2_hasNode_16 rfl ?_
    exact x_ret hret (if_neg (fun q => Int32.not_lt.mpr q.1 h1)).symm dX2_hasNode_17
  refine x_iload_n S dX2_hasNode_4 1 rfl rfl ?_
  refine x_aload_n S dX2_hasNode_5 0 rfl rfl ?_
  refine x_get S 0 5 rfl rfl inC2 (by decide) (gC _ tw36) rfl rfl dX2_hasNode_6 ?_
  refine x_icmp_ge (tgt := 16) S dX2_hasNode_9 (by decide) (fun h2 => ?_) (fun h2 => ?_)
  · refine x_iconst (v := 0) S dX2_hasNode_16 rfl ?_
    exact x_ret hret (if_neg (fun q => Int32.not_lt.mpr h2 q.2)).symm dX2_hasNode_17
  refine x_iconst (v := 1) S dX2_hasNode_12 rfl ?_
  refine x_goto (tgt := 17) S dX2_hasNode_13 (by decide) ?_
  exact x_ret hret (if_pos ⟨Int32.not_lt.mp h1, Int32.not_le.mp h2⟩).symm dX2_hasNode_17
set_option maxHeartbeats 4000000 in
set_option maxRecDepth 100000 in
theorem c_hasPair (a b : Int32) : xMet l yX2_hasPair wX2_hasPair (rD 1) D vwCl (tyC cI cII cP cZ) nwC [.ref (ad 0), .int a, .int b] (cw ad cI cII cP n am al ch fr to wt nb M tch cu rch pa br gp P ++ X) (cw ad cI cII cP n am al ch fr to wt nb M tch cu rch pa br gp P ++ X) (some (.int (if (0 ≤ a ∧ a < nI n) ∧ (0 ≤ b ∧ b < nI n) ∧ a ≠ b then 1 else 0))) := by
  refine xMet_of (cc := cX2_hasPair) (maxL := 3) (ret := (some .boolean)) (by decide +kernel) rfl (Nat.le_of_ble_eq_true rfl) xfz ?_
  intro E S hnm hret
  show xW E D vwCl 3 0 0 _ [(0, .ref (ad 0)), (1, .int a), (2, .int b)] 0 []
  refine x_aload_n S dX2_hasPair_0 0 rfl rfl ?_
  refine x_iload_n S dX2_hasPair_1 1 rfl rfl ?_
  refine x_cVi (n := 1) S (c_hasNode a) (gGV gC tw186 tw183 tw184 tw185 tw2) rfl (by decide +kernel) 0 rfl rfl rfl rfl (Nat.le_of_ble_eq_true rfl) dX2_hasPair_2 ⟨by decide, by decide⟩ ⟨Nat.le_of_ble_eq_true rfl, Nat.le_of_ble_eq_true rfl⟩ ?_
  refine x_if_eqB (tgt := 25) S dX2_hasPair_5 (by decide) (fun ha => ?_) (fun ha => ?_)
  · refine x_iconst (v := 0) S dX2_hasPair_25 rfl ?_
    exact x_ret hret (if_neg (fun q => ha q.1)).symm dX2_hasPair_26
  refine x_aload_n S dX2_hasPair_8 0 rfl rfl ?_
  refine x_iload_n S dX2_hasPair_9 2 rfl rfl ?_
  refine x_cVi (n := 1) S (c_hasNode b) (gGV gC tw186 tw183 tw184 tw185 tw2) rfl (by decide +kernel) 0 rfl rfl rfl rfl (Nat.le_of_ble_eq_true rfl) dX2_hasPair_10 ⟨by decide, by decide⟩ ⟨Nat.le_of_ble_eq_true rfl, Nat.le_of_ble_eq_true rfl⟩ ?_
  refine x_if_eqB (tgt := 25) S dX2_hasPair_13 (by decide) (fun hb => ?_) (fun hb => ?_)
  · refine x_iconst (v := 0) S dX2_hasPair_25 rfl ?_
    exact x_ret hret (if_neg (fun q => hb q.2.1)).symm dX2_hasPair_26
  refine x_iload_n S dX2_hasPair_16 1 rfl rfl ?_
  refine x_iload_n S dX2_hasPair_17 2 rfl rfl ?_
  refine x_icmp_eq (tgt := 25) S dX2_hasPair_18 (by decide) (fun h3 => ?_) (fun h3 => ?_)
  · refine x_iconst (v := 0) S dX2_hasPair_25 rfl ?_
    exact x_ret hret (if_neg (fun q => q.2.2 h3)).symm dX2_hasPair_26
  refine x_iconst (v := 1) S dX2_hasPair_21 rfl ?_
  refine x_goto (tgt := 26) S dX2_hasPair_22 (by decide) ?_
  exact x_ret hret (if_pos ⟨ha, hb, h3⟩).symm dX2_hasPair_26
set_option maxHeartbeats 4000000 in
set_option maxRecDepth 100000 in
theorem c_allNodes (hn : n ≤ 12) : xMet l yX2_allNodes wX2_allNodes (rD 0) D vwCl (tyC cI cII cP cZ) nwC [.ref (ad 0)] (cw ad cI cII cP n am al ch fr to wt nb M tch cu rch pa br gp P ++ X) (cw ad cI cII cP n am al ch fr to wt nb M tch cu rch pa br gp P ++ X) (some (.int (nI (2 ^ n - 1)))) := by
  refine xMet_of (cc := cX2_allNodes) (maxL := 1) (ret := (some .int)) (by decide +kernel) rfl (Nat.le_of_ble_eq_true rfl) xfi ?_
  intro E S hnm hret
  show xW E D vwCl 1 0 0 _ [(0, .ref (ad 0))] 0 []
  refine x_iconst (v := 1) S dX2_allNodes_0 rfl ?_
  refine x_aload_n S dX2_allNodes_1 0 rfl rfl ?_
  refine x_get S 0 5 rfl rfl inC2 (by decide) (gC _ tw36) rfl rfl dX2_allNodes_2 ?_
  refine x_ishl S dX2_allNodes_5 ?_
  refine x_iconst (v := 1) S dX2_allNodes_6 rfl ?_
  refine x_isub S dX2_allNodes_7 ?_
  refine x_ret hret ?_ dX2_allNodes_8
  rw [pl_one (by omega)]
  exact pk_sub (Nat.two_pow_pos n)
set_option maxHeartbeats 4000000 in
set_option maxRecDepth 100000 in
theorem c_hasSet (hn : n ≤ 12) (s : Int32) : xMet l yX2_hasSet wX2_hasSet (rD 1) D vwCl (tyC cI cII cP cZ) nwC [.ref (ad 0), .int s] (cw ad cI cII cP n am al ch fr to wt nb M tch cu rch pa br gp P ++ X) (cw ad cI cII cP n am al ch fr to wt nb M tch cu rch pa br gp P ++ X) (some (.int (if 0 ≤ s ∧ s ≤ nI (2 ^ n - 1) then 1 else 0))) := by
  refine xMet_of (cc := cX2_hasSet) (maxL := 2) (ret := (some .boolean)) (by decide +kernel) rfl (Nat.le_of_ble_eq_true rfl) xfz ?_
  intro E S hnm hret
  show xW E D vwCl 2 0 0 _ [(0, .ref (ad 0)), (1, .int s)] 0 []
  refine x_iload_n S dX2_hasSet_0 1 rfl rfl ?_
  refine x_if_lt (tgt := 16) S dX2_hasSet_1 (by decide) (fun h1 => ?_) (fun h1 => ?_)
  · refine x_iconst (v := 0) S dX2_hasSet_16 rfl ?_
    exact x_ret hret (if_neg (fun q => Int32.not_lt.mpr q.1 h1)).symm dX2_hasSet_17
  refine x_iload_n S dX2_hasSet_4 1 rfl rfl ?_
  refine x_aload_n S dX2_hasSet_5 0 rfl rfl ?_
  refine x_cVi (n := 0) S (c_allNodes hn) (gGV gC tw230 tw227 tw228 tw229 tw2) rfl (by decide +kernel) 0 rfl rfl rfl rfl (Nat.le_of_ble_eq_true rfl) dX2_hasSet_6 ⟨by decide, by decide⟩ ⟨Nat.le_of_ble_eq_true rfl, Nat.le_of_ble_eq_true rfl⟩ ?_
  refine x_icmp_gt (tgt := 16) S dX2_hasSet_9 (by decide) (fun h2 => ?_) (fun h2 => ?_)
  · refine x_iconst (v := 0) S dX2_hasSet_16 rfl ?_
    exact x_ret hret (if_neg (fun q => Int32.not_lt.mpr q.2 h2)).symm dX2_hasSet_17
  refine x_iconst (v := 1) S dX2_hasSet_12 rfl ?_
  refine x_goto (tgt := 17) S dX2_hasSet_13 (by decide) ?_
  exact x_ret hret (if_pos ⟨Int32.not_lt.mp h1, Int32.not_lt.mp h2⟩).symm dX2_hasSet_17
set_option maxHeartbeats 4000000 in
set_option maxRecDepth 100000 in
theorem c_addNode : xMet l yX2_addNode wX2_addNode (rD 0) D vwCl (tyC cI cII cP cZ) nwC [.ref (ad 0)] (cw ad cI cII cP n am al ch fr to wt nb M tch cu rch pa br gp P ++ X) (cw ad cI cII cP (n + 1) am al (ch + 1) fr to wt nb M tch cu rch pa br gp P ++ X) (some (.int (nI n))) := by
  refine xMet_of (cc := cX2_addNode) (maxL := 1) (ret := (some .int)) (by decide +kernel) rfl (Nat.le_of_ble_eq_true rfl) xfi ?_
  intro E S hnm hret
  show xW E D vwCl 1 0 0 _ [(0, .ref (ad 0))] 0 []
  refine x_aload_n S dX2_addNode_0 0 rfl rfl ?_
  refine x_dup S dX2_addNode_1 rfl ?_
  refine x_get S 0 8 rfl rfl inC2 (by decide) (gC _ tw46) rfl rfl dX2_addNode_2 ?_
  refine x_iconst (v := 1) S dX2_addNode_5 rfl ?_
  refine x_iadd S dX2_addNode_6 ?_
  refine x_top (nI (ch + 1)) (nI_1 ch) ?_
  refine x_put (ws' := (cw ad cI cII cP n am al (ch + 1) fr to wt nb M tch cu rch pa br gp P ++ X)) S 0 8 rfl rfl inC2 tyX2 tyX2_ok nmX2 (by decide) (gC _ tw46) rfl rfl (tyX2_ok 8 (by decide)) rfl rfl (Nat.le_of_ble_eq_true rfl) dX2_addNode_7 rfl ?_
  refine x_aload_n S dX2_addNode_10 0 rfl rfl ?_
  refine x_dup S dX2_addNode_11 rfl ?_
  refine x_get S 0 5 rfl rfl inC2 (by decide) (gC _ tw36) rfl rfl dX2_addNode_12 ?_
  refine x_iconst (v := 1) S dX2_addNode_15 rfl ?_
  refine x_iadd S dX2_addNode_16 ?_
  refine x_top (nI (n + 1)) (nI_1 n) ?_
  refine x_put (ws' := (cw ad cI cII cP (n + 1) am al (ch + 1) fr to wt nb M tch cu rch pa br gp P ++ X)) S 0 5 rfl rfl inC2 tyX2 tyX2_ok nmX2 (by decide) (gC _ tw36) rfl rfl (tyX2_ok 5 (by decide)) rfl rfl (Nat.le_of_ble_eq_true rfl) dX2_addNode_17 rfl ?_
  refine x_aload_n S dX2_addNode_20 0 rfl rfl ?_
  refine x_get S 0 5 rfl rfl inC2 (by decide) (gC _ tw36) rfl rfl dX2_addNode_21 ?_
  refine x_iconst (v := 1) S dX2_addNode_24 rfl ?_
  refine x_isub S dX2_addNode_25 ?_
  exact x_ret hret (nI_pred n) dX2_addNode_26
set_option maxHeartbeats 4000000 in
set_option maxRecDepth 100000 in
theorem c_cutAround {s : Nat} (hs : s < 4096) (ham : am ≤ 50) (hf : ∀ i, i < am → fr i < 12 ∧ to i < 12) : xMet l yX2_cutAround wX2_cutAround (rD 0) D vwCl (tyC cI cII cP cZ) nwC [.ref (ad 0), .int (nI s)] (cw ad cI cII cP n am al ch fr to wt nb M tch cu rch pa br gp P ++ X) (cw ad cI cII cP n am al ch fr to wt nb M tch cu rch pa br gp P ++ X) (some (.int (nI (kC fr to wt am s)))) := by
  refine xMet_of (cc := cX2_cutAround) (maxL := 4) (ret := (some .int)) (by decide +kernel) rfl (Nat.le_of_ble_eq_true rfl) xfi ?_
  intro E S hnm hret
  show xW E D vwCl 4 0 0 _ [(0, .ref (ad 0)), (1, .int (nI s))] 0 []
  have L : ∀ k, k ≤ am → xW E D vwCl 4 0 0 (cw ad cI cII cP n am al ch fr to wt nb M tch cu rch pa br gp P ++ X) [(0, .ref (ad 0)), (1, .int (nI s)), (2, .int (nI (kC fr to wt k s))), (3, .int (nI k))] 4 [] := by
    refine pl_up am (fun k hk ih => ?_)
    refine x_iload_n S dX2_cutAround_4 3 rfl rfl ?_
    refine x_aload_n S dX2_cutAround_5 0 rfl rfl ?_
    refine x_get S 0 6 rfl rfl inC2 (by decide) (gC _ tw42) rfl rfl dX2_cutAround_6 ?_
    refine x_icmp_ge (tgt := 50) S dX2_cutAround_9 (by decide) (fun h1 => ?_) (fun h1 => ?_)
    · refine x_iload_n S dX2_cutAround_50 2 rfl rfl ?_
      have hk2 : k = am := Nat.le_antisymm hk ((nI_leI (by omega) (by omega)).mp h1)
      subst hk2
      exact x_ret hret rfl dX2_cutAround_51
    have hk2 : k < am := Nat.lt_of_not_le (fun q => h1 (nI_le q (by omega)))
    obtain ⟨hf1, hf2⟩ := hf k hk2
    refine x_iload_n S dX2_cutAround_12 1 rfl rfl ?_
    refine x_aload_n S dX2_cutAround_13 0 rfl rfl ?_
    refine x_get S 0 0 rfl rfl inC2 (by decide) (gC _ tw26) rfl rfl dX2_cutAround_14 ?_
    refine x_iload_n S dX2_cutAround_17 3 rfl rfl ?_
    refine x_ialdN S 1 0 (k) rfl rfl rfl (by omega) (by decide) dX2_cutAround_18 ?_
    refine x_ishr S dX2_cutAround_19 ?_
    refine x_iconst (v := 1) S dX2_cutAround_20 rfl ?_
    refine x_iand S dX2_cutAround_21 ?_
    refine x_iload_n S dX2_cutAround_22 1 rfl rfl ?_
    refine x_aload_n S dX2_cutAround_23 0 rfl rfl ?_
    refine x_get S 0 1 rfl rfl inC2 (by decide) (gC _ tw28) rfl rfl dX2_cutAround_24 ?_
    refine x_iload_n S dX2_cutAround_27 3 rfl rfl ?_
    refine x_ialdN S 2 0 (k) rfl rfl rfl (by omega) (by decide) dX2_cutAround_28 ?_
    refine x_ishr S dX2_cutAround_29 ?_
    refine x_iconst (v := 1) S dX2_cutAround_30 rfl ?_
    refine x_iand S dX2_cutAround_31 ?_
    refine x_icmp_eq (tgt := 44) S dX2_cutAround_32 (by decide) (fun h2 => ?_) (fun h2 => ?_)
    rotate_left
    · refine x_iload_n S dX2_cutAround_35 2 rfl rfl ?_
      refine x_aload_n S dX2_cutAround_36 0 rfl rfl ?_
      refine x_get S 0 2 rfl rfl inC2 (by decide) (gC _ tw30) rfl rfl dX2_cutAround_37 ?_
      refine x_iload_n S dX2_cutAround_40 3 rfl rfl ?_
      refine x_ialdN S 3 0 (k) rfl rfl rfl (by omega) (by decide) dX2_cutAround_41 ?_
      refine x_iadd S dX2_cutAround_42 ?_
      refine x_top (nI (kC fr to wt (k + 1) s)) ?_ ?_
      · rw [nI_add]
        congr 1
        rw [kC_succ, if_neg (fun q => h2 ((pl_bite (by omega) (by omega) (by omega)).mpr q))]
      refine x_istore_n (lv' := [(2, .int _), (0, .ref _), (1, .int _), (3, .int _)]) S dX2_cutAround_43 rfl (by decide) rfl ?_
      refine x_iincN (lv' := [(3, .int _), (2, .int _), (0, .ref _), (1, .int _)]) S dX2_cutAround_44 3 rfl (by decide) rfl ?_
      refine x_goto (tgt := 4) S dX2_cutAround_47 (by decide) ?_
      exact x_sub [2, 3, 1, 0] rfl (ih hk2)
    refine x_iincN (lv' := [(3, .int _), (0, .ref _), (1, .int _), (2, .int _)]) S dX2_cutAround_44 3 rfl (by decide) rfl ?_
    refine x_goto (tgt := 4) S dX2_cutAround_47 (by decide) ?_
    have e : kC fr to wt (k + 1) s = kC fr to wt k s := by
      rw [kC_succ, if_pos ((pl_bite (by omega) (by omega) (by omega)).mp h2)]
      rfl
    rw [← e]
    exact x_sub [1, 2, 3, 0] rfl (ih hk2)
  refine x_iconst (v := 0) S dX2_cutAround_0 rfl ?_
  refine x_istore_n (lv' := [(2, .int _), (0, .ref _), (1, .int _)]) S dX2_cutAround_1 rfl (by decide) rfl ?_
  refine x_iconst (v := 0) S dX2_cutAround_2 rfl ?_
  refine x_istore_n (lv' := [(3, .int _), (2, .int _), (0, .ref _), (1, .int _)]) S dX2_cutAround_3 rfl (by decide) rfl ?_
  exact x_sub [2, 3, 1, 0] rfl (L 0 (Nat.zero_le _))
end GR
end
section
/-! Graph: contracts, 2 -/
section GR2
theorem nx_low {i c x : Nat} (h : i < 12) : (2 ^ 12 * c + x).testBit i = x.testBit i := by
  rw [Nat.testBit_eq_decide_div_mod_eq, Nat.testBit_eq_decide_div_mod_eq]
  have e : 2 ^ 12 * c = 2 ^ i * (2 * (2 ^ (11 - i) * c)) := by
    rw [← Nat.mul_assoc, ← Nat.mul_assoc, ← Nat.pow_succ, ← Nat.pow_add, show i + 1 + (11 - i) = 12 by omega]
  rw [e, Nat.mul_add_div (Nat.two_pow_pos i), show 2 * (2 ^ (11 - i) * c) + x / 2 ^ i = x / 2 ^ i + 2 * (2 ^ (11 - i) * c) by omega, Nat.add_mul_mod_self_left]
variable {l : Launch} {D : va_G} {ad : Nat → Nat} {cI cII cP cZ : ClassId} {n am al ch : Nat} {fr to wt nb : Nat → Nat} {M : Nat → Nat → Nat} {tch : Int32} {cu : Nat → Nat} {rch : Int32} {pa br gp : Nat → Nat} {P : Nat → Int32 × Nat × (Nat → Nat) × (Nat → Nat)} {X : va_W}
set_option maxHeartbeats 4000000 in
set_option maxRecDepth 100000 in
theorem c_bitCount_val : ∀ s, s < 4096 → (let i1 : Int32 := nI s - ((((nI s).toUInt32 >>> ((1 : Int32).toUInt32 &&& Int32.toUInt32 31)).toInt32) &&& 1431655765); let i2 : Int32 := (i1 &&& 858993459) + (((i1.toUInt32 >>> ((2 : Int32).toUInt32 &&& Int32.toUInt32 31)).toInt32) &&& 858993459); let i3 : Int32 := (i2 + (i2.toUInt32 >>> ((4 : Int32).toUInt32 &&& Int32.toUInt32 31)).toInt32) &&& 252645135; let i4 : Int32 := i3 + (i3.toUInt32 >>> ((8 : Int32).toUInt32 &&& Int32.toUInt32 31)).toInt32; let i5 : Int32 := i4 + (i4.toUInt32 >>> ((16 : Int32).toUInt32 &&& Int32.toUInt32 31)).toInt32; i5 &&& 63) = nI (kP s) := by decide +kernel
set_option maxHeartbeats 4000000 in
set_option maxRecDepth 100000 in
theorem c_bitCount {ws : va_W} {tys : List (ClassId × FieldType)} {s : Nat} (hs : s < 4096) : xMet l yJI_bitCount wJI_bitCount (rD 0) D vwCl tys nwC [.int (nI s)] ws ws (some (.int (nI (kP s)))) := by
  refine xMet_of (cc := cJI_bitCount) (maxL := 1) (ret := (some .int)) (by decide +kernel) rfl (Nat.le_of_ble_eq_true rfl) xfi ?_
  intro E S hnm hret
  show xW E D vwCl 1 0 0 _ [(0, .int (nI s))] 0 []
  refine x_iload_n S dJI_bitCount_0 0 rfl rfl ?_
  refine x_iload_n S dJI_bitCount_1 0 rfl rfl ?_
  refine x_iconst (v := 1) S dJI_bitCount_2 rfl ?_
  refine x_iushr S dJI_bitCount_3 ?_
  refine x_ldcw S (gC _ tw418) dJI_bitCount_4 ?_
  refine x_iand S dJI_bitCount_7 ?_
  refine x_isub S dJI_bitCount_8 ?_
  refine x_istore_n (lv' := [(0, .int _)]) S dJI_bitCount_9 rfl (by decide) rfl ?_
  refine x_iload_n S dJI_bitCount_10 0 rfl rfl ?_
  refine x_ldcw S (gC _ tw419) dJI_bitCount_11 ?_
  refine x_iand S dJI_bitCount_14 ?_
  refine x_iload_n S dJI_bitCount_15 0 rfl rfl ?_
  refine x_iconst (v := 2) S dJI_bitCount_16 rfl ?_
  refine x_iushr S dJI_bitCount_17 ?_
  refine x_ldcw S (gC _ tw419) dJI_bitCount_18 ?_
  refine x_iand S dJI_bitCount_21 ?_
  refine x_iadd S dJI_bitCount_22 ?_
  refine x_istore_n (lv' := [(0, .int _)]) S dJI_bitCount_23 rfl (by decide) rfl ?_
  refine x_iload_n S dJI_bitCount_24 0 rfl rfl ?_
  refine x_iload_n S dJI_bitCount_25 0 rfl rfl ?_
  refine x_iconst (v := 4) S dJI_bitCount_26 rfl ?_
  refine x_iushr S dJI_bitCount_27 ?_
  refine x_iadd S dJI_bitCount_28 ?_
  refine x_ldcw S (gC _ tw420) dJI_bitCount_29 ?_
  refine x_iand S dJI_bitCount_32 ?_
  refine x_istore_n (lv' := [(0, .int _)]) S dJI_bitCount_33 rfl (by decide) rfl ?_
  refine x_iload_n S dJI_bitCount_34 0 rfl rfl ?_
  refine x_iload_n S dJI_bitCount_35 0 rfl rfl ?_
  refine x_bipush (v := 8) S dJI_bitCount_36 (by decide) ?_
  refine x_iushr S dJI_bitCount_38 ?_
  refine x_iadd S dJI_bitCount_39 ?_
  refine x_istore_n (lv' := [(0, .int _)]) S dJI_bitCount_40 rfl (by decide) rfl ?_
  refine x_iload_n S dJI_bitCount_41 0 rfl rfl ?_
  refine x_iload_n S dJI_bitCount_42 0 rfl rfl ?_
  refine x_bipush (v := 16) S dJI_bitCount_43 (by decide) ?_
  refine x_iushr S dJI_bitCount_45 ?_
  refine x_iadd S dJI_bitCount_46 ?_
  refine x_istore_n (lv' := [(0, .int _)]) S dJI_bitCount_47 rfl (by decide) rfl ?_
  refine x_iload_n S dJI_bitCount_48 0 rfl rfl ?_
  refine x_bipush (v := 63) S dJI_bitCount_49 (by decide) ?_
  refine x_iand S dJI_bitCount_51 ?_
  exact x_ret hret (c_bitCount_val s hs) dJI_bitCount_52
set_option maxHeartbeats 4000000 in
set_option maxRecDepth 100000 in
theorem c_nextWithin {ws : va_W} {tys : List (ClassId × FieldType)} {A s : Nat} (hA : A < 4096) (hs : s ≤ A) : xMet l yX5_nextWithin wX5_nextWithin (rD 0) D vwCl tys nwC [.int (nI A), .int (nI s)] ws ws (some (.int (nI ((s + 4096 - A) &&& A)))) := by
  refine xMet_of (cc := cX5_nextWithin) (maxL := 2) (ret := (some .int)) (by decide +kernel) rfl (Nat.le_of_ble_eq_true rfl) xfi ?_
  intro E S hnm hret
  show xW E D vwCl 2 0 0 _ [(0, .int (nI A)), (1, .int (nI s))] 0 []
  refine x_iload_n S dX5_nextWithin_0 1 rfl rfl ?_
  refine x_iload_n S dX5_nextWithin_1 0 rfl rfl ?_
  refine x_isub S dX5_nextWithin_2 ?_
  refine x_iload_n S dX5_nextWithin_3 0 rfl rfl ?_
  refine x_iand S dX5_nextWithin_4 ?_
  refine x_ret hret ?_ dX5_nextWithin_5
  have h1 : nI s - nI A = nI (s + 4294967296 - A) := by
    have h2 := nI_add (s + 4294967296 - A) A
    have h3 : nI (s + 4294967296 - A) = nI (s + 4294967296 - A) + nI A - nI A := by rw [Int32.add_sub_cancel]
    rw [h3, h2, show s + 4294967296 - A + A = s + 4294967296 by omega, ← nI_add, show nI 4294967296 = 0 from by decide, Int32.add_zero]
  rw [h1, pl_and]
  congr 1
  rw [show s + 4294967296 - A = 4096 * 1048575 + (s + 4096 - A) by omega]
  apply Nat.eq_of_testBit_eq
  intro i
  rw [Nat.testBit_and, Nat.testBit_and]
  rcases Nat.lt_or_ge i 12 with h | h
  · congr 1
    rw [show 4096 * 1048575 = 2 ^ 12 * 1048575 by omega, nx_low h]
  · rw [Nat.testBit_lt_two_pow (Nat.lt_of_lt_of_le hA (Nat.pow_le_pow_right (n := 2) (by omega) h)), Bool.and_false, Bool.and_false]
set_option maxHeartbeats 4000000 in
set_option maxRecDepth 100000 in
theorem c_hasArc {k : Int32} (ham : am ≤ 50) (hw : ∀ i, i < am → wt i ≤ 1000) : xMet l yX2_hasArc wX2_hasArc (rD 0) D vwCl (tyC cI cII cP cZ) nwC [.ref (ad 0), .int k] (cw ad cI cII cP n am al ch fr to wt nb M tch cu rch pa br gp P ++ X) (cw ad cI cII cP n am al ch fr to wt nb M tch cu rch pa br gp P ++ X) (some (.int (if 0 ≤ k ∧ k < nI am ∧ 0 < wt k.toNatClampNeg then 1 else 0))) := by
  refine xMet_of (cc := cX2_hasArc) (maxL := 2) (ret := (some .boolean)) (by decide +kernel) rfl (Nat.le_of_ble_eq_true rfl) xfz ?_
  intro E S hnm hret
  show xW E D vwCl 2 0 0 _ [(0, .ref (ad 0)), (1, .int k)] 0 []
  refine x_iload_n S dX2_hasArc_0 1 rfl rfl ?_
  refine x_if_lt (tgt := 25) S dX2_hasArc_1 (by decide) (fun h1 => ?_) (fun h1 => ?_)
  · refine x_iconst (v := 0) S dX2_hasArc_25 rfl ?_
    exact x_ret hret (if_neg (fun q => Int32.not_lt.mpr q.1 h1)).symm dX2_hasArc_26
  refine x_iload_n S dX2_hasArc_4 1 rfl rfl ?_
  refine x_aload_n S dX2_hasArc_5 0 rfl rfl ?_
  refine x_get S 0 6 rfl rfl inC2 (by decide) (gC _ tw42) rfl rfl dX2_hasArc_6 ?_
  refine x_icmp_ge (tgt := 25) S dX2_hasArc_9 (by decide) (fun h2 => ?_) (fun h2 => ?_)
  · refine x_iconst (v := 0) S dX2_hasArc_25 rfl ?_
    exact x_ret hret (if_neg (fun q => Int32.not_lt.mpr h2 q.2.1)).symm dX2_hasArc_26
  obtain ⟨j, hj, hkj⟩ := pl_of_lt (n := am) (by omega) (Int32.not_lt.mp h1) (Int32.not_le.mp h2)
  have hj2 : k.toNatClampNeg = j := by rw [hkj]; exact nI_clamp (by omega)
  have hwj := hw j hj
  refine x_aload_n S dX2_hasArc_12 0 rfl rfl ?_
  refine x_get S 0 2 rfl rfl inC2 (by decide) (gC _ tw30) rfl rfl dX2_hasArc_13 ?_
  refine x_iload_n S dX2_hasArc_16 1 rfl rfl ?_
  refine x_ialdN S 3 0 (j) rfl rfl hkj (by omega) (by decide) dX2_hasArc_17 ?_
  refine x_if_le (tgt := 25) S dX2_hasArc_18 (by decide) (fun h3 => ?_) (fun h3 => ?_)
  · refine x_iconst (v := 0) S dX2_hasArc_25 rfl ?_
    exact x_ret hret (if_neg (fun q => by rw [hj2] at q; exact nI_nle q.2.2 (by omega) h3)).symm dX2_hasArc_26
  refine x_iconst (v := 1) S dX2_hasArc_21 rfl ?_
  refine x_goto (tgt := 26) S dX2_hasArc_22 (by decide) ?_
  refine x_ret hret ?_ dX2_hasArc_26
  refine (if_pos ⟨Int32.not_lt.mp h1, Int32.not_le.mp h2, ?_⟩).symm
  rw [hj2]
  exact Nat.pos_of_ne_zero (fun q => h3 (by rw [q]; decide))
set_option maxHeartbeats 4000000 in
set_option maxRecDepth 100000 in
theorem c_hasSides (hn : n ≤ 12) : xMet l yX2_hasSides wX2_hasSides (rD 0) D vwCl (tyC cI cII cP cZ) nwC [.ref (ad 0)] (cw ad cI cII cP n am al ch fr to wt nb M tch cu rch pa br gp P ++ X) (cw ad cI cII cP n am al ch fr to wt nb M tch cu rch pa br gp P ++ X) (some (.int (if 1 < n then 1 else 0))) := by
  refine xMet_of (cc := cX2_hasSides) (maxL := 1) (ret := (some .boolean)) (by decide +kernel) rfl (Nat.le_of_ble_eq_true rfl) xfz ?_
  intro E S hnm hret
  show xW E D vwCl 1 0 0 _ [(0, .ref (ad 0))] 0 []
  refine x_aload_n S dX2_hasSides_0 0 rfl rfl ?_
  refine x_get S 0 5 rfl rfl inC2 (by decide) (gC _ tw36) rfl rfl dX2_hasSides_1 ?_
  refine x_iconst (v := 1) S dX2_hasSides_4 rfl ?_
  refine x_icmp_le (tgt := 12) S dX2_hasSides_5 (by decide) (fun h1 => ?_) (fun h1 => ?_)
  · refine x_iconst (v := 0) S dX2_hasSides_12 rfl ?_
    exact x_ret hret (if_neg (fun q => nI_ge q (by omega) h1)).symm dX2_hasSides_13
  refine x_iconst (v := 1) S dX2_hasSides_8 rfl ?_
  refine x_goto (tgt := 13) S dX2_hasSides_9 (by decide) ?_
  exact x_ret hret (if_pos (Nat.lt_of_not_le (fun q => h1 (nI_le q (by decide))))).symm dX2_hasSides_13
set_option maxHeartbeats 4000000 in
set_option maxRecDepth 100000 in
theorem c_areJoined {a b : Nat} (ha : a < 12) (hb : b < 12) (hM : M a b < 2 ^ 31) : xMet l yX2_areJoined wX2_areJoined (rD 0) D vwCl (tyC cI cII cP cZ) nwC [.ref (ad 0), .int (nI a), .int (nI b)] (cw ad cI cII cP n am al ch fr to wt nb M tch cu rch pa br gp P ++ X) (cw ad cI cII cP n am al ch fr to wt nb M tch cu rch pa br gp P ++ X) (some (.int (if 0 < M a b then 1 else 0))) := by
  refine xMet_of (cc := cX2_areJoined) (maxL := 3) (ret := (some .boolean)) (by decide +kernel) rfl (Nat.le_of_ble_eq_true rfl) xfz ?_
  intro E S hnm hret
  show xW E D vwCl 3 0 0 _ [(0, .ref (ad 0)), (1, .int (nI a)), (2, .int (nI b))] 0 []
  refine x_aload_n S dX2_areJoined_0 0 rfl rfl ?_
  refine x_get S 0 3 rfl rfl inC2 (by decide) (gC _ tw32) rfl rfl dX2_areJoined_1 ?_
  refine x_iload_n S dX2_areJoined_4 1 rfl rfl ?_
  refine x_aald S 4 1 (a) rfl rfl rfl rfl ha (by decide) rfl dX2_areJoined_5 ?_
  refine x_iload_n S dX2_areJoined_6 2 rfl rfl ?_
  refine x_ialdN S (6 + a) 0 (b) (cw_row ha) rfl rfl (by omega) (by decide) dX2_areJoined_7 ?_
  refine x_if_le (tgt := 15) S dX2_areJoined_8 (by decide) (fun h3 => ?_) (fun h3 => ?_)
  · refine x_iconst (v := 0) S dX2_areJoined_15 rfl ?_
    exact x_ret hret (if_neg (fun q => nI_nle q hM h3)).symm dX2_areJoined_16
  refine x_iconst (v := 1) S dX2_areJoined_11 rfl ?_
  refine x_goto (tgt := 16) S dX2_areJoined_12 (by decide) ?_
  exact x_ret hret (if_pos (Nat.pos_of_ne_zero (fun q => h3 (by rw [q]; decide)))).symm dX2_areJoined_16
set_option maxHeartbeats 4000000 in
set_option maxRecDepth 100000 in
theorem c_weightAt {v : Nat} (hn : n ≤ 12) (hv : v < 12) : xMet l yX2_weightAt wX2_weightAt (rD 0) D vwCl (tyC cI cII cP cZ) nwC [.ref (ad 0), .int (nI v)] (cw ad cI cII cP n am al ch fr to wt nb M tch cu rch pa br gp P ++ X) (cw ad cI cII cP n am al ch fr to wt nb M tch cu rch pa br gp P ++ X) (some (.int (nI (sm (fun u => M v u) n)))) := by
  refine xMet_of (cc := cX2_weightAt) (maxL := 4) (ret := (some .int)) (by decide +kernel) rfl (Nat.le_of_ble_eq_true rfl) xfi ?_
  intro E S hnm hret
  show xW E D vwCl 4 0 0 _ [(0, .ref (ad 0)), (1, .int (nI v))] 0 []
  have L : ∀ k, k ≤ n → xW E D vwCl 4 0 0 (cw ad cI cII cP n am al ch fr to wt nb M tch cu rch pa br gp P ++ X) [(0, .ref (ad 0)), (1, .int (nI v)), (2, .int (nI (sm (fun u => M v u) k))), (3, .int (nI k))] 4 [] := by
    refine pl_up n (fun k hk ih => ?_)
    refine x_iload_n S dX2_weightAt_4 3 rfl rfl ?_
    refine x_aload_n S dX2_weightAt_5 0 rfl rfl ?_
    refine x_get S 0 5 rfl rfl inC2 (by decide) (gC _ tw36) rfl rfl dX2_weightAt_6 ?_
    refine x_icmp_ge (tgt := 29) S dX2_weightAt_9 (by decide) (fun h1 => ?_) (fun h1 => ?_)
    · refine x_iload_n S dX2_weightAt_29 2 rfl rfl ?_
      have hk2 : k = n := Nat.le_antisymm hk ((nI_leI (by omega) (by omega)).mp h1)
      subst hk2
      exact x_ret hret rfl dX2_weightAt_30
    have hk2 : k < n := Nat.lt_of_not_le (fun q => h1 (nI_le q (by omega)))
    refine x_iload_n S dX2_weightAt_12 2 rfl rfl ?_
    refine x_aload_n S dX2_weightAt_13 0 rfl rfl ?_
    refine x_get S 0 3 rfl rfl inC2 (by decide) (gC _ tw32) rfl rfl dX2_weightAt_14 ?_
    refine x_iload_n S dX2_weightAt_17 1 rfl rfl ?_
    refine x_aald S 4 1 (v) rfl rfl rfl rfl hv (by decide) rfl dX2_weightAt_18 ?_
    refine x_iload_n S dX2_weightAt_19 3 rfl rfl ?_
    refine x_ialdN S (6 + v) 0 (k) (cw_row hv) rfl rfl (by omega) (by decide) dX2_weightAt_20 ?_
    refine x_iadd S dX2_weightAt_21 ?_
    refine x_top (nI (sm (fun u => M v u) (k + 1))) (nI_add _ _) ?_
    refine x_istore_n (lv' := [(2, .int _), (0, .ref _), (1, .int _), (3, .int _)]) S dX2_weightAt_22 rfl (by decide) rfl ?_
    refine x_iincN (lv' := [(3, .int _), (2, .int _), (0, .ref _), (1, .int _)]) S dX2_weightAt_23 3 rfl (by decide) rfl ?_
    refine x_goto (tgt := 4) S dX2_weightAt_26 (by decide) ?_
    exact x_sub [2, 3, 1, 0] rfl (ih hk2)
  refine x_iconst (v := 0) S dX2_weightAt_0 rfl ?_
  refine x_istore_n (lv' := [(2, .int _), (0, .ref _), (1, .int _)]) S dX2_weightAt_1 rfl (by decide) rfl ?_
  refine x_iconst (v := 0) S dX2_weightAt_2 rfl ?_
  refine x_istore_n (lv' := [(3, .int _), (2, .int _), (0, .ref _), (1, .int _)]) S dX2_weightAt_3 rfl (by decide) rfl ?_
  exact x_sub [2, 3, 1, 0] rfl (L 0 (Nat.zero_le _))
set_option maxHeartbeats 4000000 in
set_option maxRecDepth 100000 in
theorem c_spread {s : Nat} (hn : n ≤ 12) (hs : s < 4096) (hp : kP s ≤ n) : xMet l yX2_spread wX2_spread (rD 1) D vwCl (tyC cI cII cP cZ) nwC [.ref (ad 0), .int (nI s)] (cw ad cI cII cP n am al ch fr to wt nb M tch cu rch pa br gp P ++ X) (cw ad cI cII cP n am al ch fr to wt nb M tch cu rch pa br gp P ++ X) (some (.int (nI (kP s * (n - kP s))))) := by
  refine xMet_of (cc := cX2_spread) (maxL := 3) (ret := (some .int)) (by decide +kernel) rfl (Nat.le_of_ble_eq_true rfl) xfi ?_
  intro E S hnm hret
  show xW E D vwCl 3 0 0 _ [(0, .ref (ad 0)), (1, .int (nI s))] 0 []
  refine x_iload_n S dX2_spread_0 1 rfl rfl ?_
  refine x_cJi (n := 1) S (c_bitCount hs) (gG gC tw417) rfl (gC _ tw415) (gC _ tw9) (gC _ tw416) (by decide +kernel) rfl rfl (Nat.le_of_ble_eq_true rfl) dX2_spread_1 ⟨by decide, by decide⟩ ⟨Nat.le_of_ble_eq_true rfl, Nat.le_of_ble_eq_true rfl⟩ ?_
  refine x_istore_n (lv' := [(2, .int _), (0, .ref _), (1, .int _)]) S dX2_spread_4 rfl (by decide) rfl ?_
  refine x_iload_n S dX2_spread_5 0 rfl rfl ?_
  refine x_aload_n S dX2_spread_6 1 rfl rfl ?_
  refine x_get S 0 5 rfl rfl inC2 (by decide) (gC _ tw36) rfl rfl dX2_spread_7 ?_
  refine x_iload_n S dX2_spread_10 0 rfl rfl ?_
  refine x_isub S dX2_spread_11 ?_
  refine x_imul S dX2_spread_12 ?_
  exact x_ret hret (by rw [pk_sub hp, pk_mul]) dX2_spread_13
set_option maxHeartbeats 4000000 in
set_option maxRecDepth 100000 in
theorem c_reachedFrom {v o : Nat} (hn : n ≤ 12) (hv : v < 12) (ho : o < 4096) : xMet l yX2_reachedFrom wX2_reachedFrom (rD 0) D vwCl (tyC cI cII cP cZ) nwC [.ref (ad 0), .int (nI v), .int (nI o)] (cw ad cI cII cP n am al ch fr to wt nb M tch cu rch pa br gp P ++ X) (cw ad cI cII cP n am al ch fr to wt nb M tch cu rch pa br gp P ++ X) (some (.int (nI (kR nb o n n (2 ^ v))))) := by
  refine xMet_of (cc := cX2_reachedFrom) (maxL := 7) (ret := (some .int)) (by decide +kernel) rfl (Nat.le_of_ble_eq_true rfl) xfi ?_
  intro E S hnm hret
  show xW E D vwCl 7 0 0 _ [(0, .ref (ad 0)), (1, .int (nI v)), (2, .int (nI o))] 0 []
  have F : ∀ (lv : List (Nat × Value)) (r : Nat), r = kR nb o n n (2 ^ v) → xW E D vwCl 7 0 0 (cw ad cI cII cP n am al ch fr to wt nb M tch cu rch pa br gp P ++ X) ((3, .int (nI r)) :: lv) 79 [] := by
    intro lv r hr
    refine x_iload_n S dX2_reachedFrom_79 0 rfl rfl ?_
    exact x_ret hret (by rw [hr]) dX2_reachedFrom_80
  have L : ∀ j, j ≤ n → ∀ r, r < 4096 → kR nb o n (n - j) r = kR nb o n n (2 ^ v) → xW E D vwCl 7 0 0 (cw ad cI cII cP n am al ch fr to wt nb M tch cu rch pa br gp P ++ X) [(0, .ref (ad 0)), (1, .int (nI v)), (2, .int (nI o)), (3, .int (nI r)), (4, .int (nI j))] 7 [] := by
    refine pl_up n (fun j hj ih => ?_)
    intro r hr4 hr
    refine x_iload S dX2_reachedFrom_7 4 rfl ?_
    refine x_aload_n S dX2_reachedFrom_9 0 rfl rfl ?_
    refine x_get S 0 5 rfl rfl inC2 (by decide) (gC _ tw36) rfl rfl dX2_reachedFrom_10 ?_
    refine x_icmp_ge (tgt := 79) S dX2_reachedFrom_13 (by decide) (fun h1 => ?_) (fun h1 => ?_)
    · have hk2 : j = n := Nat.le_antisymm hj ((nI_leI (by omega) (by omega)).mp h1)
      subst hk2
      rw [Nat.sub_self] at hr
      exact x_sub [3] rfl (F [] r hr)
    have hk2 : j < n := Nat.lt_of_not_le (fun q => h1 (nI_le q (by omega)))
    have L2 : ∀ k, k ≤ n → xW E D vwCl 7 0 0 (cw ad cI cII cP n am al ch fr to wt nb M tch cu rch pa br gp P ++ X) [(0, .ref (ad 0)), (1, .int (nI v)), (2, .int (nI o)), (3, .int (nI r)), (4, .int (nI j)), (5, .int (nI (kR1 nb o r k))), (6, .int (nI k))] 22 [] := by
      refine pl_up n (fun k hk ih2 => ?_)
      refine x_iload S dX2_reachedFrom_22 6 rfl ?_
      refine x_aload_n S dX2_reachedFrom_24 0 rfl rfl ?_
      refine x_get S 0 5 rfl rfl inC2 (by decide) (gC _ tw36) rfl rfl dX2_reachedFrom_25 ?_
      refine x_icmp_ge (tgt := 61) S dX2_reachedFrom_28 (by decide) (fun h2 => ?_) (fun h2 => ?_)
      · have hk3 : k = n := Nat.le_antisymm hk ((nI_leI (by omega) (by omega)).mp h2)
        subst hk3
        have hlt := kR1_lt (nb := nb) hr4 ho k
        refine x_iload S dX2_reachedFrom_61 5 rfl ?_
        refine x_iload_n S dX2_reachedFrom_63 3 rfl rfl ?_
        refine x_icmp_ne (tgt := 70) S dX2_reachedFrom_64 (by decide) (fun h3 => ?_) (fun h3 => ?_)
        rotate_left
        · refine x_goto (tgt := 79) S dX2_reachedFrom_67 (by decide) ?_
          exact x_sub [3] rfl (F [] r (by rw [← hr, show k - j = (k - j - 1) + 1 by omega]; simp only [kR]; rw [if_pos (pl_inj (by omega) (by omega) h3)]))
        refine x_iload S dX2_reachedFrom_70 5 rfl ?_
        refine x_istore_n (lv' := [(3, .int _), (0, .ref _), (1, .int _), (2, .int _), (4, .int _), (5, .int _), (6, .int _)]) S dX2_reachedFrom_72 rfl (by decide) rfl ?_
        refine x_iincN (lv' := [(4, .int _), (3, .int _), (0, .ref _), (1, .int _), (2, .int _), (5, .int _), (6, .int _)]) S dX2_reachedFrom_73 4 rfl (by decide) rfl ?_
        refine x_goto (tgt := 7) S dX2_reachedFrom_76 (by decide) ?_
        exact x_sub [2, 3, 4, 1, 0] rfl (ih hk2 _ hlt (by rw [← hr, show k - j = (k - (j + 1)) + 1 by omega]; simp only [kR]; rw [if_neg (fun q => h3 (by rw [q]))]))
      have hk3 : k < n := Nat.lt_of_not_le (fun q => h2 (nI_le q (by omega)))
      refine x_iload_n S dX2_reachedFrom_31 3 rfl rfl ?_
      refine x_iload S dX2_reachedFrom_32 6 rfl ?_
      refine x_ishr S dX2_reachedFrom_34 ?_
      refine x_iconst (v := 1) S dX2_reachedFrom_35 rfl ?_
      refine x_iand S dX2_reachedFrom_36 ?_
      refine x_iconst (v := 1) S dX2_reachedFrom_37 rfl ?_
      refine x_icmp_ne (tgt := 55) S dX2_reachedFrom_38 (by decide) (fun h3 => ?_) (fun h3 => ?_)
      · refine x_iincN (lv' := [(6, .int _), (0, .ref _), (1, .int _), (2, .int _), (3, .int _), (4, .int _), (5, .int _)]) S dX2_reachedFrom_55 6 rfl (by decide) rfl ?_
        refine x_goto (tgt := 22) S dX2_reachedFrom_58 (by decide) ?_
        have e : kR1 nb o r (k + 1) = kR1 nb o r k := by
          simp only [kR1]
          rw [if_neg (fun q => h3 ((pl_bit1 (by omega) (by omega)).mpr q))]
        rw [← e]
        exact x_sub [1, 2, 3, 4, 5, 6, 0] rfl (ih2 hk3)
      refine x_iload S dX2_reachedFrom_41 5 rfl ?_
      refine x_aload_n S dX2_reachedFrom_43 0 rfl rfl ?_
      refine x_get S 0 4 rfl rfl inC2 (by decide) (gC _ tw35) rfl rfl dX2_reachedFrom_44 ?_
      refine x_iload S dX2_reachedFrom_47 6 rfl ?_
      refine x_ialdN S 5 0 (k) rfl rfl rfl (by omega) (by decide) dX2_reachedFrom_49 ?_
      refine x_iload_n S dX2_reachedFrom_50 2 rfl rfl ?_
      refine x_iand S dX2_reachedFrom_51 ?_
      refine x_ior S dX2_reachedFrom_52 ?_
      refine x_top (nI (kR1 nb o r (k + 1))) ?_ ?_
      · rw [pl_and, pl_or]
        simp only [kR1]
        rw [if_pos ((pl_bit1 (by omega) (by omega)).mp h3)]
      refine x_istore (lv' := [(5, .int _), (0, .ref _), (1, .int _), (2, .int _), (3, .int _), (4, .int _), (6, .int _)]) S dX2_reachedFrom_53 (by decide) rfl ?_
      refine x_iincN (lv' := [(6, .int _), (5, .int _), (0, .ref _), (1, .int _), (2, .int _), (3, .int _), (4, .int _)]) S dX2_reachedFrom_55 6 rfl (by decide) rfl ?_
      refine x_goto (tgt := 22) S dX2_reachedFrom_58 (by decide) ?_
      exact x_sub [2, 3, 4, 5, 6, 1, 0] rfl (ih2 hk3)
    refine x_sub [0, 1, 2, 3, 4] rfl ?_
    refine x_iload_n S dX2_reachedFrom_16 3 rfl rfl ?_
    refine x_istore (lv' := [(5, .int _), (0, .ref _), (1, .int _), (2, .int _), (3, .int _), (4, .int _)]) S dX2_reachedFrom_17 (by decide) rfl ?_
    refine x_iconst (v := 0) S dX2_reachedFrom_19 rfl ?_
    refine x_istore (lv' := [(6, .int _), (5, .int _), (0, .ref _), (1, .int _), (2, .int _), (3, .int _), (4, .int _)]) S dX2_reachedFrom_20 (by decide) rfl ?_
    exact x_sub [2, 3, 4, 5, 6, 1, 0] rfl (L2 0 (Nat.zero_le _))
  refine x_iconst (v := 1) S dX2_reachedFrom_0 rfl ?_
  refine x_iload_n S dX2_reachedFrom_1 1 rfl rfl ?_
  refine x_ishl S dX2_reachedFrom_2 ?_
  refine x_top (nI (2 ^ v)) (pl_one (by omega)) ?_
  refine x_istore_n (lv' := [(3, .int _), (0, .ref _), (1, .int _), (2, .int _)]) S dX2_reachedFrom_3 rfl (by decide) rfl ?_
  refine x_iconst (v := 0) S dX2_reachedFrom_4 rfl ?_
  refine x_istore (lv' := [(4, .int _), (3, .int _), (0, .ref _), (1, .int _), (2, .int _)]) S dX2_reachedFrom_5 (by decide) rfl ?_
  exact x_sub [2, 3, 4, 1, 0] rfl (L 0 (Nat.zero_le _) (2 ^ v) (pl_pow (n := 12) (by omega)) rfl)
end GR2
end
section
/-! Graph: contracts, 3 -/
section GR3
theorem nwm_CutTrees_9 : (RX5, 9, yX2_init, RX5) ∈ nwC := List.mem_cons_self
theorem nwm_CutTrees_CutTable_54 : (RX0, 54, yX5_nextWithin, RX5) ∈ nwC := List.mem_cons_of_mem _ List.mem_cons_self
theorem nwm_CutTrees_Graph_68 : (RX2, 68, yX5_nextWithin, RX5) ∈ nwC := List.mem_cons_of_mem _ (List.mem_cons_of_mem _ List.mem_cons_self)
theorem nI_subw {m w x : Nat} (h : m + w = x) : nI x + -nI w = nI m := by
  rw [← h, ← nI_add, ← Int32.sub_eq_add_neg, Int32.add_sub_cancel]
def zN (f : Nat → Nat) (k : Nat) : Nat → Nat := fun i => if i < k then 0 else f i
theorem zN_0 (f : Nat → Nat) : zN f 0 = f := by funext i; simp [zN]
theorem zN_s (f : Nat → Nat) (k : Nat) : va_up (zN f k) k 0 = zN f (k + 1) := by
  funext i
  by_cases h : i = k
  · subst h; simp [zN, va_up]
  · by_cases h2 : i < k
    · simp [zN, va_up, h, h2, Nat.lt_succ_of_lt h2]
    · simp [zN, va_up, h, h2, show ¬ i < k + 1 by omega]
def zR (M : Nat → Nat → Nat) (k : Nat) : Nat → Nat → Nat := fun i => if i < k then zN (M i) 12 else M i
theorem zR_0 (M : Nat → Nat → Nat) : zR M 0 = M := by funext i; simp [zR]
theorem zR_a (M : Nat → Nat → Nat) (k : Nat) : va_up (zR M k) k (zN (M k) 0) = zR M k := by
  funext i
  by_cases h : i = k
  · subst h; simp [zR, va_up, zN_0]
  · simp [va_up, h]
theorem zR_s (M : Nat → Nat → Nat) (k : Nat) : va_up (zR M k) k (zN (M k) 12) = zR M (k + 1) := by
  funext i
  by_cases h : i = k
  · subst h; simp [zR, va_up]
  · by_cases h2 : i < k
    · simp [zR, va_up, h, h2, Nat.lt_succ_of_lt h2]
    · simp [zR, va_up, h, h2, show ¬ i < k + 1 by omega]
theorem upup {α : Type} (f : Nat → α) (k : Nat) (v w : α) : va_up (va_up f k v) k w = va_up f k w := bx_uu f k v w
variable {l : Launch} {D : va_G} {ad : Nat → Nat} {cI cII cP cZ : ClassId} {n am al ch : Nat} {fr to wt nb : Nat → Nat} {M : Nat → Nat → Nat} {tch : Int32} {cu : Nat → Nat} {rch : Int32} {pa br gp : Nat → Nat} {P : Nat → Int32 × Nat × (Nat → Nat) × (Nat → Nat)} {X : va_W}
set_option maxHeartbeats 4000000 in
set_option maxRecDepth 100000 in
theorem c_countConnected {o : Nat} (hn : n ≤ 12) (ho : o < 4096) : xMet l yX2_countConnected wX2_countConnected (rD 1) D vwCl (tyC cI cII cP cZ) nwC [.ref (ad 0), .int (nI o)] (cw ad cI cII cP n am al ch fr to wt nb M tch cu rch pa br gp P ++ X) (cw ad cI cII cP n am al ch fr to wt nb M tch cu rch pa br gp P ++ X) (some (.int (nI (kCC nb o n n).2))) := by
  refine xMet_of (cc := cX2_countConnected) (maxL := 5) (ret := (some .int)) (by decide +kernel) rfl (Nat.le_of_ble_eq_true rfl) xfi ?_
  intro E S hnm hret
  show xW E D vwCl 5 0 0 _ [(0, .ref (ad 0)), (1, .int (nI o))] 0 []
  have L : ∀ k, k ≤ n → xW E D vwCl 5 0 0 (cw ad cI cII cP n am al ch fr to wt nb M tch cu rch pa br gp P ++ X) [(0, .ref (ad 0)), (1, .int (nI o)), (2, .int (nI (kCC nb o n k).2)), (3, .int (nI (kCC nb o n k).1)), (4, .int (nI k))] 7 [] := by
    refine pl_up n (fun k hk ih => ?_)
    refine x_iload S dX2_countConnected_7 4 rfl ?_
    refine x_aload_n S dX2_countConnected_9 0 rfl rfl ?_
    refine x_get S 0 5 rfl rfl inC2 (by decide) (gC _ tw36) rfl rfl dX2_countConnected_10 ?_
    refine x_icmp_ge (tgt := 47) S dX2_countConnected_13 (by decide) (fun h1 => ?_) (fun h1 => ?_)
    · refine x_iload_n S dX2_countConnected_47 2 rfl rfl ?_
      have hk2 : k = n := Nat.le_antisymm hk ((nI_leI (by omega) (by omega)).mp h1)
      subst hk2
      exact x_ret hret rfl dX2_countConnected_48
    have hk2 : k < n := Nat.lt_of_not_le (fun q => h1 (nI_le q (by omega)))
    have hlt := kCC_lt (nb := nb) (n := n) ho k
    refine x_iload_n S dX2_countConnected_16 3 rfl rfl ?_
    refine x_iload S dX2_countConnected_17 4 rfl ?_
    refine x_ishr S dX2_countConnected_19 ?_
    refine x_iconst (v := 1) S dX2_countConnected_20 rfl ?_
    refine x_iand S dX2_countConnected_21 ?_
    refine x_iconst (v := 1) S dX2_countConnected_22 rfl ?_
    refine x_icmp_ne (tgt := 41) S dX2_countConnected_23 (by decide) (fun h3 => ?_) (fun h3 => ?_)
    · refine x_iincN (lv' := [(4, .int _), (0, .ref _), (1, .int _), (2, .int _), (3, .int _)]) S dX2_countConnected_41 4 rfl (by decide) rfl ?_
      refine x_goto (tgt := 7) S dX2_countConnected_44 (by decide) ?_
      have e : kCC nb o n (k + 1) = kCC nb o n k := by
        simp only [kCC]
        rw [if_neg (fun q => h3 ((pl_bit1 (by omega) (by omega)).mpr q))]
      rw [← e]
      exact x_sub [1, 2, 3, 4, 0] rfl (ih hk2)
    have e : kCC nb o n (k + 1) = (pl_di (kCC nb o n k).1 (kR nb o n n (2 ^ k)), (kCC nb o n k).2 + 1) := by
      simp only [kCC]
      rw [if_pos ((pl_bit1 (by omega) (by omega)).mp h3)]
    rw [e] at ih
    refine x_iload_n S dX2_countConnected_26 3 rfl rfl ?_
    refine x_aload_n S dX2_countConnected_27 0 rfl rfl ?_
    refine x_iload S dX2_countConnected_28 4 rfl ?_
    refine x_iload_n S dX2_countConnected_30 1 rfl rfl ?_
    refine x_cVi (n := 2) S (c_reachedFrom hn (by omega) ho) (gGV gC tw446 tw443 tw445 ts13 tw2) rfl (by decide +kernel) 0 rfl rfl rfl rfl (Nat.le_of_ble_eq_true rfl) dX2_countConnected_31 ⟨by decide, by decide⟩ ⟨Nat.le_of_ble_eq_true rfl, Nat.le_of_ble_eq_true rfl⟩ ?_
    refine x_iconst (v := -1) S dX2_countConnected_34 rfl ?_
    refine x_ixor S dX2_countConnected_35 ?_
    refine x_iand S dX2_countConnected_36 ?_
    refine x_top (nI (pl_di (kCC nb o n k).1 (kR nb o n n (2 ^ k)))) (pl_di_I _ _) ?_
    refine x_istore_n (lv' := [(3, .int _), (0, .ref _), (1, .int _), (2, .int _), (4, .int _)]) S dX2_countConnected_37 rfl (by decide) rfl ?_
    refine x_iincN (lv' := [(2, .int _), (3, .int _), (0, .ref _), (1, .int _), (4, .int _)]) S dX2_countConnected_38 3 rfl (by decide) rfl ?_
    refine x_iincN (lv' := [(4, .int _), (2, .int _), (3, .int _), (0, .ref _), (1, .int _)]) S dX2_countConnected_41 4 rfl (by decide) rfl ?_
    refine x_goto (tgt := 7) S dX2_countConnected_44 (by decide) ?_
    exact x_sub [3, 4, 1, 2, 0] rfl (ih hk2)
  refine x_iconst (v := 0) S dX2_countConnected_0 rfl ?_
  refine x_istore_n (lv' := [(2, .int _), (0, .ref _), (1, .int _)]) S dX2_countConnected_1 rfl (by decide) rfl ?_
  refine x_iload_n S dX2_countConnected_2 2 rfl rfl ?_
  refine x_istore_n (lv' := [(3, .int _), (2, .int _), (0, .ref _), (1, .int _)]) S dX2_countConnected_3 rfl (by decide) rfl ?_
  refine x_iconst (v := 0) S dX2_countConnected_4 rfl ?_
  refine x_istore (lv' := [(4, .int _), (3, .int _), (2, .int _), (0, .ref _), (1, .int _)]) S dX2_countConnected_5 (by decide) rfl ?_
  exact x_sub [3, 4, 2, 1, 0] rfl (L 0 (Nat.zero_le _))
set_option maxHeartbeats 4000000 in
set_option maxRecDepth 100000 in
theorem c_fewestBars {a b : Nat} (hn : n ≤ 12) (ha : a < n) (hb : b < n) (hab : a ≠ b) : xMet l yX2_fewestBars wX2_fewestBars (rD 1) D vwCl (tyC cI cII cP cZ) nwC [.ref (ad 0), .int (nI a), .int (nI b)] (cw ad cI cII cP n am al ch fr to wt nb M tch cu rch pa br gp P ++ X) (cw ad cI cII cP n am al ch fr to wt nb M tch cu rch pa br gp P ++ X) (some (.int (nI (kFB nb n a b (2 ^ (n - 2)))))) := by
  refine xMet_of (cc := cX2_fewestBars) (maxL := 10) (ret := (some .int)) (by decide +kernel) rfl (Nat.le_of_ble_eq_true rfl) xfi ?_
  intro E S hnm hret
  show xW E D vwCl 10 0 0 _ [(0, .ref (ad 0)), (1, .int (nI a)), (2, .int (nI b))] 0 []
  have hO := kO_lt (a := a) (b := b) hn
  have hpop := kO_pop n (by omega) a ha b hb hab
  have hpw : 2 ^ (n - 2) ≤ 4096 := pl_pow12 (by omega)
  have hall : 2 ^ n - 1 < 4096 := by have := pl_pow12 hn; have := Nat.two_pow_pos n; omega
  have L : ∀ k, k ≤ 2 ^ (n - 2) → ∀ s : Int32, (k < 2 ^ (n - 2) → s = nI (pn_dep 12 (kO n a b) k)) → ∀ x9 : Int32, xW E D vwCl 10 0 0 (cw ad cI cII cP n am al ch fr to wt nb M tch cu rch pa br gp P ++ X) [(0, .ref (ad 0)), (1, .int (nI a)), (2, .int (nI b)), (3, .int (nI (2 ^ n - 1))), (4, .int (nI (kO n a b))), (5, .int (nI (kFB nb n a b k))), (6, .int (nI (2 ^ (n - 2)))), (7, .int s), (8, .int (nI k))] 40 [] := by
    refine pl_up (2 ^ (n - 2)) (fun k hk ih => ?_)
    intro s hs x9
    refine x_iload S dX2_fewestBars_40 8 rfl ?_
    refine x_iload S dX2_fewestBars_42 6 rfl ?_
    refine x_icmp_ge (tgt := 109) S dX2_fewestBars_44 (by decide) (fun h1 => ?_) (fun h1 => ?_)
    · refine x_iload S dX2_fewestBars_109 5 rfl ?_
      have hk2 : k = 2 ^ (n - 2) := Nat.le_antisymm hk ((nI_leI (by omega) (by omega)).mp h1)
      exact x_ret hret (by rw [hk2]) dX2_fewestBars_111
    have hk2 : k < 2 ^ (n - 2) := Nat.lt_of_not_le (fun q => h1 (nI_le q (by omega)))
    obtain rfl := hs hk2
    have hd := pn_dep_le (w := 12) (i := k) hO
    have hF := kFB_lt (nb := nb) (a := a) (b := b) hn k
    have T : ∀ (z : Int32), xW E D vwCl 10 0 0 (cw ad cI cII cP n am al ch fr to wt nb M tch cu rch pa br gp P ++ X) [(0, .ref (ad 0)), (1, .int (nI a)), (2, .int (nI b)), (3, .int (nI (2 ^ n - 1))), (4, .int (nI (kO n a b))), (5, .int (nI (kFB nb n a b (k + 1)))), (6, .int (nI (2 ^ (n - 2)))), (7, .int (nI (pn_dep 12 (kO n a b) k))), (8, .int (nI k)), (9, .int z)] 94 [] := by
      intro z
      refine x_iload S dX2_fewestBars_94 4 rfl ?_
      refine x_iload S dX2_fewestBars_96 7 rfl ?_
      refine x_cNi (n := 2) S (c_nextWithin hO hd) (gG gC tw270) rfl nwm_CutTrees_Graph_68 (gC _ tw1) (gC _ tw269) (by decide +kernel) rfl rfl (Nat.le_of_ble_eq_true rfl) dX2_fewestBars_98 ⟨by decide, by decide⟩ ⟨Nat.le_of_ble_eq_true rfl, Nat.le_of_ble_eq_true rfl⟩ ?_
      refine x_istore (lv' := [(7, .int _), (0, .ref _), (1, .int _), (2, .int _), (3, .int _), (4, .int _), (5, .int _), (6, .int _), (8, .int _), (9, .int _)]) S dX2_fewestBars_101 (by decide) rfl ?_
      refine x_iincN (lv' := [(8, .int _), (7, .int _), (0, .ref _), (1, .int _), (2, .int _), (3, .int _), (4, .int _), (5, .int _), (6, .int _), (9, .int _)]) S dX2_fewestBars_103 8 rfl (by decide) rfl ?_
      refine x_goto (tgt := 40) S dX2_fewestBars_106 (by decide) ?_
      exact x_sub [2, 3, 4, 5, 6, 7, 8, 1, 0] rfl (ih hk2 _ (fun hk3 => by rw [← pn_next 12 (kO n a b) k hO (by rw [hpop]; exact hk3)]) 0)
    refine x_iload S dX2_fewestBars_47 7 rfl ?_
    refine x_cJi (n := 1) S (c_bitCount (by omega)) (gG gC tw417) rfl (gC _ tw415) (gC _ tw9) (gC _ tw416) (by decide +kernel) rfl rfl (Nat.le_of_ble_eq_true rfl) dX2_fewestBars_49 ⟨by decide, by decide⟩ ⟨Nat.le_of_ble_eq_true rfl, Nat.le_of_ble_eq_true rfl⟩ ?_
    refine x_iload S dX2_fewestBars_52 5 rfl ?_
    refine x_cJi (n := 1) S (c_bitCount hF) (gG gC tw417) rfl (gC _ tw415) (gC _ tw9) (gC _ tw416) (by decide +kernel) rfl rfl (Nat.le_of_ble_eq_true rfl) dX2_fewestBars_54 ⟨by decide, by decide⟩ ⟨Nat.le_of_ble_eq_true rfl, Nat.le_of_ble_eq_true rfl⟩ ?_
    have hp1 : kP (pn_dep 12 (kO n a b) k) ≤ 12 := pop_le 12 _
    have hp2 : kP (kFB nb n a b k) ≤ 12 := pop_le 12 _
    refine x_icmp_ge (tgt := 64) S dX2_fewestBars_57 (by decide) (fun h2 => ?_) (fun h2 => ?_)
    · refine x_iconst (v := 0) S dX2_fewestBars_64 rfl ?_
      refine x_istore (lv' := [(9, .int _), (0, .ref _), (1, .int _), (2, .int _), (3, .int _), (4, .int _), (5, .int _), (6, .int _), (7, .int _), (8, .int _)]) S dX2_fewestBars_65 (by decide) rfl ?_
      refine x_iload S dX2_fewestBars_67 0 rfl ?_
      refine x_if_eq (tgt := 94) S dX2_fewestBars_69 (by decide) (fun h3 => ?_) (fun h3 => ?_)
      · have e : kFB nb n a b (k + 1) = kFB nb n a b k := by
          simp only [kFB]
          rw [if_neg (fun q => nI_ge q.1 (by omega) h2)]
        rw [e] at T
        exact x_sub [1, 2, 3, 4, 5, 6, 7, 8, 9, 0] rfl (T 0)
      exact absurd rfl h3
    have h2' : kP (pn_dep 12 (kO n a b) k) < kP (kFB nb n a b k) := Nat.lt_of_not_le (fun q => h2 (nI_le q (by omega)))
    refine x_iconst (v := 1) S dX2_fewestBars_60 rfl ?_
    refine x_goto (tgt := 65) S dX2_fewestBars_61 (by decide) ?_
    refine x_istore (lv' := [(9, .int _), (0, .ref _), (1, .int _), (2, .int _), (3, .int _), (4, .int _), (5, .int _), (6, .int _), (7, .int _), (8, .int _)]) S dX2_fewestBars_65 (by decide) rfl ?_
    refine x_iload S dX2_fewestBars_67 0 rfl ?_
    refine x_if_eq (tgt := 94) S dX2_fewestBars_69 (by decide) (fun h3 => ?_) (fun h3 => ?_)
    rotate_left
    · refine x_aload_n S dX2_fewestBars_72 1 rfl rfl ?_
      refine x_iload_n S dX2_fewestBars_73 2 rfl rfl ?_
      refine x_iload_n S dX2_fewestBars_74 4 rfl rfl ?_
      refine x_iload S dX2_fewestBars_75 8 rfl ?_
      refine x_iconst (v := -1) S dX2_fewestBars_77 rfl ?_
      refine x_ixor S dX2_fewestBars_78 ?_
      refine x_iand S dX2_fewestBars_79 ?_
      refine x_top (nI (pl_di (2 ^ n - 1) (pn_dep 12 (kO n a b) k))) (pl_di_I _ _) ?_
      have hdi := pl_di_le (2 ^ n - 1) (pn_dep 12 (kO n a b) k)
      have hR := kR_lt (nb := nb) (n := n) (o := pl_di (2 ^ n - 1) (pn_dep 12 (kO n a b) k)) (by omega) n (2 ^ a) (pl_pow (n := 12) (by omega))
      refine x_cVi (n := 2) S (c_reachedFrom hn (by omega) (by omega)) (gGV gC tw446 tw443 tw445 ts13 tw2) rfl (by decide +kernel) 0 rfl rfl rfl rfl (Nat.le_of_ble_eq_true rfl) dX2_fewestBars_80 ⟨by decide, by decide⟩ ⟨Nat.le_of_ble_eq_true rfl, Nat.le_of_ble_eq_true rfl⟩ ?_
      refine x_iload_n S dX2_fewestBars_83 3 rfl rfl ?_
      refine x_ishr S dX2_fewestBars_84 ?_
      refine x_iconst (v := 1) S dX2_fewestBars_85 rfl ?_
      refine x_iand S dX2_fewestBars_86 ?_
      refine x_if_ne (tgt := 94) S dX2_fewestBars_87 (by decide) (fun h4 => ?_) (fun h4 => ?_)
      · have e : kFB nb n a b (k + 1) = kFB nb n a b k := by
          simp only [kFB]
          rw [if_neg (fun q => h4 ((pl_bit0 (by omega) (by omega)).mpr q.2))]
        rw [e] at T
        exact x_sub [1, 2, 3, 4, 5, 6, 7, 8, 9, 0] rfl (T 1)
      refine x_iload S dX2_fewestBars_90 8 rfl ?_
      refine x_istore (lv' := [(5, .int _), (9, .int _), (0, .ref _), (1, .int _), (2, .int _), (3, .int _), (4, .int _), (6, .int _), (7, .int _), (8, .int _)]) S dX2_fewestBars_92 (by decide) rfl ?_
      have e : kFB nb n a b (k + 1) = pn_dep 12 (kO n a b) k := by
        simp only [kFB]
        rw [if_pos ⟨h2', (pl_bit0 (by omega) (by omega)).mp h4⟩]
      rw [e] at T
      exact x_sub [2, 3, 4, 5, 6, 0, 7, 8, 9, 1] rfl (T 1)
    exact absurd h3 (by decide)
  refine x_aload_n S dX2_fewestBars_0 0 rfl rfl ?_
  refine x_cVi (n := 0) S (c_allNodes hn) (gGV gC tw230 tw227 tw228 tw229 tw2) rfl (by decide +kernel) 0 rfl rfl rfl rfl (Nat.le_of_ble_eq_true rfl) dX2_fewestBars_1 ⟨by decide, by decide⟩ ⟨Nat.le_of_ble_eq_true rfl, Nat.le_of_ble_eq_true rfl⟩ ?_
  refine x_istore_n (lv' := [(3, .int _), (0, .ref _), (1, .int _), (2, .int _)]) S dX2_fewestBars_4 rfl (by decide) rfl ?_
  refine x_iload_n S dX2_fewestBars_5 0 rfl rfl ?_
  refine x_iconst (v := 1) S dX2_fewestBars_6 rfl ?_
  refine x_iload_n S dX2_fewestBars_7 2 rfl rfl ?_
  refine x_ishl S dX2_fewestBars_8 ?_
  refine x_iconst (v := -1) S dX2_fewestBars_9 rfl ?_
  refine x_ixor S dX2_fewestBars_10 ?_
  refine x_iand S dX2_fewestBars_11 ?_
  refine x_iconst (v := 1) S dX2_fewestBars_12 rfl ?_
  refine x_iload_n S dX2_fewestBars_13 3 rfl rfl ?_
  refine x_ishl S dX2_fewestBars_14 ?_
  refine x_iconst (v := -1) S dX2_fewestBars_15 rfl ?_
  refine x_ixor S dX2_fewestBars_16 ?_
  refine x_iand S dX2_fewestBars_17 ?_
  refine x_top (nI (kO n a b)) (by rw [pl_one (by omega), pl_one (by omega), pl_di_I, pl_di_I]) ?_
  refine x_istore (lv' := [(4, .int _), (3, .int _), (0, .ref _), (1, .int _), (2, .int _)]) S dX2_fewestBars_18 (by decide) rfl ?_
  refine x_iload S dX2_fewestBars_20 0 rfl ?_
  refine x_istore (lv' := [(5, .int _), (4, .int _), (3, .int _), (0, .ref _), (1, .int _), (2, .int _)]) S dX2_fewestBars_22 (by decide) rfl ?_
  refine x_iconst (v := 1) S dX2_fewestBars_24 rfl ?_
  refine x_aload_n S dX2_fewestBars_25 3 rfl rfl ?_
  refine x_get S 0 5 rfl rfl inC2 (by decide) (gC _ tw36) rfl rfl dX2_fewestBars_26 ?_
  refine x_iconst (v := 2) S dX2_fewestBars_29 rfl ?_
  refine x_isub S dX2_fewestBars_30 ?_
  refine x_ishl S dX2_fewestBars_31 ?_
  refine x_top (nI (2 ^ (n - 2))) (by rw [show (2 : Int32) = nI 2 from rfl, pk_sub (by omega), pl_one (by omega)]) ?_
  refine x_istore (lv' := [(6, .int _), (5, .int _), (4, .int _), (3, .int _), (0, .ref _), (1, .int _), (2, .int _)]) S dX2_fewestBars_32 (by decide) rfl ?_
  refine x_iconst (v := 0) S dX2_fewestBars_34 rfl ?_
  refine x_istore (lv' := [(7, .int _), (6, .int _), (5, .int _), (4, .int _), (3, .int _), (0, .ref _), (1, .int _), (2, .int _)]) S dX2_fewestBars_35 (by decide) rfl ?_
  refine x_iconst (v := 0) S dX2_fewestBars_37 rfl ?_
  refine x_istore (lv' := [(8, .int _), (7, .int _), (6, .int _), (5, .int _), (4, .int _), (3, .int _), (0, .ref _), (1, .int _), (2, .int _)]) S dX2_fewestBars_38 (by decide) rfl ?_
  exact x_sub [6, 7, 8, 5, 4, 3, 2, 1, 0] rfl (L 0 (Nat.zero_le _) 0 (fun _ => by rw [pn_zero]; rfl) 0)
set_option maxHeartbeats 4000000 in
set_option maxRecDepth 100000 in
theorem c_addBetween {a b m1 m2 : Nat} {w : Int32} (ha : a < 12) (hb : b < 12) (hab : a ≠ b) (h1 : nI (M a b) + w = nI m1) (h2 : nI (M b a) + w = nI m2) (hm : m1 < 2 ^ 31) : xMet l yX2_addBetween wX2_addBetween (rD 1) D vwCl (tyC cI cII cP cZ) nwC [.ref (ad 0), .int (nI a), .int (nI b), .int w] (cw ad cI cII cP n am al ch fr to wt nb M tch cu rch pa br gp P ++ X) (cw ad cI cII cP n am al (ch + 1) fr to wt (uB nb a b (decide (0 < m1))) (uM M a b m1 m2) tch cu rch pa br gp P ++ X) none := by
  refine xMet_of (cc := cX2_addBetween) (maxL := 4) (ret := none) (by decide +kernel) rfl (Nat.le_of_ble_eq_true rfl) xfv ?_
  intro E S hnm hret
  show xW E D vwCl 4 0 0 _ [(0, .ref (ad 0)), (1, .int (nI a)), (2, .int (nI b)), (3, .int w)] 0 []
  have e1 : (va_up M a (va_up (M a) b m1)) b a = M b a := by rw [va_up_ne _ _ (fun q => hab q.symm)]
  have e2 : uM M a b m1 m2 a b = m1 := by
    unfold uM
    rw [va_up_ne _ _ hab, va_up_self, va_up_self]
  refine x_aload_n S dX2_addBetween_0 0 rfl rfl ?_
  refine x_dup S dX2_addBetween_1 rfl ?_
  refine x_get S 0 8 rfl rfl inC2 (by decide) (gC _ tw46) rfl rfl dX2_addBetween_2 ?_
  refine x_iconst (v := 1) S dX2_addBetween_5 rfl ?_
  refine x_iadd S dX2_addBetween_6 ?_
  refine x_top (nI (ch + 1)) (nI_1 ch) ?_
  refine x_put (ws' := (cw ad cI cII cP n am al (ch + 1) fr to wt nb M tch cu rch pa br gp P ++ X)) S 0 8 rfl rfl inC2 tyX2 tyX2_ok nmX2 (by decide) (gC _ tw46) rfl rfl (tyX2_ok 8 (by decide)) rfl rfl (Nat.le_of_ble_eq_true rfl) dX2_addBetween_7 rfl ?_
  refine x_aload_n S dX2_addBetween_10 0 rfl rfl ?_
  refine x_get S 0 3 rfl rfl inC2 (by decide) (gC _ tw32) rfl rfl dX2_addBetween_11 ?_
  refine x_iload_n S dX2_addBetween_14 1 rfl rfl ?_
  refine x_aald S 4 1 (a) rfl rfl rfl rfl ha (by decide) rfl dX2_addBetween_15 ?_
  refine x_iload_n S dX2_addBetween_16 2 rfl rfl ?_
  refine x_dup2 S dX2_addBetween_17 rfl rfl ?_
  refine x_ialdN S (6 + a) 0 (b) (cw_row ha) rfl rfl (by omega) (by decide) dX2_addBetween_18 ?_
  refine x_iload_n S dX2_addBetween_19 3 rfl rfl ?_
  refine x_iadd S dX2_addBetween_20 ?_
  refine x_iastN (ws' := (cw ad cI cII cP n am al (ch + 1) fr to wt nb (va_up M a (va_up (M a) b m1)) tch cu rch pa br gp P ++ X)) (z := m1) S (6 + a) 0 (b) (cw_row ha) rfl rfl (by omega) (by decide) h1 dX2_addBetween_21 (cw_rows ha _) ?_
  refine x_aload_n S dX2_addBetween_22 0 rfl rfl ?_
  refine x_get S 0 3 rfl rfl inC2 (by decide) (gC _ tw32) rfl rfl dX2_addBetween_23 ?_
  refine x_iload_n S dX2_addBetween_26 2 rfl rfl ?_
  refine x_aald S 4 1 (b) rfl rfl rfl rfl hb (by decide) rfl dX2_addBetween_27 ?_
  refine x_iload_n S dX2_addBetween_28 1 rfl rfl ?_
  refine x_dup2 S dX2_addBetween_29 rfl rfl ?_
  refine x_ialdN S (6 + b) 0 (a) (cw_row hb) rfl rfl (by omega) (by decide) dX2_addBetween_30 ?_
  refine x_iload_n S dX2_addBetween_31 3 rfl rfl ?_
  refine x_iadd S dX2_addBetween_32 ?_
  refine x_iastN (ws' := (cw ad cI cII cP n am al (ch + 1) fr to wt nb (uM M a b m1 m2) tch cu rch pa br gp P ++ X)) (z := m2) S (6 + b) 0 (a) (cw_row hb) rfl rfl (by omega) (by decide) (by rw [e1]; exact h2) dX2_addBetween_33 (cw_rows hb _) ?_
  refine x_aload_n S dX2_addBetween_34 0 rfl rfl ?_
  refine x_iload_n S dX2_addBetween_35 1 rfl rfl ?_
  refine x_iload_n S dX2_addBetween_36 2 rfl rfl ?_
  refine x_cVi (n := 2) S (c_areJoined ha hb (by rw [e2]; exact hm)) (gGV gC tw198 tw195 tw196 tw197 tw2) rfl (by decide +kernel) 0 rfl rfl rfl rfl (Nat.le_of_ble_eq_true rfl) dX2_addBetween_37 ⟨by decide, by decide⟩ ⟨Nat.le_of_ble_eq_true rfl, Nat.le_of_ble_eq_true rfl⟩ ?_
  refine x_if_eqB (tgt := 70) S dX2_addBetween_40 (by decide) (fun h3 => ?_) (fun h3 => ?_)
  · rw [e2] at h3
    rw [decide_eq_false h3] at hret
    refine x_aload_n S dX2_addBetween_70 0 rfl rfl ?_
    refine x_get S 0 4 rfl rfl inC2 (by decide) (gC _ tw35) rfl rfl dX2_addBetween_71 ?_
    refine x_iload_n S dX2_addBetween_74 1 rfl rfl ?_
    refine x_dup2 S dX2_addBetween_75 rfl rfl ?_
    refine x_ialdN S 5 0 (a) rfl rfl rfl (by omega) (by decide) dX2_addBetween_76 ?_
    refine x_iconst (v := 1) S dX2_addBetween_77 rfl ?_
    refine x_iload_n S dX2_addBetween_78 2 rfl rfl ?_
    refine x_ishl S dX2_addBetween_79 ?_
    refine x_iconst (v := -1) S dX2_addBetween_80 rfl ?_
    refine x_ixor S dX2_addBetween_81 ?_
    refine x_iand S dX2_addBetween_82 ?_
    refine x_iastN (ws' := (cw ad cI cII cP n am al (ch + 1) fr to wt (va_up nb a (pl_di (nb a) (2 ^ b))) (uM M a b m1 m2) tch cu rch pa br gp P ++ X)) (z := pl_di (nb a) (2 ^ b)) S 5 0 (a) rfl rfl rfl (by omega) (by decide) (by rw [pl_one (by omega), pl_di_I]) dX2_addBetween_83 rfl ?_
    refine x_aload_n S dX2_addBetween_84 0 rfl rfl ?_
    refine x_get S 0 4 rfl rfl inC2 (by decide) (gC _ tw35) rfl rfl dX2_addBetween_85 ?_
    refine x_iload_n S dX2_addBetween_88 2 rfl rfl ?_
    refine x_dup2 S dX2_addBetween_89 rfl rfl ?_
    refine x_ialdN S 5 0 (b) rfl rfl rfl (by omega) (by decide) dX2_addBetween_90 ?_
    refine x_iconst (v := 1) S dX2_addBetween_91 rfl ?_
    refine x_iload_n S dX2_addBetween_92 1 rfl rfl ?_
    refine x_ishl S dX2_addBetween_93 ?_
    refine x_iconst (v := -1) S dX2_addBetween_94 rfl ?_
    refine x_ixor S dX2_addBetween_95 ?_
    refine x_iand S dX2_addBetween_96 ?_
    refine x_iastN (ws' := (cw ad cI cII cP n am al (ch + 1) fr to wt (uB nb a b false) (uM M a b m1 m2) tch cu rch pa br gp P ++ X)) (z := pl_di ((va_up nb a (pl_di (nb a) (2 ^ b))) b) (2 ^ a)) S 5 0 (b) rfl rfl rfl (by omega) (by decide) (by rw [pl_one (by omega), pl_di_I]) dX2_addBetween_97 rfl ?_
    exact hret _ _ dX2_addBetween_98
  rw [e2] at h3
  rw [decide_eq_true h3] at hret
  refine x_aload_n S dX2_addBetween_43 0 rfl rfl ?_
  refine x_get S 0 4 rfl rfl inC2 (by decide) (gC _ tw35) rfl rfl dX2_addBetween_44 ?_
  refine x_iload_n S dX2_addBetween_47 1 rfl rfl ?_
  refine x_dup2 S dX2_addBetween_48 rfl rfl ?_
  refine x_ialdN S 5 0 (a) rfl rfl rfl (by omega) (by decide) dX2_addBetween_49 ?_
  refine x_iconst (v := 1) S dX2_addBetween_50 rfl ?_
  refine x_iload_n S dX2_addBetween_51 2 rfl rfl ?_
  refine x_ishl S dX2_addBetween_52 ?_
  refine x_ior S dX2_addBetween_53 ?_
  refine x_iastN (ws' := (cw ad cI cII cP n am al (ch + 1) fr to wt (va_up nb a (nb a ||| 2 ^ b)) (uM M a b m1 m2) tch cu rch pa br gp P ++ X)) (z := nb a ||| 2 ^ b) S 5 0 (a) rfl rfl rfl (by omega) (by decide) (by rw [pl_one (by omega), pl_or]) dX2_addBetween_54 rfl ?_
  refine x_aload_n S dX2_addBetween_55 0 rfl rfl ?_
  refine x_get S 0 4 rfl rfl inC2 (by decide) (gC _ tw35) rfl rfl dX2_addBetween_56 ?_
  refine x_iload_n S dX2_addBetween_59 2 rfl rfl ?_
  refine x_dup2 S dX2_addBetween_60 rfl rfl ?_
  refine x_ialdN S 5 0 (b) rfl rfl rfl (by omega) (by decide) dX2_addBetween_61 ?_
  refine x_iconst (v := 1) S dX2_addBetween_62 rfl ?_
  refine x_iload_n S dX2_addBetween_63 1 rfl rfl ?_
  refine x_ishl S dX2_addBetween_64 ?_
  refine x_ior S dX2_addBetween_65 ?_
  refine x_iastN (ws' := (cw ad cI cII cP n am al (ch + 1) fr to wt (uB nb a b true) (uM M a b m1 m2) tch cu rch pa br gp P ++ X)) (z := (va_up nb a (nb a ||| 2 ^ b)) b ||| 2 ^ a) S 5 0 (b) rfl rfl rfl (by omega) (by decide) (by rw [pl_one (by omega), pl_or]) dX2_addBetween_66 rfl ?_
  refine x_goto (tgt := 98) S dX2_addBetween_67 (by decide) ?_
  exact hret _ _ dX2_addBetween_98
set_option maxHeartbeats 4000000 in
set_option maxRecDepth 100000 in
theorem c_addArc {a b w m1 m2 : Nat} (ha : a < 12) (hb : b < 12) (hab : a ≠ b) (ham : am < 50) (h1 : M a b + w = m1) (h2 : M b a + w = m2) (hm : m1 < 2 ^ 31) : xMet l yX2_addArc wX2_addArc (rD 2) D vwCl (tyC cI cII cP cZ) nwC [.ref (ad 0), .int (nI a), .int (nI b), .int (nI w)] (cw ad cI cII cP n am al ch fr to wt nb M tch cu rch pa br gp P ++ X) (cw ad cI cII cP n (am + 1) (al + 1) (ch + 1) (va_up fr am a) (va_up to am b) (va_up wt am w) (uB nb a b (decide (0 < m1))) (uM M a b m1 m2) tch cu rch pa br gp P ++ X) (some (.int (nI am))) := by
  refine xMet_of (cc := cX2_addArc) (maxL := 5) (ret := (some .int)) (by decide +kernel) rfl (Nat.le_of_ble_eq_true rfl) xfi ?_
  intro E S hnm hret
  show xW E D vwCl 5 0 0 _ [(0, .ref (ad 0)), (1, .int (nI a)), (2, .int (nI b)), (3, .int (nI w))] 0 []
  refine x_aload_n S dX2_addArc_0 0 rfl rfl ?_
  refine x_get S 0 6 rfl rfl inC2 (by decide) (gC _ tw42) rfl rfl dX2_addArc_1 ?_
  refine x_istore (lv' := [(4, .int _), (0, .ref _), (1, .int _), (2, .int _), (3, .int _)]) S dX2_addArc_4 (by decide) rfl ?_
  refine x_aload_n S dX2_addArc_6 1 rfl rfl ?_
  refine x_get S 0 0 rfl rfl inC2 (by decide) (gC _ tw26) rfl rfl dX2_addArc_7 ?_
  refine x_iload S dX2_addArc_10 0 rfl ?_
  refine x_iload_n S dX2_addArc_12 2 rfl rfl ?_
  refine x_iastN (ws' := (cw ad cI cII cP n am al ch (va_up fr am a) to wt nb M tch cu rch pa br gp P ++ X)) S 1 0 (am) rfl rfl rfl (by omega) (by decide) rfl dX2_addArc_13 rfl ?_
  refine x_aload_n S dX2_addArc_14 1 rfl rfl ?_
  refine x_get S 0 1 rfl rfl inC2 (by decide) (gC _ tw28) rfl rfl dX2_addArc_15 ?_
  refine x_iload S dX2_addArc_18 0 rfl ?_
  refine x_iload_n S dX2_addArc_20 3 rfl rfl ?_
  refine x_iastN (ws' := (cw ad cI cII cP n am al ch (va_up fr am a) (va_up to am b) wt nb M tch cu rch pa br gp P ++ X)) S 2 0 (am) rfl rfl rfl (by omega) (by decide) rfl dX2_addArc_21 rfl ?_
  refine x_aload_n S dX2_addArc_22 1 rfl rfl ?_
  refine x_get S 0 2 rfl rfl inC2 (by decide) (gC _ tw30) rfl rfl dX2_addArc_23 ?_
  refine x_iload S dX2_addArc_26 0 rfl ?_
  refine x_iload_n S dX2_addArc_28 4 rfl rfl ?_
  refine x_iastN (ws' := (cw ad cI cII cP n am al ch (va_up fr am a) (va_up to am b) (va_up wt am w) nb M tch cu rch pa br gp P ++ X)) S 3 0 (am) rfl rfl rfl (by omega) (by decide) rfl dX2_addArc_29 rfl ?_
  refine x_aload_n S dX2_addArc_30 1 rfl rfl ?_
  refine x_dup S dX2_addArc_31 rfl ?_
  refine x_get S 0 6 rfl rfl inC2 (by decide) (gC _ tw42) rfl rfl dX2_addArc_32 ?_
  refine x_iconst (v := 1) S dX2_addArc_35 rfl ?_
  refine x_iadd S dX2_addArc_36 ?_
  refine x_top (nI (am + 1)) (nI_1 am) ?_
  refine x_put (ws' := (cw ad cI cII cP n (am + 1) al ch (va_up fr am a) (va_up to am b) (va_up wt am w) nb M tch cu rch pa br gp P ++ X)) S 0 6 rfl rfl inC2 tyX2 tyX2_ok nmX2 (by decide) (gC _ tw42) rfl rfl (tyX2_ok 6 (by decide)) rfl rfl (Nat.le_of_ble_eq_true rfl) dX2_addArc_37 rfl ?_
  refine x_aload_n S dX2_addArc_40 1 rfl rfl ?_
  refine x_dup S dX2_addArc_41 rfl ?_
  refine x_get S 0 7 rfl rfl inC2 (by decide) (gC _ tw45) rfl rfl dX2_addArc_42 ?_
  refine x_iconst (v := 1) S dX2_addArc_45 rfl ?_
  refine x_iadd S dX2_addArc_46 ?_
  refine x_top (nI (al + 1)) (nI_1 al) ?_
  refine x_put (ws' := (cw ad cI cII cP n (am + 1) (al + 1) ch (va_up fr am a) (va_up to am b) (va_up wt am w) nb M tch cu rch pa br gp P ++ X)) S 0 7 rfl rfl inC2 tyX2 tyX2_ok nmX2 (by decide) (gC _ tw45) rfl rfl (tyX2_ok 7 (by decide)) rfl rfl (Nat.le_of_ble_eq_true rfl) dX2_addArc_47 rfl ?_
  refine x_aload_n S dX2_addArc_50 1 rfl rfl ?_
  refine x_iload_n S dX2_addArc_51 2 rfl rfl ?_
  refine x_iload_n S dX2_addArc_52 3 rfl rfl ?_
  refine x_iload_n S dX2_addArc_53 4 rfl rfl ?_
  refine x_cVv (n := 3) S (c_addBetween ha hb hab (by rw [nI_add, h1]) (by rw [nI_add, h2]) hm) (gGV gC tw194 tw191 tw193 ts0 tw2) rfl (by decide +kernel) 0 rfl rfl rfl rfl (Nat.le_of_ble_eq_true rfl) dX2_addArc_54 ⟨by decide, by decide⟩ ⟨Nat.le_of_ble_eq_true rfl, Nat.le_of_ble_eq_true rfl⟩ ?_
  refine x_iload S dX2_addArc_57 0 rfl ?_
  exact x_ret hret rfl dX2_addArc_59
set_option maxHeartbeats 4000000 in
set_option maxRecDepth 100000 in
theorem c_removeArc {k a b w m1 m2 : Nat} (hk : k < 50) (hfa : fr k = a) (hfb : to k = b) (hfw : wt k = w) (ha : a < 12) (hb : b < 12) (hab : a ≠ b) (h1 : m1 + w = M a b) (h2 : m2 + w = M b a) (hm : m1 < 2 ^ 31) (hal : 1 ≤ al) : xMet l yX2_removeArc wX2_removeArc (rD 2) D vwCl (tyC cI cII cP cZ) nwC [.ref (ad 0), .int (nI k)] (cw ad cI cII cP n am al ch fr to wt nb M tch cu rch pa br gp P ++ X) (cw ad cI cII cP n am (al - 1) (ch + 1) fr to (va_up wt k 0) (uB nb a b (decide (0 < m1))) (uM M a b m1 m2) tch cu rch pa br gp P ++ X) (some (.int (nI (al - 1)))) := by
  refine xMet_of (cc := cX2_removeArc) (maxL := 2) (ret := (some .int)) (by decide +kernel) rfl (Nat.le_of_ble_eq_true rfl) xfi ?_
  intro E S hnm hret
  show xW E D vwCl 2 0 0 _ [(0, .ref (ad 0)), (1, .int (nI k))] 0 []
  subst hfa; subst hfb; subst hfw
  refine x_aload_n S dX2_removeArc_0 0 rfl rfl ?_
  refine x_aload_n S dX2_removeArc_1 0 rfl rfl ?_
  refine x_get S 0 0 rfl rfl inC2 (by decide) (gC _ tw26) rfl rfl dX2_removeArc_2 ?_
  refine x_iload_n S dX2_removeArc_5 1 rfl rfl ?_
  refine x_ialdN S 1 0 (k) rfl rfl rfl (by omega) (by decide) dX2_removeArc_6 ?_
  refine x_aload_n S dX2_removeArc_7 0 rfl rfl ?_
  refine x_get S 0 1 rfl rfl inC2 (by decide) (gC _ tw28) rfl rfl dX2_removeArc_8 ?_
  refine x_iload_n S dX2_removeArc_11 1 rfl rfl ?_
  refine x_ialdN S 2 0 (k) rfl rfl rfl (by omega) (by decide) dX2_removeArc_12 ?_
  refine x_aload_n S dX2_removeArc_13 0 rfl rfl ?_
  refine x_get S 0 2 rfl rfl inC2 (by decide) (gC _ tw30) rfl rfl dX2_removeArc_14 ?_
  refine x_iload_n S dX2_removeArc_17 1 rfl rfl ?_
  refine x_ialdN S 3 0 (k) rfl rfl rfl (by omega) (by decide) dX2_removeArc_18 ?_
  refine x_ineg S dX2_removeArc_19 ?_
  refine x_cVv (n := 3) S (c_addBetween ha hb hab (nI_subw h1) (nI_subw h2) hm) (gGV gC tw194 tw191 tw193 ts0 tw2) rfl (by decide +kernel) 0 rfl rfl rfl rfl (Nat.le_of_ble_eq_true rfl) dX2_removeArc_20 ⟨by decide, by decide⟩ ⟨Nat.le_of_ble_eq_true rfl, Nat.le_of_ble_eq_true rfl⟩ ?_
  refine x_aload_n S dX2_removeArc_23 0 rfl rfl ?_
  refine x_get S 0 2 rfl rfl inC2 (by decide) (gC _ tw30) rfl rfl dX2_removeArc_24 ?_
  refine x_iload_n S dX2_removeArc_27 1 rfl rfl ?_
  refine x_iconst (v := 0) S dX2_removeArc_28 rfl ?_
  refine x_iastN (ws' := (cw ad cI cII cP n am al (ch + 1) fr to (va_up wt k 0) (uB nb (fr k) (to k) (decide (0 < m1))) (uM M (fr k) (to k) m1 m2) tch cu rch pa br gp P ++ X)) (z := 0) S 3 0 (k) rfl rfl rfl (by omega) (by decide) rfl dX2_removeArc_29 rfl ?_
  refine x_aload_n S dX2_removeArc_30 0 rfl rfl ?_
  refine x_dup S dX2_removeArc_31 rfl ?_
  refine x_get S 0 7 rfl rfl inC2 (by decide) (gC _ tw45) rfl rfl dX2_removeArc_32 ?_
  refine x_iconst (v := 1) S dX2_removeArc_35 rfl ?_
  refine x_isub S dX2_removeArc_36 ?_
  refine x_top (nI (al - 1)) (pk_sub hal) ?_
  refine x_put (ws' := (cw ad cI cII cP n am (al - 1) (ch + 1) fr to (va_up wt k 0) (uB nb (fr k) (to k) (decide (0 < m1))) (uM M (fr k) (to k) m1 m2) tch cu rch pa br gp P ++ X)) S 0 7 rfl rfl inC2 tyX2 tyX2_ok nmX2 (by decide) (gC _ tw45) rfl rfl (tyX2_ok 7 (by decide)) rfl rfl (Nat.le_of_ble_eq_true rfl) dX2_removeArc_37 rfl ?_
  refine x_aload_n S dX2_removeArc_40 0 rfl rfl ?_
  refine x_get S 0 7 rfl rfl inC2 (by decide) (gC _ tw45) rfl rfl dX2_removeArc_41 ?_
  exact x_ret hret rfl dX2_removeArc_44
set_option maxHeartbeats 4000000 in
set_option maxRecDepth 100000 in
theorem c_removeAll  : xMet l yX2_removeAll wX2_removeAll (rD 0) D vwCl (tyC cI cII cP cZ) nwC [.ref (ad 0)] (cw ad cI cII cP n am al ch fr to wt nb M tch cu rch pa br gp P ++ X) (cw ad cI cII cP 0 0 0 (ch + 1) fr to wt (zN nb 12) (zR M 12) tch cu rch pa br gp P ++ X) (some (.int (nI n))) := by
  refine xMet_of (cc := cX2_removeAll) (maxL := 4) (ret := (some .int)) (by decide +kernel) rfl (Nat.le_of_ble_eq_true rfl) xfi ?_
  intro E S hnm hret
  show xW E D vwCl 4 0 0 _ [(0, .ref (ad 0))] 0 []
  have L : ∀ k, k ≤ 12 → xW E D vwCl 4 0 0 (cw ad cI cII cP n am al ch fr to wt (zN nb k) (zR M k) tch cu rch pa br gp P ++ X) [(0, .ref (ad 0)), (1, .int (nI n)), (2, .int (nI k))] 7 [] := by
    refine pl_up 12 (fun k hk ih => ?_)
    refine x_iload_n S dX2_removeAll_7 2 rfl rfl ?_
    refine x_bipush (v := 12) S dX2_removeAll_8 (by decide) ?_
    refine x_icmp_ge (tgt := 49) S dX2_removeAll_10 (by decide) (fun h1 => ?_) (fun h1 => ?_)
    · have hk2 : k = 12 := Nat.le_antisymm hk ((nI_leI (by omega) (by omega)).mp h1)
      subst hk2
      refine x_aload_n S dX2_removeAll_49 0 rfl rfl ?_
      refine x_iconst (v := 0) S dX2_removeAll_50 rfl ?_
      refine x_put (ws' := (cw ad cI cII cP 0 am al ch fr to wt (zN nb 12) (zR M 12) tch cu rch pa br gp P ++ X)) S 0 5 rfl rfl inC2 tyX2 tyX2_ok nmX2 (by decide) (gC _ tw36) rfl rfl (tyX2_ok 5 (by decide)) rfl rfl (Nat.le_of_ble_eq_true rfl) dX2_removeAll_51 rfl ?_
      refine x_aload_n S dX2_removeAll_54 0 rfl rfl ?_
      refine x_iconst (v := 0) S dX2_removeAll_55 rfl ?_
      refine x_put (ws' := (cw ad cI cII cP 0 0 al ch fr to wt (zN nb 12) (zR M 12) tch cu rch pa br gp P ++ X)) S 0 6 rfl rfl inC2 tyX2 tyX2_ok nmX2 (by decide) (gC _ tw42) rfl rfl (tyX2_ok 6 (by decide)) rfl rfl (Nat.le_of_ble_eq_true rfl) dX2_removeAll_56 rfl ?_
      refine x_aload_n S dX2_removeAll_59 0 rfl rfl ?_
      refine x_iconst (v := 0) S dX2_removeAll_60 rfl ?_
      refine x_put (ws' := (cw ad cI cII cP 0 0 0 ch fr to wt (zN nb 12) (zR M 12) tch cu rch pa br gp P ++ X)) S 0 7 rfl rfl inC2 tyX2 tyX2_ok nmX2 (by decide) (gC _ tw45) rfl rfl (tyX2_ok 7 (by decide)) rfl rfl (Nat.le_of_ble_eq_true rfl) dX2_removeAll_61 rfl ?_
      refine x_aload_n S dX2_removeAll_64 0 rfl rfl ?_
      refine x_dup S dX2_removeAll_65 rfl ?_
      refine x_get S 0 8 rfl rfl inC2 (by decide) (gC _ tw46) rfl rfl dX2_removeAll_66 ?_
      refine x_iconst (v := 1) S dX2_removeAll_69 rfl ?_
      refine x_iadd S dX2_removeAll_70 ?_
      refine x_top (nI (ch + 1)) (nI_1 ch) ?_
      refine x_put (ws' := (cw ad cI cII cP 0 0 0 (ch + 1) fr to wt (zN nb 12) (zR M 12) tch cu rch pa br gp P ++ X)) S 0 8 rfl rfl inC2 tyX2 tyX2_ok nmX2 (by decide) (gC _ tw46) rfl rfl (tyX2_ok 8 (by decide)) rfl rfl (Nat.le_of_ble_eq_true rfl) dX2_removeAll_71 rfl ?_
      refine x_iload_n S dX2_removeAll_74 1 rfl rfl ?_
      exact x_ret hret rfl dX2_removeAll_75
    have hk2 : k < 12 := Nat.lt_of_not_le (fun q => h1 (nI_le q (by omega)))
    refine x_aload_n S dX2_removeAll_13 0 rfl rfl ?_
    refine x_get S 0 4 rfl rfl inC2 (by decide) (gC _ tw35) rfl rfl dX2_removeAll_14 ?_
    refine x_iload_n S dX2_removeAll_17 2 rfl rfl ?_
    refine x_iconst (v := 0) S dX2_removeAll_18 rfl ?_
    refine x_iastN (ws' := (cw ad cI cII cP n am al ch fr to wt (va_up (zN nb k) k 0) (zR M k) tch cu rch pa br gp P ++ X)) (z := 0) S 5 0 (k) rfl rfl rfl (by omega) (by decide) rfl dX2_removeAll_19 rfl ?_
    rw [zN_s]
    have L2 : ∀ u, u ≤ 12 → xW E D vwCl 4 0 0 (cw ad cI cII cP n am al ch fr to wt (zN nb (k + 1)) (va_up (zR M k) k (zN (M k) u)) tch cu rch pa br gp P ++ X) [(0, .ref (ad 0)), (1, .int (nI n)), (2, .int (nI k)), (3, .int (nI u))] 22 [] := by
      refine pl_up 12 (fun u hu ih2 => ?_)
      refine x_iload_n S dX2_removeAll_22 3 rfl rfl ?_
      refine x_bipush (v := 12) S dX2_removeAll_23 (by decide) ?_
      refine x_icmp_ge (tgt := 43) S dX2_removeAll_25 (by decide) (fun h2 => ?_) (fun h2 => ?_)
      · have hu2 : u = 12 := Nat.le_antisymm hu ((nI_leI (by omega) (by omega)).mp h2)
        subst hu2
        rw [zR_s]
        refine x_iincN (lv' := [(2, .int _), (0, .ref _), (1, .int _), (3, .int _)]) S dX2_removeAll_43 2 rfl (by decide) rfl ?_
        refine x_goto (tgt := 7) S dX2_removeAll_46 (by decide) ?_
        exact x_sub [1, 2, 0] rfl (ih hk2)
      have hu2 : u < 12 := Nat.lt_of_not_le (fun q => h2 (nI_le q (by omega)))
      refine x_aload_n S dX2_removeAll_28 0 rfl rfl ?_
      refine x_get S 0 3 rfl rfl inC2 (by decide) (gC _ tw32) rfl rfl dX2_removeAll_29 ?_
      refine x_iload_n S dX2_removeAll_32 2 rfl rfl ?_
      refine x_aald S 4 1 (k) rfl rfl rfl rfl hk2 (by decide) rfl dX2_removeAll_33 ?_
      refine x_iload_n S dX2_removeAll_34 3 rfl rfl ?_
      refine x_iconst (v := 0) S dX2_removeAll_35 rfl ?_
      refine x_iastN (ws' := (cw ad cI cII cP n am al ch fr to wt (zN nb (k + 1)) (va_up (va_up (zR M k) k (zN (M k) u)) k (va_up ((va_up (zR M k) k (zN (M k) u)) k) u 0)) tch cu rch pa br gp P ++ X)) (z := 0) S (6 + k) 0 (u) (cw_row hk2) rfl rfl (by omega) (by decide) rfl dX2_removeAll_36 (cw_rows hk2 _) ?_
      rw [upup, va_up_self, zN_s]
      refine x_iincN (lv' := [(3, .int _), (0, .ref _), (1, .int _), (2, .int _)]) S dX2_removeAll_37 3 rfl (by decide) rfl ?_
      refine x_goto (tgt := 22) S dX2_removeAll_40 (by decide) ?_
      exact x_sub [1, 2, 3, 0] rfl (ih2 hu2)
    refine x_iconst (v := 0) S dX2_removeAll_20 rfl ?_
    refine x_istore_n (lv' := [(3, .int _), (0, .ref _), (1, .int _), (2, .int _)]) S dX2_removeAll_21 rfl (by decide) rfl ?_
    rw [← zR_a M k]
    exact x_sub [1, 2, 3, 0] rfl (L2 0 (Nat.zero_le _))
  refine x_aload_n S dX2_removeAll_0 0 rfl rfl ?_
  refine x_get S 0 5 rfl rfl inC2 (by decide) (gC _ tw36) rfl rfl dX2_removeAll_1 ?_
  refine x_istore_n (lv' := [(1, .int _), (0, .ref _)]) S dX2_removeAll_4 rfl (by decide) rfl ?_
  refine x_iconst (v := 0) S dX2_removeAll_5 rfl ?_
  refine x_istore_n (lv' := [(2, .int _), (1, .int _), (0, .ref _)]) S dX2_removeAll_6 rfl (by decide) rfl ?_
  rw [← zN_0 nb, ← zR_0 M]
  exact x_sub [2, 1, 0] rfl (L 0 (Nat.zero_le _))
end GR3
end
section
/-! the table of CUTS: sets, places, searches -/
section SPEC2
def aOK (n am : Nat) (fr to wt : Nat → Nat) : Prop := n ≤ 12 ∧ am ≤ 50 ∧ ∀ i, i < am → fr i < n ∧ to i < n ∧ fr i ≠ to i ∧ wt i ≤ 1000
def mOK (am : Nat) (fr to wt : Nat → Nat) (M : Nat → Nat → Nat) : Prop := ∀ a b, a < 12 → b < 12 → M a b = kM fr to wt am a b
def tOK (n am : Nat) (fr to wt cu : Nat → Nat) : Prop := ∀ p, p < 2 ^ (n - 1) → cu p = kC fr to wt am (2 * p)
theorem aOK.cf {n am : Nat} {fr to wt : Nat → Nat} (h : aOK n am fr to wt) (S : Nat) : kC fr to wt am S ≤ 50000 := by
  have h1 := kC_bd (fr := fr) (to := to) (wt := wt) (k := am) (S := S) (c := 1000) (fun i hi => (h.2.2 i hi).2.2.2)
  have := h.2.1
  omega
theorem aOK.st {n am : Nat} {fr to wt : Nat → Nat} (h : aOK n am fr to wt) : ∀ i, i < am → fr i < n ∧ to i < n ∧ fr i ≠ to i := fun i hi => ⟨(h.2.2 i hi).1, (h.2.2 i hi).2.1, (h.2.2 i hi).2.2.1⟩
theorem pn_or (x y p q : Nat) (hp : p < 2) (hq : q < 2) : (2 * x + p) ||| (2 * y + q) = 2 * (x ||| y) + (p ||| q) := by
  have h1 : (2 * x + p) / 2 = x := by omega
  have h2 : (2 * y + q) / 2 = y := by omega
  have h3 : (p ||| q) < 2 := by
    rcases (show p = 0 ∨ p = 1 by omega) with rfl | rfl <;> rcases (show q = 0 ∨ q = 1 by omega) with rfl | rfl <;> decide
  have h4 : (2 * (x ||| y) + (p ||| q)) / 2 = x ||| y := by omega
  have a1 : (2 * x + p) % 2 = p := by omega
  have a2 : (2 * y + q) % 2 = q := by omega
  have a3 : (2 * (x ||| y) + (p ||| q)) % 2 = p ||| q := by omega
  apply Nat.eq_of_testBit_eq
  intro i
  cases i with
  | zero =>
    rw [Nat.testBit_or, Nat.testBit_zero, Nat.testBit_zero, Nat.testBit_zero, a1, a2, a3]
    rcases (show p = 0 ∨ p = 1 by omega) with rfl | rfl <;> rcases (show q = 0 ∨ q = 1 by omega) with rfl | rfl <;> rfl
  | succ i => rw [Nat.testBit_or, Nat.testBit_succ, Nat.testBit_succ, Nat.testBit_succ, h1, h2, h4, Nat.testBit_or]
theorem or_add : ∀ (a x : Nat), x.testBit a = false → x ||| 2 ^ a = x + 2 ^ a
  | 0, x, h => by
    rw [Nat.testBit_zero] at h
    have h2 : x % 2 = 0 := by
      rcases Nat.mod_two_eq_zero_or_one x with q | q
      · exact q
      · rw [q] at h; simp at h
    have h3 := pn_or (x / 2) 0 0 1 (by omega) (by omega)
    rw [Nat.or_zero] at h3
    have h4 : (0 ||| 1 : Nat) = 1 := rfl
    rw [h4, show 2 * (x / 2) + 0 = x by omega, show 2 * 0 + 1 = 2 ^ 0 by rfl] at h3
    rw [h3]
    omega
  | a + 1, x, h => by
    rw [Nat.testBit_succ] at h
    have ih := or_add a (x / 2) h
    have h3 := pn_or (x / 2) (2 ^ a) (x % 2) 0 (by omega) (by omega)
    rw [Nat.or_zero, ih] at h3
    rw [show 2 * (x / 2) + x % 2 = x by omega, show 2 * 2 ^ a + 0 = 2 ^ (a + 1) by rw [Nat.pow_succ]; omega] at h3
    rw [h3, Nat.pow_succ]
    omega
theorem kO_t (n a b i : Nat) : (kO n a b).testBit i = (decide (i < n) && !decide (a = i) && !decide (b = i)) := by
  unfold kO
  rw [pl_di_t, pl_di_t, Nat.testBit_two_pow_sub_one, Nat.testBit_two_pow, Nat.testBit_two_pow]
theorem dep_t {A i k : Nat} (hA : A < 4096) (h : (pn_dep 12 A k).testBit i = true) : A.testBit i = true := by
  have := pn_dep_sub 12 A k hA
  rw [← this, Nat.testBit_and] at h
  exact (Bool.and_eq_true _ _ ▸ h).2
/-- SIDES that have a and not b -/
def isSd (n a b T : Nat) : Prop := T < 2 ^ n ∧ T.testBit a = true ∧ T.testBit b = false
theorem lt_of_t {n T : Nat} (h : ∀ i, T.testBit i = true → i < n) : T < 2 ^ n := by
  rcases Nat.lt_or_ge T (2 ^ n) with q | q
  · exact q
  · obtain ⟨i, hi, h2⟩ := Nat.exists_ge_and_testBit_of_ge_two_pow q
    have := h i h2
    omega
theorem t_lt {n T i : Nat} (hT : T < 2 ^ n) (h : T.testBit i = true) : i < n := by
  rcases Nat.lt_or_ge i n with q | q
  · exact q
  · rw [Nat.testBit_lt_two_pow (Nat.lt_of_lt_of_le hT (Nat.pow_le_pow_right (n := 2) (by omega) q))] at h
    cases h
theorem sd_iff {n a b : Nat} (hn : n ≤ 12) (ha : a < n) (hb : b < n) (hab : a ≠ b) (T : Nat) : isSd n a b T ↔ ∃ j, j < 2 ^ (n - 2) ∧ T = 2 ^ a ||| pn_dep 12 (kO n a b) j := by
  have hO := kO_lt (a := a) (b := b) hn
  have hpop := kO_pop n (by omega) a ha b hb hab
  constructor
  · rintro ⟨h1, h2, h3⟩
    obtain ⟨j, hj, e⟩ := pn_surj 12 (kO n a b) (T &&& kO n a b) hO (by rw [Nat.and_assoc, Nat.and_self])
    refine ⟨j, by rw [← hpop]; exact hj, ?_⟩
    rw [← e]
    apply Nat.eq_of_testBit_eq
    intro i
    rw [Nat.testBit_or, Nat.testBit_and, kO_t, Nat.testBit_two_pow]
    by_cases c1 : a = i
    · subst c1; simp [h2]
    · by_cases c2 : b = i
      · subst c2; simp [h3, c1]
      · cases hT : T.testBit i with
        | false => simp [c1]
        | true => simp [c1, c2, t_lt h1 hT]
  · rintro ⟨j, hj, rfl⟩
    have key : ∀ i, (pn_dep 12 (kO n a b) j).testBit i = true → i < n ∧ a ≠ i ∧ b ≠ i := fun i h => by
      have := dep_t hO h
      rw [kO_t] at this
      simpa [and_assoc] using this
    refine ⟨lt_of_t (fun i h => ?_), ?_, ?_⟩
    · rw [Nat.testBit_or, Nat.testBit_two_pow] at h
      rcases (Bool.or_eq_true _ _ ▸ h) with q | q
      · have := of_decide_eq_true q; omega
      · exact (key i q).1
    · rw [Nat.testBit_or, Nat.testBit_two_pow]; simp
    · rw [Nat.testBit_or, Nat.testBit_two_pow]
      cases hd : (pn_dep 12 (kO n a b) j).testBit b with
      | false => simp [hab]
      | true => exact absurd rfl (key b hd).2.2
theorem sd_mono {n a b i j : Nat} (hn : n ≤ 12) (ha : a < n) (hb : b < n) (hab : a ≠ b) (hij : i < j) (hj : j < 2 ^ (n - 2)) : 2 ^ a ||| pn_dep 12 (kO n a b) i < 2 ^ a ||| pn_dep 12 (kO n a b) j := by
  have hO := kO_lt (a := a) (b := b) hn
  have hpop := kO_pop n (by omega) a ha b hb hab
  have h1 := pn_mono 12 (kO n a b) i j hO hij (by rw [hpop]; exact hj)
  have key : ∀ k, (pn_dep 12 (kO n a b) k).testBit a = false := fun k => by
    cases hd : (pn_dep 12 (kO n a b) k).testBit a with
    | false => rfl
    | true =>
      have := dep_t hO hd
      rw [kO_t] at this
      simp at this
  rw [Nat.or_comm, or_add _ _ (key i), Nat.or_comm, or_add _ _ (key j)]
  omega
theorem isFM_ex {f : Nat → Nat} {P : Nat → Prop} (h : ∃ T, P T) : ∃ S, isFM f P S := by
  obtain ⟨v, ⟨T0, hT0, hv0⟩, hv⟩ := pk_least (fun v => ∃ T, P T ∧ f T = v) (by obtain ⟨T, hT⟩ := h; exact ⟨f T, T, hT, rfl⟩)
  obtain ⟨S, ⟨hS, hSv⟩, hmin⟩ := pk_least (fun T => P T ∧ f T = v) ⟨T0, hT0, hv0⟩
  have hle : ∀ T, P T → v ≤ f T := fun T hT => Nat.le_of_not_lt (fun q => hv _ q ⟨T, hT, rfl⟩)
  refine ⟨S, hS, fun T hT => by rw [hSv]; exact hle T hT, fun T hT hlt => ?_⟩
  have h1 := hle T hT
  have h2 : f T ≠ v := fun q => hmin T hlt ⟨hT, q⟩
  omega
/-- SIDES without NODE 0, by their places -/
def evP (n T : Nat) : Prop := ∃ j, j < 2 ^ (n - 1) - 1 ∧ T = 2 * (j + 1)
def kCnt (cf : Nat → Nat) (m : Nat) (k : Nat) : Nat := sm (fun j => if cf (2 * (j + 1)) = m then 1 else 0) k
def kLO (cf : Nat → Nat) (m κ : Nat) : Nat → Nat → Int32
  | 0, _ => -1
  | r + 1, j => if cf (2 * (j + 1)) = m then (if kCnt cf m j = κ then nI (2 * (j + 1)) else kLO cf m κ r (j + 1)) else kLO cf m κ r (j + 1)
def kSp (cf sp : Nat → Nat) : Nat → Nat
  | 0 => 2
  | k + 1 => if cf (2 * (k + 2)) * sp (kSp cf sp k) < cf (kSp cf sp k) * sp (2 * (k + 2)) then 2 * (k + 2) else kSp cf sp k
theorem kSp_le (cf sp : Nat → Nat) : ∀ k, kSp cf sp k ≤ 2 * (k + 1) ∧ 2 ≤ kSp cf sp k
  | 0 => ⟨Nat.le_refl _, Nat.le_refl _⟩
  | k + 1 => by
    have ih := kSp_le cf sp k
    simp only [kSp]
    split <;> omega
theorem kCnt_le (cf : Nat → Nat) (m : Nat) : ∀ k, kCnt cf m k ≤ k
  | 0 => Nat.le_refl _
  | k + 1 => by
    have ih := kCnt_le cf m k
    show kCnt cf m k + (if cf (2 * (k + 1)) = m then 1 else 0) ≤ k + 1
    split <;> omega
theorem kCnt_s (cf : Nat → Nat) (m k : Nat) : kCnt cf m (k + 1) = kCnt cf m k + if cf (2 * (k + 1)) = m then 1 else 0 := rfl
/-- the weights between v and S -/
def kV (M : Nat → Nat → Nat) (v n S : Nat) : Nat := sm (fun u => if S.testBit u = true then M v u else 0) n
theorem kV_0 (M : Nat → Nat → Nat) (v n : Nat) : kV M v n 0 = 0 := sm_0 (fun i _ => by simp)
theorem sm_bump {f g : Nat → Nat} {n u w : Nat} (hu : u < n) (h1 : g u = f u + w) (h2 : ∀ i, i ≠ u → g i = f i) : sm g n = sm f n + w := by
  induction n with
  | zero => omega
  | succ n ih =>
    simp only [sm]
    rcases Nat.lt_or_ge u n with q | q
    · rw [ih q, h2 n (by omega)]; omega
    · have : u = n := by omega
      subst this
      rw [h1, sm_congr (fun i hi => h2 i (by omega))]; omega
theorem kV_add {M : Nat → Nat → Nat} {v n u S : Nat} (hu : u < n) (hS : S < 2 ^ u) : kV M v n (2 ^ u + S) = kV M v n S + M v u := by
  have hb : S.testBit u = false := Nat.testBit_lt_two_pow hS
  have e : 2 ^ u + S = S ||| 2 ^ u := by rw [or_add _ _ hb]; omega
  refine sm_bump hu ?_ (fun i hi => ?_)
  · rw [e, Nat.testBit_or, Nat.testBit_two_pow, hb]; simp
  · rw [e, Nat.testBit_or, Nat.testBit_two_pow]
    have : ¬ u = i := fun q => hi q.symm
    simp [this]
end SPEC2
end
section
/-! CutTable: contracts -/
section TB
theorem x_iinc2N {E : xE} {l : Launch} {R : Room} {D : va_G} {cl : List vw_C} {tys : List (ClassId × FieldType)} {cc : ByteArray} {own : String} {nL : Nat} {Ts : List Cond} {nws : xN} {cells slots : Nat} {ws : va_W} {lv : List (Nat × Value)} {pc : Nat} {st : List Value} (S0 : xOK E l R D cl tys cc own nL Ts nws) {i j j' : Nat} {lv' : List (Nat × Value)} (hd : decode cc pc = .ok (.iinc i 2, 3)) (q : Nat) (hq : lv[q]? = some (i, .int (nI j))) (hj : j + 2 = j') (hn : i < nL) (hl' : (i, Value.int (nI j')) :: lv.filter (fun q => !(q.1 == i) && !(q.1 + 1 == i && q.2.category == 2)) = lv') (k : xW E D cl nL cells slots ws lv' (pc + 3) st) : xW E D cl nL cells slots ws lv pc st := x_iinc S0 hd q hq (by subst hj; exact nI_add j 2) hn hl' k
theorem p2_s {n : Nat} (h : 1 ≤ n) : 2 ^ n = 2 * 2 ^ (n - 1) := by
  obtain ⟨k, rfl⟩ : ∃ k, n = k + 1 := ⟨n - 1, by omega⟩
  rw [Nat.pow_succ, Nat.add_sub_cancel]; omega
theorem nI_mod2 (s : Nat) : nI s &&& 1 = nI (s % 2) := by
  show nI s &&& nI 1 = _
  rw [pl_and, Nat.and_one_is_mod]
theorem nI_half {s : Nat} (h : s < 2 ^ 31) : nI s >>> ((1 : Int32) &&& 31) = nI (s / 2) := by
  have := pl_shr (v := 1) h (by omega)
  exact this
theorem tab_ev {n am S : Nat} {fr to wt cu : Nat → Nat} (h1 : 1 ≤ n) (hT : tOK n am fr to wt cu) (hS : S < 2 ^ n) (he : S % 2 = 0) : cu (S / 2) = kC fr to wt am S ∧ S / 2 < 2048 ∨ 2048 ≤ S / 2 := by
  have := p2_s h1
  rcases Nat.lt_or_ge (S / 2) 2048 with q | q
  · exact Or.inl ⟨by rw [hT (S / 2) (by omega), show 2 * (S / 2) = S by omega], q⟩
  · exact Or.inr q
theorem half_lt {n S : Nat} (hn : n ≤ 12) (hS : S < 2 ^ n) : S / 2 < 2048 := by
  have := pl_pow12 hn
  omega
theorem di_ev {n S : Nat} (h1 : 1 ≤ n) (ho : S % 2 = 1) : pl_di (2 ^ n - 1) S % 2 = 0 := by
  have h : (pl_di (2 ^ n - 1) S).testBit 0 = false := by
    rw [pl_di_t, Nat.testBit_zero (x := S), ho]; simp
  rw [Nat.testBit_zero] at h
  have := of_decide_eq_false h
  omega
variable {l : Launch} {D : va_G} {ad : Nat → Nat} {cI cII cP cZ : ClassId} {n am al ch : Nat} {fr to wt nb : Nat → Nat} {M : Nat → Nat → Nat} {tch : Int32} {cu : Nat → Nat} {rch : Int32} {pa br gp : Nat → Nat} {P : Nat → Int32 × Nat × (Nat → Nat) × (Nat → Nat)} {X : va_W}
set_option maxHeartbeats 4000000 in
set_option maxRecDepth 100000 in
theorem c_cutAt {s : Nat} (h1 : 1 ≤ n) (hA : aOK n am fr to wt) (hT : tOK n am fr to wt cu) (hs : s < 2 ^ n) : xMet l yX0_cutAt wX0_cutAt (rD 1) D vwCl (tyC cI cII cP cZ) nwC [.ref (ad 18), .int (nI s)] (cw ad cI cII cP n am al ch fr to wt nb M tch cu rch pa br gp P ++ X) (cw ad cI cII cP n am al ch fr to wt nb M tch cu rch pa br gp P ++ X) (some (.int (nI (kC fr to wt am s)))) := by
  refine xMet_of (cc := cX0_cutAt) (maxL := 3) (ret := (some .int)) (by decide +kernel) rfl (Nat.le_of_ble_eq_true rfl) xfi ?_
  intro E S hnm hret
  show xW E D vwCl 3 0 0 _ [(0, .ref (ad 18)), (1, .int (nI s))] 0 []
  have hn := hA.1
  have hp := pl_pow12 hn
  refine x_iload_n S dX0_cutAt_0 1 rfl rfl ?_
  refine x_iconst (v := 1) S dX0_cutAt_1 rfl ?_
  refine x_iand S dX0_cutAt_2 ?_
  refine x_top (nI (s % 2)) (nI_mod2 s) ?_
  refine x_if_ne (tgt := 10) S dX0_cutAt_3 (by decide) (fun h2 => ?_) (fun h2 => ?_)
  rotate_left
  · have he : s % 2 = 0 := pl_inj (by omega) (by omega) h2
    refine x_iload_n S dX0_cutAt_6 1 rfl rfl ?_
    refine x_goto (tgt := 21) S dX0_cutAt_7 (by decide) ?_
    refine x_istore_n (lv' := [(2, .int _), (0, .ref _), (1, .int _)]) S dX0_cutAt_21 rfl (by decide) rfl ?_
    refine x_aload_n S dX0_cutAt_22 1 rfl rfl ?_
    refine x_get S 18 1 rfl rfl inC0 (by decide) (gC _ tw77) rfl rfl dX0_cutAt_23 ?_
    refine x_iload_n S dX0_cutAt_26 0 rfl rfl ?_
    refine x_iconst (v := 1) S dX0_cutAt_27 rfl ?_
    refine x_ishr S dX0_cutAt_28 ?_
    refine x_top (nI (s / 2)) (nI_half (by omega)) ?_
    have hh := half_lt hn hs
    refine x_ialdN S 19 0 (s / 2) rfl rfl rfl (by omega) (by decide) dX0_cutAt_29 ?_
    exact x_ret hret (by rw [hT (s / 2) (by have := p2_s h1; omega), show 2 * (s / 2) = s by omega]) dX0_cutAt_30
  have ho : s % 2 = 1 := by
    rcases Nat.mod_two_eq_zero_or_one s with q | q
    · rw [q] at h2; exact absurd rfl h2
    · exact q
  refine x_aload_n S dX0_cutAt_10 0 rfl rfl ?_
  refine x_get S 18 0 rfl rfl inC0 (by decide) (gC _ tw76) rfl rfl dX0_cutAt_11 ?_
  refine x_cVi (n := 0) S (c_allNodes hn) (gGV gC tw230 tw263 tw228 tw229 tw2) rfl (by decide +kernel) 0 rfl rfl rfl rfl (Nat.le_of_ble_eq_true rfl) dX0_cutAt_14 ⟨by decide, by decide⟩ ⟨Nat.le_of_ble_eq_true rfl, Nat.le_of_ble_eq_true rfl⟩ ?_
  refine x_iload_n S dX0_cutAt_17 1 rfl rfl ?_
  refine x_iconst (v := -1) S dX0_cutAt_18 rfl ?_
  refine x_ixor S dX0_cutAt_19 ?_
  refine x_iand S dX0_cutAt_20 ?_
  refine x_top (nI (pl_di (2 ^ n - 1) s)) (pl_di_I _ _) ?_
  have hle := pl_di_le (2 ^ n - 1) s
  have hev := di_ev h1 ho
  refine x_istore_n (lv' := [(2, .int _), (0, .ref _), (1, .int _)]) S dX0_cutAt_21 rfl (by decide) rfl ?_
  refine x_aload_n S dX0_cutAt_22 1 rfl rfl ?_
  refine x_get S 18 1 rfl rfl inC0 (by decide) (gC _ tw77) rfl rfl dX0_cutAt_23 ?_
  refine x_iload_n S dX0_cutAt_26 0 rfl rfl ?_
  refine x_iconst (v := 1) S dX0_cutAt_27 rfl ?_
  refine x_ishr S dX0_cutAt_28 ?_
  refine x_top (nI (pl_di (2 ^ n - 1) s / 2)) (nI_half (by omega)) ?_
  refine x_ialdN S 19 0 (pl_di (2 ^ n - 1) s / 2) rfl rfl rfl (half_lt hn (by omega)) (by decide) dX0_cutAt_29 ?_
  exact x_ret hret (by rw [hT (pl_di (2 ^ n - 1) s / 2) (by have := p2_s h1; omega), show 2 * (pl_di (2 ^ n - 1) s / 2) = pl_di (2 ^ n - 1) s by omega, kC_co (fun i hi => ⟨(hA.2.2 i hi).1, (hA.2.2 i hi).2.1⟩)]) dX0_cutAt_30
set_option maxHeartbeats 4000000 in
set_option maxRecDepth 100000 in
theorem c_sideAgainst {a b Z : Nat} (h1 : 1 ≤ n) (hA : aOK n am fr to wt) (hT : tOK n am fr to wt cu) (ha : a < n) (hb : b < n) (hab : a ≠ b) (hZ : isFM (kC fr to wt am) (isSd n a b) Z) : xMet l yX0_sideAgainst wX0_sideAgainst (rD 2) D vwCl (tyC cI cII cP cZ) nwC [.ref (ad 18), .int (nI a), .int (nI b)] (cw ad cI cII cP n am al ch fr to wt nb M tch cu rch pa br gp P ++ X) (cw ad cI cII cP n am al ch fr to wt nb M tch cu rch pa br gp P ++ X) (some (.int (nI Z))) := by
  refine xMet_of (cc := cX0_sideAgainst) (maxL := 11) (ret := (some .int)) (by decide +kernel) rfl (Nat.le_of_ble_eq_true rfl) xfi ?_
  intro E S hnm hret
  show xW E D vwCl 11 0 0 _ [(0, .ref (ad 18)), (1, .int (nI a)), (2, .int (nI b))] 0 []
  have hn := hA.1
  have hO := kO_lt (a := a) (b := b) hn
  have hpop := kO_pop n (by omega) a ha b hb hab
  have hpw : 2 ^ (n - 2) ≤ 4096 := pl_pow12 (by omega)
  have hpn := pl_pow12 hn
  have L : ∀ k, k ≤ 2 ^ (n - 2) → 1 ≤ k → ∀ z, isFM (kC fr to wt am) (fun T => ∃ j, j < k ∧ T = 2 ^ a ||| pn_dep 12 (kO n a b) j) z → xW E D vwCl 11 0 0 (cw ad cI cII cP n am al ch fr to wt nb M tch cu rch pa br gp P ++ X) [(0, .ref (ad 18)), (1, .int (nI a)), (2, .int (nI b)), (3, .int (nI (2 ^ a))), (4, .int (nI (kO n a b))), (5, .int (nI z)), (6, .int (nI (kC fr to wt am z))), (7, .int (nI (2 ^ (n - 2)))), (8, .int (nI (pn_dep 12 (kO n a b) (k - 1)))), (9, .int (nI k))] 52 [] := by
    refine pl_up (2 ^ (n - 2)) (fun k hk ih => ?_)
    intro hk1 z hz
    refine x_iload S dX0_sideAgainst_52 9 rfl ?_
    refine x_iload S dX0_sideAgainst_54 7 rfl ?_
    refine x_icmp_ge (tgt := 101) S dX0_sideAgainst_56 (by decide) (fun h2 => ?_) (fun h2 => ?_)
    · have hk2 : k = 2 ^ (n - 2) := Nat.le_antisymm hk ((nI_leI (by omega) (by omega)).mp h2)
      subst hk2
      refine x_iload S dX0_sideAgainst_101 5 rfl ?_
      exact x_ret hret (by rw [isFM_uniq (isFM_congr (fun T => (sd_iff hn ha hb hab T).symm) (fun _ _ => rfl) hz) hZ]) dX0_sideAgainst_103
    have hk2 : k < 2 ^ (n - 2) := Nat.lt_of_not_le (fun q => h2 (nI_le q (by omega)))
    have hd := pn_dep_le (w := 12) (i := k - 1) hO
    refine x_iload S dX0_sideAgainst_59 4 rfl ?_
    refine x_iload S dX0_sideAgainst_61 8 rfl ?_
    refine x_cNi (n := 2) S (c_nextWithin hO hd) (gG gC tw270) rfl nwm_CutTrees_CutTable_54 (gC _ tw1) (gC _ tw269) (by decide +kernel) rfl rfl (Nat.le_of_ble_eq_true rfl) dX0_sideAgainst_63 ⟨by decide, by decide⟩ ⟨Nat.le_of_ble_eq_true rfl, Nat.le_of_ble_eq_true rfl⟩ ?_
    refine x_top (nI (pn_dep 12 (kO n a b) k)) (by rw [pn_next 12 (kO n a b) (k - 1) hO (by rw [hpop, show k - 1 + 1 = k by omega]; exact hk2), show k - 1 + 1 = k by omega]) ?_
    refine x_istore (lv' := [(8, .int _), (0, .ref _), (1, .int _), (2, .int _), (3, .int _), (4, .int _), (5, .int _), (6, .int _), (7, .int _), (9, .int _)]) S dX0_sideAgainst_66 (by decide) rfl ?_
    refine x_aload_n S dX0_sideAgainst_68 1 rfl rfl ?_
    refine x_iload_n S dX0_sideAgainst_69 4 rfl rfl ?_
    refine x_iload S dX0_sideAgainst_70 0 rfl ?_
    refine x_ior S dX0_sideAgainst_72 ?_
    refine x_top (nI (2 ^ a ||| pn_dep 12 (kO n a b) k)) (pl_or _ _) ?_
    have hsd := (sd_iff hn ha hb hab _).mpr ⟨k, hk2, rfl⟩
    refine x_cVi (n := 1) S (c_cutAt h1 hA hT hsd.1) (gGV gC tw267 tw264 tw265 tw266 tw3) rfl (by decide +kernel) 18 rfl rfl rfl rfl (Nat.le_of_ble_eq_true rfl) dX0_sideAgainst_73 ⟨by decide, by decide⟩ ⟨Nat.le_of_ble_eq_true rfl, Nat.le_of_ble_eq_true rfl⟩ ?_
    have hc1 := hA.cf z
    have hc2 := hA.cf (2 ^ a ||| pn_dep 12 (kO n a b) k)
    have hst := isFM_step (Q := fun T => ∃ j, j < k + 1 ∧ T = 2 ^ a ||| pn_dep 12 (kO n a b) j) (T := 2 ^ a ||| pn_dep 12 (kO n a b) k) hz (fun U => ⟨fun ⟨j, hj, e⟩ => (Nat.lt_or_ge j k).elim (fun q => Or.inl ⟨j, q, e⟩) (fun q => Or.inr (by rw [e, show j = k by omega])), fun q => q.elim (fun ⟨j, hj, e⟩ => ⟨j, by omega, e⟩) (fun e => ⟨k, by omega, e⟩)⟩) (fun U ⟨j, hj, e⟩ => by rw [e]; exact sd_mono hn ha hb hab hj hk2)
    have ih := ih hk2 (by omega) _ hst
    rw [show k + 1 - 1 = k by omega] at ih
    refine x_istore (lv' := [(10, .int _), (8, .int _), (0, .ref _), (1, .int _), (2, .int _), (3, .int _), (4, .int _), (5, .int _), (6, .int _), (7, .int _), (9, .int _)]) S dX0_sideAgainst_76 (by decide) rfl ?_
    refine x_iload S dX0_sideAgainst_78 0 rfl ?_
    refine x_iload S dX0_sideAgainst_80 8 rfl ?_
    refine x_icmp_ge (tgt := 95) S dX0_sideAgainst_82 (by decide) (fun h3 => ?_) (fun h3 => ?_)
    · rw [if_neg (fun q => nI_ge q (by omega) h3)] at ih
      refine x_iincN (lv' := [(9, .int _), (10, .int _), (8, .int _), (0, .ref _), (1, .int _), (2, .int _), (3, .int _), (4, .int _), (5, .int _), (6, .int _), (7, .int _)]) S dX0_sideAgainst_95 10 rfl (by decide) rfl ?_
      refine x_goto (tgt := 52) S dX0_sideAgainst_98 (by decide) ?_
      exact x_sub [3, 4, 5, 6, 7, 8, 9, 10, 2, 0] rfl (ih)
    rw [if_pos (Nat.lt_of_not_le (fun q => h3 (nI_le q (by omega))))] at ih
    refine x_iload_n S dX0_sideAgainst_85 5 rfl rfl ?_
    refine x_iload S dX0_sideAgainst_86 1 rfl ?_
    refine x_ior S dX0_sideAgainst_88 ?_
    refine x_top (nI (2 ^ a ||| pn_dep 12 (kO n a b) k)) (pl_or _ _) ?_
    refine x_istore (lv' := [(5, .int _), (10, .int _), (8, .int _), (0, .ref _), (1, .int _), (2, .int _), (3, .int _), (4, .int _), (6, .int _), (7, .int _), (9, .int _)]) S dX0_sideAgainst_89 (by decide) rfl ?_
    refine x_iload S dX0_sideAgainst_91 1 rfl ?_
    refine x_istore (lv' := [(6, .int _), (5, .int _), (10, .int _), (8, .int _), (0, .ref _), (1, .int _), (2, .int _), (3, .int _), (4, .int _), (7, .int _), (9, .int _)]) S dX0_sideAgainst_93 (by decide) rfl ?_
    refine x_iincN (lv' := [(9, .int _), (6, .int _), (5, .int _), (10, .int _), (8, .int _), (0, .ref _), (1, .int _), (2, .int _), (3, .int _), (4, .int _), (7, .int _)]) S dX0_sideAgainst_95 10 rfl (by decide) rfl ?_
    refine x_goto (tgt := 52) S dX0_sideAgainst_98 (by decide) ?_
    exact x_sub [5, 6, 7, 8, 9, 2, 1, 10, 4, 0] rfl (ih)
  refine x_iconst (v := 1) S dX0_sideAgainst_0 rfl ?_
  refine x_iload_n S dX0_sideAgainst_1 1 rfl rfl ?_
  refine x_ishl S dX0_sideAgainst_2 ?_
  refine x_top (nI (2 ^ a)) (pl_one (by omega)) ?_
  refine x_istore_n (lv' := [(3, .int _), (0, .ref _), (1, .int _), (2, .int _)]) S dX0_sideAgainst_3 rfl (by decide) rfl ?_
  refine x_aload_n S dX0_sideAgainst_4 1 rfl rfl ?_
  refine x_get S 18 0 rfl rfl inC0 (by decide) (gC _ tw76) rfl rfl dX0_sideAgainst_5 ?_
  refine x_cVi (n := 0) S (c_allNodes hn) (gGV gC tw230 tw263 tw228 tw229 tw2) rfl (by decide +kernel) 0 rfl rfl rfl rfl (Nat.le_of_ble_eq_true rfl) dX0_sideAgainst_8 ⟨by decide, by decide⟩ ⟨Nat.le_of_ble_eq_true rfl, Nat.le_of_ble_eq_true rfl⟩ ?_
  refine x_iload_n S dX0_sideAgainst_11 0 rfl rfl ?_
  refine x_iconst (v := -1) S dX0_sideAgainst_12 rfl ?_
  refine x_ixor S dX0_sideAgainst_13 ?_
  refine x_iand S dX0_sideAgainst_14 ?_
  refine x_iconst (v := 1) S dX0_sideAgainst_15 rfl ?_
  refine x_iload_n S dX0_sideAgainst_16 3 rfl rfl ?_
  refine x_ishl S dX0_sideAgainst_17 ?_
  refine x_iconst (v := -1) S dX0_sideAgainst_18 rfl ?_
  refine x_ixor S dX0_sideAgainst_19 ?_
  refine x_iand S dX0_sideAgainst_20 ?_
  refine x_top (nI (kO n a b)) (by rw [pl_one (by omega), pl_di_I, pl_di_I]) ?_
  refine x_istore (lv' := [(4, .int _), (3, .int _), (0, .ref _), (1, .int _), (2, .int _)]) S dX0_sideAgainst_21 (by decide) rfl ?_
  refine x_iload_n S dX0_sideAgainst_23 1 rfl rfl ?_
  refine x_istore (lv' := [(5, .int _), (4, .int _), (3, .int _), (0, .ref _), (1, .int _), (2, .int _)]) S dX0_sideAgainst_24 (by decide) rfl ?_
  refine x_aload_n S dX0_sideAgainst_26 3 rfl rfl ?_
  refine x_iload_n S dX0_sideAgainst_27 2 rfl rfl ?_
  refine x_cVi (n := 1) S (c_cutAt h1 hA hT (pl_pow ha)) (gGV gC tw267 tw264 tw265 tw266 tw3) rfl (by decide +kernel) 18 rfl rfl rfl rfl (Nat.le_of_ble_eq_true rfl) dX0_sideAgainst_28 ⟨by decide, by decide⟩ ⟨Nat.le_of_ble_eq_true rfl, Nat.le_of_ble_eq_true rfl⟩ ?_
  refine x_istore (lv' := [(6, .int _), (5, .int _), (4, .int _), (3, .int _), (0, .ref _), (1, .int _), (2, .int _)]) S dX0_sideAgainst_31 (by decide) rfl ?_
  refine x_iconst (v := 1) S dX0_sideAgainst_33 rfl ?_
  refine x_aload_n S dX0_sideAgainst_34 4 rfl rfl ?_
  refine x_get S 18 0 rfl rfl inC0 (by decide) (gC _ tw76) rfl rfl dX0_sideAgainst_35 ?_
  refine x_get S 0 5 rfl rfl inC2 (by decide) (gC _ tw40) rfl rfl dX0_sideAgainst_38 ?_
  refine x_iconst (v := 2) S dX0_sideAgainst_41 rfl ?_
  refine x_isub S dX0_sideAgainst_42 ?_
  refine x_ishl S dX0_sideAgainst_43 ?_
  refine x_top (nI (2 ^ (n - 2))) (by rw [show (2 : Int32) = nI 2 from rfl, pk_sub (by omega), pl_one (by omega)]) ?_
  refine x_istore (lv' := [(7, .int _), (6, .int _), (5, .int _), (4, .int _), (3, .int _), (0, .ref _), (1, .int _), (2, .int _)]) S dX0_sideAgainst_44 (by decide) rfl ?_
  refine x_iconst (v := 0) S dX0_sideAgainst_46 rfl ?_
  refine x_istore (lv' := [(8, .int _), (7, .int _), (6, .int _), (5, .int _), (4, .int _), (3, .int _), (0, .ref _), (1, .int _), (2, .int _)]) S dX0_sideAgainst_47 (by decide) rfl ?_
  refine x_iconst (v := 1) S dX0_sideAgainst_49 rfl ?_
  refine x_istore (lv' := [(9, .int _), (8, .int _), (7, .int _), (6, .int _), (5, .int _), (4, .int _), (3, .int _), (0, .ref _), (1, .int _), (2, .int _)]) S dX0_sideAgainst_50 (by decide) rfl ?_
  have h0 : isFM (kC fr to wt am) (fun T => ∃ j, j < 1 ∧ T = 2 ^ a ||| pn_dep 12 (kO n a b) j) (2 ^ a) := isFM_one (fun U => ⟨fun ⟨j, hj, e⟩ => by rw [e, show j = 0 by omega, pn_zero, Nat.or_zero], fun e => ⟨0, by omega, by rw [e, pn_zero, Nat.or_zero]⟩⟩)
  have hL := L 1 (Nat.two_pow_pos _) (Nat.le_refl _) _ h0
  rw [show 1 - 1 = 0 by rfl, pn_zero] at hL
  exact x_sub [7, 8, 9, 6, 5, 4, 3, 2, 1, 0] rfl (hL)
set_option maxHeartbeats 4000000 in
set_option maxRecDepth 100000 in
theorem c_cutBetween {a b Z : Nat} (h1 : 1 ≤ n) (hA : aOK n am fr to wt) (hT : tOK n am fr to wt cu) (ha : a < n) (hb : b < n) (hab : a ≠ b) (hZ : isFM (kC fr to wt am) (isSd n a b) Z) : xMet l yX0_cutBetween wX0_cutBetween (rD 3) D vwCl (tyC cI cII cP cZ) nwC [.ref (ad 18), .int (nI a), .int (nI b)] (cw ad cI cII cP n am al ch fr to wt nb M tch cu rch pa br gp P ++ X) (cw ad cI cII cP n am al ch fr to wt nb M tch cu rch pa br gp P ++ X) (some (.int (nI (kC fr to wt am Z)))) := by
  refine xMet_of (cc := cX0_cutBetween) (maxL := 3) (ret := (some .int)) (by decide +kernel) rfl (Nat.le_of_ble_eq_true rfl) xfi ?_
  intro E S hnm hret
  show xW E D vwCl 3 0 0 _ [(0, .ref (ad 18)), (1, .int (nI a)), (2, .int (nI b))] 0 []
  refine x_aload_n S dX0_cutBetween_0 0 rfl rfl ?_
  refine x_aload_n S dX0_cutBetween_1 0 rfl rfl ?_
  refine x_iload_n S dX0_cutBetween_2 1 rfl rfl ?_
  refine x_iload_n S dX0_cutBetween_3 2 rfl rfl ?_
  refine x_cVi (n := 2) S (c_sideAgainst h1 hA hT ha hb hab hZ) (gGV gC tw262 tw259 tw260 tw261 tw3) rfl (by decide +kernel) 18 rfl rfl rfl rfl (Nat.le_of_ble_eq_true rfl) dX0_cutBetween_4 ⟨by decide, by decide⟩ ⟨Nat.le_of_ble_eq_true rfl, Nat.le_of_ble_eq_true rfl⟩ ?_
  refine x_cVi (n := 1) S (c_cutAt h1 hA hT hZ.1.1) (gGV gC tw267 tw264 tw265 tw266 tw3) rfl (by decide +kernel) 18 rfl rfl rfl rfl (Nat.le_of_ble_eq_true rfl) dX0_cutBetween_7 ⟨by decide, by decide⟩ ⟨Nat.le_of_ble_eq_true rfl, Nat.le_of_ble_eq_true rfl⟩ ?_
  exact x_ret hret rfl dX0_cutBetween_10
set_option maxHeartbeats 4000000 in
set_option maxRecDepth 100000 in
theorem c_leastCut {Z : Nat} (h2 : 2 ≤ n) (h1 : 1 ≤ n) (hA : aOK n am fr to wt) (hT : tOK n am fr to wt cu) (hZ : isFM (kC fr to wt am) (evP n) Z) : xMet l yX0_leastCut wX0_leastCut (rD 2) D vwCl (tyC cI cII cP cZ) nwC [.ref (ad 18)] (cw ad cI cII cP n am al ch fr to wt nb M tch cu rch pa br gp P ++ X) (cw ad cI cII cP n am al ch fr to wt nb M tch cu rch pa br gp P ++ X) (some (.int (nI (kC fr to wt am Z)))) := by
  refine xMet_of (cc := cX0_leastCut) (maxL := 3) (ret := (some .int)) (by decide +kernel) rfl (Nat.le_of_ble_eq_true rfl) xfi ?_
  intro E S hnm hret
  show xW E D vwCl 3 0 0 _ [(0, .ref (ad 18))] 0 []
  have hn := hA.1
  have hpn := pl_pow12 hn
  have hps := p2_s h1
  have hp2 : 2 ≤ 2 ^ (n - 1) := by have := Nat.pow_le_pow_right (n := 2) (by omega) (show 1 ≤ n - 1 by omega); omega
  have L : ∀ k, k ≤ 2 ^ (n - 1) - 1 → 1 ≤ k → ∀ z, isFM (kC fr to wt am) (fun T => ∃ j, j < k ∧ T = 2 * (j + 1)) z → xW E D vwCl 3 0 0 (cw ad cI cII cP n am al ch fr to wt nb M tch cu rch pa br gp P ++ X) [(0, .ref (ad 18)), (1, .int (nI (kC fr to wt am z))), (2, .int (nI (2 * (k + 1))))] 8 [] := by
    refine pl_up (2 ^ (n - 1) - 1) (fun k hk ih => ?_)
    intro hk1 z hz
    refine x_iload_n S dX0_leastCut_8 2 rfl rfl ?_
    refine x_aload_n S dX0_leastCut_9 0 rfl rfl ?_
    refine x_get S 18 0 rfl rfl inC0 (by decide) (gC _ tw76) rfl rfl dX0_leastCut_10 ?_
    refine x_cVi (n := 0) S (c_allNodes hn) (gGV gC tw230 tw263 tw228 tw229 tw2) rfl (by decide +kernel) 0 rfl rfl rfl rfl (Nat.le_of_ble_eq_true rfl) dX0_leastCut_13 ⟨by decide, by decide⟩ ⟨Nat.le_of_ble_eq_true rfl, Nat.le_of_ble_eq_true rfl⟩ ?_
    refine x_icmp_gt (tgt := 35) S dX0_leastCut_16 (by decide) (fun h3 => ?_) (fun h3 => ?_)
    · have hk2 : k = 2 ^ (n - 1) - 1 := by have := (nI_ltI (by omega) (by omega)).mp h3; omega
      subst hk2
      refine x_iload_n S dX0_leastCut_35 1 rfl rfl ?_
      exact x_ret hret (by rw [isFM_uniq hz hZ]) dX0_leastCut_36
    have hk2 : k < 2 ^ (n - 1) - 1 := by have := Nat.le_of_not_lt (fun q => h3 (nI_lt q (by omega))); omega
    refine x_iload_n S dX0_leastCut_19 1 rfl rfl ?_
    refine x_aload_n S dX0_leastCut_20 0 rfl rfl ?_
    refine x_iload_n S dX0_leastCut_21 2 rfl rfl ?_
    refine x_cVi (n := 1) S (c_cutAt h1 hA hT (by omega)) (gGV gC tw267 tw264 tw265 tw266 tw3) rfl (by decide +kernel) 18 rfl rfl rfl rfl (Nat.le_of_ble_eq_true rfl) dX0_leastCut_22 ⟨by decide, by decide⟩ ⟨Nat.le_of_ble_eq_true rfl, Nat.le_of_ble_eq_true rfl⟩ ?_
    have hc1 := hA.cf z
    have hc2 := hA.cf (2 * (k + 1))
    have hst := isFM_step (Q := fun T => ∃ j, j < k + 1 ∧ T = 2 * (j + 1)) (T := 2 * (k + 1)) hz (fun U => ⟨fun ⟨j, hj, e⟩ => (Nat.lt_or_ge j k).elim (fun q => Or.inl ⟨j, q, e⟩) (fun q => Or.inr (by rw [e, show j = k by omega])), fun q => q.elim (fun ⟨j, hj, e⟩ => ⟨j, by omega, e⟩) (fun e => ⟨k, by omega, e⟩)⟩) (fun U ⟨j, hj, e⟩ => by rw [e]; omega)
    have ih := ih hk2 (by omega) _ hst
    refine x_mmin S (gC _ tw326) (gC _ tw309) (gC _ tw8) (gC _ tw310) (by decide) (Nat.le_of_ble_eq_true rfl) (Nat.le_of_ble_eq_true rfl) (Nat.le_of_ble_eq_true rfl) dX0_leastCut_25 ?_
    refine x_top (nI (kC fr to wt am (if kC fr to wt am (2 * (k + 1)) < kC fr to wt am z then 2 * (k + 1) else z))) ?_ ?_
    · by_cases q : kC fr to wt am (2 * (k + 1)) < kC fr to wt am z
      · rw [if_pos q, if_pos (nI_lt q (by omega))]
      · rw [if_neg q, if_neg (nI_nlt (by omega) (by omega))]
    refine x_istore_n (lv' := [(1, .int _), (0, .ref _), (2, .int _)]) S dX0_leastCut_28 rfl (by decide) rfl ?_
    refine x_iinc2N (lv' := [(2, .int _), (1, .int _), (0, .ref _)]) (j' := 2 * (k + 1 + 1)) S dX0_leastCut_29 2 rfl (by omega) (by decide) rfl ?_
    refine x_goto (tgt := 8) S dX0_leastCut_32 (by decide) ?_
    exact x_sub [2, 1, 0] rfl (ih)
  refine x_aload_n S dX0_leastCut_0 0 rfl rfl ?_
  refine x_iconst (v := 2) S dX0_leastCut_1 rfl ?_
  refine x_cVi (n := 1) S (c_cutAt (s := 2) h1 hA hT (by omega)) (gGV gC tw267 tw264 tw265 tw266 tw3) rfl (by decide +kernel) 18 rfl rfl rfl rfl (Nat.le_of_ble_eq_true rfl) dX0_leastCut_2 ⟨by decide, by decide⟩ ⟨Nat.le_of_ble_eq_true rfl, Nat.le_of_ble_eq_true rfl⟩ ?_
  refine x_istore_n (lv' := [(1, .int _), (0, .ref _)]) S dX0_leastCut_5 rfl (by decide) rfl ?_
  refine x_iconst (v := 4) S dX0_leastCut_6 rfl ?_
  refine x_istore_n (lv' := [(2, .int _), (1, .int _), (0, .ref _)]) S dX0_leastCut_7 rfl (by decide) rfl ?_
  exact x_sub [2, 1, 0] rfl (L 1 (by omega) (Nat.le_refl _) 2 (isFM_one (fun U => ⟨fun ⟨j, hj, e⟩ => by rw [e]; omega, fun e => ⟨0, by omega, e⟩⟩)))
set_option maxHeartbeats 4000000 in
set_option maxRecDepth 100000 in
theorem c_countLeastOnes {Z : Nat} (h2 : 2 ≤ n) (h1 : 1 ≤ n) (hA : aOK n am fr to wt) (hT : tOK n am fr to wt cu) (hZ : isFM (kC fr to wt am) (evP n) Z) : xMet l yX0_countLeastOnes wX0_countLeastOnes (rD 3) D vwCl (tyC cI cII cP cZ) nwC [.ref (ad 18)] (cw ad cI cII cP n am al ch fr to wt nb M tch cu rch pa br gp P ++ X) (cw ad cI cII cP n am al ch fr to wt nb M tch cu rch pa br gp P ++ X) (some (.int (nI (kCnt (kC fr to wt am) (kC fr to wt am Z) (2 ^ (n - 1) - 1))))) := by
  refine xMet_of (cc := cX0_countLeastOnes) (maxL := 4) (ret := (some .int)) (by decide +kernel) rfl (Nat.le_of_ble_eq_true rfl) xfi ?_
  intro E S hnm hret
  show xW E D vwCl 4 0 0 _ [(0, .ref (ad 18))] 0 []
  have hn := hA.1
  have hpn := pl_pow12 hn
  have hps := p2_s h1
  have hcz := hA.cf Z
  have L : ∀ k, k ≤ 2 ^ (n - 1) - 1 → xW E D vwCl 4 0 0 (cw ad cI cII cP n am al ch fr to wt nb M tch cu rch pa br gp P ++ X) [(0, .ref (ad 18)), (1, .int (nI (kC fr to wt am Z))), (2, .int (nI (kCnt (kC fr to wt am) (kC fr to wt am Z) k))), (3, .int (nI (2 * (k + 1))))] 9 [] := by
    refine pl_up (2 ^ (n - 1) - 1) (fun k hk ih => ?_)
    refine x_iload_n S dX0_countLeastOnes_9 3 rfl rfl ?_
    refine x_aload_n S dX0_countLeastOnes_10 0 rfl rfl ?_
    refine x_get S 18 0 rfl rfl inC0 (by decide) (gC _ tw76) rfl rfl dX0_countLeastOnes_11 ?_
    refine x_cVi (n := 0) S (c_allNodes hn) (gGV gC tw230 tw263 tw228 tw229 tw2) rfl (by decide +kernel) 0 rfl rfl rfl rfl (Nat.le_of_ble_eq_true rfl) dX0_countLeastOnes_14 ⟨by decide, by decide⟩ ⟨Nat.le_of_ble_eq_true rfl, Nat.le_of_ble_eq_true rfl⟩ ?_
    refine x_icmp_gt (tgt := 38) S dX0_countLeastOnes_17 (by decide) (fun h3 => ?_) (fun h3 => ?_)
    · have hk2 : k = 2 ^ (n - 1) - 1 := by have := (nI_ltI (by omega) (by omega)).mp h3; omega
      subst hk2
      refine x_iload_n S dX0_countLeastOnes_38 2 rfl rfl ?_
      exact x_ret hret rfl dX0_countLeastOnes_39
    have hk2 : k < 2 ^ (n - 1) - 1 := by have := Nat.le_of_not_lt (fun q => h3 (nI_lt q (by omega))); omega
    refine x_aload_n S dX0_countLeastOnes_20 0 rfl rfl ?_
    refine x_iload_n S dX0_countLeastOnes_21 3 rfl rfl ?_
    refine x_cVi (n := 1) S (c_cutAt h1 hA hT (by omega)) (gGV gC tw267 tw264 tw265 tw266 tw3) rfl (by decide +kernel) 18 rfl rfl rfl rfl (Nat.le_of_ble_eq_true rfl) dX0_countLeastOnes_22 ⟨by decide, by decide⟩ ⟨Nat.le_of_ble_eq_true rfl, Nat.le_of_ble_eq_true rfl⟩ ?_
    have hc2 := hA.cf (2 * (k + 1))
    have ih := ih hk2
    rw [kCnt_s] at ih
    refine x_iload_n S dX0_countLeastOnes_25 1 rfl rfl ?_
    refine x_icmp_ne (tgt := 32) S dX0_countLeastOnes_26 (by decide) (fun h4 => ?_) (fun h4 => ?_)
    rotate_left
    · rw [if_pos (pl_inj (by omega) (by omega) h4)] at ih
      refine x_iincN (lv' := [(2, .int _), (0, .ref _), (1, .int _), (3, .int _)]) S dX0_countLeastOnes_29 2 rfl (by decide) rfl ?_
      refine x_iinc2N (lv' := [(3, .int _), (2, .int _), (0, .ref _), (1, .int _)]) (j' := 2 * (k + 1 + 1)) S dX0_countLeastOnes_32 3 rfl (by omega) (by decide) rfl ?_
      refine x_goto (tgt := 9) S dX0_countLeastOnes_35 (by decide) ?_
      exact x_sub [2, 3, 1, 0] rfl (ih)
    rw [if_neg (fun q => h4 (by rw [q]))] at ih
    refine x_iinc2N (lv' := [(3, .int _), (0, .ref _), (1, .int _), (2, .int _)]) (j' := 2 * (k + 1 + 1)) S dX0_countLeastOnes_32 3 rfl (by omega) (by decide) rfl ?_
    refine x_goto (tgt := 9) S dX0_countLeastOnes_35 (by decide) ?_
    exact x_sub [1, 2, 3, 0] rfl (ih)
  refine x_aload_n S dX0_countLeastOnes_0 0 rfl rfl ?_
  refine x_cVi (n := 0) S (c_leastCut h2 h1 hA hT hZ) (gGV gC tw325 tw335 tw323 tw324 tw3) rfl (by decide +kernel) 18 rfl rfl rfl rfl (Nat.le_of_ble_eq_true rfl) dX0_countLeastOnes_1 ⟨by decide, by decide⟩ ⟨Nat.le_of_ble_eq_true rfl, Nat.le_of_ble_eq_true rfl⟩ ?_
  refine x_istore_n (lv' := [(1, .int _), (0, .ref _)]) S dX0_countLeastOnes_4 rfl (by decide) rfl ?_
  refine x_iconst (v := 0) S dX0_countLeastOnes_5 rfl ?_
  refine x_istore_n (lv' := [(2, .int _), (1, .int _), (0, .ref _)]) S dX0_countLeastOnes_6 rfl (by decide) rfl ?_
  refine x_iconst (v := 2) S dX0_countLeastOnes_7 rfl ?_
  refine x_istore_n (lv' := [(3, .int _), (2, .int _), (1, .int _), (0, .ref _)]) S dX0_countLeastOnes_8 rfl (by decide) rfl ?_
  exact x_sub [3, 2, 1, 0] rfl (L 0 (Nat.zero_le _))
set_option maxHeartbeats 4000000 in
set_option maxRecDepth 100000 in
theorem c_leastOne {Z κ : Nat} (h2 : 2 ≤ n) (hκ : κ < 2 ^ 31) (h1 : 1 ≤ n) (hA : aOK n am fr to wt) (hT : tOK n am fr to wt cu) (hZ : isFM (kC fr to wt am) (evP n) Z) : xMet l yX0_leastOne wX0_leastOne (rD 3) D vwCl (tyC cI cII cP cZ) nwC [.ref (ad 18), .int (nI κ)] (cw ad cI cII cP n am al ch fr to wt nb M tch cu rch pa br gp P ++ X) (cw ad cI cII cP n am al ch fr to wt nb M tch cu rch pa br gp P ++ X) (some (.int (kLO (kC fr to wt am) (kC fr to wt am Z) κ (2 ^ (n - 1) - 1) 0))) := by
  refine xMet_of (cc := cX0_leastOne) (maxL := 5) (ret := (some .int)) (by decide +kernel) rfl (Nat.le_of_ble_eq_true rfl) xfi ?_
  intro E S hnm hret
  show xW E D vwCl 5 0 0 _ [(0, .ref (ad 18)), (1, .int (nI κ))] 0 []
  have hn := hA.1
  have hpn := pl_pow12 hn
  have hps := p2_s h1
  have hcz := hA.cf Z
  have L : ∀ k, k ≤ 2 ^ (n - 1) - 1 → kLO (kC fr to wt am) (kC fr to wt am Z) κ (2 ^ (n - 1) - 1) 0 = kLO (kC fr to wt am) (kC fr to wt am Z) κ (2 ^ (n - 1) - 1 - k) k → xW E D vwCl 5 0 0 (cw ad cI cII cP n am al ch fr to wt nb M tch cu rch pa br gp P ++ X) [(0, .ref (ad 18)), (1, .int (nI κ)), (2, .int (nI (kC fr to wt am Z))), (3, .int (nI (kCnt (kC fr to wt am) (kC fr to wt am Z) k))), (4, .int (nI (2 * (k + 1))))] 10 [] := by
    refine pl_up (2 ^ (n - 1) - 1) (fun k hk ih => ?_)
    intro hv
    refine x_iload S dX0_leastOne_10 4 rfl ?_
    refine x_aload_n S dX0_leastOne_12 0 rfl rfl ?_
    refine x_get S 18 0 rfl rfl inC0 (by decide) (gC _ tw76) rfl rfl dX0_leastOne_13 ?_
    refine x_cVi (n := 0) S (c_allNodes hn) (gGV gC tw230 tw263 tw228 tw229 tw2) rfl (by decide +kernel) 0 rfl rfl rfl rfl (Nat.le_of_ble_eq_true rfl) dX0_leastOne_16 ⟨by decide, by decide⟩ ⟨Nat.le_of_ble_eq_true rfl, Nat.le_of_ble_eq_true rfl⟩ ?_
    refine x_icmp_gt (tgt := 49) S dX0_leastOne_19 (by decide) (fun h3 => ?_) (fun h3 => ?_)
    · have hk2 : k = 2 ^ (n - 1) - 1 := by have := (nI_ltI (by omega) (by omega)).mp h3; omega
      refine x_iconst (v := -1) S dX0_leastOne_49 rfl ?_
      exact x_ret hret (by rw [hv, hk2, Nat.sub_self]; rfl) dX0_leastOne_50
    have hk2 : k < 2 ^ (n - 1) - 1 := by have := Nat.le_of_not_lt (fun q => h3 (nI_lt q (by omega))); omega
    refine x_aload_n S dX0_leastOne_22 0 rfl rfl ?_
    refine x_iload S dX0_leastOne_23 4 rfl ?_
    refine x_cVi (n := 1) S (c_cutAt h1 hA hT (by omega)) (gGV gC tw267 tw264 tw265 tw266 tw3) rfl (by decide +kernel) 18 rfl rfl rfl rfl (Nat.le_of_ble_eq_true rfl) dX0_leastOne_25 ⟨by decide, by decide⟩ ⟨Nat.le_of_ble_eq_true rfl, Nat.le_of_ble_eq_true rfl⟩ ?_
    have hc2 := hA.cf (2 * (k + 1))
    have hct := kCnt_le (kC fr to wt am) (kC fr to wt am Z) k
    rw [show 2 ^ (n - 1) - 1 - k = (2 ^ (n - 1) - 1 - (k + 1)) + 1 by omega] at hv
    simp only [kLO] at hv
    have ih := ih hk2
    rw [kCnt_s] at ih
    refine x_iload_n S dX0_leastOne_28 2 rfl rfl ?_
    refine x_icmp_ne (tgt := 43) S dX0_leastOne_29 (by decide) (fun h4 => ?_) (fun h4 => ?_)
    rotate_left
    · have h4 := pl_inj (by omega) (by omega) h4
      rw [if_pos h4] at ih hv
      refine x_iload_n S dX0_leastOne_32 3 rfl rfl ?_
      refine x_iload_n S dX0_leastOne_33 1 rfl rfl ?_
      refine x_icmp_ne (tgt := 40) S dX0_leastOne_34 (by decide) (fun h5 => ?_) (fun h5 => ?_)
      rotate_left
      · rw [if_pos (pl_inj (by omega) hκ h5)] at hv
        refine x_iload S dX0_leastOne_37 4 rfl ?_
        exact x_ret hret hv.symm dX0_leastOne_39
      rw [if_neg (fun q => h5 (by rw [q]))] at hv
      refine x_iincN (lv' := [(3, .int _), (0, .ref _), (1, .int _), (2, .int _), (4, .int _)]) S dX0_leastOne_40 3 rfl (by decide) rfl ?_
      refine x_iinc2N (lv' := [(4, .int _), (3, .int _), (0, .ref _), (1, .int _), (2, .int _)]) (j' := 2 * (k + 1 + 1)) S dX0_leastOne_43 4 rfl (by omega) (by decide) rfl ?_
      refine x_goto (tgt := 10) S dX0_leastOne_46 (by decide) ?_
      exact x_sub [2, 3, 4, 1, 0] rfl (ih hv)
    rw [if_neg (fun q => h4 (by rw [q]))] at ih hv
    refine x_iinc2N (lv' := [(4, .int _), (0, .ref _), (1, .int _), (2, .int _), (3, .int _)]) (j' := 2 * (k + 1 + 1)) S dX0_leastOne_43 4 rfl (by omega) (by decide) rfl ?_
    refine x_goto (tgt := 10) S dX0_leastOne_46 (by decide) ?_
    exact x_sub [1, 2, 3, 4, 0] rfl (ih hv)
  refine x_aload_n S dX0_leastOne_0 0 rfl rfl ?_
  refine x_cVi (n := 0) S (c_leastCut h2 h1 hA hT hZ) (gGV gC tw325 tw335 tw323 tw324 tw3) rfl (by decide +kernel) 18 rfl rfl rfl rfl (Nat.le_of_ble_eq_true rfl) dX0_leastOne_1 ⟨by decide, by decide⟩ ⟨Nat.le_of_ble_eq_true rfl, Nat.le_of_ble_eq_true rfl⟩ ?_
  refine x_istore_n (lv' := [(2, .int _), (0, .ref _), (1, .int _)]) S dX0_leastOne_4 rfl (by decide) rfl ?_
  refine x_iconst (v := 0) S dX0_leastOne_5 rfl ?_
  refine x_istore_n (lv' := [(3, .int _), (2, .int _), (0, .ref _), (1, .int _)]) S dX0_leastOne_6 rfl (by decide) rfl ?_
  refine x_iconst (v := 2) S dX0_leastOne_7 rfl ?_
  refine x_istore (lv' := [(4, .int _), (3, .int _), (2, .int _), (0, .ref _), (1, .int _)]) S dX0_leastOne_8 (by decide) rfl ?_
  exact x_sub [3, 4, 2, 1, 0] rfl (L 0 (Nat.zero_le _) rfl)
end TB
end
section
/-! CutTable: contracts, 2 -/
section TB2
theorem pop_n : ∀ (w n s : Nat), s < 2 ^ n → pn_pop w s ≤ n
  | 0, n, s, h => Nat.zero_le _
  | w + 1, 0, s, h => by
    have : s = 0 := by simpa using h
    subst this
    have := pop_n w 0 0 (by simp)
    simp only [pn_pop]
    omega
  | w + 1, n + 1, s, h => by
    rw [Nat.pow_succ] at h
    have := pop_n w n (s / 2) (by omega)
    simp only [pn_pop]
    omega
def kSpr (n s : Nat) : Nat := kP s * (n - kP s)
theorem kSpr_le {n s : Nat} (hn : n ≤ 12) : kSpr n s ≤ 144 := by
  have h1 : kP s ≤ 12 := pop_le 12 s
  have : kP s * (n - kP s) ≤ 12 * 12 := Nat.mul_le_mul h1 (by omega)
  exact this
theorem mul_bd {a b c : Nat} (h1 : a ≤ 50000) (h2 : b ≤ 144) : a * b < 2 ^ 31 := by
  have : a * b ≤ 50000 * 144 := Nat.mul_le_mul h1 h2
  omega
variable {l : Launch} {D : va_G} {ad : Nat → Nat} {cI cII cP cZ : ClassId} {n am al ch : Nat} {fr to wt nb : Nat → Nat} {M : Nat → Nat → Nat} {tch : Int32} {cu : Nat → Nat} {rch : Int32} {pa br gp : Nat → Nat} {P : Nat → Int32 × Nat × (Nat → Nat) × (Nat → Nat)} {X : va_W}
set_option maxHeartbeats 4000000 in
set_option maxRecDepth 100000 in
theorem c_sparsestSide (h2 : 2 ≤ n) (h1 : 1 ≤ n) (hA : aOK n am fr to wt) (hT : tOK n am fr to wt cu) : xMet l yX0_sparsestSide wX0_sparsestSide (rD 2) D vwCl (tyC cI cII cP cZ) nwC [.ref (ad 18)] (cw ad cI cII cP n am al ch fr to wt nb M tch cu rch pa br gp P ++ X) (cw ad cI cII cP n am al ch fr to wt nb M tch cu rch pa br gp P ++ X) (some (.int (nI (kSp (kC fr to wt am) (kSpr n) (2 ^ (n - 1) - 2))))) := by
  refine xMet_of (cc := cX0_sparsestSide) (maxL := 7) (ret := (some .int)) (by decide +kernel) rfl (Nat.le_of_ble_eq_true rfl) xfi ?_
  intro E S hnm hret
  show xW E D vwCl 7 0 0 _ [(0, .ref (ad 18))] 0 []
  have hn := hA.1
  have hpn := pl_pow12 hn
  have hps := p2_s h1
  have hp2 : 2 ≤ 2 ^ (n - 1) := by have := Nat.pow_le_pow_right (n := 2) (by omega) (show 1 ≤ n - 1 by omega); omega
  have L : ∀ k, k ≤ 2 ^ (n - 1) - 2 → xW E D vwCl 7 0 0 (cw ad cI cII cP n am al ch fr to wt nb M tch cu rch pa br gp P ++ X) [(0, .ref (ad 18)), (1, .int (nI (kSp (kC fr to wt am) (kSpr n) k))), (2, .int (nI (kC fr to wt am (kSp (kC fr to wt am) (kSpr n) k)))), (3, .int (nI (kSpr n (kSp (kC fr to wt am) (kSpr n) k)))), (4, .int (nI (2 * (k + 2))))] 20 [] := by
    refine pl_up (2 ^ (n - 1) - 2) (fun k hk ih => ?_)
    refine x_iload S dX0_sparsestSide_20 4 rfl ?_
    refine x_aload_n S dX0_sparsestSide_22 0 rfl rfl ?_
    refine x_get S 18 0 rfl rfl inC0 (by decide) (gC _ tw76) rfl rfl dX0_sparsestSide_23 ?_
    refine x_cVi (n := 0) S (c_allNodes hn) (gGV gC tw230 tw263 tw228 tw229 tw2) rfl (by decide +kernel) 0 rfl rfl rfl rfl (Nat.le_of_ble_eq_true rfl) dX0_sparsestSide_26 ⟨by decide, by decide⟩ ⟨Nat.le_of_ble_eq_true rfl, Nat.le_of_ble_eq_true rfl⟩ ?_
    refine x_icmp_gt (tgt := 77) S dX0_sparsestSide_29 (by decide) (fun h3 => ?_) (fun h3 => ?_)
    · have hk2 : k = 2 ^ (n - 1) - 2 := by have := (nI_ltI (by omega) (by omega)).mp h3; omega
      subst hk2
      refine x_iload_n S dX0_sparsestSide_77 1 rfl rfl ?_
      exact x_ret hret rfl dX0_sparsestSide_78
    have hk2 : k < 2 ^ (n - 1) - 2 := by have := Nat.le_of_not_lt (fun q => h3 (nI_lt q (by omega))); omega
    have ih := ih hk2
    have hs := kSp_le (kC fr to wt am) (kSpr n) k
    simp only [kSp] at ih
    have hc1 := hA.cf (2 * (k + 2))
    have hc2 := hA.cf (kSp (kC fr to wt am) (kSpr n) k)
    have hs1 := kSpr_le (s := 2 * (k + 2)) hn
    have hs2 := kSpr_le (s := kSp (kC fr to wt am) (kSpr n) k) hn
    refine x_aload_n S dX0_sparsestSide_32 0 rfl rfl ?_
    refine x_iload S dX0_sparsestSide_33 4 rfl ?_
    refine x_cVi (n := 1) S (c_cutAt h1 hA hT (by omega)) (gGV gC tw267 tw264 tw265 tw266 tw3) rfl (by decide +kernel) 18 rfl rfl rfl rfl (Nat.le_of_ble_eq_true rfl) dX0_sparsestSide_35 ⟨by decide, by decide⟩ ⟨Nat.le_of_ble_eq_true rfl, Nat.le_of_ble_eq_true rfl⟩ ?_
    refine x_istore (lv' := [(5, .int _), (0, .ref _), (1, .int _), (2, .int _), (3, .int _), (4, .int _)]) S dX0_sparsestSide_38 (by decide) rfl ?_
    refine x_aload_n S dX0_sparsestSide_40 1 rfl rfl ?_
    refine x_get S 18 0 rfl rfl inC0 (by decide) (gC _ tw76) rfl rfl dX0_sparsestSide_41 ?_
    refine x_iload S dX0_sparsestSide_44 5 rfl ?_
    refine x_cVi (n := 1) S (c_spread hn (by omega) (pop_n 12 n _ (by omega))) (gGV gC tw414 tw411 tw412 tw413 tw2) rfl (by decide +kernel) 0 rfl rfl rfl rfl (Nat.le_of_ble_eq_true rfl) dX0_sparsestSide_46 ⟨by decide, by decide⟩ ⟨Nat.le_of_ble_eq_true rfl, Nat.le_of_ble_eq_true rfl⟩ ?_
    refine x_istore (lv' := [(6, .int _), (5, .int _), (0, .ref _), (1, .int _), (2, .int _), (3, .int _), (4, .int _)]) S dX0_sparsestSide_49 (by decide) rfl ?_
    refine x_iload S dX0_sparsestSide_51 1 rfl ?_
    refine x_iload_n S dX0_sparsestSide_53 5 rfl rfl ?_
    refine x_imul S dX0_sparsestSide_54 ?_
    refine x_top (nI (kC fr to wt am (2 * (k + 2)) * kSpr n (kSp (kC fr to wt am) (kSpr n) k))) (pk_mul _ _) ?_
    refine x_iload_n S dX0_sparsestSide_55 4 rfl rfl ?_
    refine x_iload S dX0_sparsestSide_56 0 rfl ?_
    refine x_imul S dX0_sparsestSide_58 ?_
    refine x_top (nI (kC fr to wt am (kSp (kC fr to wt am) (kSpr n) k) * kSpr n (2 * (k + 2)))) (pk_mul _ _) ?_
    refine x_icmp_ge (tgt := 71) S dX0_sparsestSide_59 (by decide) (fun h4 => ?_) (fun h4 => ?_)
    · rw [if_neg (fun q => nI_ge q (mul_bd (c := 0) hc2 hs1) h4)] at ih
      refine x_iinc2N (lv' := [(4, .int _), (6, .int _), (5, .int _), (0, .ref _), (1, .int _), (2, .int _), (3, .int _)]) (j' := 2 * (k + 1 + 2)) S dX0_sparsestSide_71 6 rfl (by omega) (by decide) rfl ?_
      refine x_goto (tgt := 20) S dX0_sparsestSide_74 (by decide) ?_
      exact x_sub [3, 4, 5, 6, 0] rfl (ih)
    rw [if_pos (Nat.lt_of_not_le (fun q => h4 (nI_le q (mul_bd (c := 0) hc1 hs2))))] at ih
    refine x_iload S dX0_sparsestSide_62 6 rfl ?_
    refine x_istore_n (lv' := [(1, .int _), (6, .int _), (5, .int _), (0, .ref _), (2, .int _), (3, .int _), (4, .int _)]) S dX0_sparsestSide_64 rfl (by decide) rfl ?_
    refine x_iload S dX0_sparsestSide_65 2 rfl ?_
    refine x_istore_n (lv' := [(2, .int _), (1, .int _), (6, .int _), (5, .int _), (0, .ref _), (3, .int _), (4, .int _)]) S dX0_sparsestSide_67 rfl (by decide) rfl ?_
    refine x_iload S dX0_sparsestSide_68 2 rfl ?_
    refine x_istore_n (lv' := [(3, .int _), (2, .int _), (1, .int _), (6, .int _), (5, .int _), (0, .ref _), (4, .int _)]) S dX0_sparsestSide_70 rfl (by decide) rfl ?_
    refine x_iinc2N (lv' := [(4, .int _), (3, .int _), (2, .int _), (1, .int _), (6, .int _), (5, .int _), (0, .ref _)]) (j' := 2 * (k + 1 + 2)) S dX0_sparsestSide_71 6 rfl (by omega) (by decide) rfl ?_
    refine x_goto (tgt := 20) S dX0_sparsestSide_74 (by decide) ?_
    exact x_sub [6, 3, 2, 1, 0] rfl (ih)
  refine x_iconst (v := 2) S dX0_sparsestSide_0 rfl ?_
  refine x_istore_n (lv' := [(1, .int _), (0, .ref _)]) S dX0_sparsestSide_1 rfl (by decide) rfl ?_
  refine x_aload_n S dX0_sparsestSide_2 1 rfl rfl ?_
  refine x_iconst (v := 2) S dX0_sparsestSide_3 rfl ?_
  refine x_cVi (n := 1) S (c_cutAt (s := 2) h1 hA hT (by omega)) (gGV gC tw267 tw264 tw265 tw266 tw3) rfl (by decide +kernel) 18 rfl rfl rfl rfl (Nat.le_of_ble_eq_true rfl) dX0_sparsestSide_4 ⟨by decide, by decide⟩ ⟨Nat.le_of_ble_eq_true rfl, Nat.le_of_ble_eq_true rfl⟩ ?_
  refine x_istore_n (lv' := [(2, .int _), (1, .int _), (0, .ref _)]) S dX0_sparsestSide_7 rfl (by decide) rfl ?_
  refine x_aload_n S dX0_sparsestSide_8 2 rfl rfl ?_
  refine x_get S 18 0 rfl rfl inC0 (by decide) (gC _ tw76) rfl rfl dX0_sparsestSide_9 ?_
  refine x_iconst (v := 2) S dX0_sparsestSide_12 rfl ?_
  refine x_cVi (n := 1) S (c_spread (s := 2) hn (by omega) (pop_n 12 n _ (by omega))) (gGV gC tw414 tw411 tw412 tw413 tw2) rfl (by decide +kernel) 0 rfl rfl rfl rfl (Nat.le_of_ble_eq_true rfl) dX0_sparsestSide_13 ⟨by decide, by decide⟩ ⟨Nat.le_of_ble_eq_true rfl, Nat.le_of_ble_eq_true rfl⟩ ?_
  refine x_istore_n (lv' := [(3, .int _), (2, .int _), (1, .int _), (0, .ref _)]) S dX0_sparsestSide_16 rfl (by decide) rfl ?_
  refine x_iconst (v := 4) S dX0_sparsestSide_17 rfl ?_
  refine x_istore (lv' := [(4, .int _), (3, .int _), (2, .int _), (1, .int _), (0, .ref _)]) S dX0_sparsestSide_18 (by decide) rfl ?_
  exact x_sub [4, 3, 2, 1, 0] rfl (L 0 (Nat.zero_le _))
set_option maxHeartbeats 4000000 in
set_option maxRecDepth 100000 in
theorem c_fillSetsUpTo {v : Nat} (hA : aOK n am fr to wt) (hM : mOK am fr to wt M) (hv1 : 1 ≤ v) (hv : v < n) (hc : ∀ p, p < 2 ^ (v - 1) → cu p = kC fr to wt am (2 * p)) : xMetS l yX0_fillSetsUpTo wX0_fillSetsUpTo (rD 1) D vwCl (tyC cI cII cP cZ) nwC [.ref (ad 18), .int (nI v)] (cw ad cI cII cP n am al ch fr to wt nb M tch cu rch pa br gp P ++ X) (fun c : Nat → Nat => ∀ p, p < 2 ^ v → c p = kC fr to wt am (2 * p)) (fun c => (cw ad cI cII cP n am al ch fr to wt nb M tch c rch pa br gp P ++ X)) (fun _ => none) := by
  refine xMetS_of (cc := cX0_fillSetsUpTo) (maxL := 7) (ret := none) (by decide +kernel) rfl (Nat.le_of_ble_eq_true rfl) (fun _ _ => xfv) ?_
  intro E S hnm hret
  show xW E D vwCl 7 0 0 _ [(0, .ref (ad 18)), (1, .int (nI v))] 0 []
  have hn := hA.1
  obtain ⟨q, hq⟩ : ∃ q, q = 2 ^ (v - 1) := ⟨_, rfl⟩
  have hq0 : 0 < q := by rw [hq]; exact Nat.two_pow_pos _
  have hqv : 2 ^ v = 2 * q := by rw [hq]; exact p2_s hv1
  have hq10 : q ≤ 1024 := by rw [hq]; exact Nat.pow_le_pow_right (n := 2) (by omega) (show v - 1 ≤ 10 by omega)
  rw [← hq] at hc
  have hMv : ∀ u, u < n → M v u = kM fr to wt am v u := fun u hu => hM v u (by omega) (by omega)
  have hK : ∀ r, r < q → kC fr to wt am (2 * (q + r)) + 2 * kV M v n (2 * r) = kC fr to wt am (2 * r) + sm (fun u => M v u) n := by
    intro r hr
    have hb : (2 * r).testBit v = false := Nat.testBit_lt_two_pow (by omega)
    have h3 := kC_step (fr := fr) (to := to) (wt := wt) (k := am) (n := n) (v := v) (S := 2 * r) hA.st hb
    rw [or_add _ _ hb, hqv, show 2 * r + 2 * q = 2 * (q + r) by omega] at h3
    unfold kV
    rw [sm_congr (g := fun u => if (2 * r).testBit u = true then kM fr to wt am v u else 0) (fun u hu => by rw [hMv u hu]), sm_congr (g := fun u => kM fr to wt am v u) (fun u hu => hMv u hu)]
    exact h3
  have L3 : ∀ k, k ≤ q → ∀ c : Nat → Nat, (∀ p, p < q → c p = kC fr to wt am (2 * p)) → (∀ r, r < k → c (q + r) = kC fr to wt am (2 * (q + r))) → (∀ r, k ≤ r → r < q → c (q + r) = kV M v n (2 * r)) → ∀ x5 x6 : Int32, xW E D vwCl 7 0 0 (cw ad cI cII cP n am al ch fr to wt nb M tch c rch pa br gp P ++ X) [(0, .ref (ad 18)), (1, .int (nI v)), (2, .int (nI q)), (3, .int (nI (sm (fun u => M v u) n))), (4, .int (nI k))] 98 [] := by
    refine pl_up q (fun k hk ih => ?_)
    intro c g1 g2 g3 x5 x6
    refine x_iload S dX0_fillSetsUpTo_98 4 rfl ?_
    refine x_iload_n S dX0_fillSetsUpTo_100 2 rfl rfl ?_
    refine x_icmp_ge (tgt := 140) S dX0_fillSetsUpTo_101 (by decide) (fun h3 => ?_) (fun h3 => ?_)
    · have hk2 : k = q := Nat.le_antisymm hk ((nI_leI (by omega) (by omega)).mp h3)
      subst hk2
      exact hret (c) _ _ (fun p hp => (Nat.lt_or_ge p k).elim (fun h => g1 p h) (fun h => by have := g2 (p - k) (by omega); rw [show k + (p - k) = p by omega] at this; exact this)) dX0_fillSetsUpTo_140
    have hk2 : k < q := Nat.lt_of_not_le (fun h => h3 (nI_le h (by omega)))
    have e1 := g1 k hk2
    have e2 := g3 k (Nat.le_refl _) hk2
    have e3 := hK k hk2
    refine x_aload_n S dX0_fillSetsUpTo_104 0 rfl rfl ?_
    refine x_get S 18 1 rfl rfl inC0 (by decide) (gC _ tw77) rfl rfl dX0_fillSetsUpTo_105 ?_
    refine x_iload_n S dX0_fillSetsUpTo_108 2 rfl rfl ?_
    refine x_iload S dX0_fillSetsUpTo_109 4 rfl ?_
    refine x_iadd S dX0_fillSetsUpTo_111 ?_
    refine x_top (nI (q + k)) (nI_add _ _) ?_
    refine x_aload_n S dX0_fillSetsUpTo_112 0 rfl rfl ?_
    refine x_get S 18 1 rfl rfl inC0 (by decide) (gC _ tw77) rfl rfl dX0_fillSetsUpTo_113 ?_
    refine x_iload S dX0_fillSetsUpTo_116 4 rfl ?_
    refine x_ialdN S 19 0 (k) rfl rfl rfl (by omega) (by decide) dX0_fillSetsUpTo_118 ?_
    refine x_iload_n S dX0_fillSetsUpTo_119 3 rfl rfl ?_
    refine x_iadd S dX0_fillSetsUpTo_120 ?_
    refine x_iconst (v := 2) S dX0_fillSetsUpTo_121 rfl ?_
    refine x_aload_n S dX0_fillSetsUpTo_122 0 rfl rfl ?_
    refine x_get S 18 1 rfl rfl inC0 (by decide) (gC _ tw77) rfl rfl dX0_fillSetsUpTo_123 ?_
    refine x_iload_n S dX0_fillSetsUpTo_126 2 rfl rfl ?_
    refine x_iload S dX0_fillSetsUpTo_127 4 rfl ?_
    refine x_iadd S dX0_fillSetsUpTo_129 ?_
    refine x_top (nI (q + k)) (nI_add _ _) ?_
    refine x_ialdN S 19 0 (q + k) rfl rfl rfl (by omega) (by decide) dX0_fillSetsUpTo_130 ?_
    refine x_imul S dX0_fillSetsUpTo_131 ?_
    refine x_isub S dX0_fillSetsUpTo_132 ?_
    refine x_iastN (ws' := (cw ad cI cII cP n am al ch fr to wt nb M tch (va_up c (q + k) (kC fr to wt am (2 * (q + k)))) rch pa br gp P ++ X)) (z := kC fr to wt am (2 * (q + k))) S 19 0 (q + k) rfl rfl rfl (by omega) (by decide) (by rw [nI_add, show (2 : Int32) = nI 2 from rfl, pk_mul, pk_sub (by omega)]; congr 1; omega) dX0_fillSetsUpTo_133 rfl ?_
    refine x_iincN (lv' := [(4, .int _), (0, .ref _), (1, .int _), (2, .int _), (3, .int _)]) S dX0_fillSetsUpTo_134 4 rfl (by decide) rfl ?_
    refine x_goto (tgt := 98) S dX0_fillSetsUpTo_137 (by decide) ?_
    exact x_sub [1, 2, 3, 4, 0] rfl (ih hk2 _ (fun p hp => by rw [va_up_ne _ _ (by omega)]; exact g1 p hp) (fun r hr => (Nat.lt_or_ge r k).elim (fun h => by rw [va_up_ne _ _ (by omega)]; exact g2 r h) (fun h => by rw [show r = k by omega, va_up_self])) (fun r h h' => by rw [va_up_ne _ _ (by omega)]; exact g3 r (by omega) h') 0 0)
  have L1 : ∀ u, u ≤ v → 1 ≤ u → ∀ c : Nat → Nat, (∀ p, p < q → c p = kC fr to wt am (2 * p)) → (∀ r, r < 2 ^ (u - 1) → c (q + r) = kV M v n (2 * r)) → xW E D vwCl 7 0 0 (cw ad cI cII cP n am al ch fr to wt nb M tch c rch pa br gp P ++ X) [(0, .ref (ad 18)), (1, .int (nI v)), (2, .int (nI q)), (3, .int (nI u))] 15 [] := by
    refine pl_up v (fun u hu ih => ?_)
    intro hu1 c g1 g2
    refine x_iload_n S dX0_fillSetsUpTo_15 3 rfl rfl ?_
    refine x_iload_n S dX0_fillSetsUpTo_16 1 rfl rfl ?_
    refine x_icmp_ge (tgt := 86) S dX0_fillSetsUpTo_17 (by decide) (fun h3 => ?_) (fun h3 => ?_)
    · have hu2 : u = v := Nat.le_antisymm hu ((nI_leI (by omega) (by omega)).mp h3)
      subst hu2
      refine x_aload_n S dX0_fillSetsUpTo_86 0 rfl rfl ?_
      refine x_get S 18 0 rfl rfl inC0 (by decide) (gC _ tw76) rfl rfl dX0_fillSetsUpTo_87 ?_
      refine x_iload_n S dX0_fillSetsUpTo_90 1 rfl rfl ?_
      refine x_cVi (n := 1) S (c_weightAt hn (by omega)) (gGV gC tw254 tw251 tw252 tw253 tw2) rfl (by decide +kernel) 0 rfl rfl rfl rfl (Nat.le_of_ble_eq_true rfl) dX0_fillSetsUpTo_91 ⟨by decide, by decide⟩ ⟨Nat.le_of_ble_eq_true rfl, Nat.le_of_ble_eq_true rfl⟩ ?_
      refine x_istore_n (lv' := [(3, .int _), (0, .ref _), (1, .int _), (2, .int _)]) S dX0_fillSetsUpTo_94 rfl (by decide) rfl ?_
      refine x_iconst (v := 0) S dX0_fillSetsUpTo_95 rfl ?_
      refine x_istore (lv' := [(4, .int _), (3, .int _), (0, .ref _), (1, .int _), (2, .int _)]) S dX0_fillSetsUpTo_96 (by decide) rfl ?_
      exact x_sub [2, 3, 4, 1, 0] rfl (L3 0 (Nat.zero_le _) c g1 (fun r hr => absurd hr (by omega)) (fun r _ hr => g2 r (by rw [← hq]; exact hr)) 0 0)
    have hu2 : u < v := Nat.lt_of_not_le (fun h => h3 (nI_le h (by omega)))
    obtain ⟨b, hb⟩ : ∃ b, b = 2 ^ (u - 1) := ⟨_, rfl⟩
    have hb0 : 0 < b := by rw [hb]; exact Nat.two_pow_pos _
    have hbu : 2 ^ u = 2 * b := by rw [hb]; exact p2_s hu1
    have hbq : 2 * b ≤ q := by rw [← hbu, hq]; exact Nat.pow_le_pow_right (n := 2) (by omega) (by omega)
    rw [← hb] at g2
    have L2 : ∀ k, k ≤ b → ∀ c : Nat → Nat, (∀ p, p < q → c p = kC fr to wt am (2 * p)) → (∀ r, r < b + k → c (q + r) = kV M v n (2 * r)) → xW E D vwCl 7 0 0 (cw ad cI cII cP n am al ch fr to wt nb M tch c rch pa br gp P ++ X) [(0, .ref (ad 18)), (1, .int (nI v)), (2, .int (nI q)), (3, .int (nI u)), (4, .int (nI b)), (5, .int (nI (M v u))), (6, .int (nI k))] 43 [] := by
      refine pl_up b (fun k hk ih2 => ?_)
      intro c g1 g2
      refine x_iload S dX0_fillSetsUpTo_43 6 rfl ?_
      refine x_iload S dX0_fillSetsUpTo_45 4 rfl ?_
      refine x_icmp_ge (tgt := 80) S dX0_fillSetsUpTo_47 (by decide) (fun h4 => ?_) (fun h4 => ?_)
      · have hk2 : k = b := Nat.le_antisymm hk ((nI_leI (by omega) (by omega)).mp h4)
        refine x_iincN (lv' := [(3, .int _), (0, .ref _), (1, .int _), (2, .int _), (4, .int _), (5, .int _), (6, .int _)]) S dX0_fillSetsUpTo_80 3 rfl (by decide) rfl ?_
        refine x_goto (tgt := 15) S dX0_fillSetsUpTo_83 (by decide) ?_
        exact x_sub [1, 2, 3, 0] rfl (ih hu2 (by omega) c g1 (fun r hr => g2 r (by rw [show u + 1 - 1 = u by omega, hbu] at hr; omega)))
      have hk2 : k < b := Nat.lt_of_not_le (fun h => h4 (nI_le h (by omega)))
      have e1 := g2 k (by omega)
      have e2 : kV M v n (2 * (b + k)) = kV M v n (2 * k) + M v u := by
        have := kV_add (M := M) (v := v) (n := n) (u := u) (S := 2 * k) (by omega) (by omega)
        rw [hbu, show 2 * b + 2 * k = 2 * (b + k) by omega] at this
        exact this
      refine x_aload_n S dX0_fillSetsUpTo_50 0 rfl rfl ?_
      refine x_get S 18 1 rfl rfl inC0 (by decide) (gC _ tw77) rfl rfl dX0_fillSetsUpTo_51 ?_
      refine x_iload_n S dX0_fillSetsUpTo_54 2 rfl rfl ?_
      refine x_iload S dX0_fillSetsUpTo_55 4 rfl ?_
      refine x_iadd S dX0_fillSetsUpTo_57 ?_
      refine x_iload S dX0_fillSetsUpTo_58 6 rfl ?_
      refine x_iadd S dX0_fillSetsUpTo_60 ?_
      refine x_top (nI (q + b + k)) (by rw [nI_add, nI_add]) ?_
      refine x_aload_n S dX0_fillSetsUpTo_61 0 rfl rfl ?_
      refine x_get S 18 1 rfl rfl inC0 (by decide) (gC _ tw77) rfl rfl dX0_fillSetsUpTo_62 ?_
      refine x_iload_n S dX0_fillSetsUpTo_65 2 rfl rfl ?_
      refine x_iload S dX0_fillSetsUpTo_66 6 rfl ?_
      refine x_iadd S dX0_fillSetsUpTo_68 ?_
      refine x_top (nI (q + k)) (nI_add _ _) ?_
      refine x_ialdN S 19 0 (q + k) rfl rfl rfl (by omega) (by decide) dX0_fillSetsUpTo_69 ?_
      refine x_iload S dX0_fillSetsUpTo_70 5 rfl ?_
      refine x_iadd S dX0_fillSetsUpTo_72 ?_
      refine x_iastN (ws' := (cw ad cI cII cP n am al ch fr to wt nb M tch (va_up c (q + b + k) (kV M v n (2 * (b + k)))) rch pa br gp P ++ X)) (z := kV M v n (2 * (b + k))) S 19 0 (q + b + k) rfl rfl rfl (by omega) (by decide) (by rw [nI_add, e1, e2]) dX0_fillSetsUpTo_73 rfl ?_
      refine x_iincN (lv' := [(6, .int _), (0, .ref _), (1, .int _), (2, .int _), (3, .int _), (4, .int _), (5, .int _)]) S dX0_fillSetsUpTo_74 6 rfl (by decide) rfl ?_
      refine x_goto (tgt := 43) S dX0_fillSetsUpTo_77 (by decide) ?_
      exact x_sub [1, 2, 3, 4, 5, 6, 0] rfl (ih2 hk2 _ (fun p hp => by rw [va_up_ne _ _ (by omega)]; exact g1 p hp) (fun r hr => (Nat.lt_or_ge r (b + k)).elim (fun h => by rw [va_up_ne _ _ (by omega)]; exact g2 r h) (fun h => by rw [show r = b + k by omega, show q + (b + k) = q + b + k by omega, va_up_self])))
    refine x_iconst (v := 1) S dX0_fillSetsUpTo_20 rfl ?_
    refine x_iload_n S dX0_fillSetsUpTo_21 3 rfl rfl ?_
    refine x_iconst (v := 1) S dX0_fillSetsUpTo_22 rfl ?_
    refine x_isub S dX0_fillSetsUpTo_23 ?_
    refine x_ishl S dX0_fillSetsUpTo_24 ?_
    refine x_top (nI b) (by rw [show (1 : Int32) = nI 1 from rfl, pk_sub hu1]; show (1 : Int32) <<< _ = _; rw [pl_one (by omega), hb]) ?_
    refine x_istore (lv' := [(4, .int _), (0, .ref _), (1, .int _), (2, .int _), (3, .int _)]) S dX0_fillSetsUpTo_25 (by decide) rfl ?_
    refine x_aload_n S dX0_fillSetsUpTo_27 1 rfl rfl ?_
    refine x_get S 18 0 rfl rfl inC0 (by decide) (gC _ tw76) rfl rfl dX0_fillSetsUpTo_28 ?_
    refine x_get S 0 3 rfl rfl inC2 (by decide) (gC _ tw33) rfl rfl dX0_fillSetsUpTo_31 ?_
    refine x_iload_n S dX0_fillSetsUpTo_34 2 rfl rfl ?_
    refine x_aald S 4 1 (v) rfl rfl rfl rfl (by omega) (by decide) rfl dX0_fillSetsUpTo_35 ?_
    refine x_iload_n S dX0_fillSetsUpTo_36 4 rfl rfl ?_
    refine x_ialdN S (6 + v) 0 (u) (cw_row (by omega)) rfl rfl (by omega) (by decide) dX0_fillSetsUpTo_37 ?_
    refine x_istore (lv' := [(5, .int _), (4, .int _), (0, .ref _), (1, .int _), (2, .int _), (3, .int _)]) S dX0_fillSetsUpTo_38 (by decide) rfl ?_
    refine x_iconst (v := 0) S dX0_fillSetsUpTo_40 rfl ?_
    refine x_istore (lv' := [(6, .int _), (5, .int _), (4, .int _), (0, .ref _), (1, .int _), (2, .int _), (3, .int _)]) S dX0_fillSetsUpTo_41 (by decide) rfl ?_
    exact x_sub [3, 4, 5, 6, 2, 1, 0] rfl (L2 0 (Nat.zero_le _) c g1 (fun r hr => g2 r (by omega)))
  refine x_iconst (v := 1) S dX0_fillSetsUpTo_0 rfl ?_
  refine x_iload_n S dX0_fillSetsUpTo_1 1 rfl rfl ?_
  refine x_iconst (v := 1) S dX0_fillSetsUpTo_2 rfl ?_
  refine x_isub S dX0_fillSetsUpTo_3 ?_
  refine x_ishl S dX0_fillSetsUpTo_4 ?_
  refine x_top (nI q) (by rw [show (1 : Int32) = nI 1 from rfl, pk_sub hv1]; show (1 : Int32) <<< _ = _; rw [pl_one (by omega), hq]) ?_
  refine x_istore_n (lv' := [(2, .int _), (0, .ref _), (1, .int _)]) S dX0_fillSetsUpTo_5 rfl (by decide) rfl ?_
  refine x_aload_n S dX0_fillSetsUpTo_6 1 rfl rfl ?_
  refine x_get S 18 1 rfl rfl inC0 (by decide) (gC _ tw77) rfl rfl dX0_fillSetsUpTo_7 ?_
  refine x_iload_n S dX0_fillSetsUpTo_10 0 rfl rfl ?_
  refine x_iconst (v := 0) S dX0_fillSetsUpTo_11 rfl ?_
  refine x_iastN (ws' := (cw ad cI cII cP n am al ch fr to wt nb M tch (va_up cu q 0) rch pa br gp P ++ X)) (z := 0) S 19 0 (q) rfl rfl rfl (by omega) (by decide) rfl dX0_fillSetsUpTo_12 rfl ?_
  refine x_iconst (v := 1) S dX0_fillSetsUpTo_13 rfl ?_
  refine x_istore_n (lv' := [(3, .int _), (2, .int _), (0, .ref _), (1, .int _)]) S dX0_fillSetsUpTo_14 rfl (by decide) rfl ?_
  exact x_sub [2, 3, 1, 0] rfl (L1 1 hv1 (Nat.le_refl _) _ (fun p hp => by rw [va_up_ne _ _ (by omega)]; exact hc p hp) (fun r hr => by have : r = 0 := (by simpa using hr); rw [this, Nat.add_zero, va_up_self, Nat.mul_zero, kV_0]))
set_option maxHeartbeats 4000000 in
set_option maxRecDepth 100000 in
theorem c_refreshT (h1 : 1 ≤ n) (hA : aOK n am fr to wt) (hM : mOK am fr to wt M) (h0 : cu 0 = 0) (hT : tch = nI ch → tOK n am fr to wt cu) : xMetS l yX0_refresh wX0_refresh (rD 2) D vwCl (tyC cI cII cP cZ) nwC [.ref (ad 18)] (cw ad cI cII cP n am al ch fr to wt nb M tch cu rch pa br gp P ++ X) (fun c : Nat → Nat => tOK n am fr to wt c) (fun c => (cw ad cI cII cP n am al ch fr to wt nb M (nI ch) c rch pa br gp P ++ X)) (fun _ => none) := by
  refine xMetS_of (cc := cX0_refresh) (maxL := 2) (ret := none) (by decide +kernel) rfl (Nat.le_of_ble_eq_true rfl) (fun _ _ => xfv) ?_
  intro E S hnm hret
  show xW E D vwCl 2 0 0 _ [(0, .ref (ad 18))] 0 []
  have hn := hA.1
  have L : ∀ v, v ≤ n → 1 ≤ v → ∀ c : Nat → Nat, (∀ p, p < 2 ^ (v - 1) → c p = kC fr to wt am (2 * p)) → xW E D vwCl 2 0 0 (cw ad cI cII cP n am al ch fr to wt nb M (nI ch) c rch pa br gp P ++ X) [(0, .ref (ad 18)), (1, .int (nI v))] 28 [] := by
    refine pl_up n (fun v hv ih => ?_)
    intro hv1 c hc
    refine x_iload_n S dX0_refresh_28 1 rfl rfl ?_
    refine x_aload_n S dX0_refresh_29 0 rfl rfl ?_
    refine x_get S 18 0 rfl rfl inC0 (by decide) (gC _ tw76) rfl rfl dX0_refresh_30 ?_
    refine x_get S 0 5 rfl rfl inC2 (by decide) (gC _ tw40) rfl rfl dX0_refresh_33 ?_
    refine x_icmp_ge (tgt := 50) S dX0_refresh_36 (by decide) (fun h3 => ?_) (fun h3 => ?_)
    · have hv2 : v = n := Nat.le_antisymm hv ((nI_leI (by omega) (by omega)).mp h3)
      subst hv2
      exact hret (c) _ _ hc dX0_refresh_50
    have hv2 : v < n := Nat.lt_of_not_le (fun h => h3 (nI_le h (by omega)))
    refine x_aload_n S dX0_refresh_39 0 rfl rfl ?_
    refine x_iload_n S dX0_refresh_40 1 rfl rfl ?_
    refine x_cVvS (n := 1) S (c_fillSetsUpTo hA hM hv1 hv2 hc) (gGV gC tw250 tw247 tw249 ts2 tw3) rfl (by decide +kernel) 18 rfl rfl rfl rfl (Nat.le_of_ble_eq_true rfl) dX0_refresh_41 ⟨by decide, by decide⟩ ⟨Nat.le_of_ble_eq_true rfl, Nat.le_of_ble_eq_true rfl⟩ (fun c2 hc2 => ?_)
    refine x_iincN (lv' := [(1, .int _), (0, .ref _)]) S dX0_refresh_44 1 rfl (by decide) rfl ?_
    refine x_goto (tgt := 28) S dX0_refresh_47 (by decide) ?_
    exact x_sub [1, 0] rfl (ih hv2 (by omega) c2 hc2)
  refine x_aload_n S dX0_refresh_0 0 rfl rfl ?_
  refine x_get S 18 2 rfl rfl inC0 (by decide) (gC _ tw78) rfl rfl dX0_refresh_1 ?_
  refine x_aload_n S dX0_refresh_4 0 rfl rfl ?_
  refine x_get S 18 0 rfl rfl inC0 (by decide) (gC _ tw76) rfl rfl dX0_refresh_5 ?_
  refine x_get S 0 8 rfl rfl inC2 (by decide) (gC _ tw47) rfl rfl dX0_refresh_8 ?_
  refine x_icmp_ne (tgt := 15) S dX0_refresh_11 (by decide) (fun h3 => ?_) (fun h3 => ?_)
  rotate_left
  · have hT2 := hT h3
    subst h3
    exact hret (cu) _ _ hT2 dX0_refresh_14
  refine x_aload_n S dX0_refresh_15 0 rfl rfl ?_
  refine x_aload_n S dX0_refresh_16 0 rfl rfl ?_
  refine x_get S 18 0 rfl rfl inC0 (by decide) (gC _ tw76) rfl rfl dX0_refresh_17 ?_
  refine x_get S 0 8 rfl rfl inC2 (by decide) (gC _ tw47) rfl rfl dX0_refresh_20 ?_
  refine x_put (ws' := (cw ad cI cII cP n am al ch fr to wt nb M (nI ch) cu rch pa br gp P ++ X)) S 18 2 rfl rfl inC0 tyX0 tyX0_ok nmX0 (by decide) (gC _ tw78) rfl rfl (tyX0_ok 2 (by decide)) rfl rfl (Nat.le_of_ble_eq_true rfl) dX0_refresh_23 rfl ?_
  refine x_iconst (v := 1) S dX0_refresh_26 rfl ?_
  refine x_istore_n (lv' := [(1, .int _), (0, .ref _)]) S dX0_refresh_27 rfl (by decide) rfl ?_
  exact x_sub [1, 0] rfl (L 1 h1 (Nat.le_refl _) cu (fun p hp => by have : p = 0 := (by simpa using hp); rw [this, h0, Nat.mul_zero, kC_0]))
end TB2
end
section
/-! PairTree: contracts -/
section TR
/-- THE SIDE -/
noncomputable def kZ (cf : Nat → Nat) (n a b : Nat) : Nat := @dite _ (∃ S, isFM cf (isSd n a b) S) (Classical.propDecidable _) (fun h => Classical.choose h) (fun _ => 0)
theorem kZ_ok {cf : Nat → Nat} {n a b : Nat} (ha : a < n) (hab : a ≠ b) : isFM cf (isSd n a b) (kZ cf n a b) := by
  have h : ∃ S, isFM cf (isSd n a b) S := isFM_ex ⟨2 ^ a, pl_pow ha, by rw [Nat.testBit_two_pow]; simp, by rw [Nat.testBit_two_pow]; simp [hab]⟩
  unfold kZ
  rw [dif_pos h]
  exact Classical.choose_spec h
/-- one NODE is hung -/
noncomputable def kHg (cf : Nat → Nat) (n : Nat) (p : Nat → Nat) (v : Nat) : Nat → Nat := fun j => if v < j ∧ p j = p v ∧ (kZ cf n v (p v)).testBit j = true then v else p j
/-- PARENTS when the NODES below i are hung -/
noncomputable def kPa (cf : Nat → Nat) (n : Nat) : Nat → Nat → Nat
  | 0 => fun _ => 0
  | i + 1 => if i = 0 then fun _ => 0 else kHg cf n (kPa cf n i) i
theorem kPa_1 (cf : Nat → Nat) (n j : Nat) : kPa cf n 1 j = 0 := rfl
theorem kPa_s {cf : Nat → Nat} {n i : Nat} (h : 1 ≤ i) : kPa cf n (i + 1) = kHg cf n (kPa cf n i) i := by
  show (if i = 0 then _ else _) = _
  rw [if_neg (by omega)]
theorem kPa_lt (cf : Nat → Nat) (n : Nat) : ∀ i j, 1 ≤ j → kPa cf n i j < j
  | 0, j, h => h
  | i + 1, j, h => by
    have ih := kPa_lt cf n i j h
    show (if i = 0 then (fun _ => 0) else kHg cf n (kPa cf n i) i) j < j
    split
    · exact h
    · unfold kHg
      split
      · rename_i q; exact q.1
      · exact ih
theorem kPa_keep (cf : Nat → Nat) (n : Nat) : ∀ d i j, j ≤ i → kPa cf n (i + d) j = kPa cf n i j
  | 0, i, j, h => rfl
  | d + 1, i, j, h => by
    have ih := kPa_keep cf n d i j h
    show (if i + d = 0 then (fun _ => 0) else kHg cf n (kPa cf n (i + d)) (i + d)) j = _
    split
    · rename_i q
      have h1 : i = 0 := by omega
      subst h1
      rfl
    · unfold kHg
      rw [if_neg (fun q => by omega), ih]
/-- BRANCHES -/
noncomputable def kBr (cf : Nat → Nat) (n v : Nat) : Nat := cf (kZ cf n v (kPa cf n n v))
def kWy (pa br : Nat → Nat) : Nat → Nat → Nat → Nat → Nat
  | 0, _, _, z => z
  | f + 1, x, y, z => if x = y then z else kWy pa br f (min x y) (pa (max x y)) (min z (br (max x y)))
theorem nI_min {x y : Nat} (hx : x < 2 ^ 31) (hy : y < 2 ^ 31) : (if nI y < nI x then nI y else nI x) = nI (min x y) := by
  by_cases h : y < x
  · rw [if_pos (nI_lt h hx), Nat.min_eq_right (by omega)]
  · rw [if_neg (nI_nlt (by omega) hy), Nat.min_eq_left (by omega)]
theorem nI_max {x y : Nat} (hx : x < 2 ^ 31) (hy : y < 2 ^ 31) : (if nI x < nI y then nI y else nI x) = nI (max x y) := by
  by_cases h : x < y
  · rw [if_pos (nI_lt h hy), Nat.max_eq_right (by omega)]
  · rw [if_neg (nI_nlt (by omega) hx), Nat.max_eq_left (by omega)]
theorem kPa_0 (cf : Nat → Nat) (n : Nat) : ∀ i, kPa cf n i 0 = 0
  | 0 => rfl
  | i + 1 => by
    have ih := kPa_0 cf n i
    show (if i = 0 then (fun _ => 0) else kHg cf n (kPa cf n i) i) 0 = 0
    split
    · rfl
    · unfold kHg
      rw [if_neg (fun q => by omega), ih]
variable {l : Launch} {D : va_G} {ad : Nat → Nat} {cI cII cP cZ : ClassId} {n am al ch : Nat} {fr to wt nb : Nat → Nat} {M : Nat → Nat → Nat} {tch : Int32} {cu : Nat → Nat} {rch : Int32} {pa br gp : Nat → Nat} {P : Nat → Int32 × Nat × (Nat → Nat) × (Nat → Nat)} {X : va_W}
set_option maxHeartbeats 4000000 in
set_option maxRecDepth 100000 in
theorem c_hang {v : Nat} (q : Nat → Nat) (h1 : 1 ≤ n) (hA : aOK n am fr to wt) (hT : tOK n am fr to wt cu) (hv1 : 1 ≤ v) (hv : v < n) (hq : ∀ j, j < n → pa j = q j) (hqv : q v < v) (hqs : ∀ j, j < n → q j < 2 ^ 31) : xMetS l yX3_hang wX3_hang (rD 3) D vwCl (tyC cI cII cP cZ) nwC [.ref (ad 20), .int (nI v)] (cw ad cI cII cP n am al ch fr to wt nb M tch cu rch pa br gp P ++ X) (fun c : Nat → Nat => ∀ j, j < n → c j = kHg (kC fr to wt am) n q v j) (fun c => (cw ad cI cII cP n am al ch fr to wt nb M tch cu rch c (va_up br v (kC fr to wt am (kZ (kC fr to wt am) n v (q v)))) gp P ++ X)) (fun _ => none) := by
  refine xMetS_of (cc := cX3_hang) (maxL := 5) (ret := none) (by decide +kernel) rfl (Nat.le_of_ble_eq_true rfl) (fun _ _ => xfv) ?_
  intro E S hnm hret
  show xW E D vwCl 5 0 0 _ [(0, .ref (ad 20)), (1, .int (nI v))] 0 []
  have hn := hA.1
  have hZ := kZ_ok (cf := kC fr to wt am) (n := n) (a := v) (b := q v) hv (by omega)
  generalize hz : kZ (kC fr to wt am) n v (q v) = z at hZ hret
  have hzl : z < 4096 := Nat.lt_of_lt_of_le hZ.1.1 (pl_pow12 hn)
  have hpv := hq v hv
  have L : ∀ k, k ≤ n → v + 1 ≤ k → ∀ c : Nat → Nat, (∀ j, j < k → j < n → c j = kHg (kC fr to wt am) n q v j) → (∀ j, k ≤ j → j < n → c j = q j) → xW E D vwCl 5 0 0 (cw ad cI cII cP n am al ch fr to wt nb M tch cu rch c (va_up br v (kC fr to wt am z)) gp P ++ X) [(0, .ref (ad 20)), (1, .int (nI v)), (2, .int (nI (q v))), (3, .int (nI z)), (4, .int (nI k))] 36 [] := by
    refine pl_up n (fun k hk ih => ?_)
    intro hk1 c g1 g2
    refine x_iload S dX3_hang_36 4 rfl ?_
    refine x_aload_n S dX3_hang_38 0 rfl rfl ?_
    refine x_get S 20 0 rfl rfl inC3 (by decide) (gC _ tw92) rfl rfl dX3_hang_39 ?_
    refine x_get S 0 5 rfl rfl inC2 (by decide) (gC _ tw41) rfl rfl dX3_hang_42 ?_
    refine x_icmp_ge (tgt := 83) S dX3_hang_45 (by decide) (fun h3 => ?_) (fun h3 => ?_)
    · have hk2 : k = n := Nat.le_antisymm hk ((nI_leI (by omega) (by omega)).mp h3)
      subst hk2
      exact hret (c) _ _ (fun j hj => g1 j hj hj) dX3_hang_83
    have hk2 : k < n := Nat.lt_of_not_le (fun h => h3 (nI_le h (by omega)))
    have e1 := g2 k (Nat.le_refl _) hk2
    have ih := ih hk2 (by omega)
    have T0 : ¬ (q k = q v ∧ z.testBit k = true) → ∀ j, j < k + 1 → j < n → c j = kHg (kC fr to wt am) n q v j := fun hne j hj hjn => (Nat.lt_or_ge j k).elim (fun h => g1 j h hjn) (fun h => by
      have hjk : j = k := by omega
      subst hjk
      unfold kHg
      rw [if_neg (fun w => hne ⟨w.2.1, by rw [← hz]; exact w.2.2⟩), e1])
    refine x_aload_n S dX3_hang_48 0 rfl rfl ?_
    refine x_get S 20 2 rfl rfl inC3 (by decide) (gC _ tw94) rfl rfl dX3_hang_49 ?_
    refine x_iload S dX3_hang_52 4 rfl ?_
    refine x_ialdN S 21 0 (k) rfl rfl rfl (by omega) (by decide) dX3_hang_54 ?_
    rw [e1]
    have hqe : nI (q k) = nI (q v) → q k = q v := fun h => pl_inj (hqs k hk2) (hqs v hv) h
    refine x_iload_n S dX3_hang_55 2 rfl rfl ?_
    refine x_icmp_ne (tgt := 77) S dX3_hang_56 (by decide) (fun h4 => ?_) (fun h4 => ?_)
    rotate_left
    · refine x_iload_n S dX3_hang_59 3 rfl rfl ?_
      refine x_iload S dX3_hang_60 4 rfl ?_
      refine x_ishr S dX3_hang_62 ?_
      refine x_iconst (v := 1) S dX3_hang_63 rfl ?_
      refine x_iand S dX3_hang_64 ?_
      refine x_iconst (v := 1) S dX3_hang_65 rfl ?_
      refine x_icmp_ne (tgt := 77) S dX3_hang_66 (by decide) (fun h5 => ?_) (fun h5 => ?_)
      rotate_left
      · have hb : z.testBit k = true := (pl_bit1 (by omega) (by omega)).mp h5
        refine x_aload_n S dX3_hang_69 0 rfl rfl ?_
        refine x_get S 20 2 rfl rfl inC3 (by decide) (gC _ tw94) rfl rfl dX3_hang_70 ?_
        refine x_iload S dX3_hang_73 4 rfl ?_
        refine x_iload_n S dX3_hang_75 1 rfl rfl ?_
        refine x_iastN (ws' := (cw ad cI cII cP n am al ch fr to wt nb M tch cu rch (va_up c k v) (va_up br v (kC fr to wt am z)) gp P ++ X)) (z := v) S 21 0 (k) rfl rfl rfl (by omega) (by decide) rfl dX3_hang_76 rfl ?_
        refine x_iincN (lv' := [(4, .int _), (0, .ref _), (1, .int _), (2, .int _), (3, .int _)]) S dX3_hang_77 4 rfl (by decide) rfl ?_
        refine x_goto (tgt := 36) S dX3_hang_80 (by decide) ?_
        exact x_sub [1, 2, 3, 4, 0] rfl (ih _ (fun j hj hjn => (Nat.lt_or_ge j k).elim (fun h => by rw [va_up_ne _ _ (by omega)]; exact g1 j h hjn) (fun h => by have hjk : j = k := (by omega); subst hjk; rw [va_up_self]; unfold kHg; rw [if_pos ⟨by omega, hqe h4, by rw [hz]; exact hb⟩])) (fun j hj hjn => by rw [va_up_ne _ _ (by omega)]; exact g2 j (by omega) hjn))
      refine x_iincN (lv' := [(4, .int _), (0, .ref _), (1, .int _), (2, .int _), (3, .int _)]) S dX3_hang_77 4 rfl (by decide) rfl ?_
      refine x_goto (tgt := 36) S dX3_hang_80 (by decide) ?_
      exact x_sub [1, 2, 3, 4, 0] rfl (ih c (T0 (fun w => h5 ((pl_bit1 (by omega) (by omega)).mpr w.2))) (fun j hj hjn => g2 j (by omega) hjn))
    refine x_iincN (lv' := [(4, .int _), (0, .ref _), (1, .int _), (2, .int _), (3, .int _)]) S dX3_hang_77 4 rfl (by decide) rfl ?_
    refine x_goto (tgt := 36) S dX3_hang_80 (by decide) ?_
    exact x_sub [1, 2, 3, 4, 0] rfl (ih c (T0 (fun w => h4 (by rw [w.1]))) (fun j hj hjn => g2 j (by omega) hjn))
  refine x_aload_n S dX3_hang_0 0 rfl rfl ?_
  refine x_get S 20 2 rfl rfl inC3 (by decide) (gC _ tw94) rfl rfl dX3_hang_1 ?_
  refine x_iload_n S dX3_hang_4 1 rfl rfl ?_
  refine x_ialdN S 21 0 (v) rfl rfl rfl (by omega) (by decide) dX3_hang_5 ?_
  rw [hpv]
  refine x_istore_n (lv' := [(2, .int _), (0, .ref _), (1, .int _)]) S dX3_hang_6 rfl (by decide) rfl ?_
  refine x_aload_n S dX3_hang_7 1 rfl rfl ?_
  refine x_get S 20 1 rfl rfl inC3 (by decide) (gC _ tw93) rfl rfl dX3_hang_8 ?_
  refine x_iload_n S dX3_hang_11 2 rfl rfl ?_
  refine x_iload_n S dX3_hang_12 0 rfl rfl ?_
  refine x_cVi (n := 2) S (c_sideAgainst h1 hA hT hv (by omega) (by omega) hZ) (gGV gC tw262 tw293 tw260 tw261 tw3) rfl (by decide +kernel) 18 rfl rfl rfl rfl (Nat.le_of_ble_eq_true rfl) dX3_hang_13 ⟨by decide, by decide⟩ ⟨Nat.le_of_ble_eq_true rfl, Nat.le_of_ble_eq_true rfl⟩ ?_
  refine x_istore_n (lv' := [(3, .int _), (2, .int _), (0, .ref _), (1, .int _)]) S dX3_hang_16 rfl (by decide) rfl ?_
  refine x_aload_n S dX3_hang_17 2 rfl rfl ?_
  refine x_get S 20 3 rfl rfl inC3 (by decide) (gC _ tw96) rfl rfl dX3_hang_18 ?_
  refine x_iload_n S dX3_hang_21 3 rfl rfl ?_
  refine x_aload_n S dX3_hang_22 2 rfl rfl ?_
  refine x_get S 20 1 rfl rfl inC3 (by decide) (gC _ tw93) rfl rfl dX3_hang_23 ?_
  refine x_iload_n S dX3_hang_26 0 rfl rfl ?_
  refine x_cVi (n := 1) S (c_cutAt h1 hA hT hZ.1.1) (gGV gC tw267 tw294 tw265 tw266 tw3) rfl (by decide +kernel) 18 rfl rfl rfl rfl (Nat.le_of_ble_eq_true rfl) dX3_hang_27 ⟨by decide, by decide⟩ ⟨Nat.le_of_ble_eq_true rfl, Nat.le_of_ble_eq_true rfl⟩ ?_
  refine x_iastN (ws' := (cw ad cI cII cP n am al ch fr to wt nb M tch cu rch pa (va_up br v (kC fr to wt am z)) gp P ++ X)) S 22 0 (v) rfl rfl rfl (by omega) (by decide) rfl dX3_hang_30 rfl ?_
  refine x_iload_n S dX3_hang_31 3 rfl rfl ?_
  refine x_iconst (v := 1) S dX3_hang_32 rfl ?_
  refine x_iadd S dX3_hang_33 ?_
  refine x_top (nI (v + 1)) (nI_1 v) ?_
  refine x_istore (lv' := [(4, .int _), (3, .int _), (2, .int _), (0, .ref _), (1, .int _)]) S dX3_hang_34 (by decide) rfl ?_
  exact x_sub [3, 4, 2, 1, 0] rfl (L (v + 1) hv (Nat.le_refl _) pa (fun j hj hjn => by rw [hq j hjn]; unfold kHg; rw [if_neg (fun w => by omega)]) (fun j _ hjn => hq j hjn))
set_option maxHeartbeats 4000000 in
set_option maxRecDepth 100000 in
theorem c_refreshR (h1 : 1 ≤ n) (hA : aOK n am fr to wt) (hT : tOK n am fr to wt cu) (hR : rch = nI ch → (∀ j, j < n → pa j = kPa (kC fr to wt am) n n j) ∧ ∀ j, 1 ≤ j → j < n → br j = kBr (kC fr to wt am) n j) : xMetS l yX3_refresh wX3_refresh (rD 4) D vwCl (tyC cI cII cP cZ) nwC [.ref (ad 20)] (cw ad cI cII cP n am al ch fr to wt nb M tch cu rch pa br gp P ++ X) (fun u : (Nat → Nat) × (Nat → Nat) => (∀ j, j < n → u.1 j = kPa (kC fr to wt am) n n j) ∧ ∀ j, 1 ≤ j → j < n → u.2 j = kBr (kC fr to wt am) n j) (fun u => (cw ad cI cII cP n am al ch fr to wt nb M tch cu (nI ch) u.1 u.2 gp P ++ X)) (fun _ => none) := by
  refine xMetS_of (cc := cX3_refresh) (maxL := 2) (ret := none) (by decide +kernel) rfl (Nat.le_of_ble_eq_true rfl) (fun _ _ => xfv) ?_
  intro E S hnm hret
  show xW E D vwCl 2 0 0 _ [(0, .ref (ad 20))] 0 []
  have hn := hA.1
  have L2 : ∀ v, v ≤ n → 1 ≤ v → ∀ c b : Nat → Nat, (∀ j, j < n → c j = kPa (kC fr to wt am) n v j) → (∀ j, 1 ≤ j → j < v → b j = kBr (kC fr to wt am) n j) → xW E D vwCl 2 0 0 (cw ad cI cII cP n am al ch fr to wt nb M tch cu (nI ch) c b gp P ++ X) [(0, .ref (ad 20)), (1, .int (nI v))] 54 [] := by
    refine pl_up n (fun v hv ih => ?_)
    intro hv1 c b g1 g2
    refine x_iload_n S dX3_refresh_54 1 rfl rfl ?_
    refine x_aload_n S dX3_refresh_55 0 rfl rfl ?_
    refine x_get S 20 0 rfl rfl inC3 (by decide) (gC _ tw92) rfl rfl dX3_refresh_56 ?_
    refine x_get S 0 5 rfl rfl inC2 (by decide) (gC _ tw41) rfl rfl dX3_refresh_59 ?_
    refine x_icmp_ge (tgt := 76) S dX3_refresh_62 (by decide) (fun h3 => ?_) (fun h3 => ?_)
    · have hv2 : v = n := Nat.le_antisymm hv ((nI_leI (by omega) (by omega)).mp h3)
      subst hv2
      exact hret ((c, b)) _ _ ⟨g1, g2⟩ dX3_refresh_76
    have hv2 : v < n := Nat.lt_of_not_le (fun h => h3 (nI_le h (by omega)))
    refine x_aload_n S dX3_refresh_65 0 rfl rfl ?_
    refine x_iload_n S dX3_refresh_66 1 rfl rfl ?_
    refine x_cVvS (n := 1) S (c_hang (kPa (kC fr to wt am) n v) h1 hA hT hv1 hv2 g1 (kPa_lt _ _ _ _ hv1) (fun j hj => (Nat.eq_zero_or_pos j).elim (fun e => by have := kPa_lt (kC fr to wt am) n v 1 (Nat.le_refl _); rw [e]; have h0 : kPa (kC fr to wt am) n v 0 = 0 := kPa_0 _ _ _; omega) (fun e => by have := kPa_lt (kC fr to wt am) n v j e; omega))) (gGV gC tw292 tw289 tw291 ts4 tw4) rfl (by decide +kernel) 20 rfl rfl rfl rfl (Nat.le_of_ble_eq_true rfl) dX3_refresh_67 ⟨by decide, by decide⟩ ⟨Nat.le_of_ble_eq_true rfl, Nat.le_of_ble_eq_true rfl⟩ (fun c2 hc2 => ?_)
    refine x_iincN (lv' := [(1, .int _), (0, .ref _)]) S dX3_refresh_70 1 rfl (by decide) rfl ?_
    refine x_goto (tgt := 54) S dX3_refresh_73 (by decide) ?_
    exact x_sub [1, 0] rfl (ih hv2 (by omega) c2 _ (fun j hj => by rw [kPa_s hv1]; exact hc2 j hj) (fun j hj1 hj => (Nat.lt_or_ge j v).elim (fun h => by rw [va_up_ne _ _ (by omega)]; exact g2 j hj1 h) (fun h => by have e : j = v := (by omega); subst e; rw [va_up_self]; unfold kBr; have hk := kPa_keep (kC fr to wt am) n (n - j) j j (Nat.le_refl _); rw [show j + (n - j) = n by omega] at hk; rw [hk])))
  have L1 : ∀ k, k ≤ n → ∀ c : Nat → Nat, (∀ j, j < k → c j = 0) → xW E D vwCl 2 0 0 (cw ad cI cII cP n am al ch fr to wt nb M tch cu (nI ch) c br gp P ++ X) [(0, .ref (ad 20)), (1, .int (nI k))] 28 [] := by
    refine pl_up n (fun k hk ih => ?_)
    intro c g1
    refine x_iload_n S dX3_refresh_28 1 rfl rfl ?_
    refine x_aload_n S dX3_refresh_29 0 rfl rfl ?_
    refine x_get S 20 0 rfl rfl inC3 (by decide) (gC _ tw92) rfl rfl dX3_refresh_30 ?_
    refine x_get S 0 5 rfl rfl inC2 (by decide) (gC _ tw41) rfl rfl dX3_refresh_33 ?_
    refine x_icmp_ge (tgt := 52) S dX3_refresh_36 (by decide) (fun h3 => ?_) (fun h3 => ?_)
    · have hk2 : k = n := Nat.le_antisymm hk ((nI_leI (by omega) (by omega)).mp h3)
      subst hk2
      refine x_iconst (v := 1) S dX3_refresh_52 rfl ?_
      refine x_istore_n (lv' := [(1, .int _), (0, .ref _)]) S dX3_refresh_53 rfl (by decide) rfl ?_
      exact x_sub [1, 0] rfl (L2 1 h1 (Nat.le_refl _) c br (fun j hj => by rw [kPa_1]; exact g1 j hj) (fun j h h' => absurd h' (by omega)))
    have hk2 : k < n := Nat.lt_of_not_le (fun h => h3 (nI_le h (by omega)))
    refine x_aload_n S dX3_refresh_39 0 rfl rfl ?_
    refine x_get S 20 2 rfl rfl inC3 (by decide) (gC _ tw94) rfl rfl dX3_refresh_40 ?_
    refine x_iload_n S dX3_refresh_43 1 rfl rfl ?_
    refine x_iconst (v := 0) S dX3_refresh_44 rfl ?_
    refine x_iastN (ws' := (cw ad cI cII cP n am al ch fr to wt nb M tch cu (nI ch) (va_up c k 0) br gp P ++ X)) (z := 0) S 21 0 (k) rfl rfl rfl (by omega) (by decide) rfl dX3_refresh_45 rfl ?_
    refine x_iincN (lv' := [(1, .int _), (0, .ref _)]) S dX3_refresh_46 1 rfl (by decide) rfl ?_
    refine x_goto (tgt := 28) S dX3_refresh_49 (by decide) ?_
    exact x_sub [1, 0] rfl (ih hk2 _ (fun j hj => (Nat.lt_or_ge j k).elim (fun h => by rw [va_up_ne _ _ (by omega)]; exact g1 j h) (fun h => by rw [show j = k by omega, va_up_self])))
  refine x_aload_n S dX3_refresh_0 0 rfl rfl ?_
  refine x_get S 20 4 rfl rfl inC3 (by decide) (gC _ tw98) rfl rfl dX3_refresh_1 ?_
  refine x_aload_n S dX3_refresh_4 0 rfl rfl ?_
  refine x_get S 20 0 rfl rfl inC3 (by decide) (gC _ tw92) rfl rfl dX3_refresh_5 ?_
  refine x_get S 0 8 rfl rfl inC2 (by decide) (gC _ tw48) rfl rfl dX3_refresh_8 ?_
  refine x_icmp_ne (tgt := 15) S dX3_refresh_11 (by decide) (fun h3 => ?_) (fun h3 => ?_)
  rotate_left
  · have hR2 := hR h3
    subst h3
    exact hret ((pa, br)) _ _ hR2 dX3_refresh_14
  refine x_aload_n S dX3_refresh_15 0 rfl rfl ?_
  refine x_aload_n S dX3_refresh_16 0 rfl rfl ?_
  refine x_get S 20 0 rfl rfl inC3 (by decide) (gC _ tw92) rfl rfl dX3_refresh_17 ?_
  refine x_get S 0 8 rfl rfl inC2 (by decide) (gC _ tw48) rfl rfl dX3_refresh_20 ?_
  refine x_put (ws' := (cw ad cI cII cP n am al ch fr to wt nb M tch cu (nI ch) pa br gp P ++ X)) S 20 4 rfl rfl inC3 tyX3 tyX3_ok nmX3 (by decide) (gC _ tw98) rfl rfl (tyX3_ok 4 (by decide)) rfl rfl (Nat.le_of_ble_eq_true rfl) dX3_refresh_23 rfl ?_
  refine x_iconst (v := 0) S dX3_refresh_26 rfl ?_
  refine x_istore_n (lv' := [(1, .int _), (0, .ref _)]) S dX3_refresh_27 rfl (by decide) rfl ?_
  exact x_sub [1, 0] rfl (L1 0 (Nat.zero_le _) pa (fun j hj => absurd hj (by omega)))
set_option maxHeartbeats 4000000 in
set_option maxRecDepth 100000 in
theorem c_leastBranchBetween {a b : Nat} (hn : n ≤ 12) (ha : a < n) (hb : b < n) (hp : ∀ j, j < n → pa j < n) (hbr : ∀ j, 1 ≤ j → j < n → br j < 2 ^ 31) : xMet l yX3_leastBranchBetween wX3_leastBranchBetween (rD 1) D vwCl (tyC cI cII cP cZ) nwC [.ref (ad 20), .int (nI a), .int (nI b)] (cw ad cI cII cP n am al ch fr to wt nb M tch cu rch pa br gp P ++ X) (cw ad cI cII cP n am al ch fr to wt nb M tch cu rch pa br gp P ++ X) (some (.int (nI (kWy pa br 24 a b 2147483647)))) := by
  refine xMet_of (cc := cX3_leastBranchBetween) (maxL := 8) (ret := (some .int)) (by decide +kernel) rfl (Nat.le_of_ble_eq_true rfl) xfi ?_
  intro E S hnm hret
  show xW E D vwCl 8 0 0 _ [(0, .ref (ad 20)), (1, .int (nI a)), (2, .int (nI b))] 0 []
  obtain ⟨rr, hrr⟩ : ∃ rr, kWy pa br 24 a b 2147483647 = rr := ⟨_, rfl⟩
  rw [hrr] at hret
  have F : ∀ (lv : List (Nat × Value)) (r : Nat), r = rr → xW E D vwCl 8 0 0 (cw ad cI cII cP n am al ch fr to wt nb M tch cu rch pa br gp P ++ X) ((3, .int (nI r)) :: lv) 75 [] := by
    intro lv r hr
    refine x_iload_n S dX3_leastBranchBetween_75 0 rfl rfl ?_
    exact x_ret hret (by rw [hr]) dX3_leastBranchBetween_76
  have L : ∀ k, k ≤ 24 → ∀ x y z, x < n → y < n → z < 2 ^ 31 → kWy pa br (24 - k) x y z = rr → xW E D vwCl 8 0 0 (cw ad cI cII cP n am al ch fr to wt nb M tch cu rch pa br gp P ++ X) [(0, .ref (ad 20)), (1, .int (nI a)), (2, .int (nI b)), (3, .int (nI z)), (4, .int (nI x)), (5, .int (nI y)), (6, .int (nI k))] 12 [] := by
    refine pl_up 24 (fun k hk ih => ?_)
    intro x y z hx hy hz he
    refine x_iload S dX3_leastBranchBetween_12 6 rfl ?_
    refine x_bipush (v := 24) S dX3_leastBranchBetween_14 (by decide) ?_
    refine x_icmp_ge (tgt := 75) S dX3_leastBranchBetween_16 (by decide) (fun h3 => ?_) (fun h3 => ?_)
    · have hk2 : k = 24 := Nat.le_antisymm hk ((nI_leI (by omega) (by omega)).mp h3)
      rw [hk2, Nat.sub_self] at he
      exact x_sub [3] rfl (F [] z he)
    have hk2 : k < 24 := Nat.lt_of_not_le (fun h => h3 (nI_le h (by omega)))
    rw [show 24 - k = (24 - (k + 1)) + 1 by omega] at he
    simp only [kWy] at he
    refine x_iload S dX3_leastBranchBetween_19 4 rfl ?_
    refine x_iload S dX3_leastBranchBetween_21 5 rfl ?_
    refine x_icmp_eq (tgt := 75) S dX3_leastBranchBetween_23 (by decide) (fun h4 => ?_) (fun h4 => ?_)
    · rw [if_pos (pl_inj (by omega) (by omega) h4)] at he
      exact x_sub [3] rfl (F [] z he)
    have hne : x ≠ y := fun w => h4 (by rw [w])
    rw [if_neg hne] at he
    refine x_iload S dX3_leastBranchBetween_26 4 rfl ?_
    refine x_iload S dX3_leastBranchBetween_28 5 rfl ?_
    refine x_mmin S (gC _ tw308) (gC _ tw309) (gC _ tw8) (gC _ tw310) (by decide) (Nat.le_of_ble_eq_true rfl) (Nat.le_of_ble_eq_true rfl) (Nat.le_of_ble_eq_true rfl) dX3_leastBranchBetween_30 ?_
    refine x_top (nI (min x y)) (nI_min (by omega) (by omega)) ?_
    refine x_istore (lv' := [(7, .int _), (0, .ref _), (1, .int _), (2, .int _), (3, .int _), (4, .int _), (5, .int _), (6, .int _)]) S dX3_leastBranchBetween_33 (by decide) rfl ?_
    refine x_iload S dX3_leastBranchBetween_35 5 rfl ?_
    refine x_iload S dX3_leastBranchBetween_37 6 rfl ?_
    refine x_mmax S (gC _ tw311) (gC _ tw312) (gC _ tw8) (gC _ tw313) (by decide) (Nat.le_of_ble_eq_true rfl) (Nat.le_of_ble_eq_true rfl) (Nat.le_of_ble_eq_true rfl) dX3_leastBranchBetween_39 ?_
    refine x_top (nI (max x y)) (nI_max (by omega) (by omega)) ?_
    refine x_istore (lv' := [(5, .int _), (7, .int _), (0, .ref _), (1, .int _), (2, .int _), (3, .int _), (4, .int _), (6, .int _)]) S dX3_leastBranchBetween_42 (by decide) rfl ?_
    refine x_iload S dX3_leastBranchBetween_44 1 rfl ?_
    refine x_istore (lv' := [(4, .int _), (5, .int _), (7, .int _), (0, .ref _), (1, .int _), (2, .int _), (3, .int _), (6, .int _)]) S dX3_leastBranchBetween_46 (by decide) rfl ?_
    refine x_iload_n S dX3_leastBranchBetween_48 6 rfl rfl ?_
    refine x_aload_n S dX3_leastBranchBetween_49 3 rfl rfl ?_
    refine x_get S 20 3 rfl rfl inC3 (by decide) (gC _ tw96) rfl rfl dX3_leastBranchBetween_50 ?_
    refine x_iload S dX3_leastBranchBetween_53 1 rfl ?_
    have hm : max x y < n := by omega
    have hb1 := hbr (max x y) (by omega) hm
    refine x_ialdN S 22 0 (max x y) rfl rfl rfl (by omega) (by decide) dX3_leastBranchBetween_55 ?_
    refine x_mmin S (gC _ tw308) (gC _ tw309) (gC _ tw8) (gC _ tw310) (by decide) (Nat.le_of_ble_eq_true rfl) (Nat.le_of_ble_eq_true rfl) (Nat.le_of_ble_eq_true rfl) dX3_leastBranchBetween_56 ?_
    refine x_top (nI (min z (br (max x y)))) (nI_min (by omega) (by omega)) ?_
    refine x_istore_n (lv' := [(3, .int _), (4, .int _), (5, .int _), (7, .int _), (0, .ref _), (1, .int _), (2, .int _), (6, .int _)]) S dX3_leastBranchBetween_59 rfl (by decide) rfl ?_
    refine x_aload_n S dX3_leastBranchBetween_60 4 rfl rfl ?_
    refine x_get S 20 2 rfl rfl inC3 (by decide) (gC _ tw94) rfl rfl dX3_leastBranchBetween_61 ?_
    refine x_iload S dX3_leastBranchBetween_64 2 rfl ?_
    refine x_ialdN S 21 0 (max x y) rfl rfl rfl (by omega) (by decide) dX3_leastBranchBetween_66 ?_
    refine x_istore (lv' := [(5, .int _), (3, .int _), (4, .int _), (7, .int _), (0, .ref _), (1, .int _), (2, .int _), (6, .int _)]) S dX3_leastBranchBetween_67 (by decide) rfl ?_
    refine x_iincN (lv' := [(6, .int _), (5, .int _), (3, .int _), (4, .int _), (7, .int _), (0, .ref _), (1, .int _), (2, .int _)]) S dX3_leastBranchBetween_69 7 rfl (by decide) rfl ?_
    refine x_goto (tgt := 12) S dX3_leastBranchBetween_72 (by decide) ?_
    exact x_sub [5, 6, 7, 2, 3, 1, 0] rfl (ih hk2 _ _ _ (by omega) (hp _ hm) (by omega) he)
  refine x_ldc S (gC _ tw307) dX3_leastBranchBetween_0 ?_
  refine x_istore_n (lv' := [(3, .int _), (0, .ref _), (1, .int _), (2, .int _)]) S dX3_leastBranchBetween_2 rfl (by decide) rfl ?_
  refine x_iload_n S dX3_leastBranchBetween_3 2 rfl rfl ?_
  refine x_istore (lv' := [(4, .int _), (3, .int _), (0, .ref _), (1, .int _), (2, .int _)]) S dX3_leastBranchBetween_4 (by decide) rfl ?_
  refine x_iload_n S dX3_leastBranchBetween_6 4 rfl rfl ?_
  refine x_istore (lv' := [(5, .int _), (4, .int _), (3, .int _), (0, .ref _), (1, .int _), (2, .int _)]) S dX3_leastBranchBetween_7 (by decide) rfl ?_
  refine x_iconst (v := 0) S dX3_leastBranchBetween_9 rfl ?_
  refine x_istore (lv' := [(6, .int _), (5, .int _), (4, .int _), (3, .int _), (0, .ref _), (1, .int _), (2, .int _)]) S dX3_leastBranchBetween_10 (by decide) rfl ?_
  exact x_sub [4, 5, 6, 3, 2, 1, 0] rfl (L 0 (Nat.zero_le _) a b 2147483647 ha hb (by omega) hrr)
end TR
end
section
/-! Drawing: contracts -/
section DR
section DRW
variable (fr to wt gp : Nat → Nat)
/-- the weights between GROUPS, the first k ARCS counted -/
def dW (k : Nat) : Nat := sm (fun i => if gp (fr i) = gp (to i) then 0 else wt i) k
theorem dW_s (k : Nat) : dW fr to wt gp (k + 1) = dW fr to wt gp k + if gp (fr k) = gp (to k) then 0 else wt k := rfl
theorem dW_mono {i j : Nat} (h : i ≤ j) : dW fr to wt gp i ≤ dW fr to wt gp j := by
  induction j with
  | zero => have : i = 0 := by omega
            subst this; exact Nat.le_refl _
  | succ j ih =>
    rcases Nat.lt_or_ge i (j + 1) with q | q
    · have := ih (by omega)
      rw [dW_s]; omega
    · have : i = j + 1 := by omega
      subst this; exact Nat.le_refl _
theorem dW_bd {k c : Nat} (h : ∀ i, i < k → wt i ≤ c) : dW fr to wt gp k ≤ c * k := sm_bd (fun i hi => by
  have := h i hi
  split <;> omega)
/-- which ARC is drawn -/
def dPk (t : Nat) : Nat → Nat
  | 0 => 0
  | k + 1 => if t < dW fr to wt gp k then dPk t k else k
theorem dPk_ok {t : Nat} : ∀ k, t < dW fr to wt gp k → dPk fr to wt gp t k < k ∧ dW fr to wt gp (dPk fr to wt gp t k) ≤ t ∧ t < dW fr to wt gp (dPk fr to wt gp t k + 1)
  | 0, h => absurd h (by simp [dW, sm])
  | k + 1, h => by
    simp only [dPk]
    split
    · rename_i q
      have ih := dPk_ok k q
      exact ⟨by omega, ih.2⟩
    · rename_i q
      exact ⟨by omega, by omega, h⟩
end DRW
def dJ (n : Nat) (gp : Nat → Nat) (s : Nat) : Nat → Nat := fun v => if v < n ∧ s.testBit v = true then s else gp v
def dI (n : Nat) (gp : Nat → Nat) : Nat → Nat := fun v => if v < n then 2 ^ v else gp v
def dZ (z : Int32) : Int32 := z * 1664525 + 1013904223
def dT (z : Int32) (s : Nat) : Nat := z.toBitVec.toNat / 2 % s
def dD (n am : Nat) (fr to wt : Nat → Nat) : Nat → Int32 → (Nat → Nat) → Nat
  | 0, _, gp => gp 0
  | c + 1, z, gp => if dW fr to wt gp am < 1 then gp 0 else dD n am fr to wt c (dZ z) (dJ n gp (gp (fr (dPk fr to wt gp (dT (dZ z) (dW fr to wt gp am)) am)) ||| gp (to (dPk fr to wt gp (dT (dZ z) (dW fr to wt gp am)) am))))
theorem ushr1 (z : Int32) : (z.toUInt32 >>> ((1 : Int32).toUInt32 &&& Int32.toUInt32 31)).toInt32 = nI (z.toBitVec.toNat / 2) := by
  apply Int32.toBitVec_inj.1
  apply BitVec.eq_of_toNat_eq
  rw [pk_ushr z 1 1 (by decide)]
  have : z.toBitVec.toNat < 2 ^ 32 := z.toBitVec.isLt
  rw [pk_tn (by omega)]
theorem tN_lt (z : Int32) : z.toBitVec.toNat / 2 < 2 ^ 31 := by
  have : z.toBitVec.toNat < 2 ^ 32 := z.toBitVec.isLt
  omega
theorem nI_dec (c : Nat) : nI (c + 1) + Int32.ofInt (-1) = nI c := pk_m1 c
theorem dPk_congr {fr to wt g g' : Nat → Nat} {t : Nat} : ∀ {k : Nat}, (∀ j, j ≤ k → dW fr to wt g j = dW fr to wt g' j) → dPk fr to wt g t k = dPk fr to wt g' t k
  | 0, _ => rfl
  | k + 1, h => by
    simp only [dPk]
    rw [h k (by omega), dPk_congr (fun j hj => h j (by omega))]
variable {l : Launch} {D : va_G} {ad : Nat → Nat} {cI cII cP cZ : ClassId} {n am al ch : Nat} {fr to wt nb : Nat → Nat} {M : Nat → Nat → Nat} {tch : Int32} {cu : Nat → Nat} {rch : Int32} {pa br gp : Nat → Nat} {P : Nat → Int32 × Nat × (Nat → Nat) × (Nat → Nat)} {X : va_W}
set_option maxHeartbeats 4000000 in
set_option maxRecDepth 100000 in
theorem c_isBetweenGroups {k : Nat} (hA : aOK n am fr to wt) (hg : ∀ v, v < n → gp v < 4096) (hk : k < am) : xMet l yX1_isBetweenGroups wX1_isBetweenGroups (rD 0) D vwCl (tyC cI cII cP cZ) nwC [.ref (ad 23), .int (nI k)] (cw ad cI cII cP n am al ch fr to wt nb M tch cu rch pa br gp P ++ X) (cw ad cI cII cP n am al ch fr to wt nb M tch cu rch pa br gp P ++ X) (some (.int (if gp (fr k) ≠ gp (to k) then 1 else 0))) := by
  refine xMet_of (cc := cX1_isBetweenGroups) (maxL := 2) (ret := (some .boolean)) (by decide +kernel) rfl (Nat.le_of_ble_eq_true rfl) xfz ?_
  intro E S hnm hret
  show xW E D vwCl 2 0 0 _ [(0, .ref (ad 23)), (1, .int (nI k))] 0 []
  have hn := hA.1
  have hm := hA.2.1
  obtain ⟨f1, f2, f3, f4⟩ := hA.2.2 k hk
  have g1 := hg _ f1
  have g2 := hg _ f2
  refine x_aload_n S dX1_isBetweenGroups_0 0 rfl rfl ?_
  refine x_get S 23 1 rfl rfl inC1 (by decide) (gC _ tw117) rfl rfl dX1_isBetweenGroups_1 ?_
  refine x_aload_n S dX1_isBetweenGroups_4 0 rfl rfl ?_
  refine x_get S 23 0 rfl rfl inC1 (by decide) (gC _ tw116) rfl rfl dX1_isBetweenGroups_5 ?_
  refine x_get S 0 0 rfl rfl inC2 (by decide) (gC _ tw27) rfl rfl dX1_isBetweenGroups_8 ?_
  refine x_iload_n S dX1_isBetweenGroups_11 1 rfl rfl ?_
  refine x_ialdN S 1 0 (k) rfl rfl rfl (by omega) (by decide) dX1_isBetweenGroups_12 ?_
  refine x_ialdN S 24 0 (fr k) rfl rfl rfl (by omega) (by decide) dX1_isBetweenGroups_13 ?_
  refine x_aload_n S dX1_isBetweenGroups_14 0 rfl rfl ?_
  refine x_get S 23 1 rfl rfl inC1 (by decide) (gC _ tw117) rfl rfl dX1_isBetweenGroups_15 ?_
  refine x_aload_n S dX1_isBetweenGroups_18 0 rfl rfl ?_
  refine x_get S 23 0 rfl rfl inC1 (by decide) (gC _ tw116) rfl rfl dX1_isBetweenGroups_19 ?_
  refine x_get S 0 1 rfl rfl inC2 (by decide) (gC _ tw29) rfl rfl dX1_isBetweenGroups_22 ?_
  refine x_iload_n S dX1_isBetweenGroups_25 1 rfl rfl ?_
  refine x_ialdN S 2 0 (k) rfl rfl rfl (by omega) (by decide) dX1_isBetweenGroups_26 ?_
  refine x_ialdN S 24 0 (to k) rfl rfl rfl (by omega) (by decide) dX1_isBetweenGroups_27 ?_
  refine x_icmp_eq (tgt := 35) S dX1_isBetweenGroups_28 (by decide) (fun h3 => ?_) (fun h3 => ?_)
  rotate_left
  · refine x_iconst (v := 1) S dX1_isBetweenGroups_31 rfl ?_
    refine x_goto (tgt := 36) S dX1_isBetweenGroups_32 (by decide) ?_
    exact x_ret hret (if_pos (fun q => h3 (by rw [q]))).symm dX1_isBetweenGroups_36
  refine x_iconst (v := 0) S dX1_isBetweenGroups_35 rfl ?_
  exact x_ret hret (if_neg (fun q => q (pl_inj (by omega) (by omega) h3))).symm dX1_isBetweenGroups_36
set_option maxHeartbeats 4000000 in
set_option maxRecDepth 100000 in
theorem c_weightBetweenGroups (hA : aOK n am fr to wt) (hg : ∀ v, v < n → gp v < 4096) : xMet l yX1_weightBetweenGroups wX1_weightBetweenGroups (rD 1) D vwCl (tyC cI cII cP cZ) nwC [.ref (ad 23)] (cw ad cI cII cP n am al ch fr to wt nb M tch cu rch pa br gp P ++ X) (cw ad cI cII cP n am al ch fr to wt nb M tch cu rch pa br gp P ++ X) (some (.int (nI (dW fr to wt gp am)))) := by
  refine xMet_of (cc := cX1_weightBetweenGroups) (maxL := 3) (ret := (some .int)) (by decide +kernel) rfl (Nat.le_of_ble_eq_true rfl) xfi ?_
  intro E S hnm hret
  show xW E D vwCl 3 0 0 _ [(0, .ref (ad 23))] 0 []
  have hn := hA.1
  have hm := hA.2.1
  have L : ∀ k, k ≤ am → xW E D vwCl 3 0 0 (cw ad cI cII cP n am al ch fr to wt nb M tch cu rch pa br gp P ++ X) [(0, .ref (ad 23)), (1, .int (nI (dW fr to wt gp k))), (2, .int (nI k))] 4 [] := by
    refine pl_up am (fun k hk ih => ?_)
    refine x_iload_n S dX1_weightBetweenGroups_4 2 rfl rfl ?_
    refine x_aload_n S dX1_weightBetweenGroups_5 0 rfl rfl ?_
    refine x_get S 23 0 rfl rfl inC1 (by decide) (gC _ tw116) rfl rfl dX1_weightBetweenGroups_6 ?_
    refine x_get S 0 6 rfl rfl inC2 (by decide) (gC _ tw44) rfl rfl dX1_weightBetweenGroups_9 ?_
    refine x_icmp_ge (tgt := 41) S dX1_weightBetweenGroups_12 (by decide) (fun h3 => ?_) (fun h3 => ?_)
    · have hk2 : k = am := Nat.le_antisymm hk ((nI_leI (by omega) (by omega)).mp h3)
      subst hk2
      refine x_iload_n S dX1_weightBetweenGroups_41 1 rfl rfl ?_
      exact x_ret hret rfl dX1_weightBetweenGroups_42
    have hk2 : k < am := Nat.lt_of_not_le (fun h => h3 (nI_le h (by omega)))
    have ih := ih hk2
    rw [dW_s] at ih
    refine x_aload_n S dX1_weightBetweenGroups_15 0 rfl rfl ?_
    refine x_iload_n S dX1_weightBetweenGroups_16 2 rfl rfl ?_
    refine x_cVi (n := 1) S (c_isBetweenGroups hA hg hk2) (gGV gC tw359 tw356 tw358 ts6 tw5) rfl (by decide +kernel) 23 rfl rfl rfl rfl (Nat.le_of_ble_eq_true rfl) dX1_weightBetweenGroups_17 ⟨by decide, by decide⟩ ⟨Nat.le_of_ble_eq_true rfl, Nat.le_of_ble_eq_true rfl⟩ ?_
    refine x_if_eqB (tgt := 35) S dX1_weightBetweenGroups_20 (by decide) (fun h4 => ?_) (fun h4 => ?_)
    · rw [if_pos (Classical.byContradiction h4)] at ih
      refine x_iincN (lv' := [(2, .int _), (0, .ref _), (1, .int _)]) S dX1_weightBetweenGroups_35 2 rfl (by decide) rfl ?_
      refine x_goto (tgt := 4) S dX1_weightBetweenGroups_38 (by decide) ?_
      exact x_sub [1, 2, 0] rfl (ih)
    rw [if_neg h4] at ih
    refine x_iload_n S dX1_weightBetweenGroups_23 1 rfl rfl ?_
    refine x_aload_n S dX1_weightBetweenGroups_24 0 rfl rfl ?_
    refine x_get S 23 0 rfl rfl inC1 (by decide) (gC _ tw116) rfl rfl dX1_weightBetweenGroups_25 ?_
    refine x_get S 0 2 rfl rfl inC2 (by decide) (gC _ tw31) rfl rfl dX1_weightBetweenGroups_28 ?_
    refine x_iload_n S dX1_weightBetweenGroups_31 2 rfl rfl ?_
    refine x_ialdN S 3 0 (k) rfl rfl rfl (by omega) (by decide) dX1_weightBetweenGroups_32 ?_
    refine x_iadd S dX1_weightBetweenGroups_33 ?_
    refine x_top (nI (dW fr to wt gp k + wt k)) (nI_add _ _) ?_
    refine x_istore_n (lv' := [(1, .int _), (0, .ref _), (2, .int _)]) S dX1_weightBetweenGroups_34 rfl (by decide) rfl ?_
    refine x_iincN (lv' := [(2, .int _), (1, .int _), (0, .ref _)]) S dX1_weightBetweenGroups_35 2 rfl (by decide) rfl ?_
    refine x_goto (tgt := 4) S dX1_weightBetweenGroups_38 (by decide) ?_
    exact x_sub [2, 1, 0] rfl (ih)
  refine x_iconst (v := 0) S dX1_weightBetweenGroups_0 rfl ?_
  refine x_istore_n (lv' := [(1, .int _), (0, .ref _)]) S dX1_weightBetweenGroups_1 rfl (by decide) rfl ?_
  refine x_iconst (v := 0) S dX1_weightBetweenGroups_2 rfl ?_
  refine x_istore_n (lv' := [(2, .int _), (1, .int _), (0, .ref _)]) S dX1_weightBetweenGroups_3 rfl (by decide) rfl ?_
  exact x_sub [2, 1, 0] rfl (L 0 (Nat.zero_le _))
set_option maxHeartbeats 4000000 in
set_option maxRecDepth 100000 in
theorem c_joinGroups {s : Nat} (hn : n ≤ 12) (hs : s < 4096) : xMetS l yX1_joinGroups wX1_joinGroups (rD 0) D vwCl (tyC cI cII cP cZ) nwC [.ref (ad 23), .int (nI s)] (cw ad cI cII cP n am al ch fr to wt nb M tch cu rch pa br gp P ++ X) (fun g : Nat → Nat => ∀ v, v < n → g v = dJ n gp s v) (fun g => (cw ad cI cII cP n am al ch fr to wt nb M tch cu rch pa br g P ++ X)) (fun _ => none) := by
  refine xMetS_of (cc := cX1_joinGroups) (maxL := 3) (ret := none) (by decide +kernel) rfl (Nat.le_of_ble_eq_true rfl) (fun _ _ => xfv) ?_
  intro E S hnm hret
  show xW E D vwCl 3 0 0 _ [(0, .ref (ad 23)), (1, .int (nI s))] 0 []
  have L : ∀ k, k ≤ n → ∀ g : Nat → Nat, (∀ v, v < k → g v = dJ n gp s v) → (∀ v, k ≤ v → v < n → g v = gp v) → xW E D vwCl 3 0 0 (cw ad cI cII cP n am al ch fr to wt nb M tch cu rch pa br g P ++ X) [(0, .ref (ad 23)), (1, .int (nI s)), (2, .int (nI k))] 2 [] := by
    refine pl_up n (fun k hk ih => ?_)
    intro g g1 g2
    refine x_iload_n S dX1_joinGroups_2 2 rfl rfl ?_
    refine x_aload_n S dX1_joinGroups_3 0 rfl rfl ?_
    refine x_get S 23 0 rfl rfl inC1 (by decide) (gC _ tw116) rfl rfl dX1_joinGroups_4 ?_
    refine x_get S 0 5 rfl rfl inC2 (by decide) (gC _ tw38) rfl rfl dX1_joinGroups_7 ?_
    refine x_icmp_ge (tgt := 35) S dX1_joinGroups_10 (by decide) (fun h3 => ?_) (fun h3 => ?_)
    · have hk2 : k = n := Nat.le_antisymm hk ((nI_leI (by omega) (by omega)).mp h3)
      subst hk2
      exact hret (g) _ _ g1 dX1_joinGroups_35
    have hk2 : k < n := Nat.lt_of_not_le (fun h => h3 (nI_le h (by omega)))
    have ih := ih hk2
    refine x_iload_n S dX1_joinGroups_13 1 rfl rfl ?_
    refine x_iload_n S dX1_joinGroups_14 2 rfl rfl ?_
    refine x_ishr S dX1_joinGroups_15 ?_
    refine x_iconst (v := 1) S dX1_joinGroups_16 rfl ?_
    refine x_iand S dX1_joinGroups_17 ?_
    refine x_iconst (v := 1) S dX1_joinGroups_18 rfl ?_
    refine x_icmp_ne (tgt := 29) S dX1_joinGroups_19 (by decide) (fun h4 => ?_) (fun h4 => ?_)
    rotate_left
    · refine x_aload_n S dX1_joinGroups_22 0 rfl rfl ?_
      refine x_get S 23 1 rfl rfl inC1 (by decide) (gC _ tw117) rfl rfl dX1_joinGroups_23 ?_
      refine x_iload_n S dX1_joinGroups_26 2 rfl rfl ?_
      refine x_iload_n S dX1_joinGroups_27 1 rfl rfl ?_
      refine x_iastN (ws' := (cw ad cI cII cP n am al ch fr to wt nb M tch cu rch pa br (va_up g k s) P ++ X)) S 24 0 (k) rfl rfl rfl (by omega) (by decide) rfl dX1_joinGroups_28 rfl ?_
      refine x_iincN (lv' := [(2, .int _), (0, .ref _), (1, .int _)]) S dX1_joinGroups_29 2 rfl (by decide) rfl ?_
      refine x_goto (tgt := 2) S dX1_joinGroups_32 (by decide) ?_
      exact x_sub [1, 2, 0] rfl (ih _ (fun v hv => (Nat.lt_or_ge v k).elim (fun h => by rw [va_up_ne _ _ (by omega)]; exact g1 v h) (fun h => by have e : v = k := (by omega); subst e; rw [va_up_self]; unfold dJ; rw [if_pos ⟨hk2, (pl_bit1 (by omega) (by omega)).mp h4⟩])) (fun v h h' => by rw [va_up_ne _ _ (by omega)]; exact g2 v (by omega) h'))
    refine x_iincN (lv' := [(2, .int _), (0, .ref _), (1, .int _)]) S dX1_joinGroups_29 2 rfl (by decide) rfl ?_
    refine x_goto (tgt := 2) S dX1_joinGroups_32 (by decide) ?_
    exact x_sub [1, 2, 0] rfl (ih g (fun v hv => (Nat.lt_or_ge v k).elim (fun h => g1 v h) (fun h => by have e : v = k := (by omega); subst e; unfold dJ; rw [if_neg (fun q => h4 ((pl_bit1 (by omega) (by omega)).mpr q.2))]; exact g2 v (Nat.le_refl _) hk2)) (fun v h h' => g2 v (by omega) h'))
  refine x_iconst (v := 0) S dX1_joinGroups_0 rfl ?_
  refine x_istore_n (lv' := [(2, .int _), (0, .ref _), (1, .int _)]) S dX1_joinGroups_1 rfl (by decide) rfl ?_
  exact x_sub [1, 2, 0] rfl (L 0 (Nat.zero_le _) gp (fun v hv => absurd hv (by omega)) (fun v _ _ => rfl))
set_option maxHeartbeats 4000000 in
set_option maxRecDepth 100000 in
theorem c_joinByArcAt {t i : Nat} (hA : aOK n am fr to wt) (hg : ∀ v, v < n → gp v < 4096) (hi : i < am) (ht : t < 2 ^ 31) (h1 : dW fr to wt gp i ≤ t) (h2 : t < dW fr to wt gp (i + 1)) : xMetS l yX1_joinByArcAt wX1_joinByArcAt (rD 1) D vwCl (tyC cI cII cP cZ) nwC [.ref (ad 23), .int (nI t)] (cw ad cI cII cP n am al ch fr to wt nb M tch cu rch pa br gp P ++ X) (fun g : Nat → Nat => ∀ v, v < n → g v = dJ n gp (gp (fr i) ||| gp (to i)) v) (fun g => (cw ad cI cII cP n am al ch fr to wt nb M tch cu rch pa br g P ++ X)) (fun _ => none) := by
  refine xMetS_of (cc := cX1_joinByArcAt) (maxL := 4) (ret := none) (by decide +kernel) rfl (Nat.le_of_ble_eq_true rfl) (fun _ _ => xfv) ?_
  intro E S hnm hret
  show xW E D vwCl 4 0 0 _ [(0, .ref (ad 23)), (1, .int (nI t))] 0 []
  have hn := hA.1
  have hm := hA.2.1
  have hbd : ∀ k, k ≤ am → dW fr to wt gp k ≤ 50000 := fun k hk => by
    have := dW_bd fr to wt gp (k := k) (c := 1000) (fun j hj => (hA.2.2 j (by omega)).2.2.2)
    omega
  have L : ∀ k, k ≤ i → xW E D vwCl 4 0 0 (cw ad cI cII cP n am al ch fr to wt nb M tch cu rch pa br gp P ++ X) [(0, .ref (ad 23)), (1, .int (nI t)), (2, .int (nI (dW fr to wt gp k))), (3, .int (nI k))] 4 [] := by
    refine pl_up i (fun k hk ih => ?_)
    refine x_iload_n S dX1_joinByArcAt_4 3 rfl rfl ?_
    refine x_aload_n S dX1_joinByArcAt_5 0 rfl rfl ?_
    refine x_get S 23 0 rfl rfl inC1 (by decide) (gC _ tw116) rfl rfl dX1_joinByArcAt_6 ?_
    refine x_get S 0 6 rfl rfl inC2 (by decide) (gC _ tw44) rfl rfl dX1_joinByArcAt_9 ?_
    refine x_icmp_ge (tgt := 80) S dX1_joinByArcAt_12 (by decide) (fun h3 => ?_) (fun h3 => ?_)
    · exact absurd h3 (nI_ge (by omega) (by omega))
    have hka : k < am := by omega
    obtain ⟨f1, f2, f3, f4⟩ := hA.2.2 k hka
    have b1 := hbd k (by omega)
    have b2 := hbd (k + 1) (by omega)
    have e := dW_s fr to wt gp k
    have hmn := dW_mono fr to wt gp hk
    refine x_aload_n S dX1_joinByArcAt_15 0 rfl rfl ?_
    refine x_iload_n S dX1_joinByArcAt_16 3 rfl rfl ?_
    refine x_cVi (n := 1) S (c_isBetweenGroups hA hg hka) (gGV gC tw359 tw356 tw358 ts6 tw5) rfl (by decide +kernel) 23 rfl rfl rfl rfl (Nat.le_of_ble_eq_true rfl) dX1_joinByArcAt_17 ⟨by decide, by decide⟩ ⟨Nat.le_of_ble_eq_true rfl, Nat.le_of_ble_eq_true rfl⟩ ?_
    refine x_if_eqB (tgt := 74) S dX1_joinByArcAt_20 (by decide) (fun h4 => ?_) (fun h4 => ?_)
    · rw [if_pos (Classical.byContradiction h4)] at e
      have hki : k < i := by
        rcases Nat.lt_or_ge k i with q | q
        · exact q
        · have hk3 : k = i := by omega
          subst hk3
          omega
      refine x_iincN (lv' := [(3, .int _), (0, .ref _), (1, .int _), (2, .int _)]) S dX1_joinByArcAt_74 3 rfl (by decide) rfl ?_
      refine x_goto (tgt := 4) S dX1_joinByArcAt_77 (by decide) ?_
      rw [← Nat.add_zero (dW fr to wt gp k), ← e]
      exact x_sub [1, 2, 3, 0] rfl (ih hki)
    rw [if_neg h4] at e
    refine x_iload_n S dX1_joinByArcAt_23 2 rfl rfl ?_
    refine x_aload_n S dX1_joinByArcAt_24 0 rfl rfl ?_
    refine x_get S 23 0 rfl rfl inC1 (by decide) (gC _ tw116) rfl rfl dX1_joinByArcAt_25 ?_
    refine x_get S 0 2 rfl rfl inC2 (by decide) (gC _ tw31) rfl rfl dX1_joinByArcAt_28 ?_
    refine x_iload_n S dX1_joinByArcAt_31 3 rfl rfl ?_
    refine x_ialdN S 3 0 (k) rfl rfl rfl (by omega) (by decide) dX1_joinByArcAt_32 ?_
    refine x_iadd S dX1_joinByArcAt_33 ?_
    refine x_top (nI (dW fr to wt gp (k + 1))) (by rw [nI_add, e]) ?_
    refine x_istore_n (lv' := [(2, .int _), (0, .ref _), (1, .int _), (3, .int _)]) S dX1_joinByArcAt_34 rfl (by decide) rfl ?_
    refine x_iload_n S dX1_joinByArcAt_35 0 rfl rfl ?_
    refine x_iload_n S dX1_joinByArcAt_36 2 rfl rfl ?_
    refine x_icmp_le (tgt := 74) S dX1_joinByArcAt_37 (by decide) (fun h5 => ?_) (fun h5 => ?_)
    · have h5 := (nI_leI (by omega) ht).mp h5
      have hki : k < i := by
        rcases Nat.lt_or_ge k i with q | q
        · exact q
        · have hk3 : k = i := by omega
          subst hk3
          omega
      refine x_iincN (lv' := [(3, .int _), (2, .int _), (0, .ref _), (1, .int _)]) S dX1_joinByArcAt_74 3 rfl (by decide) rfl ?_
      refine x_goto (tgt := 4) S dX1_joinByArcAt_77 (by decide) ?_
      exact x_sub [2, 3, 1, 0] rfl (ih hki)
    have h5 : t < dW fr to wt gp (k + 1) := Nat.lt_of_not_le (fun q => h5 (nI_le q ht))
    have hk3 : k = i := by
      rcases Nat.lt_or_ge k i with q | q
      · have := dW_mono fr to wt gp (show k + 1 ≤ i by omega)
        omega
      · omega
    subst hk3
    refine x_aload_n S dX1_joinByArcAt_40 1 rfl rfl ?_
    refine x_aload_n S dX1_joinByArcAt_41 1 rfl rfl ?_
    refine x_get S 23 1 rfl rfl inC1 (by decide) (gC _ tw117) rfl rfl dX1_joinByArcAt_42 ?_
    refine x_aload_n S dX1_joinByArcAt_45 1 rfl rfl ?_
    refine x_get S 23 0 rfl rfl inC1 (by decide) (gC _ tw116) rfl rfl dX1_joinByArcAt_46 ?_
    refine x_get S 0 0 rfl rfl inC2 (by decide) (gC _ tw27) rfl rfl dX1_joinByArcAt_49 ?_
    refine x_iload_n S dX1_joinByArcAt_52 3 rfl rfl ?_
    refine x_ialdN S 1 0 (k) rfl rfl rfl (by omega) (by decide) dX1_joinByArcAt_53 ?_
    refine x_ialdN S 24 0 (fr k) rfl rfl rfl (by omega) (by decide) dX1_joinByArcAt_54 ?_
    refine x_aload_n S dX1_joinByArcAt_55 1 rfl rfl ?_
    refine x_get S 23 1 rfl rfl inC1 (by decide) (gC _ tw117) rfl rfl dX1_joinByArcAt_56 ?_
    refine x_aload_n S dX1_joinByArcAt_59 1 rfl rfl ?_
    refine x_get S 23 0 rfl rfl inC1 (by decide) (gC _ tw116) rfl rfl dX1_joinByArcAt_60 ?_
    refine x_get S 0 1 rfl rfl inC2 (by decide) (gC _ tw29) rfl rfl dX1_joinByArcAt_63 ?_
    refine x_iload_n S dX1_joinByArcAt_66 3 rfl rfl ?_
    refine x_ialdN S 2 0 (k) rfl rfl rfl (by omega) (by decide) dX1_joinByArcAt_67 ?_
    refine x_ialdN S 24 0 (to k) rfl rfl rfl (by omega) (by decide) dX1_joinByArcAt_68 ?_
    refine x_ior S dX1_joinByArcAt_69 ?_
    refine x_top (nI (gp (fr k) ||| gp (to k))) (pl_or _ _) ?_
    refine x_cVvS (n := 1) S (c_joinGroups hn (Nat.or_lt_two_pow (n := 12) (hg _ f1) (hg _ f2))) (gGV gC tw369 tw366 tw368 ts8 tw5) rfl (by decide +kernel) 23 rfl rfl rfl rfl (Nat.le_of_ble_eq_true rfl) dX1_joinByArcAt_70 ⟨by decide, by decide⟩ ⟨Nat.le_of_ble_eq_true rfl, Nat.le_of_ble_eq_true rfl⟩ (fun g hgg => ?_)
    exact hret (g) _ _ hgg dX1_joinByArcAt_73
  refine x_iconst (v := 0) S dX1_joinByArcAt_0 rfl ?_
  refine x_istore_n (lv' := [(2, .int _), (0, .ref _), (1, .int _)]) S dX1_joinByArcAt_1 rfl (by decide) rfl ?_
  refine x_iconst (v := 0) S dX1_joinByArcAt_2 rfl ?_
  refine x_istore_n (lv' := [(3, .int _), (2, .int _), (0, .ref _), (1, .int _)]) S dX1_joinByArcAt_3 rfl (by decide) rfl ?_
  exact x_sub [2, 3, 1, 0] rfl (L 0 (Nat.zero_le _))
set_option maxHeartbeats 4000000 in
set_option maxRecDepth 100000 in
theorem c_drawBy (z : Int32) (h2 : 2 ≤ n) (hA : aOK n am fr to wt) : xMetS l yX1_drawBy wX1_drawBy (rD 2) D vwCl (tyC cI cII cP cZ) nwC [.ref (ad 23), .int z] (cw ad cI cII cP n am al ch fr to wt nb M tch cu rch pa br gp P ++ X) (fun _ : Nat → Nat => True) (fun g => (cw ad cI cII cP n am al ch fr to wt nb M tch cu rch pa br g P ++ X)) (fun _ => some (.int (nI (dD n am fr to wt (n - 2) z (dI n gp))))) := by
  refine xMetS_of (cc := cX1_drawBy) (maxL := 5) (ret := (some .int)) (by decide +kernel) rfl (Nat.le_of_ble_eq_true rfl) (fun _ _ => xfi) ?_
  intro E S hnm hret
  show xW E D vwCl 5 0 0 _ [(0, .ref (ad 23)), (1, .int z)] 0 []
  have hn := hA.1
  have hm := hA.2.1
  obtain ⟨rr, hrr⟩ : ∃ rr, dD n am fr to wt (n - 2) z (dI n gp) = rr := ⟨_, rfl⟩
  rw [hrr] at hret
  have F : ∀ (lv : List (Nat × Value)) (g : Nat → Nat), g 0 = rr → xW E D vwCl 5 0 0 (cw ad cI cII cP n am al ch fr to wt nb M tch cu rch pa br g P ++ X) ((0, .ref (ad 23)) :: lv) 82 [] := by
    intro lv g hr
    refine x_aload_n S dX1_drawBy_82 0 rfl rfl ?_
    refine x_get S 23 1 rfl rfl inC1 (by decide) (gC _ tw117) rfl rfl dX1_drawBy_83 ?_
    refine x_iconst (v := 0) S dX1_drawBy_86 rfl ?_
    refine x_ialdN S 24 0 (0) rfl rfl rfl (by omega) (by decide) dX1_drawBy_87 ?_
    rw [hr]
    exact hret g _ _ trivial dX1_drawBy_88
  have L : ∀ c, c ≤ 10 → ∀ (x : Int32) (g : Nat → Nat) (g' : Nat → Nat), (∀ v, v < n → g v = g' v) → (∀ v, v < n → g v < 4096) → dD n am fr to wt c x g' = rr → xW E D vwCl 5 0 0 (cw ad cI cII cP n am al ch fr to wt nb M tch cu rch pa br g P ++ X) [(0, .ref (ad 23)), (1, .int z), (2, .int x), (3, .int (nI (c + 2)))] 38 [] := by
    intro c
    induction c with
    | zero =>
      intro hc x g g' hgg hg4 he
      refine x_iload_n S dX1_drawBy_38 3 rfl rfl ?_
      refine x_iconst (v := 2) S dX1_drawBy_39 rfl ?_
      refine x_icmp_le (tgt := 82) S dX1_drawBy_40 (by decide) (fun h3 => ?_) (fun h3 => ?_)
      · exact x_sub [0] rfl (F [] g (by rw [hgg 0 (by omega)]; exact he))
      exact absurd (by decide) h3
    | succ c ih =>
      intro hc x g g' hgg hg4 he
      refine x_iload_n S dX1_drawBy_38 3 rfl rfl ?_
      refine x_iconst (v := 2) S dX1_drawBy_39 rfl ?_
      refine x_icmp_le (tgt := 82) S dX1_drawBy_40 (by decide) (fun h3 => ?_) (fun h3 => ?_)
      · exact absurd h3 (nI_ge (a := 2) (b := c + 1 + 2) (by omega) (by omega))
      have eW : ∀ k, k ≤ am → dW fr to wt g k = dW fr to wt g' k := fun k hk => sm_congr (fun j hj => by
        obtain ⟨f1, f2, _, _⟩ := hA.2.2 j (by omega)
        rw [hgg _ f1, hgg _ f2])
      have b2 : dW fr to wt g am ≤ 50000 := by
        have := dW_bd fr to wt g (k := am) (c := 1000) (fun j hj => (hA.2.2 j (by omega)).2.2.2)
        omega
      simp only [dD] at he
      rw [← eW am (Nat.le_refl _)] at he
      refine x_aload_n S dX1_drawBy_43 0 rfl rfl ?_
      refine x_cVi (n := 0) S (c_weightBetweenGroups hA hg4) (gGV gC tw355 tw352 tw354 ts5 tw5) rfl (by decide +kernel) 23 rfl rfl rfl rfl (Nat.le_of_ble_eq_true rfl) dX1_drawBy_44 ⟨by decide, by decide⟩ ⟨Nat.le_of_ble_eq_true rfl, Nat.le_of_ble_eq_true rfl⟩ ?_
      refine x_istore (lv' := [(4, .int _), (0, .ref _), (1, .int _), (2, .int _), (3, .int _)]) S dX1_drawBy_47 (by decide) rfl ?_
      refine x_iload S dX1_drawBy_49 0 rfl ?_
      refine x_iconst (v := 1) S dX1_drawBy_51 rfl ?_
      refine x_icmp_ge (tgt := 58) S dX1_drawBy_52 (by decide) (fun h4 => ?_) (fun h4 => ?_)
      rotate_left
      · refine x_goto (tgt := 82) S dX1_drawBy_55 (by decide) ?_
        have h4 : dW fr to wt g am < 1 := Nat.lt_of_not_le (fun q => h4 (nI_le q (by omega)))
        rw [if_pos h4] at he
        exact x_sub [1] rfl (F [] g (by rw [hgg 0 (by omega)]; exact he))
      have h4 : ¬ dW fr to wt g am < 1 := fun q => nI_ge q (by omega) h4
      rw [if_neg h4] at he
      refine x_iload_n S dX1_drawBy_58 3 rfl rfl ?_
      refine x_ldc S (gC _ tw360) dX1_drawBy_59 ?_
      refine x_imul S dX1_drawBy_61 ?_
      refine x_ldc S (gC _ tw361) dX1_drawBy_62 ?_
      refine x_iadd S dX1_drawBy_64 ?_
      refine x_top (dZ x) rfl ?_
      refine x_istore_n (lv' := [(2, .int _), (4, .int _), (0, .ref _), (1, .int _), (3, .int _)]) S dX1_drawBy_65 rfl (by decide) rfl ?_
      refine x_aload_n S dX1_drawBy_66 2 rfl rfl ?_
      refine x_iload_n S dX1_drawBy_67 0 rfl rfl ?_
      refine x_iconst (v := 1) S dX1_drawBy_68 rfl ?_
      refine x_iushr S dX1_drawBy_69 ?_
      refine x_top (nI ((dZ x).toBitVec.toNat / 2)) (ushr1 _) ?_
      refine x_iload S dX1_drawBy_70 1 rfl ?_
      refine x_irem S dX1_drawBy_72 (nI_ne0 (by omega) (by omega)) ?_
      refine x_top (nI (dT (dZ x) (dW fr to wt g am))) (pk_rem (tN_lt _) (by omega) (by omega)) ?_
      have hlt : dT (dZ x) (dW fr to wt g am) < dW fr to wt g am := Nat.mod_lt _ (by omega)
      obtain ⟨p1, p2, p3⟩ := dPk_ok fr to wt g am hlt
      have ePk : ∀ k, k ≤ am → dPk fr to wt g (dT (dZ x) (dW fr to wt g am)) k = dPk fr to wt g' (dT (dZ x) (dW fr to wt g am)) k := fun k hk => dPk_congr (fun j hj => eW j (by omega))
      rw [← ePk am (Nat.le_refl _)] at he
      generalize dPk fr to wt g (dT (dZ x) (dW fr to wt g am)) am = i at p1 p2 p3 he
      obtain ⟨f1, f2, _, _⟩ := hA.2.2 i p1
      rw [← hgg _ f1, ← hgg _ f2] at he
      refine x_cVvS (n := 1) S (c_joinByArcAt hA hg4 p1 (by omega) p2 p3) (gGV gC tw365 tw362 tw364 ts7 tw5) rfl (by decide +kernel) 23 rfl rfl rfl rfl (Nat.le_of_ble_eq_true rfl) dX1_drawBy_73 ⟨by decide, by decide⟩ ⟨Nat.le_of_ble_eq_true rfl, Nat.le_of_ble_eq_true rfl⟩ (fun g2 hg2 => ?_)
      refine x_iinc (lv' := [(3, .int _), (2, .int _), (4, .int _), (0, .ref _), (1, .int _)]) (v := nI (c + 2)) S dX1_drawBy_76 4 rfl (nI_dec (c + 2)) (by decide) rfl ?_
      refine x_goto (tgt := 38) S dX1_drawBy_79 (by decide) ?_
      have hor := Nat.or_lt_two_pow (n := 12) (hg4 _ f1) (hg4 _ f2)
      exact x_sub [3, 4, 1, 0] rfl (ih (by omega) (dZ x) g2 _ (fun v hv => by rw [hg2 v hv]; unfold dJ; rw [hgg v hv]) (fun v hv => by rw [hg2 v hv]; unfold dJ; split; exact hor; exact hg4 v hv) he)
  have L0 : ∀ k, k ≤ n → ∀ g : Nat → Nat, (∀ v, v < k → g v = 2 ^ v) → xW E D vwCl 5 0 0 (cw ad cI cII cP n am al ch fr to wt nb M tch cu rch pa br g P ++ X) [(0, .ref (ad 23)), (1, .int z), (2, .int (nI k))] 2 [] := by
    refine pl_up n (fun k hk ih => ?_)
    intro g g1
    refine x_iload_n S dX1_drawBy_2 2 rfl rfl ?_
    refine x_aload_n S dX1_drawBy_3 0 rfl rfl ?_
    refine x_get S 23 0 rfl rfl inC1 (by decide) (gC _ tw116) rfl rfl dX1_drawBy_4 ?_
    refine x_get S 0 5 rfl rfl inC2 (by decide) (gC _ tw38) rfl rfl dX1_drawBy_7 ?_
    refine x_icmp_ge (tgt := 28) S dX1_drawBy_10 (by decide) (fun h3 => ?_) (fun h3 => ?_)
    · have hk2 : k = n := Nat.le_antisymm hk ((nI_leI (by omega) (by omega)).mp h3)
      refine x_iload_n S dX1_drawBy_28 1 rfl rfl ?_
      refine x_istore_n (lv' := [(2, .int _), (0, .ref _), (1, .int _)]) S dX1_drawBy_29 rfl (by decide) rfl ?_
      refine x_aload_n S dX1_drawBy_30 1 rfl rfl ?_
      refine x_get S 23 0 rfl rfl inC1 (by decide) (gC _ tw116) rfl rfl dX1_drawBy_31 ?_
      refine x_get S 0 5 rfl rfl inC2 (by decide) (gC _ tw38) rfl rfl dX1_drawBy_34 ?_
      refine x_istore_n (lv' := [(3, .int _), (2, .int _), (0, .ref _), (1, .int _)]) S dX1_drawBy_37 rfl (by decide) rfl ?_
      have hLL := L (n - 2) (by omega) z g (dI n gp) (fun v hv => by rw [g1 v (by omega)]; unfold dI; rw [if_pos hv]) (fun v hv => by rw [g1 v (by omega)]; exact pl_pow (n := 12) (by omega)) hrr
      rw [show n - 2 + 2 = n by omega] at hLL
      exact x_sub [2, 3, 1, 0] rfl (hLL)
    have hk2 : k < n := Nat.lt_of_not_le (fun h => h3 (nI_le h (by omega)))
    refine x_aload_n S dX1_drawBy_13 0 rfl rfl ?_
    refine x_get S 23 1 rfl rfl inC1 (by decide) (gC _ tw117) rfl rfl dX1_drawBy_14 ?_
    refine x_iload_n S dX1_drawBy_17 2 rfl rfl ?_
    refine x_iconst (v := 1) S dX1_drawBy_18 rfl ?_
    refine x_iload_n S dX1_drawBy_19 2 rfl rfl ?_
    refine x_ishl S dX1_drawBy_20 ?_
    refine x_top (nI (2 ^ k)) (pl_one (by omega)) ?_
    refine x_iastN (ws' := (cw ad cI cII cP n am al ch fr to wt nb M tch cu rch pa br (va_up g k (2 ^ k)) P ++ X)) S 24 0 (k) rfl rfl rfl (by omega) (by decide) rfl dX1_drawBy_21 rfl ?_
    refine x_iincN (lv' := [(2, .int _), (0, .ref _), (1, .int _)]) S dX1_drawBy_22 2 rfl (by decide) rfl ?_
    refine x_goto (tgt := 2) S dX1_drawBy_25 (by decide) ?_
    exact x_sub [1, 2, 0] rfl (ih hk2 _ (fun v hv => (Nat.lt_or_ge v k).elim (fun h => by rw [va_up_ne _ _ (by omega)]; exact g1 v h) (fun h => by rw [show v = k by omega, va_up_self])))
  refine x_iconst (v := 0) S dX1_drawBy_0 rfl ?_
  refine x_istore_n (lv' := [(2, .int _), (0, .ref _), (1, .int _)]) S dX1_drawBy_1 rfl (by decide) rfl ?_
  exact x_sub [1, 2, 0] rfl (L0 0 (Nat.zero_le _) gp (fun v hv => absurd hv (by omega)))
end DR
end
section
/-! Parting: contracts -/
section PT
def cwp (ad : Nat → Nat) (cI cII cP : ClassId) (n am al ch : Nat) (fr to wt nb : Nat → Nat) (M : Nat → Nat → Nat) (tch : Int32) (cu : Nat → Nat) (rch : Int32) (pa br gp : Nat → Nat) (P : Nat → Int32 × Nat × (Nat → Nat) × (Nat → Nat)) (j : Nat) (cs : Int32) (lc : Nat) (tr be : Nat → Nat) : va_W := cw ad cI cII cP n am al ch fr to wt nb M tch cu rch pa br gp (va_up P j (cs, lc, tr, be))
section CWP
variable {ad : Nat → Nat} {cI cII cP : ClassId} {n am al ch : Nat} {fr to wt nb : Nat → Nat} {M : Nat → Nat → Nat} {tch : Int32} {cu : Nat → Nat} {rch : Int32} {pa br gp : Nat → Nat} {P : Nat → Int32 × Nat × (Nat → Nat) × (Nat → Nat)} {j : Nat} {cs : Int32} {lc : Nat} {tr be : Nat → Nat} {X : va_W}
theorem cwp_row {v : Nat} (hv : v < 12) : (cwp ad cI cII cP n am al ch fr to wt nb M tch cu rch pa br gp P j cs lc tr be ++ X)[6 + v]? = some (ad (6 + v), .inl (cI, 12, .inl (aN (M v)))) := cw_row hv
theorem cwp_0 (hj : j < 4) : (cwp ad cI cII cP n am al ch fr to wt nb M tch cu rch pa br gp P j cs lc tr be ++ X)[27 + 3 * j]? = some (ad (27 + 3 * j), .inr (4, [.ref (ad 0), .int (nI (j + 1)), .ref (ad (28 + 3 * j)), .ref (ad (29 + 3 * j)), .int (nI lc), .int cs])) := by
  unfold cwp
  rw [cw_p0 hj, va_up_self]
theorem cwp_1 (hj : j < 4) : (cwp ad cI cII cP n am al ch fr to wt nb M tch cu rch pa br gp P j cs lc tr be ++ X)[28 + 3 * j]? = some (ad (28 + 3 * j), .inl (cI, 10, .inl (aN tr))) := by
  unfold cwp
  rw [cw_p1 hj, va_up_self]
theorem cwp_2 (hj : j < 4) : (cwp ad cI cII cP n am al ch fr to wt nb M tch cu rch pa br gp P j cs lc tr be ++ X)[29 + 3 * j]? = some (ad (29 + 3 * j), .inl (cI, 10, .inl (aN be))) := by
  unfold cwp
  rw [cw_p2 hj, va_up_self]
theorem cwp_s0 (hj : j < 4) (cs' : Int32) (lc' : Nat) : (cwp ad cI cII cP n am al ch fr to wt nb M tch cu rch pa br gp P j cs lc tr be ++ X).set (27 + 3 * j) (ad (27 + 3 * j), .inr (4, [.ref (ad 0), .int (nI (j + 1)), .ref (ad (28 + 3 * j)), .ref (ad (29 + 3 * j)), .int (nI lc'), .int cs'])) = cwp ad cI cII cP n am al ch fr to wt nb M tch cu rch pa br gp P j cs' lc' tr be ++ X := by
  match j, hj with
  | 0, _ => rfl
  | 1, _ => rfl
  | 2, _ => rfl
  | 3, _ => rfl
  | j + 4, h => exact absurd h (by omega)
theorem cwp_s1 (hj : j < 4) (t : Nat → Nat) : (cwp ad cI cII cP n am al ch fr to wt nb M tch cu rch pa br gp P j cs lc tr be ++ X).set (28 + 3 * j) (ad (28 + 3 * j), .inl (cI, 10, .inl (aN t))) = cwp ad cI cII cP n am al ch fr to wt nb M tch cu rch pa br gp P j cs lc t be ++ X := by
  match j, hj with
  | 0, _ => rfl
  | 1, _ => rfl
  | 2, _ => rfl
  | 3, _ => rfl
  | j + 4, h => exact absurd h (by omega)
theorem cwp_s2 (hj : j < 4) (t : Nat → Nat) : (cwp ad cI cII cP n am al ch fr to wt nb M tch cu rch pa br gp P j cs lc tr be ++ X).set (29 + 3 * j) (ad (29 + 3 * j), .inl (cI, 10, .inl (aN t))) = cwp ad cI cII cP n am al ch fr to wt nb M tch cu rch pa br gp P j cs lc tr t ++ X := by
  match j, hj with
  | 0, _ => rfl
  | 1, _ => rfl
  | 2, _ => rfl
  | 3, _ => rfl
  | j + 4, h => exact absurd h (by omega)
end CWP
/-- what NODE v costs to the lower ones -/
def pC (M : Nat → Nat → Nat) (f : Nat → Nat) (v : Nat) : Nat := sm (fun u => if f u = f v then 0 else M v u) v
def foldN {α : Type} (g : Nat → α → α) : Nat → α → α
  | 0, s => s
  | m + 1, s => g m (foldN g m s)
def kT (n k : Nat) (M : Nat → Nat → Nat) : Nat → Nat → Nat → Nat → (Nat → Nat) → Nat × (Nat → Nat) → Nat × (Nat → Nat)
  | 0, v, used, cost, f, st => if k + v ≤ n + used ∧ cost < st.1 then (cost, f) else st
  | d + 1, v, used, cost, f, st => if k + v ≤ n + used ∧ cost < st.1 then foldN (fun x st => kT n k M d (v + 1) (max used (x + 1)) (cost + pC M (va_up f v x) v) (va_up f v x) st) (min (used + 1) k) st else st
theorem foldN_le {β : Type} {g : Nat → Nat × β → Nat × β} (h : ∀ x st, (g x st).1 ≤ st.1) : ∀ m st, (foldN g m st).1 ≤ st.1
  | 0, st => Nat.le_refl _
  | m + 1, st => Nat.le_trans (h m (foldN g m st)) (foldN_le h m st)
theorem kT_le (n k : Nat) (M : Nat → Nat → Nat) : ∀ (d v used cost : Nat) (f : Nat → Nat) (st : Nat × (Nat → Nat)), (kT n k M d v used cost f st).1 ≤ st.1
  | 0, v, used, cost, f, st => by
    simp only [kT]
    split
    · rename_i h; exact Nat.le_of_lt h.2
    · exact Nat.le_refl _
  | d + 1, v, used, cost, f, st => by
    simp only [kT]
    split
    · exact foldN_le (fun x st => kT_le n k M d _ _ _ _ _) _ _
    · exact Nat.le_refl _
theorem pC_congr {M : Nat → Nat → Nat} {f g : Nat → Nat} {v : Nat} (h : ∀ u, u ≤ v → f u = g u) : pC M f v = pC M g v := sm_congr (fun u hu => by rw [h u (by omega), h v (Nat.le_refl _)])
theorem pC_bd {M : Nat → Nat → Nat} {f : Nat → Nat} {v c : Nat} (h : ∀ u, u < v → M v u ≤ c) : pC M f v ≤ c * v := sm_bd (fun u hu => by
  have := h u hu
  split <;> omega)
variable {l : Launch} {D : va_G} {ad : Nat → Nat} {cI cII cP cZ : ClassId} {n am al ch : Nat} {fr to wt nb : Nat → Nat} {M : Nat → Nat → Nat} {tch : Int32} {cu : Nat → Nat} {rch : Int32} {pa br gp : Nat → Nat} {P : Nat → Int32 × Nat × (Nat → Nat) × (Nat → Nat)} {X : va_W} {j : Nat} {cs : Int32} {lc : Nat} {tr be : Nat → Nat}
set_option maxHeartbeats 4000000 in
set_option maxRecDepth 100000 in
theorem c_costToLower {v : Nat} (hj : j < 4) (hv : v < 10) (ht : ∀ u, u ≤ v → tr u < 4) : xMet l yX4_costToLower wX4_costToLower (rD 0) D vwCl (tyC cI cII cP cZ) nwC [.ref (ad (27 + 3 * j)), .int (nI v)] (cwp ad cI cII cP n am al ch fr to wt nb M tch cu rch pa br gp P j cs lc tr be ++ X) (cwp ad cI cII cP n am al ch fr to wt nb M tch cu rch pa br gp P j cs lc tr be ++ X) (some (.int (nI (pC M tr v)))) := by
  refine xMet_of (cc := cX4_costToLower) (maxL := 4) (ret := (some .int)) (by decide +kernel) rfl (Nat.le_of_ble_eq_true rfl) xfi ?_
  intro E S hnm hret
  show xW E D vwCl 4 0 0 _ [(0, .ref (ad (27 + 3 * j))), (1, .int (nI v))] 0 []
  have htv := ht v (Nat.le_refl _)
  have L : ∀ k, k ≤ v → xW E D vwCl 4 0 0 (cwp ad cI cII cP n am al ch fr to wt nb M tch cu rch pa br gp P j cs lc tr be ++ X) [(0, .ref (ad (27 + 3 * j))), (1, .int (nI v)), (2, .int (nI (sm (fun u => if tr u = tr v then 0 else M v u) k))), (3, .int (nI k))] 4 [] := by
    refine pl_up v (fun k hk ih => ?_)
    refine x_iload_n S dX4_costToLower_4 3 rfl rfl ?_
    refine x_iload_n S dX4_costToLower_5 1 rfl rfl ?_
    refine x_icmp_ge (tgt := 44) S dX4_costToLower_6 (by decide) (fun h3 => ?_) (fun h3 => ?_)
    · have hk2 : k = v := Nat.le_antisymm hk ((nI_leI (by omega) (by omega)).mp h3)
      subst hk2
      refine x_iload_n S dX4_costToLower_44 2 rfl rfl ?_
      exact x_ret hret rfl dX4_costToLower_45
    have hk2 : k < v := Nat.lt_of_not_le (fun h => h3 (nI_le h (by omega)))
    have htk := ht k hk
    have ih := ih hk2
    simp only [sm] at ih
    refine x_aload_n S dX4_costToLower_9 0 rfl rfl ?_
    refine x_get S (27 + 3 * j) 2 (cwp_0 hj) rfl inC4 (by decide) (gC _ tw132) rfl rfl dX4_costToLower_10 ?_
    refine x_iload_n S dX4_costToLower_13 3 rfl rfl ?_
    refine x_ialdN S (28 + 3 * j) 0 (k) (cwp_1 hj) rfl rfl (by omega) (by decide) dX4_costToLower_14 ?_
    refine x_aload_n S dX4_costToLower_15 0 rfl rfl ?_
    refine x_get S (27 + 3 * j) 2 (cwp_0 hj) rfl inC4 (by decide) (gC _ tw132) rfl rfl dX4_costToLower_16 ?_
    refine x_iload_n S dX4_costToLower_19 1 rfl rfl ?_
    refine x_ialdN S (28 + 3 * j) 0 (v) (cwp_1 hj) rfl rfl (by omega) (by decide) dX4_costToLower_20 ?_
    refine x_icmp_eq (tgt := 38) S dX4_costToLower_21 (by decide) (fun h4 => ?_) (fun h4 => ?_)
    · rw [if_pos (pl_inj (by omega) (by omega) h4)] at ih
      refine x_iincN (lv' := [(3, .int _), (0, .ref _), (1, .int _), (2, .int _)]) S dX4_costToLower_38 3 rfl (by decide) rfl ?_
      refine x_goto (tgt := 4) S dX4_costToLower_41 (by decide) ?_
      exact x_sub [1, 2, 3, 0] rfl (ih)
    rw [if_neg (fun q => h4 (by rw [q]))] at ih
    refine x_iload_n S dX4_costToLower_24 2 rfl rfl ?_
    refine x_aload_n S dX4_costToLower_25 0 rfl rfl ?_
    refine x_get S (27 + 3 * j) 0 (cwp_0 hj) rfl inC4 (by decide) (gC _ tw130) rfl rfl dX4_costToLower_26 ?_
    refine x_get S 0 3 rfl rfl inC2 (by decide) (gC _ tw34) rfl rfl dX4_costToLower_29 ?_
    refine x_iload_n S dX4_costToLower_32 1 rfl rfl ?_
    refine x_aald S 4 1 (v) rfl rfl rfl rfl (by omega) (by decide) rfl dX4_costToLower_33 ?_
    refine x_iload_n S dX4_costToLower_34 3 rfl rfl ?_
    refine x_ialdN S (6 + v) 0 (k) (cwp_row (by omega)) rfl rfl (by omega) (by decide) dX4_costToLower_35 ?_
    refine x_iadd S dX4_costToLower_36 ?_
    refine x_top (nI (sm (fun u => if tr u = tr v then 0 else M v u) k + M v k)) (nI_add _ _) ?_
    refine x_istore_n (lv' := [(2, .int _), (0, .ref _), (1, .int _), (3, .int _)]) S dX4_costToLower_37 rfl (by decide) rfl ?_
    refine x_iincN (lv' := [(3, .int _), (2, .int _), (0, .ref _), (1, .int _)]) S dX4_costToLower_38 3 rfl (by decide) rfl ?_
    refine x_goto (tgt := 4) S dX4_costToLower_41 (by decide) ?_
    exact x_sub [2, 3, 1, 0] rfl (ih)
  refine x_iconst (v := 0) S dX4_costToLower_0 rfl ?_
  refine x_istore_n (lv' := [(2, .int _), (0, .ref _), (1, .int _)]) S dX4_costToLower_1 rfl (by decide) rfl ?_
  refine x_iconst (v := 0) S dX4_costToLower_2 rfl ?_
  refine x_istore_n (lv' := [(3, .int _), (2, .int _), (0, .ref _), (1, .int _)]) S dX4_costToLower_3 rfl (by decide) rfl ?_
  exact x_sub [2, 3, 1, 0] rfl (L 0 (Nat.zero_le _))
set_option maxHeartbeats 4000000 in
set_option maxRecDepth 100000 in
theorem c_keepTried {c : Nat} (hj : j < 4) (hn : n ≤ 10) : xMetS l yX4_keepTried wX4_keepTried (rD 0) D vwCl (tyC cI cII cP cZ) nwC [.ref (ad (27 + 3 * j)), .int (nI c)] (cwp ad cI cII cP n am al ch fr to wt nb M tch cu rch pa br gp P j cs lc tr be ++ X) (fun b : Nat → Nat => ∀ u, u < n → b u = tr u) (fun b => (cwp ad cI cII cP n am al ch fr to wt nb M tch cu rch pa br gp P j cs c tr b ++ X)) (fun _ => none) := by
  refine xMetS_of (cc := cX4_keepTried) (maxL := 3) (ret := none) (by decide +kernel) rfl (Nat.le_of_ble_eq_true rfl) (fun _ _ => xfv) ?_
  intro E S hnm hret
  show xW E D vwCl 3 0 0 _ [(0, .ref (ad (27 + 3 * j))), (1, .int (nI c))] 0 []
  have L : ∀ k, k ≤ n → ∀ b : Nat → Nat, (∀ u, u < k → b u = tr u) → xW E D vwCl 3 0 0 (cwp ad cI cII cP n am al ch fr to wt nb M tch cu rch pa br gp P j cs c tr b ++ X) [(0, .ref (ad (27 + 3 * j))), (1, .int (nI c)), (2, .int (nI k))] 7 [] := by
    refine pl_up n (fun k hk ih => ?_)
    intro b g1
    refine x_iload_n S dX4_keepTried_7 2 rfl rfl ?_
    refine x_aload_n S dX4_keepTried_8 0 rfl rfl ?_
    refine x_get S (27 + 3 * j) 0 (cwp_0 hj) rfl inC4 (by decide) (gC _ tw130) rfl rfl dX4_keepTried_9 ?_
    refine x_get S 0 5 rfl rfl inC2 (by decide) (gC _ tw39) rfl rfl dX4_keepTried_12 ?_
    refine x_icmp_ge (tgt := 36) S dX4_keepTried_15 (by decide) (fun h3 => ?_) (fun h3 => ?_)
    · have hk2 : k = n := Nat.le_antisymm hk ((nI_leI (by omega) (by omega)).mp h3)
      subst hk2
      exact hret (b) _ _ g1 dX4_keepTried_36
    have hk2 : k < n := Nat.lt_of_not_le (fun h => h3 (nI_le h (by omega)))
    refine x_aload_n S dX4_keepTried_18 0 rfl rfl ?_
    refine x_get S (27 + 3 * j) 3 (cwp_0 hj) rfl inC4 (by decide) (gC _ tw133) rfl rfl dX4_keepTried_19 ?_
    refine x_iload_n S dX4_keepTried_22 2 rfl rfl ?_
    refine x_aload_n S dX4_keepTried_23 0 rfl rfl ?_
    refine x_get S (27 + 3 * j) 2 (cwp_0 hj) rfl inC4 (by decide) (gC _ tw132) rfl rfl dX4_keepTried_24 ?_
    refine x_iload_n S dX4_keepTried_27 2 rfl rfl ?_
    refine x_ialdN S (28 + 3 * j) 0 (k) (cwp_1 hj) rfl rfl (by omega) (by decide) dX4_keepTried_28 ?_
    refine x_iastN (ws' := (cwp ad cI cII cP n am al ch fr to wt nb M tch cu rch pa br gp P j cs c tr (va_up b k (tr k)) ++ X)) S (29 + 3 * j) 0 (k) (cwp_2 hj) rfl rfl (by omega) (by decide) rfl dX4_keepTried_29 (cwp_s2 hj _) ?_
    refine x_iincN (lv' := [(2, .int _), (0, .ref _), (1, .int _)]) S dX4_keepTried_30 2 rfl (by decide) rfl ?_
    refine x_goto (tgt := 7) S dX4_keepTried_33 (by decide) ?_
    exact x_sub [1, 2, 0] rfl (ih hk2 _ (fun v hv => (Nat.lt_or_ge v k).elim (fun h => by rw [va_up_ne _ _ (by omega)]; exact g1 v h) (fun h => by rw [show v = k by omega, va_up_self])))
  refine x_aload_n S dX4_keepTried_0 0 rfl rfl ?_
  refine x_iload_n S dX4_keepTried_1 1 rfl rfl ?_
  refine x_put (ws' := (cwp ad cI cII cP n am al ch fr to wt nb M tch cu rch pa br gp P j cs c tr be ++ X)) S (27 + 3 * j) 4 (cwp_0 hj) rfl inC4 tyX4 tyX4_ok nmX4 (by decide) (gC _ tw135) rfl rfl (tyX4_ok 4 (by decide)) rfl rfl (Nat.le_of_ble_eq_true rfl) dX4_keepTried_2 (cwp_s0 hj _ _) ?_
  refine x_iconst (v := 0) S dX4_keepTried_5 rfl ?_
  refine x_istore_n (lv' := [(2, .int _), (0, .ref _), (1, .int _)]) S dX4_keepTried_6 rfl (by decide) rfl ?_
  exact x_sub [1, 2, 0] rfl (L 0 (Nat.zero_le _) be (fun v hv => absurd hv (by omega)))
set_option maxHeartbeats 4000000 in
set_option maxRecDepth 100000 in
theorem c_tryFrom (hj : j < 4) (hn : n ≤ 10) (hM : ∀ a b, a < 12 → b < 12 → M a b ≤ 50000) : ∀ (d v used cost lc : Nat) (tr be f g : Nat → Nat), v + d = n → used ≤ j + 1 → cost ≤ 500000 * v → lc < 2 ^ 31 → (∀ u, u < v → tr u = f u ∧ f u < 4) → (∀ u, u < n → be u = g u) → xMetS l yX4_tryFrom wX4_tryFrom (rD (d + 2)) D vwCl (tyC cI cII cP cZ) nwC [.ref (ad (27 + 3 * j)), .int (nI v), .int (nI used), .int (nI cost)] (cwp ad cI cII cP n am al ch fr to wt nb M tch cu rch pa br gp P j cs lc tr be ++ X) (fun s : Nat × (Nat → Nat) × (Nat → Nat) => s.1 = (kT n (j + 1) M d v used cost f (lc, g)).1 ∧ (∀ u, u < v → s.2.1 u = f u) ∧ ∀ u, u < n → s.2.2 u = (kT n (j + 1) M d v used cost f (lc, g)).2 u) (fun s => (cwp ad cI cII cP n am al ch fr to wt nb M tch cu rch pa br gp P j cs s.1 s.2.1 s.2.2 ++ X)) (fun _ => none) := by
  intro d
  induction d with
  | zero =>
    intro v used cost lc tr be f g hvn hu hc hlc htr hbe
    refine xMetS_of (cc := cX4_tryFrom) (maxL := 8) (ret := none) (by decide +kernel) rfl (Nat.le_of_ble_eq_true rfl) (fun _ _ => xfv) ?_
    intro E S hnm hret
    show xW E D vwCl 8 0 0 _ [(0, .ref (ad (27 + 3 * j))), (1, .int (nI v)), (2, .int (nI used)), (3, .int (nI cost))] 0 []
    have hR0 : ¬ (j + 1 + v ≤ n + used ∧ cost < lc) → kT n (j + 1) M (0) v used cost f (lc, g) = (lc, g) := fun h => if_neg h
    have hRet : ¬ (j + 1 + v ≤ n + used ∧ cost < lc) → (lc, tr, be).1 = (kT n (j + 1) M (0) v used cost f (lc, g)).1 ∧ (∀ u, u < v → (lc, tr, be).2.1 u = f u) ∧ ∀ u, u < n → (lc, tr, be).2.2 u = (kT n (j + 1) M (0) v used cost f (lc, g)).2 u := fun h => ⟨by rw [hR0 h], fun u hu => (htr u hu).1, fun u hu => by rw [hR0 h]; exact hbe u hu⟩
    refine x_aload_n S dX4_tryFrom_0 0 rfl rfl ?_
    refine x_get S (27 + 3 * j) 0 (cwp_0 hj) rfl inC4 (by decide) (gC _ tw130) rfl rfl dX4_tryFrom_1 ?_
    refine x_get S 0 5 rfl rfl inC2 (by decide) (gC _ tw39) rfl rfl dX4_tryFrom_4 ?_
    refine x_istore (lv' := [(4, .int _), (0, .ref _), (1, .int _), (2, .int _), (3, .int _)]) S dX4_tryFrom_7 (by decide) rfl ?_
    refine x_aload_n S dX4_tryFrom_9 1 rfl rfl ?_
    refine x_get S (27 + 3 * j) 1 (cwp_0 hj) rfl inC4 (by decide) (gC _ tw131) rfl rfl dX4_tryFrom_10 ?_
    refine x_iload_n S dX4_tryFrom_13 3 rfl rfl ?_
    refine x_isub S dX4_tryFrom_14 ?_
    refine x_top (nI (j + 1 - used)) (pk_sub (by omega)) ?_
    refine x_iload S dX4_tryFrom_15 0 rfl ?_
    refine x_iload_n S dX4_tryFrom_17 2 rfl rfl ?_
    refine x_isub S dX4_tryFrom_18 ?_
    refine x_top (nI (n - v)) (pk_sub (by omega)) ?_
    refine x_icmp_gt (tgt := 26) S dX4_tryFrom_19 (by decide) (fun h1 => ?_) (fun h1 => ?_)
    · have h1 := (nI_ltI (by omega) (by omega)).mp h1
      refine x_iconst (v := 0) S dX4_tryFrom_26 rfl ?_
      refine x_istore (lv' := [(5, .int _), (4, .int _), (0, .ref _), (1, .int _), (2, .int _), (3, .int _)]) S dX4_tryFrom_27 (by decide) rfl ?_
      refine x_iload S dX4_tryFrom_29 0 rfl ?_
      refine x_if_eq (tgt := 42) S dX4_tryFrom_31 (by decide) (fun h2 => ?_) (fun h2 => ?_)
      · exact hret ((lc, tr, be)) _ _ (hRet (fun q => by omega)) dX4_tryFrom_42
      exact absurd rfl h2
    have h1 := Nat.le_of_not_lt (fun q => h1 (nI_lt q (by omega)))
    refine x_iconst (v := 1) S dX4_tryFrom_22 rfl ?_
    refine x_goto (tgt := 27) S dX4_tryFrom_23 (by decide) ?_
    refine x_istore (lv' := [(5, .int _), (4, .int _), (0, .ref _), (1, .int _), (2, .int _), (3, .int _)]) S dX4_tryFrom_27 (by decide) rfl ?_
    refine x_iload S dX4_tryFrom_29 0 rfl ?_
    refine x_if_eq (tgt := 42) S dX4_tryFrom_31 (by decide) (fun h2 => ?_) (fun h2 => ?_)
    · exact absurd h2 (by decide)
    refine x_iload_n S dX4_tryFrom_34 5 rfl rfl ?_
    refine x_aload_n S dX4_tryFrom_35 2 rfl rfl ?_
    refine x_get S (27 + 3 * j) 4 (cwp_0 hj) rfl inC4 (by decide) (gC _ tw135) rfl rfl dX4_tryFrom_36 ?_
    refine x_icmp_lt (tgt := 43) S dX4_tryFrom_39 (by decide) (fun h3 => ?_) (fun h3 => ?_)
    rotate_left
    · exact hret ((lc, tr, be)) _ _ (hRet (fun q => h3 (nI_lt q.2 hlc))) dX4_tryFrom_42
    have h3 := (nI_ltI (by omega) hlc).mp h3
    have hG : (j + 1 + v ≤ n + used ∧ cost < lc) := ⟨by omega, h3⟩
    refine x_iload_n S dX4_tryFrom_43 3 rfl rfl ?_
    refine x_iload S dX4_tryFrom_44 1 rfl ?_
    refine x_icmp_lt (tgt := 55) S dX4_tryFrom_46 (by decide) (fun h4 => ?_) (fun h4 => ?_)
    rotate_left
    · refine x_aload_n S dX4_tryFrom_49 2 rfl rfl ?_
      refine x_iload_n S dX4_tryFrom_50 5 rfl rfl ?_
      refine x_cVvS (n := 1) S (c_keepTried hj hn) (gGV gC tw393 tw390 tw392 ts11 tw6) rfl (by decide +kernel) (27 + 3 * j) (cwp_0 hj) rfl rfl rfl (Nat.le_of_ble_eq_true rfl) dX4_tryFrom_51 ⟨Nat.succ_le_succ (Nat.zero_le _), Nat.le_of_ble_eq_true rfl⟩ ⟨Nat.le_of_ble_eq_true rfl, Nat.le_of_ble_eq_true rfl⟩ (fun b hb => ?_)
      have hk : kT n (j + 1) M 0 v used cost f (lc, g) = (cost, f) := if_pos hG
      exact hret ((cost, tr, b)) _ _ ⟨by rw [hk], fun u hu => (htr u hu).1, fun u hu => by rw [hk]; exact (hb u hu).trans (htr u (by omega)).1⟩ dX4_tryFrom_54
    exact absurd h4 (nI_nlt (by omega) (by omega))
  | succ d ih =>
    intro v used cost lc tr be f g hvn hu hc hlc htr hbe
    refine xMetS_of (cc := cX4_tryFrom) (maxL := 8) (ret := none) (by decide +kernel) rfl (Nat.le_of_ble_eq_true rfl) (fun _ _ => xfv) ?_
    intro E S hnm hret
    show xW E D vwCl 8 0 0 _ [(0, .ref (ad (27 + 3 * j))), (1, .int (nI v)), (2, .int (nI used)), (3, .int (nI cost))] 0 []
    have hR0 : ¬ (j + 1 + v ≤ n + used ∧ cost < lc) → kT n (j + 1) M (d + 1) v used cost f (lc, g) = (lc, g) := fun h => if_neg h
    have hRet : ¬ (j + 1 + v ≤ n + used ∧ cost < lc) → (lc, tr, be).1 = (kT n (j + 1) M (d + 1) v used cost f (lc, g)).1 ∧ (∀ u, u < v → (lc, tr, be).2.1 u = f u) ∧ ∀ u, u < n → (lc, tr, be).2.2 u = (kT n (j + 1) M (d + 1) v used cost f (lc, g)).2 u := fun h => ⟨by rw [hR0 h], fun u hu => (htr u hu).1, fun u hu => by rw [hR0 h]; exact hbe u hu⟩
    refine x_aload_n S dX4_tryFrom_0 0 rfl rfl ?_
    refine x_get S (27 + 3 * j) 0 (cwp_0 hj) rfl inC4 (by decide) (gC _ tw130) rfl rfl dX4_tryFrom_1 ?_
    refine x_get S 0 5 rfl rfl inC2 (by decide) (gC _ tw39) rfl rfl dX4_tryFrom_4 ?_
    refine x_istore (lv' := [(4, .int _), (0, .ref _), (1, .int _), (2, .int _), (3, .int _)]) S dX4_tryFrom_7 (by decide) rfl ?_
    refine x_aload_n S dX4_tryFrom_9 1 rfl rfl ?_
    refine x_get S (27 + 3 * j) 1 (cwp_0 hj) rfl inC4 (by decide) (gC _ tw131) rfl rfl dX4_tryFrom_10 ?_
    refine x_iload_n S dX4_tryFrom_13 3 rfl rfl ?_
    refine x_isub S dX4_tryFrom_14 ?_
    refine x_top (nI (j + 1 - used)) (pk_sub (by omega)) ?_
    refine x_iload S dX4_tryFrom_15 0 rfl ?_
    refine x_iload_n S dX4_tryFrom_17 2 rfl rfl ?_
    refine x_isub S dX4_tryFrom_18 ?_
    refine x_top (nI (n - v)) (pk_sub (by omega)) ?_
    refine x_icmp_gt (tgt := 26) S dX4_tryFrom_19 (by decide) (fun h1 => ?_) (fun h1 => ?_)
    · have h1 := (nI_ltI (by omega) (by omega)).mp h1
      refine x_iconst (v := 0) S dX4_tryFrom_26 rfl ?_
      refine x_istore (lv' := [(5, .int _), (4, .int _), (0, .ref _), (1, .int _), (2, .int _), (3, .int _)]) S dX4_tryFrom_27 (by decide) rfl ?_
      refine x_iload S dX4_tryFrom_29 0 rfl ?_
      refine x_if_eq (tgt := 42) S dX4_tryFrom_31 (by decide) (fun h2 => ?_) (fun h2 => ?_)
      · exact hret ((lc, tr, be)) _ _ (hRet (fun q => by omega)) dX4_tryFrom_42
      exact absurd rfl h2
    have h1 := Nat.le_of_not_lt (fun q => h1 (nI_lt q (by omega)))
    refine x_iconst (v := 1) S dX4_tryFrom_22 rfl ?_
    refine x_goto (tgt := 27) S dX4_tryFrom_23 (by decide) ?_
    refine x_istore (lv' := [(5, .int _), (4, .int _), (0, .ref _), (1, .int _), (2, .int _), (3, .int _)]) S dX4_tryFrom_27 (by decide) rfl ?_
    refine x_iload S dX4_tryFrom_29 0 rfl ?_
    refine x_if_eq (tgt := 42) S dX4_tryFrom_31 (by decide) (fun h2 => ?_) (fun h2 => ?_)
    · exact absurd h2 (by decide)
    refine x_iload_n S dX4_tryFrom_34 5 rfl rfl ?_
    refine x_aload_n S dX4_tryFrom_35 2 rfl rfl ?_
    refine x_get S (27 + 3 * j) 4 (cwp_0 hj) rfl inC4 (by decide) (gC _ tw135) rfl rfl dX4_tryFrom_36 ?_
    refine x_icmp_lt (tgt := 43) S dX4_tryFrom_39 (by decide) (fun h3 => ?_) (fun h3 => ?_)
    rotate_left
    · exact hret ((lc, tr, be)) _ _ (hRet (fun q => h3 (nI_lt q.2 hlc))) dX4_tryFrom_42
    have h3 := (nI_ltI (by omega) hlc).mp h3
    have hG : (j + 1 + v ≤ n + used ∧ cost < lc) := ⟨by omega, h3⟩
    refine x_iload_n S dX4_tryFrom_43 3 rfl rfl ?_
    refine x_iload S dX4_tryFrom_44 1 rfl ?_
    refine x_icmp_lt (tgt := 55) S dX4_tryFrom_46 (by decide) (fun h4 => ?_) (fun h4 => ?_)
    rotate_left
    · exact absurd (nI_lt (by omega) (by omega)) h4
    obtain ⟨gs, hgs⟩ : ∃ gs : Nat → Nat × (Nat → Nat) → Nat × (Nat → Nat), gs = (fun x st => kT n (j + 1) M d (v + 1) (max used (x + 1)) (cost + pC M (va_up f v x) v) (va_up f v x) st) := ⟨_, rfl⟩
    have hk : kT n (j + 1) M (d + 1) v used cost f (lc, g) = foldN gs (min (used + 1) (j + 1)) (lc, g) := by rw [hgs]; exact if_pos hG
    rw [hk] at hret
    have hle : ∀ x, (foldN gs x (lc, g)).1 ≤ lc := fun x => foldN_le (fun y st => by rw [hgs]; exact kT_le _ _ _ _ _ _ _ _ _) x _
    have L : ∀ x, x ≤ min (used + 1) (j + 1) → ∀ tr' be' : Nat → Nat, (∀ u, u < v → tr' u = f u) → (∀ u, u < n → be' u = (foldN gs x (lc, g)).2 u) → xW E D vwCl 8 0 0 (cwp ad cI cII cP n am al ch fr to wt nb M tch cu rch pa br gp P j cs ((foldN gs x (lc, g)).1) tr' be' ++ X) [(0, .ref (ad (27 + 3 * j))), (1, .int (nI v)), (2, .int (nI used)), (3, .int (nI cost)), (4, .int (nI n)), (5, .int 1), (6, .int (nI x))] 58 [] := by
      refine pl_up (min (used + 1) (j + 1)) (fun x hx ih2 => ?_)
      intro tr' be' g1 g2
      refine x_iload S dX4_tryFrom_58 6 rfl ?_
      refine x_iload_n S dX4_tryFrom_60 2 rfl rfl ?_
      refine x_icmp_gt (tgt := 113) S dX4_tryFrom_61 (by decide) (fun h5 => ?_) (fun h5 => ?_)
      · have h5 := (nI_ltI (by omega) (by omega)).mp h5
        have hxN : x = min (used + 1) (j + 1) := by omega
        exact hret (((foldN gs x (lc, g)).1, tr', be')) _ _ (by rw [← hxN]; exact ⟨rfl, g1, g2⟩) dX4_tryFrom_113
      have h5 := Nat.le_of_not_lt (fun q => h5 (nI_lt q (by omega)))
      refine x_iload S dX4_tryFrom_64 6 rfl ?_
      refine x_aload_n S dX4_tryFrom_66 0 rfl rfl ?_
      refine x_get S (27 + 3 * j) 1 (cwp_0 hj) rfl inC4 (by decide) (gC _ tw131) rfl rfl dX4_tryFrom_67 ?_
      refine x_icmp_ge (tgt := 113) S dX4_tryFrom_70 (by decide) (fun h6 => ?_) (fun h6 => ?_)
      · have h6 := (nI_leI (by omega) (by omega)).mp h6
        have hxN : x = min (used + 1) (j + 1) := by omega
        exact hret (((foldN gs x (lc, g)).1, tr', be')) _ _ (by rw [← hxN]; exact ⟨rfl, g1, g2⟩) dX4_tryFrom_113
      have h6 : x < j + 1 := Nat.lt_of_not_le (fun q => h6 (nI_le q (by omega)))
      have hxN : x < min (used + 1) (j + 1) := by omega
      have hlx := hle x
      have g3 : ∀ u, u ≤ v → va_up tr' v x u = va_up f v x u := fun u hu => by
        by_cases e : u = v
        · subst e; rw [va_up_self, va_up_self]
        · rw [va_up_ne _ _ e, va_up_ne _ _ e]; exact g1 u (by omega)
      have g4 : ∀ u, u ≤ v → va_up f v x u < 4 := fun u hu => by
        by_cases e : u = v
        · subst e; rw [va_up_self]; omega
        · rw [va_up_ne _ _ e]; exact (htr u (by omega)).2
      have hpc : pC M (va_up tr' v x) v = pC M (va_up f v x) v := pC_congr g3
      have hpb : pC M (va_up f v x) v ≤ 50000 * v := pC_bd (fun u hu => hM v u (by omega) (by omega))
      refine x_aload_n S dX4_tryFrom_73 0 rfl rfl ?_
      refine x_get S (27 + 3 * j) 2 (cwp_0 hj) rfl inC4 (by decide) (gC _ tw132) rfl rfl dX4_tryFrom_74 ?_
      refine x_iload_n S dX4_tryFrom_77 1 rfl rfl ?_
      refine x_iload S dX4_tryFrom_78 6 rfl ?_
      refine x_iastN (ws' := (cwp ad cI cII cP n am al ch fr to wt nb M tch cu rch pa br gp P j cs ((foldN gs x (lc, g)).1) (va_up tr' v x) be' ++ X)) S (28 + 3 * j) 0 (v) (cwp_1 hj) rfl rfl (by omega) (by decide) rfl dX4_tryFrom_80 (cwp_s1 hj _) ?_
      refine x_aload_n S dX4_tryFrom_81 0 rfl rfl ?_
      refine x_iload_n S dX4_tryFrom_82 1 rfl rfl ?_
      refine x_cVi (n := 1) S (c_costToLower hj (by omega) (fun u hu => by rw [g3 u hu]; exact g4 u hu)) (gGV gC tw397 tw394 tw396 ts12 tw6) rfl (by decide +kernel) (27 + 3 * j) (cwp_0 hj) rfl rfl rfl (Nat.le_of_ble_eq_true rfl) dX4_tryFrom_83 ⟨Nat.succ_le_succ (Nat.zero_le _), by show 8 + (4 + 11) + 40 * 0 ≤ 40 * (d + 1 + 2); omega⟩ ⟨Nat.le_of_ble_eq_true rfl, Nat.le_of_ble_eq_true rfl⟩ ?_
      rw [hpc]
      refine x_istore (lv' := [(7, .int _), (0, .ref _), (1, .int _), (2, .int _), (3, .int _), (4, .int _), (5, .int _), (6, .int _)]) S dX4_tryFrom_86 (by decide) rfl ?_
      refine x_aload_n S dX4_tryFrom_88 1 rfl rfl ?_
      refine x_iload_n S dX4_tryFrom_89 2 rfl rfl ?_
      refine x_iconst (v := 1) S dX4_tryFrom_90 rfl ?_
      refine x_iadd S dX4_tryFrom_91 ?_
      refine x_top (nI (v + 1)) (nI_1 v) ?_
      refine x_iload_n S dX4_tryFrom_92 3 rfl rfl ?_
      refine x_iload S dX4_tryFrom_93 7 rfl ?_
      refine x_iconst (v := 1) S dX4_tryFrom_95 rfl ?_
      refine x_iadd S dX4_tryFrom_96 ?_
      refine x_top (nI (x + 1)) (nI_1 x) ?_
      refine x_mmax S (gC _ tw398) (gC _ tw312) (gC _ tw8) (gC _ tw313) (Nat.succ_le_succ (Nat.zero_le _)) (by show 2 + 13 ≤ 40 * (d + 1 + 2); omega) (Nat.le_of_ble_eq_true rfl) (Nat.le_of_ble_eq_true rfl) dX4_tryFrom_97 ?_
      refine x_top (nI (max used (x + 1))) (nI_max (by omega) (by omega)) ?_
      refine x_iload_n S dX4_tryFrom_100 4 rfl rfl ?_
      refine x_iload S dX4_tryFrom_101 0 rfl ?_
      refine x_iadd S dX4_tryFrom_103 ?_
      refine x_top (nI (cost + pC M (va_up f v x) v)) (nI_add _ _) ?_
      refine x_cSvS (n := 4) S (ih (v + 1) (max used (x + 1)) (cost + pC M (va_up f v x) v) (foldN gs x (lc, g)).1 (va_up tr' v x) be' (va_up f v x) (foldN gs x (lc, g)).2 (by omega) (by omega) (by omega) (by omega) (fun u hu => ⟨g3 u (by omega), g4 u (by omega)⟩) g2) (gGS gC tw389 tw387 tw388 tw6) rfl (by decide +kernel) rfl rfl (Nat.le_of_ble_eq_true rfl) dX4_tryFrom_104 ⟨Nat.le_refl _, by show 8 + (8 + 11) + 40 * (d + 2) ≤ 40 * (d + 1 + 2); omega⟩ ⟨Nat.le_of_ble_eq_true rfl, Nat.le_of_ble_eq_true rfl⟩ (fun s hs => ?_)
      obtain ⟨lc2, tr2, be2⟩ := s
      obtain ⟨e1, e2, e3⟩ := hs
      simp only at e1 e2 e3
      have hfs : foldN gs (x + 1) (lc, g) = kT n (j + 1) M d (v + 1) (max used (x + 1)) (cost + pC M (va_up f v x) v) (va_up f v x) ((foldN gs x (lc, g)).1, (foldN gs x (lc, g)).2) := by
        show gs x (foldN gs x (lc, g)) = _
        rw [hgs]
      rw [← hfs] at e1 e3
      subst e1
      refine x_iincN (lv' := [(6, .int _), (7, .int _), (0, .ref _), (1, .int _), (2, .int _), (3, .int _), (4, .int _), (5, .int _)]) S dX4_tryFrom_107 7 rfl (by decide) rfl ?_
      refine x_goto (tgt := 58) S dX4_tryFrom_110 (by decide) ?_
      exact x_sub [2, 3, 4, 5, 6, 7, 0] rfl (ih2 hxN tr2 be2 (fun u hu => by rw [e2 u (by omega), va_up_ne _ _ (by omega)]) e3)
    refine x_iconst (v := 0) S dX4_tryFrom_55 rfl ?_
    refine x_istore (lv' := [(6, .int _), (5, .int _), (4, .int _), (0, .ref _), (1, .int _), (2, .int _), (3, .int _)]) S dX4_tryFrom_56 (by decide) rfl ?_
    exact x_sub [3, 4, 5, 6, 2, 1, 0] rfl (L 0 (Nat.zero_le _) tr be (fun u hu => (htr u hu).1) hbe)
end PT
end
section
/-! Parting: contracts, 2 -/
section PT2
/-- two searches that differ in what they had kept -/
def kRl (l0 : Nat) (s s' : Nat × (Nat → Nat)) : Prop := s.1 = s'.1 ∧ s.1 ≤ l0 ∧ (s.1 = l0 ∨ s.2 = s'.2)
theorem foldN_rl {l0 : Nat} {g : Nat → Nat × (Nat → Nat) → Nat × (Nat → Nat)} (h : ∀ x s s', kRl l0 s s' → kRl l0 (g x s) (g x s')) : ∀ m s s', kRl l0 s s' → kRl l0 (foldN g m s) (foldN g m s')
  | 0, s, s', q => q
  | m + 1, s, s', q => h m _ _ (foldN_rl h m s s' q)
theorem kT_rl {l0 : Nat} (n k : Nat) (M : Nat → Nat → Nat) : ∀ (d v used cost : Nat) (f : Nat → Nat) (s s' : Nat × (Nat → Nat)), kRl l0 s s' → kRl l0 (kT n k M d v used cost f s) (kT n k M d v used cost f s')
  | 0, v, used, cost, f, s, s', q => by
    simp only [kT]
    rw [← q.1]
    split
    · rename_i h; exact ⟨rfl, by have := q.2.1; omega, Or.inr rfl⟩
    · exact q
  | d + 1, v, used, cost, f, s, s', q => by
    simp only [kT]
    rw [← q.1]
    split
    · exact foldN_rl (g := fun x st => kT n k M d (v + 1) (max used (x + 1)) (cost + pC M (va_up f v x) v) (va_up f v x) st) (fun x s s' q => kT_rl n k M d _ _ _ _ s s' q) _ _ _ q
    · exact q
/-- THE PARTS as the class seeks them -/
def kPR (n k : Nat) (M : Nat → Nat → Nat) : Nat × (Nat → Nat) := kT n k M n 0 0 0 (fun _ => 0) (2147483647, fun _ => 0)
theorem kPR_g {n k : Nat} {M : Nat → Nat → Nat} (g : Nat → Nat) (h : (kPR n k M).1 < 2147483647) : kT n k M n 0 0 0 (fun _ => 0) (2147483647, g) = kPR n k M := by
  have r := kT_rl (l0 := 2147483647) n k M n 0 0 0 (fun _ => 0) (2147483647, g) (2147483647, fun _ => 0) ⟨rfl, Nat.le_refl _, Or.inl rfl⟩
  obtain ⟨h1, h2, h3⟩ := r
  unfold kPR at h ⊢
  rcases h3 with q | q
  · omega
  · exact Prod.ext h1 q
variable {l : Launch} {D : va_G} {ad : Nat → Nat} {cI cII cP cZ : ClassId} {n am al ch : Nat} {fr to wt nb : Nat → Nat} {M : Nat → Nat → Nat} {tch : Int32} {cu : Nat → Nat} {rch : Int32} {pa br gp : Nat → Nat} {P : Nat → Int32 × Nat × (Nat → Nat) × (Nat → Nat)} {X : va_W} {j : Nat} {cs : Int32} {lc : Nat} {tr be : Nat → Nat}
set_option maxHeartbeats 4000000 in
set_option maxRecDepth 100000 in
theorem c_refreshP (hj : j < 4) (hn : n ≤ 10) (hM : ∀ a b, a < 12 → b < 12 → M a b ≤ 50000) (hf : (kPR n (j + 1) M).1 < 2147483647) (hR : cs = nI ch → lc = (kPR n (j + 1) M).1 ∧ ∀ u, u < n → be u = (kPR n (j + 1) M).2 u) : xMetS l yX4_refresh wX4_refresh (rD 13) D vwCl (tyC cI cII cP cZ) nwC [.ref (ad (27 + 3 * j))] (cwp ad cI cII cP n am al ch fr to wt nb M tch cu rch pa br gp P j cs lc tr be ++ X) (fun s : (Nat → Nat) × (Nat → Nat) => ∀ u, u < n → s.2 u = (kPR n (j + 1) M).2 u) (fun s => (cwp ad cI cII cP n am al ch fr to wt nb M tch cu rch pa br gp P j (nI ch) ((kPR n (j + 1) M).1) s.1 s.2 ++ X)) (fun _ => none) := by
  refine xMetS_of (cc := cX4_refresh) (maxL := 1) (ret := none) (by decide +kernel) rfl (Nat.le_of_ble_eq_true rfl) (fun _ _ => xfv) ?_
  intro E S hnm hret
  show xW E D vwCl 1 0 0 _ [(0, .ref (ad (27 + 3 * j)))] 0 []
  refine x_aload_n S dX4_refresh_0 0 rfl rfl ?_
  refine x_get S (27 + 3 * j) 5 (cwp_0 hj) rfl inC4 (by decide) (gC _ tw137) rfl rfl dX4_refresh_1 ?_
  refine x_aload_n S dX4_refresh_4 0 rfl rfl ?_
  refine x_get S (27 + 3 * j) 0 (cwp_0 hj) rfl inC4 (by decide) (gC _ tw130) rfl rfl dX4_refresh_5 ?_
  refine x_get S 0 8 rfl rfl inC2 (by decide) (gC _ tw49) rfl rfl dX4_refresh_8 ?_
  refine x_icmp_eq (tgt := 26) S dX4_refresh_11 (by decide) (fun h3 => ?_) (fun h3 => ?_)
  · obtain ⟨h4, h5⟩ := hR h3
    rw [h3, h4]
    exact hret ((tr, be)) _ _ h5 dX4_refresh_26
  refine x_aload_n S dX4_refresh_14 0 rfl rfl ?_
  refine x_get S (27 + 3 * j) 0 (cwp_0 hj) rfl inC4 (by decide) (gC _ tw130) rfl rfl dX4_refresh_15 ?_
  refine x_get S 0 5 rfl rfl inC2 (by decide) (gC _ tw39) rfl rfl dX4_refresh_18 ?_
  refine x_bipush (v := 10) S dX4_refresh_21 (by decide) ?_
  refine x_icmp_le (tgt := 27) S dX4_refresh_23 (by decide) (fun h4 => ?_) (fun h4 => ?_)
  rotate_left
  · exact absurd (nI_le hn (by omega)) h4
  refine x_aload_n S dX4_refresh_27 0 rfl rfl ?_
  refine x_aload_n S dX4_refresh_28 0 rfl rfl ?_
  refine x_get S (27 + 3 * j) 0 (cwp_0 hj) rfl inC4 (by decide) (gC _ tw130) rfl rfl dX4_refresh_29 ?_
  refine x_get S 0 8 rfl rfl inC2 (by decide) (gC _ tw49) rfl rfl dX4_refresh_32 ?_
  refine x_put (ws' := (cwp ad cI cII cP n am al ch fr to wt nb M tch cu rch pa br gp P j (nI ch) lc tr be ++ X)) S (27 + 3 * j) 5 (cwp_0 hj) rfl inC4 tyX4 tyX4_ok nmX4 (by decide) (gC _ tw137) rfl rfl (tyX4_ok 5 (by decide)) rfl rfl (Nat.le_of_ble_eq_true rfl) dX4_refresh_35 (cwp_s0 hj _ _) ?_
  refine x_aload_n S dX4_refresh_38 0 rfl rfl ?_
  refine x_ldc S (gC _ tw386) dX4_refresh_39 ?_
  refine x_put (ws' := (cwp ad cI cII cP n am al ch fr to wt nb M tch cu rch pa br gp P j (nI ch) 2147483647 tr be ++ X)) S (27 + 3 * j) 4 (cwp_0 hj) rfl inC4 tyX4 tyX4_ok nmX4 (by decide) (gC _ tw135) rfl rfl (tyX4_ok 4 (by decide)) rfl rfl (Nat.le_of_ble_eq_true rfl) dX4_refresh_41 (cwp_s0 hj _ 2147483647) ?_
  refine x_aload_n S dX4_refresh_44 0 rfl rfl ?_
  refine x_iconst (v := 0) S dX4_refresh_45 rfl ?_
  refine x_iconst (v := 0) S dX4_refresh_46 rfl ?_
  refine x_iconst (v := 0) S dX4_refresh_47 rfl ?_
  refine x_cSvS (n := 4) S (c_tryFrom hj hn hM n 0 0 0 2147483647 tr be (fun _ => 0) be (by omega) (by omega) (by omega) (by omega) (fun u hu => absurd hu (by omega)) (fun _ _ => rfl)) (gGS gC tw389 tw387 tw388 tw6) rfl (by decide +kernel) rfl rfl (Nat.le_of_ble_eq_true rfl) dX4_refresh_48 ⟨by show n + 2 + 1 ≤ 13; omega, by show 8 + (8 + 11) + 40 * (n + 2) ≤ 40 * 13; omega⟩ ⟨Nat.le_of_ble_eq_true rfl, Nat.le_of_ble_eq_true rfl⟩ (fun s hs => ?_)
  obtain ⟨lc2, tr2, be2⟩ := s
  obtain ⟨e1, e2, e3⟩ := hs
  rw [kPR_g be hf] at e1 e3
  simp only at e1 e3
  subst e1
  exact hret ((tr2, be2)) _ _ e3 dX4_refresh_51
end PT2
end
section
/-! CutTrees: contracts of its own methods -/
section CT1
def pRef (n : Nat) (k : Int32) : Int32 := if k < 1 ∨ 4 < k then -2 else if 10 < n then -4 else if nI n < k then -3 else 0
theorem va_eta {α : Type} (P : Nat → α) (j : Nat) : va_up P j (P j) = P := by
  funext i
  by_cases h : i = j
  · subst h; rw [va_up_self]
  · rw [va_up_ne _ _ h]
theorem xfa {n : String} {a : Nat} : xFits (some (.object n)) (some (.ref a)) := ⟨_, rfl, Or.inl ⟨_, rfl⟩⟩
theorem kT_found {n k B : Nat} {M : Nat → Nat → Nat} (hB : ∀ v f, v < n → pC M f v ≤ B) : ∀ (d v used cost : Nat) (f : Nat → Nat) (st : Nat × (Nat → Nat)) (lc : Nat), v + d = n → used ≤ k → k + v ≤ n + used → 1 ≤ k → cost + B * d < lc → st.1 ≤ lc → (kT n k M d v used cost f st).1 < lc
  | 0, v, used, cost, f, st, lc, hv, hu, hg, hk, hc, hs => by
    simp only [kT]
    split
    · simp only; omega
    · rename_i h
      have : ¬ cost < st.1 := fun q => h ⟨hg, q⟩
      omega
  | d + 1, v, used, cost, f, st, lc, hv, hu, hg, hk, hc, hs => by
    simp only [kT]
    split
    · have key : ∀ m, (used < m ∨ (used = k ∧ 0 < m)) → m ≤ min (used + 1) k → (foldN (fun x st => kT n k M d (v + 1) (max used (x + 1)) (cost + pC M (va_up f v x) v) (va_up f v x) st) m st).1 < lc := by
        intro m
        induction m with
        | zero => intro h; omega
        | succ m ihm =>
          intro h hm
          have hle := foldN_le (g := fun x st => kT n k M d (v + 1) (max used (x + 1)) (cost + pC M (va_up f v x) v) (va_up f v x) st) (fun x st => kT_le n k M d _ _ _ _ st) m st
          show (kT n k M d (v + 1) (max used (m + 1)) (cost + pC M (va_up f v m) v) (va_up f v m) (foldN _ m st)).1 < lc
          by_cases c : used < m ∨ (used = k ∧ 0 < m)
          · exact Nat.lt_of_le_of_lt (kT_le n k M d _ _ _ _ _) (ihm c (by omega))
          · have hb := hB v (va_up f v m) (by omega)
            have hmul : B * (d + 1) = B * d + B := Nat.mul_succ B d
            exact kT_found hB d (v + 1) _ _ _ _ lc (by omega) (by omega) (by omega) hk (by omega) (by omega)
      exact key _ (by omega) (Nat.le_refl _)
    · rename_i h
      have : ¬ cost < st.1 := fun q => h ⟨hg, q⟩
      have hmul : B * (d + 1) = B * d + B := Nat.mul_succ B d
      omega
theorem kPR_found {n k : Nat} {M : Nat → Nat → Nat} (hn : n ≤ 10) (hk : 1 ≤ k) (hkn : k ≤ n) (hM : ∀ a b, a < 12 → b < 12 → M a b ≤ 50000) : (kPR n k M).1 < 2147483647 := by
  refine kT_found (B := 500000) (fun v f hv => ?_) n 0 0 0 _ _ _ (by omega) (by omega) (by omega) hk (by omega) (Nat.le_refl _)
  have h1 : pC M f v ≤ 50000 * v := pC_bd (fun u hu => hM v u (by omega) (by omega))
  omega
theorem mOK.bd {n am : Nat} {fr to wt : Nat → Nat} {M : Nat → Nat → Nat} (hA : aOK n am fr to wt) (h : mOK am fr to wt M) : ∀ a b, a < 12 → b < 12 → M a b ≤ 50000 := fun a b ha hb => by
  rw [h a b ha hb]
  have := kM_bd (fr := fr) (to := to) (wt := wt) (k := am) (a := a) (b := b) (c := 1000) (fun i hi => (hA.2.2 i hi).2.2.2)
  have := hA.2.1
  omega
variable {l : Launch} {D : va_G} {ad : Nat → Nat} {cI cII cP cZ : ClassId} {n am al ch : Nat} {fr to wt nb : Nat → Nat} {M : Nat → Nat → Nat} {tch : Int32} {cu : Nat → Nat} {rch : Int32} {pa br gp : Nat → Nat} {P : Nat → Int32 × Nat × (Nat → Nat) × (Nat → Nat)} {X : va_W}
set_option maxHeartbeats 4000000 in
set_option maxRecDepth 100000 in
theorem c_refusalOfParts (k : Int32) (hn : n ≤ 12) : xMet l yX5_refusalOfParts wX5_refusalOfParts (rD 0) D vwCl (tyC cI cII cP cZ) nwC [.ref (ad 25), .int k] (cw ad cI cII cP n am al ch fr to wt nb M tch cu rch pa br gp P ++ X) (cw ad cI cII cP n am al ch fr to wt nb M tch cu rch pa br gp P ++ X) (some (.int (pRef n k))) := by
  refine xMet_of (cc := cX5_refusalOfParts) (maxL := 2) (ret := (some .int)) (by decide +kernel) rfl (Nat.le_of_ble_eq_true rfl) xfi ?_
  intro E S hnm hret
  show xW E D vwCl 2 0 0 _ [(0, .ref (ad 25)), (1, .int k)] 0 []
  unfold pRef at hret
  refine x_iload_n S dX5_refusalOfParts_0 1 rfl rfl ?_
  refine x_iconst (v := 1) S dX5_refusalOfParts_1 rfl ?_
  refine x_icmp_lt (tgt := 10) S dX5_refusalOfParts_2 (by decide) (fun h1 => ?_) (fun h1 => ?_)
  · refine x_bipush (v := -2) S dX5_refusalOfParts_10 (by decide) ?_
    exact x_ret hret (if_pos (Or.inl h1)).symm dX5_refusalOfParts_12
  refine x_iload_n S dX5_refusalOfParts_5 1 rfl rfl ?_
  refine x_iconst (v := 4) S dX5_refusalOfParts_6 rfl ?_
  refine x_icmp_le (tgt := 13) S dX5_refusalOfParts_7 (by decide) (fun h2 => ?_) (fun h2 => ?_)
  rotate_left
  · refine x_bipush (v := -2) S dX5_refusalOfParts_10 (by decide) ?_
    exact x_ret hret (if_pos (Or.inr (Int32.not_le.mp h2))).symm dX5_refusalOfParts_12
  rw [if_neg (fun q => q.elim h1 (fun q => Int32.not_lt.mpr h2 q))] at hret
  refine x_aload_n S dX5_refusalOfParts_13 0 rfl rfl ?_
  refine x_get S 25 0 rfl rfl inC5 (by decide) (gC _ tw151) rfl rfl dX5_refusalOfParts_14 ?_
  refine x_get S 0 5 rfl rfl inC2 (by decide) (gC _ tw37) rfl rfl dX5_refusalOfParts_17 ?_
  refine x_bipush (v := 10) S dX5_refusalOfParts_20 (by decide) ?_
  refine x_icmp_le (tgt := 28) S dX5_refusalOfParts_22 (by decide) (fun h3 => ?_) (fun h3 => ?_)
  rotate_left
  · refine x_bipush (v := -4) S dX5_refusalOfParts_25 (by decide) ?_
    exact x_ret hret (if_pos (Nat.lt_of_not_le (fun q => h3 (nI_le (b := 10) q (by omega))))).symm dX5_refusalOfParts_27
  rw [if_neg (fun q => nI_ge q (by omega) h3)] at hret
  refine x_aload_n S dX5_refusalOfParts_28 0 rfl rfl ?_
  refine x_get S 25 0 rfl rfl inC5 (by decide) (gC _ tw151) rfl rfl dX5_refusalOfParts_29 ?_
  refine x_get S 0 5 rfl rfl inC2 (by decide) (gC _ tw37) rfl rfl dX5_refusalOfParts_32 ?_
  refine x_iload_n S dX5_refusalOfParts_35 1 rfl rfl ?_
  refine x_icmp_ge (tgt := 44) S dX5_refusalOfParts_36 (by decide) (fun h4 => ?_) (fun h4 => ?_)
  rotate_left
  · refine x_bipush (v := -3) S dX5_refusalOfParts_39 (by decide) ?_
    refine x_goto (tgt := 45) S dX5_refusalOfParts_41 (by decide) ?_
    exact x_ret hret (if_pos (Int32.not_le.mp h4)).symm dX5_refusalOfParts_45
  refine x_iconst (v := 0) S dX5_refusalOfParts_44 rfl ?_
  exact x_ret hret (if_neg (Int32.not_lt.mpr h4)).symm dX5_refusalOfParts_45
set_option maxHeartbeats 4000000 in
set_option maxRecDepth 100000 in
theorem c_greatestDivisor {ws : va_W} {tys : List (ClassId × FieldType)} {a b : Nat} (ha : a < 2 ^ 31) (hb : b < 2 ^ 31) (hb1 : 1 ≤ b) : xMet l yX5_greatestDivisor wX5_greatestDivisor (rD 0) D vwCl tys nwC [.int (nI a), .int (nI b)] ws ws (some (.int (nI (Nat.gcd a b)))) := by
  refine xMet_of (cc := cX5_greatestDivisor) (maxL := 3) (ret := (some .int)) (by decide +kernel) rfl (Nat.le_of_ble_eq_true rfl) xfi ?_
  intro E S hnm hret
  show xW E D vwCl 3 0 0 _ [(0, .int (nI a)), (1, .int (nI b))] 0 []
  have hg0 : 0 < Nat.gcd a b := Nat.gcd_pos_of_pos_right a hb1
  have L : ∀ d, d ≤ b → Nat.gcd a b ≤ d → xW E D vwCl 3 0 0 ws [(0, .int (nI a)), (1, .int (nI b)), (2, .int (nI d))] 2 [] := by
    intro d
    induction d with
    | zero => intro _ h; omega
    | succ d ih =>
      intro hdb hgd
      refine x_iload_n S dX5_greatestDivisor_2 2 rfl rfl ?_
      refine x_iconst (v := 1) S dX5_greatestDivisor_3 rfl ?_
      refine x_icmp_le (tgt := 27) S dX5_greatestDivisor_4 (by decide) (fun h1 => ?_) (fun h1 => ?_)
      · have h1 : d + 1 ≤ 1 := (nI_leI (b := 1) (by omega) (by omega)).mp h1
        refine x_iconst (v := 1) S dX5_greatestDivisor_27 rfl ?_
        exact x_ret hret (by rw [show Nat.gcd a b = 1 by omega]; rfl) dX5_greatestDivisor_28
      have h1 : 1 < d + 1 := Nat.lt_of_not_le (fun q => h1 (nI_le (b := 1) q (by omega)))
      have T : ¬ (a % (d + 1) = 0 ∧ b % (d + 1) = 0) → Nat.gcd a b ≤ d := fun h => by
        rcases Nat.lt_or_ge (Nat.gcd a b) (d + 1) with q | q
        · omega
        · have e : Nat.gcd a b = d + 1 := by omega
          exact absurd ⟨Nat.mod_eq_zero_of_dvd (e ▸ Nat.gcd_dvd_left a b), Nat.mod_eq_zero_of_dvd (e ▸ Nat.gcd_dvd_right a b)⟩ h
      refine x_iload_n S dX5_greatestDivisor_7 0 rfl rfl ?_
      refine x_iload_n S dX5_greatestDivisor_8 2 rfl rfl ?_
      refine x_irem S dX5_greatestDivisor_9 (nI_ne0 (by omega) (by omega)) ?_
      refine x_top (nI (a % (d + 1))) (pk_rem ha (by omega) (by omega)) ?_
      have hm1 : a % (d + 1) < d + 1 := Nat.mod_lt _ (by omega)
      have hm2 : b % (d + 1) < d + 1 := Nat.mod_lt _ (by omega)
      refine x_if_ne (tgt := 21) S dX5_greatestDivisor_10 (by decide) (fun h2 => ?_) (fun h2 => ?_)
      rotate_left
      · have h2 : a % (d + 1) = 0 := pl_inj (b := 0) (by omega) (by omega) h2
        refine x_iload_n S dX5_greatestDivisor_13 1 rfl rfl ?_
        refine x_iload_n S dX5_greatestDivisor_14 2 rfl rfl ?_
        refine x_irem S dX5_greatestDivisor_15 (nI_ne0 (by omega) (by omega)) ?_
        refine x_top (nI (b % (d + 1))) (pk_rem hb (by omega) (by omega)) ?_
        refine x_if_ne (tgt := 21) S dX5_greatestDivisor_16 (by decide) (fun h3 => ?_) (fun h3 => ?_)
        rotate_left
        · have h3 : b % (d + 1) = 0 := pl_inj (b := 0) (by omega) (by omega) h3
          refine x_iload_n S dX5_greatestDivisor_19 2 rfl rfl ?_
          exact x_ret hret (by rw [Nat.le_antisymm hgd (Nat.le_of_dvd hg0 (Nat.dvd_gcd (Nat.dvd_of_mod_eq_zero h2) (Nat.dvd_of_mod_eq_zero h3)))]) dX5_greatestDivisor_20
        refine x_iinc (lv' := [(2, .int _), (0, .int _), (1, .int _)]) (v := nI d) S dX5_greatestDivisor_21 2 rfl (nI_dec d) (by decide) rfl ?_
        refine x_goto (tgt := 2) S dX5_greatestDivisor_24 (by decide) ?_
        exact x_sub [1, 2, 0] rfl (ih (by omega) (T (fun q => h3 (by rw [q.2]; rfl))))
      refine x_iinc (lv' := [(2, .int _), (0, .int _), (1, .int _)]) (v := nI d) S dX5_greatestDivisor_21 2 rfl (nI_dec d) (by decide) rfl ?_
      refine x_goto (tgt := 2) S dX5_greatestDivisor_24 (by decide) ?_
      exact x_sub [1, 2, 0] rfl (ih (by omega) (T (fun q => h2 (by rw [q.1]; rfl))))
  refine x_iload_n S dX5_greatestDivisor_0 1 rfl rfl ?_
  refine x_istore_n (lv' := [(2, .int _), (0, .int _), (1, .int _)]) S dX5_greatestDivisor_1 rfl (by decide) rfl ?_
  exact x_sub [1, 2, 0] rfl (L b (Nat.le_refl _) (Nat.le_of_dvd hb1 (Nat.gcd_dvd_right a b)))
set_option maxHeartbeats 4000000 in
set_option maxRecDepth 100000 in
theorem c_freshTable (h1 : 1 ≤ n) (hA : aOK n am fr to wt) (hM : mOK am fr to wt M) (h0 : cu 0 = 0) (hT : tch = nI ch → tOK n am fr to wt cu) : xMetS l yX5_freshTable wX5_freshTable (rD 3) D vwCl (tyC cI cII cP cZ) nwC [.ref (ad 25)] (cw ad cI cII cP n am al ch fr to wt nb M tch cu rch pa br gp P ++ X) (fun c : Nat → Nat => tOK n am fr to wt c) (fun c => (cw ad cI cII cP n am al ch fr to wt nb M (nI ch) c rch pa br gp P ++ X)) (fun _ => some (.ref (ad 18))) := by
  refine xMetS_of (cc := cX5_freshTable) (maxL := 1) (ret := (some (.object "CutTrees$CutTable"))) (by decide +kernel) rfl (Nat.le_of_ble_eq_true rfl) (fun _ _ => xfa) ?_
  intro E S hnm hret
  show xW E D vwCl 1 0 0 _ [(0, .ref (ad 25))] 0 []
  refine x_aload_n S dX5_freshTable_0 0 rfl rfl ?_
  refine x_get S 25 1 rfl rfl inC5 (by decide) (gC _ tw152) rfl rfl dX5_freshTable_1 ?_
  refine x_cVvS (n := 0) S (c_refreshT h1 hA hM h0 hT) (gGV gC tw246 tw243 tw244 tw245 tw3) rfl (by decide +kernel) 18 rfl rfl rfl rfl (Nat.le_of_ble_eq_true rfl) dX5_freshTable_4 ⟨by decide, by decide⟩ ⟨Nat.le_of_ble_eq_true rfl, Nat.le_of_ble_eq_true rfl⟩ (fun c hc => ?_)
  refine x_aload_n S dX5_freshTable_7 0 rfl rfl ?_
  refine x_get S 25 1 rfl rfl inC5 (by decide) (gC _ tw152) rfl rfl dX5_freshTable_8 ?_
  exact hret (c) _ _ hc dX5_freshTable_11
set_option maxHeartbeats 4000000 in
set_option maxRecDepth 100000 in
theorem c_freshTree (h1 : 1 ≤ n) (hA : aOK n am fr to wt) (hM : mOK am fr to wt M) (h0 : cu 0 = 0) (hT : tch = nI ch → tOK n am fr to wt cu) (hR : rch = nI ch → (∀ j, j < n → pa j = kPa (kC fr to wt am) n n j) ∧ ∀ j, 1 ≤ j → j < n → br j = kBr (kC fr to wt am) n j) : xMetS l yX5_freshTree wX5_freshTree (rD 5) D vwCl (tyC cI cII cP cZ) nwC [.ref (ad 25)] (cw ad cI cII cP n am al ch fr to wt nb M tch cu rch pa br gp P ++ X) (fun u : (Nat → Nat) × (Nat → Nat) × (Nat → Nat) => tOK n am fr to wt u.1 ∧ (∀ j, j < n → u.2.1 j = kPa (kC fr to wt am) n n j) ∧ ∀ j, 1 ≤ j → j < n → u.2.2 j = kBr (kC fr to wt am) n j) (fun u => (cw ad cI cII cP n am al ch fr to wt nb M (nI ch) u.1 (nI ch) u.2.1 u.2.2 gp P ++ X)) (fun _ => some (.ref (ad 20))) := by
  refine xMetS_of (cc := cX5_freshTree) (maxL := 1) (ret := (some (.object "CutTrees$PairTree"))) (by decide +kernel) rfl (Nat.le_of_ble_eq_true rfl) (fun _ _ => xfa) ?_
  intro E S hnm hret
  show xW E D vwCl 1 0 0 _ [(0, .ref (ad 25))] 0 []
  refine x_aload_n S dX5_freshTree_0 0 rfl rfl ?_
  refine x_get S 25 1 rfl rfl inC5 (by decide) (gC _ tw152) rfl rfl dX5_freshTree_1 ?_
  refine x_cVvS (n := 0) S (c_refreshT h1 hA hM h0 hT) (gGV gC tw246 tw243 tw244 tw245 tw3) rfl (by decide +kernel) 18 rfl rfl rfl rfl (Nat.le_of_ble_eq_true rfl) dX5_freshTree_4 ⟨by decide, by decide⟩ ⟨Nat.le_of_ble_eq_true rfl, Nat.le_of_ble_eq_true rfl⟩ (fun c hc => ?_)
  refine x_aload_n S dX5_freshTree_7 0 rfl rfl ?_
  refine x_get S 25 2 rfl rfl inC5 (by decide) (gC _ tw153) rfl rfl dX5_freshTree_8 ?_
  refine x_cVvS (n := 0) S (c_refreshR h1 hA hc hR) (gGV gC tw288 tw285 tw286 tw287 tw4) rfl (by decide +kernel) 20 rfl rfl rfl rfl (Nat.le_of_ble_eq_true rfl) dX5_freshTree_11 ⟨by decide, by decide⟩ ⟨Nat.le_of_ble_eq_true rfl, Nat.le_of_ble_eq_true rfl⟩ (fun u hu => ?_)
  refine x_aload_n S dX5_freshTree_14 0 rfl rfl ?_
  refine x_get S 25 2 rfl rfl inC5 (by decide) (gC _ tw153) rfl rfl dX5_freshTree_15 ?_
  exact hret ((c, u.1, u.2)) _ _ ⟨hc, hu.1, hu.2⟩ dX5_freshTree_18
set_option maxHeartbeats 4000000 in
set_option maxRecDepth 100000 in
theorem c_freshParting {j : Nat} (hj : j < 4) (hn : n ≤ 10) (hkn : j + 1 ≤ n) (hM : ∀ a b, a < 12 → b < 12 → M a b ≤ 50000) (hR : (P j).1 = nI ch → (P j).2.1 = (kPR n (j + 1) M).1 ∧ ∀ u, u < n → (P j).2.2.2 u = (kPR n (j + 1) M).2 u) : xMetS l yX5_freshParting wX5_freshParting (rD 14) D vwCl (tyC cI cII cP cZ) nwC [.ref (ad 25), .int (nI (j + 1))] (cw ad cI cII cP n am al ch fr to wt nb M tch cu rch pa br gp P ++ X) (fun s : (Nat → Nat) × (Nat → Nat) => ∀ u, u < n → s.2 u = (kPR n (j + 1) M).2 u) (fun s => (cw ad cI cII cP n am al ch fr to wt nb M tch cu rch pa br gp (va_up P j (nI ch, (kPR n (j + 1) M).1, s.1, s.2)) ++ X)) (fun _ => some (.ref (ad (27 + 3 * j)))) := by
  refine xMetS_of (cc := cX5_freshParting) (maxL := 2) (ret := (some (.object "CutTrees$Parting"))) (by decide +kernel) rfl (Nat.le_of_ble_eq_true rfl) (fun _ _ => xfa) ?_
  intro E S hnm hret
  show xW E D vwCl 2 0 0 _ [(0, .ref (ad 25)), (1, .int (nI (j + 1)))] 0 []
  have hf := kPR_found (n := n) (k := j + 1) (M := M) hn (by omega) hkn hM
  refine x_aload_n S dX5_freshParting_0 0 rfl rfl ?_
  refine x_get S 25 4 rfl rfl inC5 (by decide) (gC _ tw155) rfl rfl dX5_freshParting_1 ?_
  refine x_iload_n S dX5_freshParting_4 1 rfl rfl ?_
  refine x_iconst (v := 1) S dX5_freshParting_5 rfl ?_
  refine x_isub S dX5_freshParting_6 ?_
  refine x_top (nI j) (nI_pred j) ?_
  refine x_aald S 26 2 (j) rfl rfl rfl rfl (by omega) (by decide) rfl dX5_freshParting_7 ?_
  refine x_ws (ws' := cwp ad cI cII cP n am al ch fr to wt nb M tch cu rch pa br gp P j (P j).1 (P j).2.1 (P j).2.2.1 (P j).2.2.2 ++ X) (by unfold cwp; rw [va_eta]) ?_
  refine x_cVvS (n := 0) S (c_refreshP hj hn hM hf hR) (gGV gC tw385 tw382 tw383 tw384 tw6) rfl (by decide +kernel) (27 + 3 * j) (cwp_0 hj) rfl rfl rfl (Nat.le_of_ble_eq_true rfl) dX5_freshParting_8 ⟨by decide, by decide⟩ ⟨Nat.le_of_ble_eq_true rfl, Nat.le_of_ble_eq_true rfl⟩ (fun s hs => ?_)
  show xW E D vwCl 2 0 0 (cw ad cI cII cP n am al ch fr to wt nb M tch cu rch pa br gp (va_up P j (nI ch, (kPR n (j + 1) M).1, s.1, s.2)) ++ X) _ _ _
  refine x_aload_n S dX5_freshParting_11 0 rfl rfl ?_
  refine x_get S 25 4 rfl rfl inC5 (by decide) (gC _ tw155) rfl rfl dX5_freshParting_12 ?_
  refine x_iload_n S dX5_freshParting_15 1 rfl rfl ?_
  refine x_iconst (v := 1) S dX5_freshParting_16 rfl ?_
  refine x_isub S dX5_freshParting_17 ?_
  refine x_top (nI j) (nI_pred j) ?_
  refine x_aald S 26 2 (j) rfl rfl rfl rfl (by omega) (by decide) rfl dX5_freshParting_18 ?_
  exact hret (s) _ _ hs dX5_freshParting_19
end CT1
end
section
/-! what the calls answer, as functions of the GRAPH; what is hidden in the object -/
section SPEC3
theorem kR1_congr {nb nb' : Nat → Nat} {o r : Nat} : ∀ {k : Nat}, (∀ v, v < k → nb v = nb' v) → kR1 nb o r k = kR1 nb' o r k
  | 0, _ => rfl
  | k + 1, h => by
    simp only [kR1]
    rw [kR1_congr (fun v hv => h v (by omega)), h k (by omega)]
theorem kR_congr {nb nb' : Nat → Nat} {o n : Nat} (h : ∀ v, v < n → nb v = nb' v) : ∀ (j r : Nat), kR nb o n j r = kR nb' o n j r
  | 0, _ => rfl
  | j + 1, r => by
    simp only [kR]
    rw [kR1_congr h, kR_congr h j]
theorem kCC_congr {nb nb' : Nat → Nat} {o n : Nat} (h : ∀ v, v < n → nb v = nb' v) : ∀ k, kCC nb o n k = kCC nb' o n k
  | 0 => rfl
  | k + 1 => by
    simp only [kCC]
    rw [kCC_congr h k, kR_congr h]
theorem kFB_congr {nb nb' : Nat → Nat} {n a b : Nat} (h : ∀ v, v < n → nb v = nb' v) : ∀ k, kFB nb n a b k = kFB nb' n a b k
  | 0 => rfl
  | k + 1 => by
    simp only [kFB]
    rw [kFB_congr h k, kR_congr h]
theorem foldN_congr {α : Type} {g g' : Nat → α → α} : ∀ {m : Nat} {s : α}, (∀ x s, x < m → g x s = g' x s) → foldN g m s = foldN g' m s
  | 0, _, _ => rfl
  | m + 1, s, h => by
    show g m (foldN g m s) = g' m (foldN g' m s)
    rw [foldN_congr (fun x s hx => h x s (by omega)), h m _ (by omega)]
theorem kT_congr {n k : Nat} {M M' : Nat → Nat → Nat} (h : ∀ v u, u < v → v < n → M v u = M' v u) : ∀ (d v used cost : Nat) (f : Nat → Nat) (st : Nat × (Nat → Nat)), v + d = n → kT n k M d v used cost f st = kT n k M' d v used cost f st
  | 0, v, used, cost, f, st, hv => rfl
  | d + 1, v, used, cost, f, st, hv => by
    simp only [kT]
    have e : ∀ x, pC M (va_up f v x) v = pC M' (va_up f v x) v := fun x => sm_congr (fun u hu => by rw [h v u hu (by omega)])
    split
    · refine foldN_congr (fun x s _ => ?_)
      rw [e x]
      exact kT_congr h d (v + 1) _ _ _ _ (by omega)
    · rfl
theorem kPR_congr {n k : Nat} {M M' : Nat → Nat → Nat} (h : ∀ v u, u < v → v < n → M v u = M' v u) : kPR n k M = kPR n k M' := kT_congr h n 0 0 0 _ _ (by omega)
theorem kWy_congr {n : Nat} {pa br pa' br' : Nat → Nat} (hp : ∀ j, j < n → pa j = pa' j) (hb : ∀ j, 1 ≤ j → j < n → br j = br' j) (hl : ∀ j, j < n → pa j < n) : ∀ (f x y z : Nat), x < n → y < n → kWy pa br f x y z = kWy pa' br' f x y z
  | 0, x, y, z, _, _ => rfl
  | f + 1, x, y, z, hx, hy => by
    simp only [kWy]
    split
    · rfl
    · rename_i hne
      rw [← hp (max x y) (by omega), ← hb (max x y) (by omega) (by omega)]
      exact kWy_congr hp hb hl f _ _ _ (by omega) (hl _ (by omega))
theorem dD_congr {n am : Nat} {fr to wt : Nat → Nat} (hA : aOK n am fr to wt) (hn : 0 < n) : ∀ (c : Nat) (z : Int32) (g g' : Nat → Nat), (∀ v, v < n → g v = g' v) → dD n am fr to wt c z g = dD n am fr to wt c z g'
  | 0, z, g, g', h => h 0 hn
  | c + 1, z, g, g', h => by
    have eW : ∀ k, k ≤ am → dW fr to wt g k = dW fr to wt g' k := fun k hk => sm_congr (fun j hj => by
      obtain ⟨f1, f2, _, _⟩ := hA.2.2 j (by omega)
      rw [h _ f1, h _ f2])
    simp only [dD]
    rw [eW am (Nat.le_refl _), h 0 hn]
    split
    · rfl
    · rename_i hs
      have ePk : dPk fr to wt g (dT (dZ z) (dW fr to wt g' am)) am = dPk fr to wt g' (dT (dZ z) (dW fr to wt g' am)) am := dPk_congr (fun j hj => eW j hj)
      rw [ePk]
      have hlt : dT (dZ z) (dW fr to wt g' am) < dW fr to wt g' am := Nat.mod_lt _ (by omega)
      obtain ⟨p1, -, -⟩ := dPk_ok fr to wt g' am hlt
      obtain ⟨f1, f2, _, _⟩ := hA.2.2 _ p1
      refine dD_congr hA hn c _ _ _ (fun v hv => ?_)
      unfold dJ
      rw [h _ f1, h _ f2, h v hv]
def bitsOf (p : Nat → Bool) : Nat → Nat
  | 0 => 0
  | k + 1 => bitsOf p k ||| (if p k = true then 2 ^ k else 0)
theorem bitsOf_t (p : Nat → Bool) (i : Nat) : ∀ k, (bitsOf p k).testBit i = (decide (i < k) && p i)
  | 0 => by simp [bitsOf]
  | k + 1 => by
    simp only [bitsOf]
    rw [Nat.testBit_or, bitsOf_t p i k]
    by_cases h : p k = true
    · rw [if_pos h, Nat.testBit_two_pow]
      by_cases e : k = i
      · subst e; simp [h]
      · simp [e, show i < k + 1 ↔ i < k by omega]
    · rw [if_neg h]
      by_cases e : k = i
      · subst e; simp [h]
      · simp [show i < k + 1 ↔ i < k by omega]
/-- the NODES beside v -/
def kNb (fr to wt : Nat → Nat) (am v : Nat) : Nat := bitsOf (fun b => decide (0 < kM fr to wt am v b)) 12
def nbOK (am : Nat) (fr to wt nb : Nat → Nat) : Prop := ∀ a, a < 12 → nb a = kNb fr to wt am a
theorem kNb_lt (fr to wt : Nat → Nat) (am v : Nat) : kNb fr to wt am v < 4096 := lt_of_t (n := 12) (fun i h => by
  unfold kNb at h
  rw [bitsOf_t] at h
  simp at h
  exact h.1)
theorem kNb_t (fr to wt : Nat → Nat) (am v b : Nat) (hb : b < 12) : (kNb fr to wt am v).testBit b = decide (0 < kM fr to wt am v b) := by
  unfold kNb
  rw [bitsOf_t]; simp [hb]
theorem nb_eq {x y : Nat} (hx : x < 4096) (hy : y < 4096) (h : ∀ b, b < 12 → x.testBit b = y.testBit b) : x = y := by
  apply Nat.eq_of_testBit_eq
  intro i
  rcases Nat.lt_or_ge i 12 with q | q
  · exact h i q
  · rw [Nat.testBit_lt_two_pow (Nat.lt_of_lt_of_le hx (Nat.pow_le_pow_right (n := 2) (by omega) q)), Nat.testBit_lt_two_pow (Nat.lt_of_lt_of_le hy (Nat.pow_le_pow_right (n := 2) (by omega) q))]
/-- a count of changes that was seen -/
def sB (ch : Nat) (x : Int32) : Prop := x = -1 ∨ ∃ c, c ≤ ch ∧ x = nI c
theorem sB.up {ch : Nat} {x : Int32} (h : sB ch x) : sB (ch + 1) x := h.elim Or.inl (fun ⟨c, hc, e⟩ => Or.inr ⟨c, by omega, e⟩)
theorem sB.ne {ch : Nat} {x : Int32} (h : sB ch x) (hb : ch + 1 < 2 ^ 31) : x ≠ nI (ch + 1) := by
  rcases h with rfl | ⟨c, hc, rfl⟩
  · intro q
    have h1 : (nI (ch + 1)).toInt = ((ch + 1 : Nat) : Int) := nI_toInt hb
    rw [← q] at h1
    have h2 : (-1 : Int32).toInt = -1 := by decide
    rw [h2] at h1
    omega
  · intro q
    have := pl_inj (by omega) hb q
    omega
theorem sB.self (ch : Nat) : sB ch (nI ch) := Or.inr ⟨ch, Nat.le_refl _, rfl⟩
/-- ARCS that are there -/
def kLv (wt : Nat → Nat) (am : Nat) : Nat := sm (fun i => if 0 < wt i then 1 else 0) am
abbrev HS : Type := Nat × (Nat → Nat) × (Nat → Nat → Nat) × Int32 × (Nat → Nat) × Int32 × (Nat → Nat) × (Nat → Nat) × (Nat → Nat) × (Nat → Int32 × Nat × (Nat → Nat) × (Nat → Nat))
def cwH (ad : Nat → Nat) (cI cII cP : ClassId) (n am al : Nat) (fr to wt : Nat → Nat) (h : HS) : va_W := cw ad cI cII cP n am al h.1 fr to wt h.2.1 h.2.2.1 h.2.2.2.1 h.2.2.2.2.1 h.2.2.2.2.2.1 h.2.2.2.2.2.2.1 h.2.2.2.2.2.2.2.1 h.2.2.2.2.2.2.2.2.1 h.2.2.2.2.2.2.2.2.2
def trOK (n am : Nat) (fr to wt pa br : Nat → Nat) : Prop := (∀ j, j < n → pa j = kPa (kC fr to wt am) n n j) ∧ ∀ j, 1 ≤ j → j < n → br j = kBr (kC fr to wt am) n j
def paOK (n am ch : Nat) (fr to wt : Nat → Nat) (P : Nat → Int32 × Nat × (Nat → Nat) × (Nat → Nat)) : Prop := ∀ j, j < 4 → sB ch (P j).1 ∧ ((P j).1 = nI ch → n ≤ 10 → j + 1 ≤ n → (P j).2.1 = (kPR n (j + 1) (kM fr to wt am)).1 ∧ ∀ u, u < n → (P j).2.2.2 u = (kPR n (j + 1) (kM fr to wt am)).2 u)
def cInv (t n am al : Nat) (fr to wt : Nat → Nat) (h : HS) : Prop :=
  aOK n am fr to wt ∧ mOK am fr to wt h.2.2.1 ∧ nbOK am fr to wt h.2.1 ∧ al = kLv wt am ∧ h.1 ≤ t ∧ h.2.2.2.2.1 0 = 0 ∧ sB h.1 h.2.2.2.1 ∧ (h.2.2.2.1 = nI h.1 → tOK n am fr to wt h.2.2.2.2.1) ∧ sB h.1 h.2.2.2.2.2.1 ∧ (h.2.2.2.2.2.1 = nI h.1 → trOK n am fr to wt h.2.2.2.2.2.2.1 h.2.2.2.2.2.2.2.1) ∧ paOK n am h.1 fr to wt h.2.2.2.2.2.2.2.2.2
/-- LEAST ONE 0 -/
noncomputable def kE (cf : Nat → Nat) (n : Nat) : Nat := @dite _ (∃ S, isFM cf (evP n) S) (Classical.propDecidable _) (fun h => Classical.choose h) (fun _ => 0)
theorem kE_ok {cf : Nat → Nat} {n : Nat} (h2 : 2 ≤ n) : isFM cf (evP n) (kE cf n) := by
  have hp : 2 ≤ 2 ^ (n - 1) := by have := Nat.pow_le_pow_right (n := 2) (by omega) (show 1 ≤ n - 1 by omega); omega
  have h : ∃ S, isFM cf (evP n) S := isFM_ex ⟨2, 0, by omega, rfl⟩
  unfold kE
  rw [dif_pos h]
  exact Classical.choose_spec h
abbrev isN (n : Nat) (v : Int32) : Prop := 0 ≤ v ∧ v < nI n
abbrev isP2 (n : Nat) (a b : Int32) : Prop := isN n a ∧ isN n b ∧ a ≠ b
section SP
variable (n am : Nat) (fr to wt : Nat → Nat)
noncomputable def sPair (a b : Int32) : Int32 := if isP2 n a b then nI (kC fr to wt am (kZ (kC fr to wt am) n a.toNatClampNeg b.toNatClampNeg)) else -1
noncomputable def sSide (a b : Int32) : Int32 := if isP2 n a b then nI (kZ (kC fr to wt am) n a.toNatClampNeg b.toNatClampNeg) else -1
noncomputable def sParent (v : Int32) : Int32 := if isN n v then (if v = 0 then -3 else nI (kPa (kC fr to wt am) n n v.toNatClampNeg)) else -1
noncomputable def sBranch (v : Int32) : Int32 := if isN n v then (if v = 0 then -3 else nI (kBr (kC fr to wt am) n v.toNatClampNeg)) else -1
noncomputable def sWay (a b : Int32) : Int32 := if isP2 n a b then nI (kWy (kPa (kC fr to wt am) n n) (kBr (kC fr to wt am) n) 24 a.toNatClampNeg b.toNatClampNeg 2147483647) else -1
noncomputable def sLeast : Int32 := if 1 < n then nI (kC fr to wt am (kE (kC fr to wt am) n)) else -3
noncomputable def sCounted : Int32 := if 1 < n then nI (kCnt (kC fr to wt am) (kC fr to wt am (kE (kC fr to wt am) n)) (2 ^ (n - 1) - 1)) else 0
noncomputable def sEvery (k : Int32) : Int32 := if 1 < n ∧ 0 ≤ k then kLO (kC fr to wt am) (kC fr to wt am (kE (kC fr to wt am) n)) k.toNatClampNeg (2 ^ (n - 1) - 1) 0 else -1
def sDrawn (z : Int32) : Int32 := if 1 < n then nI (dD n am fr to wt (n - 2) z (dI n (fun _ => 0))) else -3
def sParts (k : Int32) : Int32 := if pRef n k < 0 then pRef n k else nI (kPR n k.toNatClampNeg (kM fr to wt am)).1
def sPartOf (k v : Int32) : Int32 := if isN n v then (if pRef n k < 0 then pRef n k else nI ((kPR n k.toNatClampNeg (kM fr to wt am)).2 v.toNatClampNeg)) else -1
def sSparse : Int32 := if 1 < n then nI (kSp (kC fr to wt am) (kSpr n) (2 ^ (n - 1) - 2)) else -3
def sShare (q : Int32) : Int32 := if q ≠ 0 ∧ q ≠ 1 then -2 else if 1 < n then nI ((if q = 0 then kC fr to wt am (kSp (kC fr to wt am) (kSpr n) (2 ^ (n - 1) - 2)) else kSpr n (kSp (kC fr to wt am) (kSpr n) (2 ^ (n - 1) - 2))) / Nat.gcd (kC fr to wt am (kSp (kC fr to wt am) (kSpr n) (2 ^ (n - 1) - 2))) (kSpr n (kSp (kC fr to wt am) (kSpr n) (2 ^ (n - 1) - 2)))) else -3
def sBarSet (a b : Int32) : Int32 := if isP2 n a b then (if 0 < kM fr to wt am a.toNatClampNeg b.toNatClampNeg then -3 else nI (kFB (kNb fr to wt am) n a.toNatClampNeg b.toNatClampNeg (2 ^ (n - 2)))) else -1
def sBars (a b : Int32) : Int32 := if isP2 n a b then (if 0 < kM fr to wt am a.toNatClampNeg b.toNatClampNeg then -3 else nI (kP (kFB (kNb fr to wt am) n a.toNatClampNeg b.toNatClampNeg (2 ^ (n - 2))))) else -1
def sCut (s : Int32) : Int32 := if 0 ≤ s ∧ s ≤ nI (2 ^ n - 1) then nI (kC fr to wt am s.toNatClampNeg) else -2
def sWithout (s : Int32) : Int32 := if 0 ≤ s ∧ s ≤ nI (2 ^ n - 1) then nI (kCC (kNb fr to wt am) (pl_di (2 ^ n - 1) s.toNatClampNeg) n n).2 else -2
end SP
theorem isN_of {n : Nat} {v : Int32} (hn : n ≤ 12) (h : isN n v) : ∃ j, j < n ∧ v = nI j ∧ v.toNatClampNeg = j := by
  obtain ⟨j, hj, e⟩ := pl_of_lt (by omega) h.1 h.2
  exact ⟨j, hj, e, by rw [e]; exact nI_clamp (by omega)⟩
theorem isP2_of {n : Nat} {a b : Int32} (hn : n ≤ 12) (h : isP2 n a b) : ∃ i j, i < n ∧ j < n ∧ i ≠ j ∧ a = nI i ∧ b = nI j ∧ a.toNatClampNeg = i ∧ b.toNatClampNeg = j := by
  obtain ⟨i, hi, e1, f1⟩ := isN_of hn h.1
  obtain ⟨j, hj, e2, f2⟩ := isN_of hn h.2.1
  exact ⟨i, j, hi, hj, fun q => h.2.2 (by rw [e1, e2, q]), e1, e2, f1, f2⟩
theorem set_of {n : Nat} {s : Int32} (hn : n ≤ 12) (h : 0 ≤ s ∧ s ≤ nI (2 ^ n - 1)) : ∃ j, j < 2 ^ n ∧ s = nI j ∧ s.toNatClampNeg = j := by
  have hp := pl_pow12 hn
  obtain ⟨j, hj, e⟩ := pl_of h.1
  rw [e] at h
  have := (nI_leI hj (by omega)).mp h.2
  have := Nat.two_pow_pos n
  exact ⟨j, by omega, e, by rw [e]; exact nI_clamp hj⟩
end SPEC3
end
section
/-! CutTrees: the calls -/
section CT2
theorem x_retS {Sg : Type} {E : xE} {D : va_G} {cl : List vw_C} {nL : Nat} {cc : ByteArray} {cells slots : Nat} {post : Sg → Prop} {ws' : Sg → va_W} {r : Sg → Int32} {r' : Int32} {lv : List (Nat × Value)} {pc : Nat} (hret : xRetS E D cl nL cc cells slots post ws' (fun u => some (.int (r u)))) (u : Sg) (hp : post u) (hr : r' = r u) (hd : decode cc pc = .ok (.ireturn, 1)) : xW E D cl nL cells slots (ws' u) lv pc [.int r'] := by
  subst hr
  exact hret u lv pc hp hd
theorem tOK.zero {n am : Nat} {fr to wt c : Nat → Nat} (h : tOK n am fr to wt c) : c 0 = 0 := by
  have := h 0 (Nat.two_pow_pos _)
  rw [Nat.mul_zero, kC_0] at this
  exact this
theorem t31 {t ch : Nat} (h : ch ≤ t) (ht : t ≤ 1000000) : ch + 1 < 2 ^ 31 := by omega
variable {l : Launch} {D : va_G} {ad : Nat → Nat} {cI cII cP cZ : ClassId} {n am al ch : Nat} {fr to wt nb : Nat → Nat} {M : Nat → Nat → Nat} {tch : Int32} {cu : Nat → Nat} {rch : Int32} {pa br gp : Nat → Nat} {P : Nat → Int32 × Nat × (Nat → Nat) × (Nat → Nat)} {X : va_W}
set_option maxHeartbeats 4000000 in
set_option maxRecDepth 100000 in
theorem p_cut {t : Nat} (s : Int32) (h : HS) (hI : cInv t n am al fr to wt h) : xMetS l yX5_cut wX5_cut (rD 16) D vwCl (tyC cI cII cP cZ) nwC [.ref (ad 25), .int s] (cwH ad cI cII cP n am al fr to wt h ++ X) (fun h' : HS => cInv t n am al fr to wt h') (fun h' => cwH ad cI cII cP n am al fr to wt h' ++ X) (fun _ => some (.int (sCut n am fr to wt s))) := by
  obtain ⟨ch, nb, M, tch, cu, rch, pa, br, gp, P⟩ := h
  obtain ⟨hA, hM, hN, hal, hch, h0, hsT, hT, hsR, hR, hP⟩ := hI
  have hn := hA.1
  refine xMetS_of (cc := cX5_cut) (maxL := 2) (ret := (some .int)) (by decide +kernel) rfl (Nat.le_of_ble_eq_true rfl) (fun _ _ => xfi) ?_
  intro E S hnm hret
  show xW E D vwCl 2 0 0 (cw ad cI cII cP n am al ch fr to wt nb M tch cu rch pa br gp P ++ X) [(0, .ref (ad 25)), (1, .int s)] 0 []
  refine x_aload_n S dX5_cut_0 0 rfl rfl ?_
  refine x_get S 25 0 rfl rfl inC5 (by decide) (gC _ tw151) rfl rfl dX5_cut_1 ?_
  refine x_iload_n S dX5_cut_4 1 rfl rfl ?_
  refine x_cVi (n := 1) S (c_hasSet hn s) (gGV gC tw226 tw223 tw224 tw225 tw2) rfl (by decide +kernel) 0 rfl rfl rfl rfl (Nat.le_of_ble_eq_true rfl) dX5_cut_5 ⟨by decide, by decide⟩ ⟨Nat.le_of_ble_eq_true rfl, Nat.le_of_ble_eq_true rfl⟩ ?_
  refine x_if_eqB (tgt := 22) S dX5_cut_8 (by decide) (fun h1 => ?_) (fun h1 => ?_)
  · refine x_bipush (v := -2) S dX5_cut_22 (by decide) ?_
    exact x_retS hret ((ch, nb, M, tch, cu, rch, pa, br, gp, P)) (⟨hA, hM, hN, hal, hch, h0, hsT, hT, hsR, hR, hP⟩) ((if_neg h1).symm) dX5_cut_24
  obtain ⟨j, hj, e, f⟩ := set_of hn h1
  have hp := pl_pow12 hn
  subst e
  refine x_aload_n S dX5_cut_11 0 rfl rfl ?_
  refine x_get S 25 0 rfl rfl inC5 (by decide) (gC _ tw151) rfl rfl dX5_cut_12 ?_
  refine x_iload_n S dX5_cut_15 1 rfl rfl ?_
  refine x_cVi (n := 1) S (c_cutAround (by omega) hA.2.1 (fun i hi => ⟨by have := (hA.2.2 i hi).1; omega, by have := (hA.2.2 i hi).2.1; omega⟩)) (gGV gC tw234 tw231 tw232 tw233 tw2) rfl (by decide +kernel) 0 rfl rfl rfl rfl (Nat.le_of_ble_eq_true rfl) dX5_cut_16 ⟨by decide, by decide⟩ ⟨Nat.le_of_ble_eq_true rfl, Nat.le_of_ble_eq_true rfl⟩ ?_
  refine x_goto (tgt := 24) S dX5_cut_19 (by decide) ?_
  exact x_retS hret ((ch, nb, M, tch, cu, rch, pa, br, gp, P)) (⟨hA, hM, hN, hal, hch, h0, hsT, hT, hsR, hR, hP⟩) ((by unfold sCut; rw [if_pos h1, f])) dX5_cut_24
set_option maxHeartbeats 4000000 in
set_option maxRecDepth 100000 in
theorem p_pair {t : Nat} (a b : Int32) (h : HS) (hI : cInv t n am al fr to wt h) : xMetS l yX5_pair wX5_pair (rD 16) D vwCl (tyC cI cII cP cZ) nwC [.ref (ad 25), .int a, .int b] (cwH ad cI cII cP n am al fr to wt h ++ X) (fun h' : HS => cInv t n am al fr to wt h') (fun h' => cwH ad cI cII cP n am al fr to wt h' ++ X) (fun _ => some (.int (sPair n am fr to wt a b))) := by
  obtain ⟨ch, nb, M, tch, cu, rch, pa, br, gp, P⟩ := h
  obtain ⟨hA, hM, hN, hal, hch, h0, hsT, hT, hsR, hR, hP⟩ := hI
  have hn := hA.1
  refine xMetS_of (cc := cX5_pair) (maxL := 3) (ret := (some .int)) (by decide +kernel) rfl (Nat.le_of_ble_eq_true rfl) (fun _ _ => xfi) ?_
  intro E S hnm hret
  show xW E D vwCl 3 0 0 (cw ad cI cII cP n am al ch fr to wt nb M tch cu rch pa br gp P ++ X) [(0, .ref (ad 25)), (1, .int a), (2, .int b)] 0 []
  refine x_aload_n S dX5_pair_0 0 rfl rfl ?_
  refine x_get S 25 0 rfl rfl inC5 (by decide) (gC _ tw151) rfl rfl dX5_pair_1 ?_
  refine x_iload_n S dX5_pair_4 1 rfl rfl ?_
  refine x_iload_n S dX5_pair_5 2 rfl rfl ?_
  refine x_cVi (n := 2) S (c_hasPair a b) (gGV gC tw182 tw179 tw180 tw181 tw2) rfl (by decide +kernel) 0 rfl rfl rfl rfl (Nat.le_of_ble_eq_true rfl) dX5_pair_6 ⟨by decide, by decide⟩ ⟨Nat.le_of_ble_eq_true rfl, Nat.le_of_ble_eq_true rfl⟩ ?_
  refine x_if_eqB (tgt := 24) S dX5_pair_9 (by decide) (fun h1 => ?_) (fun h1 => ?_)
  · refine x_iconst (v := -1) S dX5_pair_24 rfl ?_
    exact x_retS hret ((ch, nb, M, tch, cu, rch, pa, br, gp, P)) (⟨hA, hM, hN, hal, hch, h0, hsT, hT, hsR, hR, hP⟩) ((if_neg h1).symm) dX5_pair_25
  obtain ⟨i, j, hi, hj, hij, rfl, rfl, f1, f2⟩ := isP2_of hn h1
  refine x_aload_n S dX5_pair_12 0 rfl rfl ?_
  refine x_cVaS (n := 0) S (c_freshTable (by omega) hA hM h0 hT) (gGV gC tw242 tw239 tw241 ts1 tw1) rfl (by decide +kernel) 25 rfl rfl rfl rfl (Nat.le_of_ble_eq_true rfl) dX5_pair_13 ⟨by decide, by decide⟩ ⟨Nat.le_of_ble_eq_true rfl, Nat.le_of_ble_eq_true rfl⟩ (fun c hc => ?_)
  refine x_iload_n S dX5_pair_16 1 rfl rfl ?_
  refine x_iload_n S dX5_pair_17 2 rfl rfl ?_
  refine x_cVi (n := 2) S (c_cutBetween (by omega) hA hc hi hj hij (kZ_ok hi hij)) (gGV gC tw258 tw255 tw256 tw257 tw3) rfl (by decide +kernel) 18 rfl rfl rfl rfl (Nat.le_of_ble_eq_true rfl) dX5_pair_18 ⟨by decide, by decide⟩ ⟨Nat.le_of_ble_eq_true rfl, Nat.le_of_ble_eq_true rfl⟩ ?_
  refine x_goto (tgt := 25) S dX5_pair_21 (by decide) ?_
  exact x_retS hret ((ch, nb, M, nI ch, c, rch, pa, br, gp, P)) (⟨hA, hM, hN, hal, hch, hc.zero, sB.self ch, fun _ => hc, hsR, hR, hP⟩) ((by unfold sPair; rw [if_pos h1, f1, f2])) dX5_pair_25
set_option maxHeartbeats 4000000 in
set_option maxRecDepth 100000 in
theorem p_side {t : Nat} (a b : Int32) (h : HS) (hI : cInv t n am al fr to wt h) : xMetS l yX5_side wX5_side (rD 16) D vwCl (tyC cI cII cP cZ) nwC [.ref (ad 25), .int a, .int b] (cwH ad cI cII cP n am al fr to wt h ++ X) (fun h' : HS => cInv t n am al fr to wt h') (fun h' => cwH ad cI cII cP n am al fr to wt h' ++ X) (fun _ => some (.int (sSide n am fr to wt a b))) := by
  obtain ⟨ch, nb, M, tch, cu, rch, pa, br, gp, P⟩ := h
  obtain ⟨hA, hM, hN, hal, hch, h0, hsT, hT, hsR, hR, hP⟩ := hI
  have hn := hA.1
  refine xMetS_of (cc := cX5_side) (maxL := 3) (ret := (some .int)) (by decide +kernel) rfl (Nat.le_of_ble_eq_true rfl) (fun _ _ => xfi) ?_
  intro E S hnm hret
  show xW E D vwCl 3 0 0 (cw ad cI cII cP n am al ch fr to wt nb M tch cu rch pa br gp P ++ X) [(0, .ref (ad 25)), (1, .int a), (2, .int b)] 0 []
  refine x_aload_n S dX5_side_0 0 rfl rfl ?_
  refine x_get S 25 0 rfl rfl inC5 (by decide) (gC _ tw151) rfl rfl dX5_side_1 ?_
  refine x_iload_n S dX5_side_4 1 rfl rfl ?_
  refine x_iload_n S dX5_side_5 2 rfl rfl ?_
  refine x_cVi (n := 2) S (c_hasPair a b) (gGV gC tw182 tw179 tw180 tw181 tw2) rfl (by decide +kernel) 0 rfl rfl rfl rfl (Nat.le_of_ble_eq_true rfl) dX5_side_6 ⟨by decide, by decide⟩ ⟨Nat.le_of_ble_eq_true rfl, Nat.le_of_ble_eq_true rfl⟩ ?_
  refine x_if_eqB (tgt := 24) S dX5_side_9 (by decide) (fun h1 => ?_) (fun h1 => ?_)
  · refine x_iconst (v := -1) S dX5_side_24 rfl ?_
    exact x_retS hret ((ch, nb, M, tch, cu, rch, pa, br, gp, P)) (⟨hA, hM, hN, hal, hch, h0, hsT, hT, hsR, hR, hP⟩) ((if_neg h1).symm) dX5_side_25
  obtain ⟨i, j, hi, hj, hij, rfl, rfl, f1, f2⟩ := isP2_of hn h1
  refine x_aload_n S dX5_side_12 0 rfl rfl ?_
  refine x_cVaS (n := 0) S (c_freshTable (by omega) hA hM h0 hT) (gGV gC tw242 tw239 tw241 ts1 tw1) rfl (by decide +kernel) 25 rfl rfl rfl rfl (Nat.le_of_ble_eq_true rfl) dX5_side_13 ⟨by decide, by decide⟩ ⟨Nat.le_of_ble_eq_true rfl, Nat.le_of_ble_eq_true rfl⟩ (fun c hc => ?_)
  refine x_iload_n S dX5_side_16 1 rfl rfl ?_
  refine x_iload_n S dX5_side_17 2 rfl rfl ?_
  refine x_cVi (n := 2) S (c_sideAgainst (by omega) hA hc hi hj hij (kZ_ok hi hij)) (gGV gC tw262 tw275 tw260 tw261 tw3) rfl (by decide +kernel) 18 rfl rfl rfl rfl (Nat.le_of_ble_eq_true rfl) dX5_side_18 ⟨by decide, by decide⟩ ⟨Nat.le_of_ble_eq_true rfl, Nat.le_of_ble_eq_true rfl⟩ ?_
  refine x_goto (tgt := 25) S dX5_side_21 (by decide) ?_
  exact x_retS hret ((ch, nb, M, nI ch, c, rch, pa, br, gp, P)) (⟨hA, hM, hN, hal, hch, hc.zero, sB.self ch, fun _ => hc, hsR, hR, hP⟩) ((by unfold sSide; rw [if_pos h1, f1, f2])) dX5_side_25
set_option maxHeartbeats 4000000 in
set_option maxRecDepth 100000 in
theorem p_parent {t : Nat} (v : Int32) (h : HS) (hI : cInv t n am al fr to wt h) : xMetS l yX5_parent wX5_parent (rD 16) D vwCl (tyC cI cII cP cZ) nwC [.ref (ad 25), .int v] (cwH ad cI cII cP n am al fr to wt h ++ X) (fun h' : HS => cInv t n am al fr to wt h') (fun h' => cwH ad cI cII cP n am al fr to wt h' ++ X) (fun _ => some (.int (sParent n am fr to wt v))) := by
  obtain ⟨ch, nb, M, tch, cu, rch, pa, br, gp, P⟩ := h
  obtain ⟨hA, hM, hN, hal, hch, h0, hsT, hT, hsR, hR, hP⟩ := hI
  have hn := hA.1
  refine xMetS_of (cc := cX5_parent) (maxL := 2) (ret := (some .int)) (by decide +kernel) rfl (Nat.le_of_ble_eq_true rfl) (fun _ _ => xfi) ?_
  intro E S hnm hret
  show xW E D vwCl 2 0 0 (cw ad cI cII cP n am al ch fr to wt nb M tch cu rch pa br gp P ++ X) [(0, .ref (ad 25)), (1, .int v)] 0 []
  refine x_aload_n S dX5_parent_0 0 rfl rfl ?_
  refine x_get S 25 0 rfl rfl inC5 (by decide) (gC _ tw151) rfl rfl dX5_parent_1 ?_
  refine x_iload_n S dX5_parent_4 1 rfl rfl ?_
  refine x_cVi (n := 1) S (c_hasNode v) (gGV gC tw186 tw280 tw184 tw185 tw2) rfl (by decide +kernel) 0 rfl rfl rfl rfl (Nat.le_of_ble_eq_true rfl) dX5_parent_5 ⟨by decide, by decide⟩ ⟨Nat.le_of_ble_eq_true rfl, Nat.le_of_ble_eq_true rfl⟩ ?_
  refine x_if_neB (tgt := 13) S dX5_parent_8 (by decide) (fun h1 => ?_) (fun h1 => ?_)
  rotate_left
  · refine x_iconst (v := -1) S dX5_parent_11 rfl ?_
    exact x_retS hret ((ch, nb, M, tch, cu, rch, pa, br, gp, P)) (⟨hA, hM, hN, hal, hch, h0, hsT, hT, hsR, hR, hP⟩) ((if_neg h1).symm) dX5_parent_12
  obtain ⟨j, hj, e, f⟩ := isN_of hn h1
  refine x_iload_n S dX5_parent_13 1 rfl rfl ?_
  refine x_if_ne (tgt := 22) S dX5_parent_14 (by decide) (fun h2 => ?_) (fun h2 => ?_)
  rotate_left
  · refine x_bipush (v := -3) S dX5_parent_17 (by decide) ?_
    refine x_goto (tgt := 31) S dX5_parent_19 (by decide) ?_
    exact x_retS hret ((ch, nb, M, tch, cu, rch, pa, br, gp, P)) (⟨hA, hM, hN, hal, hch, h0, hsT, hT, hsR, hR, hP⟩) ((by unfold sParent; rw [if_pos h1, if_pos h2])) dX5_parent_31
  have hj0 : 1 ≤ j := Nat.pos_of_ne_zero (fun q => h2 (by rw [e, q]; rfl))
  refine x_aload_n S dX5_parent_22 0 rfl rfl ?_
  refine x_cVaS (n := 0) S (c_freshTree (by omega) hA hM h0 hT hR) (gGV gC tw284 tw281 tw283 ts3 tw1) rfl (by decide +kernel) 25 rfl rfl rfl rfl (Nat.le_of_ble_eq_true rfl) dX5_parent_23 ⟨by decide, by decide⟩ ⟨Nat.le_of_ble_eq_true rfl, Nat.le_of_ble_eq_true rfl⟩ (fun u hu => ?_)
  refine x_get S 20 2 rfl rfl inC3 (by decide) (gC _ tw95) rfl rfl dX5_parent_26 ?_
  refine x_iload_n S dX5_parent_29 1 rfl rfl ?_
  refine x_ialdN S 21 0 (j) rfl rfl e (by omega) (by decide) dX5_parent_30 ?_
  exact x_retS hret ((ch, nb, M, nI ch, u.1, nI ch, u.2.1, u.2.2, gp, P)) (⟨hA, hM, hN, hal, hch, hu.1.zero, sB.self ch, fun _ => hu.1, sB.self ch, fun _ => hu.2, hP⟩) ((by unfold sParent; rw [if_pos h1, if_neg h2, f, hu.2.1 j hj])) dX5_parent_31
set_option maxHeartbeats 4000000 in
set_option maxRecDepth 100000 in
theorem p_branch {t : Nat} (v : Int32) (h : HS) (hI : cInv t n am al fr to wt h) : xMetS l yX5_branch wX5_branch (rD 16) D vwCl (tyC cI cII cP cZ) nwC [.ref (ad 25), .int v] (cwH ad cI cII cP n am al fr to wt h ++ X) (fun h' : HS => cInv t n am al fr to wt h') (fun h' => cwH ad cI cII cP n am al fr to wt h' ++ X) (fun _ => some (.int (sBranch n am fr to wt v))) := by
  obtain ⟨ch, nb, M, tch, cu, rch, pa, br, gp, P⟩ := h
  obtain ⟨hA, hM, hN, hal, hch, h0, hsT, hT, hsR, hR, hP⟩ := hI
  have hn := hA.1
  refine xMetS_of (cc := cX5_branch) (maxL := 2) (ret := (some .int)) (by decide +kernel) rfl (Nat.le_of_ble_eq_true rfl) (fun _ _ => xfi) ?_
  intro E S hnm hret
  show xW E D vwCl 2 0 0 (cw ad cI cII cP n am al ch fr to wt nb M tch cu rch pa br gp P ++ X) [(0, .ref (ad 25)), (1, .int v)] 0 []
  refine x_aload_n S dX5_branch_0 0 rfl rfl ?_
  refine x_get S 25 0 rfl rfl inC5 (by decide) (gC _ tw151) rfl rfl dX5_branch_1 ?_
  refine x_iload_n S dX5_branch_4 1 rfl rfl ?_
  refine x_cVi (n := 1) S (c_hasNode v) (gGV gC tw186 tw280 tw184 tw185 tw2) rfl (by decide +kernel) 0 rfl rfl rfl rfl (Nat.le_of_ble_eq_true rfl) dX5_branch_5 ⟨by decide, by decide⟩ ⟨Nat.le_of_ble_eq_true rfl, Nat.le_of_ble_eq_true rfl⟩ ?_
  refine x_if_neB (tgt := 13) S dX5_branch_8 (by decide) (fun h1 => ?_) (fun h1 => ?_)
  rotate_left
  · refine x_iconst (v := -1) S dX5_branch_11 rfl ?_
    exact x_retS hret ((ch, nb, M, tch, cu, rch, pa, br, gp, P)) (⟨hA, hM, hN, hal, hch, h0, hsT, hT, hsR, hR, hP⟩) ((if_neg h1).symm) dX5_branch_12
  obtain ⟨j, hj, e, f⟩ := isN_of hn h1
  refine x_iload_n S dX5_branch_13 1 rfl rfl ?_
  refine x_if_ne (tgt := 22) S dX5_branch_14 (by decide) (fun h2 => ?_) (fun h2 => ?_)
  rotate_left
  · refine x_bipush (v := -3) S dX5_branch_17 (by decide) ?_
    refine x_goto (tgt := 31) S dX5_branch_19 (by decide) ?_
    exact x_retS hret ((ch, nb, M, tch, cu, rch, pa, br, gp, P)) (⟨hA, hM, hN, hal, hch, h0, hsT, hT, hsR, hR, hP⟩) ((by unfold sBranch; rw [if_pos h1, if_pos h2])) dX5_branch_31
  have hj0 : 1 ≤ j := Nat.pos_of_ne_zero (fun q => h2 (by rw [e, q]; rfl))
  refine x_aload_n S dX5_branch_22 0 rfl rfl ?_
  refine x_cVaS (n := 0) S (c_freshTree (by omega) hA hM h0 hT hR) (gGV gC tw284 tw281 tw283 ts3 tw1) rfl (by decide +kernel) 25 rfl rfl rfl rfl (Nat.le_of_ble_eq_true rfl) dX5_branch_23 ⟨by decide, by decide⟩ ⟨Nat.le_of_ble_eq_true rfl, Nat.le_of_ble_eq_true rfl⟩ (fun u hu => ?_)
  refine x_get S 20 3 rfl rfl inC3 (by decide) (gC _ tw97) rfl rfl dX5_branch_26 ?_
  refine x_iload_n S dX5_branch_29 1 rfl rfl ?_
  refine x_ialdN S 22 0 (j) rfl rfl e (by omega) (by decide) dX5_branch_30 ?_
  exact x_retS hret ((ch, nb, M, nI ch, u.1, nI ch, u.2.1, u.2.2, gp, P)) (⟨hA, hM, hN, hal, hch, hu.1.zero, sB.self ch, fun _ => hu.1, sB.self ch, fun _ => hu.2, hP⟩) ((by unfold sBranch; rw [if_pos h1, if_neg h2, f, hu.2.2 j hj0 hj])) dX5_branch_31
set_option maxHeartbeats 4000000 in
set_option maxRecDepth 100000 in
theorem p_way {t : Nat} (a b : Int32) (h : HS) (hI : cInv t n am al fr to wt h) : xMetS l yX5_way wX5_way (rD 16) D vwCl (tyC cI cII cP cZ) nwC [.ref (ad 25), .int a, .int b] (cwH ad cI cII cP n am al fr to wt h ++ X) (fun h' : HS => cInv t n am al fr to wt h') (fun h' => cwH ad cI cII cP n am al fr to wt h' ++ X) (fun _ => some (.int (sWay n am fr to wt a b))) := by
  obtain ⟨ch, nb, M, tch, cu, rch, pa, br, gp, P⟩ := h
  obtain ⟨hA, hM, hN, hal, hch, h0, hsT, hT, hsR, hR, hP⟩ := hI
  have hn := hA.1
  refine xMetS_of (cc := cX5_way) (maxL := 3) (ret := (some .int)) (by decide +kernel) rfl (Nat.le_of_ble_eq_true rfl) (fun _ _ => xfi) ?_
  intro E S hnm hret
  show xW E D vwCl 3 0 0 (cw ad cI cII cP n am al ch fr to wt nb M tch cu rch pa br gp P ++ X) [(0, .ref (ad 25)), (1, .int a), (2, .int b)] 0 []
  refine x_aload_n S dX5_way_0 0 rfl rfl ?_
  refine x_get S 25 0 rfl rfl inC5 (by decide) (gC _ tw151) rfl rfl dX5_way_1 ?_
  refine x_iload_n S dX5_way_4 1 rfl rfl ?_
  refine x_iload_n S dX5_way_5 2 rfl rfl ?_
  refine x_cVi (n := 2) S (c_hasPair a b) (gGV gC tw182 tw179 tw180 tw181 tw2) rfl (by decide +kernel) 0 rfl rfl rfl rfl (Nat.le_of_ble_eq_true rfl) dX5_way_6 ⟨by decide, by decide⟩ ⟨Nat.le_of_ble_eq_true rfl, Nat.le_of_ble_eq_true rfl⟩ ?_
  refine x_if_eqB (tgt := 24) S dX5_way_9 (by decide) (fun h1 => ?_) (fun h1 => ?_)
  · refine x_iconst (v := -1) S dX5_way_24 rfl ?_
    exact x_retS hret ((ch, nb, M, tch, cu, rch, pa, br, gp, P)) (⟨hA, hM, hN, hal, hch, h0, hsT, hT, hsR, hR, hP⟩) ((if_neg h1).symm) dX5_way_25
  obtain ⟨i, j, hi, hj, hij, rfl, rfl, f1, f2⟩ := isP2_of hn h1
  refine x_aload_n S dX5_way_12 0 rfl rfl ?_
  refine x_cVaS (n := 0) S (c_freshTree (by omega) hA hM h0 hT hR) (gGV gC tw284 tw281 tw283 ts3 tw1) rfl (by decide +kernel) 25 rfl rfl rfl rfl (Nat.le_of_ble_eq_true rfl) dX5_way_13 ⟨by decide, by decide⟩ ⟨Nat.le_of_ble_eq_true rfl, Nat.le_of_ble_eq_true rfl⟩ (fun u hu => ?_)
  have hpl : ∀ k, k < n → u.2.1 k < n := fun k hk => by
    rw [hu.2.1 k hk]
    rcases Nat.eq_zero_or_pos k with q | q
    · rw [q, kPa_0]; omega
    · have := kPa_lt (kC fr to wt am) n n k q; omega
  have hbl : ∀ k, 1 ≤ k → k < n → u.2.2 k < 2 ^ 31 := fun k h1 hk => by
    rw [hu.2.2 k h1 hk]
    have := hA.cf (kZ (kC fr to wt am) n k (kPa (kC fr to wt am) n n k))
    unfold kBr
    omega
  refine x_iload_n S dX5_way_16 1 rfl rfl ?_
  refine x_iload_n S dX5_way_17 2 rfl rfl ?_
  refine x_cVi (n := 2) S (c_leastBranchBetween hn hi hj hpl hbl) (gGV gC tw306 tw303 tw304 tw305 tw4) rfl (by decide +kernel) 20 rfl rfl rfl rfl (Nat.le_of_ble_eq_true rfl) dX5_way_18 ⟨by decide, by decide⟩ ⟨Nat.le_of_ble_eq_true rfl, Nat.le_of_ble_eq_true rfl⟩ ?_
  refine x_goto (tgt := 25) S dX5_way_21 (by decide) ?_
  exact x_retS hret ((ch, nb, M, nI ch, u.1, nI ch, u.2.1, u.2.2, gp, P)) (⟨hA, hM, hN, hal, hch, hu.1.zero, sB.self ch, fun _ => hu.1, sB.self ch, fun _ => hu.2, hP⟩) ((by unfold sWay; rw [if_pos h1, f1, f2, kWy_congr hu.2.1 hu.2.2 hpl 24 i j 2147483647 hi hj])) dX5_way_25
set_option maxHeartbeats 4000000 in
set_option maxRecDepth 100000 in
theorem p_least {t : Nat}  (h : HS) (hI : cInv t n am al fr to wt h) : xMetS l yX5_least wX5_least (rD 16) D vwCl (tyC cI cII cP cZ) nwC [.ref (ad 25)] (cwH ad cI cII cP n am al fr to wt h ++ X) (fun h' : HS => cInv t n am al fr to wt h') (fun h' => cwH ad cI cII cP n am al fr to wt h' ++ X) (fun _ => some (.int (sLeast n am fr to wt))) := by
  obtain ⟨ch, nb, M, tch, cu, rch, pa, br, gp, P⟩ := h
  obtain ⟨hA, hM, hN, hal, hch, h0, hsT, hT, hsR, hR, hP⟩ := hI
  have hn := hA.1
  refine xMetS_of (cc := cX5_least) (maxL := 1) (ret := (some .int)) (by decide +kernel) rfl (Nat.le_of_ble_eq_true rfl) (fun _ _ => xfi) ?_
  intro E S hnm hret
  show xW E D vwCl 1 0 0 (cw ad cI cII cP n am al ch fr to wt nb M tch cu rch pa br gp P ++ X) [(0, .ref (ad 25))] 0 []
  refine x_aload_n S dX5_least_0 0 rfl rfl ?_
  refine x_get S 25 0 rfl rfl inC5 (by decide) (gC _ tw151) rfl rfl dX5_least_1 ?_
  refine x_cVi (n := 0) S (c_hasSides hn) (gGV gC tw321 tw318 tw319 tw320 tw2) rfl (by decide +kernel) 0 rfl rfl rfl rfl (Nat.le_of_ble_eq_true rfl) dX5_least_4 ⟨by decide, by decide⟩ ⟨Nat.le_of_ble_eq_true rfl, Nat.le_of_ble_eq_true rfl⟩ ?_
  refine x_if_eqB (tgt := 20) S dX5_least_7 (by decide) (fun h1 => ?_) (fun h1 => ?_)
  · refine x_bipush (v := -3) S dX5_least_20 (by decide) ?_
    exact x_retS hret ((ch, nb, M, tch, cu, rch, pa, br, gp, P)) (⟨hA, hM, hN, hal, hch, h0, hsT, hT, hsR, hR, hP⟩) ((if_neg h1).symm) dX5_least_22
  refine x_aload_n S dX5_least_10 0 rfl rfl ?_
  refine x_cVaS (n := 0) S (c_freshTable (by omega) hA hM h0 hT) (gGV gC tw242 tw239 tw241 ts1 tw1) rfl (by decide +kernel) 25 rfl rfl rfl rfl (Nat.le_of_ble_eq_true rfl) dX5_least_11 ⟨by decide, by decide⟩ ⟨Nat.le_of_ble_eq_true rfl, Nat.le_of_ble_eq_true rfl⟩ (fun c hc => ?_)
  refine x_cVi (n := 0) S (c_leastCut h1 (by omega) hA hc (kE_ok h1)) (gGV gC tw325 tw322 tw323 tw324 tw3) rfl (by decide +kernel) 18 rfl rfl rfl rfl (Nat.le_of_ble_eq_true rfl) dX5_least_14 ⟨by decide, by decide⟩ ⟨Nat.le_of_ble_eq_true rfl, Nat.le_of_ble_eq_true rfl⟩ ?_
  refine x_goto (tgt := 22) S dX5_least_17 (by decide) ?_
  exact x_retS hret ((ch, nb, M, nI ch, c, rch, pa, br, gp, P)) (⟨hA, hM, hN, hal, hch, hc.zero, sB.self ch, fun _ => hc, hsR, hR, hP⟩) ((by unfold sLeast; rw [if_pos h1])) dX5_least_22
set_option maxHeartbeats 4000000 in
set_option maxRecDepth 100000 in
theorem p_counted {t : Nat}  (h : HS) (hI : cInv t n am al fr to wt h) : xMetS l yX5_counted wX5_counted (rD 16) D vwCl (tyC cI cII cP cZ) nwC [.ref (ad 25)] (cwH ad cI cII cP n am al fr to wt h ++ X) (fun h' : HS => cInv t n am al fr to wt h') (fun h' => cwH ad cI cII cP n am al fr to wt h' ++ X) (fun _ => some (.int (sCounted n am fr to wt))) := by
  obtain ⟨ch, nb, M, tch, cu, rch, pa, br, gp, P⟩ := h
  obtain ⟨hA, hM, hN, hal, hch, h0, hsT, hT, hsR, hR, hP⟩ := hI
  have hn := hA.1
  refine xMetS_of (cc := cX5_counted) (maxL := 1) (ret := (some .int)) (by decide +kernel) rfl (Nat.le_of_ble_eq_true rfl) (fun _ _ => xfi) ?_
  intro E S hnm hret
  show xW E D vwCl 1 0 0 (cw ad cI cII cP n am al ch fr to wt nb M tch cu rch pa br gp P ++ X) [(0, .ref (ad 25))] 0 []
  refine x_aload_n S dX5_counted_0 0 rfl rfl ?_
  refine x_get S 25 0 rfl rfl inC5 (by decide) (gC _ tw151) rfl rfl dX5_counted_1 ?_
  refine x_cVi (n := 0) S (c_hasSides hn) (gGV gC tw321 tw318 tw319 tw320 tw2) rfl (by decide +kernel) 0 rfl rfl rfl rfl (Nat.le_of_ble_eq_true rfl) dX5_counted_4 ⟨by decide, by decide⟩ ⟨Nat.le_of_ble_eq_true rfl, Nat.le_of_ble_eq_true rfl⟩ ?_
  refine x_if_eqB (tgt := 20) S dX5_counted_7 (by decide) (fun h1 => ?_) (fun h1 => ?_)
  · refine x_iconst (v := 0) S dX5_counted_20 rfl ?_
    exact x_retS hret ((ch, nb, M, tch, cu, rch, pa, br, gp, P)) (⟨hA, hM, hN, hal, hch, h0, hsT, hT, hsR, hR, hP⟩) ((if_neg h1).symm) dX5_counted_21
  refine x_aload_n S dX5_counted_10 0 rfl rfl ?_
  refine x_cVaS (n := 0) S (c_freshTable (by omega) hA hM h0 hT) (gGV gC tw242 tw239 tw241 ts1 tw1) rfl (by decide +kernel) 25 rfl rfl rfl rfl (Nat.le_of_ble_eq_true rfl) dX5_counted_11 ⟨by decide, by decide⟩ ⟨Nat.le_of_ble_eq_true rfl, Nat.le_of_ble_eq_true rfl⟩ (fun c hc => ?_)
  refine x_cVi (n := 0) S (c_countLeastOnes h1 (by omega) hA hc (kE_ok h1)) (gGV gC tw334 tw331 tw332 tw333 tw3) rfl (by decide +kernel) 18 rfl rfl rfl rfl (Nat.le_of_ble_eq_true rfl) dX5_counted_14 ⟨by decide, by decide⟩ ⟨Nat.le_of_ble_eq_true rfl, Nat.le_of_ble_eq_true rfl⟩ ?_
  refine x_goto (tgt := 21) S dX5_counted_17 (by decide) ?_
  exact x_retS hret ((ch, nb, M, nI ch, c, rch, pa, br, gp, P)) (⟨hA, hM, hN, hal, hch, hc.zero, sB.self ch, fun _ => hc, hsR, hR, hP⟩) ((by unfold sCounted; rw [if_pos h1])) dX5_counted_21
set_option maxHeartbeats 4000000 in
set_option maxRecDepth 100000 in
theorem p_every {t : Nat} (k : Int32) (h : HS) (hI : cInv t n am al fr to wt h) : xMetS l yX5_every wX5_every (rD 16) D vwCl (tyC cI cII cP cZ) nwC [.ref (ad 25), .int k] (cwH ad cI cII cP n am al fr to wt h ++ X) (fun h' : HS => cInv t n am al fr to wt h') (fun h' => cwH ad cI cII cP n am al fr to wt h' ++ X) (fun _ => some (.int (sEvery n am fr to wt k))) := by
  obtain ⟨ch, nb, M, tch, cu, rch, pa, br, gp, P⟩ := h
  obtain ⟨hA, hM, hN, hal, hch, h0, hsT, hT, hsR, hR, hP⟩ := hI
  have hn := hA.1
  refine xMetS_of (cc := cX5_every) (maxL := 2) (ret := (some .int)) (by decide +kernel) rfl (Nat.le_of_ble_eq_true rfl) (fun _ _ => xfi) ?_
  intro E S hnm hret
  show xW E D vwCl 2 0 0 (cw ad cI cII cP n am al ch fr to wt nb M tch cu rch pa br gp P ++ X) [(0, .ref (ad 25)), (1, .int k)] 0 []
  refine x_aload_n S dX5_every_0 0 rfl rfl ?_
  refine x_get S 25 0 rfl rfl inC5 (by decide) (gC _ tw151) rfl rfl dX5_every_1 ?_
  refine x_cVi (n := 0) S (c_hasSides hn) (gGV gC tw321 tw318 tw319 tw320 tw2) rfl (by decide +kernel) 0 rfl rfl rfl rfl (Nat.le_of_ble_eq_true rfl) dX5_every_4 ⟨by decide, by decide⟩ ⟨Nat.le_of_ble_eq_true rfl, Nat.le_of_ble_eq_true rfl⟩ ?_
  refine x_if_eqB (tgt := 25) S dX5_every_7 (by decide) (fun h1 => ?_) (fun h1 => ?_)
  · refine x_iconst (v := -1) S dX5_every_25 rfl ?_
    exact x_retS hret ((ch, nb, M, tch, cu, rch, pa, br, gp, P)) (⟨hA, hM, hN, hal, hch, h0, hsT, hT, hsR, hR, hP⟩) ((if_neg (fun q => h1 q.1)).symm) dX5_every_26
  refine x_iload_n S dX5_every_10 1 rfl rfl ?_
  refine x_if_lt (tgt := 25) S dX5_every_11 (by decide) (fun h2 => ?_) (fun h2 => ?_)
  · refine x_iconst (v := -1) S dX5_every_25 rfl ?_
    exact x_retS hret ((ch, nb, M, tch, cu, rch, pa, br, gp, P)) (⟨hA, hM, hN, hal, hch, h0, hsT, hT, hsR, hR, hP⟩) ((if_neg (fun q => Int32.not_lt.mpr q.2 h2)).symm) dX5_every_26
  obtain ⟨κ, hκ, rfl⟩ := pl_of (Int32.not_lt.mp h2)
  refine x_aload_n S dX5_every_14 0 rfl rfl ?_
  refine x_cVaS (n := 0) S (c_freshTable (by omega) hA hM h0 hT) (gGV gC tw242 tw239 tw241 ts1 tw1) rfl (by decide +kernel) 25 rfl rfl rfl rfl (Nat.le_of_ble_eq_true rfl) dX5_every_15 ⟨by decide, by decide⟩ ⟨Nat.le_of_ble_eq_true rfl, Nat.le_of_ble_eq_true rfl⟩ (fun c hc => ?_)
  refine x_iload_n S dX5_every_18 1 rfl rfl ?_
  refine x_cVi (n := 1) S (c_leastOne h1 hκ (by omega) hA hc (kE_ok h1)) (gGV gC tw343 tw340 tw341 tw342 tw3) rfl (by decide +kernel) 18 rfl rfl rfl rfl (Nat.le_of_ble_eq_true rfl) dX5_every_19 ⟨by decide, by decide⟩ ⟨Nat.le_of_ble_eq_true rfl, Nat.le_of_ble_eq_true rfl⟩ ?_
  refine x_goto (tgt := 26) S dX5_every_22 (by decide) ?_
  exact x_retS hret ((ch, nb, M, nI ch, c, rch, pa, br, gp, P)) (⟨hA, hM, hN, hal, hch, hc.zero, sB.self ch, fun _ => hc, hsR, hR, hP⟩) ((by unfold sEvery; rw [if_pos ⟨h1, Int32.not_lt.mp h2⟩, nI_clamp hκ])) dX5_every_26
set_option maxHeartbeats 4000000 in
set_option maxRecDepth 100000 in
theorem p_drawn {t : Nat} (z : Int32) (h : HS) (hI : cInv t n am al fr to wt h) : xMetS l yX5_drawn wX5_drawn (rD 16) D vwCl (tyC cI cII cP cZ) nwC [.ref (ad 25), .int z] (cwH ad cI cII cP n am al fr to wt h ++ X) (fun h' : HS => cInv t n am al fr to wt h') (fun h' => cwH ad cI cII cP n am al fr to wt h' ++ X) (fun _ => some (.int (sDrawn n am fr to wt z))) := by
  obtain ⟨ch, nb, M, tch, cu, rch, pa, br, gp, P⟩ := h
  obtain ⟨hA, hM, hN, hal, hch, h0, hsT, hT, hsR, hR, hP⟩ := hI
  have hn := hA.1
  refine xMetS_of (cc := cX5_drawn) (maxL := 2) (ret := (some .int)) (by decide +kernel) rfl (Nat.le_of_ble_eq_true rfl) (fun _ _ => xfi) ?_
  intro E S hnm hret
  show xW E D vwCl 2 0 0 (cw ad cI cII cP n am al ch fr to wt nb M tch cu rch pa br gp P ++ X) [(0, .ref (ad 25)), (1, .int z)] 0 []
  refine x_aload_n S dX5_drawn_0 0 rfl rfl ?_
  refine x_get S 25 0 rfl rfl inC5 (by decide) (gC _ tw151) rfl rfl dX5_drawn_1 ?_
  refine x_cVi (n := 0) S (c_hasSides hn) (gGV gC tw321 tw318 tw319 tw320 tw2) rfl (by decide +kernel) 0 rfl rfl rfl rfl (Nat.le_of_ble_eq_true rfl) dX5_drawn_4 ⟨by decide, by decide⟩ ⟨Nat.le_of_ble_eq_true rfl, Nat.le_of_ble_eq_true rfl⟩ ?_
  refine x_if_eqB (tgt := 21) S dX5_drawn_7 (by decide) (fun h1 => ?_) (fun h1 => ?_)
  · refine x_bipush (v := -3) S dX5_drawn_21 (by decide) ?_
    exact x_retS hret ((ch, nb, M, tch, cu, rch, pa, br, gp, P)) (⟨hA, hM, hN, hal, hch, h0, hsT, hT, hsR, hR, hP⟩) ((if_neg h1).symm) dX5_drawn_23
  refine x_aload_n S dX5_drawn_10 0 rfl rfl ?_
  refine x_get S 25 3 rfl rfl inC5 (by decide) (gC _ tw154) rfl rfl dX5_drawn_11 ?_
  refine x_iload_n S dX5_drawn_14 1 rfl rfl ?_
  refine x_cViS (n := 1) S (c_drawBy z h1 hA) (gGV gC tw351 tw348 tw349 tw350 tw5) rfl (by decide +kernel) 23 rfl rfl rfl rfl (Nat.le_of_ble_eq_true rfl) dX5_drawn_15 ⟨by decide, by decide⟩ ⟨Nat.le_of_ble_eq_true rfl, Nat.le_of_ble_eq_true rfl⟩ (fun g _ => ?_)
  refine x_goto (tgt := 23) S dX5_drawn_18 (by decide) ?_
  exact x_retS hret ((ch, nb, M, tch, cu, rch, pa, br, g, P)) (⟨hA, hM, hN, hal, hch, h0, hsT, hT, hsR, hR, hP⟩) ((by unfold sDrawn; rw [if_pos h1, dD_congr hA (by omega) (n - 2) z (dI n gp) (dI n (fun _ => 0)) (fun v hv => by unfold dI; rw [if_pos hv, if_pos hv])])) dX5_drawn_23
set_option maxHeartbeats 4000000 in
set_option maxRecDepth 100000 in
theorem p_sparsest {t : Nat}  (h : HS) (hI : cInv t n am al fr to wt h) : xMetS l yX5_sparsest wX5_sparsest (rD 16) D vwCl (tyC cI cII cP cZ) nwC [.ref (ad 25)] (cwH ad cI cII cP n am al fr to wt h ++ X) (fun h' : HS => cInv t n am al fr to wt h') (fun h' => cwH ad cI cII cP n am al fr to wt h' ++ X) (fun _ => some (.int (sSparse n am fr to wt))) := by
  obtain ⟨ch, nb, M, tch, cu, rch, pa, br, gp, P⟩ := h
  obtain ⟨hA, hM, hN, hal, hch, h0, hsT, hT, hsR, hR, hP⟩ := hI
  have hn := hA.1
  refine xMetS_of (cc := cX5_sparsest) (maxL := 1) (ret := (some .int)) (by decide +kernel) rfl (Nat.le_of_ble_eq_true rfl) (fun _ _ => xfi) ?_
  intro E S hnm hret
  show xW E D vwCl 1 0 0 (cw ad cI cII cP n am al ch fr to wt nb M tch cu rch pa br gp P ++ X) [(0, .ref (ad 25))] 0 []
  refine x_aload_n S dX5_sparsest_0 0 rfl rfl ?_
  refine x_get S 25 0 rfl rfl inC5 (by decide) (gC _ tw151) rfl rfl dX5_sparsest_1 ?_
  refine x_cVi (n := 0) S (c_hasSides hn) (gGV gC tw321 tw318 tw319 tw320 tw2) rfl (by decide +kernel) 0 rfl rfl rfl rfl (Nat.le_of_ble_eq_true rfl) dX5_sparsest_4 ⟨by decide, by decide⟩ ⟨Nat.le_of_ble_eq_true rfl, Nat.le_of_ble_eq_true rfl⟩ ?_
  refine x_if_eqB (tgt := 20) S dX5_sparsest_7 (by decide) (fun h1 => ?_) (fun h1 => ?_)
  · refine x_bipush (v := -3) S dX5_sparsest_20 (by decide) ?_
    exact x_retS hret ((ch, nb, M, tch, cu, rch, pa, br, gp, P)) (⟨hA, hM, hN, hal, hch, h0, hsT, hT, hsR, hR, hP⟩) ((if_neg h1).symm) dX5_sparsest_22
  refine x_aload_n S dX5_sparsest_10 0 rfl rfl ?_
  refine x_cVaS (n := 0) S (c_freshTable (by omega) hA hM h0 hT) (gGV gC tw242 tw239 tw241 ts1 tw1) rfl (by decide +kernel) 25 rfl rfl rfl rfl (Nat.le_of_ble_eq_true rfl) dX5_sparsest_11 ⟨by decide, by decide⟩ ⟨Nat.le_of_ble_eq_true rfl, Nat.le_of_ble_eq_true rfl⟩ (fun c hc => ?_)
  refine x_cVi (n := 0) S (c_sparsestSide h1 (by omega) hA hc) (gGV gC tw410 tw407 tw408 tw409 tw3) rfl (by decide +kernel) 18 rfl rfl rfl rfl (Nat.le_of_ble_eq_true rfl) dX5_sparsest_14 ⟨by decide, by decide⟩ ⟨Nat.le_of_ble_eq_true rfl, Nat.le_of_ble_eq_true rfl⟩ ?_
  refine x_goto (tgt := 22) S dX5_sparsest_17 (by decide) ?_
  exact x_retS hret ((ch, nb, M, nI ch, c, rch, pa, br, gp, P)) (⟨hA, hM, hN, hal, hch, hc.zero, sB.self ch, fun _ => hc, hsR, hR, hP⟩) ((by unfold sSparse; rw [if_pos h1])) dX5_sparsest_22
end CT2
end
section
/-! CutTrees: the calls, 2 -/
section CT3
theorem pRef_ok {n : Nat} {k : Int32} (hn : n ≤ 12) (h : ¬ pRef n k < 0) : ∃ j, j < 4 ∧ k = nI (j + 1) ∧ n ≤ 10 ∧ j + 1 ≤ n ∧ k.toNatClampNeg = j + 1 := by
  unfold pRef at h
  by_cases c1 : k < 1 ∨ 4 < k
  · rw [if_pos c1] at h; exact absurd (by decide) h
  · rw [if_neg c1] at h
    by_cases c2 : 10 < n
    · rw [if_pos c2] at h; exact absurd (by decide) h
    · rw [if_neg c2] at h
      by_cases c3 : nI n < k
      · rw [if_pos c3] at h; exact absurd (by decide) h
      · have c4 : 1 ≤ k := Int32.not_lt.mp (fun q => c1 (Or.inl q))
        have c5 : k ≤ 4 := Int32.not_lt.mp (fun q => c1 (Or.inr q))
        obtain ⟨x, hx, rfl⟩ := pl_of (x := k) (Int32.le_trans (by decide) c4)
        have d1 : 1 ≤ x := (nI_leI (a := 1) (by omega) hx).mp c4
        have d2 : x ≤ 4 := (nI_leI (b := 4) hx (by omega)).mp c5
        have d3 : x ≤ n := (nI_leI hx (by omega)).mp (Int32.not_lt.mp c3)
        exact ⟨x - 1, by omega, by rw [show x - 1 + 1 = x by omega], by omega, by omega, by rw [nI_clamp hx]; omega⟩
theorem paOK.of {n am ch : Nat} {fr to wt : Nat → Nat} {P : Nat → Int32 × Nat × (Nat → Nat) × (Nat → Nat)} {M : Nat → Nat → Nat} (hM : mOK am fr to wt M) (h : paOK n am ch fr to wt P) {j : Nat} (hj : j < 4) (hn : n ≤ 10) (hkn : j + 1 ≤ n) : (P j).1 = nI ch → (P j).2.1 = (kPR n (j + 1) M).1 ∧ ∀ u, u < n → (P j).2.2.2 u = (kPR n (j + 1) M).2 u := by
  rw [kPR_congr (M := M) (M' := kM fr to wt am) (fun v u hu hv => hM v u (by omega) (by omega))]
  exact fun q => (h j hj).2 q hn hkn
theorem paOK.put {n am ch : Nat} {fr to wt : Nat → Nat} {P : Nat → Int32 × Nat × (Nat → Nat) × (Nat → Nat)} {M : Nat → Nat → Nat} (hM : mOK am fr to wt M) (h : paOK n am ch fr to wt P) {j : Nat} (hn : n ≤ 10) (s1 s2 : Nat → Nat) (hs : ∀ u, u < n → s2 u = (kPR n (j + 1) M).2 u) : paOK n am ch fr to wt (va_up P j (nI ch, (kPR n (j + 1) M).1, s1, s2)) := by
  intro i hi
  by_cases e : i = j
  · subst e
    rw [va_up_self]
    have ec := kPR_congr (n := n) (k := i + 1) (M := M) (M' := kM fr to wt am) (fun v u hu hv => hM v u (by omega) (by omega))
    refine ⟨sB.self ch, fun _ _ _ => ?_⟩
    rw [ec] at hs ⊢
    exact ⟨rfl, hs⟩
  · rw [va_up_ne _ _ e]
    exact h i hi
theorem kSpr_pos {n s : Nat} (hn : n ≤ 12) (h1 : 1 ≤ kP s) (h2 : kP s < n) : 1 ≤ kSpr n s := by
  unfold kSpr
  exact Nat.mul_pos h1 (by omega)
theorem pop_zero : ∀ (w s : Nat), s < 2 ^ w → pn_pop w s = 0 → s = 0
  | 0, s, h, _ => by simpa using h
  | w + 1, s, h, e => by
    rw [Nat.pow_succ] at h
    have e : pn_pop w (s / 2) + s % 2 = 0 := e
    have := pop_zero w (s / 2) (by omega) (by omega)
    omega
theorem pop_pos (s : Nat) (h : s < 4096) (h2 : 2 ≤ s) : 1 ≤ kP s := Nat.pos_of_ne_zero (fun q => by
  have := pop_zero 12 s h q
  omega)
theorem pop_lt_ev : ∀ n, n < 13 → ∀ s, s < 2 ^ n → s % 2 = 0 → 1 ≤ n → kP s < n := by
  intro n hn s hs he h1
  have h2 : 2 ^ n = 2 * 2 ^ (n - 1) := p2_s h1
  have h3 : pn_pop 12 s = pn_pop 11 (s / 2) + s % 2 := rfl
  have h4 := pop_n 11 (n - 1) (s / 2) (by omega)
  show pn_pop 12 s < n
  omega
theorem kSp_ev (cf sp : Nat → Nat) : ∀ k, kSp cf sp k % 2 = 0
  | 0 => by show 2 % 2 = 0; rfl
  | k + 1 => by
    have ih := kSp_ev cf sp k
    simp only [kSp]
    split <;> omega
variable {l : Launch} {D : va_G} {ad : Nat → Nat} {cI cII cP cZ : ClassId} {n am al ch : Nat} {fr to wt nb : Nat → Nat} {M : Nat → Nat → Nat} {tch : Int32} {cu : Nat → Nat} {rch : Int32} {pa br gp : Nat → Nat} {P : Nat → Int32 × Nat × (Nat → Nat) × (Nat → Nat)} {X : va_W}
set_option maxHeartbeats 4000000 in
set_option maxRecDepth 100000 in
theorem p_parts {t : Nat} (k : Int32) (h : HS) (hI : cInv t n am al fr to wt h) : xMetS l yX5_parts wX5_parts (rD 16) D vwCl (tyC cI cII cP cZ) nwC [.ref (ad 25), .int k] (cwH ad cI cII cP n am al fr to wt h ++ X) (fun h' : HS => cInv t n am al fr to wt h') (fun h' => cwH ad cI cII cP n am al fr to wt h' ++ X) (fun _ => some (.int (sParts n am fr to wt k))) := by
  obtain ⟨ch, nb, M, tch, cu, rch, pa, br, gp, P⟩ := h
  obtain ⟨hA, hM, hN, hal, hch, h0, hsT, hT, hsR, hR, hP⟩ := hI
  have hn := hA.1
  refine xMetS_of (cc := cX5_parts) (maxL := 3) (ret := (some .int)) (by decide +kernel) rfl (Nat.le_of_ble_eq_true rfl) (fun _ _ => xfi) ?_
  intro E S hnm hret
  show xW E D vwCl 3 0 0 (cw ad cI cII cP n am al ch fr to wt nb M tch cu rch pa br gp P ++ X) [(0, .ref (ad 25)), (1, .int k)] 0 []
  refine x_aload_n S dX5_parts_0 0 rfl rfl ?_
  refine x_iload_n S dX5_parts_1 1 rfl rfl ?_
  refine x_cVi (n := 1) S (c_refusalOfParts k hn) (gGV gC tw377 tw374 tw376 ts9 tw1) rfl (by decide +kernel) 25 rfl rfl rfl rfl (Nat.le_of_ble_eq_true rfl) dX5_parts_2 ⟨by decide, by decide⟩ ⟨Nat.le_of_ble_eq_true rfl, Nat.le_of_ble_eq_true rfl⟩ ?_
  refine x_istore_n (lv' := [(2, .int _), (0, .ref _), (1, .int _)]) S dX5_parts_5 rfl (by decide) rfl ?_
  refine x_iload_n S dX5_parts_6 0 rfl rfl ?_
  refine x_if_ge (tgt := 14) S dX5_parts_7 (by decide) (fun h1 => ?_) (fun h1 => ?_)
  rotate_left
  · refine x_iload_n S dX5_parts_10 0 rfl rfl ?_
    refine x_goto (tgt := 22) S dX5_parts_11 (by decide) ?_
    exact x_retS hret ((ch, nb, M, tch, cu, rch, pa, br, gp, P)) (⟨hA, hM, hN, hal, hch, h0, hsT, hT, hsR, hR, hP⟩) ((if_pos (Int32.not_le.mp h1)).symm) dX5_parts_22
  obtain ⟨j, hj, e, hn10, hkn, f⟩ := pRef_ok hn (Int32.not_lt.mpr h1)
  subst e
  have ec := kPR_congr (n := n) (k := j + 1) (M := M) (M' := kM fr to wt am) (fun v u hu hv => hM v u (by omega) (by omega))
  refine x_aload_n S dX5_parts_14 1 rfl rfl ?_
  refine x_iload_n S dX5_parts_15 2 rfl rfl ?_
  refine x_cVaS (n := 1) S (c_freshParting hj hn10 hkn (mOK.bd hA hM) (paOK.of hM hP hj hn10 hkn)) (gGV gC tw381 tw378 tw380 ts10 tw1) rfl (by decide +kernel) 25 rfl rfl rfl rfl (Nat.le_of_ble_eq_true rfl) dX5_parts_16 ⟨by decide, by decide⟩ ⟨Nat.le_of_ble_eq_true rfl, Nat.le_of_ble_eq_true rfl⟩ (fun s hs => ?_)
  refine x_get S (27 + 3 * j) 4 (cw_p0 hj) rfl inC4 (by decide) (gC _ tw136) rfl rfl dX5_parts_19 ?_
  exact x_retS hret ((ch, nb, M, tch, cu, rch, pa, br, gp, va_up P j (nI ch, (kPR n (j + 1) M).1, s.1, s.2))) (⟨hA, hM, hN, hal, hch, h0, hsT, hT, hsR, hR, paOK.put hM hP hn10 s.1 s.2 hs⟩) ((by unfold sParts; rw [if_neg (Int32.not_lt.mpr h1), f, va_up_self, ec])) dX5_parts_22
set_option maxHeartbeats 4000000 in
set_option maxRecDepth 100000 in
theorem p_partOf {t : Nat} (k v : Int32) (h : HS) (hI : cInv t n am al fr to wt h) : xMetS l yX5_partOf wX5_partOf (rD 16) D vwCl (tyC cI cII cP cZ) nwC [.ref (ad 25), .int k, .int v] (cwH ad cI cII cP n am al fr to wt h ++ X) (fun h' : HS => cInv t n am al fr to wt h') (fun h' => cwH ad cI cII cP n am al fr to wt h' ++ X) (fun _ => some (.int (sPartOf n am fr to wt k v))) := by
  obtain ⟨ch, nb, M, tch, cu, rch, pa, br, gp, P⟩ := h
  obtain ⟨hA, hM, hN, hal, hch, h0, hsT, hT, hsR, hR, hP⟩ := hI
  have hn := hA.1
  refine xMetS_of (cc := cX5_partOf) (maxL := 4) (ret := (some .int)) (by decide +kernel) rfl (Nat.le_of_ble_eq_true rfl) (fun _ _ => xfi) ?_
  intro E S hnm hret
  show xW E D vwCl 4 0 0 (cw ad cI cII cP n am al ch fr to wt nb M tch cu rch pa br gp P ++ X) [(0, .ref (ad 25)), (1, .int k), (2, .int v)] 0 []
  refine x_aload_n S dX5_partOf_0 0 rfl rfl ?_
  refine x_get S 25 0 rfl rfl inC5 (by decide) (gC _ tw151) rfl rfl dX5_partOf_1 ?_
  refine x_iload_n S dX5_partOf_4 2 rfl rfl ?_
  refine x_cVi (n := 1) S (c_hasNode v) (gGV gC tw186 tw280 tw184 tw185 tw2) rfl (by decide +kernel) 0 rfl rfl rfl rfl (Nat.le_of_ble_eq_true rfl) dX5_partOf_5 ⟨by decide, by decide⟩ ⟨Nat.le_of_ble_eq_true rfl, Nat.le_of_ble_eq_true rfl⟩ ?_
  refine x_if_neB (tgt := 13) S dX5_partOf_8 (by decide) (fun h3 => ?_) (fun h3 => ?_)
  rotate_left
  · refine x_iconst (v := -1) S dX5_partOf_11 rfl ?_
    exact x_retS hret ((ch, nb, M, tch, cu, rch, pa, br, gp, P)) (⟨hA, hM, hN, hal, hch, h0, hsT, hT, hsR, hR, hP⟩) ((if_neg h3).symm) dX5_partOf_12
  obtain ⟨x, hx, ex, fx⟩ := isN_of hn h3
  refine x_aload_n S dX5_partOf_13 0 rfl rfl ?_
  refine x_iload_n S dX5_partOf_14 1 rfl rfl ?_
  refine x_cVi (n := 1) S (c_refusalOfParts k hn) (gGV gC tw377 tw374 tw376 ts9 tw1) rfl (by decide +kernel) 25 rfl rfl rfl rfl (Nat.le_of_ble_eq_true rfl) dX5_partOf_15 ⟨by decide, by decide⟩ ⟨Nat.le_of_ble_eq_true rfl, Nat.le_of_ble_eq_true rfl⟩ ?_
  refine x_istore_n (lv' := [(3, .int _), (0, .ref _), (1, .int _), (2, .int _)]) S dX5_partOf_18 rfl (by decide) rfl ?_
  refine x_iload_n S dX5_partOf_19 0 rfl rfl ?_
  refine x_if_ge (tgt := 27) S dX5_partOf_20 (by decide) (fun h1 => ?_) (fun h1 => ?_)
  rotate_left
  · refine x_iload_n S dX5_partOf_23 0 rfl rfl ?_
    refine x_goto (tgt := 37) S dX5_partOf_24 (by decide) ?_
    exact x_retS hret ((ch, nb, M, tch, cu, rch, pa, br, gp, P)) (⟨hA, hM, hN, hal, hch, h0, hsT, hT, hsR, hR, hP⟩) ((by unfold sPartOf; rw [if_pos h3, if_pos (Int32.not_le.mp h1)])) dX5_partOf_37
  obtain ⟨j, hj, e, hn10, hkn, f⟩ := pRef_ok hn (Int32.not_lt.mpr h1)
  subst e
  have ec := kPR_congr (n := n) (k := j + 1) (M := M) (M' := kM fr to wt am) (fun v u hu hv => hM v u (by omega) (by omega))
  refine x_aload_n S dX5_partOf_27 1 rfl rfl ?_
  refine x_iload_n S dX5_partOf_28 2 rfl rfl ?_
  refine x_cVaS (n := 1) S (c_freshParting hj hn10 hkn (mOK.bd hA hM) (paOK.of hM hP hj hn10 hkn)) (gGV gC tw381 tw378 tw380 ts10 tw1) rfl (by decide +kernel) 25 rfl rfl rfl rfl (Nat.le_of_ble_eq_true rfl) dX5_partOf_29 ⟨by decide, by decide⟩ ⟨Nat.le_of_ble_eq_true rfl, Nat.le_of_ble_eq_true rfl⟩ (fun s hs => ?_)
  refine x_get S (27 + 3 * j) 3 (cw_p0 hj) rfl inC4 (by decide) (gC _ tw134) rfl rfl dX5_partOf_32 ?_
  refine x_iload_n S dX5_partOf_35 3 rfl rfl ?_
  refine x_ialdN S (29 + 3 * j) 0 (x) (cw_p2 hj) rfl ex (by omega) (by decide) dX5_partOf_36 ?_
  exact x_retS hret ((ch, nb, M, tch, cu, rch, pa, br, gp, va_up P j (nI ch, (kPR n (j + 1) M).1, s.1, s.2))) (⟨hA, hM, hN, hal, hch, h0, hsT, hT, hsR, hR, paOK.put hM hP hn10 s.1 s.2 hs⟩) ((by unfold sPartOf; rw [if_pos h3, if_neg (Int32.not_lt.mpr h1), f, fx, va_up_self, hs x hx, ec])) dX5_partOf_37
set_option maxHeartbeats 4000000 in
set_option maxRecDepth 100000 in
theorem p_share {t : Nat} (q : Int32) (h : HS) (hI : cInv t n am al fr to wt h) : xMetS l yX5_share wX5_share (rD 16) D vwCl (tyC cI cII cP cZ) nwC [.ref (ad 25), .int q] (cwH ad cI cII cP n am al fr to wt h ++ X) (fun h' : HS => cInv t n am al fr to wt h') (fun h' => cwH ad cI cII cP n am al fr to wt h' ++ X) (fun _ => some (.int (sShare n am fr to wt q))) := by
  obtain ⟨ch, nb, M, tch, cu, rch, pa, br, gp, P⟩ := h
  obtain ⟨hA, hM, hN, hal, hch, h0, hsT, hT, hsR, hR, hP⟩ := hI
  have hn := hA.1
  refine xMetS_of (cc := cX5_share) (maxL := 6) (ret := (some .int)) (by decide +kernel) rfl (Nat.le_of_ble_eq_true rfl) (fun _ _ => xfi) ?_
  intro E S hnm hret
  show xW E D vwCl 6 0 0 (cw ad cI cII cP n am al ch fr to wt nb M tch cu rch pa br gp P ++ X) [(0, .ref (ad 25)), (1, .int q)] 0 []
  refine x_iload_n S dX5_share_0 1 rfl rfl ?_
  refine x_if_eq (tgt := 12) S dX5_share_1 (by decide) (fun h1 => ?_) (fun h1 => ?_)
  rotate_left
  · refine x_iload_n S dX5_share_4 1 rfl rfl ?_
    refine x_iconst (v := 1) S dX5_share_5 rfl ?_
    refine x_icmp_eq (tgt := 12) S dX5_share_6 (by decide) (fun h2 => ?_) (fun h2 => ?_)
    rotate_left
    · refine x_bipush (v := -2) S dX5_share_9 (by decide) ?_
      exact x_retS hret ((ch, nb, M, tch, cu, rch, pa, br, gp, P)) (⟨hA, hM, hN, hal, hch, h0, hsT, hT, hsR, hR, hP⟩) ((if_pos ⟨h1, h2⟩).symm) dX5_share_11
    have hq0 : ¬ q = 0 := h1
    have hqq : ¬ (q ≠ 0 ∧ q ≠ 1) := fun w => w.2 h2
    refine x_aload_n S dX5_share_12 0 rfl rfl ?_
    refine x_get S 25 0 rfl rfl inC5 (by decide) (gC _ tw151) rfl rfl dX5_share_13 ?_
    refine x_cVi (n := 0) S (c_hasSides hn) (gGV gC tw321 tw318 tw319 tw320 tw2) rfl (by decide +kernel) 0 rfl rfl rfl rfl (Nat.le_of_ble_eq_true rfl) dX5_share_16 ⟨by decide, by decide⟩ ⟨Nat.le_of_ble_eq_true rfl, Nat.le_of_ble_eq_true rfl⟩ ?_
    refine x_if_neB (tgt := 25) S dX5_share_19 (by decide) (fun h3 => ?_) (fun h3 => ?_)
    rotate_left
    · refine x_bipush (v := -3) S dX5_share_22 (by decide) ?_
      exact x_retS hret ((ch, nb, M, tch, cu, rch, pa, br, gp, P)) (⟨hA, hM, hN, hal, hch, h0, hsT, hT, hsR, hR, hP⟩) ((by unfold sShare; rw [if_neg hqq, if_neg h3])) dX5_share_24
    refine x_aload_n S dX5_share_25 0 rfl rfl ?_
    refine x_cVaS (n := 0) S (c_freshTable (by omega) hA hM h0 hT) (gGV gC tw242 tw239 tw241 ts1 tw1) rfl (by decide +kernel) 25 rfl rfl rfl rfl (Nat.le_of_ble_eq_true rfl) dX5_share_26 ⟨by decide, by decide⟩ ⟨Nat.le_of_ble_eq_true rfl, Nat.le_of_ble_eq_true rfl⟩ (fun c hc => ?_)
    refine x_cVi (n := 0) S (c_sparsestSide h3 (by omega) hA hc) (gGV gC tw410 tw407 tw408 tw409 tw3) rfl (by decide +kernel) 18 rfl rfl rfl rfl (Nat.le_of_ble_eq_true rfl) dX5_share_29 ⟨by decide, by decide⟩ ⟨Nat.le_of_ble_eq_true rfl, Nat.le_of_ble_eq_true rfl⟩ ?_
    obtain ⟨s, es⟩ : ∃ s, s = kSp (kC fr to wt am) (kSpr n) (2 ^ (n - 1) - 2) := ⟨_, rfl⟩
    rw [← es]
    have hp := p2_s (show 1 ≤ n by omega)
    have hp12 := pl_pow12 hn
    have hp2 : 2 ≤ 2 ^ (n - 1) := by have := Nat.pow_le_pow_right (n := 2) (by omega) (show 1 ≤ n - 1 by omega); omega
    have hsl := kSp_le (kC fr to wt am) (kSpr n) (2 ^ (n - 1) - 2)
    rw [← es] at hsl
    have hse := kSp_ev (kC fr to wt am) (kSpr n) (2 ^ (n - 1) - 2)
    rw [← es] at hse
    have hpn : kP s ≤ n := pop_n 12 n s (by omega)
    have hsp : 1 ≤ kSpr n s := kSpr_pos hn (pop_pos s (by omega) hsl.2) (pop_lt_ev n (by omega) s (by omega) hse (by omega))
    have hsb := kSpr_le (s := s) hn
    have hcb := hA.cf s
    refine x_istore_n (lv' := [(2, .int _), (0, .ref _), (1, .int _)]) S dX5_share_32 rfl (by decide) rfl ?_
    refine x_aload_n S dX5_share_33 1 rfl rfl ?_
    refine x_get S 25 1 rfl rfl inC5 (by decide) (gC _ tw152) rfl rfl dX5_share_34 ?_
    refine x_iload_n S dX5_share_37 0 rfl rfl ?_
    refine x_cVi (n := 1) S (c_cutAt (by omega) hA hc (by omega)) (gGV gC tw267 tw425 tw265 tw266 tw3) rfl (by decide +kernel) 18 rfl rfl rfl rfl (Nat.le_of_ble_eq_true rfl) dX5_share_38 ⟨by decide, by decide⟩ ⟨Nat.le_of_ble_eq_true rfl, Nat.le_of_ble_eq_true rfl⟩ ?_
    refine x_istore_n (lv' := [(3, .int _), (2, .int _), (0, .ref _), (1, .int _)]) S dX5_share_41 rfl (by decide) rfl ?_
    refine x_aload_n S dX5_share_42 2 rfl rfl ?_
    refine x_get S 25 0 rfl rfl inC5 (by decide) (gC _ tw151) rfl rfl dX5_share_43 ?_
    refine x_iload_n S dX5_share_46 1 rfl rfl ?_
    refine x_cVi (n := 1) S (c_spread hn (by omega) hpn) (gGV gC tw414 tw426 tw412 tw413 tw2) rfl (by decide +kernel) 0 rfl rfl rfl rfl (Nat.le_of_ble_eq_true rfl) dX5_share_47 ⟨by decide, by decide⟩ ⟨Nat.le_of_ble_eq_true rfl, Nat.le_of_ble_eq_true rfl⟩ ?_
    refine x_top (nI (kSpr n s)) rfl ?_
    refine x_istore (lv' := [(4, .int _), (3, .int _), (2, .int _), (0, .ref _), (1, .int _)]) S dX5_share_50 (by decide) rfl ?_
    refine x_iload_n S dX5_share_52 1 rfl rfl ?_
    refine x_iload S dX5_share_53 0 rfl ?_
    have hg : 0 < Nat.gcd (kC fr to wt am s) (kSpr n s) := Nat.gcd_pos_of_pos_right _ hsp
    have hgl : Nat.gcd (kC fr to wt am s) (kSpr n s) ≤ kSpr n s := Nat.le_of_dvd hsp (Nat.gcd_dvd_right _ _)
    refine x_cSi (n := 2) S (c_greatestDivisor (b := kSpr n s) (by omega) (by omega) hsp) (gGS gC tw429 tw427 tw428 tw1) rfl (by decide +kernel) rfl rfl (Nat.le_of_ble_eq_true rfl) dX5_share_55 ⟨by decide, by decide⟩ ⟨Nat.le_of_ble_eq_true rfl, Nat.le_of_ble_eq_true rfl⟩ ?_
    refine x_istore (lv' := [(5, .int _), (4, .int _), (3, .int _), (2, .int _), (0, .ref _), (1, .int _)]) S dX5_share_58 (by decide) rfl ?_
    refine x_iload_n S dX5_share_60 5 rfl rfl ?_
    refine x_if_ne (tgt := 68) S dX5_share_61 (by decide) (fun h4 => ?_) (fun h4 => ?_)
    rotate_left
    · exact absurd h4 hq0
    refine x_iload S dX5_share_68 1 rfl ?_
    refine x_iload S dX5_share_70 0 rfl ?_
    refine x_idiv S dX5_share_72 (nI_ne0 hg (by omega)) ?_
    exact x_retS hret ((ch, nb, M, nI ch, c, rch, pa, br, gp, P)) (⟨hA, hM, hN, hal, hch, hc.zero, sB.self ch, fun _ => hc, hsR, hR, hP⟩) ((by unfold sShare; rw [if_neg hqq, if_pos h3, if_neg hq0, ← es, pk_div (by omega) hg (by omega)])) dX5_share_73
  have hqq : ¬ (q ≠ 0 ∧ q ≠ 1) := fun w => w.1 h1
  refine x_aload_n S dX5_share_12 0 rfl rfl ?_
  refine x_get S 25 0 rfl rfl inC5 (by decide) (gC _ tw151) rfl rfl dX5_share_13 ?_
  refine x_cVi (n := 0) S (c_hasSides hn) (gGV gC tw321 tw318 tw319 tw320 tw2) rfl (by decide +kernel) 0 rfl rfl rfl rfl (Nat.le_of_ble_eq_true rfl) dX5_share_16 ⟨by decide, by decide⟩ ⟨Nat.le_of_ble_eq_true rfl, Nat.le_of_ble_eq_true rfl⟩ ?_
  refine x_if_neB (tgt := 25) S dX5_share_19 (by decide) (fun h3 => ?_) (fun h3 => ?_)
  rotate_left
  · refine x_bipush (v := -3) S dX5_share_22 (by decide) ?_
    exact x_retS hret ((ch, nb, M, tch, cu, rch, pa, br, gp, P)) (⟨hA, hM, hN, hal, hch, h0, hsT, hT, hsR, hR, hP⟩) ((by unfold sShare; rw [if_neg hqq, if_neg h3])) dX5_share_24
  refine x_aload_n S dX5_share_25 0 rfl rfl ?_
  refine x_cVaS (n := 0) S (c_freshTable (by omega) hA hM h0 hT) (gGV gC tw242 tw239 tw241 ts1 tw1) rfl (by decide +kernel) 25 rfl rfl rfl rfl (Nat.le_of_ble_eq_true rfl) dX5_share_26 ⟨by decide, by decide⟩ ⟨Nat.le_of_ble_eq_true rfl, Nat.le_of_ble_eq_true rfl⟩ (fun c hc => ?_)
  refine x_cVi (n := 0) S (c_sparsestSide h3 (by omega) hA hc) (gGV gC tw410 tw407 tw408 tw409 tw3) rfl (by decide +kernel) 18 rfl rfl rfl rfl (Nat.le_of_ble_eq_true rfl) dX5_share_29 ⟨by decide, by decide⟩ ⟨Nat.le_of_ble_eq_true rfl, Nat.le_of_ble_eq_true rfl⟩ ?_
  obtain ⟨s, es⟩ : ∃ s, s = kSp (kC fr to wt am) (kSpr n) (2 ^ (n - 1) - 2) := ⟨_, rfl⟩
  rw [← es]
  have hp := p2_s (show 1 ≤ n by omega)
  have hp12 := pl_pow12 hn
  have hp2 : 2 ≤ 2 ^ (n - 1) := by have := Nat.pow_le_pow_right (n := 2) (by omega) (show 1 ≤ n - 1 by omega); omega
  have hsl := kSp_le (kC fr to wt am) (kSpr n) (2 ^ (n - 1) - 2)
  rw [← es] at hsl
  have hse := kSp_ev (kC fr to wt am) (kSpr n) (2 ^ (n - 1) - 2)
  rw [← es] at hse
  have hpn : kP s ≤ n := pop_n 12 n s (by omega)
  have hsp : 1 ≤ kSpr n s := kSpr_pos hn (pop_pos s (by omega) hsl.2) (pop_lt_ev n (by omega) s (by omega) hse (by omega))
  have hsb := kSpr_le (s := s) hn
  have hcb := hA.cf s
  refine x_istore_n (lv' := [(2, .int _), (0, .ref _), (1, .int _)]) S dX5_share_32 rfl (by decide) rfl ?_
  refine x_aload_n S dX5_share_33 1 rfl rfl ?_
  refine x_get S 25 1 rfl rfl inC5 (by decide) (gC _ tw152) rfl rfl dX5_share_34 ?_
  refine x_iload_n S dX5_share_37 0 rfl rfl ?_
  refine x_cVi (n := 1) S (c_cutAt (by omega) hA hc (by omega)) (gGV gC tw267 tw425 tw265 tw266 tw3) rfl (by decide +kernel) 18 rfl rfl rfl rfl (Nat.le_of_ble_eq_true rfl) dX5_share_38 ⟨by decide, by decide⟩ ⟨Nat.le_of_ble_eq_true rfl, Nat.le_of_ble_eq_true rfl⟩ ?_
  refine x_istore_n (lv' := [(3, .int _), (2, .int _), (0, .ref _), (1, .int _)]) S dX5_share_41 rfl (by decide) rfl ?_
  refine x_aload_n S dX5_share_42 2 rfl rfl ?_
  refine x_get S 25 0 rfl rfl inC5 (by decide) (gC _ tw151) rfl rfl dX5_share_43 ?_
  refine x_iload_n S dX5_share_46 1 rfl rfl ?_
  refine x_cVi (n := 1) S (c_spread hn (by omega) hpn) (gGV gC tw414 tw426 tw412 tw413 tw2) rfl (by decide +kernel) 0 rfl rfl rfl rfl (Nat.le_of_ble_eq_true rfl) dX5_share_47 ⟨by decide, by decide⟩ ⟨Nat.le_of_ble_eq_true rfl, Nat.le_of_ble_eq_true rfl⟩ ?_
  refine x_top (nI (kSpr n s)) rfl ?_
  refine x_istore (lv' := [(4, .int _), (3, .int _), (2, .int _), (0, .ref _), (1, .int _)]) S dX5_share_50 (by decide) rfl ?_
  refine x_iload_n S dX5_share_52 1 rfl rfl ?_
  refine x_iload S dX5_share_53 0 rfl ?_
  have hg : 0 < Nat.gcd (kC fr to wt am s) (kSpr n s) := Nat.gcd_pos_of_pos_right _ hsp
  have hgl : Nat.gcd (kC fr to wt am s) (kSpr n s) ≤ kSpr n s := Nat.le_of_dvd hsp (Nat.gcd_dvd_right _ _)
  refine x_cSi (n := 2) S (c_greatestDivisor (b := kSpr n s) (by omega) (by omega) hsp) (gGS gC tw429 tw427 tw428 tw1) rfl (by decide +kernel) rfl rfl (Nat.le_of_ble_eq_true rfl) dX5_share_55 ⟨by decide, by decide⟩ ⟨Nat.le_of_ble_eq_true rfl, Nat.le_of_ble_eq_true rfl⟩ ?_
  refine x_istore (lv' := [(5, .int _), (4, .int _), (3, .int _), (2, .int _), (0, .ref _), (1, .int _)]) S dX5_share_58 (by decide) rfl ?_
  refine x_iload_n S dX5_share_60 5 rfl rfl ?_
  refine x_if_ne (tgt := 68) S dX5_share_61 (by decide) (fun h4 => ?_) (fun h4 => ?_)
  · exact absurd h1 h4
  refine x_iload_n S dX5_share_64 2 rfl rfl ?_
  refine x_goto (tgt := 70) S dX5_share_65 (by decide) ?_
  refine x_iload S dX5_share_70 0 rfl ?_
  refine x_idiv S dX5_share_72 (nI_ne0 hg (by omega)) ?_
  exact x_retS hret ((ch, nb, M, nI ch, c, rch, pa, br, gp, P)) (⟨hA, hM, hN, hal, hch, hc.zero, sB.self ch, fun _ => hc, hsR, hR, hP⟩) ((by unfold sShare; rw [if_neg hqq, if_pos h3, if_pos h1, ← es, pk_div (by omega) hg (by omega)])) dX5_share_73
set_option maxHeartbeats 4000000 in
set_option maxRecDepth 100000 in
theorem p_barSet {t : Nat} (a b : Int32) (h : HS) (hI : cInv t n am al fr to wt h) : xMetS l yX5_barSet wX5_barSet (rD 16) D vwCl (tyC cI cII cP cZ) nwC [.ref (ad 25), .int a, .int b] (cwH ad cI cII cP n am al fr to wt h ++ X) (fun h' : HS => cInv t n am al fr to wt h') (fun h' => cwH ad cI cII cP n am al fr to wt h' ++ X) (fun _ => some (.int (sBarSet n am fr to wt a b))) := by
  obtain ⟨ch, nb, M, tch, cu, rch, pa, br, gp, P⟩ := h
  obtain ⟨hA, hM, hN, hal, hch, h0, hsT, hT, hsR, hR, hP⟩ := hI
  have hn := hA.1
  refine xMetS_of (cc := cX5_barSet) (maxL := 3) (ret := (some .int)) (by decide +kernel) rfl (Nat.le_of_ble_eq_true rfl) (fun _ _ => xfi) ?_
  intro E S hnm hret
  show xW E D vwCl 3 0 0 (cw ad cI cII cP n am al ch fr to wt nb M tch cu rch pa br gp P ++ X) [(0, .ref (ad 25)), (1, .int a), (2, .int b)] 0 []
  refine x_aload_n S dX5_barSet_0 0 rfl rfl ?_
  refine x_get S 25 0 rfl rfl inC5 (by decide) (gC _ tw151) rfl rfl dX5_barSet_1 ?_
  refine x_iload_n S dX5_barSet_4 1 rfl rfl ?_
  refine x_iload_n S dX5_barSet_5 2 rfl rfl ?_
  refine x_cVi (n := 2) S (c_hasPair a b) (gGV gC tw182 tw179 tw180 tw181 tw2) rfl (by decide +kernel) 0 rfl rfl rfl rfl (Nat.le_of_ble_eq_true rfl) dX5_barSet_6 ⟨by decide, by decide⟩ ⟨Nat.le_of_ble_eq_true rfl, Nat.le_of_ble_eq_true rfl⟩ ?_
  refine x_if_neB (tgt := 14) S dX5_barSet_9 (by decide) (fun h1 => ?_) (fun h1 => ?_)
  rotate_left
  · refine x_iconst (v := -1) S dX5_barSet_12 rfl ?_
    exact x_retS hret ((ch, nb, M, tch, cu, rch, pa, br, gp, P)) (⟨hA, hM, hN, hal, hch, h0, hsT, hT, hsR, hR, hP⟩) ((if_neg h1).symm) dX5_barSet_13
  obtain ⟨i, j, hi, hj, hij, rfl, rfl, f1, f2⟩ := isP2_of hn h1
  have hbd : M i j ≤ 50000 := mOK.bd hA hM i j (by omega) (by omega)
  refine x_aload_n S dX5_barSet_14 0 rfl rfl ?_
  refine x_get S 25 0 rfl rfl inC5 (by decide) (gC _ tw151) rfl rfl dX5_barSet_15 ?_
  refine x_iload_n S dX5_barSet_18 1 rfl rfl ?_
  refine x_iload_n S dX5_barSet_19 2 rfl rfl ?_
  refine x_cVi (n := 2) S (c_areJoined (by omega) (by omega) (by omega)) (gGV gC tw198 tw438 tw196 tw197 tw2) rfl (by decide +kernel) 0 rfl rfl rfl rfl (Nat.le_of_ble_eq_true rfl) dX5_barSet_20 ⟨by decide, by decide⟩ ⟨Nat.le_of_ble_eq_true rfl, Nat.le_of_ble_eq_true rfl⟩ ?_
  have em : M i j = kM fr to wt am i j := hM i j (by omega) (by omega)
  refine x_if_eqB (tgt := 31) S dX5_barSet_23 (by decide) (fun h2 => ?_) (fun h2 => ?_)
  rotate_left
  · refine x_bipush (v := -3) S dX5_barSet_26 (by decide) ?_
    refine x_goto (tgt := 40) S dX5_barSet_28 (by decide) ?_
    exact x_retS hret ((ch, nb, M, tch, cu, rch, pa, br, gp, P)) (⟨hA, hM, hN, hal, hch, h0, hsT, hT, hsR, hR, hP⟩) ((by unfold sBarSet; rw [if_pos h1, f1, f2, if_pos (by rw [← em]; exact h2)])) dX5_barSet_40
  refine x_aload_n S dX5_barSet_31 0 rfl rfl ?_
  refine x_get S 25 0 rfl rfl inC5 (by decide) (gC _ tw151) rfl rfl dX5_barSet_32 ?_
  refine x_iload_n S dX5_barSet_35 1 rfl rfl ?_
  refine x_iload_n S dX5_barSet_36 2 rfl rfl ?_
  refine x_cVi (n := 2) S (c_fewestBars hn hi hj hij) (gGV gC tw442 tw439 tw440 tw441 tw2) rfl (by decide +kernel) 0 rfl rfl rfl rfl (Nat.le_of_ble_eq_true rfl) dX5_barSet_37 ⟨by decide, by decide⟩ ⟨Nat.le_of_ble_eq_true rfl, Nat.le_of_ble_eq_true rfl⟩ ?_
  exact x_retS hret ((ch, nb, M, tch, cu, rch, pa, br, gp, P)) (⟨hA, hM, hN, hal, hch, h0, hsT, hT, hsR, hR, hP⟩) ((by unfold sBarSet; rw [if_pos h1, f1, f2, if_neg (by rw [← em]; exact h2), kFB_congr (fun v hv => hN v (by omega))])) dX5_barSet_40
set_option maxHeartbeats 4000000 in
set_option maxRecDepth 100000 in
theorem p_barSet15 {t : Nat} (a b : Int32) (h : HS) (hI : cInv t n am al fr to wt h) : xMetS l yX5_barSet wX5_barSet (rD 15) D vwCl (tyC cI cII cP cZ) nwC [.ref (ad 25), .int a, .int b] (cwH ad cI cII cP n am al fr to wt h ++ X) (fun h' : HS => cInv t n am al fr to wt h') (fun h' => cwH ad cI cII cP n am al fr to wt h' ++ X) (fun _ => some (.int (sBarSet n am fr to wt a b))) := by
  obtain ⟨ch, nb, M, tch, cu, rch, pa, br, gp, P⟩ := h
  obtain ⟨hA, hM, hN, hal, hch, h0, hsT, hT, hsR, hR, hP⟩ := hI
  have hn := hA.1
  refine xMetS_of (cc := cX5_barSet) (maxL := 3) (ret := (some .int)) (by decide +kernel) rfl (Nat.le_of_ble_eq_true rfl) (fun _ _ => xfi) ?_
  intro E S hnm hret
  show xW E D vwCl 3 0 0 (cw ad cI cII cP n am al ch fr to wt nb M tch cu rch pa br gp P ++ X) [(0, .ref (ad 25)), (1, .int a), (2, .int b)] 0 []
  refine x_aload_n S dX5_barSet_0 0 rfl rfl ?_
  refine x_get S 25 0 rfl rfl inC5 (by decide) (gC _ tw151) rfl rfl dX5_barSet_1 ?_
  refine x_iload_n S dX5_barSet_4 1 rfl rfl ?_
  refine x_iload_n S dX5_barSet_5 2 rfl rfl ?_
  refine x_cVi (n := 2) S (c_hasPair a b) (gGV gC tw182 tw179 tw180 tw181 tw2) rfl (by decide +kernel) 0 rfl rfl rfl rfl (Nat.le_of_ble_eq_true rfl) dX5_barSet_6 ⟨by decide, by decide⟩ ⟨Nat.le_of_ble_eq_true rfl, Nat.le_of_ble_eq_true rfl⟩ ?_
  refine x_if_neB (tgt := 14) S dX5_barSet_9 (by decide) (fun h1 => ?_) (fun h1 => ?_)
  rotate_left
  · refine x_iconst (v := -1) S dX5_barSet_12 rfl ?_
    exact x_retS hret ((ch, nb, M, tch, cu, rch, pa, br, gp, P)) (⟨hA, hM, hN, hal, hch, h0, hsT, hT, hsR, hR, hP⟩) ((if_neg h1).symm) dX5_barSet_13
  obtain ⟨i, j, hi, hj, hij, rfl, rfl, f1, f2⟩ := isP2_of hn h1
  have hbd : M i j ≤ 50000 := mOK.bd hA hM i j (by omega) (by omega)
  refine x_aload_n S dX5_barSet_14 0 rfl rfl ?_
  refine x_get S 25 0 rfl rfl inC5 (by decide) (gC _ tw151) rfl rfl dX5_barSet_15 ?_
  refine x_iload_n S dX5_barSet_18 1 rfl rfl ?_
  refine x_iload_n S dX5_barSet_19 2 rfl rfl ?_
  refine x_cVi (n := 2) S (c_areJoined (by omega) (by omega) (by omega)) (gGV gC tw198 tw438 tw196 tw197 tw2) rfl (by decide +kernel) 0 rfl rfl rfl rfl (Nat.le_of_ble_eq_true rfl) dX5_barSet_20 ⟨by decide, by decide⟩ ⟨Nat.le_of_ble_eq_true rfl, Nat.le_of_ble_eq_true rfl⟩ ?_
  have em : M i j = kM fr to wt am i j := hM i j (by omega) (by omega)
  refine x_if_eqB (tgt := 31) S dX5_barSet_23 (by decide) (fun h2 => ?_) (fun h2 => ?_)
  rotate_left
  · refine x_bipush (v := -3) S dX5_barSet_26 (by decide) ?_
    refine x_goto (tgt := 40) S dX5_barSet_28 (by decide) ?_
    exact x_retS hret ((ch, nb, M, tch, cu, rch, pa, br, gp, P)) (⟨hA, hM, hN, hal, hch, h0, hsT, hT, hsR, hR, hP⟩) ((by unfold sBarSet; rw [if_pos h1, f1, f2, if_pos (by rw [← em]; exact h2)])) dX5_barSet_40
  refine x_aload_n S dX5_barSet_31 0 rfl rfl ?_
  refine x_get S 25 0 rfl rfl inC5 (by decide) (gC _ tw151) rfl rfl dX5_barSet_32 ?_
  refine x_iload_n S dX5_barSet_35 1 rfl rfl ?_
  refine x_iload_n S dX5_barSet_36 2 rfl rfl ?_
  refine x_cVi (n := 2) S (c_fewestBars hn hi hj hij) (gGV gC tw442 tw439 tw440 tw441 tw2) rfl (by decide +kernel) 0 rfl rfl rfl rfl (Nat.le_of_ble_eq_true rfl) dX5_barSet_37 ⟨by decide, by decide⟩ ⟨Nat.le_of_ble_eq_true rfl, Nat.le_of_ble_eq_true rfl⟩ ?_
  exact x_retS hret ((ch, nb, M, tch, cu, rch, pa, br, gp, P)) (⟨hA, hM, hN, hal, hch, h0, hsT, hT, hsR, hR, hP⟩) ((by unfold sBarSet; rw [if_pos h1, f1, f2, if_neg (by rw [← em]; exact h2), kFB_congr (fun v hv => hN v (by omega))])) dX5_barSet_40
set_option maxHeartbeats 4000000 in
set_option maxRecDepth 100000 in
theorem p_bars {t : Nat} (a b : Int32) (h : HS) (hI : cInv t n am al fr to wt h) : xMetS l yX5_bars wX5_bars (rD 16) D vwCl (tyC cI cII cP cZ) nwC [.ref (ad 25), .int a, .int b] (cwH ad cI cII cP n am al fr to wt h ++ X) (fun h' : HS => cInv t n am al fr to wt h') (fun h' => cwH ad cI cII cP n am al fr to wt h' ++ X) (fun _ => some (.int (sBars n am fr to wt a b))) := by
  obtain ⟨ch, nb, M, tch, cu, rch, pa, br, gp, P⟩ := h
  obtain ⟨hA, hM, hN, hal, hch, h0, hsT, hT, hsR, hR, hP⟩ := hI
  have hn := hA.1
  refine xMetS_of (cc := cX5_bars) (maxL := 4) (ret := (some .int)) (by decide +kernel) rfl (Nat.le_of_ble_eq_true rfl) (fun _ _ => xfi) ?_
  intro E S hnm hret
  show xW E D vwCl 4 0 0 (cw ad cI cII cP n am al ch fr to wt nb M tch cu rch pa br gp P ++ X) [(0, .ref (ad 25)), (1, .int a), (2, .int b)] 0 []
  refine x_aload_n S dX5_bars_0 0 rfl rfl ?_
  refine x_iload_n S dX5_bars_1 1 rfl rfl ?_
  refine x_iload_n S dX5_bars_2 2 rfl rfl ?_
  refine x_cViS (n := 2) S (p_barSet15 a b (ch, nb, M, tch, cu, rch, pa, br, gp, P) ⟨hA, hM, hN, hal, hch, h0, hsT, hT, hsR, hR, hP⟩) (gGV gC tw437 tw434 tw435 tw436 tw1) rfl (by decide +kernel) 25 rfl rfl rfl rfl (Nat.le_of_ble_eq_true rfl) dX5_bars_3 ⟨by decide, by decide⟩ ⟨Nat.le_of_ble_eq_true rfl, Nat.le_of_ble_eq_true rfl⟩ (fun h' hI' => ?_)
  obtain ⟨ch, nb, M, tch, cu, rch, pa, br, gp, P⟩ := h'
  show xW E D vwCl 4 0 0 (cw ad cI cII cP n am al ch fr to wt nb M tch cu rch pa br gp P ++ X) _ _ _
  by_cases h1 : isP2 n a b
  · obtain ⟨i, j, hi, hj, hij, rfl, rfl, f1, f2⟩ := isP2_of hn h1
    have hv : sBarSet n am fr to wt (nI i) (nI j) = if 0 < kM fr to wt am i j then -3 else nI (kFB (kNb fr to wt am) n i j (2 ^ (n - 2))) := by unfold sBarSet; rw [if_pos h1, f1, f2]
    rw [hv]
    have hv2 : sBars n am fr to wt (nI i) (nI j) = if 0 < kM fr to wt am i j then -3 else nI (kP (kFB (kNb fr to wt am) n i j (2 ^ (n - 2)))) := by unfold sBars; rw [if_pos h1, f1, f2]
    have hF := kFB_lt (nb := kNb fr to wt am) (a := i) (b := j) hn (2 ^ (n - 2))
    by_cases h2 : 0 < kM fr to wt am i j
    · rw [if_pos h2]
      rw [if_pos h2] at hv2
      refine x_istore_n (lv' := [(3, .int _), (0, .ref _), (1, .int _), (2, .int _)]) S dX5_bars_6 rfl (by decide) rfl ?_
      refine x_iload_n S dX5_bars_7 0 rfl rfl ?_
      refine x_if_ge (tgt := 15) S dX5_bars_8 (by decide) (fun h3 => ?_) (fun h3 => ?_)
      rotate_left
      · refine x_iload_n S dX5_bars_11 0 rfl rfl ?_
        refine x_goto (tgt := 19) S dX5_bars_12 (by decide) ?_
        exact x_retS hret ((ch, nb, M, tch, cu, rch, pa, br, gp, P)) (hI') (hv2.symm) dX5_bars_19
      exact absurd h3 (by decide)
    · rw [if_neg h2]
      rw [if_neg h2] at hv2
      refine x_istore_n (lv' := [(3, .int _), (0, .ref _), (1, .int _), (2, .int _)]) S dX5_bars_6 rfl (by decide) rfl ?_
      refine x_iload_n S dX5_bars_7 0 rfl rfl ?_
      refine x_if_ge (tgt := 15) S dX5_bars_8 (by decide) (fun h3 => ?_) (fun h3 => ?_)
      · refine x_iload_n S dX5_bars_15 0 rfl rfl ?_
        refine x_cJi (n := 1) S (c_bitCount hF) (gG gC tw417) rfl (gC _ tw448) (gC _ tw9) (gC _ tw416) (by decide +kernel) rfl rfl (Nat.le_of_ble_eq_true rfl) dX5_bars_16 ⟨by decide, by decide⟩ ⟨Nat.le_of_ble_eq_true rfl, Nat.le_of_ble_eq_true rfl⟩ ?_
        exact x_retS hret ((ch, nb, M, tch, cu, rch, pa, br, gp, P)) (hI') (hv2.symm) dX5_bars_19
      exact absurd (nI_pos' (by omega)) h3
  · have hv : sBarSet n am fr to wt a b = -1 := if_neg h1
    have hv2 : sBars n am fr to wt a b = -1 := if_neg h1
    rw [hv]
    refine x_istore_n (lv' := [(3, .int _), (0, .ref _), (1, .int _), (2, .int _)]) S dX5_bars_6 rfl (by decide) rfl ?_
    refine x_iload_n S dX5_bars_7 0 rfl rfl ?_
    refine x_if_ge (tgt := 15) S dX5_bars_8 (by decide) (fun h3 => ?_) (fun h3 => ?_)
    rotate_left
    · refine x_iload_n S dX5_bars_11 0 rfl rfl ?_
      refine x_goto (tgt := 19) S dX5_bars_12 (by decide) ?_
      exact x_retS hret ((ch, nb, M, tch, cu, rch, pa, br, gp, P)) (hI') (hv2.symm) dX5_bars_19
    exact absurd h3 (by decide)
set_option maxHeartbeats 4000000 in
set_option maxRecDepth 100000 in
theorem p_without {t : Nat} (s : Int32) (h : HS) (hI : cInv t n am al fr to wt h) : xMetS l yX5_without wX5_without (rD 16) D vwCl (tyC cI cII cP cZ) nwC [.ref (ad 25), .int s] (cwH ad cI cII cP n am al fr to wt h ++ X) (fun h' : HS => cInv t n am al fr to wt h') (fun h' => cwH ad cI cII cP n am al fr to wt h' ++ X) (fun _ => some (.int (sWithout n am fr to wt s))) := by
  obtain ⟨ch, nb, M, tch, cu, rch, pa, br, gp, P⟩ := h
  obtain ⟨hA, hM, hN, hal, hch, h0, hsT, hT, hsR, hR, hP⟩ := hI
  have hn := hA.1
  refine xMetS_of (cc := cX5_without) (maxL := 2) (ret := (some .int)) (by decide +kernel) rfl (Nat.le_of_ble_eq_true rfl) (fun _ _ => xfi) ?_
  intro E S hnm hret
  show xW E D vwCl 2 0 0 (cw ad cI cII cP n am al ch fr to wt nb M tch cu rch pa br gp P ++ X) [(0, .ref (ad 25)), (1, .int s)] 0 []
  refine x_aload_n S dX5_without_0 0 rfl rfl ?_
  refine x_get S 25 0 rfl rfl inC5 (by decide) (gC _ tw151) rfl rfl dX5_without_1 ?_
  refine x_iload_n S dX5_without_4 1 rfl rfl ?_
  refine x_cVi (n := 1) S (c_hasSet hn s) (gGV gC tw226 tw223 tw224 tw225 tw2) rfl (by decide +kernel) 0 rfl rfl rfl rfl (Nat.le_of_ble_eq_true rfl) dX5_without_5 ⟨by decide, by decide⟩ ⟨Nat.le_of_ble_eq_true rfl, Nat.le_of_ble_eq_true rfl⟩ ?_
  refine x_if_eqB (tgt := 32) S dX5_without_8 (by decide) (fun h1 => ?_) (fun h1 => ?_)
  · refine x_bipush (v := -2) S dX5_without_32 (by decide) ?_
    exact x_retS hret ((ch, nb, M, tch, cu, rch, pa, br, gp, P)) (⟨hA, hM, hN, hal, hch, h0, hsT, hT, hsR, hR, hP⟩) ((if_neg h1).symm) dX5_without_34
  obtain ⟨j, hj, e, f⟩ := set_of hn h1
  have hp := pl_pow12 hn
  have hle := pl_di_le (2 ^ n - 1) j
  subst e
  refine x_aload_n S dX5_without_11 0 rfl rfl ?_
  refine x_get S 25 0 rfl rfl inC5 (by decide) (gC _ tw151) rfl rfl dX5_without_12 ?_
  refine x_aload_n S dX5_without_15 0 rfl rfl ?_
  refine x_get S 25 0 rfl rfl inC5 (by decide) (gC _ tw151) rfl rfl dX5_without_16 ?_
  refine x_cVi (n := 0) S (c_allNodes hn) (gGV gC tw230 tw454 tw228 tw229 tw2) rfl (by decide +kernel) 0 rfl rfl rfl rfl (Nat.le_of_ble_eq_true rfl) dX5_without_19 ⟨by decide, by decide⟩ ⟨Nat.le_of_ble_eq_true rfl, Nat.le_of_ble_eq_true rfl⟩ ?_
  refine x_iload_n S dX5_without_22 1 rfl rfl ?_
  refine x_iconst (v := -1) S dX5_without_23 rfl ?_
  refine x_ixor S dX5_without_24 ?_
  refine x_iand S dX5_without_25 ?_
  refine x_top (nI (pl_di (2 ^ n - 1) j)) (pl_di_I _ _) ?_
  refine x_cVi (n := 1) S (c_countConnected hn (by omega)) (gGV gC tw458 tw455 tw456 tw457 tw2) rfl (by decide +kernel) 0 rfl rfl rfl rfl (Nat.le_of_ble_eq_true rfl) dX5_without_26 ⟨by decide, by decide⟩ ⟨Nat.le_of_ble_eq_true rfl, Nat.le_of_ble_eq_true rfl⟩ ?_
  refine x_goto (tgt := 34) S dX5_without_29 (by decide) ?_
  exact x_retS hret ((ch, nb, M, tch, cu, rch, pa, br, gp, P)) (⟨hA, hM, hN, hal, hch, h0, hsT, hT, hsR, hR, hP⟩) ((by unfold sWithout; rw [if_pos h1, f, kCC_congr (fun v hv => hN v (by omega))])) dX5_without_34
end CT3
end
section
/-! what changes keep -/
section UPD
theorem kM_sym (fr to wt : Nat → Nat) (k a b : Nat) : kM fr to wt k a b = kM fr to wt k b a := sm_congr (fun i _ => by
  by_cases h : (fr i = a ∧ to i = b) ∨ (fr i = b ∧ to i = a)
  · rw [if_pos h, if_pos h.symm]
  · rw [if_neg h, if_neg (fun q => h q.symm)])
theorem kM_add {fr to wt : Nat → Nat} {am a b w : Nat} (x y : Nat) : kM (va_up fr am a) (va_up to am b) (va_up wt am w) (am + 1) x y = kM fr to wt am x y + if (a = x ∧ b = y) ∨ (a = y ∧ b = x) then w else 0 := by
  show sm _ am + _ = _
  simp only [va_up_self]
  congr 1
  exact sm_congr (fun i hi => by rw [va_up_ne _ _ (by omega), va_up_ne _ _ (by omega), va_up_ne _ _ (by omega)])
theorem sm_drop {f g : Nat → Nat} {n u w : Nat} (hu : u < n) (h1 : g u + w = f u) (h2 : ∀ i, i ≠ u → g i = f i) : sm g n + w = sm f n := by
  have := sm_bump (f := g) (g := f) (n := n) (u := u) (w := w) hu (by omega) (fun i hi => (h2 i hi).symm)
  omega
theorem kM_del {fr to wt : Nat → Nat} {am k : Nat} (hk : k < am) (x y : Nat) : kM fr to (va_up wt k 0) am x y + (if (fr k = x ∧ to k = y) ∨ (fr k = y ∧ to k = x) then wt k else 0) = kM fr to wt am x y := by
  refine sm_drop hk ?_ (fun i hi => ?_)
  · rw [va_up_self]
    split <;> omega
  · rw [va_up_ne _ _ hi]
theorem kLv_add {wt : Nat → Nat} {am w : Nat} (hw : 0 < w) : kLv (va_up wt am w) (am + 1) = kLv wt am + 1 := by
  show sm _ am + _ = _
  simp only [va_up_self]
  rw [if_pos hw]
  congr 1
  exact sm_congr (fun i hi => by rw [va_up_ne _ _ (by omega)])
theorem kLv_del {wt : Nat → Nat} {am k : Nat} (hk : k < am) (hw : 0 < wt k) : kLv (va_up wt k 0) am + 1 = kLv wt am := by
  refine sm_drop hk ?_ (fun i hi => ?_)
  · rw [va_up_self, if_pos hw]; rfl
  · rw [va_up_ne _ _ hi]
theorem uM_t {M : Nat → Nat → Nat} {a b m1 m2 x y : Nat} (hab : a ≠ b) : uM M a b m1 m2 x y = if x = a ∧ y = b then m1 else if x = b ∧ y = a then m2 else M x y := by
  unfold uM
  by_cases c1 : x = b
  · subst c1
    rw [va_up_self, if_neg (fun q => hab q.1.symm)]
    by_cases c2 : y = a
    · subst c2; rw [va_up_self, if_pos ⟨rfl, rfl⟩]
    · rw [va_up_ne _ _ c2, if_neg (fun q => c2 q.2), va_up_ne _ _ (fun q => hab q.symm)]
  · rw [va_up_ne _ _ c1, if_neg (c := x = b ∧ y = a) (fun q => c1 q.1)]
    by_cases c2 : x = a
    · subst c2
      rw [va_up_self]
      by_cases c3 : y = b
      · subst c3; rw [va_up_self, if_pos ⟨rfl, rfl⟩]
      · rw [va_up_ne _ _ c3, if_neg (fun q => c3 q.2)]
    · rw [va_up_ne _ _ c2, if_neg (fun q => c2 q.1)]
theorem bit_t {s v i : Nat} (j : Bool) : (if j = true then s ||| 2 ^ v else pl_di s (2 ^ v)).testBit i = if i = v then j else s.testBit i := by
  cases j with
  | true =>
    rw [if_pos rfl, Nat.testBit_or, Nat.testBit_two_pow]
    by_cases e : i = v
    · subst e; simp
    · simp [e, show ¬ v = i from fun q => e q.symm]
  | false =>
    rw [if_neg (by decide), pl_di_t, Nat.testBit_two_pow]
    by_cases e : i = v
    · subst e; simp
    · simp [e, show ¬ v = i from fun q => e q.symm]
theorem uB_t {nb : Nat → Nat} {a b x y : Nat} {j : Bool} (hab : a ≠ b) : (uB nb a b j x).testBit y = if x = a ∧ y = b then j else if x = b ∧ y = a then j else (nb x).testBit y := by
  unfold uB
  by_cases c1 : x = b
  · subst c1
    rw [va_up_self, bit_t, va_up_ne _ _ (fun q => hab q.symm), if_neg (c := x = a ∧ y = x) (fun q => hab q.1.symm)]
    by_cases c2 : y = a
    · rw [if_pos c2, if_pos ⟨rfl, c2⟩]
    · rw [if_neg c2, if_neg (fun q => c2 q.2)]
  · rw [va_up_ne _ _ c1, if_neg (c := x = b ∧ y = a) (fun q => c1 q.1)]
    by_cases c2 : x = a
    · subst c2
      rw [va_up_self, bit_t]
      by_cases c3 : y = b
      · rw [if_pos c3, if_pos ⟨rfl, c3⟩]
      · rw [if_neg c3, if_neg (fun q => c3 q.2)]
    · rw [va_up_ne _ _ c2, if_neg (fun q => c2 q.1)]
theorem uB_lt {nb : Nat → Nat} {a b x : Nat} {j : Bool} (ha : a < 12) (hb : b < 12) (hab : a ≠ b) (h : ∀ v, v < 12 → nb v < 4096) (hx : x < 12) : uB nb a b j x < 4096 := lt_of_t (n := 12) (fun i hi => by
  rw [uB_t hab] at hi
  split at hi
  · rename_i q; omega
  · split at hi
    · rename_i q; omega
    · exact t_lt (h x hx) hi)
/-- the matrix and the bits follow an ARC that comes or goes -/
theorem mn_upd {am am' : Nat} {fr to wt fr' to' wt' nb : Nat → Nat} {M : Nat → Nat → Nat} {a b m1 m2 : Nat} (hM : mOK am fr to wt M) (hN : nbOK am fr to wt nb) (ha : a < 12) (hb : b < 12) (hab : a ≠ b) (h1 : m1 = kM fr' to' wt' am' a b) (h2 : m2 = kM fr' to' wt' am' b a) (h3 : ∀ x y, ¬ ((x = a ∧ y = b) ∨ (x = b ∧ y = a)) → kM fr' to' wt' am' x y = kM fr to wt am x y) : mOK am' fr' to' wt' (uM M a b m1 m2) ∧ nbOK am' fr' to' wt' (uB nb a b (decide (0 < m1))) := by
  refine ⟨fun x y hx hy => ?_, fun x hx => ?_⟩
  · rw [uM_t hab]
    by_cases c1 : x = a ∧ y = b
    · rw [if_pos c1, h1, c1.1, c1.2]
    · rw [if_neg c1]
      by_cases c2 : x = b ∧ y = a
      · rw [if_pos c2, h2, c2.1, c2.2]
      · rw [if_neg c2, hM x y hx hy, h3 x y (fun q => q.elim c1 c2)]
  · refine nb_eq (uB_lt ha hb hab (fun v hv => by rw [hN v hv]; exact kNb_lt _ _ _ _ _) hx) (kNb_lt _ _ _ _ _) (fun y hy => ?_)
    rw [uB_t hab, kNb_t _ _ _ _ _ _ hy]
    by_cases c1 : x = a ∧ y = b
    · rw [if_pos c1, h1, c1.1, c1.2]
    · rw [if_neg c1]
      by_cases c2 : x = b ∧ y = a
      · rw [if_pos c2, h1, c2.1, c2.2, kM_sym]
      · rw [if_neg c2, hN x hx, kNb_t _ _ _ _ _ _ hy, h3 x y (fun q => q.elim c1 c2)]
theorem paOK.stale {n n' am am' ch : Nat} {fr to wt fr' to' wt' : Nat → Nat} {P : Nat → Int32 × Nat × (Nat → Nat) × (Nat → Nat)} (hb : ch + 1 < 2 ^ 31) (h : paOK n am ch fr to wt P) : paOK n' am' (ch + 1) fr' to' wt' P := fun j hj => ⟨(h j hj).1.up, fun q => absurd q ((h j hj).1.ne hb)⟩
end UPD
end
section
/-! CutTrees: the calls that change it -/
section CT4
theorem wt_del {wt : Nat → Nat} {k i : Nat} (h : wt i ≤ 1000) : va_up wt k 0 i ≤ 1000 := by
  by_cases e : i = k
  · rw [e, va_up_self]; omega
  · rw [va_up_ne _ _ e]; exact h
theorem kNb_0 (fr to wt : Nat → Nat) (a : Nat) : kNb fr to wt 0 a = 0 := nb_eq (kNb_lt _ _ _ _ _) (by omega) (fun b hb => by
  rw [kNb_t _ _ _ _ _ _ hb]
  simp [kM, sm])
variable {l : Launch} {D : va_G} {ad : Nat → Nat} {cI cII cP cZ : ClassId} {n am al ch : Nat} {fr to wt nb : Nat → Nat} {M : Nat → Nat → Nat} {tch : Int32} {cu : Nat → Nat} {rch : Int32} {pa br gp : Nat → Nat} {P : Nat → Int32 × Nat × (Nat → Nat) × (Nat → Nat)} {X : va_W}
set_option maxHeartbeats 4000000 in
set_option maxRecDepth 100000 in
theorem p_node_no {t : Nat} (h12 : ¬ n < 12) (h : HS) (hI : cInv t n am al fr to wt h) : xMetS l yX5_node wX5_node (rD 16) D vwCl (tyC cI cII cP cZ) nwC [.ref (ad 25)] (cwH ad cI cII cP n am al fr to wt h ++ X) (fun h' : HS => cInv t n am al fr to wt h') (fun h' => cwH ad cI cII cP n am al fr to wt h' ++ X) (fun _ => some (.int (-4))) := by
  obtain ⟨ch, nb, M, tch, cu, rch, pa, br, gp, P⟩ := h
  obtain ⟨hA, hM, hN, hal, hch, h0, hsT, hT, hsR, hR, hP⟩ := hI
  have hn := hA.1
  refine xMetS_of (cc := cX5_node) (maxL := 1) (ret := (some .int)) (by decide +kernel) rfl (Nat.le_of_ble_eq_true rfl) (fun _ _ => xfi) ?_
  intro E S hnm hret
  show xW E D vwCl 1 0 0 (cw ad cI cII cP n am al ch fr to wt nb M tch cu rch pa br gp P ++ X) [(0, .ref (ad 25))] 0 []
  refine x_aload_n S dX5_node_0 0 rfl rfl ?_
  refine x_get S 25 0 rfl rfl inC5 (by decide) (gC _ tw151) rfl rfl dX5_node_1 ?_
  refine x_get S 0 5 rfl rfl inC2 (by decide) (gC _ tw37) rfl rfl dX5_node_4 ?_
  refine x_bipush (v := 12) S dX5_node_7 (by decide) ?_
  refine x_icmp_lt (tgt := 17) S dX5_node_9 (by decide) (fun h1 => ?_) (fun h1 => ?_)
  · exact absurd ((nI_ltI (b := 12) (by omega) (by omega)).mp h1) h12
  refine x_bipush (v := -4) S dX5_node_12 (by decide) ?_
  refine x_goto (tgt := 24) S dX5_node_14 (by decide) ?_
  exact x_retS hret ((ch, nb, M, tch, cu, rch, pa, br, gp, P)) (⟨hA, hM, hN, hal, hch, h0, hsT, hT, hsR, hR, hP⟩) (rfl) dX5_node_24
set_option maxHeartbeats 4000000 in
set_option maxRecDepth 100000 in
theorem p_node_ok {t : Nat} (ht : t ≤ 1000000) (h12 : n < 12) (h : HS) (hI : cInv t n am al fr to wt h) : xMetS l yX5_node wX5_node (rD 16) D vwCl (tyC cI cII cP cZ) nwC [.ref (ad 25)] (cwH ad cI cII cP n am al fr to wt h ++ X) (fun h' : HS => cInv (t + 1) (n + 1) am al fr to wt h') (fun h' => cwH ad cI cII cP (n + 1) am al fr to wt h' ++ X) (fun _ => some (.int (nI n))) := by
  obtain ⟨ch, nb, M, tch, cu, rch, pa, br, gp, P⟩ := h
  obtain ⟨hA, hM, hN, hal, hch, h0, hsT, hT, hsR, hR, hP⟩ := hI
  have hn := hA.1
  refine xMetS_of (cc := cX5_node) (maxL := 1) (ret := (some .int)) (by decide +kernel) rfl (Nat.le_of_ble_eq_true rfl) (fun _ _ => xfi) ?_
  intro E S hnm hret
  show xW E D vwCl 1 0 0 (cw ad cI cII cP n am al ch fr to wt nb M tch cu rch pa br gp P ++ X) [(0, .ref (ad 25))] 0 []
  have hb31 : ch + 1 < 2 ^ 31 := t31 hch ht
  refine x_aload_n S dX5_node_0 0 rfl rfl ?_
  refine x_get S 25 0 rfl rfl inC5 (by decide) (gC _ tw151) rfl rfl dX5_node_1 ?_
  refine x_get S 0 5 rfl rfl inC2 (by decide) (gC _ tw37) rfl rfl dX5_node_4 ?_
  refine x_bipush (v := 12) S dX5_node_7 (by decide) ?_
  refine x_icmp_lt (tgt := 17) S dX5_node_9 (by decide) (fun h1 => ?_) (fun h1 => ?_)
  · refine x_aload_n S dX5_node_17 0 rfl rfl ?_
    refine x_get S 25 0 rfl rfl inC5 (by decide) (gC _ tw151) rfl rfl dX5_node_18 ?_
    refine x_cVi (n := 0) S (c_addNode) (gGV gC tw174 tw171 tw172 tw173 tw2) rfl (by decide +kernel) 0 rfl rfl rfl rfl (Nat.le_of_ble_eq_true rfl) dX5_node_21 ⟨by decide, by decide⟩ ⟨Nat.le_of_ble_eq_true rfl, Nat.le_of_ble_eq_true rfl⟩ ?_
    exact x_retS hret ((ch + 1, nb, M, tch, cu, rch, pa, br, gp, P)) (⟨⟨by omega, hA.2.1, fun i hi => by obtain ⟨f1, f2, f3, f4⟩ := hA.2.2 i hi; exact ⟨by omega, by omega, f3, f4⟩⟩, hM, hN, hal, (Nat.succ_le_succ hch), h0, hsT.up, fun q => absurd q (hsT.ne hb31), hsR.up, fun q => absurd q (hsR.ne hb31), hP.stale hb31⟩) (rfl) dX5_node_24
  exact absurd (nI_lt (b := 12) h12 (by omega)) h1
set_option maxHeartbeats 4000000 in
set_option maxRecDepth 100000 in
theorem p_arc_no {t : Nat} (a b w : Int32) (hno : ¬ (isP2 n a b ∧ 1 ≤ w ∧ w ≤ 1000 ∧ am < 50)) (h : HS) (hI : cInv t n am al fr to wt h) : xMetS l yX5_arc wX5_arc (rD 16) D vwCl (tyC cI cII cP cZ) nwC [.ref (ad 25), .int a, .int b, .int w] (cwH ad cI cII cP n am al fr to wt h ++ X) (fun h' : HS => cInv t n am al fr to wt h') (fun h' => cwH ad cI cII cP n am al fr to wt h' ++ X) (fun _ => some (.int (if isP2 n a b then (if w < 1 ∨ 1000 < w then -2 else -4) else -1))) := by
  obtain ⟨ch, nb, M, tch, cu, rch, pa, br, gp, P⟩ := h
  obtain ⟨hA, hM, hN, hal, hch, h0, hsT, hT, hsR, hR, hP⟩ := hI
  have hn := hA.1
  refine xMetS_of (cc := cX5_arc) (maxL := 4) (ret := (some .int)) (by decide +kernel) rfl (Nat.le_of_ble_eq_true rfl) (fun _ _ => xfi) ?_
  intro E S hnm hret
  show xW E D vwCl 4 0 0 (cw ad cI cII cP n am al ch fr to wt nb M tch cu rch pa br gp P ++ X) [(0, .ref (ad 25)), (1, .int a), (2, .int b), (3, .int w)] 0 []
  refine x_aload_n S dX5_arc_0 0 rfl rfl ?_
  refine x_get S 25 0 rfl rfl inC5 (by decide) (gC _ tw151) rfl rfl dX5_arc_1 ?_
  refine x_iload_n S dX5_arc_4 1 rfl rfl ?_
  refine x_iload_n S dX5_arc_5 2 rfl rfl ?_
  refine x_cVi (n := 2) S (c_hasPair a b) (gGV gC tw182 tw179 tw180 tw181 tw2) rfl (by decide +kernel) 0 rfl rfl rfl rfl (Nat.le_of_ble_eq_true rfl) dX5_arc_6 ⟨by decide, by decide⟩ ⟨Nat.le_of_ble_eq_true rfl, Nat.le_of_ble_eq_true rfl⟩ ?_
  refine x_if_neB (tgt := 14) S dX5_arc_9 (by decide) (fun h1 => ?_) (fun h1 => ?_)
  rotate_left
  · refine x_iconst (v := -1) S dX5_arc_12 rfl ?_
    exact x_retS hret ((ch, nb, M, tch, cu, rch, pa, br, gp, P)) (⟨hA, hM, hN, hal, hch, h0, hsT, hT, hsR, hR, hP⟩) ((if_neg h1).symm) dX5_arc_13
  refine x_iload_n S dX5_arc_14 3 rfl rfl ?_
  refine x_iconst (v := 1) S dX5_arc_15 rfl ?_
  refine x_icmp_lt (tgt := 26) S dX5_arc_16 (by decide) (fun h2 => ?_) (fun h2 => ?_)
  · refine x_bipush (v := -2) S dX5_arc_26 (by decide) ?_
    exact x_retS hret ((ch, nb, M, tch, cu, rch, pa, br, gp, P)) (⟨hA, hM, hN, hal, hch, h0, hsT, hT, hsR, hR, hP⟩) ((by rw [if_pos h1, if_pos (Or.inl h2)])) dX5_arc_28
  refine x_iload_n S dX5_arc_19 3 rfl rfl ?_
  refine x_sipush (v := 1000) S dX5_arc_20 (by decide) ?_
  refine x_icmp_le (tgt := 29) S dX5_arc_23 (by decide) (fun h3 => ?_) (fun h3 => ?_)
  rotate_left
  · refine x_bipush (v := -2) S dX5_arc_26 (by decide) ?_
    exact x_retS hret ((ch, nb, M, tch, cu, rch, pa, br, gp, P)) (⟨hA, hM, hN, hal, hch, h0, hsT, hT, hsR, hR, hP⟩) ((by rw [if_pos h1, if_pos (Or.inr (Int32.not_le.mp h3))])) dX5_arc_28
  have h50 : ¬ am < 50 := fun q => hno ⟨h1, Int32.not_lt.mp h2, h3, q⟩
  have ham := hA.2.1
  refine x_aload_n S dX5_arc_29 0 rfl rfl ?_
  refine x_get S 25 0 rfl rfl inC5 (by decide) (gC _ tw151) rfl rfl dX5_arc_30 ?_
  refine x_get S 0 6 rfl rfl inC2 (by decide) (gC _ tw43) rfl rfl dX5_arc_33 ?_
  refine x_bipush (v := 50) S dX5_arc_36 (by decide) ?_
  refine x_icmp_lt (tgt := 46) S dX5_arc_38 (by decide) (fun h4 => ?_) (fun h4 => ?_)
  · exact absurd ((nI_ltI (b := 50) (by omega) (by omega)).mp h4) h50
  refine x_bipush (v := -4) S dX5_arc_41 (by decide) ?_
  refine x_goto (tgt := 56) S dX5_arc_43 (by decide) ?_
  exact x_retS hret ((ch, nb, M, tch, cu, rch, pa, br, gp, P)) (⟨hA, hM, hN, hal, hch, h0, hsT, hT, hsR, hR, hP⟩) ((by rw [if_pos h1, if_neg (fun q => q.elim h2 (fun q => Int32.not_lt.mpr h3 q))])) dX5_arc_56
set_option maxHeartbeats 4000000 in
set_option maxRecDepth 100000 in
theorem p_arc_ok {t : Nat} {i j ω : Nat} (ht : t ≤ 1000000) (hi : i < n) (hj : j < n) (hij : i ≠ j) (hw1 : 1 ≤ ω) (hw2 : ω ≤ 1000) (h50 : am < 50) (h : HS) (hI : cInv t n am al fr to wt h) : xMetS l yX5_arc wX5_arc (rD 16) D vwCl (tyC cI cII cP cZ) nwC [.ref (ad 25), .int (nI i), .int (nI j), .int (nI ω)] (cwH ad cI cII cP n am al fr to wt h ++ X) (fun h' : HS => cInv (t + 1) n (am + 1) (al + 1) (va_up fr am i) (va_up to am j) (va_up wt am ω) h') (fun h' => cwH ad cI cII cP n (am + 1) (al + 1) (va_up fr am i) (va_up to am j) (va_up wt am ω) h' ++ X) (fun _ => some (.int (nI am))) := by
  obtain ⟨ch, nb, M, tch, cu, rch, pa, br, gp, P⟩ := h
  obtain ⟨hA, hM, hN, hal, hch, h0, hsT, hT, hsR, hR, hP⟩ := hI
  have hn := hA.1
  refine xMetS_of (cc := cX5_arc) (maxL := 4) (ret := (some .int)) (by decide +kernel) rfl (Nat.le_of_ble_eq_true rfl) (fun _ _ => xfi) ?_
  intro E S hnm hret
  show xW E D vwCl 4 0 0 (cw ad cI cII cP n am al ch fr to wt nb M tch cu rch pa br gp P ++ X) [(0, .ref (ad 25)), (1, .int (nI i)), (2, .int (nI j)), (3, .int (nI ω))] 0 []
  have hb31 : ch + 1 < 2 ^ 31 := t31 hch ht
  have hMd : M i j = kM fr to wt am i j := hM i j (by omega) (by omega)
  have hMd2 : M j i = kM fr to wt am j i := hM j i (by omega) (by omega)
  have hbd : M i j ≤ 50000 := mOK.bd hA hM i j (by omega) (by omega)
  have hp : isP2 n (nI i) (nI j) := ⟨⟨nI_pos' (by omega), nI_lt hi (by omega)⟩, ⟨nI_pos' (by omega), nI_lt hj (by omega)⟩, fun q => hij (pl_inj (by omega) (by omega) q)⟩
  refine x_aload_n S dX5_arc_0 0 rfl rfl ?_
  refine x_get S 25 0 rfl rfl inC5 (by decide) (gC _ tw151) rfl rfl dX5_arc_1 ?_
  refine x_iload_n S dX5_arc_4 1 rfl rfl ?_
  refine x_iload_n S dX5_arc_5 2 rfl rfl ?_
  refine x_cVi (n := 2) S (c_hasPair (nI i) (nI j)) (gGV gC tw182 tw179 tw180 tw181 tw2) rfl (by decide +kernel) 0 rfl rfl rfl rfl (Nat.le_of_ble_eq_true rfl) dX5_arc_6 ⟨by decide, by decide⟩ ⟨Nat.le_of_ble_eq_true rfl, Nat.le_of_ble_eq_true rfl⟩ ?_
  refine x_if_neB (tgt := 14) S dX5_arc_9 (by decide) (fun h1 => ?_) (fun h1 => ?_)
  rotate_left
  · exact absurd hp h1
  refine x_iload_n S dX5_arc_14 3 rfl rfl ?_
  refine x_iconst (v := 1) S dX5_arc_15 rfl ?_
  refine x_icmp_lt (tgt := 26) S dX5_arc_16 (by decide) (fun h2 => ?_) (fun h2 => ?_)
  · exact absurd h2 (nI_nlt (b := 1) (by omega) (by omega))
  refine x_iload_n S dX5_arc_19 3 rfl rfl ?_
  refine x_sipush (v := 1000) S dX5_arc_20 (by decide) ?_
  refine x_icmp_le (tgt := 29) S dX5_arc_23 (by decide) (fun h3 => ?_) (fun h3 => ?_)
  rotate_left
  · exact absurd (nI_le (b := 1000) hw2 (by omega)) h3
  refine x_aload_n S dX5_arc_29 0 rfl rfl ?_
  refine x_get S 25 0 rfl rfl inC5 (by decide) (gC _ tw151) rfl rfl dX5_arc_30 ?_
  refine x_get S 0 6 rfl rfl inC2 (by decide) (gC _ tw43) rfl rfl dX5_arc_33 ?_
  refine x_bipush (v := 50) S dX5_arc_36 (by decide) ?_
  refine x_icmp_lt (tgt := 46) S dX5_arc_38 (by decide) (fun h4 => ?_) (fun h4 => ?_)
  rotate_left
  · exact absurd (nI_lt (b := 50) h50 (by omega)) h4
  refine x_aload_n S dX5_arc_46 0 rfl rfl ?_
  refine x_get S 25 0 rfl rfl inC5 (by decide) (gC _ tw151) rfl rfl dX5_arc_47 ?_
  refine x_iload_n S dX5_arc_50 1 rfl rfl ?_
  refine x_iload_n S dX5_arc_51 2 rfl rfl ?_
  refine x_iload_n S dX5_arc_52 3 rfl rfl ?_
  refine x_cVi (n := 3) S (c_addArc (by omega) (by omega) hij h50 rfl rfl (by omega)) (gGV gC tw190 tw187 tw188 tw189 tw2) rfl (by decide +kernel) 0 rfl rfl rfl rfl (Nat.le_of_ble_eq_true rfl) dX5_arc_53 ⟨by decide, by decide⟩ ⟨Nat.le_of_ble_eq_true rfl, Nat.le_of_ble_eq_true rfl⟩ ?_
  have hmn := mn_upd (am' := am + 1) (fr' := va_up fr am i) (to' := va_up to am j) (wt' := va_up wt am ω) (m1 := M i j + ω) (m2 := M j i + ω) hM hN (show i < 12 by omega) (show j < 12 by omega) hij (by rw [kM_add, if_pos (Or.inl ⟨rfl, rfl⟩), hMd]) (by rw [kM_add, if_pos (Or.inr ⟨rfl, rfl⟩), hMd2]) (fun x y hxy => by rw [kM_add, if_neg (fun q => hxy (q.elim (fun z => Or.inl ⟨z.1.symm, z.2.symm⟩) (fun z => Or.inr ⟨z.2.symm, z.1.symm⟩))), Nat.add_zero])
  exact x_retS hret ((ch + 1, uB nb i j (decide (0 < M i j + ω)), uM M i j (M i j + ω) (M j i + ω), tch, cu, rch, pa, br, gp, P)) (⟨⟨hn, by omega, fun k hk => (Nat.lt_or_ge k am).elim (fun q => by rw [va_up_ne _ _ (by omega), va_up_ne _ _ (by omega), va_up_ne _ _ (by omega)]; exact hA.2.2 k q) (fun q => by have e : k = am := (by omega); subst e; rw [va_up_self, va_up_self, va_up_self]; exact ⟨hi, hj, hij, hw2⟩)⟩, hmn.1, hmn.2, by rw [kLv_add (by omega), hal], (Nat.succ_le_succ hch), h0, hsT.up, fun q => absurd q (hsT.ne hb31), hsR.up, fun q => absurd q (hsR.ne hb31), hP.stale hb31⟩) (rfl) dX5_arc_56
set_option maxHeartbeats 4000000 in
set_option maxRecDepth 100000 in
theorem p_drop_no {t : Nat} (k : Int32) (hno : ¬ (0 ≤ k ∧ k < nI am ∧ 0 < wt k.toNatClampNeg)) (h : HS) (hI : cInv t n am al fr to wt h) : xMetS l yX5_drop wX5_drop (rD 16) D vwCl (tyC cI cII cP cZ) nwC [.ref (ad 25), .int k] (cwH ad cI cII cP n am al fr to wt h ++ X) (fun h' : HS => cInv t n am al fr to wt h') (fun h' => cwH ad cI cII cP n am al fr to wt h' ++ X) (fun _ => some (.int (-1))) := by
  obtain ⟨ch, nb, M, tch, cu, rch, pa, br, gp, P⟩ := h
  obtain ⟨hA, hM, hN, hal, hch, h0, hsT, hT, hsR, hR, hP⟩ := hI
  have hn := hA.1
  refine xMetS_of (cc := cX5_drop) (maxL := 2) (ret := (some .int)) (by decide +kernel) rfl (Nat.le_of_ble_eq_true rfl) (fun _ _ => xfi) ?_
  intro E S hnm hret
  show xW E D vwCl 2 0 0 (cw ad cI cII cP n am al ch fr to wt nb M tch cu rch pa br gp P ++ X) [(0, .ref (ad 25)), (1, .int k)] 0 []
  refine x_aload_n S dX5_drop_0 0 rfl rfl ?_
  refine x_get S 25 0 rfl rfl inC5 (by decide) (gC _ tw151) rfl rfl dX5_drop_1 ?_
  refine x_iload_n S dX5_drop_4 1 rfl rfl ?_
  refine x_cVi (n := 1) S (c_hasArc hA.2.1 (fun i hi => (hA.2.2 i hi).2.2.2)) (gGV gC tw206 tw203 tw204 tw205 tw2) rfl (by decide +kernel) 0 rfl rfl rfl rfl (Nat.le_of_ble_eq_true rfl) dX5_drop_5 ⟨by decide, by decide⟩ ⟨Nat.le_of_ble_eq_true rfl, Nat.le_of_ble_eq_true rfl⟩ ?_
  refine x_if_eqB (tgt := 22) S dX5_drop_8 (by decide) (fun h1 => ?_) (fun h1 => ?_)
  · refine x_iconst (v := -1) S dX5_drop_22 rfl ?_
    exact x_retS hret ((ch, nb, M, tch, cu, rch, pa, br, gp, P)) (⟨hA, hM, hN, hal, hch, h0, hsT, hT, hsR, hR, hP⟩) (rfl) dX5_drop_23
  exact absurd h1 hno
set_option maxHeartbeats 4000000 in
set_option maxRecDepth 100000 in
theorem p_drop_ok {t : Nat} {k : Nat} (ht : t ≤ 1000000) (hk : k < am) (hw : 0 < wt k) (h : HS) (hI : cInv t n am al fr to wt h) : xMetS l yX5_drop wX5_drop (rD 16) D vwCl (tyC cI cII cP cZ) nwC [.ref (ad 25), .int (nI k)] (cwH ad cI cII cP n am al fr to wt h ++ X) (fun h' : HS => cInv (t + 1) n am (al - 1) fr to (va_up wt k 0) h') (fun h' => cwH ad cI cII cP n am (al - 1) fr to (va_up wt k 0) h' ++ X) (fun _ => some (.int (nI (al - 1)))) := by
  obtain ⟨ch, nb, M, tch, cu, rch, pa, br, gp, P⟩ := h
  obtain ⟨hA, hM, hN, hal, hch, h0, hsT, hT, hsR, hR, hP⟩ := hI
  have hn := hA.1
  refine xMetS_of (cc := cX5_drop) (maxL := 2) (ret := (some .int)) (by decide +kernel) rfl (Nat.le_of_ble_eq_true rfl) (fun _ _ => xfi) ?_
  intro E S hnm hret
  show xW E D vwCl 2 0 0 (cw ad cI cII cP n am al ch fr to wt nb M tch cu rch pa br gp P ++ X) [(0, .ref (ad 25)), (1, .int (nI k))] 0 []
  have hb31 : ch + 1 < 2 ^ 31 := t31 hch ht
  have ham := hA.2.1
  obtain ⟨f1, f2, f3, f4⟩ := hA.2.2 k hk
  have hcl : (nI k).toNatClampNeg = k := nI_clamp (by omega)
  have hlv := kLv_del hk hw
  have hMd : M (fr k) (to k) = kM fr to wt am (fr k) (to k) := hM _ _ (by omega) (by omega)
  have hMd2 : M (to k) (fr k) = kM fr to wt am (to k) (fr k) := hM _ _ (by omega) (by omega)
  have hbd : M (fr k) (to k) ≤ 50000 := mOK.bd hA hM _ _ (by omega) (by omega)
  have e1 := kM_del (fr := fr) (to := to) (wt := wt) hk (fr k) (to k)
  have e2 := kM_del (fr := fr) (to := to) (wt := wt) hk (to k) (fr k)
  rw [if_pos (Or.inl ⟨rfl, rfl⟩)] at e1
  rw [if_pos (Or.inr ⟨rfl, rfl⟩)] at e2
  refine x_aload_n S dX5_drop_0 0 rfl rfl ?_
  refine x_get S 25 0 rfl rfl inC5 (by decide) (gC _ tw151) rfl rfl dX5_drop_1 ?_
  refine x_iload_n S dX5_drop_4 1 rfl rfl ?_
  refine x_cVi (n := 1) S (c_hasArc hA.2.1 (fun i hi => (hA.2.2 i hi).2.2.2)) (gGV gC tw206 tw203 tw204 tw205 tw2) rfl (by decide +kernel) 0 rfl rfl rfl rfl (Nat.le_of_ble_eq_true rfl) dX5_drop_5 ⟨by decide, by decide⟩ ⟨Nat.le_of_ble_eq_true rfl, Nat.le_of_ble_eq_true rfl⟩ ?_
  refine x_if_eqB (tgt := 22) S dX5_drop_8 (by decide) (fun h1 => ?_) (fun h1 => ?_)
  · exact absurd ⟨nI_pos' (by omega), nI_lt hk (by omega), by rw [hcl]; exact hw⟩ h1
  refine x_aload_n S dX5_drop_11 0 rfl rfl ?_
  refine x_get S 25 0 rfl rfl inC5 (by decide) (gC _ tw151) rfl rfl dX5_drop_12 ?_
  refine x_iload_n S dX5_drop_15 1 rfl rfl ?_
  refine x_cVi (n := 1) S (c_removeArc (m1 := kM fr to (va_up wt k 0) am (fr k) (to k)) (m2 := kM fr to (va_up wt k 0) am (to k) (fr k)) (by omega) rfl rfl rfl (by omega) (by omega) f3 (by omega) (by omega) (by omega) (by omega)) (gGV gC tw210 tw207 tw208 tw209 tw2) rfl (by decide +kernel) 0 rfl rfl rfl rfl (Nat.le_of_ble_eq_true rfl) dX5_drop_16 ⟨by decide, by decide⟩ ⟨Nat.le_of_ble_eq_true rfl, Nat.le_of_ble_eq_true rfl⟩ ?_
  have hmn := mn_upd (am' := am) (fr' := fr) (to' := to) (wt' := va_up wt k 0) (m1 := kM fr to (va_up wt k 0) am (fr k) (to k)) (m2 := kM fr to (va_up wt k 0) am (to k) (fr k)) hM hN (show fr k < 12 by omega) (show to k < 12 by omega) f3 rfl rfl (fun x y hxy => by have e := kM_del (fr := fr) (to := to) (wt := wt) hk x y; rw [if_neg (fun q => hxy (q.elim (fun z => Or.inl ⟨z.1.symm, z.2.symm⟩) (fun z => Or.inr ⟨z.2.symm, z.1.symm⟩)))] at e; exact e)
  refine x_goto (tgt := 23) S dX5_drop_19 (by decide) ?_
  exact x_retS hret ((ch + 1, uB nb (fr k) (to k) (decide (0 < kM fr to (va_up wt k 0) am (fr k) (to k))), uM M (fr k) (to k) (kM fr to (va_up wt k 0) am (fr k) (to k)) (kM fr to (va_up wt k 0) am (to k) (fr k)), tch, cu, rch, pa, br, gp, P)) (⟨⟨hn, ham, fun i hi => by obtain ⟨g1, g2, g3, g4⟩ := hA.2.2 i hi; refine ⟨g1, g2, g3, ?_⟩; exact wt_del g4⟩, hmn.1, hmn.2, by omega, (Nat.succ_le_succ hch), h0, hsT.up, fun q => absurd q (hsT.ne hb31), hsR.up, fun q => absurd q (hsR.ne hb31), hP.stale hb31⟩) (rfl) dX5_drop_23
set_option maxHeartbeats 4000000 in
set_option maxRecDepth 100000 in
theorem p_clear {t : Nat} (ht : t ≤ 1000000) (h : HS) (hI : cInv t n am al fr to wt h) : xMetS l yX5_clear wX5_clear (rD 16) D vwCl (tyC cI cII cP cZ) nwC [.ref (ad 25)] (cwH ad cI cII cP n am al fr to wt h ++ X) (fun h' : HS => cInv (t + 1) 0 0 0 fr to wt h') (fun h' => cwH ad cI cII cP 0 0 0 fr to wt h' ++ X) (fun _ => some (.int (nI n))) := by
  obtain ⟨ch, nb, M, tch, cu, rch, pa, br, gp, P⟩ := h
  obtain ⟨hA, hM, hN, hal, hch, h0, hsT, hT, hsR, hR, hP⟩ := hI
  have hn := hA.1
  refine xMetS_of (cc := cX5_clear) (maxL := 1) (ret := (some .int)) (by decide +kernel) rfl (Nat.le_of_ble_eq_true rfl) (fun _ _ => xfi) ?_
  intro E S hnm hret
  show xW E D vwCl 1 0 0 (cw ad cI cII cP n am al ch fr to wt nb M tch cu rch pa br gp P ++ X) [(0, .ref (ad 25))] 0 []
  have hb31 : ch + 1 < 2 ^ 31 := t31 hch ht
  refine x_aload_n S dX5_clear_0 0 rfl rfl ?_
  refine x_get S 25 0 rfl rfl inC5 (by decide) (gC _ tw151) rfl rfl dX5_clear_1 ?_
  refine x_cVi (n := 0) S (c_removeAll) (gGV gC tw218 tw215 tw216 tw217 tw2) rfl (by decide +kernel) 0 rfl rfl rfl rfl (Nat.le_of_ble_eq_true rfl) dX5_clear_4 ⟨by decide, by decide⟩ ⟨Nat.le_of_ble_eq_true rfl, Nat.le_of_ble_eq_true rfl⟩ ?_
  exact x_retS hret ((ch + 1, zN nb 12, zR M 12, tch, cu, rch, pa, br, gp, P)) (⟨⟨by omega, by omega, fun i hi => absurd hi (by omega)⟩, (fun a b ha hb => by show zR M 12 a b = 0; simp [zR, zN, ha, hb]), (fun a ha => by show zN nb 12 a = _; rw [kNb_0]; simp [zN, ha]), rfl, (Nat.succ_le_succ hch), h0, hsT.up, fun q => absurd q (hsT.ne hb31), hsR.up, fun q => absurd q (hsR.ne hb31), hP.stale hb31⟩) (rfl) dX5_clear_7
end CT4
end
section
/-! the reference: its cells -/
abbrev zI (b : Bool) : Int32 := if b = true then 1 else 0
def bN (p : Nat → Bool) : Nat → Int32 := fun i => zI (p i)
section XZ
variable {E : xE} {l : Launch} {R : Room} {D : va_G} {cl : List vw_C} {tys : List (ClassId × FieldType)} {cc : ByteArray} {own : String} {nL : Nat} {Ts : List Cond} {nws : xN} {cells slots : Nat} {ws : va_W} {lv : List (Nat × Value)} {pc : Nat} {st : List Value}
theorem bN_up (p : Nat → Bool) (j : Nat) (z : Bool) : upd (bN p) j (vp_nar .boolean (zI z)) = bN (va_up p j z) := by
  have e : vp_nar .boolean (zI z) = zI z := by cases z <;> rfl
  rw [e]
  funext i
  by_cases h : i = j
  · subst h; simp [upd, bN, va_up]
  · simp [upd, bN, va_up, h]
theorem x_zaldB (S : xOK E l R D cl tys cc own nL Ts nws) {cA : ClassId} {n a : Nat} {p : Nat → Bool} {i : Int32} (q0 t0 j : Nat) (ha : ws[q0]? = some (a, .inl (cA, n, .inl (bN p)))) (ht : tys[t0]? = some (cA, .boolean)) (hi : i = nI j) (hj : j < n) (hn : n < 2 ^ 31) (hd : decode cc pc = .ok (.baload, 1)) (k : xW E D cl nL cells slots ws lv (pc + 1) (.int (if p j = true then 1 else 0) :: st)) : xW E D cl nL cells slots ws lv pc (.int i :: .ref a :: st) := by
  subst hi
  intro H locs ls hP hD hS hl
  refine va_zald S.1.1 S.1.2.1 S.2.2.2.1 hP q0 t0 ha ht (vp_in_nI hj hn) hd ?_
  rw [nI_clamp (Nat.lt_trans hj hn)]
  exact k H locs ls hP hD hS hl
theorem x_zastB (S : xOK E l R D cl tys cc own nL Ts nws) {cA : ClassId} {n a : Nat} {p : Nat → Bool} {i x : Int32} {z : Bool} {ws' : va_W} (q0 t0 j : Nat) (ha : ws[q0]? = some (a, .inl (cA, n, .inl (bN p)))) (ht : tys[t0]? = some (cA, .boolean)) (hi : i = nI j) (hj : j < n) (hn : n < 2 ^ 31) (hz : x = zI z) (hd : decode cc pc = .ok (.bastore, 1)) (hw : ws.set q0 (a, .inl (cA, n, .inl (bN (va_up p j z)))) = ws') (k : xW E D cl nL cells slots ws' lv (pc + 1) st) : xW E D cl nL cells slots ws lv pc (.int x :: .int i :: .ref a :: st) := by
  subst hi; subst hw; subst hz
  intro H locs ls hP hD hS hl
  refine va_zast S.1.1 S.1.2.1 S.2.2.2.1 hP hD hS q0 t0 ha ht (vp_in_nI hj hn) hd ?_
  rw [nI_clamp (Nat.lt_trans hj hn), bN_up]
  exact fun H1 locs1 h1 h2 h3 => k H1 locs1 ls h1 h2 h3 hl
end XZ
def mw (bd : Nat → Nat) (cI cZ : ClassId) (n am al : Nat) (on ot we : Nat → Nat) (th : Nat → Bool) (be ne cu : Nat → Nat) (nw : Bool) (pa br pc : Nat → Nat) (ap : Nat → Bool) (pn : Nat → Nat) (ls : Int32) (gr : Nat → Nat) (tl : Nat → Int32) (co : Nat → Nat) : va_W := [(bd 0, .inr (6, [.int (nI n), .int (nI am), .int (nI al), .ref (bd 1), .ref (bd 2), .ref (bd 3), .ref (bd 4), .ref (bd 5), .ref (bd 6), .ref (bd 7), .int (zI nw), .ref (bd 8), .ref (bd 9), .ref (bd 10), .ref (bd 11), .ref (bd 12), .int ls, .ref (bd 13), .ref (bd 14), .ref (bd 15)])), (bd 1, .inl (cI, 50, .inl (aN on))), (bd 2, .inl (cI, 50, .inl (aN ot))), (bd 3, .inl (cI, 50, .inl (aN we))), (bd 4, .inl (cZ, 50, .inl (bN th))), (bd 5, .inl (cI, 144, .inl (aN be))), (bd 6, .inl (cI, 12, .inl (aN ne))), (bd 7, .inl (cI, 4096, .inl (aN cu))), (bd 8, .inl (cI, 12, .inl (aN pa))), (bd 9, .inl (cI, 12, .inl (aN br))), (bd 10, .inl (cI, 5, .inl (aN pc))), (bd 11, .inl (cZ, 5, .inl (bN ap))), (bd 12, .inl (cI, 60, .inl (aN pn))), (bd 13, .inl (cI, 12, .inl (aN gr))), (bd 14, .inl (cI, 13, .inl tl)), (bd 15, .inl (cI, 13, .inl (aN co)))]
section SOF
variable {fr to wt : Nat → Nat} {am : Nat}
/-- CUTS of what two SETS share and of what they have together -/
theorem kC_submod (A B : Nat) : kC fr to wt am (A &&& B) + kC fr to wt am (A ||| B) ≤ kC fr to wt am A + kC fr to wt am B := by
  unfold kC
  rw [← sm_add, ← sm_add]
  refine sm_le (fun i _ => ?_)
  simp only [Nat.testBit_and, Nat.testBit_or]
  cases A.testBit (fr i) <;> cases A.testBit (to i) <;> cases B.testBit (fr i) <;> cases B.testBit (to i) <;> simp
theorem fm_in {n a b F T : Nat} (hF : isFM (kC fr to wt am) (isSd n a b) F) (hT : isSd n a b T) (he : kC fr to wt am T = kC fr to wt am F) : F &&& T = F := by
  have h1 : isSd n a b (F &&& T) := ⟨Nat.lt_of_le_of_lt Nat.and_le_left hF.1.1, by rw [Nat.testBit_and, hF.1.2.1, hT.2.1]; rfl, by rw [Nat.testBit_and, hF.1.2.2]; rfl⟩
  have h2 : isSd n a b (F ||| T) := ⟨Nat.or_lt_two_pow hF.1.1 hT.1, by rw [Nat.testBit_or, hF.1.2.1]; rfl, by rw [Nat.testBit_or, hF.1.2.2, hT.2.2]; rfl⟩
  have h3 := kC_submod (fr := fr) (to := to) (wt := wt) (am := am) F T
  have h4 := hF.2.1 _ h1
  have h5 := hF.2.1 _ h2
  have h6 : F &&& T ≤ F := Nat.and_le_left
  rcases Nat.lt_or_ge (F &&& T) F with q | q
  · have := hF.2.2 _ h1 q
    omega
  · omega
/-- what sideOf knows when the SETS below s are seen -/
def sOf (cf : Nat → Nat) (n a b s side : Nat) (ls : Int32) : Prop := side < 4096 ∧ (((∀ T, T < s → ¬ isSd n a b T) ∧ ls = -1) ∨ ∃ m, ls = nI m ∧ m < 2 ^ 31 ∧ (∃ T, T < s ∧ isSd n a b T ∧ cf T = m) ∧ (∀ T, T < s → isSd n a b T → m ≤ cf T) ∧ ∀ i, side.testBit i = true ↔ (∀ T, T < s → isSd n a b T → cf T = m → T.testBit i = true))
theorem sOf_fin {n a b s side Z : Nat} {ls : Int32} (h : sOf (kC fr to wt am) n a b s side ls) (hall : ∀ T, isSd n a b T → T < s) (hZ : isFM (kC fr to wt am) (isSd n a b) Z) : side = Z ∧ ls = nI (kC fr to wt am Z) := by
  rcases h.2 with ⟨q, -⟩ | ⟨m, h1, -, ⟨T, hT1, hT2, hT3⟩, h3, h4⟩
  · exact absurd hZ.1 (q Z (hall Z hZ.1))
  · have hm : m = kC fr to wt am Z := by
      have := h3 Z (hall Z hZ.1) hZ.1
      have := hZ.2.1 T hT2
      omega
    refine ⟨Nat.eq_of_testBit_eq (fun i => ?_), by rw [h1, hm]⟩
    have key : side.testBit i = true ↔ Z.testBit i = true := by
      rw [h4 i]
      constructor
      · intro q; exact q Z (hall Z hZ.1) hZ.1 hm.symm
      · intro q T hT hsd he
        have := fm_in hZ hsd (he.trans hm)
        rw [← this, Nat.testBit_and] at q
        exact (Bool.and_eq_true _ _ ▸ q).2
    cases h5 : side.testBit i <;> cases h6 : Z.testBit i <;> simp_all
theorem sOf_0 {cf : Nat → Nat} {n a b : Nat} : sOf cf n a b 1 0 (-1) := ⟨by omega, Or.inl ⟨fun T hT h => by
  have : T = 0 := by omega
  subst this
  have := h.2.1
  simp at this, rfl⟩⟩
theorem sOf_skip {cf : Nat → Nat} {n a b s side : Nat} {ls : Int32} (h : sOf cf n a b s side ls) (hs : ¬ isSd n a b s) : sOf cf n a b (s + 1) side ls := by
  have key : ∀ T, T < s + 1 → isSd n a b T → T < s := fun T hT q => by
    rcases Nat.lt_or_ge T s with c | c
    · exact c
    · have : T = s := by omega
      subst this; exact absurd q hs
  refine ⟨h.1, h.2.imp (fun ⟨q1, q2⟩ => ⟨fun T hT q => q1 T (key T hT q) q, q2⟩) (fun ⟨m, h1, h0, ⟨T, hT1, hT2⟩, h3, h4⟩ => ⟨m, h1, h0, ⟨T, by omega, hT2⟩, fun T hT q => h3 T (key T hT q) q, fun i => (h4 i).trans ⟨fun q T hT hsd he => q T (key T hT hsd) hsd he, fun q T hT hsd he => q T (by omega) hsd he⟩⟩)⟩
theorem sOf_low {cf : Nat → Nat} {n a b s : Nat} (hs : isSd n a b s) (h4 : s < 4096) (hb : cf s < 2 ^ 31) (low : ∀ T, T < s → isSd n a b T → cf s < cf T) : sOf cf n a b (s + 1) s (nI (cf s)) := by
  have key : ∀ T, T < s + 1 → T < s ∨ T = s := fun T hT => by omega
  refine ⟨h4, Or.inr ⟨cf s, rfl, hb, ⟨s, by omega, hs, rfl⟩, fun T hT hsd => (key T hT).elim (fun q => Nat.le_of_lt (low T q hsd)) (fun q => by rw [q]; exact Nat.le_refl _), fun i => ⟨fun q T hT hsd he => (key T hT).elim (fun z => by have := low T z hsd; omega) (fun z => by rw [z]; exact q), fun q => q s (by omega) hs rfl⟩⟩⟩
theorem sOf_and {cf : Nat → Nat} {n a b s side m : Nat} (hside : side < 4096) (hm : m < 2 ^ 31) (hx : ∃ T, T < s ∧ isSd n a b T ∧ cf T = m) (hlo : ∀ T, T < s → isSd n a b T → m ≤ cf T) (hbits : ∀ i, side.testBit i = true ↔ (∀ T, T < s → isSd n a b T → cf T = m → T.testBit i = true)) (hs : isSd n a b s) (he : cf s = m) : sOf cf n a b (s + 1) (side &&& s) (nI m) := by
  have key : ∀ T, T < s + 1 → T < s ∨ T = s := fun T hT => by omega
  obtain ⟨T0, t1, t2, t3⟩ := hx
  refine ⟨Nat.lt_of_le_of_lt Nat.and_le_left hside, Or.inr ⟨m, rfl, hm, ⟨T0, by omega, t2, t3⟩, fun T hT hsd => (key T hT).elim (fun q => hlo T q hsd) (fun q => by rw [q, he]; exact Nat.le_refl _), fun i => ?_⟩⟩
  rw [Nat.testBit_and, Bool.and_eq_true, hbits i]
  exact ⟨fun q T hT hsd h => (key T hT).elim (fun z => q.1 T z hsd h) (fun z => by rw [z]; exact q.2), fun q => ⟨fun T hT hsd h => q T (by omega) hsd h, q s (by omega) hs he⟩⟩
theorem sOf_more {cf : Nat → Nat} {n a b s side m : Nat} (hside : side < 4096) (hm : m < 2 ^ 31) (hx : ∃ T, T < s ∧ isSd n a b T ∧ cf T = m) (hlo : ∀ T, T < s → isSd n a b T → m ≤ cf T) (hbits : ∀ i, side.testBit i = true ↔ (∀ T, T < s → isSd n a b T → cf T = m → T.testBit i = true)) (he : m < cf s) : sOf cf n a b (s + 1) side (nI m) := by
  have key : ∀ T, T < s + 1 → T < s ∨ T = s := fun T hT => by omega
  obtain ⟨T0, t1, t2, t3⟩ := hx
  exact ⟨hside, Or.inr ⟨m, rfl, hm, ⟨T0, by omega, t2, t3⟩, fun T hT hsd => (key T hT).elim (fun q => hlo T q hsd) (fun q => by rw [q]; omega), fun i => (hbits i).trans ⟨fun q T hT hsd h => (key T hT).elim (fun z => q T z hsd h) (fun z => by rw [z] at h; omega), fun q T hT hsd h => q T (by omega) hsd h⟩⟩⟩
end SOF
end
section
/-! the reference: contracts, 1 -/
section M1
def vOK (n am : Nat) (fr to wt cu : Nat → Nat) : Prop := ∀ s, s < 2 ^ n → cu s = kC fr to wt am s
variable {l : Launch} {D : va_G} {bd : Nat → Nat} {cI cII cP cZ : ClassId} {n am al : Nat} {on ot we : Nat → Nat} {th : Nat → Bool} {be ne cu : Nat → Nat} {nw : Bool} {pa br pc : Nat → Nat} {ap : Nat → Bool} {pn : Nat → Nat} {ls : Int32} {gr : Nat → Nat} {tl : Nat → Int32} {co : Nat → Nat} {fr to wt : Nat → Nat} {X : va_W}
set_option maxHeartbeats 4000000 in
set_option maxRecDepth 100000 in
theorem m_changed  : xMetS l yX6_changed wX6_changed (rD 0) D vwCl (tyC cI cII cP cZ) nwC [.ref (bd 0)] (mw bd cI cZ n am al on ot we th be ne cu nw pa br pc ap pn ls gr tl co ++ X) (fun q : Nat → Bool => ∀ i, i < 5 → q i = true) (fun q => (mw bd cI cZ n am al on ot we th be ne cu true pa br pc q pn ls gr tl co ++ X)) (fun _ => none) := by
  refine xMetS_of (cc := cX6_changed) (maxL := 2) (ret := none) (by decide +kernel) rfl (Nat.le_of_ble_eq_true rfl) (fun _ _ => xfv) ?_
  intro E S hnm hret
  show xW E D vwCl 2 0 0 _ [(0, .ref (bd 0))] 0 []
  have L : ∀ k, k ≤ 5 → ∀ q : Nat → Bool, (∀ i, i < k → q i = true) → xW E D vwCl 2 0 0 (mw bd cI cZ n am al on ot we th be ne cu true pa br pc q pn ls gr tl co ++ X) [(0, .ref (bd 0)), (1, .int (nI k))] 7 [] := by
    refine pl_up 5 (fun k hk ih => ?_)
    intro q g1
    refine x_iload_n S dX6_changed_7 1 rfl rfl ?_
    refine x_iconst (v := 5) S dX6_changed_8 rfl ?_
    refine x_icmp_ge (tgt := 25) S dX6_changed_9 (by decide) (fun h3 => ?_) (fun h3 => ?_)
    · have hk2 : k = 5 := Nat.le_antisymm hk ((nI_leI (a := 5) (by omega) (by omega)).mp h3)
      subst hk2
      exact hret (q) _ _ g1 dX6_changed_25
    have hk2 : k < 5 := Nat.lt_of_not_le (fun h => h3 (nI_le (a := 5) h (by omega)))
    refine x_aload_n S dX6_changed_12 0 rfl rfl ?_
    refine x_get S 0 14 rfl rfl inC6 (by decide) (gC _ tw479) rfl rfl dX6_changed_13 ?_
    refine x_iload_n S dX6_changed_16 1 rfl rfl ?_
    refine x_iconst (v := 1) S dX6_changed_17 rfl ?_
    refine x_zastB (ws' := (mw bd cI cZ n am al on ot we th be ne cu true pa br pc (va_up q k true) pn ls gr tl co ++ X)) (z := true) S 11 3 (k) rfl rfl rfl (by omega) (by decide) rfl dX6_changed_18 rfl ?_
    refine x_iincN (lv' := [(1, .int _), (0, .ref _)]) S dX6_changed_19 1 rfl (by decide) rfl ?_
    refine x_goto (tgt := 7) S dX6_changed_22 (by decide) ?_
    exact x_sub [1, 0] rfl (ih hk2 _ (fun v hv => (Nat.lt_or_ge v k).elim (fun h => by rw [va_up_ne _ _ (by omega)]; exact g1 v h) (fun h => by rw [show v = k by omega, va_up_self])))
  refine x_aload_n S dX6_changed_0 0 rfl rfl ?_
  refine x_iconst (v := 1) S dX6_changed_1 rfl ?_
  refine x_put (ws' := (mw bd cI cZ n am al on ot we th be ne cu true pa br pc ap pn ls gr tl co ++ X)) S 0 10 rfl rfl inC6 tyX6 tyX6_ok nmX6 (by decide) (gC _ tw475) rfl rfl (tyX6_ok 10 (by decide)) rfl rfl (Nat.le_of_ble_eq_true rfl) dX6_changed_2 rfl ?_
  refine x_iconst (v := 0) S dX6_changed_5 rfl ?_
  refine x_istore_n (lv' := [(1, .int _), (0, .ref _)]) S dX6_changed_6 rfl (by decide) rfl ?_
  exact x_sub [1, 0] rfl (L 0 (Nat.zero_le _) ap (fun v hv => absurd hv (by omega)))
set_option maxHeartbeats 4000000 in
set_option maxRecDepth 100000 in
theorem m_all (hn : n ≤ 12) : xMet l yX6_all wX6_all (rD 0) D vwCl (tyC cI cII cP cZ) nwC [.ref (bd 0)] (mw bd cI cZ n am al on ot we th be ne cu nw pa br pc ap pn ls gr tl co ++ X) (mw bd cI cZ n am al on ot we th be ne cu nw pa br pc ap pn ls gr tl co ++ X) (some (.int (nI (2 ^ n - 1)))) := by
  refine xMet_of (cc := cX6_all) (maxL := 1) (ret := (some .int)) (by decide +kernel) rfl (Nat.le_of_ble_eq_true rfl) xfi ?_
  intro E S hnm hret
  show xW E D vwCl 1 0 0 _ [(0, .ref (bd 0))] 0 []
  refine x_iconst (v := 1) S dX6_all_0 rfl ?_
  refine x_aload_n S dX6_all_1 0 rfl rfl ?_
  refine x_get S 0 0 rfl rfl inC6 (by decide) (gC _ tw465) rfl rfl dX6_all_2 ?_
  refine x_ishl S dX6_all_5 ?_
  refine x_iconst (v := 1) S dX6_all_6 rfl ?_
  refine x_isub S dX6_all_7 ?_
  refine x_ret hret ?_ dX6_all_8
  rw [pl_one (by omega)]
  exact pk_sub (Nat.two_pow_pos n)
set_option maxHeartbeats 4000000 in
set_option maxRecDepth 100000 in
theorem m_areTwo (a b : Int32) : xMet l yX6_areTwo wX6_areTwo (rD 0) D vwCl (tyC cI cII cP cZ) nwC [.ref (bd 0), .int a, .int b] (mw bd cI cZ n am al on ot we th be ne cu nw pa br pc ap pn ls gr tl co ++ X) (mw bd cI cZ n am al on ot we th be ne cu nw pa br pc ap pn ls gr tl co ++ X) (some (.int (if isP2 n a b then 1 else 0))) := by
  refine xMet_of (cc := cX6_areTwo) (maxL := 3) (ret := (some .boolean)) (by decide +kernel) rfl (Nat.le_of_ble_eq_true rfl) xfz ?_
  intro E S hnm hret
  show xW E D vwCl 3 0 0 _ [(0, .ref (bd 0)), (1, .int a), (2, .int b)] 0 []
  refine x_iload_n S dX6_areTwo_0 1 rfl rfl ?_
  refine x_if_lt (tgt := 33) S dX6_areTwo_1 (by decide) (fun h1 => ?_) (fun h1 => ?_)
  · refine x_iconst (v := 0) S dX6_areTwo_33 rfl ?_
    exact x_ret hret (if_neg (fun q => Int32.not_lt.mpr q.1.1 h1)).symm dX6_areTwo_34
  refine x_iload_n S dX6_areTwo_4 1 rfl rfl ?_
  refine x_aload_n S dX6_areTwo_5 0 rfl rfl ?_
  refine x_get S 0 0 rfl rfl inC6 (by decide) (gC _ tw465) rfl rfl dX6_areTwo_6 ?_
  refine x_icmp_ge (tgt := 33) S dX6_areTwo_9 (by decide) (fun h2 => ?_) (fun h2 => ?_)
  · refine x_iconst (v := 0) S dX6_areTwo_33 rfl ?_
    exact x_ret hret (if_neg (fun q => Int32.not_lt.mpr h2 q.1.2)).symm dX6_areTwo_34
  refine x_iload_n S dX6_areTwo_12 2 rfl rfl ?_
  refine x_if_lt (tgt := 33) S dX6_areTwo_13 (by decide) (fun h3 => ?_) (fun h3 => ?_)
  · refine x_iconst (v := 0) S dX6_areTwo_33 rfl ?_
    exact x_ret hret (if_neg (fun q => Int32.not_lt.mpr q.2.1.1 h3)).symm dX6_areTwo_34
  refine x_iload_n S dX6_areTwo_16 2 rfl rfl ?_
  refine x_aload_n S dX6_areTwo_17 0 rfl rfl ?_
  refine x_get S 0 0 rfl rfl inC6 (by decide) (gC _ tw465) rfl rfl dX6_areTwo_18 ?_
  refine x_icmp_ge (tgt := 33) S dX6_areTwo_21 (by decide) (fun h4 => ?_) (fun h4 => ?_)
  · refine x_iconst (v := 0) S dX6_areTwo_33 rfl ?_
    exact x_ret hret (if_neg (fun q => Int32.not_lt.mpr h4 q.2.1.2)).symm dX6_areTwo_34
  refine x_iload_n S dX6_areTwo_24 1 rfl rfl ?_
  refine x_iload_n S dX6_areTwo_25 2 rfl rfl ?_
  refine x_icmp_eq (tgt := 33) S dX6_areTwo_26 (by decide) (fun h5 => ?_) (fun h5 => ?_)
  · refine x_iconst (v := 0) S dX6_areTwo_33 rfl ?_
    exact x_ret hret (if_neg (fun q => q.2.2 h5)).symm dX6_areTwo_34
  refine x_iconst (v := 1) S dX6_areTwo_29 rfl ?_
  refine x_goto (tgt := 34) S dX6_areTwo_30 (by decide) ?_
  exact x_ret hret (if_pos ⟨⟨Int32.not_lt.mp h1, Int32.not_le.mp h2⟩, ⟨Int32.not_lt.mp h3, Int32.not_le.mp h4⟩, h5⟩).symm dX6_areTwo_34
set_option maxHeartbeats 4000000 in
set_option maxRecDepth 100000 in
theorem m_sideOf {a b Z : Nat} (hA : aOK n am fr to wt) (hC : vOK n am fr to wt cu) (ha : a < n) (hb : b < n) (hZ : isFM (kC fr to wt am) (isSd n a b) Z) : xMet l yX6_sideOf wX6_sideOf (rD 1) D vwCl (tyC cI cII cP cZ) nwC [.ref (bd 0), .int (nI a), .int (nI b)] (mw bd cI cZ n am al on ot we th be ne cu nw pa br pc ap pn ls gr tl co ++ X) (mw bd cI cZ n am al on ot we th be ne cu nw pa br pc ap pn (nI (kC fr to wt am Z)) gr tl co ++ X) (some (.int (nI Z))) := by
  refine xMet_of (cc := cX6_sideOf) (maxL := 5) (ret := (some .int)) (by decide +kernel) rfl (Nat.le_of_ble_eq_true rfl) xfi ?_
  intro E S hnm hret
  show xW E D vwCl 5 0 0 _ [(0, .ref (bd 0)), (1, .int (nI a)), (2, .int (nI b))] 0 []
  have hn := hA.1
  have hpn := pl_pow12 hn
  have hp0 := Nat.two_pow_pos n
  have hbd : ∀ T, kC fr to wt am T < 2 ^ 31 := fun T => by have := hA.cf T; omega
  have L : ∀ s, s ≤ 2 ^ n - 1 → 1 ≤ s → ∀ (side : Nat) (y : Int32), sOf (kC fr to wt am) n a b s side y → xW E D vwCl 5 0 0 (mw bd cI cZ n am al on ot we th be ne cu nw pa br pc ap pn y gr tl co ++ X) [(0, .ref (bd 0)), (1, .int (nI a)), (2, .int (nI b)), (3, .int (nI side)), (4, .int (nI s))] 10 [] := by
    refine pl_up (2 ^ n - 1) (fun s hs ih => ?_)
    intro hs1 side y hso
    refine x_iload S dX6_sideOf_10 4 rfl ?_
    refine x_aload_n S dX6_sideOf_12 0 rfl rfl ?_
    refine x_cVi (n := 0) S (m_all hn) (gGV gC tw558 tw555 tw557 ts16 tw7) rfl (by decide +kernel) 0 rfl rfl rfl rfl (Nat.le_of_ble_eq_true rfl) dX6_sideOf_13 ⟨by decide, by decide⟩ ⟨Nat.le_of_ble_eq_true rfl, Nat.le_of_ble_eq_true rfl⟩ ?_
    refine x_icmp_ge (tgt := 101) S dX6_sideOf_16 (by decide) (fun h1 => ?_) (fun h1 => ?_)
    · have hs2 : s = 2 ^ n - 1 := Nat.le_antisymm hs ((nI_leI (by omega) (by omega)).mp h1)
      have hf := sOf_fin hso (fun T hT => by
        rcases Nat.lt_or_ge T s with q | q
        · exact q
        · have e : T = 2 ^ n - 1 := by have := hT.1; omega
          have := hT.2.2
          rw [e, Nat.testBit_two_pow_sub_one] at this
          simp at this
          omega) hZ
      rw [hf.1, hf.2]
      refine x_iload_n S dX6_sideOf_101 3 rfl rfl ?_
      exact x_ret hret rfl dX6_sideOf_102
    have hs2 : s < 2 ^ n - 1 := Nat.lt_of_not_le (fun q => h1 (nI_le q (by omega)))
    have ih := ih hs2 (by omega)
    have hcs := hC s (by omega)
    have hbs := hbd s
    refine x_iload S dX6_sideOf_19 4 rfl ?_
    refine x_iload_n S dX6_sideOf_21 1 rfl rfl ?_
    refine x_ishr S dX6_sideOf_22 ?_
    refine x_iconst (v := 1) S dX6_sideOf_23 rfl ?_
    refine x_iand S dX6_sideOf_24 ?_
    refine x_iconst (v := 1) S dX6_sideOf_25 rfl ?_
    refine x_icmp_ne (tgt := 95) S dX6_sideOf_26 (by decide) (fun h2 => ?_) (fun h2 => ?_)
    · refine x_iincN (lv' := [(4, .int _), (0, .ref _), (1, .int _), (2, .int _), (3, .int _)]) S dX6_sideOf_95 4 rfl (by decide) rfl ?_
      refine x_goto (tgt := 10) S dX6_sideOf_98 (by decide) ?_
      exact x_sub [1, 2, 3, 4, 0] rfl (ih side y (sOf_skip hso (fun q => h2 ((pl_bit1 (by omega) (by omega)).mpr q.2.1))))
    have h2 := (pl_bit1 (by omega) (by omega)).mp h2
    refine x_iload S dX6_sideOf_29 4 rfl ?_
    refine x_iload_n S dX6_sideOf_31 2 rfl rfl ?_
    refine x_ishr S dX6_sideOf_32 ?_
    refine x_iconst (v := 1) S dX6_sideOf_33 rfl ?_
    refine x_iand S dX6_sideOf_34 ?_
    refine x_if_ne (tgt := 95) S dX6_sideOf_35 (by decide) (fun h3 => ?_) (fun h3 => ?_)
    · refine x_iincN (lv' := [(4, .int _), (0, .ref _), (1, .int _), (2, .int _), (3, .int _)]) S dX6_sideOf_95 4 rfl (by decide) rfl ?_
      refine x_goto (tgt := 10) S dX6_sideOf_98 (by decide) ?_
      exact x_sub [1, 2, 3, 4, 0] rfl (ih side y (sOf_skip hso (fun q => h3 ((pl_bit0 (by omega) (by omega)).mpr q.2.2))))
    have h3 := (pl_bit0 (by omega) (by omega)).mp h3
    have hsd : isSd n a b s := ⟨by omega, h2, h3⟩
    have h4k : s < 4096 := by omega
    rcases hso.2 with ⟨q, rfl⟩ | ⟨m, rfl, hm, hx, hlo, hbits⟩
    · have hnew := sOf_low hsd h4k hbs (fun T hT h => absurd h (q T hT))
      refine x_aload_n S dX6_sideOf_38 0 rfl rfl ?_
      refine x_get S 0 16 rfl rfl inC6 (by decide) (gC _ tw481) rfl rfl dX6_sideOf_39 ?_
      refine x_if_lt (tgt := 59) S dX6_sideOf_42 (by decide) (fun h5 => ?_) (fun h5 => ?_)
      · refine x_aload_n S dX6_sideOf_59 0 rfl rfl ?_
        refine x_aload_n S dX6_sideOf_60 0 rfl rfl ?_
        refine x_get S 0 9 rfl rfl inC6 (by decide) (gC _ tw474) rfl rfl dX6_sideOf_61 ?_
        refine x_iload S dX6_sideOf_64 4 rfl ?_
        refine x_ialdN S 7 0 (s) rfl rfl rfl (by omega) (by decide) dX6_sideOf_66 ?_
        rw [hcs]
        refine x_put (ws' := (mw bd cI cZ n am al on ot we th be ne cu nw pa br pc ap pn (nI (kC fr to wt am s)) gr tl co ++ X)) S 0 16 rfl rfl inC6 tyX6 tyX6_ok nmX6 (by decide) (gC _ tw481) rfl rfl (tyX6_ok 16 (by decide)) rfl rfl (Nat.le_of_ble_eq_true rfl) dX6_sideOf_67 rfl ?_
        refine x_iload S dX6_sideOf_70 4 rfl ?_
        refine x_istore_n (lv' := [(3, .int _), (0, .ref _), (1, .int _), (2, .int _), (4, .int _)]) S dX6_sideOf_72 rfl (by decide) rfl ?_
        refine x_goto (tgt := 95) S dX6_sideOf_73 (by decide) ?_
        refine x_iincN (lv' := [(4, .int _), (3, .int _), (0, .ref _), (1, .int _), (2, .int _)]) S dX6_sideOf_95 4 rfl (by decide) rfl ?_
        refine x_goto (tgt := 10) S dX6_sideOf_98 (by decide) ?_
        exact x_sub [2, 3, 4, 1, 0] rfl (ih s _ hnew)
      exact absurd (by decide) h5
    refine x_aload_n S dX6_sideOf_38 0 rfl rfl ?_
    refine x_get S 0 16 rfl rfl inC6 (by decide) (gC _ tw481) rfl rfl dX6_sideOf_39 ?_
    refine x_if_lt (tgt := 59) S dX6_sideOf_42 (by decide) (fun h5 => ?_) (fun h5 => ?_)
    · exact absurd h5 (nI_pos hm)
    refine x_aload_n S dX6_sideOf_45 0 rfl rfl ?_
    refine x_get S 0 9 rfl rfl inC6 (by decide) (gC _ tw474) rfl rfl dX6_sideOf_46 ?_
    refine x_iload S dX6_sideOf_49 4 rfl ?_
    refine x_ialdN S 7 0 (s) rfl rfl rfl (by omega) (by decide) dX6_sideOf_51 ?_
    rw [hcs]
    refine x_aload_n S dX6_sideOf_52 0 rfl rfl ?_
    refine x_get S 0 16 rfl rfl inC6 (by decide) (gC _ tw481) rfl rfl dX6_sideOf_53 ?_
    refine x_icmp_ge (tgt := 76) S dX6_sideOf_56 (by decide) (fun h6 => ?_) (fun h6 => ?_)
    rotate_left
    · refine x_aload_n S dX6_sideOf_59 0 rfl rfl ?_
      refine x_aload_n S dX6_sideOf_60 0 rfl rfl ?_
      refine x_get S 0 9 rfl rfl inC6 (by decide) (gC _ tw474) rfl rfl dX6_sideOf_61 ?_
      refine x_iload S dX6_sideOf_64 4 rfl ?_
      refine x_ialdN S 7 0 (s) rfl rfl rfl (by omega) (by decide) dX6_sideOf_66 ?_
      rw [hcs]
      refine x_put (ws' := (mw bd cI cZ n am al on ot we th be ne cu nw pa br pc ap pn (nI (kC fr to wt am s)) gr tl co ++ X)) S 0 16 rfl rfl inC6 tyX6 tyX6_ok nmX6 (by decide) (gC _ tw481) rfl rfl (tyX6_ok 16 (by decide)) rfl rfl (Nat.le_of_ble_eq_true rfl) dX6_sideOf_67 rfl ?_
      refine x_iload S dX6_sideOf_70 4 rfl ?_
      refine x_istore_n (lv' := [(3, .int _), (0, .ref _), (1, .int _), (2, .int _), (4, .int _)]) S dX6_sideOf_72 rfl (by decide) rfl ?_
      refine x_goto (tgt := 95) S dX6_sideOf_73 (by decide) ?_
      refine x_iincN (lv' := [(4, .int _), (3, .int _), (0, .ref _), (1, .int _), (2, .int _)]) S dX6_sideOf_95 4 rfl (by decide) rfl ?_
      refine x_goto (tgt := 10) S dX6_sideOf_98 (by decide) ?_
      exact x_sub [2, 3, 4, 1, 0] rfl (ih s _ (sOf_low hsd h4k hbs (fun T hT h => by have := hlo T hT h; have := Nat.lt_of_not_le (fun q => h6 (nI_le q hbs)); omega)))
    have h6 := (nI_leI hm hbs).mp h6
    refine x_aload_n S dX6_sideOf_76 0 rfl rfl ?_
    refine x_get S 0 9 rfl rfl inC6 (by decide) (gC _ tw474) rfl rfl dX6_sideOf_77 ?_
    refine x_iload S dX6_sideOf_80 4 rfl ?_
    refine x_ialdN S 7 0 (s) rfl rfl rfl (by omega) (by decide) dX6_sideOf_82 ?_
    rw [hcs]
    refine x_aload_n S dX6_sideOf_83 0 rfl rfl ?_
    refine x_get S 0 16 rfl rfl inC6 (by decide) (gC _ tw481) rfl rfl dX6_sideOf_84 ?_
    refine x_icmp_ne (tgt := 95) S dX6_sideOf_87 (by decide) (fun h7 => ?_) (fun h7 => ?_)
    · refine x_iincN (lv' := [(4, .int _), (0, .ref _), (1, .int _), (2, .int _), (3, .int _)]) S dX6_sideOf_95 4 rfl (by decide) rfl ?_
      refine x_goto (tgt := 10) S dX6_sideOf_98 (by decide) ?_
      exact x_sub [1, 2, 3, 4, 0] rfl (ih side _ (sOf_more hso.1 hm hx hlo hbits (by have : kC fr to wt am s ≠ m := fun q => h7 (by rw [q]); omega)))
    have h7 := pl_inj hbs hm h7
    refine x_iload_n S dX6_sideOf_90 3 rfl rfl ?_
    refine x_iload S dX6_sideOf_91 4 rfl ?_
    refine x_iand S dX6_sideOf_93 ?_
    refine x_top (nI (side &&& s)) (pl_and _ _) ?_
    refine x_istore_n (lv' := [(3, .int _), (0, .ref _), (1, .int _), (2, .int _), (4, .int _)]) S dX6_sideOf_94 rfl (by decide) rfl ?_
    refine x_iincN (lv' := [(4, .int _), (3, .int _), (0, .ref _), (1, .int _), (2, .int _)]) S dX6_sideOf_95 4 rfl (by decide) rfl ?_
    refine x_goto (tgt := 10) S dX6_sideOf_98 (by decide) ?_
    exact x_sub [2, 3, 4, 1, 0] rfl (ih _ _ (sOf_and hso.1 hm hx hlo hbits hsd h7))
  refine x_aload_n S dX6_sideOf_0 0 rfl rfl ?_
  refine x_iconst (v := -1) S dX6_sideOf_1 rfl ?_
  refine x_put (ws' := (mw bd cI cZ n am al on ot we th be ne cu nw pa br pc ap pn (-1) gr tl co ++ X)) S 0 16 rfl rfl inC6 tyX6 tyX6_ok nmX6 (by decide) (gC _ tw481) rfl rfl (tyX6_ok 16 (by decide)) rfl rfl (Nat.le_of_ble_eq_true rfl) dX6_sideOf_2 rfl ?_
  refine x_iconst (v := 0) S dX6_sideOf_5 rfl ?_
  refine x_istore_n (lv' := [(3, .int _), (0, .ref _), (1, .int _), (2, .int _)]) S dX6_sideOf_6 rfl (by decide) rfl ?_
  refine x_iconst (v := 1) S dX6_sideOf_7 rfl ?_
  refine x_istore (lv' := [(4, .int _), (3, .int _), (0, .ref _), (1, .int _), (2, .int _)]) S dX6_sideOf_8 (by decide) rfl ?_
  exact x_sub [2, 3, 4, 1, 0] rfl (L 1 (by have := Nat.pow_le_pow_right (n := 2) (by omega) (show 1 ≤ n by omega); omega) (Nat.le_refl _) 0 (-1) sOf_0)
set_option maxHeartbeats 4000000 in
set_option maxRecDepth 100000 in
theorem m_tree (h1 : 1 ≤ n) (hA : aOK n am fr to wt) (hC : vOK n am fr to wt cu) : xMetS l yX6_tree wX6_tree (rD 2) D vwCl (tyC cI cII cP cZ) nwC [.ref (bd 0)] (mw bd cI cZ n am al on ot we th be ne cu nw pa br pc ap pn ls gr tl co ++ X) (fun u : (Nat → Nat) × (Nat → Nat) × Int32 => trOK n am fr to wt u.1 u.2.1) (fun u => (mw bd cI cZ n am al on ot we th be ne cu nw u.1 u.2.1 pc ap pn u.2.2 gr tl co ++ X)) (fun _ => none) := by
  refine xMetS_of (cc := cX6_tree) (maxL := 5) (ret := none) (by decide +kernel) rfl (Nat.le_of_ble_eq_true rfl) (fun _ _ => xfv) ?_
  intro E S hnm hret
  show xW E D vwCl 5 0 0 _ [(0, .ref (bd 0))] 0 []
  have hn := hA.1
  have L2 : ∀ v, v ≤ n → 1 ≤ v → ∀ (c b : Nat → Nat) (y : Int32), (∀ j, j < n → c j = kPa (kC fr to wt am) n v j) → (∀ j, 1 ≤ j → j < v → b j = kBr (kC fr to wt am) n j) → xW E D vwCl 5 0 0 (mw bd cI cZ n am al on ot we th be ne cu nw c b pc ap pn y gr tl co ++ X) [(0, .ref (bd 0)), (1, .int (nI v))] 25 [] := by
    refine pl_up n (fun v hv ih => ?_)
    intro hv1 c b y g1 g2
    refine x_iload_n S dX6_tree_25 1 rfl rfl ?_
    refine x_aload_n S dX6_tree_26 0 rfl rfl ?_
    refine x_get S 0 0 rfl rfl inC6 (by decide) (gC _ tw465) rfl rfl dX6_tree_27 ?_
    refine x_icmp_ge (tgt := 112) S dX6_tree_30 (by decide) (fun h3 => ?_) (fun h3 => ?_)
    · have hv2 : v = n := Nat.le_antisymm hv ((nI_leI (by omega) (by omega)).mp h3)
      subst hv2
      exact hret ((c, b, y)) _ _ ⟨g1, g2⟩ dX6_tree_112
    have hv2 : v < n := Nat.lt_of_not_le (fun h => h3 (nI_le h (by omega)))
    have ih := ih hv2 (by omega)
    obtain ⟨q, hq⟩ : ∃ q, q = kPa (kC fr to wt am) n v := ⟨_, rfl⟩
    rw [← hq] at g1
    have hqv : q v < v := by rw [hq]; exact kPa_lt _ _ _ _ hv1
    have hqs : ∀ j, j < n → q j < 2 ^ 31 := fun j hj => by
      rcases Nat.eq_zero_or_pos j with e | e
      · rw [hq, e, kPa_0]; omega
      · have := kPa_lt (kC fr to wt am) n v j e
        rw [hq]; omega
    have hZ := kZ_ok (cf := kC fr to wt am) (n := n) (a := v) (b := q v) hv2 (by omega)
    have hbv : ∀ j, 1 ≤ j → j < v + 1 → va_up b v (kC fr to wt am (kZ (kC fr to wt am) n v (q v))) j = kBr (kC fr to wt am) n j := fun j hj1 hj => (Nat.lt_or_ge j v).elim (fun h => by rw [va_up_ne _ _ (by omega)]; exact g2 j hj1 h) (fun h => by
      have e : j = v := by omega
      subst e
      rw [va_up_self]
      unfold kBr
      have hk := kPa_keep (kC fr to wt am) n (n - j) j j (Nat.le_refl _)
      rw [show j + (n - j) = n by omega] at hk
      rw [hk, hq])
    have hps : ∀ j, kPa (kC fr to wt am) n (v + 1) j = kHg (kC fr to wt am) n q v j := fun j => by rw [kPa_s hv1, hq]
    generalize hz : kZ (kC fr to wt am) n v (q v) = z at hZ hbv
    have hzl : z < 4096 := Nat.lt_of_lt_of_le hZ.1.1 (pl_pow12 hn)
    have L3 : ∀ k, k ≤ n → v + 1 ≤ k → ∀ c : Nat → Nat, (∀ j, j < k → j < n → c j = kHg (kC fr to wt am) n q v j) → (∀ j, k ≤ j → j < n → c j = q j) → xW E D vwCl 5 0 0 (mw bd cI cZ n am al on ot we th be ne cu nw c (va_up b v (kC fr to wt am z)) pc ap pn (nI (kC fr to wt am z)) gr tl co ++ X) [(0, .ref (bd 0)), (1, .int (nI v)), (2, .int (nI (q v))), (3, .int (nI z)), (4, .int (nI k))] 62 [] := by
      refine pl_up n (fun k hk ih3 => ?_)
      intro hk1 c g1 g2
      refine x_iload S dX6_tree_62 4 rfl ?_
      refine x_aload_n S dX6_tree_64 0 rfl rfl ?_
      refine x_get S 0 0 rfl rfl inC6 (by decide) (gC _ tw465) rfl rfl dX6_tree_65 ?_
      refine x_icmp_ge (tgt := 106) S dX6_tree_68 (by decide) (fun h3 => ?_) (fun h3 => ?_)
      · have hk2 : k = n := Nat.le_antisymm hk ((nI_leI (by omega) (by omega)).mp h3)
        subst hk2
        refine x_iincN (lv' := [(1, .int _), (0, .ref _), (2, .int _), (3, .int _), (4, .int _)]) S dX6_tree_106 1 rfl (by decide) rfl ?_
        refine x_goto (tgt := 25) S dX6_tree_109 (by decide) ?_
        exact x_sub [1, 0] rfl (ih c _ _ (fun j hj => by rw [hps]; exact g1 j hj hj) hbv)
      have hk2 : k < n := Nat.lt_of_not_le (fun h => h3 (nI_le h (by omega)))
      have e1 := g2 k (Nat.le_refl _) hk2
      have ih3 := ih3 hk2 (by omega)
      have T0 : ¬ (q k = q v ∧ z.testBit k = true) → ∀ j, j < k + 1 → j < n → c j = kHg (kC fr to wt am) n q v j := fun hne j hj hjn => (Nat.lt_or_ge j k).elim (fun h => g1 j h hjn) (fun h => by
        have hjk : j = k := by omega
        subst hjk
        unfold kHg
        rw [if_neg (fun w => hne ⟨w.2.1, by rw [← hz]; exact w.2.2⟩), e1])
      refine x_aload_n S dX6_tree_71 0 rfl rfl ?_
      refine x_get S 0 11 rfl rfl inC6 (by decide) (gC _ tw476) rfl rfl dX6_tree_72 ?_
      refine x_iload S dX6_tree_75 4 rfl ?_
      refine x_ialdN S 8 0 (k) rfl rfl rfl (by omega) (by decide) dX6_tree_77 ?_
      rw [e1]
      have hqe : nI (q k) = nI (q v) → q k = q v := fun h => pl_inj (hqs k hk2) (hqs v hv2) h
      refine x_iload_n S dX6_tree_78 2 rfl rfl ?_
      refine x_icmp_ne (tgt := 100) S dX6_tree_79 (by decide) (fun h4 => ?_) (fun h4 => ?_)
      rotate_left
      · refine x_iload_n S dX6_tree_82 3 rfl rfl ?_
        refine x_iload S dX6_tree_83 4 rfl ?_
        refine x_ishr S dX6_tree_85 ?_
        refine x_iconst (v := 1) S dX6_tree_86 rfl ?_
        refine x_iand S dX6_tree_87 ?_
        refine x_iconst (v := 1) S dX6_tree_88 rfl ?_
        refine x_icmp_ne (tgt := 100) S dX6_tree_89 (by decide) (fun h5 => ?_) (fun h5 => ?_)
        rotate_left
        · have hb : z.testBit k = true := (pl_bit1 (by omega) (by omega)).mp h5
          refine x_aload_n S dX6_tree_92 0 rfl rfl ?_
          refine x_get S 0 11 rfl rfl inC6 (by decide) (gC _ tw476) rfl rfl dX6_tree_93 ?_
          refine x_iload S dX6_tree_96 4 rfl ?_
          refine x_iload_n S dX6_tree_98 1 rfl rfl ?_
          refine x_iastN (ws' := (mw bd cI cZ n am al on ot we th be ne cu nw (va_up c k v) (va_up b v (kC fr to wt am z)) pc ap pn (nI (kC fr to wt am z)) gr tl co ++ X)) (z := v) S 8 0 (k) rfl rfl rfl (by omega) (by decide) rfl dX6_tree_99 rfl ?_
          refine x_iincN (lv' := [(4, .int _), (0, .ref _), (1, .int _), (2, .int _), (3, .int _)]) S dX6_tree_100 4 rfl (by decide) rfl ?_
          refine x_goto (tgt := 62) S dX6_tree_103 (by decide) ?_
          exact x_sub [1, 2, 3, 4, 0] rfl (ih3 _ (fun j hj hjn => (Nat.lt_or_ge j k).elim (fun h => by rw [va_up_ne _ _ (by omega)]; exact g1 j h hjn) (fun h => by have hjk : j = k := (by omega); subst hjk; rw [va_up_self]; unfold kHg; rw [if_pos ⟨by omega, hqe h4, by rw [hz]; exact hb⟩])) (fun j hj hjn => by rw [va_up_ne _ _ (by omega)]; exact g2 j (by omega) hjn))
        refine x_iincN (lv' := [(4, .int _), (0, .ref _), (1, .int _), (2, .int _), (3, .int _)]) S dX6_tree_100 4 rfl (by decide) rfl ?_
        refine x_goto (tgt := 62) S dX6_tree_103 (by decide) ?_
        exact x_sub [1, 2, 3, 4, 0] rfl (ih3 c (T0 (fun w => h5 ((pl_bit1 (by omega) (by omega)).mpr w.2))) (fun j hj hjn => g2 j (by omega) hjn))
      refine x_iincN (lv' := [(4, .int _), (0, .ref _), (1, .int _), (2, .int _), (3, .int _)]) S dX6_tree_100 4 rfl (by decide) rfl ?_
      refine x_goto (tgt := 62) S dX6_tree_103 (by decide) ?_
      exact x_sub [1, 2, 3, 4, 0] rfl (ih3 c (T0 (fun w => h4 (by rw [w.1]))) (fun j hj hjn => g2 j (by omega) hjn))
    refine x_aload_n S dX6_tree_33 0 rfl rfl ?_
    refine x_get S 0 11 rfl rfl inC6 (by decide) (gC _ tw476) rfl rfl dX6_tree_34 ?_
    refine x_iload_n S dX6_tree_37 1 rfl rfl ?_
    refine x_ialdN S 8 0 (v) rfl rfl rfl (by omega) (by decide) dX6_tree_38 ?_
    rw [g1 v hv2]
    refine x_istore_n (lv' := [(2, .int _), (0, .ref _), (1, .int _)]) S dX6_tree_39 rfl (by decide) rfl ?_
    refine x_aload_n S dX6_tree_40 1 rfl rfl ?_
    refine x_iload_n S dX6_tree_41 2 rfl rfl ?_
    refine x_iload_n S dX6_tree_42 0 rfl rfl ?_
    refine x_cVi (n := 2) S (m_sideOf hA hC hv2 (by omega) hZ) (gGV gC tw570 tw567 tw569 ts19 tw7) rfl (by decide +kernel) 0 rfl rfl rfl rfl (Nat.le_of_ble_eq_true rfl) dX6_tree_43 ⟨by decide, by decide⟩ ⟨Nat.le_of_ble_eq_true rfl, Nat.le_of_ble_eq_true rfl⟩ ?_
    refine x_istore_n (lv' := [(3, .int _), (2, .int _), (0, .ref _), (1, .int _)]) S dX6_tree_46 rfl (by decide) rfl ?_
    refine x_aload_n S dX6_tree_47 2 rfl rfl ?_
    refine x_get S 0 12 rfl rfl inC6 (by decide) (gC _ tw477) rfl rfl dX6_tree_48 ?_
    refine x_iload_n S dX6_tree_51 3 rfl rfl ?_
    refine x_aload_n S dX6_tree_52 2 rfl rfl ?_
    refine x_get S 0 16 rfl rfl inC6 (by decide) (gC _ tw481) rfl rfl dX6_tree_53 ?_
    refine x_iastN (ws' := (mw bd cI cZ n am al on ot we th be ne cu nw c (va_up b v (kC fr to wt am z)) pc ap pn (nI (kC fr to wt am z)) gr tl co ++ X)) S 9 0 (v) rfl rfl rfl (by omega) (by decide) rfl dX6_tree_56 rfl ?_
    refine x_iload_n S dX6_tree_57 3 rfl rfl ?_
    refine x_iconst (v := 1) S dX6_tree_58 rfl ?_
    refine x_iadd S dX6_tree_59 ?_
    refine x_top (nI (v + 1)) (nI_1 v) ?_
    refine x_istore (lv' := [(4, .int _), (3, .int _), (2, .int _), (0, .ref _), (1, .int _)]) S dX6_tree_60 (by decide) rfl ?_
    exact x_sub [3, 4, 2, 1, 0] rfl (L3 (v + 1) hv2 (Nat.le_refl _) c (fun j hj hjn => by rw [g1 j hjn]; unfold kHg; rw [if_neg (fun w => by omega)]) (fun j _ hjn => g1 j hjn))
  have L1 : ∀ k, k ≤ n → ∀ c : Nat → Nat, (∀ j, j < k → c j = 0) → xW E D vwCl 5 0 0 (mw bd cI cZ n am al on ot we th be ne cu nw c br pc ap pn ls gr tl co ++ X) [(0, .ref (bd 0)), (1, .int (nI k))] 2 [] := by
    refine pl_up n (fun k hk ih => ?_)
    intro c g1
    refine x_iload_n S dX6_tree_2 1 rfl rfl ?_
    refine x_aload_n S dX6_tree_3 0 rfl rfl ?_
    refine x_get S 0 0 rfl rfl inC6 (by decide) (gC _ tw465) rfl rfl dX6_tree_4 ?_
    refine x_icmp_ge (tgt := 23) S dX6_tree_7 (by decide) (fun h3 => ?_) (fun h3 => ?_)
    · have hk2 : k = n := Nat.le_antisymm hk ((nI_leI (by omega) (by omega)).mp h3)
      subst hk2
      refine x_iconst (v := 1) S dX6_tree_23 rfl ?_
      refine x_istore_n (lv' := [(1, .int _), (0, .ref _)]) S dX6_tree_24 rfl (by decide) rfl ?_
      exact x_sub [1, 0] rfl (L2 1 h1 (Nat.le_refl _) c br ls (fun j hj => by rw [kPa_1]; exact g1 j hj) (fun j h h' => absurd h' (by omega)))
    have hk2 : k < n := Nat.lt_of_not_le (fun h => h3 (nI_le h (by omega)))
    refine x_aload_n S dX6_tree_10 0 rfl rfl ?_
    refine x_get S 0 11 rfl rfl inC6 (by decide) (gC _ tw476) rfl rfl dX6_tree_11 ?_
    refine x_iload_n S dX6_tree_14 1 rfl rfl ?_
    refine x_iconst (v := 0) S dX6_tree_15 rfl ?_
    refine x_iastN (ws' := (mw bd cI cZ n am al on ot we th be ne cu nw (va_up c k 0) br pc ap pn ls gr tl co ++ X)) (z := 0) S 8 0 (k) rfl rfl rfl (by omega) (by decide) rfl dX6_tree_16 rfl ?_
    refine x_iincN (lv' := [(1, .int _), (0, .ref _)]) S dX6_tree_17 1 rfl (by decide) rfl ?_
    refine x_goto (tgt := 2) S dX6_tree_20 (by decide) ?_
    exact x_sub [1, 0] rfl (ih hk2 _ (fun j hj => (Nat.lt_or_ge j k).elim (fun h => by rw [va_up_ne _ _ (by omega)]; exact g1 j h) (fun h => by rw [show j = k by omega, va_up_self])))
  refine x_iconst (v := 0) S dX6_tree_0 rfl ?_
  refine x_istore_n (lv' := [(1, .int _), (0, .ref _)]) S dX6_tree_1 rfl (by decide) rfl ?_
  exact x_sub [1, 0] rfl (L1 0 (Nat.zero_le _) pa (fun j hj => absurd hj (by omega)))
end M1
end
section
/-! the reference: contracts, 2 -/
section M2
def bOK (am : Nat) (fr to wt be ne : Nat → Nat) : Prop := (∀ a b, a < 12 → b < 12 → be (12 * a + b) = kM fr to wt am a b) ∧ ∀ a, a < 12 → ne a = kNb fr to wt am a
def aRel (am : Nat) (on ot we : Nat → Nat) (th : Nat → Bool) (fr to wt : Nat → Nat) : Prop := ∀ i, i < am → on i = fr i ∧ ot i = to i ∧ ((th i = true ∧ we i = wt i ∧ 0 < wt i) ∨ (th i = false ∧ wt i = 0))
theorem kM_succ (fr to wt : Nat → Nat) (k a b : Nat) : kM fr to wt (k + 1) a b = kM fr to wt k a b + if (fr k = a ∧ to k = b) ∨ (fr k = b ∧ to k = a) then wt k else 0 := rfl
theorem bOK_0 {fr to wt be ne : Nat → Nat} (h1 : ∀ i, i < 144 → be i = 0) (h2 : ∀ i, i < 12 → ne i = 0) : bOK 0 fr to wt be ne := ⟨fun a b ha hb => by rw [h1 _ (by omega)]; rfl, fun a ha => by rw [h2 a ha, kNb_0]⟩
theorem bOK_skip {fr to wt be ne : Nat → Nat} {k : Nat} (h : bOK k fr to wt be ne) (hw : wt k = 0) : bOK (k + 1) fr to wt be ne := by
  have e : ∀ a b, kM fr to wt (k + 1) a b = kM fr to wt k a b := fun a b => by rw [kM_succ, hw]; split <;> rfl
  refine ⟨fun a b ha hb => by rw [e]; exact h.1 a b ha hb, fun a ha => ?_⟩
  rw [h.2 a ha]
  exact nb_eq (kNb_lt _ _ _ _ _) (kNb_lt _ _ _ _ _) (fun b hb => by rw [kNb_t _ _ _ _ _ _ hb, kNb_t _ _ _ _ _ _ hb, e])
theorem bOK_add {fr to wt be ne be' ne' : Nat → Nat} {k o t : Nat} (h : bOK k fr to wt be ne) (ho : fr k = o) (ht : to k = t) (ho12 : o < 12) (ht12 : t < 12) (hot : o ≠ t) (hw : 0 < wt k)
    (hbe : be' = va_up (va_up be (12 * o + t) (be (12 * o + t) + wt k)) (12 * t + o) ((va_up be (12 * o + t) (be (12 * o + t) + wt k)) (12 * t + o) + wt k))
    (hne : ne' = va_up (va_up ne o (ne o ||| 2 ^ t)) t ((va_up ne o (ne o ||| 2 ^ t)) t ||| 2 ^ o)) : bOK (k + 1) fr to wt be' ne' := by
  have e0 : (va_up be (12 * o + t) (be (12 * o + t) + wt k)) (12 * t + o) = be (12 * t + o) := va_up_ne _ _ (by omega)
  have m1 : kM fr to wt (k + 1) o t = kM fr to wt k o t + wt k := by rw [kM_succ, if_pos (Or.inl ⟨ho, ht⟩)]
  have m2 : kM fr to wt (k + 1) t o = kM fr to wt k t o + wt k := by rw [kM_succ, if_pos (Or.inr ⟨ho, ht⟩)]
  have m3 : ∀ x y, ¬ ((x = o ∧ y = t) ∨ (x = t ∧ y = o)) → kM fr to wt (k + 1) x y = kM fr to wt k x y := fun x y q => by
    rw [kM_succ, if_neg (fun z => q (z.elim (fun z => Or.inl ⟨z.1.symm.trans ho, z.2.symm.trans ht⟩) (fun z => Or.inr ⟨z.2.symm.trans ht, z.1.symm.trans ho⟩))), Nat.add_zero]
  refine ⟨fun a b ha hb => ?_, ?_⟩
  · rw [hbe, e0]
    by_cases c1 : a = t ∧ b = o
    · obtain ⟨rfl, rfl⟩ := c1
      rw [va_up_self, m2, h.1 _ _ ha hb]
    · rw [va_up_ne _ _ (fun q => c1 (by omega))]
      by_cases c2 : a = o ∧ b = t
      · obtain ⟨rfl, rfl⟩ := c2
        rw [va_up_self, m1, h.1 _ _ ha hb]
      · rw [va_up_ne _ _ (fun q => c2 (by omega)), h.1 a b ha hb, m3 a b (fun q => q.elim c2 c1)]
  · have hmn := mn_upd (am := k) (am' := k + 1) (fr := fr) (to := to) (wt := wt) (fr' := fr) (to' := to) (wt' := wt) (nb := ne) (M := fun x y => kM fr to wt k x y) (a := o) (b := t) (fun _ _ _ _ => rfl) h.2 ho12 ht12 hot rfl rfl m3
    have e1 : decide (0 < kM fr to wt (k + 1) o t) = true := decide_eq_true (by omega)
    rw [e1] at hmn
    rw [hne]
    exact hmn.2
theorem st_out (A B x : Nat) : nI A - nI B + nI x = nI (A + x) - nI B := by
  rw [← nI_add, Int32.sub_eq_add_neg, Int32.sub_eq_add_neg, Int32.add_assoc, Int32.add_comm (-nI B), ← Int32.add_assoc]
theorem st_in (A B x : Nat) : nI A - nI B + -nI x = nI A - nI (B + x) := by
  rw [← nI_add, Int32.sub_eq_add_neg, Int32.sub_eq_add_neg, Int32.add_assoc, Int32.neg_add, Int32.sub_eq_add_neg]
theorem di_or {s v : Nat} (h : s.testBit v = true) : pl_di s (2 ^ v) ||| 2 ^ v = s := by
  apply Nat.eq_of_testBit_eq
  intro i
  rw [Nat.testBit_or, pl_di_t, Nat.testBit_two_pow]
  by_cases e : v = i
  · subst e; simp [h]
  · simp [e]
theorem di_bit (s v : Nat) : (pl_di s (2 ^ v)).testBit v = false := by
  rw [pl_di_t, Nat.testBit_two_pow]; simp
variable {l : Launch} {D : va_G} {bd : Nat → Nat} {cI cII cP cZ : ClassId} {n am al : Nat} {on ot we : Nat → Nat} {th : Nat → Bool} {be ne cu : Nat → Nat} {nw : Bool} {pa br pc : Nat → Nat} {ap : Nat → Bool} {pn : Nat → Nat} {ls : Int32} {gr : Nat → Nat} {tl : Nat → Int32} {co : Nat → Nat} {fr to wt : Nat → Nat} {X : va_W}
set_option maxHeartbeats 4000000 in
set_option maxRecDepth 100000 in
theorem m_tree0 (h0 : n = 0) : xMet l yX6_tree wX6_tree (rD 2) D vwCl (tyC cI cII cP cZ) nwC [.ref (bd 0)] (mw bd cI cZ n am al on ot we th be ne cu nw pa br pc ap pn ls gr tl co ++ X) (mw bd cI cZ n am al on ot we th be ne cu nw pa br pc ap pn ls gr tl co ++ X) none := by
  refine xMet_of (cc := cX6_tree) (maxL := 5) (ret := none) (by decide +kernel) rfl (Nat.le_of_ble_eq_true rfl) xfv ?_
  intro E S hnm hret
  show xW E D vwCl 5 0 0 _ [(0, .ref (bd 0))] 0 []
  subst h0
  refine x_iconst (v := 0) S dX6_tree_0 rfl ?_
  refine x_istore_n (lv' := [(1, .int _), (0, .ref _)]) S dX6_tree_1 rfl (by decide) rfl ?_
  refine x_iload_n S dX6_tree_2 0 rfl rfl ?_
  refine x_aload_n S dX6_tree_3 1 rfl rfl ?_
  refine x_get S 0 0 rfl rfl inC6 (by decide) (gC _ tw465) rfl rfl dX6_tree_4 ?_
  refine x_icmp_ge (tgt := 23) S dX6_tree_7 (by decide) (fun h3 => ?_) (fun h3 => ?_)
  · refine x_iconst (v := 1) S dX6_tree_23 rfl ?_
    refine x_istore_n (lv' := [(1, .int _), (0, .ref _)]) S dX6_tree_24 rfl (by decide) rfl ?_
    refine x_iload_n S dX6_tree_25 0 rfl rfl ?_
    refine x_aload_n S dX6_tree_26 1 rfl rfl ?_
    refine x_get S 0 0 rfl rfl inC6 (by decide) (gC _ tw465) rfl rfl dX6_tree_27 ?_
    refine x_icmp_ge (tgt := 112) S dX6_tree_30 (by decide) (fun h4 => ?_) (fun h4 => ?_)
    · exact hret _ _ dX6_tree_112
    exact absurd (by decide) h4
  exact absurd (by decide) h3
set_option maxHeartbeats 4000000 in
set_option maxRecDepth 100000 in
theorem m_make (hA : aOK n am fr to wt) (hL : aRel am on ot we th fr to wt) (hV : nw = false → bOK am fr to wt be ne ∧ vOK n am fr to wt cu ∧ trOK n am fr to wt pa br) : xMetS l yX6_make wX6_make (rD 3) D vwCl (tyC cI cII cP cZ) nwC [.ref (bd 0)] (mw bd cI cZ n am al on ot we th be ne cu nw pa br pc ap pn ls gr tl co ++ X) (fun u : (Nat → Nat) × (Nat → Nat) × (Nat → Nat) × (Nat → Nat) × (Nat → Nat) × Int32 => bOK am fr to wt u.1 u.2.1 ∧ vOK n am fr to wt u.2.2.1 ∧ trOK n am fr to wt u.2.2.2.1 u.2.2.2.2.1) (fun u => (mw bd cI cZ n am al on ot we th u.1 u.2.1 u.2.2.1 false u.2.2.2.1 u.2.2.2.2.1 pc ap pn u.2.2.2.2.2 gr tl co ++ X)) (fun _ => none) := by
  refine xMetS_of (cc := cX6_make) (maxL := 6) (ret := none) (by decide +kernel) rfl (Nat.le_of_ble_eq_true rfl) (fun _ _ => xfv) ?_
  intro E S hnm hret
  show xW E D vwCl 6 0 0 _ [(0, .ref (bd 0))] 0 []
  have hn := hA.1
  have ham := hA.2.1
  have hpn := pl_pow12 hn
  have hp0 := Nat.two_pow_pos n
  have hK : ∀ b e : Nat → Nat, bOK am fr to wt b e → ∀ s, s ≤ 2 ^ n → 1 ≤ s → ∀ c : Nat → Nat, (∀ p, p < s → c p = kC fr to wt am p) → xW E D vwCl 6 0 0 (mw bd cI cZ n am al on ot we th b e c false pa br pc ap pn ls gr tl co ++ X) [(0, .ref (bd 0)), (1, .int (nI s))] 194 [] := by
    intro b e hB
    refine pl_up (2 ^ n) (fun s hs ih => ?_)
    intro hs1 c hc
    refine x_iload_n S dX6_make_194 1 rfl rfl ?_
    refine x_aload_n S dX6_make_195 0 rfl rfl ?_
    refine x_cVi (n := 0) S (m_all hn) (gGV gC tw558 tw555 tw557 ts16 tw7) rfl (by decide +kernel) 0 rfl rfl rfl rfl (Nat.le_of_ble_eq_true rfl) dX6_make_196 ⟨by decide, by decide⟩ ⟨Nat.le_of_ble_eq_true rfl, Nat.le_of_ble_eq_true rfl⟩ ?_
    refine x_icmp_gt (tgt := 309) S dX6_make_199 (by decide) (fun h1 => ?_) (fun h1 => ?_)
    · have hs2 : s = 2 ^ n := by have := (nI_ltI (by omega) (by omega)).mp h1; omega
      subst hs2
      refine x_aload_n S dX6_make_309 0 rfl rfl ?_
      rcases Nat.eq_zero_or_pos n with hz | hz
      · refine x_cVv (n := 0) S (m_tree0 hz) (gGV gC tw566 tw563 tw565 ts18 tw7) rfl (by decide +kernel) 0 rfl rfl rfl rfl (Nat.le_of_ble_eq_true rfl) dX6_make_310 ⟨by decide, by decide⟩ ⟨Nat.le_of_ble_eq_true rfl, Nat.le_of_ble_eq_true rfl⟩ ?_
        exact hret ((b, e, c, pa, br, ls)) _ _ ⟨hB, hc, fun j hj => absurd hj (by omega), fun j _ hj => absurd hj (by omega)⟩ dX6_make_313
      refine x_cVvS (n := 0) S (m_tree hz hA hc) (gGV gC tw566 tw563 tw565 ts18 tw7) rfl (by decide +kernel) 0 rfl rfl rfl rfl (Nat.le_of_ble_eq_true rfl) dX6_make_310 ⟨by decide, by decide⟩ ⟨Nat.le_of_ble_eq_true rfl, Nat.le_of_ble_eq_true rfl⟩ (fun u hu => ?_)
      exact hret ((b, e, c, u.1, u.2.1, u.2.2)) _ _ ⟨hB, hc, hu⟩ dX6_make_313
    have hs2 : s < 2 ^ n := by have := Nat.le_of_not_lt (fun q => h1 (nI_lt q (by omega))); omega
    have ih := ih hs2 (by omega)
    obtain ⟨v, hv, hvl⟩ := pk_least (fun v => s.testBit v = true) (Classical.byContradiction (fun q => by
      have : s = 0 := Nat.eq_of_testBit_eq (fun i => by rw [Nat.zero_testBit]; exact Bool.eq_false_iff.mpr (fun w => q ⟨i, w⟩))
      omega))
    have hvn : v < n := t_lt hs2 hv
    obtain ⟨r, hr⟩ : ∃ r, r = pl_di s (2 ^ v) := ⟨_, rfl⟩
    have hrv : r.testBit v = false := by rw [hr]; exact di_bit s v
    have hrs : r ||| 2 ^ v = s := by rw [hr]; exact di_or hv
    have hrl : r < s := by
      have := or_add v r hrv
      have := Nat.two_pow_pos v
      omega
    have hM : ∀ u, u < 12 → b (12 * v + u) = kM fr to wt am v u := fun u hu => hB.1 v u (by omega) hu
    have hstep := kC_step (fr := fr) (to := to) (wt := wt) (k := am) (n := n) (v := v) (S := r) hA.st hrv
    rw [hrs] at hstep
    have hsum : ∀ u, sm (fun u => kM fr to wt am v u) u = sm (fun u => if r.testBit u = true then 0 else kM fr to wt am v u) u + sm (fun u => if r.testBit u = true then kM fr to wt am v u else 0) u := fun u => by
      rw [← sm_add]
      exact sm_congr (fun i _ => by split <;> simp)
    rw [hsum n] at hstep
    have L2 : ∀ u, u ≤ n → xW E D vwCl 6 0 0 (mw bd cI cZ n am al on ot we th b e c false pa br pc ap pn ls gr tl co ++ X) [(0, .ref (bd 0)), (1, .int (nI s)), (2, .int (nI v)), (3, .int (nI r)), (4, .int (nI (kC fr to wt am r + sm (fun u => if r.testBit u = true then 0 else kM fr to wt am v u) u) - nI (sm (fun u => if r.testBit u = true then kM fr to wt am v u else 0) u))), (5, .int (nI u))] 237 [] := by
      refine pl_up n (fun u hu ih2 => ?_)
      refine x_iload S dX6_make_237 5 rfl ?_
      refine x_aload_n S dX6_make_239 0 rfl rfl ?_
      refine x_get S 0 0 rfl rfl inC6 (by decide) (gC _ tw465) rfl rfl dX6_make_240 ?_
      refine x_icmp_ge (tgt := 295) S dX6_make_243 (by decide) (fun h2 => ?_) (fun h2 => ?_)
      · have hu2 : u = n := Nat.le_antisymm hu ((nI_leI (by omega) (by omega)).mp h2)
        rw [hu2]
        refine x_aload_n S dX6_make_295 0 rfl rfl ?_
        refine x_get S 0 9 rfl rfl inC6 (by decide) (gC _ tw474) rfl rfl dX6_make_296 ?_
        refine x_iload_n S dX6_make_299 1 rfl rfl ?_
        refine x_iload S dX6_make_300 4 rfl ?_
        refine x_iastN (ws' := (mw bd cI cZ n am al on ot we th b e (va_up c s (kC fr to wt am s)) false pa br pc ap pn ls gr tl co ++ X)) (z := kC fr to wt am s) S 7 0 (s) rfl rfl rfl (by omega) (by decide) (by rw [pk_sub (by omega)]; congr 1; omega) dX6_make_302 rfl ?_
        refine x_iincN (lv' := [(1, .int _), (0, .ref _), (2, .int _), (3, .int _), (4, .int _), (5, .int _)]) S dX6_make_303 1 rfl (by decide) rfl ?_
        refine x_goto (tgt := 194) S dX6_make_306 (by decide) ?_
        exact x_sub [1, 0] rfl (ih _ (fun p hp => (Nat.lt_or_ge p s).elim (fun q => by rw [va_up_ne _ _ (by omega)]; exact hc p q) (fun q => by rw [show p = s by omega, va_up_self])))
      have hu2 : u < n := Nat.lt_of_not_le (fun q => h2 (nI_le q (by omega)))
      have ih2 := ih2 hu2
      simp only [sm] at ih2
      refine x_iload S dX6_make_246 4 rfl ?_
      refine x_iload_n S dX6_make_248 3 rfl rfl ?_
      refine x_iload S dX6_make_249 5 rfl ?_
      refine x_ishr S dX6_make_251 ?_
      refine x_iconst (v := 1) S dX6_make_252 rfl ?_
      refine x_iand S dX6_make_253 ?_
      refine x_iconst (v := 1) S dX6_make_254 rfl ?_
      refine x_icmp_ne (tgt := 274) S dX6_make_255 (by decide) (fun h3 => ?_) (fun h3 => ?_)
      · rw [if_neg (c := r.testBit u = true) (fun q => h3 ((pl_bit1 (by omega) (by omega)).mpr q)), if_neg (c := r.testBit u = true) (fun q => h3 ((pl_bit1 (by omega) (by omega)).mpr q)), ← Nat.add_assoc, Nat.add_zero] at ih2
        refine x_aload_n S dX6_make_274 0 rfl rfl ?_
        refine x_get S 0 7 rfl rfl inC6 (by decide) (gC _ tw472) rfl rfl dX6_make_275 ?_
        refine x_bipush (v := 12) S dX6_make_278 (by decide) ?_
        refine x_iload_n S dX6_make_280 2 rfl rfl ?_
        refine x_imul S dX6_make_281 ?_
        refine x_iload S dX6_make_282 5 rfl ?_
        refine x_iadd S dX6_make_284 ?_
        refine x_top (nI (12 * v + u)) (by rw [show (12 : Int32) = nI 12 from rfl, pk_mul, nI_add]) ?_
        refine x_ialdN S 5 0 (12 * v + u) rfl rfl rfl (by omega) (by decide) dX6_make_285 ?_
        rw [hM u (by omega)]
        refine x_iadd S dX6_make_286 ?_
        rw [st_out]
        refine x_istore (lv' := [(4, .int _), (0, .ref _), (1, .int _), (2, .int _), (3, .int _), (5, .int _)]) S dX6_make_287 (by decide) rfl ?_
        refine x_iincN (lv' := [(5, .int _), (4, .int _), (0, .ref _), (1, .int _), (2, .int _), (3, .int _)]) S dX6_make_289 5 rfl (by decide) rfl ?_
        refine x_goto (tgt := 237) S dX6_make_292 (by decide) ?_
        exact x_sub [2, 3, 4, 5, 1, 0] rfl (ih2)
      rw [if_pos (c := r.testBit u = true) ((pl_bit1 (by omega) (by omega)).mp h3), if_pos (c := r.testBit u = true) ((pl_bit1 (by omega) (by omega)).mp h3), Nat.add_zero] at ih2
      refine x_aload_n S dX6_make_258 0 rfl rfl ?_
      refine x_get S 0 7 rfl rfl inC6 (by decide) (gC _ tw472) rfl rfl dX6_make_259 ?_
      refine x_bipush (v := 12) S dX6_make_262 (by decide) ?_
      refine x_iload_n S dX6_make_264 2 rfl rfl ?_
      refine x_imul S dX6_make_265 ?_
      refine x_iload S dX6_make_266 5 rfl ?_
      refine x_iadd S dX6_make_268 ?_
      refine x_top (nI (12 * v + u)) (by rw [show (12 : Int32) = nI 12 from rfl, pk_mul, nI_add]) ?_
      refine x_ialdN S 5 0 (12 * v + u) rfl rfl rfl (by omega) (by decide) dX6_make_269 ?_
      rw [hM u (by omega)]
      refine x_ineg S dX6_make_270 ?_
      refine x_goto (tgt := 286) S dX6_make_271 (by decide) ?_
      refine x_iadd S dX6_make_286 ?_
      rw [st_in]
      refine x_istore (lv' := [(4, .int _), (0, .ref _), (1, .int _), (2, .int _), (3, .int _), (5, .int _)]) S dX6_make_287 (by decide) rfl ?_
      refine x_iincN (lv' := [(5, .int _), (4, .int _), (0, .ref _), (1, .int _), (2, .int _), (3, .int _)]) S dX6_make_289 5 rfl (by decide) rfl ?_
      refine x_goto (tgt := 237) S dX6_make_292 (by decide) ?_
      exact x_sub [2, 3, 4, 5, 1, 0] rfl (ih2)
    have L1 : ∀ w, w ≤ v → xW E D vwCl 6 0 0 (mw bd cI cZ n am al on ot we th b e c false pa br pc ap pn ls gr tl co ++ X) [(0, .ref (bd 0)), (1, .int (nI s)), (2, .int (nI w))] 204 [] := by
      refine pl_up v (fun w hw ih1 => ?_)
      refine x_iload_n S dX6_make_204 1 rfl rfl ?_
      refine x_iload_n S dX6_make_205 2 rfl rfl ?_
      refine x_ishr S dX6_make_206 ?_
      refine x_iconst (v := 1) S dX6_make_207 rfl ?_
      refine x_iand S dX6_make_208 ?_
      refine x_if_ne (tgt := 218) S dX6_make_209 (by decide) (fun h2 => ?_) (fun h2 => ?_)
      rotate_left
      · have h2 := (pl_bit0 (by omega) (by omega)).mp h2
        have hw2 : w < v := by
          rcases Nat.lt_or_ge w v with q | q
          · exact q
          · rw [show w = v by omega, hv] at h2; cases h2
        refine x_iincN (lv' := [(2, .int _), (0, .ref _), (1, .int _)]) S dX6_make_212 2 rfl (by decide) rfl ?_
        refine x_goto (tgt := 204) S dX6_make_215 (by decide) ?_
        exact x_sub [1, 2, 0] rfl (ih1 hw2)
      have hw2 : w = v := by
        rcases Nat.lt_or_ge w v with q | q
        · exact absurd ((pl_bit0 (by omega) (by omega)).mpr (Bool.eq_false_iff.mpr (hvl w q))) h2
        · omega
      subst hw2
      refine x_iload_n S dX6_make_218 1 rfl rfl ?_
      refine x_iconst (v := 1) S dX6_make_219 rfl ?_
      refine x_iload_n S dX6_make_220 2 rfl rfl ?_
      refine x_ishl S dX6_make_221 ?_
      refine x_iconst (v := -1) S dX6_make_222 rfl ?_
      refine x_ixor S dX6_make_223 ?_
      refine x_iand S dX6_make_224 ?_
      refine x_top (nI r) (by rw [pl_one (by omega), pl_di_I, hr]) ?_
      refine x_istore_n (lv' := [(3, .int _), (0, .ref _), (1, .int _), (2, .int _)]) S dX6_make_225 rfl (by decide) rfl ?_
      refine x_aload_n S dX6_make_226 1 rfl rfl ?_
      refine x_get S 0 9 rfl rfl inC6 (by decide) (gC _ tw474) rfl rfl dX6_make_227 ?_
      refine x_iload_n S dX6_make_230 0 rfl rfl ?_
      refine x_ialdN S 7 0 (r) rfl rfl rfl (by omega) (by decide) dX6_make_231 ?_
      rw [hc r hrl]
      refine x_istore (lv' := [(4, .int _), (3, .int _), (0, .ref _), (1, .int _), (2, .int _)]) S dX6_make_232 (by decide) rfl ?_
      refine x_iconst (v := 0) S dX6_make_234 rfl ?_
      refine x_istore (lv' := [(5, .int _), (4, .int _), (3, .int _), (0, .ref _), (1, .int _), (2, .int _)]) S dX6_make_235 (by decide) rfl ?_
      have hL2 := L2 0 (Nat.zero_le _)
      simp only [sm] at hL2
      rw [Nat.add_zero, show nI 0 = 0 from rfl, Int32.sub_zero] at hL2
      exact x_sub [3, 4, 5, 2, 1, 0] rfl (hL2)
    refine x_iconst (v := 0) S dX6_make_202 rfl ?_
    refine x_istore_n (lv' := [(2, .int _), (0, .ref _), (1, .int _)]) S dX6_make_203 rfl (by decide) rfl ?_
    exact x_sub [1, 2, 0] rfl (L1 0 (Nat.zero_le _))
  have hJ : ∀ k, k ≤ am → ∀ b e : Nat → Nat, bOK k fr to wt b e → xW E D vwCl 6 0 0 (mw bd cI cZ n am al on ot we th b e cu false pa br pc ap pn ls gr tl co ++ X) [(0, .ref (bd 0)), (1, .int (nI k))] 58 [] := by
    refine pl_up am (fun k hk ih => ?_)
    intro b e hB
    refine x_iload_n S dX6_make_58 1 rfl rfl ?_
    refine x_aload_n S dX6_make_59 0 rfl rfl ?_
    refine x_get S 0 1 rfl rfl inC6 (by decide) (gC _ tw466) rfl rfl dX6_make_60 ?_
    refine x_icmp_ge (tgt := 185) S dX6_make_63 (by decide) (fun h1 => ?_) (fun h1 => ?_)
    · have hk2 : k = am := Nat.le_antisymm hk ((nI_leI (by omega) (by omega)).mp h1)
      rw [hk2] at hB
      refine x_aload_n S dX6_make_185 0 rfl rfl ?_
      refine x_get S 0 9 rfl rfl inC6 (by decide) (gC _ tw474) rfl rfl dX6_make_186 ?_
      refine x_iconst (v := 0) S dX6_make_189 rfl ?_
      refine x_iconst (v := 0) S dX6_make_190 rfl ?_
      refine x_iastN (ws' := (mw bd cI cZ n am al on ot we th b e (va_up cu 0 0) false pa br pc ap pn ls gr tl co ++ X)) (z := 0) S 7 0 (0) rfl rfl rfl (by omega) (by decide) rfl dX6_make_191 rfl ?_
      refine x_iconst (v := 1) S dX6_make_192 rfl ?_
      refine x_istore_n (lv' := [(1, .int _), (0, .ref _)]) S dX6_make_193 rfl (by decide) rfl ?_
      exact x_sub [1, 0] rfl (hK b e hB 1 (by omega) (Nat.le_refl _) _ (fun p hp => by rw [show p = 0 by omega, va_up_self, kC_0]))
    have hk2 : k < am := Nat.lt_of_not_le (fun q => h1 (nI_le q (by omega)))
    have ih := ih hk2
    obtain ⟨l1, l2, l3⟩ := hL k hk2
    obtain ⟨f1, f2, f3, f4⟩ := hA.2.2 k hk2
    refine x_aload_n S dX6_make_66 0 rfl rfl ?_
    refine x_get S 0 6 rfl rfl inC6 (by decide) (gC _ tw471) rfl rfl dX6_make_67 ?_
    refine x_iload_n S dX6_make_70 1 rfl rfl ?_
    refine x_zaldB S 4 3 (k) rfl rfl rfl (by omega) (by decide) dX6_make_71 ?_
    refine x_if_eqB (tgt := 179) S dX6_make_72 (by decide) (fun h2 => ?_) (fun h2 => ?_)
    · rcases l3 with q | q
      · exact absurd q.1 h2
      refine x_iincN (lv' := [(1, .int _), (0, .ref _)]) S dX6_make_179 1 rfl (by decide) rfl ?_
      refine x_goto (tgt := 58) S dX6_make_182 (by decide) ?_
      exact x_sub [1, 0] rfl (ih b e (bOK_skip hB q.2))
    rcases l3 with ⟨q1, q2, q3⟩ | q
    case inr => rw [q.1] at h2; cases h2
    obtain ⟨o, ho⟩ : ∃ o, fr k = o := ⟨_, rfl⟩
    obtain ⟨t, ht⟩ : ∃ t, to k = t := ⟨_, rfl⟩
    rw [ho] at l1 f1 f3
    rw [ht] at l2 f2 f3
    refine x_aload_n S dX6_make_75 0 rfl rfl ?_
    refine x_get S 0 7 rfl rfl inC6 (by decide) (gC _ tw472) rfl rfl dX6_make_76 ?_
    refine x_bipush (v := 12) S dX6_make_79 (by decide) ?_
    refine x_aload_n S dX6_make_81 0 rfl rfl ?_
    refine x_get S 0 3 rfl rfl inC6 (by decide) (gC _ tw468) rfl rfl dX6_make_82 ?_
    refine x_iload_n S dX6_make_85 1 rfl rfl ?_
    refine x_ialdN S 1 0 (k) rfl rfl rfl (by omega) (by decide) dX6_make_86 ?_
    rw [l1]
    refine x_imul S dX6_make_87 ?_
    refine x_aload_n S dX6_make_88 0 rfl rfl ?_
    refine x_get S 0 4 rfl rfl inC6 (by decide) (gC _ tw469) rfl rfl dX6_make_89 ?_
    refine x_iload_n S dX6_make_92 1 rfl rfl ?_
    refine x_ialdN S 2 0 (k) rfl rfl rfl (by omega) (by decide) dX6_make_93 ?_
    rw [l2]
    refine x_iadd S dX6_make_94 ?_
    refine x_top (nI (12 * o + t)) (by rw [show (12 : Int32) = nI 12 from rfl, pk_mul, nI_add]) ?_
    refine x_dup2 S dX6_make_95 rfl rfl ?_
    refine x_ialdN S 5 0 (12 * o + t) rfl rfl rfl (by omega) (by decide) dX6_make_96 ?_
    refine x_aload_n S dX6_make_97 0 rfl rfl ?_
    refine x_get S 0 5 rfl rfl inC6 (by decide) (gC _ tw470) rfl rfl dX6_make_98 ?_
    refine x_iload_n S dX6_make_101 1 rfl rfl ?_
    refine x_ialdN S 3 0 (k) rfl rfl rfl (by omega) (by decide) dX6_make_102 ?_
    rw [q2]
    refine x_iadd S dX6_make_103 ?_
    refine x_iastN (ws' := (mw bd cI cZ n am al on ot we th (va_up b (12 * o + t) (b (12 * o + t) + wt k)) e cu false pa br pc ap pn ls gr tl co ++ X)) (z := b (12 * o + t) + wt k) S 5 0 (12 * o + t) rfl rfl rfl (by omega) (by decide) (nI_add _ _) dX6_make_104 rfl ?_
    refine x_aload_n S dX6_make_105 0 rfl rfl ?_
    refine x_get S 0 7 rfl rfl inC6 (by decide) (gC _ tw472) rfl rfl dX6_make_106 ?_
    refine x_bipush (v := 12) S dX6_make_109 (by decide) ?_
    refine x_aload_n S dX6_make_111 0 rfl rfl ?_
    refine x_get S 0 4 rfl rfl inC6 (by decide) (gC _ tw469) rfl rfl dX6_make_112 ?_
    refine x_iload_n S dX6_make_115 1 rfl rfl ?_
    refine x_ialdN S 2 0 (k) rfl rfl rfl (by omega) (by decide) dX6_make_116 ?_
    rw [l2]
    refine x_imul S dX6_make_117 ?_
    refine x_aload_n S dX6_make_118 0 rfl rfl ?_
    refine x_get S 0 3 rfl rfl inC6 (by decide) (gC _ tw468) rfl rfl dX6_make_119 ?_
    refine x_iload_n S dX6_make_122 1 rfl rfl ?_
    refine x_ialdN S 1 0 (k) rfl rfl rfl (by omega) (by decide) dX6_make_123 ?_
    rw [l1]
    refine x_iadd S dX6_make_124 ?_
    refine x_top (nI (12 * t + o)) (by rw [show (12 : Int32) = nI 12 from rfl, pk_mul, nI_add]) ?_
    refine x_dup2 S dX6_make_125 rfl rfl ?_
    refine x_ialdN S 5 0 (12 * t + o) rfl rfl rfl (by omega) (by decide) dX6_make_126 ?_
    refine x_aload_n S dX6_make_127 0 rfl rfl ?_
    refine x_get S 0 5 rfl rfl inC6 (by decide) (gC _ tw470) rfl rfl dX6_make_128 ?_
    refine x_iload_n S dX6_make_131 1 rfl rfl ?_
    refine x_ialdN S 3 0 (k) rfl rfl rfl (by omega) (by decide) dX6_make_132 ?_
    rw [q2]
    refine x_iadd S dX6_make_133 ?_
    refine x_iastN (ws' := (mw bd cI cZ n am al on ot we th (va_up (va_up b (12 * o + t) (b (12 * o + t) + wt k)) (12 * t + o) ((va_up b (12 * o + t) (b (12 * o + t) + wt k)) (12 * t + o) + wt k)) e cu false pa br pc ap pn ls gr tl co ++ X)) (z := (va_up b (12 * o + t) (b (12 * o + t) + wt k)) (12 * t + o) + wt k) S 5 0 (12 * t + o) rfl rfl rfl (by omega) (by decide) (nI_add _ _) dX6_make_134 rfl ?_
    refine x_aload_n S dX6_make_135 0 rfl rfl ?_
    refine x_get S 0 8 rfl rfl inC6 (by decide) (gC _ tw473) rfl rfl dX6_make_136 ?_
    refine x_aload_n S dX6_make_139 0 rfl rfl ?_
    refine x_get S 0 3 rfl rfl inC6 (by decide) (gC _ tw468) rfl rfl dX6_make_140 ?_
    refine x_iload_n S dX6_make_143 1 rfl rfl ?_
    refine x_ialdN S 1 0 (k) rfl rfl rfl (by omega) (by decide) dX6_make_144 ?_
    rw [l1]
    refine x_dup2 S dX6_make_145 rfl rfl ?_
    refine x_ialdN S 6 0 (o) rfl rfl rfl (by omega) (by decide) dX6_make_146 ?_
    refine x_iconst (v := 1) S dX6_make_147 rfl ?_
    refine x_aload_n S dX6_make_148 0 rfl rfl ?_
    refine x_get S 0 4 rfl rfl inC6 (by decide) (gC _ tw469) rfl rfl dX6_make_149 ?_
    refine x_iload_n S dX6_make_152 1 rfl rfl ?_
    refine x_ialdN S 2 0 (k) rfl rfl rfl (by omega) (by decide) dX6_make_153 ?_
    rw [l2]
    refine x_ishl S dX6_make_154 ?_
    refine x_ior S dX6_make_155 ?_
    refine x_iastN (ws' := (mw bd cI cZ n am al on ot we th (va_up (va_up b (12 * o + t) (b (12 * o + t) + wt k)) (12 * t + o) ((va_up b (12 * o + t) (b (12 * o + t) + wt k)) (12 * t + o) + wt k)) (va_up e o (e o ||| 2 ^ t)) cu false pa br pc ap pn ls gr tl co ++ X)) (z := e o ||| 2 ^ t) S 6 0 (o) rfl rfl rfl (by omega) (by decide) (by rw [pl_one (by omega), pl_or]) dX6_make_156 rfl ?_
    refine x_aload_n S dX6_make_157 0 rfl rfl ?_
    refine x_get S 0 8 rfl rfl inC6 (by decide) (gC _ tw473) rfl rfl dX6_make_158 ?_
    refine x_aload_n S dX6_make_161 0 rfl rfl ?_
    refine x_get S 0 4 rfl rfl inC6 (by decide) (gC _ tw469) rfl rfl dX6_make_162 ?_
    refine x_iload_n S dX6_make_165 1 rfl rfl ?_
    refine x_ialdN S 2 0 (k) rfl rfl rfl (by omega) (by decide) dX6_make_166 ?_
    rw [l2]
    refine x_dup2 S dX6_make_167 rfl rfl ?_
    refine x_ialdN S 6 0 (t) rfl rfl rfl (by omega) (by decide) dX6_make_168 ?_
    refine x_iconst (v := 1) S dX6_make_169 rfl ?_
    refine x_aload_n S dX6_make_170 0 rfl rfl ?_
    refine x_get S 0 3 rfl rfl inC6 (by decide) (gC _ tw468) rfl rfl dX6_make_171 ?_
    refine x_iload_n S dX6_make_174 1 rfl rfl ?_
    refine x_ialdN S 1 0 (k) rfl rfl rfl (by omega) (by decide) dX6_make_175 ?_
    rw [l1]
    refine x_ishl S dX6_make_176 ?_
    refine x_ior S dX6_make_177 ?_
    refine x_iastN (ws' := (mw bd cI cZ n am al on ot we th (va_up (va_up b (12 * o + t) (b (12 * o + t) + wt k)) (12 * t + o) ((va_up b (12 * o + t) (b (12 * o + t) + wt k)) (12 * t + o) + wt k)) (va_up (va_up e o (e o ||| 2 ^ t)) t ((va_up e o (e o ||| 2 ^ t)) t ||| 2 ^ o)) cu false pa br pc ap pn ls gr tl co ++ X)) (z := (va_up e o (e o ||| 2 ^ t)) t ||| 2 ^ o) S 6 0 (t) rfl rfl rfl (by omega) (by decide) (by rw [pl_one (by omega), pl_or]) dX6_make_178 rfl ?_
    refine x_iincN (lv' := [(1, .int _), (0, .ref _)]) S dX6_make_179 1 rfl (by decide) rfl ?_
    refine x_goto (tgt := 58) S dX6_make_182 (by decide) ?_
    exact x_sub [1, 0] rfl (ih _ _ (bOK_add hB ho ht (by omega) (by omega) f3 q3 rfl rfl))
  have hN : ∀ b : Nat → Nat, (∀ i, i < 144 → b i = 0) → ∀ k, k ≤ 12 → ∀ e : Nat → Nat, (∀ i, i < k → e i = 0) → xW E D vwCl 6 0 0 (mw bd cI cZ n am al on ot we th b e cu false pa br pc ap pn ls gr tl co ++ X) [(0, .ref (bd 0)), (1, .int (nI k))] 37 [] := by
    intro b hb
    refine pl_up 12 (fun k hk ih => ?_)
    intro e g1
    refine x_iload_n S dX6_make_37 1 rfl rfl ?_
    refine x_bipush (v := 12) S dX6_make_38 (by decide) ?_
    refine x_icmp_ge (tgt := 56) S dX6_make_40 (by decide) (fun h1 => ?_) (fun h1 => ?_)
    · have hk2 : k = 12 := Nat.le_antisymm hk ((nI_leI (a := 12) (by omega) (by omega)).mp h1)
      subst hk2
      refine x_iconst (v := 0) S dX6_make_56 rfl ?_
      refine x_istore_n (lv' := [(1, .int _), (0, .ref _)]) S dX6_make_57 rfl (by decide) rfl ?_
      exact x_sub [1, 0] rfl (hJ 0 (Nat.zero_le _) b e (bOK_0 hb g1))
    have hk2 : k < 12 := Nat.lt_of_not_le (fun h => h1 (nI_le (a := 12) h (by omega)))
    refine x_aload_n S dX6_make_43 0 rfl rfl ?_
    refine x_get S 0 8 rfl rfl inC6 (by decide) (gC _ tw473) rfl rfl dX6_make_44 ?_
    refine x_iload_n S dX6_make_47 1 rfl rfl ?_
    refine x_iconst (v := 0) S dX6_make_48 rfl ?_
    refine x_iastN (ws' := (mw bd cI cZ n am al on ot we th b (va_up e k 0) cu false pa br pc ap pn ls gr tl co ++ X)) (z := 0) S 6 0 (k) rfl rfl rfl (by omega) (by decide) rfl dX6_make_49 rfl ?_
    refine x_iincN (lv' := [(1, .int _), (0, .ref _)]) S dX6_make_50 1 rfl (by decide) rfl ?_
    refine x_goto (tgt := 37) S dX6_make_53 (by decide) ?_
    exact x_sub [1, 0] rfl (ih hk2 _ (fun v hv => (Nat.lt_or_ge v k).elim (fun h => by rw [va_up_ne _ _ (by omega)]; exact g1 v h) (fun h => by rw [show v = k by omega, va_up_self])))
  have hZ : ∀ k, k ≤ 144 → ∀ b : Nat → Nat, (∀ i, i < k → b i = 0) → xW E D vwCl 6 0 0 (mw bd cI cZ n am al on ot we th b ne cu false pa br pc ap pn ls gr tl co ++ X) [(0, .ref (bd 0)), (1, .int (nI k))] 15 [] := by
    refine pl_up 144 (fun k hk ih => ?_)
    intro b g1
    refine x_iload_n S dX6_make_15 1 rfl rfl ?_
    refine x_sipush (v := 144) S dX6_make_16 (by decide) ?_
    refine x_icmp_ge (tgt := 35) S dX6_make_19 (by decide) (fun h1 => ?_) (fun h1 => ?_)
    · have hk2 : k = 144 := Nat.le_antisymm hk ((nI_leI (a := 144) (by omega) (by omega)).mp h1)
      subst hk2
      refine x_iconst (v := 0) S dX6_make_35 rfl ?_
      refine x_istore_n (lv' := [(1, .int _), (0, .ref _)]) S dX6_make_36 rfl (by decide) rfl ?_
      exact x_sub [1, 0] rfl (hN b g1 0 (Nat.zero_le _) ne (fun i hi => absurd hi (by omega)))
    have hk2 : k < 144 := Nat.lt_of_not_le (fun h => h1 (nI_le (a := 144) h (by omega)))
    refine x_aload_n S dX6_make_22 0 rfl rfl ?_
    refine x_get S 0 7 rfl rfl inC6 (by decide) (gC _ tw472) rfl rfl dX6_make_23 ?_
    refine x_iload_n S dX6_make_26 1 rfl rfl ?_
    refine x_iconst (v := 0) S dX6_make_27 rfl ?_
    refine x_iastN (ws' := (mw bd cI cZ n am al on ot we th (va_up b k 0) ne cu false pa br pc ap pn ls gr tl co ++ X)) (z := 0) S 5 0 (k) rfl rfl rfl (by omega) (by decide) rfl dX6_make_28 rfl ?_
    refine x_iincN (lv' := [(1, .int _), (0, .ref _)]) S dX6_make_29 1 rfl (by decide) rfl ?_
    refine x_goto (tgt := 15) S dX6_make_32 (by decide) ?_
    exact x_sub [1, 0] rfl (ih hk2 _ (fun v hv => (Nat.lt_or_ge v k).elim (fun h => by rw [va_up_ne _ _ (by omega)]; exact g1 v h) (fun h => by rw [show v = k by omega, va_up_self])))
  refine x_aload_n S dX6_make_0 0 rfl rfl ?_
  refine x_get S 0 10 rfl rfl inC6 (by decide) (gC _ tw475) rfl rfl dX6_make_1 ?_
  refine x_if_neB (tgt := 8) S dX6_make_4 (by decide) (fun h1 => ?_) (fun h1 => ?_)
  rotate_left
  · have h1 : nw = false := Bool.eq_false_iff.mpr h1
    have hV2 := hV h1
    rw [h1]
    exact hret ((be, ne, cu, pa, br, ls)) _ _ hV2 dX6_make_7
  refine x_aload_n S dX6_make_8 0 rfl rfl ?_
  refine x_iconst (v := 0) S dX6_make_9 rfl ?_
  refine x_put (ws' := (mw bd cI cZ n am al on ot we th be ne cu false pa br pc ap pn ls gr tl co ++ X)) S 0 10 rfl rfl inC6 tyX6 tyX6_ok nmX6 (by decide) (gC _ tw475) rfl rfl (tyX6_ok 10 (by decide)) rfl rfl (Nat.le_of_ble_eq_true rfl) dX6_make_10 rfl ?_
  refine x_iconst (v := 0) S dX6_make_13 rfl ?_
  refine x_istore_n (lv' := [(1, .int _), (0, .ref _)]) S dX6_make_14 rfl (by decide) rfl ?_
  exact x_sub [1, 0] rfl (hZ 0 (Nat.zero_le _) be (fun i hi => absurd hi (by omega)))
end M2
end
section
/-! the reference: contracts, 3 -/
section M3
abbrev MS : Type := (Nat → Nat) × (Nat → Nat) × (Nat → Nat) × (Nat → Bool) × (Nat → Nat) × (Nat → Nat) × (Nat → Nat) × Bool × (Nat → Nat) × (Nat → Nat) × (Nat → Nat) × (Nat → Bool) × (Nat → Nat) × Int32 × (Nat → Nat) × (Nat → Int32) × (Nat → Nat)
def mwH (bd : Nat → Nat) (cI cZ : ClassId) (n am al : Nat) (h : MS) : va_W := mw bd cI cZ n am al h.1 h.2.1 h.2.2.1 h.2.2.2.1 h.2.2.2.2.1 h.2.2.2.2.2.1 h.2.2.2.2.2.2.1 h.2.2.2.2.2.2.2.1 h.2.2.2.2.2.2.2.2.1 h.2.2.2.2.2.2.2.2.2.1 h.2.2.2.2.2.2.2.2.2.2.1 h.2.2.2.2.2.2.2.2.2.2.2.1 h.2.2.2.2.2.2.2.2.2.2.2.2.1 h.2.2.2.2.2.2.2.2.2.2.2.2.2.1 h.2.2.2.2.2.2.2.2.2.2.2.2.2.2.1 h.2.2.2.2.2.2.2.2.2.2.2.2.2.2.2.1 h.2.2.2.2.2.2.2.2.2.2.2.2.2.2.2.2
def mpOK (n am : Nat) (fr to wt pc : Nat → Nat) (ap : Nat → Bool) (pn : Nat → Nat) : Prop := ∀ k, 1 ≤ k → k ≤ 4 → ap k = false → n ≤ 10 → k ≤ n → pc k = (kPR n k (kM fr to wt am)).1 ∧ ∀ u, u < n → pn (12 * k + u) = (kPR n k (kM fr to wt am)).2 u
def mInv (n am al : Nat) (fr to wt : Nat → Nat) (h : MS) : Prop := aOK n am fr to wt ∧ aRel am h.1 h.2.1 h.2.2.1 h.2.2.2.1 fr to wt ∧ al = kLv wt am ∧ (h.2.2.2.2.2.2.2.1 = false → bOK am fr to wt h.2.2.2.2.1 h.2.2.2.2.2.1 ∧ vOK n am fr to wt h.2.2.2.2.2.2.1 ∧ trOK n am fr to wt h.2.2.2.2.2.2.2.2.1 h.2.2.2.2.2.2.2.2.2.1) ∧ mpOK n am fr to wt h.2.2.2.2.2.2.2.2.2.2.1 h.2.2.2.2.2.2.2.2.2.2.2.1 h.2.2.2.2.2.2.2.2.2.2.2.2.1
theorem sm_shift (f : Nat → Nat) : ∀ w, sm f (w + 1) = f 0 + sm (fun k => f (k + 1)) w
  | 0 => by simp [sm]
  | w + 1 => by
    show sm f (w + 1) + f (w + 1) = f 0 + (sm (fun k => f (k + 1)) w + f (w + 1))
    rw [sm_shift f w]; omega
theorem pop_sm : ∀ (w s : Nat), pn_pop w s = sm (fun k => s / 2 ^ k % 2) w
  | 0, s => rfl
  | w + 1, s => by
    rw [sm_shift]
    show pn_pop w (s / 2) + s % 2 = _
    rw [pop_sm w (s / 2), sm_congr (g := fun k => s / 2 ^ (k + 1) % 2) (fun k _ => by rw [Nat.pow_succ, Nat.mul_comm, Nat.div_div_eq_div_mul])]
    simp
    omega
theorem co_ev {n am F : Nat} {fr to wt : Nat → Nat} (hA : aOK n am fr to wt) (h2 : 2 ≤ n) (h1 : 1 ≤ F) (hF : F < 2 ^ n - 1) : ∃ T, evP n T ∧ kC fr to wt am T = kC fr to wt am F := by
  have hp := p2_s (show 1 ≤ n by omega)
  rcases Nat.mod_two_eq_zero_or_one F with q | q
  · exact ⟨F, ⟨F / 2 - 1, by omega, by omega⟩, rfl⟩
  · have h3 := di_ev (n := n) (S := F) (by omega) q
    have h4 := pl_di_le (2 ^ n - 1) F
    have h5 := kC_co (fr := fr) (to := to) (wt := wt) (k := am) (n := n) (S := F) (fun i hi => ⟨(hA.2.2 i hi).1, (hA.2.2 i hi).2.1⟩)
    have h6 : pl_di (2 ^ n - 1) F ≠ 0 := fun e => by
      have : F = 2 ^ n - 1 := Nat.eq_of_testBit_eq (fun i => by
        have g := pl_di_t (2 ^ n - 1) F i
        rw [e, Nat.zero_testBit, Nat.testBit_two_pow_sub_one] at g
        rw [Nat.testBit_two_pow_sub_one]
        cases hb : F.testBit i with
        | true => exact (decide_eq_true (t_lt (show F < 2 ^ n by omega) hb)).symm
        | false => rw [hb] at g; simpa using g)
      omega
    have h7 : pl_di (2 ^ n - 1) F ≤ 2 ^ n - 1 := h4
    exact ⟨pl_di (2 ^ n - 1) F, ⟨pl_di (2 ^ n - 1) F / 2 - 1, by omega, by omega⟩, h5⟩
theorem least_eq {n am F : Nat} {fr to wt : Nat → Nat} (hA : aOK n am fr to wt) (h2 : 2 ≤ n) (hF : isFM (kC fr to wt am) (fun T => 1 ≤ T ∧ T < 2 ^ n - 1) F) : kC fr to wt am F = kC fr to wt am (kE (kC fr to wt am) n) := by
  have hE := kE_ok (cf := kC fr to wt am) h2
  have hp := p2_s (show 1 ≤ n by omega)
  obtain ⟨T, hT, e⟩ := co_ev hA h2 hF.1.1 hF.1.2
  have h3 := hE.2.1 T hT
  obtain ⟨j, hj, ej⟩ := hE.1
  have h4 := hF.2.1 (kE (kC fr to wt am) n) ⟨by omega, by omega⟩
  omega
variable {l : Launch} {D : va_G} {bd : Nat → Nat} {cI cII cP cZ : ClassId} {n am al : Nat} {on ot we : Nat → Nat} {th : Nat → Bool} {be ne cu : Nat → Nat} {nw : Bool} {pa br pc : Nat → Nat} {ap : Nat → Bool} {pn : Nat → Nat} {ls : Int32} {gr : Nat → Nat} {tl : Nat → Int32} {co : Nat → Nat} {fr to wt : Nat → Nat} {X : va_W}
set_option maxHeartbeats 4000000 in
set_option maxRecDepth 100000 in
theorem q_pair (a b : Int32) (h : MS) (hI : mInv n am al fr to wt h) : xMetS l yX6_pair wX6_pair (rD 16) D vwCl (tyC cI cII cP cZ) nwC [.ref (bd 0), .int a, .int b] (mwH bd cI cZ n am al h ++ X) (fun h' : MS => mInv n am al fr to wt h') (fun h' => mwH bd cI cZ n am al h' ++ X) (fun _ => some (.int (sPair n am fr to wt a b))) := by
  obtain ⟨on, ot, we, th, be, ne, cu, nw, pa, br, pc, ap, pn, ls, gr, tl, co⟩ := h
  obtain ⟨hA, hL, hal, hV, hPt⟩ := hI
  have hn := hA.1
  refine xMetS_of (cc := cX6_pair) (maxL := 4) (ret := (some .int)) (by decide +kernel) rfl (Nat.le_of_ble_eq_true rfl) (fun _ _ => xfi) ?_
  intro E S hnm hret
  show xW E D vwCl 4 0 0 (mw bd cI cZ n am al on ot we th be ne cu nw pa br pc ap pn ls gr tl co ++ X) [(0, .ref (bd 0)), (1, .int a), (2, .int b)] 0 []
  refine x_aload_n S dX6_pair_0 0 rfl rfl ?_
  refine x_iload_n S dX6_pair_1 1 rfl rfl ?_
  refine x_iload_n S dX6_pair_2 2 rfl rfl ?_
  refine x_cVi (n := 2) S (m_areTwo a b) (gGV gC tw542 tw539 tw541 ts15 tw7) rfl (by decide +kernel) 0 rfl rfl rfl rfl (Nat.le_of_ble_eq_true rfl) dX6_pair_3 ⟨by decide, by decide⟩ ⟨Nat.le_of_ble_eq_true rfl, Nat.le_of_ble_eq_true rfl⟩ ?_
  refine x_if_neB (tgt := 11) S dX6_pair_6 (by decide) (fun h1 => ?_) (fun h1 => ?_)
  rotate_left
  · refine x_iconst (v := -1) S dX6_pair_9 rfl ?_
    exact x_retS hret ((on, ot, we, th, be, ne, cu, nw, pa, br, pc, ap, pn, ls, gr, tl, co)) (⟨hA, hL, hal, hV, hPt⟩) ((if_neg h1).symm) dX6_pair_10
  obtain ⟨i, j, hi, hj, hij, rfl, rfl, f1, f2⟩ := isP2_of hn h1
  refine x_aload_n S dX6_pair_11 0 rfl rfl ?_
  refine x_cVvS (n := 0) S (m_make hA hL hV) (gGV gC tw562 tw559 tw561 ts17 tw7) rfl (by decide +kernel) 0 rfl rfl rfl rfl (Nat.le_of_ble_eq_true rfl) dX6_pair_12 ⟨by decide, by decide⟩ ⟨Nat.le_of_ble_eq_true rfl, Nat.le_of_ble_eq_true rfl⟩ (fun u hu => ?_)
  refine x_aload_n S dX6_pair_15 0 rfl rfl ?_
  refine x_iload_n S dX6_pair_16 1 rfl rfl ?_
  refine x_iload_n S dX6_pair_17 2 rfl rfl ?_
  refine x_cVi (n := 2) S (m_sideOf hA hu.2.1 hi hj (kZ_ok hi hij)) (gGV gC tw570 tw567 tw569 ts19 tw7) rfl (by decide +kernel) 0 rfl rfl rfl rfl (Nat.le_of_ble_eq_true rfl) dX6_pair_18 ⟨by decide, by decide⟩ ⟨Nat.le_of_ble_eq_true rfl, Nat.le_of_ble_eq_true rfl⟩ ?_
  refine x_istore_n (lv' := [(3, .int _), (0, .ref _), (1, .int _), (2, .int _)]) S dX6_pair_21 rfl (by decide) rfl ?_
  refine x_aload_n S dX6_pair_22 1 rfl rfl ?_
  refine x_get S 0 16 rfl rfl inC6 (by decide) (gC _ tw481) rfl rfl dX6_pair_23 ?_
  exact x_retS hret ((on, ot, we, th, u.1, u.2.1, u.2.2.1, false, u.2.2.2.1, u.2.2.2.2.1, pc, ap, pn, nI (kC fr to wt am (kZ (kC fr to wt am) n i j)), gr, tl, co)) (⟨hA, hL, hal, fun _ => hu, hPt⟩) ((by unfold sPair; rw [if_pos h1, f1, f2])) dX6_pair_26
set_option maxHeartbeats 4000000 in
set_option maxRecDepth 100000 in
theorem q_side (a b : Int32) (h : MS) (hI : mInv n am al fr to wt h) : xMetS l yX6_side wX6_side (rD 16) D vwCl (tyC cI cII cP cZ) nwC [.ref (bd 0), .int a, .int b] (mwH bd cI cZ n am al h ++ X) (fun h' : MS => mInv n am al fr to wt h') (fun h' => mwH bd cI cZ n am al h' ++ X) (fun _ => some (.int (sSide n am fr to wt a b))) := by
  obtain ⟨on, ot, we, th, be, ne, cu, nw, pa, br, pc, ap, pn, ls, gr, tl, co⟩ := h
  obtain ⟨hA, hL, hal, hV, hPt⟩ := hI
  have hn := hA.1
  refine xMetS_of (cc := cX6_side) (maxL := 3) (ret := (some .int)) (by decide +kernel) rfl (Nat.le_of_ble_eq_true rfl) (fun _ _ => xfi) ?_
  intro E S hnm hret
  show xW E D vwCl 3 0 0 (mw bd cI cZ n am al on ot we th be ne cu nw pa br pc ap pn ls gr tl co ++ X) [(0, .ref (bd 0)), (1, .int a), (2, .int b)] 0 []
  refine x_aload_n S dX6_side_0 0 rfl rfl ?_
  refine x_iload_n S dX6_side_1 1 rfl rfl ?_
  refine x_iload_n S dX6_side_2 2 rfl rfl ?_
  refine x_cVi (n := 2) S (m_areTwo a b) (gGV gC tw542 tw539 tw541 ts15 tw7) rfl (by decide +kernel) 0 rfl rfl rfl rfl (Nat.le_of_ble_eq_true rfl) dX6_side_3 ⟨by decide, by decide⟩ ⟨Nat.le_of_ble_eq_true rfl, Nat.le_of_ble_eq_true rfl⟩ ?_
  refine x_if_neB (tgt := 11) S dX6_side_6 (by decide) (fun h1 => ?_) (fun h1 => ?_)
  rotate_left
  · refine x_iconst (v := -1) S dX6_side_9 rfl ?_
    exact x_retS hret ((on, ot, we, th, be, ne, cu, nw, pa, br, pc, ap, pn, ls, gr, tl, co)) (⟨hA, hL, hal, hV, hPt⟩) ((if_neg h1).symm) dX6_side_10
  obtain ⟨i, j, hi, hj, hij, rfl, rfl, f1, f2⟩ := isP2_of hn h1
  refine x_aload_n S dX6_side_11 0 rfl rfl ?_
  refine x_cVvS (n := 0) S (m_make hA hL hV) (gGV gC tw562 tw559 tw561 ts17 tw7) rfl (by decide +kernel) 0 rfl rfl rfl rfl (Nat.le_of_ble_eq_true rfl) dX6_side_12 ⟨by decide, by decide⟩ ⟨Nat.le_of_ble_eq_true rfl, Nat.le_of_ble_eq_true rfl⟩ (fun u hu => ?_)
  refine x_aload_n S dX6_side_15 0 rfl rfl ?_
  refine x_iload_n S dX6_side_16 1 rfl rfl ?_
  refine x_iload_n S dX6_side_17 2 rfl rfl ?_
  refine x_cVi (n := 2) S (m_sideOf hA hu.2.1 hi hj (kZ_ok hi hij)) (gGV gC tw570 tw567 tw569 ts19 tw7) rfl (by decide +kernel) 0 rfl rfl rfl rfl (Nat.le_of_ble_eq_true rfl) dX6_side_18 ⟨by decide, by decide⟩ ⟨Nat.le_of_ble_eq_true rfl, Nat.le_of_ble_eq_true rfl⟩ ?_
  exact x_retS hret ((on, ot, we, th, u.1, u.2.1, u.2.2.1, false, u.2.2.2.1, u.2.2.2.2.1, pc, ap, pn, nI (kC fr to wt am (kZ (kC fr to wt am) n i j)), gr, tl, co)) (⟨hA, hL, hal, fun _ => hu, hPt⟩) ((by unfold sSide; rw [if_pos h1, f1, f2])) dX6_side_21
set_option maxHeartbeats 4000000 in
set_option maxRecDepth 100000 in
theorem q_ofP (v : Int32) (h : MS) (hI : mInv n am al fr to wt h) : xMetS l yX6_ofNode wX6_ofNode (rD 15) D vwCl (tyC cI cII cP cZ) nwC [.ref (bd 0), .int v, .ref (bd 8)] (mwH bd cI cZ n am al h ++ X) (fun h' : MS => mInv n am al fr to wt h') (fun h' => mwH bd cI cZ n am al h' ++ X) (fun _ => some (.int (sParent n am fr to wt v))) := by
  obtain ⟨on, ot, we, th, be, ne, cu, nw, pa, br, pc, ap, pn, ls, gr, tl, co⟩ := h
  obtain ⟨hA, hL, hal, hV, hPt⟩ := hI
  have hn := hA.1
  refine xMetS_of (cc := cX6_ofNode) (maxL := 3) (ret := (some .int)) (by decide +kernel) rfl (Nat.le_of_ble_eq_true rfl) (fun _ _ => xfi) ?_
  intro E S hnm hret
  show xW E D vwCl 3 0 0 (mw bd cI cZ n am al on ot we th be ne cu nw pa br pc ap pn ls gr tl co ++ X) [(0, .ref (bd 0)), (1, .int v), (2, .ref (bd 8))] 0 []
  refine x_iload_n S dX6_ofNode_0 1 rfl rfl ?_
  refine x_if_lt (tgt := 12) S dX6_ofNode_1 (by decide) (fun h1 => ?_) (fun h1 => ?_)
  · refine x_iconst (v := -1) S dX6_ofNode_12 rfl ?_
    exact x_retS hret ((on, ot, we, th, be, ne, cu, nw, pa, br, pc, ap, pn, ls, gr, tl, co)) (⟨hA, hL, hal, hV, hPt⟩) ((if_neg (fun q => Int32.not_lt.mpr q.1 h1)).symm) dX6_ofNode_13
  refine x_iload_n S dX6_ofNode_4 1 rfl rfl ?_
  refine x_aload_n S dX6_ofNode_5 0 rfl rfl ?_
  refine x_get S 0 0 rfl rfl inC6 (by decide) (gC _ tw465) rfl rfl dX6_ofNode_6 ?_
  refine x_icmp_lt (tgt := 14) S dX6_ofNode_9 (by decide) (fun h2 => ?_) (fun h2 => ?_)
  rotate_left
  · refine x_iconst (v := -1) S dX6_ofNode_12 rfl ?_
    exact x_retS hret ((on, ot, we, th, be, ne, cu, nw, pa, br, pc, ap, pn, ls, gr, tl, co)) (⟨hA, hL, hal, hV, hPt⟩) ((if_neg (fun q => h2 q.2)).symm) dX6_ofNode_13
  have h3 : isN n v := ⟨Int32.not_lt.mp h1, h2⟩
  obtain ⟨j, hj, e, f⟩ := isN_of hn h3
  refine x_aload_n S dX6_ofNode_14 0 rfl rfl ?_
  refine x_cVvS (n := 0) S (m_make hA hL hV) (gGV gC tw562 tw559 tw561 ts17 tw7) rfl (by decide +kernel) 0 rfl rfl rfl rfl (Nat.le_of_ble_eq_true rfl) dX6_ofNode_15 ⟨by decide, by decide⟩ ⟨Nat.le_of_ble_eq_true rfl, Nat.le_of_ble_eq_true rfl⟩ (fun u hu => ?_)
  refine x_iload_n S dX6_ofNode_18 1 rfl rfl ?_
  refine x_if_ne (tgt := 27) S dX6_ofNode_19 (by decide) (fun h4 => ?_) (fun h4 => ?_)
  rotate_left
  · refine x_bipush (v := -3) S dX6_ofNode_22 (by decide) ?_
    refine x_goto (tgt := 30) S dX6_ofNode_24 (by decide) ?_
    exact x_retS hret ((on, ot, we, th, u.1, u.2.1, u.2.2.1, false, u.2.2.2.1, u.2.2.2.2.1, pc, ap, pn, u.2.2.2.2.2, gr, tl, co)) (⟨hA, hL, hal, fun _ => hu, hPt⟩) ((by unfold sParent; rw [if_pos h3, if_pos h4])) dX6_ofNode_30
  have hj0 : 1 ≤ j := Nat.pos_of_ne_zero (fun q => h4 (by rw [e, q]; rfl))
  refine x_aload_n S dX6_ofNode_27 2 rfl rfl ?_
  refine x_iload_n S dX6_ofNode_28 1 rfl rfl ?_
  refine x_ialdN S 8 0 (j) rfl rfl e (by omega) (by decide) dX6_ofNode_29 ?_
  exact x_retS hret ((on, ot, we, th, u.1, u.2.1, u.2.2.1, false, u.2.2.2.1, u.2.2.2.2.1, pc, ap, pn, u.2.2.2.2.2, gr, tl, co)) (⟨hA, hL, hal, fun _ => hu, hPt⟩) ((by unfold sParent; rw [if_pos h3, if_neg h4, f, hu.2.2.1 j hj])) dX6_ofNode_30
set_option maxHeartbeats 4000000 in
set_option maxRecDepth 100000 in
theorem q_ofB (v : Int32) (h : MS) (hI : mInv n am al fr to wt h) : xMetS l yX6_ofNode wX6_ofNode (rD 15) D vwCl (tyC cI cII cP cZ) nwC [.ref (bd 0), .int v, .ref (bd 9)] (mwH bd cI cZ n am al h ++ X) (fun h' : MS => mInv n am al fr to wt h') (fun h' => mwH bd cI cZ n am al h' ++ X) (fun _ => some (.int (sBranch n am fr to wt v))) := by
  obtain ⟨on, ot, we, th, be, ne, cu, nw, pa, br, pc, ap, pn, ls, gr, tl, co⟩ := h
  obtain ⟨hA, hL, hal, hV, hPt⟩ := hI
  have hn := hA.1
  refine xMetS_of (cc := cX6_ofNode) (maxL := 3) (ret := (some .int)) (by decide +kernel) rfl (Nat.le_of_ble_eq_true rfl) (fun _ _ => xfi) ?_
  intro E S hnm hret
  show xW E D vwCl 3 0 0 (mw bd cI cZ n am al on ot we th be ne cu nw pa br pc ap pn ls gr tl co ++ X) [(0, .ref (bd 0)), (1, .int v), (2, .ref (bd 9))] 0 []
  refine x_iload_n S dX6_ofNode_0 1 rfl rfl ?_
  refine x_if_lt (tgt := 12) S dX6_ofNode_1 (by decide) (fun h1 => ?_) (fun h1 => ?_)
  · refine x_iconst (v := -1) S dX6_ofNode_12 rfl ?_
    exact x_retS hret ((on, ot, we, th, be, ne, cu, nw, pa, br, pc, ap, pn, ls, gr, tl, co)) (⟨hA, hL, hal, hV, hPt⟩) ((if_neg (fun q => Int32.not_lt.mpr q.1 h1)).symm) dX6_ofNode_13
  refine x_iload_n S dX6_ofNode_4 1 rfl rfl ?_
  refine x_aload_n S dX6_ofNode_5 0 rfl rfl ?_
  refine x_get S 0 0 rfl rfl inC6 (by decide) (gC _ tw465) rfl rfl dX6_ofNode_6 ?_
  refine x_icmp_lt (tgt := 14) S dX6_ofNode_9 (by decide) (fun h2 => ?_) (fun h2 => ?_)
  rotate_left
  · refine x_iconst (v := -1) S dX6_ofNode_12 rfl ?_
    exact x_retS hret ((on, ot, we, th, be, ne, cu, nw, pa, br, pc, ap, pn, ls, gr, tl, co)) (⟨hA, hL, hal, hV, hPt⟩) ((if_neg (fun q => h2 q.2)).symm) dX6_ofNode_13
  have h3 : isN n v := ⟨Int32.not_lt.mp h1, h2⟩
  obtain ⟨j, hj, e, f⟩ := isN_of hn h3
  refine x_aload_n S dX6_ofNode_14 0 rfl rfl ?_
  refine x_cVvS (n := 0) S (m_make hA hL hV) (gGV gC tw562 tw559 tw561 ts17 tw7) rfl (by decide +kernel) 0 rfl rfl rfl rfl (Nat.le_of_ble_eq_true rfl) dX6_ofNode_15 ⟨by decide, by decide⟩ ⟨Nat.le_of_ble_eq_true rfl, Nat.le_of_ble_eq_true rfl⟩ (fun u hu => ?_)
  refine x_iload_n S dX6_ofNode_18 1 rfl rfl ?_
  refine x_if_ne (tgt := 27) S dX6_ofNode_19 (by decide) (fun h4 => ?_) (fun h4 => ?_)
  rotate_left
  · refine x_bipush (v := -3) S dX6_ofNode_22 (by decide) ?_
    refine x_goto (tgt := 30) S dX6_ofNode_24 (by decide) ?_
    exact x_retS hret ((on, ot, we, th, u.1, u.2.1, u.2.2.1, false, u.2.2.2.1, u.2.2.2.2.1, pc, ap, pn, u.2.2.2.2.2, gr, tl, co)) (⟨hA, hL, hal, fun _ => hu, hPt⟩) ((by unfold sBranch; rw [if_pos h3, if_pos h4])) dX6_ofNode_30
  have hj0 : 1 ≤ j := Nat.pos_of_ne_zero (fun q => h4 (by rw [e, q]; rfl))
  refine x_aload_n S dX6_ofNode_27 2 rfl rfl ?_
  refine x_iload_n S dX6_ofNode_28 1 rfl rfl ?_
  refine x_ialdN S 9 0 (j) rfl rfl e (by omega) (by decide) dX6_ofNode_29 ?_
  exact x_retS hret ((on, ot, we, th, u.1, u.2.1, u.2.2.1, false, u.2.2.2.1, u.2.2.2.2.1, pc, ap, pn, u.2.2.2.2.2, gr, tl, co)) (⟨hA, hL, hal, fun _ => hu, hPt⟩) ((by unfold sBranch; rw [if_pos h3, if_neg h4, f, hu.2.2.2 j hj0 hj])) dX6_ofNode_30
set_option maxHeartbeats 4000000 in
set_option maxRecDepth 100000 in
theorem q_parent (v : Int32) (h : MS) (hI : mInv n am al fr to wt h) : xMetS l yX6_parent wX6_parent (rD 16) D vwCl (tyC cI cII cP cZ) nwC [.ref (bd 0), .int v] (mwH bd cI cZ n am al h ++ X) (fun h' : MS => mInv n am al fr to wt h') (fun h' => mwH bd cI cZ n am al h' ++ X) (fun _ => some (.int (sParent n am fr to wt v))) := by
  obtain ⟨on, ot, we, th, be, ne, cu, nw, pa, br, pc, ap, pn, ls, gr, tl, co⟩ := h
  obtain ⟨hA, hL, hal, hV, hPt⟩ := hI
  have hn := hA.1
  refine xMetS_of (cc := cX6_parent) (maxL := 2) (ret := (some .int)) (by decide +kernel) rfl (Nat.le_of_ble_eq_true rfl) (fun _ _ => xfi) ?_
  intro E S hnm hret
  show xW E D vwCl 2 0 0 (mw bd cI cZ n am al on ot we th be ne cu nw pa br pc ap pn ls gr tl co ++ X) [(0, .ref (bd 0)), (1, .int v)] 0 []
  refine x_aload_n S dX6_parent_0 0 rfl rfl ?_
  refine x_iload_n S dX6_parent_1 1 rfl rfl ?_
  refine x_aload_n S dX6_parent_2 0 rfl rfl ?_
  refine x_get S 0 11 rfl rfl inC6 (by decide) (gC _ tw476) rfl rfl dX6_parent_3 ?_
  refine x_cViS (n := 2) S (q_ofP v (on, ot, we, th, be, ne, cu, nw, pa, br, pc, ap, pn, ls, gr, tl, co) ⟨hA, hL, hal, hV, hPt⟩) (gGV gC tw586 tw583 tw585 ts20 tw7) rfl (by decide +kernel) 0 rfl rfl rfl rfl (Nat.le_of_ble_eq_true rfl) dX6_parent_6 ⟨by decide, by decide⟩ ⟨Nat.le_of_ble_eq_true rfl, Nat.le_of_ble_eq_true rfl⟩ (fun h' hI' => ?_)
  exact x_retS hret (h') (hI') (rfl) dX6_parent_9
set_option maxHeartbeats 4000000 in
set_option maxRecDepth 100000 in
theorem q_branch (v : Int32) (h : MS) (hI : mInv n am al fr to wt h) : xMetS l yX6_branch wX6_branch (rD 16) D vwCl (tyC cI cII cP cZ) nwC [.ref (bd 0), .int v] (mwH bd cI cZ n am al h ++ X) (fun h' : MS => mInv n am al fr to wt h') (fun h' => mwH bd cI cZ n am al h' ++ X) (fun _ => some (.int (sBranch n am fr to wt v))) := by
  obtain ⟨on, ot, we, th, be, ne, cu, nw, pa, br, pc, ap, pn, ls, gr, tl, co⟩ := h
  obtain ⟨hA, hL, hal, hV, hPt⟩ := hI
  have hn := hA.1
  refine xMetS_of (cc := cX6_branch) (maxL := 2) (ret := (some .int)) (by decide +kernel) rfl (Nat.le_of_ble_eq_true rfl) (fun _ _ => xfi) ?_
  intro E S hnm hret
  show xW E D vwCl 2 0 0 (mw bd cI cZ n am al on ot we th be ne cu nw pa br pc ap pn ls gr tl co ++ X) [(0, .ref (bd 0)), (1, .int v)] 0 []
  refine x_aload_n S dX6_branch_0 0 rfl rfl ?_
  refine x_iload_n S dX6_branch_1 1 rfl rfl ?_
  refine x_aload_n S dX6_branch_2 0 rfl rfl ?_
  refine x_get S 0 12 rfl rfl inC6 (by decide) (gC _ tw477) rfl rfl dX6_branch_3 ?_
  refine x_cViS (n := 2) S (q_ofB v (on, ot, we, th, be, ne, cu, nw, pa, br, pc, ap, pn, ls, gr, tl, co) ⟨hA, hL, hal, hV, hPt⟩) (gGV gC tw586 tw583 tw585 ts20 tw7) rfl (by decide +kernel) 0 rfl rfl rfl rfl (Nat.le_of_ble_eq_true rfl) dX6_branch_6 ⟨by decide, by decide⟩ ⟨Nat.le_of_ble_eq_true rfl, Nat.le_of_ble_eq_true rfl⟩ (fun h' hI' => ?_)
  exact x_retS hret (h') (hI') (rfl) dX6_branch_9
set_option maxHeartbeats 4000000 in
set_option maxRecDepth 100000 in
theorem m_leastCut (hA : aOK n am fr to wt) (hL : aRel am on ot we th fr to wt) (hV : nw = false → bOK am fr to wt be ne ∧ vOK n am fr to wt cu ∧ trOK n am fr to wt pa br) : xMetS l yX6_leastCut wX6_leastCut (rD 4) D vwCl (tyC cI cII cP cZ) nwC [.ref (bd 0)] (mw bd cI cZ n am al on ot we th be ne cu nw pa br pc ap pn ls gr tl co ++ X) (fun u : (Nat → Nat) × (Nat → Nat) × (Nat → Nat) × (Nat → Nat) × (Nat → Nat) × Int32 => bOK am fr to wt u.1 u.2.1 ∧ vOK n am fr to wt u.2.2.1 ∧ trOK n am fr to wt u.2.2.2.1 u.2.2.2.2.1) (fun u => (mw bd cI cZ n am al on ot we th u.1 u.2.1 u.2.2.1 false u.2.2.2.1 u.2.2.2.2.1 pc ap pn u.2.2.2.2.2 gr tl co ++ X)) (fun _ => some (.int (if 1 < n then nI (kC fr to wt am (kE (kC fr to wt am) n)) else -1))) := by
  refine xMetS_of (cc := cX6_leastCut) (maxL := 3) (ret := (some .int)) (by decide +kernel) rfl (Nat.le_of_ble_eq_true rfl) (fun _ _ => xfi) ?_
  intro E S hnm hret
  show xW E D vwCl 3 0 0 _ [(0, .ref (bd 0))] 0 []
  have hn := hA.1
  have hpn := pl_pow12 hn
  have hp0 := Nat.two_pow_pos n
  have hbd : ∀ T, kC fr to wt am T < 2 ^ 31 := fun T => by have := hA.cf T; omega
  have hcx : ∀ (c : Nat → Nat), vOK n am fr to wt c → True := fun _ _ => trivial
  refine x_aload_n S dX6_leastCut_0 0 rfl rfl ?_
  refine x_cVvS (n := 0) S (m_make hA hL hV) (gGV gC tw562 tw559 tw561 ts17 tw7) rfl (by decide +kernel) 0 rfl rfl rfl rfl (Nat.le_of_ble_eq_true rfl) dX6_leastCut_1 ⟨by decide, by decide⟩ ⟨Nat.le_of_ble_eq_true rfl, Nat.le_of_ble_eq_true rfl⟩ (fun u hu => ?_)
  have L : ∀ s, s ≤ 2 ^ n - 1 → 2 ≤ s → ∀ F, isFM (kC fr to wt am) (fun T => 1 ≤ T ∧ T < s) F → xW E D vwCl 3 0 0 (mw bd cI cZ n am al on ot we th u.1 u.2.1 u.2.2.1 false u.2.2.2.1 u.2.2.2.2.1 pc ap pn u.2.2.2.2.2 gr tl co ++ X) [(0, .ref (bd 0)), (1, .int (nI (kC fr to wt am F))), (2, .int (nI s))] 8 [] := by
    refine pl_up (2 ^ n - 1) (fun s hs ih => ?_)
    intro hs2 F hF
    refine x_iload_n S dX6_leastCut_8 2 rfl rfl ?_
    refine x_aload_n S dX6_leastCut_9 0 rfl rfl ?_
    refine x_cVi (n := 0) S (m_all hn) (gGV gC tw558 tw555 tw557 ts16 tw7) rfl (by decide +kernel) 0 rfl rfl rfl rfl (Nat.le_of_ble_eq_true rfl) dX6_leastCut_10 ⟨by decide, by decide⟩ ⟨Nat.le_of_ble_eq_true rfl, Nat.le_of_ble_eq_true rfl⟩ ?_
    refine x_icmp_ge (tgt := 43) S dX6_leastCut_13 (by decide) (fun h1 => ?_) (fun h1 => ?_)
    · have hs3 : s = 2 ^ n - 1 := Nat.le_antisymm hs ((nI_leI (by omega) (by omega)).mp h1)
      rw [hs3] at hF
      have h2n : 2 ≤ n := by
        rcases Nat.lt_or_ge n 2 with q | q
        · have := Nat.pow_le_pow_right (n := 2) (by omega) (show n ≤ 1 by omega); omega
        · exact q
      refine x_iload_n S dX6_leastCut_43 1 rfl rfl ?_
      exact x_retS hret u hu (by rw [if_pos (show 1 < n by omega), least_eq hA h2n hF]) dX6_leastCut_44
    have hs3 : s < 2 ^ n - 1 := Nat.lt_of_not_le (fun q => h1 (nI_le q (by omega)))
    have ih := ih hs3 (by omega)
    have hcs := hu.2.1 s (by omega)
    have hst := isFM_step (Q := fun T => 1 ≤ T ∧ T < s + 1) (T := s) hF (fun U => ⟨fun q => (Nat.lt_or_ge U s).elim (fun z => Or.inl ⟨q.1, z⟩) (fun z => Or.inr (by omega)), fun q => q.elim (fun z => ⟨z.1, by omega⟩) (fun z => ⟨by omega, by omega⟩)⟩) (fun U q => q.2)
    have ih := ih _ hst
    refine x_iload_n S dX6_leastCut_16 1 rfl rfl ?_
    refine x_if_lt (tgt := 30) S dX6_leastCut_17 (by decide) (fun h3 => ?_) (fun h3 => ?_)
    · exact absurd h3 (nI_pos (hbd F))
    refine x_aload_n S dX6_leastCut_20 0 rfl rfl ?_
    refine x_get S 0 9 rfl rfl inC6 (by decide) (gC _ tw474) rfl rfl dX6_leastCut_21 ?_
    refine x_iload_n S dX6_leastCut_24 2 rfl rfl ?_
    refine x_ialdN S 7 0 (s) rfl rfl rfl (by omega) (by decide) dX6_leastCut_25 ?_
    rw [hcs]
    refine x_iload_n S dX6_leastCut_26 1 rfl rfl ?_
    refine x_icmp_ge (tgt := 37) S dX6_leastCut_27 (by decide) (fun h4 => ?_) (fun h4 => ?_)
    rotate_left
    · rw [if_pos (Nat.lt_of_not_le (fun q => h4 (nI_le q (hbd s))))] at ih
      refine x_aload_n S dX6_leastCut_30 0 rfl rfl ?_
      refine x_get S 0 9 rfl rfl inC6 (by decide) (gC _ tw474) rfl rfl dX6_leastCut_31 ?_
      refine x_iload_n S dX6_leastCut_34 2 rfl rfl ?_
      refine x_ialdN S 7 0 (s) rfl rfl rfl (by omega) (by decide) dX6_leastCut_35 ?_
      rw [hcs]
      refine x_istore_n (lv' := [(1, .int _), (0, .ref _), (2, .int _)]) S dX6_leastCut_36 rfl (by decide) rfl ?_
      refine x_iincN (lv' := [(2, .int _), (1, .int _), (0, .ref _)]) S dX6_leastCut_37 2 rfl (by decide) rfl ?_
      refine x_goto (tgt := 8) S dX6_leastCut_40 (by decide) ?_
      exact x_sub [2, 1, 0] rfl (ih)
    rw [if_neg (fun q => nI_ge q (hbd F) h4)] at ih
    refine x_iincN (lv' := [(2, .int _), (0, .ref _), (1, .int _)]) S dX6_leastCut_37 2 rfl (by decide) rfl ?_
    refine x_goto (tgt := 8) S dX6_leastCut_40 (by decide) ?_
    exact x_sub [1, 2, 0] rfl (ih)
  refine x_iconst (v := -1) S dX6_leastCut_4 rfl ?_
  refine x_istore_n (lv' := [(1, .int _), (0, .ref _)]) S dX6_leastCut_5 rfl (by decide) rfl ?_
  refine x_iconst (v := 1) S dX6_leastCut_6 rfl ?_
  refine x_istore_n (lv' := [(2, .int _), (1, .int _), (0, .ref _)]) S dX6_leastCut_7 rfl (by decide) rfl ?_
  refine x_iload_n S dX6_leastCut_8 0 rfl rfl ?_
  refine x_aload_n S dX6_leastCut_9 2 rfl rfl ?_
  refine x_cVi (n := 0) S (m_all hn) (gGV gC tw558 tw555 tw557 ts16 tw7) rfl (by decide +kernel) 0 rfl rfl rfl rfl (Nat.le_of_ble_eq_true rfl) dX6_leastCut_10 ⟨by decide, by decide⟩ ⟨Nat.le_of_ble_eq_true rfl, Nat.le_of_ble_eq_true rfl⟩ ?_
  refine x_icmp_ge (tgt := 43) S dX6_leastCut_13 (by decide) (fun h1 => ?_) (fun h1 => ?_)
  · have h1 := (nI_leI (b := 1) (by omega) (by omega)).mp h1
    have h2n : ¬ 1 < n := fun q => by
      have := Nat.pow_le_pow_right (n := 2) (by omega) (show 2 ≤ n by omega); omega
    refine x_iload_n S dX6_leastCut_43 1 rfl rfl ?_
    exact x_retS hret u hu (by rw [if_neg h2n]) dX6_leastCut_44
  have h1 : 1 < 2 ^ n - 1 := Nat.lt_of_not_le (fun q => h1 (nI_le (b := 1) q (by omega)))
  have hcs := hu.2.1 1 (by omega)
  refine x_iload_n S dX6_leastCut_16 1 rfl rfl ?_
  refine x_if_lt (tgt := 30) S dX6_leastCut_17 (by decide) (fun h3 => ?_) (fun h3 => ?_)
  · refine x_aload_n S dX6_leastCut_30 2 rfl rfl ?_
    refine x_get S 0 9 rfl rfl inC6 (by decide) (gC _ tw474) rfl rfl dX6_leastCut_31 ?_
    refine x_iload_n S dX6_leastCut_34 0 rfl rfl ?_
    refine x_ialdN S 7 0 (1) rfl rfl rfl (by omega) (by decide) dX6_leastCut_35 ?_
    rw [hcs]
    refine x_istore_n (lv' := [(1, .int _), (2, .int _), (0, .ref _)]) S dX6_leastCut_36 rfl (by decide) rfl ?_
    refine x_iincN (lv' := [(2, .int _), (1, .int _), (0, .ref _)]) S dX6_leastCut_37 1 rfl (by decide) rfl ?_
    refine x_goto (tgt := 8) S dX6_leastCut_40 (by decide) ?_
    exact x_sub [2, 1, 0] rfl (L 2 (by omega) (Nat.le_refl _) 1 (isFM_one (fun U => ⟨fun q => by omega, fun q => by omega⟩)))
  exact absurd (by decide) h3
set_option maxHeartbeats 4000000 in
set_option maxRecDepth 100000 in
theorem q_least  (h : MS) (hI : mInv n am al fr to wt h) : xMetS l yX6_least wX6_least (rD 16) D vwCl (tyC cI cII cP cZ) nwC [.ref (bd 0)] (mwH bd cI cZ n am al h ++ X) (fun h' : MS => mInv n am al fr to wt h') (fun h' => mwH bd cI cZ n am al h' ++ X) (fun _ => some (.int (sLeast n am fr to wt))) := by
  obtain ⟨on, ot, we, th, be, ne, cu, nw, pa, br, pc, ap, pn, ls, gr, tl, co⟩ := h
  obtain ⟨hA, hL, hal, hV, hPt⟩ := hI
  have hn := hA.1
  refine xMetS_of (cc := cX6_least) (maxL := 1) (ret := (some .int)) (by decide +kernel) rfl (Nat.le_of_ble_eq_true rfl) (fun _ _ => xfi) ?_
  intro E S hnm hret
  show xW E D vwCl 1 0 0 (mw bd cI cZ n am al on ot we th be ne cu nw pa br pc ap pn ls gr tl co ++ X) [(0, .ref (bd 0))] 0 []
  refine x_aload_n S dX6_least_0 0 rfl rfl ?_
  refine x_get S 0 0 rfl rfl inC6 (by decide) (gC _ tw465) rfl rfl dX6_least_1 ?_
  refine x_iconst (v := 2) S dX6_least_4 rfl ?_
  refine x_icmp_ge (tgt := 13) S dX6_least_5 (by decide) (fun h1 => ?_) (fun h1 => ?_)
  · have h1 : 2 ≤ n := (nI_leI (a := 2) (by omega) (by omega)).mp h1
    refine x_aload_n S dX6_least_13 0 rfl rfl ?_
    refine x_cViS (n := 0) S (m_leastCut hA hL hV) (gGV gC tw607 tw604 tw606 ts22 tw7) rfl (by decide +kernel) 0 rfl rfl rfl rfl (Nat.le_of_ble_eq_true rfl) dX6_least_14 ⟨by decide, by decide⟩ ⟨Nat.le_of_ble_eq_true rfl, Nat.le_of_ble_eq_true rfl⟩ (fun u hu => ?_)
    exact x_retS hret ((on, ot, we, th, u.1, u.2.1, u.2.2.1, false, u.2.2.2.1, u.2.2.2.2.1, pc, ap, pn, u.2.2.2.2.2, gr, tl, co)) (⟨hA, hL, hal, fun _ => hu, hPt⟩) ((by unfold sLeast; rw [if_pos (show 1 < n by omega), if_pos (show 1 < n by omega)])) dX6_least_17
  have h1 : ¬ 1 < n := fun q => h1 (nI_le (a := 2) q (by omega))
  refine x_bipush (v := -3) S dX6_least_8 (by decide) ?_
  refine x_goto (tgt := 17) S dX6_least_10 (by decide) ?_
  exact x_retS hret ((on, ot, we, th, be, ne, cu, nw, pa, br, pc, ap, pn, ls, gr, tl, co)) (⟨hA, hL, hal, hV, hPt⟩) ((by unfold sLeast; rw [if_neg h1])) dX6_least_17
end M3
end
