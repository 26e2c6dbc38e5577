/-! the SETS within a mask, one after another as their bits rise -/
section PURE1
theorem pn_and (x y p q : Nat) (hp : p < 2) (hq : q < 2) : (2 * x + p) &&& (2 * y + q) = 2 * (x &&& y) + (p &&& q) := by
  have h1 : (2 * x + p) / 2 = x := by omega
  have h2 : (2 * y + q) / 2 = y := by omega
  have h3 : (p &&& q) < 2 := by
    rcases (show p = 0 ∨ p = 1 by omega) with rfl | rfl <;> rcases (show q = 0 ∨ q = 1 by omega) with rfl | rfl <;> decide
  have h4 : (2 * (x &&& y) + (p &&& q)) / 2 = x &&& y := by omega
  have a1 : (2 * x + p) % 2 = p := by omega
  have a2 : (2 * y + q) % 2 = q := by omega
  have a3 : (2 * (x &&& y) + (p &&& q)) % 2 = p &&& q := by omega
  apply Nat.eq_of_testBit_eq
  intro i
  cases i with
  | zero =>
    rw [Nat.testBit_and, Nat.testBit_zero, Nat.testBit_zero, Nat.testBit_zero, a1, a2, a3]
    rcases (show p = 0 ∨ p = 1 by omega) with rfl | rfl <;> rcases (show q = 0 ∨ q = 1 by omega) with rfl | rfl <;> rfl
  | succ i => rw [Nat.testBit_and, Nat.testBit_succ, Nat.testBit_succ, Nat.testBit_succ, h1, h2, h4, Nat.testBit_and]
theorem pn_and0 (x y : Nat) : (2 * x) &&& (2 * y) = 2 * (x &&& y) := by
  have h := pn_and x y 0 0 (by omega) (by omega)
  simpa using h
/-- the place i among the SETS within A -/
def pn_dep : Nat → Nat → Nat → Nat
  | 0, _, _ => 0
  | w + 1, A, i => if A % 2 = 1 then 2 * pn_dep w (A / 2) (i / 2) + i % 2 else 2 * pn_dep w (A / 2) i
def pn_pop : Nat → Nat → Nat
  | 0, _ => 0
  | w + 1, A => pn_pop w (A / 2) + A % 2
theorem pn_dep_odd (w A i : Nat) : pn_dep (w + 1) (2 * A + 1) i = 2 * pn_dep w A (i / 2) + i % 2 := by
  show (if (2 * A + 1) % 2 = 1 then 2 * pn_dep w ((2 * A + 1) / 2) (i / 2) + i % 2 else 2 * pn_dep w ((2 * A + 1) / 2) i) = _
  rw [if_pos (by omega), show (2 * A + 1) / 2 = A by omega]
theorem pn_dep_even (w A i : Nat) : pn_dep (w + 1) (2 * A) i = 2 * pn_dep w A i := by
  show (if (2 * A) % 2 = 1 then 2 * pn_dep w ((2 * A) / 2) (i / 2) + i % 2 else 2 * pn_dep w ((2 * A) / 2) i) = _
  rw [if_neg (by omega), show (2 * A) / 2 = A by omega]
theorem pn_pop_odd (w A : Nat) : pn_pop (w + 1) (2 * A + 1) = pn_pop w A + 1 := by
  show pn_pop w ((2 * A + 1) / 2) + (2 * A + 1) % 2 = _
  rw [show (2 * A + 1) / 2 = A by omega, show (2 * A + 1) % 2 = 1 by omega]
theorem pn_pop_even (w A : Nat) : pn_pop (w + 1) (2 * A) = pn_pop w A := by
  show pn_pop w ((2 * A) / 2) + (2 * A) % 2 = _
  rw [show (2 * A) / 2 = A by omega, show (2 * A) % 2 = 0 by omega]
  rfl
theorem pn_eo (A : Nat) : (∃ B, A = 2 * B) ∨ ∃ B, A = 2 * B + 1 := by
  rcases Nat.mod_two_eq_zero_or_one A with h | h
  · exact Or.inl ⟨A / 2, by omega⟩
  · exact Or.inr ⟨A / 2, by omega⟩
theorem pn_dep_sub : ∀ (w A i : Nat), A < 2 ^ w → pn_dep w A i &&& A = pn_dep w A i := by
  intro w
  induction w with
  | zero => intro A i h; simp [pn_dep]
  | succ w ih =>
    intro A i h
    rw [Nat.pow_succ] at h
    rcases pn_eo A with ⟨B, rfl⟩ | ⟨B, rfl⟩
    · rw [pn_dep_even, pn_and0, ih B i (by omega)]
    · rw [pn_dep_odd, pn_and _ _ _ _ (Nat.mod_lt _ (by omega)) (by omega), ih B (i / 2) (by omega)]
      rcases Nat.mod_two_eq_zero_or_one i with h | h <;> rw [h] <;> rfl
theorem pn_dep_le {w A i : Nat} (h : A < 2 ^ w) : pn_dep w A i ≤ A := by
  rw [← pn_dep_sub w A i h]
  exact Nat.and_le_right
theorem pn_sub_c : ∀ (w A d : Nat), A < 2 ^ w → d &&& A = d → (d + (2 ^ w - 1 - A)) &&& A = d := by
  intro w
  induction w with
  | zero =>
    intro A d h h2
    have : A = 0 := by simpa using h
    subst this
    simpa using h2
  | succ w ih =>
    intro A d h h2
    have hp : 2 ^ (w + 1) = 2 * 2 ^ w := by rw [Nat.pow_succ]; omega
    have h0 : 0 < 2 ^ w := Nat.two_pow_pos w
    rcases pn_eo A with ⟨B, rfl⟩ | ⟨B, rfl⟩ <;> rcases pn_eo d with ⟨e, rfl⟩ | ⟨e, rfl⟩
    · rw [pn_and0] at h2
      have h3 := ih B e (by omega) (by omega)
      have h4 := pn_and (e + (2 ^ w - 1 - B)) B 1 0 (by omega) (by omega)
      rw [show 2 * e + (2 ^ (w + 1) - 1 - 2 * B) = 2 * (e + (2 ^ w - 1 - B)) + 1 by omega]
      rw [show 2 * B = 2 * B + 0 by omega, h4, h3]
      rfl
    · have h4 := pn_and e B 1 0 (by omega) (by omega)
      rw [show (2 * B + 0) = 2 * B by omega, h2] at h4
      have : (1 &&& 0 : Nat) = 0 := rfl
      omega
    · have h5 := pn_and e B 0 1 (by omega) (by omega)
      rw [show 2 * e + 0 = 2 * e by omega, h2] at h5
      have h6 : (0 &&& 1 : Nat) = 0 := rfl
      have h3 := ih B e (by omega) (by omega)
      have h4 := pn_and (e + (2 ^ w - 1 - B)) B 0 1 (by omega) (by omega)
      rw [show 2 * e + (2 ^ (w + 1) - 1 - (2 * B + 1)) = 2 * (e + (2 ^ w - 1 - B)) + 0 by omega, h4, h3]
      omega
    · have h5 := pn_and e B 1 1 (by omega) (by omega)
      rw [h2] at h5
      have h6 : (1 &&& 1 : Nat) = 1 := rfl
      have h3 := ih B e (by omega) (by omega)
      have h4 := pn_and (e + (2 ^ w - 1 - B)) B 1 1 (by omega) (by omega)
      rw [show 2 * e + 1 + (2 ^ (w + 1) - 1 - (2 * B + 1)) = 2 * (e + (2 ^ w - 1 - B)) + 1 by omega, h4, h3]
      omega
theorem pn_next : ∀ (w A i : Nat), A < 2 ^ w → i + 1 < 2 ^ pn_pop w A → (pn_dep w A i + 2 ^ w - A) &&& A = pn_dep w A (i + 1) := by
  intro w
  induction w with
  | zero =>
    intro A i h h2
    simp [pn_pop] at h2
  | succ w ih =>
    intro A i h h2
    have hp : 2 ^ (w + 1) = 2 * 2 ^ w := by rw [Nat.pow_succ]; omega
    have h0 : 0 < 2 ^ w := Nat.two_pow_pos w
    rcases pn_eo A with ⟨B, rfl⟩ | ⟨B, rfl⟩
    · rw [pn_pop_even] at h2
      have h3 := ih B i (by omega) h2
      rw [pn_dep_even, pn_dep_even, show 2 * pn_dep w B i + 2 ^ (w + 1) - 2 * B = 2 * (pn_dep w B i + 2 ^ w - B) by omega, pn_and0, h3]
    · rw [pn_pop_odd, Nat.pow_succ] at h2
      rw [pn_dep_odd, pn_dep_odd]
      rcases pn_eo i with ⟨j, rfl⟩ | ⟨j, rfl⟩
      · have hs := pn_sub_c w B (pn_dep w B j) (by omega) (pn_dep_sub w B j (by omega))
        rw [show 2 * j / 2 = j by omega, show 2 * j % 2 = 0 by omega, show (2 * j + 1) / 2 = j by omega, show (2 * j + 1) % 2 = 1 by omega]
        rw [show 2 * pn_dep w B j + 0 + 2 ^ (w + 1) - (2 * B + 1) = 2 * (pn_dep w B j + (2 ^ w - 1 - B)) + 1 by omega, pn_and _ _ _ _ (by omega) (by omega), hs]
        rfl
      · have h3 := ih B j (by omega) (by omega)
        rw [show (2 * j + 1) / 2 = j by omega, show (2 * j + 1) % 2 = 1 by omega, show (2 * j + 1 + 1) / 2 = j + 1 by omega, show (2 * j + 1 + 1) % 2 = 0 by omega]
        rw [show 2 * pn_dep w B j + 1 + 2 ^ (w + 1) - (2 * B + 1) = 2 * (pn_dep w B j + 2 ^ w - B) + 0 by omega, pn_and _ _ _ _ (by omega) (by omega), h3]
        rfl
theorem pn_mono : ∀ (w A i j : Nat), A < 2 ^ w → i < j → j < 2 ^ pn_pop w A → pn_dep w A i < pn_dep w A j := by
  intro w
  induction w with
  | zero =>
    intro A i j h h2 h3
    simp [pn_pop] at h3
    omega
  | succ w ih =>
    intro A i j h h2 h3
    have hp : 2 ^ (w + 1) = 2 * 2 ^ w := by rw [Nat.pow_succ]; omega
    rcases pn_eo A with ⟨B, rfl⟩ | ⟨B, rfl⟩
    · rw [pn_pop_even] at h3
      have := ih B i j (by omega) h2 h3
      rw [pn_dep_even, pn_dep_even]
      omega
    · rw [pn_pop_odd, Nat.pow_succ] at h3
      rw [pn_dep_odd, pn_dep_odd]
      rcases Nat.lt_or_ge (i / 2) (j / 2) with h4 | h4
      · have := ih B (i / 2) (j / 2) (by omega) h4 (by omega)
        omega
      · have : i / 2 = j / 2 := by omega
        rw [this]
        omega
theorem pn_surj : ∀ (w A T : Nat), A < 2 ^ w → T &&& A = T → ∃ i, i < 2 ^ pn_pop w A ∧ T = pn_dep w A i := by
  intro w
  induction w with
  | zero =>
    intro A T h h2
    have : A = 0 := by simpa using h
    subst this
    exact ⟨0, by simp [pn_pop], by simpa [pn_dep] using h2.symm⟩
  | succ w ih =>
    intro A T h h2
    have hp : 2 ^ (w + 1) = 2 * 2 ^ w := by rw [Nat.pow_succ]; omega
    rcases pn_eo A with ⟨B, rfl⟩ | ⟨B, rfl⟩ <;> rcases pn_eo T with ⟨e, rfl⟩ | ⟨e, rfl⟩
    · rw [pn_and0] at h2
      obtain ⟨i, h3, h4⟩ := ih B e (by omega) (by omega)
      exact ⟨i, by rw [pn_pop_even]; exact h3, by rw [pn_dep_even, ← h4]⟩
    · have h4 := pn_and e B 1 0 (by omega) (by omega)
      rw [show (2 * B + 0) = 2 * B by omega, h2] at h4
      have : (1 &&& 0 : Nat) = 0 := rfl
      omega
    · have h5 := pn_and e B 0 1 (by omega) (by omega)
      rw [show 2 * e + 0 = 2 * e by omega, h2] at h5
      have h6 : (0 &&& 1 : Nat) = 0 := rfl
      obtain ⟨i, h3, h4⟩ := ih B e (by omega) (by omega)
      exact ⟨2 * i, by rw [pn_pop_odd, Nat.pow_succ]; omega, by rw [pn_dep_odd, show 2 * i / 2 = i by omega, ← h4]; omega⟩
    · have h5 := pn_and e B 1 1 (by omega) (by omega)
      rw [h2] at h5
      have h6 : (1 &&& 1 : Nat) = 1 := rfl
      obtain ⟨i, h3, h4⟩ := ih B e (by omega) (by omega)
      exact ⟨2 * i + 1, by rw [pn_pop_odd, Nat.pow_succ]; omega, by rw [pn_dep_odd, show (2 * i + 1) / 2 = i by omega, ← h4]; omega⟩
theorem pn_zero : ∀ (w A : Nat), pn_dep w A 0 = 0 := by
  intro w
  induction w with
  | zero => intro A; rfl
  | succ w ih =>
    intro A
    rcases pn_eo A with ⟨B, rfl⟩ | ⟨B, rfl⟩
    · rw [pn_dep_even, ih]
    · rw [pn_dep_odd, show 0 / 2 = 0 by omega, ih]
end PURE1
