/-! the class's own loops as functions of numbers -/
section SPEC
def kR1 (nb : Nat → Nat) (o r : Nat) : Nat → Nat
  | 0 => r
  | v + 1 => if r.testBit v = true then kR1 nb o r v ||| (nb v &&& o) else kR1 nb o r v
def kR (nb : Nat → Nat) (o n : Nat) : Nat → Nat → Nat
  | 0, r => r
  | j + 1, r => if kR1 nb o r n = r then r else kR nb o n j (kR1 nb o r n)
theorem kR1_lt {nb : Nat → Nat} {o r : Nat} (hr : r < 4096) (ho : o < 4096) : ∀ v, kR1 nb o r v < 4096
  | 0 => hr
  | v + 1 => by
    have ih := kR1_lt (nb := nb) hr ho v
    have h1 : nb v &&& o < 2 ^ 12 := Nat.lt_of_le_of_lt Nat.and_le_right ho
    simp only [kR1]
    split
    · exact Nat.or_lt_two_pow (n := 12) ih h1
    · exact ih
theorem kR_lt {nb : Nat → Nat} {o n : Nat} (ho : o < 4096) : ∀ (j r : Nat), r < 4096 → kR nb o n j r < 4096
  | 0, r, hr => hr
  | j + 1, r, hr => by
    simp only [kR]
    split
    · exact hr
    · exact kR_lt ho j _ (kR1_lt hr ho n)
def kCC (nb : Nat → Nat) (o n : Nat) : Nat → Nat × Nat
  | 0 => (o, 0)
  | v + 1 => if (kCC nb o n v).1.testBit v = true then (pl_di (kCC nb o n v).1 (kR nb o n n (2 ^ v)), (kCC nb o n v).2 + 1) else kCC nb o n v
theorem kCC_lt {nb : Nat → Nat} {o n : Nat} (ho : o < 4096) : ∀ v, (kCC nb o n v).1 < 4096
  | 0 => ho
  | v + 1 => by
    have ih := kCC_lt (nb := nb) (n := n) ho v
    simp only [kCC]
    split
    · exact Nat.lt_of_le_of_lt (pl_di_le _ _) ih
    · exact ih
/-- NODES of a SET -/
abbrev kP (s : Nat) : Nat := pn_pop 12 s
/-- all NODES but two -/
abbrev kO (n a b : Nat) : Nat := pl_di (pl_di (2 ^ n - 1) (2 ^ a)) (2 ^ b)
theorem kO_pop : ∀ n, n < 13 → ∀ a, a < n → ∀ b, b < n → a ≠ b → pn_pop 12 (kO n a b) = n - 2 := by decide +kernel
theorem kO_lt {n a b : Nat} (hn : n ≤ 12) : kO n a b < 4096 := by
  have h1 := pl_di_le (pl_di (2 ^ n - 1) (2 ^ a)) (2 ^ b)
  have h2 := pl_di_le (2 ^ n - 1) (2 ^ a)
  have h3 := pl_pow12 hn
  have h4 := Nat.two_pow_pos n
  unfold kO
  omega
def kFB (nb : Nat → Nat) (n a b : Nat) : Nat → Nat
  | 0 => kO n a b
  | i + 1 => if kP (pn_dep 12 (kO n a b) i) < kP (kFB nb n a b i) ∧ (kR nb (pl_di (2 ^ n - 1) (pn_dep 12 (kO n a b) i)) n n (2 ^ a)).testBit b = false then pn_dep 12 (kO n a b) i else kFB nb n a b i
theorem kFB_lt {nb : Nat → Nat} {n a b : Nat} (hn : n ≤ 12) : ∀ i, kFB nb n a b i < 4096
  | 0 => kO_lt hn
  | i + 1 => by
    have ih := kFB_lt (nb := nb) (a := a) (b := b) hn i
    simp only [kFB]
    split
    · exact Nat.lt_of_le_of_lt (pn_dep_le (w := 12) (kO_lt hn)) (kO_lt hn)
    · exact ih
def uM (M : Nat → Nat → Nat) (a b m1 m2 : Nat) : Nat → Nat → Nat := va_up (va_up M a (va_up (M a) b m1)) b (va_up ((va_up M a (va_up (M a) b m1)) b) a m2)
def uB (nb : Nat → Nat) (a b : Nat) (j : Bool) : Nat → Nat := va_up (va_up nb a (if j = true then nb a ||| 2 ^ b else pl_di (nb a) (2 ^ b))) b (if j = true then (va_up nb a (if j = true then nb a ||| 2 ^ b else pl_di (nb a) (2 ^ b))) b ||| 2 ^ a else pl_di ((va_up nb a (if j = true then nb a ||| 2 ^ b else pl_di (nb a) (2 ^ b))) b) (2 ^ a))
theorem pop_le : ∀ (w s : Nat), pn_pop w s ≤ w
  | 0, _ => Nat.le_refl _
  | w + 1, s => by
    have := pop_le w (s / 2)
    simp only [pn_pop]
    omega
end SPEC
