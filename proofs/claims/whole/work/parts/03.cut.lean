/-! sums; the CUT of a SET; one NODE more -/
section CUT
def sm (f : Nat → Nat) : Nat → Nat
  | 0 => 0
  | k + 1 => sm f k + f k
theorem sm_add (f g : Nat → Nat) (k : Nat) : sm (fun i => f i + g i) k = sm f k + sm g k := by
  induction k with
  | zero => rfl
  | succ k ih => simp only [sm]; omega
theorem sm_congr {f g : Nat → Nat} {k : Nat} (h : ∀ i, i < k → f i = g i) : sm f k = sm g k := by
  induction k with
  | zero => rfl
  | succ k ih => simp only [sm]; rw [ih (fun i hi => h i (by omega)), h k (by omega)]
theorem sm_le {f g : Nat → Nat} {k : Nat} (h : ∀ i, i < k → f i ≤ g i) : sm f k ≤ sm g k := by
  induction k with
  | zero => exact Nat.le_refl _
  | succ k ih => simp only [sm]; have := ih (fun i hi => h i (by omega)); have := h k (by omega); omega
theorem sm_c (c k : Nat) : sm (fun _ => c) k = c * k := by
  induction k with
  | zero => rfl
  | succ k ih => simp only [sm]; rw [ih, Nat.mul_succ]
theorem sm_bd {f : Nat → Nat} {k c : Nat} (h : ∀ i, i < k → f i ≤ c) : sm f k ≤ c * k := by
  have := sm_le (g := fun _ => c) h
  rwa [sm_c] at this
theorem sm_0 {f : Nat → Nat} {k : Nat} (h : ∀ i, i < k → f i = 0) : sm f k = 0 := by
  have h1 := sm_congr (g := fun _ => 0) h
  rw [h1, sm_c]
  omega
theorem sm_one {n u w : Nat} (h : u < n) : sm (fun i => if i = u then w else 0) n = w := by
  induction n with
  | zero => omega
  | succ n ih =>
    simp only [sm]
    rcases Nat.lt_or_ge u n with h1 | h1
    · rw [ih h1, if_neg (by omega)]
      omega
    · have : u = n := by omega
      subst this
      rw [sm_0 (fun i hi => if_neg (by omega)), if_pos rfl]
      omega
theorem sm_mul (c : Nat) (f : Nat → Nat) (k : Nat) : sm (fun i => c * f i) k = c * sm f k := by
  induction k with
  | zero => rfl
  | succ k ih => simp only [sm]; rw [ih, Nat.mul_add]
/-- the CUT of S, the first k ARCS counted -/
def kC (fr to wt : Nat → Nat) (k S : Nat) : Nat := sm (fun i => if S.testBit (fr i) = S.testBit (to i) then 0 else wt i) k
/-- between a and b -/
def kM (fr to wt : Nat → Nat) (k a b : Nat) : Nat := sm (fun i => if (fr i = a ∧ to i = b) ∨ (fr i = b ∧ to i = a) then wt i else 0) k
theorem kC_co {fr to wt : Nat → Nat} {k n S : Nat} (h : ∀ i, i < k → fr i < n ∧ to i < n) : kC fr to wt k (pl_di (2 ^ n - 1) S) = kC fr to wt k S := by
  refine sm_congr (fun i hi => ?_)
  have h1 : ∀ v, v < n → (pl_di (2 ^ n - 1) S).testBit v = !S.testBit v := fun v hv => by
    rw [pl_di_t, Nat.testBit_two_pow_sub_one, decide_eq_true hv, Bool.true_and]
  obtain ⟨a, b⟩ := h i hi
  simp only [h1 _ a, h1 _ b]
  cases S.testBit (fr i) <;> cases S.testBit (to i) <;> rfl
theorem kC_0 {fr to wt : Nat → Nat} {k : Nat} : kC fr to wt k 0 = 0 := sm_0 (fun i _ => by simp)
theorem kC_bd {fr to wt : Nat → Nat} {k S c : Nat} (h : ∀ i, i < k → wt i ≤ c) : kC fr to wt k S ≤ c * k := sm_bd (fun i hi => by
  have := h i hi
  by_cases h2 : S.testBit (fr i) = S.testBit (to i)
  · simp [h2]
  · simp [h2, this])
theorem kM_bd {fr to wt : Nat → Nat} {k a b c : Nat} (h : ∀ i, i < k → wt i ≤ c) : kM fr to wt k a b ≤ c * k := sm_bd (fun i hi => by
  have := h i hi
  by_cases h2 : (fr i = a ∧ to i = b) ∨ (fr i = b ∧ to i = a)
  · rw [if_pos h2]; exact this
  · rw [if_neg h2]; omega)
/-- the weights at v whose other NODE has p -/
theorem kM_sum {fr to wt : Nat → Nat} {k n v : Nat} (p : Nat → Bool) (h : ∀ i, i < k → fr i < n ∧ to i < n ∧ fr i ≠ to i) :
    sm (fun u => if p u = true then kM fr to wt k v u else 0) n = sm (fun i => if (fr i = v ∧ p (to i) = true) ∨ (to i = v ∧ p (fr i) = true) then wt i else 0) k := by
  induction k with
  | zero =>
    exact sm_0 (fun u _ => by by_cases hp : p u = true <;> simp [hp, kM, sm])
  | succ k ih =>
    have ih := ih (fun i hi => h i (by omega))
    obtain ⟨h1, h2, h3⟩ := h k (by omega)
    have e1 : sm (fun u => if p u = true then kM fr to wt (k + 1) v u else 0) n = sm (fun u => if p u = true then kM fr to wt k v u else 0) n + sm (fun u => if p u = true ∧ ((fr k = v ∧ to k = u) ∨ (fr k = u ∧ to k = v)) then wt k else 0) n := by
      rw [← sm_add]
      refine sm_congr (fun u _ => ?_)
      by_cases hp : p u = true
      · simp [hp, kM, sm]
      · simp [hp]
    have e2 : sm (fun u => if p u = true ∧ ((fr k = v ∧ to k = u) ∨ (fr k = u ∧ to k = v)) then wt k else 0) n = if (fr k = v ∧ p (to k) = true) ∨ (to k = v ∧ p (fr k) = true) then wt k else 0 := by
      by_cases c1 : fr k = v
      · have c2 : ¬ to k = v := fun e => h3 (c1.trans e.symm)
        by_cases c3 : p (to k) = true
        · rw [if_pos (Or.inl ⟨c1, c3⟩)]
          refine Eq.trans (sm_congr (g := fun i => if i = to k then wt k else 0) (fun u _ => ?_)) (sm_one h2)
          by_cases hu : u = to k
          · subst hu
            rw [if_pos ⟨c3, Or.inl ⟨c1, rfl⟩⟩, if_pos rfl]
          · rw [if_neg hu, if_neg (fun q => q.2.elim (fun z => hu z.2.symm) (fun z => c2 z.2))]
        · rw [if_neg (fun q => q.elim (fun z => c3 z.2) (fun z => c2 z.1))]
          refine sm_0 (fun u _ => if_neg (fun q => q.2.elim (fun z => c3 (z.2 ▸ q.1)) (fun z => c2 z.2)))
      · by_cases c2 : to k = v
        · by_cases c3 : p (fr k) = true
          · rw [if_pos (Or.inr ⟨c2, c3⟩)]
            refine Eq.trans (sm_congr (g := fun i => if i = fr k then wt k else 0) (fun u _ => ?_)) (sm_one h1)
            by_cases hu : u = fr k
            · subst hu
              rw [if_pos ⟨c3, Or.inr ⟨rfl, c2⟩⟩, if_pos rfl]
            · rw [if_neg hu, if_neg (fun q => q.2.elim (fun z => c1 z.1) (fun z => hu z.1.symm))]
          · rw [if_neg (fun q => q.elim (fun z => c1 z.1) (fun z => c3 z.2))]
            refine sm_0 (fun u _ => if_neg (fun q => q.2.elim (fun z => c1 z.1) (fun z => c3 (z.1 ▸ q.1))))
        · rw [if_neg (fun q => q.elim (fun z => c1 z.1) (fun z => c2 z.1))]
          refine sm_0 (fun u _ => if_neg (fun q => q.2.elim (fun z => c1 z.1) (fun z => c2 z.2)))
    rw [e1, e2, ih]
    rfl
/-- one NODE more -/
theorem kC_step {fr to wt : Nat → Nat} {k n v S : Nat} (h : ∀ i, i < k → fr i < n ∧ to i < n ∧ fr i ≠ to i) (hv : S.testBit v = false) :
    kC fr to wt k (S ||| 2 ^ v) + 2 * sm (fun u => if S.testBit u = true then kM fr to wt k v u else 0) n = kC fr to wt k S + sm (fun u => kM fr to wt k v u) n := by
  have e1 := kM_sum (fr := fr) (to := to) (wt := wt) (k := k) (n := n) (v := v) (fun u => S.testBit u) h
  have e2 := kM_sum (fr := fr) (to := to) (wt := wt) (k := k) (n := n) (v := v) (fun _ => true) h
  simp only [if_true, and_true] at e2
  rw [e1, e2]
  unfold kC
  rw [← sm_mul, ← sm_add, ← sm_add]
  refine sm_congr (fun i hi => ?_)
  obtain ⟨h1, h2, h3⟩ := h i hi
  have t : ∀ u, (S ||| 2 ^ v).testBit u = (S.testBit u || decide (v = u)) := fun u => by rw [Nat.testBit_or, Nat.testBit_two_pow]
  simp only [t]
  by_cases c1 : fr i = v
  · have c2 : ¬ to i = v := fun e => h3 (c1.trans e.symm)
    have c4 : ¬ v = to i := fun e => c2 e.symm
    subst c1
    cases hb : S.testBit (to i) <;> simp [hv, hb, c2, c4] <;> omega
  · by_cases c2 : to i = v
    · have c4 : ¬ v = fr i := fun e => c1 e.symm
      subst c2
      cases hb : S.testBit (fr i) <;> simp [hv, hb, c1, c4] <;> omega
    · have c3 : ¬ v = fr i := fun e => c1 e.symm
      have c4 : ¬ v = to i := fun e => c2 e.symm
      simp [c1, c2, c3, c4]
end CUT
