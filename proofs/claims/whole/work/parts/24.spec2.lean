/-! the table of CUTS: sets, places, searches -/
section SPEC2
def aOK (n am : Nat) (fr to wt : Nat → Nat) : Prop := n ≤ 12 ∧ am ≤ 50 ∧ ∀ i, i < am → fr i < n ∧ to i < n ∧ fr i ≠ to i ∧ wt i ≤ 1000
def mOK (am : Nat) (fr to wt : Nat → Nat) (M : Nat → Nat → Nat) : Prop := ∀ a b, a < 12 → b < 12 → M a b = kM fr to wt am a b
def tOK (n am : Nat) (fr to wt cu : Nat → Nat) : Prop := ∀ p, p < 2 ^ (n - 1) → cu p = kC fr to wt am (2 * p)
theorem aOK.cf {n am : Nat} {fr to wt : Nat → Nat} (h : aOK n am fr to wt) (S : Nat) : kC fr to wt am S ≤ 50000 := by
  have h1 := kC_bd (fr := fr) (to := to) (wt := wt) (k := am) (S := S) (c := 1000) (fun i hi => (h.2.2 i hi).2.2.2)
  have := h.2.1
  omega
theorem aOK.st {n am : Nat} {fr to wt : Nat → Nat} (h : aOK n am fr to wt) : ∀ i, i < am → fr i < n ∧ to i < n ∧ fr i ≠ to i := fun i hi => ⟨(h.2.2 i hi).1, (h.2.2 i hi).2.1, (h.2.2 i hi).2.2.1⟩
theorem pn_or (x y p q : Nat) (hp : p < 2) (hq : q < 2) : (2 * x + p) ||| (2 * y + q) = 2 * (x ||| y) + (p ||| q) := by
  have h1 : (2 * x + p) / 2 = x := by omega
  have h2 : (2 * y + q) / 2 = y := by omega
  have h3 : (p ||| q) < 2 := by
    rcases (show p = 0 ∨ p = 1 by omega) with rfl | rfl <;> rcases (show q = 0 ∨ q = 1 by omega) with rfl | rfl <;> decide
  have h4 : (2 * (x ||| y) + (p ||| q)) / 2 = x ||| y := by omega
  have a1 : (2 * x + p) % 2 = p := by omega
  have a2 : (2 * y + q) % 2 = q := by omega
  have a3 : (2 * (x ||| y) + (p ||| q)) % 2 = p ||| q := by omega
  apply Nat.eq_of_testBit_eq
  intro i
  cases i with
  | zero =>
    rw [Nat.testBit_or, Nat.testBit_zero, Nat.testBit_zero, Nat.testBit_zero, a1, a2, a3]
    rcases (show p = 0 ∨ p = 1 by omega) with rfl | rfl <;> rcases (show q = 0 ∨ q = 1 by omega) with rfl | rfl <;> rfl
  | succ i => rw [Nat.testBit_or, Nat.testBit_succ, Nat.testBit_succ, Nat.testBit_succ, h1, h2, h4, Nat.testBit_or]
theorem or_add : ∀ (a x : Nat), x.testBit a = false → x ||| 2 ^ a = x + 2 ^ a
  | 0, x, h => by
    rw [Nat.testBit_zero] at h
    have h2 : x % 2 = 0 := by
      rcases Nat.mod_two_eq_zero_or_one x with q | q
      · exact q
      · rw [q] at h; simp at h
    have h3 := pn_or (x / 2) 0 0 1 (by omega) (by omega)
    rw [Nat.or_zero] at h3
    have h4 : (0 ||| 1 : Nat) = 1 := rfl
    rw [h4, show 2 * (x / 2) + 0 = x by omega, show 2 * 0 + 1 = 2 ^ 0 by rfl] at h3
    rw [h3]
    omega
  | a + 1, x, h => by
    rw [Nat.testBit_succ] at h
    have ih := or_add a (x / 2) h
    have h3 := pn_or (x / 2) (2 ^ a) (x % 2) 0 (by omega) (by omega)
    rw [Nat.or_zero, ih] at h3
    rw [show 2 * (x / 2) + x % 2 = x by omega, show 2 * 2 ^ a + 0 = 2 ^ (a + 1) by rw [Nat.pow_succ]; omega] at h3
    rw [h3, Nat.pow_succ]
    omega
theorem kO_t (n a b i : Nat) : (kO n a b).testBit i = (decide (i < n) && !decide (a = i) && !decide (b = i)) := by
  unfold kO
  rw [pl_di_t, pl_di_t, Nat.testBit_two_pow_sub_one, Nat.testBit_two_pow, Nat.testBit_two_pow]
theorem dep_t {A i k : Nat} (hA : A < 4096) (h : (pn_dep 12 A k).testBit i = true) : A.testBit i = true := by
  have := pn_dep_sub 12 A k hA
  rw [← this, Nat.testBit_and] at h
  exact (Bool.and_eq_true _ _ ▸ h).2
/-- SIDES that have a and not b -/
def isSd (n a b T : Nat) : Prop := T < 2 ^ n ∧ T.testBit a = true ∧ T.testBit b = false
theorem lt_of_t {n T : Nat} (h : ∀ i, T.testBit i = true → i < n) : T < 2 ^ n := by
  rcases Nat.lt_or_ge T (2 ^ n) with q | q
  · exact q
  · obtain ⟨i, hi, h2⟩ := Nat.exists_ge_and_testBit_of_ge_two_pow q
    have := h i h2
    omega
theorem t_lt {n T i : Nat} (hT : T < 2 ^ n) (h : T.testBit i = true) : i < n := by
  rcases Nat.lt_or_ge i n with q | q
  · exact q
  · rw [Nat.testBit_lt_two_pow (Nat.lt_of_lt_of_le hT (Nat.pow_le_pow_right (n := 2) (by omega) q))] at h
    cases h
theorem sd_iff {n a b : Nat} (hn : n ≤ 12) (ha : a < n) (hb : b < n) (hab : a ≠ b) (T : Nat) : isSd n a b T ↔ ∃ j, j < 2 ^ (n - 2) ∧ T = 2 ^ a ||| pn_dep 12 (kO n a b) j := by
  have hO := kO_lt (a := a) (b := b) hn
  have hpop := kO_pop n (by omega) a ha b hb hab
  constructor
  · rintro ⟨h1, h2, h3⟩
    obtain ⟨j, hj, e⟩ := pn_surj 12 (kO n a b) (T &&& kO n a b) hO (by rw [Nat.and_assoc, Nat.and_self])
    refine ⟨j, by rw [← hpop]; exact hj, ?_⟩
    rw [← e]
    apply Nat.eq_of_testBit_eq
    intro i
    rw [Nat.testBit_or, Nat.testBit_and, kO_t, Nat.testBit_two_pow]
    by_cases c1 : a = i
    · subst c1; simp [h2]
    · by_cases c2 : b = i
      · subst c2; simp [h3, c1]
      · cases hT : T.testBit i with
        | false => simp [c1]
        | true => simp [c1, c2, t_lt h1 hT]
  · rintro ⟨j, hj, rfl⟩
    have key : ∀ i, (pn_dep 12 (kO n a b) j).testBit i = true → i < n ∧ a ≠ i ∧ b ≠ i := fun i h => by
      have := dep_t hO h
      rw [kO_t] at this
      simpa [and_assoc] using this
    refine ⟨lt_of_t (fun i h => ?_), ?_, ?_⟩
    · rw [Nat.testBit_or, Nat.testBit_two_pow] at h
      rcases (Bool.or_eq_true _ _ ▸ h) with q | q
      · have := of_decide_eq_true q; omega
      · exact (key i q).1
    · rw [Nat.testBit_or, Nat.testBit_two_pow]; simp
    · rw [Nat.testBit_or, Nat.testBit_two_pow]
      cases hd : (pn_dep 12 (kO n a b) j).testBit b with
      | false => simp [hab]
      | true => exact absurd rfl (key b hd).2.2
theorem sd_mono {n a b i j : Nat} (hn : n ≤ 12) (ha : a < n) (hb : b < n) (hab : a ≠ b) (hij : i < j) (hj : j < 2 ^ (n - 2)) : 2 ^ a ||| pn_dep 12 (kO n a b) i < 2 ^ a ||| pn_dep 12 (kO n a b) j := by
  have hO := kO_lt (a := a) (b := b) hn
  have hpop := kO_pop n (by omega) a ha b hb hab
  have h1 := pn_mono 12 (kO n a b) i j hO hij (by rw [hpop]; exact hj)
  have key : ∀ k, (pn_dep 12 (kO n a b) k).testBit a = false := fun k => by
    cases hd : (pn_dep 12 (kO n a b) k).testBit a with
    | false => rfl
    | true =>
      have := dep_t hO hd
      rw [kO_t] at this
      simp at this
  rw [Nat.or_comm, or_add _ _ (key i), Nat.or_comm, or_add _ _ (key j)]
  omega
theorem isFM_ex {f : Nat → Nat} {P : Nat → Prop} (h : ∃ T, P T) : ∃ S, isFM f P S := by
  obtain ⟨v, ⟨T0, hT0, hv0⟩, hv⟩ := pk_least (fun v => ∃ T, P T ∧ f T = v) (by obtain ⟨T, hT⟩ := h; exact ⟨f T, T, hT, rfl⟩)
  obtain ⟨S, ⟨hS, hSv⟩, hmin⟩ := pk_least (fun T => P T ∧ f T = v) ⟨T0, hT0, hv0⟩
  have hle : ∀ T, P T → v ≤ f T := fun T hT => Nat.le_of_not_lt (fun q => hv _ q ⟨T, hT, rfl⟩)
  refine ⟨S, hS, fun T hT => by rw [hSv]; exact hle T hT, fun T hT hlt => ?_⟩
  have h1 := hle T hT
  have h2 : f T ≠ v := fun q => hmin T hlt ⟨hT, q⟩
  omega
/-- SIDES without NODE 0, by their places -/
def evP (n T : Nat) : Prop := ∃ j, j < 2 ^ (n - 1) - 1 ∧ T = 2 * (j + 1)
def kCnt (cf : Nat → Nat) (m : Nat) (k : Nat) : Nat := sm (fun j => if cf (2 * (j + 1)) = m then 1 else 0) k
def kLO (cf : Nat → Nat) (m κ : Nat) : Nat → Nat → Int32
  | 0, _ => -1
  | r + 1, j => if cf (2 * (j + 1)) = m then (if kCnt cf m j = κ then nI (2 * (j + 1)) else kLO cf m κ r (j + 1)) else kLO cf m κ r (j + 1)
def kSp (cf sp : Nat → Nat) : Nat → Nat
  | 0 => 2
  | k + 1 => if cf (2 * (k + 2)) * sp (kSp cf sp k) < cf (kSp cf sp k) * sp (2 * (k + 2)) then 2 * (k + 2) else kSp cf sp k
theorem kSp_le (cf sp : Nat → Nat) : ∀ k, kSp cf sp k ≤ 2 * (k + 1) ∧ 2 ≤ kSp cf sp k
  | 0 => ⟨Nat.le_refl _, Nat.le_refl _⟩
  | k + 1 => by
    have ih := kSp_le cf sp k
    simp only [kSp]
    split <;> omega
theorem kCnt_le (cf : Nat → Nat) (m : Nat) : ∀ k, kCnt cf m k ≤ k
  | 0 => Nat.le_refl _
  | k + 1 => by
    have ih := kCnt_le cf m k
    show kCnt cf m k + (if cf (2 * (k + 1)) = m then 1 else 0) ≤ k + 1
    split <;> omega
theorem kCnt_s (cf : Nat → Nat) (m k : Nat) : kCnt cf m (k + 1) = kCnt cf m k + if cf (2 * (k + 1)) = m then 1 else 0 := rfl
/-- the weights between v and S -/
def kV (M : Nat → Nat → Nat) (v n S : Nat) : Nat := sm (fun u => if S.testBit u = true then M v u else 0) n
theorem kV_0 (M : Nat → Nat → Nat) (v n : Nat) : kV M v n 0 = 0 := sm_0 (fun i _ => by simp)
theorem sm_bump {f g : Nat → Nat} {n u w : Nat} (hu : u < n) (h1 : g u = f u + w) (h2 : ∀ i, i ≠ u → g i = f i) : sm g n = sm f n + w := by
  induction n with
  | zero => omega
  | succ n ih =>
    simp only [sm]
    rcases Nat.lt_or_ge u n with q | q
    · rw [ih q, h2 n (by omega)]; omega
    · have : u = n := by omega
      subst this
      rw [h1, sm_congr (fun i hi => h2 i (by omega))]; omega
theorem kV_add {M : Nat → Nat → Nat} {v n u S : Nat} (hu : u < n) (hS : S < 2 ^ u) : kV M v n (2 ^ u + S) = kV M v n S + M v u := by
  have hb : S.testBit u = false := Nat.testBit_lt_two_pow hS
  have e : 2 ^ u + S = S ||| 2 ^ u := by rw [or_add _ _ hb]; omega
  refine sm_bump hu ?_ (fun i hi => ?_)
  · rw [e, Nat.testBit_or, Nat.testBit_two_pow, hb]; simp
  · rw [e, Nat.testBit_or, Nat.testBit_two_pow]
    have : ¬ u = i := fun q => hi q.symm
    simp [this]
end SPEC2
