/-! what ways lead to; BARS -/
section CLO
def isCl (R : Nat → Nat → Bool) (n v C : Nat) : Prop := C.testBit v = true ∧ (∀ u i, u < n → C.testBit u = true → R u i = true → C.testBit i = true) ∧ ∀ D : Nat, (D.testBit v = true ∧ ∀ u i, u < n → D.testBit u = true → R u i = true → D.testBit i = true) → ∀ i, C.testBit i = true → D.testBit i = true
theorem isCl_uniq {R : Nat → Nat → Bool} {n v C C' : Nat} (h : isCl R n v C) (h' : isCl R n v C') : C = C' := Nat.eq_of_testBit_eq (fun i => by
  have a := h.2.2 C' ⟨h'.1, h'.2.1⟩ i
  have b := h'.2.2 C ⟨h.1, h.2.1⟩ i
  cases h1 : C.testBit i <;> cases h2 : C'.testBit i <;> simp_all)
theorem isCl_congr {R R' : Nat → Nat → Bool} {n v C : Nat} (e : ∀ u i, u < n → R u i = R' u i) (h : isCl R n v C) : isCl R' n v C := ⟨h.1, fun u i hu h1 h2 => h.2.1 u i hu h1 (by rw [e u i hu]; exact h2), fun D hD => h.2.2 D ⟨hD.1, fun u i hu h1 h2 => hD.2 u i hu h1 (by rw [← e u i hu]; exact h2)⟩⟩
def rC (nb : Nat → Nat) (o u i : Nat) : Bool := (nb u).testBit i && o.testBit i
theorem kR1_iff (nb : Nat → Nat) (o r i : Nat) : ∀ k, (kR1 nb o r k).testBit i = true ↔ r.testBit i = true ∨ ∃ u, u < k ∧ r.testBit u = true ∧ rC nb o u i = true
  | 0 => ⟨fun h => Or.inl h, fun h => h.elim id (fun ⟨u, hu, _⟩ => absurd hu (by omega))⟩
  | k + 1 => by
    have ih := kR1_iff nb o r i k
    simp only [kR1]
    split
    · rename_i hk
      rw [Nat.testBit_or, Bool.or_eq_true, ih, Nat.testBit_and]
      constructor
      · rintro ((h | ⟨u, hu, h⟩) | h)
        · exact Or.inl h
        · exact Or.inr ⟨u, by omega, h⟩
        · exact Or.inr ⟨k, by omega, hk, h⟩
      · rintro (h | ⟨u, hu, h1, h2⟩)
        · exact Or.inl (Or.inl h)
        · rcases Nat.lt_or_ge u k with c | c
          · exact Or.inl (Or.inr ⟨u, c, h1, h2⟩)
          · have : u = k := by omega
            subst this; exact Or.inr h2
    · rename_i hk
      rw [ih]
      constructor
      · rintro (h | ⟨u, hu, h⟩)
        · exact Or.inl h
        · exact Or.inr ⟨u, by omega, h⟩
      · rintro (h | ⟨u, hu, h1, h2⟩)
        · exact Or.inl h
        · rcases Nat.lt_or_ge u k with c | c
          · exact Or.inr ⟨u, c, h1, h2⟩
          · have : u = k := by omega
            subst this; exact absurd h1 hk
theorem sm_lt {f g : Nat → Nat} {n u : Nat} (hu : u < n) (h : ∀ i, i < n → f i ≤ g i) (hlt : f u < g u) : sm f n < sm g n := by
  induction n with
  | zero => omega
  | succ n ih =>
    simp only [sm]
    have h2 := h n (by omega)
    rcases Nat.lt_or_ge u n with c | c
    · have := ih c (fun i hi => h i (by omega)); omega
    · have e : u = n := by omega
      subst e
      have := sm_le (f := f) (g := g) (k := u) (fun i hi => h i (by omega)); omega
/-- more NODES -/
theorem pop_sub_lt {r s : Nat} (hs : s < 4096) (h : ∀ i, r.testBit i = true → s.testBit i = true) (hne : r ≠ s) : kP r < kP s := by
  obtain ⟨u, h1, h2⟩ : ∃ u, r.testBit u = false ∧ s.testBit u = true := Classical.byContradiction (fun q => hne (Nat.eq_of_testBit_eq (fun i => by
    cases h1 : r.testBit i with
    | true => rw [h i h1]
    | false => cases h2 : s.testBit i with
      | false => rfl
      | true => exact absurd ⟨i, h1, h2⟩ q)))
  have hu : u < 12 := t_lt (n := 12) hs h2
  show pn_pop 12 r < pn_pop 12 s
  rw [pop_sm, pop_sm]
  refine sm_lt hu (fun i _ => ?_) ?_
  · rw [pl_tb, pl_tb]
    cases h3 : r.testBit i with
    | false => simp
    | true => rw [h i h3]; exact Nat.le_refl _
  · rw [pl_tb, pl_tb, h1, h2]; decide
theorem pop_sub_le {r s : Nat} (hs : s < 4096) (h : ∀ i, r.testBit i = true → s.testBit i = true) : kP r ≤ kP s := by
  by_cases e : r = s
  · rw [e]; exact Nat.le_refl _
  · exact Nat.le_of_lt (pop_sub_lt hs h e)
theorem kR_min {nb : Nat → Nat} {o n D : Nat} (hD : ∀ u i, u < n → D.testBit u = true → rC nb o u i = true → D.testBit i = true) : ∀ (j r : Nat), (∀ i, r.testBit i = true → D.testBit i = true) → ∀ i, (kR nb o n j r).testBit i = true → D.testBit i = true
  | 0, r, h, i, q => h i q
  | j + 1, r, h, i, q => by
    simp only [kR] at q
    split at q
    · exact h i q
    · refine kR_min hD j _ (fun i hi => ?_) i q
      rcases (kR1_iff nb o r i n).mp hi with c | ⟨u, hu, h1, h2⟩
      · exact h i c
      · exact hD u i hu (h u h1) h2
theorem kR_has {nb : Nat → Nat} {o n : Nat} : ∀ (j r i : Nat), r.testBit i = true → (kR nb o n j r).testBit i = true
  | 0, r, i, h => h
  | j + 1, r, i, h => by
    simp only [kR]
    split
    · exact h
    · exact kR_has j _ i ((kR1_iff nb o r i n).mpr (Or.inl h))
theorem kR_closed {nb : Nat → Nat} {o n : Nat} (hn : n ≤ 12) (ho : o < 2 ^ n) : ∀ (j r : Nat), r < 2 ^ n → n + 1 ≤ kP r + j → ∀ u i, u < n → (kR nb o n j r).testBit u = true → rC nb o u i = true → (kR nb o n j r).testBit i = true
  | 0, r, hr, h => by
    have := pop_n 12 n r hr
    have : kP r ≤ n := this
    omega
  | j + 1, r, hr, h => by
    have hp := pl_pow12 hn
    simp only [kR]
    split
    · rename_i e
      intro u i hu h1 h2
      rw [← e]
      exact (kR1_iff nb o r i n).mpr (Or.inr ⟨u, hu, h1, h2⟩)
    · rename_i e
      have hlt : kR1 nb o r n < 2 ^ n := lt_of_t (fun i hi => by
        rcases (kR1_iff nb o r i n).mp hi with c | ⟨u, hu, h1, h2⟩
        · exact t_lt hr c
        · unfold rC at h2
          exact t_lt ho (Bool.and_eq_true _ _ ▸ h2).2)
      have := pop_sub_lt (r := r) (s := kR1 nb o r n) (by omega) (fun i hi => (kR1_iff nb o r i n).mpr (Or.inl hi)) (fun q => e q.symm)
      exact kR_closed hn ho j _ hlt (by omega)
theorem kR_isCl {nb : Nat → Nat} {o n v : Nat} (hn : n ≤ 12) (hv : v < n) (ho : o < 2 ^ n) : isCl (rC nb o) n v (kR nb o n n (2 ^ v)) := by
  have hb : (2 ^ v).testBit v = true := by rw [Nat.testBit_two_pow]; simp
  refine ⟨kR_has n _ v hb, kR_closed hn ho n _ (pl_pow hv) ?_, fun D hD => kR_min hD.2 n _ (fun i hi => ?_)⟩
  · have h1 : 1 ≤ kP (2 ^ v) := Nat.pos_of_ne_zero (fun q => by
      have := pop_zero 12 (2 ^ v) (pl_pow (by omega)) q
      have := Nat.two_pow_pos v; omega)
    omega
  · rw [Nat.testBit_two_pow] at hi
    have : v = i := of_decide_eq_true hi
    rw [← this]; exact hD.1
/-- one pass of the reference -/
def pG (st : Nat → Nat) (m : Nat) : Nat → Nat
  | 0 => m
  | k + 1 => if (pG st m k).testBit k = true then pG st m k ||| st k else pG st m k
theorem pG_has (st : Nat → Nat) (m i : Nat) : ∀ k, m.testBit i = true → (pG st m k).testBit i = true
  | 0, h => h
  | k + 1, h => by
    have ih := pG_has st m i k h
    simp only [pG]
    split
    · rw [Nat.testBit_or, ih]; rfl
    · exact ih
theorem pG_mono (st : Nat → Nat) (m i : Nat) : ∀ (k d : Nat), (pG st m k).testBit i = true → (pG st m (k + d)).testBit i = true
  | k, 0, h => h
  | k, d + 1, h => by
    have ih := pG_mono st m i k d h
    show (if (pG st m (k + d)).testBit (k + d) = true then pG st m (k + d) ||| st (k + d) else pG st m (k + d)).testBit i = true
    split
    · rw [Nat.testBit_or, ih]; rfl
    · exact ih
theorem pG_min {st : Nat → Nat} {R : Nat → Nat → Bool} {n m D : Nat} (hst : ∀ u i, u < n → ((st u).testBit i = true ↔ R u i = true)) (hD : ∀ u i, u < n → D.testBit u = true → R u i = true → D.testBit i = true) (hm : ∀ i, m.testBit i = true → D.testBit i = true) : ∀ k, k ≤ n → ∀ i, (pG st m k).testBit i = true → D.testBit i = true
  | 0, _, i, h => hm i h
  | k + 1, hk, i, h => by
    have ih := pG_min hst hD hm k (by omega)
    simp only [pG] at h
    split at h
    · rename_i q
      rw [Nat.testBit_or, Bool.or_eq_true] at h
      exact h.elim (ih i) (fun c => hD k i (by omega) (ih k q) ((hst k i (by omega)).mp c))
    · exact ih i h
theorem pG_fix {st : Nat → Nat} {R : Nat → Nat → Bool} {n m : Nat} (hst : ∀ u i, u < n → ((st u).testBit i = true ↔ R u i = true)) (e : pG st m n = m) : ∀ u i, u < n → m.testBit u = true → R u i = true → m.testBit i = true := by
  intro u i hu h1 h2
  have h3 : (pG st m (u + 1)).testBit i = true := by
    show (if (pG st m u).testBit u = true then pG st m u ||| st u else pG st m u).testBit i = true
    rw [if_pos (pG_has st m u u h1), Nat.testBit_or, (hst u i hu).mpr h2, Bool.or_true]
  have h4 := pG_mono st m i (u + 1) (n - (u + 1)) h3
  rw [show u + 1 + (n - (u + 1)) = n by omega, e] at h4
  exact h4
theorem pG_lt {st : Nat → Nat} {m : Nat} (hm : m < 4096) (hs : ∀ u, u < 12 → st u < 4096) : ∀ k, k ≤ 12 → pG st m k < 4096
  | 0, _ => hm
  | k + 1, hk => by
    have ih := pG_lt hm hs k (by omega)
    simp only [pG]
    split
    · exact Nat.or_lt_two_pow (n := 12) ih (hs k (by omega))
    · exact ih
theorem sub_le_of {r s : Nat} (h : ∀ i, r.testBit i = true → s.testBit i = true) : r ≤ s := by
  have : r &&& s = r := Nat.eq_of_testBit_eq (fun i => by
    rw [Nat.testBit_and]
    cases h1 : r.testBit i with
    | false => rfl
    | true => rw [h i h1]; rfl)
  rw [← this]; exact Nat.and_le_right
/-- BARS -/
def isV (nb : Nat → Nat) (n a b s : Nat) : Prop := s &&& kO n a b = s ∧ (kR nb (pl_di (2 ^ n - 1) s) n n (2 ^ a)).testBit b = false
theorem kFB_inv {nb : Nat → Nat} {n a b : Nat} (hV0 : isV nb n a b (kO n a b)) (hn : n ≤ 12) (ha : a < n) (hb : b < n) (hab : a ≠ b) : ∀ i, i ≤ 2 ^ (n - 2) → isV nb n a b (kFB nb n a b i) ∧ (∀ j, j < i → isV nb n a b (pn_dep 12 (kO n a b) j) → kP (kFB nb n a b i) ≤ kP (pn_dep 12 (kO n a b) j)) ∧ (kFB nb n a b i = kO n a b ∨ ∃ j, j < i ∧ kFB nb n a b i = pn_dep 12 (kO n a b) j ∧ ∀ j', j' < j → isV nb n a b (pn_dep 12 (kO n a b) j') → kP (kFB nb n a b i) < kP (pn_dep 12 (kO n a b) j'))
  | 0, _ => ⟨hV0, fun j hj => absurd hj (by omega), Or.inl rfl⟩
  | i + 1, hi => by
    obtain ⟨h1, h2, h3⟩ := kFB_inv hV0 hn ha hb hab i (by omega)
    have hO := kO_lt (a := a) (b := b) hn
    simp only [kFB]
    split
    · rename_i q
      refine ⟨⟨pn_dep_sub 12 _ i hO, q.2⟩, fun j hj hv => ?_, Or.inr ⟨i, by omega, rfl, fun j' hj' hv => ?_⟩⟩
      · rcases Nat.lt_or_ge j i with c | c
        · have := h2 j c hv; omega
        · rw [show j = i by omega]; exact Nat.le_refl _
      · have := h2 j' hj' hv; omega
    · rename_i q
      refine ⟨h1, fun j hj hv => ?_, h3.imp id (fun ⟨j, a1, a2, a3⟩ => ⟨j, by omega, a2, a3⟩)⟩
      rcases Nat.lt_or_ge j i with c | c
      · exact h2 j c hv
      · have e : j = i := by omega
        subst e
        exact Nat.le_of_not_lt (fun w => q ⟨w, hv.2⟩)
theorem kFB_isFM {nb : Nat → Nat} {n a b : Nat} (hV0 : isV nb n a b (kO n a b)) (hn : n ≤ 12) (ha : a < n) (hb : b < n) (hab : a ≠ b) : isFM kP (isV nb n a b) (kFB nb n a b (2 ^ (n - 2))) := by
  obtain ⟨h1, h2, h3⟩ := kFB_inv hV0 hn ha hb hab (2 ^ (n - 2)) (Nat.le_refl _)
  have hO := kO_lt (a := a) (b := b) hn
  have hpop := kO_pop n (by omega) a ha b hb hab
  have key : ∀ T, isV nb n a b T → ∃ j, j < 2 ^ (n - 2) ∧ T = pn_dep 12 (kO n a b) j := fun T hT => by
    obtain ⟨j, hj, e⟩ := pn_surj 12 (kO n a b) T hO hT.1
    exact ⟨j, by rw [← hpop]; exact hj, e⟩
  have hle : ∀ T, isV nb n a b T → kP (kFB nb n a b (2 ^ (n - 2))) ≤ kP T := fun T hT => by
    obtain ⟨j, hj, rfl⟩ := key T hT
    exact h2 j hj hT
  refine ⟨h1, hle, fun T hT hlt => ?_⟩
  rcases h3 with e | ⟨j, a1, a2, a3⟩
  · rw [e] at hlt
    have hsub : ∀ i, T.testBit i = true → (kO n a b).testBit i = true := fun i hi => by
      rw [← hT.1, Nat.testBit_and] at hi
      exact (Bool.and_eq_true _ _ ▸ hi).2
    have := pop_sub_lt hO hsub (by omega)
    have h5 := hle T hT
    rw [e] at h5
    omega
  · obtain ⟨j', hj', rfl⟩ := key T hT
    refine a3 j' ?_ hT
    rcases Nat.lt_or_ge j' j with c | c
    · exact c
    · rw [a2] at hlt
      rcases Nat.lt_or_ge j j' with c2 | c2
      · have := pn_mono 12 (kO n a b) j j' hO c2 (by rw [hpop]; exact hj')
        omega
      · have : j = j' := by omega
        subst this; omega
end CLO
