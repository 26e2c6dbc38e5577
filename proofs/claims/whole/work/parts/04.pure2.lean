/-! the first of the least -/
section PURE2
def isFM (f : Nat → Nat) (P : Nat → Prop) (S : Nat) : Prop := P S ∧ (∀ T, P T → f S ≤ f T) ∧ ∀ T, P T → T < S → f S < f T
theorem isFM_uniq {f : Nat → Nat} {P : Nat → Prop} {S S' : Nat} (h : isFM f P S) (h' : isFM f P S') : S = S' := by
  rcases Nat.lt_trichotomy S S' with c | c | c
  · have := h'.2.2 S h.1 c
    have := h.2.1 S' h'.1
    omega
  · exact c
  · have := h.2.2 S' h'.1 c
    have := h'.2.1 S h.1
    omega
theorem isFM_congr {f g : Nat → Nat} {P Q : Nat → Prop} {S : Nat} (hP : ∀ T, P T ↔ Q T) (hf : ∀ T, P T → f T = g T) (h : isFM f P S) : isFM g Q S := by
  refine ⟨(hP S).mp h.1, fun T hT => ?_, fun T hT hlt => ?_⟩
  · have hT' := (hP T).mpr hT
    rw [← hf S h.1, ← hf T hT']
    exact h.2.1 T hT'
  · have hT' := (hP T).mpr hT
    rw [← hf S h.1, ← hf T hT']
    exact h.2.2 T hT' hlt
/-- one more is looked at, as they rise -/
theorem isFM_step {f : Nat → Nat} {P Q : Nat → Prop} {S T : Nat} (h : isFM f P S) (hQ : ∀ U, Q U ↔ P U ∨ U = T) (hT : ∀ U, P U → U < T) : isFM f Q (if f T < f S then T else S) := by
  by_cases c : f T < f S
  · rw [if_pos c]
    refine ⟨(hQ T).mpr (Or.inr rfl), fun U hU => ?_, fun U hU hlt => ?_⟩
    · rcases (hQ U).mp hU with q | rfl
      · have := h.2.1 U q; omega
      · exact Nat.le_refl _
    · rcases (hQ U).mp hU with q | rfl
      · have := h.2.1 U q; omega
      · omega
  · rw [if_neg c]
    refine ⟨(hQ S).mpr (Or.inl h.1), fun U hU => ?_, fun U hU hlt => ?_⟩
    · rcases (hQ U).mp hU with q | rfl
      · exact h.2.1 U q
      · omega
    · rcases (hQ U).mp hU with q | rfl
      · exact h.2.2 U q hlt
      · have := hT S h.1; omega
theorem isFM_one {f : Nat → Nat} {P : Nat → Prop} {S : Nat} (h : ∀ U, P U ↔ U = S) : isFM f P S := by
  refine ⟨(h S).mpr rfl, fun T hT => ?_, fun T hT hlt => ?_⟩
  · rw [(h T).mp hT]; exact Nat.le_refl _
  · have := (h T).mp hT; omega
end PURE2
