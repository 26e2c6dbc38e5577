/-! what changes keep -/
section UPD
theorem kM_sym (fr to wt : Nat → Nat) (k a b : Nat) : kM fr to wt k a b = kM fr to wt k b a := sm_congr (fun i _ => by
  by_cases h : (fr i = a ∧ to i = b) ∨ (fr i = b ∧ to i = a)
  · rw [if_pos h, if_pos h.symm]
  · rw [if_neg h, if_neg (fun q => h q.symm)])
theorem kM_add {fr to wt : Nat → Nat} {am a b w : Nat} (x y : Nat) : kM (va_up fr am a) (va_up to am b) (va_up wt am w) (am + 1) x y = kM fr to wt am x y + if (a = x ∧ b = y) ∨ (a = y ∧ b = x) then w else 0 := by
  show sm _ am + _ = _
  simp only [va_up_self]
  congr 1
  exact sm_congr (fun i hi => by rw [va_up_ne _ _ (by omega), va_up_ne _ _ (by omega), va_up_ne _ _ (by omega)])
theorem sm_drop {f g : Nat → Nat} {n u w : Nat} (hu : u < n) (h1 : g u + w = f u) (h2 : ∀ i, i ≠ u → g i = f i) : sm g n + w = sm f n := by
  have := sm_bump (f := g) (g := f) (n := n) (u := u) (w := w) hu (by omega) (fun i hi => (h2 i hi).symm)
  omega
theorem kM_del {fr to wt : Nat → Nat} {am k : Nat} (hk : k < am) (x y : Nat) : kM fr to (va_up wt k 0) am x y + (if (fr k = x ∧ to k = y) ∨ (fr k = y ∧ to k = x) then wt k else 0) = kM fr to wt am x y := by
  refine sm_drop hk ?_ (fun i hi => ?_)
  · rw [va_up_self]
    split <;> omega
  · rw [va_up_ne _ _ hi]
theorem kLv_add {wt : Nat → Nat} {am w : Nat} (hw : 0 < w) : kLv (va_up wt am w) (am + 1) = kLv wt am + 1 := by
  show sm _ am + _ = _
  simp only [va_up_self]
  rw [if_pos hw]
  congr 1
  exact sm_congr (fun i hi => by rw [va_up_ne _ _ (by omega)])
theorem kLv_del {wt : Nat → Nat} {am k : Nat} (hk : k < am) (hw : 0 < wt k) : kLv (va_up wt k 0) am + 1 = kLv wt am := by
  refine sm_drop hk ?_ (fun i hi => ?_)
  · rw [va_up_self, if_pos hw]; rfl
  · rw [va_up_ne _ _ hi]
theorem uM_t {M : Nat → Nat → Nat} {a b m1 m2 x y : Nat} (hab : a ≠ b) : uM M a b m1 m2 x y = if x = a ∧ y = b then m1 else if x = b ∧ y = a then m2 else M x y := by
  unfold uM
  by_cases c1 : x = b
  · subst c1
    rw [va_up_self, if_neg (fun q => hab q.1.symm)]
    by_cases c2 : y = a
    · subst c2; rw [va_up_self, if_pos ⟨rfl, rfl⟩]
    · rw [va_up_ne _ _ c2, if_neg (fun q => c2 q.2), va_up_ne _ _ (fun q => hab q.symm)]
  · rw [va_up_ne _ _ c1, if_neg (c := x = b ∧ y = a) (fun q => c1 q.1)]
    by_cases c2 : x = a
    · subst c2
      rw [va_up_self]
      by_cases c3 : y = b
      · subst c3; rw [va_up_self, if_pos ⟨rfl, rfl⟩]
      · rw [va_up_ne _ _ c3, if_neg (fun q => c3 q.2)]
    · rw [va_up_ne _ _ c2, if_neg (fun q => c2 q.1)]
theorem bit_t {s v i : Nat} (j : Bool) : (if j = true then s ||| 2 ^ v else pl_di s (2 ^ v)).testBit i = if i = v then j else s.testBit i := by
  cases j with
  | true =>
    rw [if_pos rfl, Nat.testBit_or, Nat.testBit_two_pow]
    by_cases e : i = v
    · subst e; simp
    · simp [e, show ¬ v = i from fun q => e q.symm]
  | false =>
    rw [if_neg (by decide), pl_di_t, Nat.testBit_two_pow]
    by_cases e : i = v
    · subst e; simp
    · simp [e, show ¬ v = i from fun q => e q.symm]
theorem uB_t {nb : Nat → Nat} {a b x y : Nat} {j : Bool} (hab : a ≠ b) : (uB nb a b j x).testBit y = if x = a ∧ y = b then j else if x = b ∧ y = a then j else (nb x).testBit y := by
  unfold uB
  by_cases c1 : x = b
  · subst c1
    rw [va_up_self, bit_t, va_up_ne _ _ (fun q => hab q.symm), if_neg (c := x = a ∧ y = x) (fun q => hab q.1.symm)]
    by_cases c2 : y = a
    · rw [if_pos c2, if_pos ⟨rfl, c2⟩]
    · rw [if_neg c2, if_neg (fun q => c2 q.2)]
  · rw [va_up_ne _ _ c1, if_neg (c := x = b ∧ y = a) (fun q => c1 q.1)]
    by_cases c2 : x = a
    · subst c2
      rw [va_up_self, bit_t]
      by_cases c3 : y = b
      · rw [if_pos c3, if_pos ⟨rfl, c3⟩]
      · rw [if_neg c3, if_neg (fun q => c3 q.2)]
    · rw [va_up_ne _ _ c2, if_neg (fun q => c2 q.1)]
theorem uB_lt {nb : Nat → Nat} {a b x : Nat} {j : Bool} (ha : a < 12) (hb : b < 12) (hab : a ≠ b) (h : ∀ v, v < 12 → nb v < 4096) (hx : x < 12) : uB nb a b j x < 4096 := lt_of_t (n := 12) (fun i hi => by
  rw [uB_t hab] at hi
  split at hi
  · rename_i q; omega
  · split at hi
    · rename_i q; omega
    · exact t_lt (h x hx) hi)
/-- the matrix and the bits follow an ARC that comes or goes -/
theorem mn_upd {am am' : Nat} {fr to wt fr' to' wt' nb : Nat → Nat} {M : Nat → Nat → Nat} {a b m1 m2 : Nat} (hM : mOK am fr to wt M) (hN : nbOK am fr to wt nb) (ha : a < 12) (hb : b < 12) (hab : a ≠ b) (h1 : m1 = kM fr' to' wt' am' a b) (h2 : m2 = kM fr' to' wt' am' b a) (h3 : ∀ x y, ¬ ((x = a ∧ y = b) ∨ (x = b ∧ y = a)) → kM fr' to' wt' am' x y = kM fr to wt am x y) : mOK am' fr' to' wt' (uM M a b m1 m2) ∧ nbOK am' fr' to' wt' (uB nb a b (decide (0 < m1))) := by
  refine ⟨fun x y hx hy => ?_, fun x hx => ?_⟩
  · rw [uM_t hab]
    by_cases c1 : x = a ∧ y = b
    · rw [if_pos c1, h1, c1.1, c1.2]
    · rw [if_neg c1]
      by_cases c2 : x = b ∧ y = a
      · rw [if_pos c2, h2, c2.1, c2.2]
      · rw [if_neg c2, hM x y hx hy, h3 x y (fun q => q.elim c1 c2)]
  · refine nb_eq (uB_lt ha hb hab (fun v hv => by rw [hN v hv]; exact kNb_lt _ _ _ _ _) hx) (kNb_lt _ _ _ _ _) (fun y hy => ?_)
    rw [uB_t hab, kNb_t _ _ _ _ _ _ hy]
    by_cases c1 : x = a ∧ y = b
    · rw [if_pos c1, h1, c1.1, c1.2]
    · rw [if_neg c1]
      by_cases c2 : x = b ∧ y = a
      · rw [if_pos c2, h1, c2.1, c2.2, kM_sym]
      · rw [if_neg c2, hN x hx, kNb_t _ _ _ _ _ _ hy, h3 x y (fun q => q.elim c1 c2)]
theorem paOK.stale {n n' am am' ch : Nat} {fr to wt fr' to' wt' : Nat → Nat} {P : Nat → Int32 × Nat × (Nat → Nat) × (Nat → Nat)} (hb : ch + 1 < 2 ^ 31) (h : paOK n am ch fr to wt P) : paOK n' am' (ch + 1) fr' to' wt' P := fun j hj => ⟨(h j hj).1.up, fun q => absurd q ((h j hj).1.ne hb)⟩
end UPD
