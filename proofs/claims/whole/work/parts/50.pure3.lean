/-! the reference's search over all partings: the same as the class's -/
section PURE3
def lxl (n : Nat) (g f : Nat → Nat) : Prop := ∀ i, i < n → (∀ u, u < i → g u = f u) → g i ≤ f i
theorem lxl_anti {n : Nat} {g f : Nat → Nat} (h1 : lxl n g f) (h2 : lxl n f g) : ∀ i, i < n → g i = f i := by
  intro i
  induction i using Nat.strongRecOn with
  | _ i ih => exact fun hi => Nat.le_antisymm (h1 i hi (fun u hu => ih u hu (by omega))) (h2 i hi (fun u hu => (ih u hu (by omega)).symm))
theorem lxl_blk {n v : Nat} {f0 g f : Nat → Nat} (hg : ∀ u, u < v → g u = f0 u) (hf : ∀ u, u < v → f u = f0 u) (h : g v < f v) : lxl n g f := by
  intro i hi q
  rcases Nat.lt_trichotomy i v with c | c | c
  · rw [hg i c, hf i c]; exact Nat.le_refl _
  · subst c; omega
  · have := q v c; omega
def Rs (n : Nat) (C : (Nat → Nat) → Nat) (V : (Nat → Nat) → Prop) (st o : Nat × (Nat → Nat)) : Prop := (o = st ∧ ∀ f, V f → st.1 ≤ C f) ∨ (V o.2 ∧ o.1 = C o.2 ∧ o.1 < st.1 ∧ ∀ f, V f → o.1 ≤ C f ∧ (C f = o.1 → lxl n o.2 f))
theorem Rs.comp {n : Nat} {C : (Nat → Nat) → Nat} {V W U : (Nat → Nat) → Prop} {st o1 o2 : Nat × (Nat → Nat)} (h1 : Rs n C V st o1) (h2 : Rs n C W o1 o2) (hb : ∀ f g, V f → W g → lxl n f g) (hU : ∀ f, U f ↔ V f ∨ W f) : Rs n C U st o2 := by
  rcases h1 with ⟨e1, a1⟩ | ⟨v1, c1, l1, a1⟩
  · subst e1
    rcases h2 with ⟨e2, a2⟩ | ⟨v2, c2, l2, a2⟩
    · exact Or.inl ⟨e2, fun f q => ((hU f).mp q).elim (a1 f) (a2 f)⟩
    · refine Or.inr ⟨(hU _).mpr (Or.inr v2), c2, l2, fun f q => ?_⟩
      rcases (hU f).mp q with q | q
      · have := a1 f q
        exact ⟨by omega, fun e => by omega⟩
      · exact a2 f q
  · rcases h2 with ⟨e2, a2⟩ | ⟨v2, c2, l2, a2⟩
    · subst e2
      refine Or.inr ⟨(hU _).mpr (Or.inl v1), c1, l1, fun f q => ?_⟩
      rcases (hU f).mp q with q | q
      · exact a1 f q
      · exact ⟨a2 f q, fun _ => hb _ _ v1 q⟩
    · refine Or.inr ⟨(hU _).mpr (Or.inr v2), c2, by omega, fun f q => ?_⟩
      rcases (hU f).mp q with q | q
      · have := (a1 f q).1
        exact ⟨by omega, fun e => by omega⟩
      · exact a2 f q
theorem Rs.none {n : Nat} {C : (Nat → Nat) → Nat} {V : (Nat → Nat) → Prop} {st : Nat × (Nat → Nat)} (h : ∀ f, V f → st.1 ≤ C f) : Rs n C V st st := Or.inl ⟨rfl, h⟩
theorem Rs.fold {n : Nat} {C : (Nat → Nat) → Nat} {g : Nat → Nat × (Nat → Nat) → Nat × (Nat → Nat)} {V : Nat → (Nat → Nat) → Prop} {st : Nat × (Nat → Nat)} : ∀ m, (∀ x, x < m → ∀ s, Rs n C (V x) s (g x s)) → (∀ x y, x < y → y < m → ∀ f h, V x f → V y h → lxl n f h) → Rs n C (fun f => ∃ x, x < m ∧ V x f) st (foldN g m st)
  | 0, _, _ => Rs.none (fun f ⟨x, hx, _⟩ => absurd hx (by omega))
  | m + 1, h, hb => by
    refine Rs.comp (Rs.fold m (fun x hx => h x (by omega)) (fun x y hx hy => hb x y hx (by omega))) (h m (by omega) (foldN g m st)) (fun f k ⟨x, hx, q⟩ q2 => hb x m hx (by omega) f k q q2) (fun f => ?_)
    constructor
    · rintro ⟨x, hx, q⟩
      rcases Nat.lt_or_ge x m with c | c
      · exact Or.inl ⟨x, c, q⟩
      · exact Or.inr ((show x = m by omega) ▸ q)
    · rintro (⟨x, hx, q⟩ | q)
      · exact ⟨x, by omega, q⟩
      · exact ⟨m, by omega, q⟩
theorem Rs.iff {n : Nat} {C : (Nat → Nat) → Nat} {V W : (Nat → Nat) → Prop} {st o : Nat × (Nat → Nat)} (h : Rs n C V st o) (e : ∀ f, V f ↔ W f) : Rs n C W st o := by
  have : V = W := funext (fun f => propext (e f))
  exact this ▸ h
def kCs (M : Nat → Nat → Nat) (f : Nat → Nat) (v : Nat) : Nat := sm (fun i => pC M f i) v
theorem kCs_mono (M : Nat → Nat → Nat) (f : Nat → Nat) {a b : Nat} (h : a ≤ b) : kCs M f a ≤ kCs M f b := by
  induction b with
  | zero => rw [show a = 0 by omega]; exact Nat.le_refl _
  | succ b ih =>
    rcases Nat.lt_or_ge a (b + 1) with q | q
    · exact Nat.le_trans (ih (by omega)) (Nat.le_add_right _ _)
    · rw [show a = b + 1 by omega]; exact Nat.le_refl _
theorem kCs_congr {M : Nat → Nat → Nat} {f g : Nat → Nat} {v : Nat} (h : ∀ u, u < v → f u = g u) : kCs M f v = kCs M g v := sm_congr (fun i hi => pC_congr (fun u hu => h u (by omega)))
theorem kCs_up {M : Nat → Nat → Nat} {f : Nat → Nat} {v x : Nat} : kCs M (va_up f v x) (v + 1) = kCs M f v + pC M (va_up f v x) v := by
  show kCs M (va_up f v x) v + pC M (va_up f v x) v = _
  rw [kCs_congr (f := va_up f v x) (g := f) (fun u hu => va_up_ne _ _ (by omega))]
def isSj (n k : Nat) (f : Nat → Nat) : Prop := (∀ u, u < n → f u < k) ∧ ∀ x, x < k → ∃ u, u < n ∧ f u = x
def kU (f : Nat → Nat) : Nat → Nat
  | 0 => 0
  | v + 1 => max (kU f v) (f v + 1)
theorem kU_congr {f g : Nat → Nat} : ∀ {v : Nat}, (∀ u, u < v → f u = g u) → kU f v = kU g v
  | 0, _ => rfl
  | v + 1, h => by show max _ _ = max _ _; rw [kU_congr (v := v) (fun u hu => h u (by omega)), h v (by omega)]
theorem kU_s (f : Nat → Nat) (v : Nat) : kU f (v + 1) = max (kU f v) (f v + 1) := rfl
theorem kU_lt {f : Nat → Nat} : ∀ {v u : Nat}, u < v → f u < kU f v
  | v + 1, u, h => by
    rw [kU_s]
    rcases Nat.lt_or_ge u v with q | q
    · have := kU_lt (f := f) q; omega
    · rw [show u = v by omega]; omega
theorem kU_le {f : Nat → Nat} {k : Nat} : ∀ {v : Nat}, (∀ u, u < v → f u < k) → kU f v ≤ k
  | 0, _ => Nat.zero_le _
  | v + 1, h => by rw [kU_s]; have := kU_le (f := f) (k := k) (v := v) (fun u hu => h u (by omega)); have := h v (by omega); omega
def isRg (n : Nat) (f : Nat → Nat) : Prop := ∀ w, w < n → f w ≤ kU f w
theorem kU_all {f : Nat → Nat} : ∀ {v : Nat}, isRg v f → ∀ x, x < kU f v → ∃ u, u < v ∧ f u = x
  | 0, _, x, hx => absurd hx (Nat.not_lt_zero _)
  | v + 1, h, x, hx => by
    rw [kU_s] at hx
    have h1 := h v (by omega)
    rcases Nat.lt_or_ge x (kU f v) with q | q
    · obtain ⟨u, hu, e⟩ := kU_all (f := f) (v := v) (fun w hw => h w (by omega)) x q
      exact ⟨u, by omega, e⟩
    · exact ⟨v, by omega, by omega⟩
theorem kU_slow {f : Nat → Nat} {n v : Nat} (h : isRg n f) : ∀ d, v + d ≤ n → kU f (v + d) ≤ kU f v + d
  | 0, _ => Nat.le_refl _
  | d + 1, hd => by
    have h1 := kU_slow (v := v) h d (by omega)
    have h2 := h (v + d) (by omega)
    show kU f (v + d + 1) ≤ _
    rw [kU_s]; omega
/-- the class's search -/
theorem kT_Rs (n k : Nat) (M : Nat → Nat → Nat) : ∀ (d v used cost : Nat) (f : Nat → Nat) (st : Nat × (Nat → Nat)), v + d = n → used = kU f v → used ≤ k → isRg v f → cost = kCs M f v → Rs n (fun g => kCs M g n) (fun g => (∀ u, u < v → g u = f u) ∧ isRg n g ∧ (∀ u, u < n → g u < k) ∧ kU g n = k) st (kT n k M d v used cost f st)
  | 0, v, used, cost, f, st, hv, hu, huk, hrg, hc => by
    have hvn : v = n := by omega
    simp only [kT]
    split
    · rename_i h
      refine Or.inr ⟨⟨fun u _ => rfl, hvn ▸ hrg, fun u hu' => ?_, by rw [← hvn, ← hu]; omega⟩, by rw [← hvn]; exact hc, h.2, fun g ⟨q, _⟩ => ⟨?_, fun _ i hi _ => ?_⟩⟩
      · have := kU_lt (f := f) (v := v) (u := u) (by omega)
        show f u < k
        omega
      · show cost ≤ kCs M g n
        rw [hc, hvn, kCs_congr (fun u hu => (q u (by omega)).symm)]; exact Nat.le_refl _
      · show f i ≤ g i
        rw [q i (by omega)]; exact Nat.le_refl _
    · rename_i h
      refine Rs.none (fun g ⟨q1, q2, q3, q4⟩ => ?_)
      show st.1 ≤ kCs M g n
      have e1 : kU g n = used := by rw [hu, ← hvn]; exact kU_congr q1
      have e2 : kCs M g n = cost := by rw [hc, ← hvn]; exact kCs_congr q1
      rw [e2]
      have : ¬ cost < st.1 := fun w => h ⟨by omega, w⟩
      omega
  | d + 1, v, used, cost, f, st, hv, hu, huk, hrg, hc => by
    simp only [kT]
    split
    · refine Rs.iff (Rs.fold (V := fun x g => (∀ u, u < v + 1 → g u = va_up f v x u) ∧ isRg n g ∧ (∀ u, u < n → g u < k) ∧ kU g n = k) (min (used + 1) k) (fun x hx s => ?_) (fun x y hxy hy g g' q q' => ?_)) (fun g => ?_)
      · have e0 : ∀ u, u < v → va_up f v x u = f u := fun u hu => va_up_ne _ _ (by omega)
        have eU : kU (va_up f v x) v = used := by rw [hu]; exact kU_congr e0
        refine kT_Rs n k M d (v + 1) (max used (x + 1)) (cost + pC M (va_up f v x) v) (va_up f v x) s (by omega) ?_ ?_ ?_ ?_
        · rw [kU_s, eU, va_up_self]
        · have : x < k := Nat.lt_of_lt_of_le hx (Nat.min_le_right _ _)
          omega
        · intro w hw
          rcases Nat.lt_or_ge w v with q | q
          · rw [e0 w q, kU_congr (f := va_up f v x) (g := f) (fun u hu => e0 u (by omega))]; exact hrg w q
          · rw [show w = v by omega, va_up_self, eU]
            have : x < used + 1 := Nat.lt_of_lt_of_le hx (Nat.min_le_left _ _)
            omega
        · rw [kCs_up, hc]
      · refine lxl_blk (v := v) (f0 := f) (fun u hu => ?_) (fun u hu => ?_) ?_
        · rw [q.1 u (by omega), va_up_ne _ _ (by omega)]
        · rw [q'.1 u (by omega), va_up_ne _ _ (by omega)]
        · rw [q.1 v (by omega), q'.1 v (by omega), va_up_self, va_up_self]; exact hxy
      · constructor
        · rintro ⟨x, hx, q1, q2⟩
          exact ⟨fun u hu => by rw [q1 u (by omega), va_up_ne _ _ (by omega)], q2⟩
        · rintro ⟨q1, q2, q3, q4⟩
          refine ⟨g v, ?_, fun u hu => ?_, q2, q3, q4⟩
          · have a1 := q2 v (by omega)
            have a2 := q3 v (by omega)
            rw [kU_congr q1, ← hu] at a1
            omega
          · rcases Nat.lt_or_ge u v with c | c
            · rw [va_up_ne _ _ (by omega)]; exact q1 u c
            · rw [show u = v by omega, va_up_self]
    · rename_i h
      refine Rs.none (fun g ⟨q1, q2, q3, q4⟩ => ?_)
      show st.1 ≤ kCs M g n
      have e1 : kU g v = used := by rw [hu]; exact kU_congr q1
      have e2 : kCs M g v = cost := by rw [hc]; exact kCs_congr q1
      have e3 := kCs_mono M g (show v ≤ n by omega)
      have e4 := kU_slow (v := v) q2 (d + 1) (by omega)
      rw [hv, q4, e1] at e4
      have : ¬ cost < st.1 := fun w => h ⟨by omega, w⟩
      omega
/-- the reference's search -/
noncomputable def rT (n k : Nat) (M : Nat → Nat → Nat) : Nat → Nat → Nat → (Nat → Nat) → Nat × (Nat → Nat) → Nat × (Nat → Nat)
  | 0, _, cost, f, st => @ite _ (cost < st.1 ∧ isSj n k f) (Classical.propDecidable _) (cost, f) st
  | d + 1, v, cost, f, st => if cost < st.1 then foldN (fun x st => rT n k M d (v + 1) (cost + pC M (va_up f v x) v) (va_up f v x) st) k st else st
theorem isSj_congr {n k : Nat} {f g : Nat → Nat} (e : ∀ u, u < n → f u = g u) (h : isSj n k f) : isSj n k g := ⟨fun u hu => by rw [← e u hu]; exact h.1 u hu, fun x hx => by obtain ⟨u, hu, q⟩ := h.2 x hx; exact ⟨u, hu, by rw [← e u hu]; exact q⟩⟩
theorem rT_Rs (n k : Nat) (M : Nat → Nat → Nat) : ∀ (d v cost : Nat) (f : Nat → Nat) (st : Nat × (Nat → Nat)), v + d = n → cost = kCs M f v → Rs n (fun g => kCs M g n) (fun g => (∀ u, u < v → g u = f u) ∧ isSj n k g) st (rT n k M d v cost f st)
  | 0, v, cost, f, st, hv, hc => by
    have hvn : v = n := by omega
    simp only [rT]
    split
    · rename_i h
      refine Or.inr ⟨⟨fun u _ => rfl, h.2⟩, by rw [← hvn]; exact hc, h.1, fun g ⟨q, _⟩ => ⟨?_, fun _ i hi _ => ?_⟩⟩
      · show cost ≤ kCs M g n
        rw [hc, hvn, kCs_congr (fun u hu => (q u (by omega)).symm)]; exact Nat.le_refl _
      · show f i ≤ g i
        rw [q i (by omega)]; exact Nat.le_refl _
    · rename_i h
      refine Rs.none (fun g ⟨q1, q2⟩ => ?_)
      show st.1 ≤ kCs M g n
      have e2 : kCs M g n = cost := by rw [hc, ← hvn]; exact kCs_congr q1
      rw [e2]
      have : ¬ cost < st.1 := fun w => h ⟨w, isSj_congr (fun u hu => q1 u (by omega)) q2⟩
      omega
  | d + 1, v, cost, f, st, hv, hc => by
    simp only [rT]
    split
    · refine Rs.iff (Rs.fold (V := fun x g => (∀ u, u < v + 1 → g u = va_up f v x u) ∧ isSj n k g) k (fun x hx s => ?_) (fun x y hxy hy g g' q q' => ?_)) (fun g => ?_)
      · exact rT_Rs n k M d (v + 1) (cost + pC M (va_up f v x) v) (va_up f v x) s (by omega) (by rw [kCs_up, hc])
      · refine lxl_blk (v := v) (f0 := f) (fun u hu => ?_) (fun u hu => ?_) ?_
        · rw [q.1 u (by omega), va_up_ne _ _ (by omega)]
        · rw [q'.1 u (by omega), va_up_ne _ _ (by omega)]
        · rw [q.1 v (by omega), q'.1 v (by omega), va_up_self, va_up_self]; exact hxy
      · constructor
        · rintro ⟨x, hx, q1, q2⟩
          exact ⟨fun u hu => by rw [q1 u (by omega), va_up_ne _ _ (by omega)], q2⟩
        · rintro ⟨q1, q2⟩
          refine ⟨g v, q2.1 v (by omega), fun u hu => ?_, q2⟩
          rcases Nat.lt_or_ge u v with c | c
          · rw [va_up_ne _ _ (by omega)]; exact q1 u c
          · rw [show u = v by omega, va_up_self]
    · rename_i h
      refine Rs.none (fun g ⟨q1, q2⟩ => ?_)
      show st.1 ≤ kCs M g n
      have e2 : kCs M g v = cost := by rw [hc]; exact kCs_congr q1
      have e3 := kCs_mono M g (show v ≤ n by omega)
      omega
/-- two labels swapped -/
def swp (a b x : Nat) : Nat := if x = a then b else if x = b then a else x
theorem swp_swp (a b x : Nat) : swp a b (swp a b x) = x := by unfold swp; (repeat' split) <;> omega
theorem swp_inj {a b x y : Nat} (h : swp a b x = swp a b y) : x = y := by rw [← swp_swp a b x, h, swp_swp]
theorem swp_lt {a b x k : Nat} (ha : a < k) (hb : b < k) (hx : x < k) : swp a b x < k := by unfold swp; (repeat' split) <;> omega
theorem isSj_swp {n k a b : Nat} {f : Nat → Nat} (ha : a < k) (hb : b < k) (h : isSj n k f) : isSj n k (fun u => swp a b (f u)) := by
  refine ⟨fun u hu => swp_lt ha hb (h.1 u hu), fun x hx => ?_⟩
  obtain ⟨u, hu, e⟩ := h.2 (swp a b x) (swp_lt ha hb hx)
  exact ⟨u, hu, by show swp a b (f u) = x; rw [e, swp_swp]⟩
theorem kCs_swp (M : Nat → Nat → Nat) (a b n : Nat) (f : Nat → Nat) : kCs M (fun u => swp a b (f u)) n = kCs M f n := by
  refine sm_congr (fun v _ => sm_congr (fun u _ => ?_))
  by_cases e : f u = f v
  · rw [if_pos e, if_pos (by show swp a b (f u) = swp a b (f v); rw [e])]
  · rw [if_neg e, if_neg (fun q => e (swp_inj q))]
theorem isRg_of {n k : Nat} {C : (Nat → Nat) → Nat} {g : Nat → Nat} (hs : isSj n k g) (hC : ∀ a b, C (fun u => swp a b (g u)) = C g) (hl : ∀ f, isSj n k f → C f = C g → lxl n g f) : isRg n g := by
  intro w
  induction w using Nat.strongRecOn with
  | _ w ih =>
    intro hw
    rcases Nat.lt_or_ge (kU g w) (g w) with q | q
    · exfalso
      have hg := hs.1 w hw
      have h := hl _ (isSj_swp (a := g w) (b := kU g w) hg (by omega) hs) (hC _ _) w hw (fun u hu => by
        have h1 := kU_lt (f := g) hu
        show g u = swp _ _ (g u)
        unfold swp
        rw [if_neg (by omega), if_neg (by omega)])
      have e : swp (g w) (kU g w) (g w) = kU g w := if_pos rfl
      have h : g w ≤ swp (g w) (kU g w) (g w) := h
      rw [e] at h
      omega
    · exact q
theorem isSj_of {n k : Nat} {f : Nat → Nat} (h1 : isRg n f) (h2 : ∀ u, u < n → f u < k) (h3 : kU f n = k) : isSj n k f := ⟨h2, fun x hx => kU_all h1 x (by omega)⟩
theorem rT_kT {n k : Nat} {M : Nat → Nat → Nat} (hk : 1 ≤ k) (hf : (kPR n k M).1 < 2147483647) (g0 : Nat → Nat) : (rT n k M n 0 0 (fun _ => 0) (2147483647, g0)).1 = (kPR n k M).1 ∧ ∀ u, u < n → (rT n k M n 0 0 (fun _ => 0) (2147483647, g0)).2 u = (kPR n k M).2 u := by
  have hr := rT_Rs n k M n 0 0 (fun _ => 0) (2147483647, g0) (by omega) rfl
  have ht := kT_Rs n k M n 0 0 0 (fun _ => 0) (2147483647, fun _ => 0) (by omega) rfl (by omega) (fun w hw => absurd hw (by omega)) rfl
  change Rs n _ _ _ (kPR n k M) at ht
  generalize rT n k M n 0 0 (fun _ => 0) (2147483647, g0) = R at hr ⊢
  generalize kPR n k M = K at ht hf ⊢
  rcases ht with ⟨e, _⟩ | ⟨⟨-, v1, v2, v3⟩, c1, l1, a1⟩
  · rw [e] at hf; exact absurd hf (Nat.lt_irrefl _)
  have hK := isSj_of v1 v2 v3
  rcases hr with ⟨e, a⟩ | ⟨⟨-, w1⟩, c2, l2, a2⟩
  · have h1 := a K.2 ⟨fun u hu => absurd hu (by omega), hK⟩
    have h2 : (2147483647, g0).1 = 2147483647 := rfl
    have h3 : K.1 = kCs M K.2 n := c1
    have h4 : 2147483647 ≤ kCs M K.2 n := h1
    omega
  have hb := a2 K.2 ⟨fun u hu => absurd hu (by omega), hK⟩
  have hrg : isRg n R.2 := isRg_of (C := fun g => kCs M g n) w1 (fun a b => kCs_swp M a b n R.2) (fun f q e => (a2 f ⟨fun u hu => absurd hu (by omega), q⟩).2 (by rw [c2]; exact e))
  have hU : kU R.2 n = k := by
    refine Nat.le_antisymm (kU_le w1.1) ?_
    obtain ⟨u, hu, e⟩ := w1.2 (k - 1) (by omega)
    have := kU_lt (f := R.2) hu
    omega
  have ha := a1 R.2 ⟨fun u hu => absurd hu (by omega), hrg, w1.1, hU⟩
  have c1 : K.1 = kCs M K.2 n := c1
  have c2 : R.1 = kCs M R.2 n := c2
  have ha1 : K.1 ≤ kCs M R.2 n := ha.1
  have hb1 : R.1 ≤ kCs M K.2 n := hb.1
  have e : R.1 = K.1 := by omega
  exact ⟨e, lxl_anti (hb.2 (by show kCs M K.2 n = R.1; omega)) (ha.2 (by show kCs M R.2 n = K.1; omega))⟩
def bO (f : Nat → Nat) : Nat → Nat
  | 0 => 0
  | m + 1 => bO f m ||| 2 ^ f m
theorem bO_t (f : Nat → Nat) (x : Nat) : ∀ m, (bO f m).testBit x = true ↔ ∃ u, u < m ∧ f u = x
  | 0 => by
    show (0 : Nat).testBit x = true ↔ _
    rw [Nat.zero_testBit]
    exact ⟨fun h => absurd h (by decide), fun ⟨u, hu, _⟩ => absurd hu (by omega)⟩
  | m + 1 => by
    show (bO f m ||| 2 ^ f m).testBit x = true ↔ _
    rw [Nat.testBit_or, Bool.or_eq_true, bO_t f x m, Nat.testBit_two_pow, decide_eq_true_iff]
    constructor
    · rintro (⟨u, hu, e⟩ | e)
      · exact ⟨u, by omega, e⟩
      · exact ⟨m, by omega, e⟩
    · rintro ⟨u, hu, e⟩
      rcases Nat.lt_or_ge u m with q | q
      · exact Or.inl ⟨u, q, e⟩
      · exact Or.inr ((show u = m by omega) ▸ e)
theorem bO_lt {f : Nat → Nat} {k : Nat} : ∀ {m : Nat}, (∀ u, u < m → f u < k) → bO f m < 2 ^ k
  | 0, _ => Nat.two_pow_pos k
  | m + 1, h => Nat.or_lt_two_pow (bO_lt (fun u hu => h u (by omega))) (pl_pow (h m (by omega)))
theorem bO_full {f : Nat → Nat} {n k : Nat} (h : ∀ u, u < n → f u < k) : bO f n = 2 ^ k - 1 ↔ isSj n k f := by
  constructor
  · intro e
    refine ⟨h, fun x hx => (bO_t f x n).mp ?_⟩
    rw [e, Nat.testBit_two_pow_sub_one, decide_eq_true hx]
  · intro e
    apply Nat.eq_of_testBit_eq
    intro x
    rw [Nat.testBit_two_pow_sub_one]
    rcases Nat.lt_or_ge x k with q | q
    · rw [decide_eq_true q, (bO_t f x n).mpr (e.2 x q)]
    · rw [decide_eq_false (by omega), Nat.testBit_lt_two_pow (Nat.lt_of_lt_of_le (bO_lt h) (Nat.pow_le_pow_right (n := 2) (by omega) q))]
end PURE3
