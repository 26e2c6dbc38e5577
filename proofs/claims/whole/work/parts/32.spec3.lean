/-! what the calls answer, as functions of the GRAPH; what is hidden in the object -/
section SPEC3
theorem kR1_congr {nb nb' : Nat → Nat} {o r : Nat} : ∀ {k : Nat}, (∀ v, v < k → nb v = nb' v) → kR1 nb o r k = kR1 nb' o r k
  | 0, _ => rfl
  | k + 1, h => by
    simp only [kR1]
    rw [kR1_congr (fun v hv => h v (by omega)), h k (by omega)]
theorem kR_congr {nb nb' : Nat → Nat} {o n : Nat} (h : ∀ v, v < n → nb v = nb' v) : ∀ (j r : Nat), kR nb o n j r = kR nb' o n j r
  | 0, _ => rfl
  | j + 1, r => by
    simp only [kR]
    rw [kR1_congr h, kR_congr h j]
theorem kCC_congr {nb nb' : Nat → Nat} {o n : Nat} (h : ∀ v, v < n → nb v = nb' v) : ∀ k, kCC nb o n k = kCC nb' o n k
  | 0 => rfl
  | k + 1 => by
    simp only [kCC]
    rw [kCC_congr h k, kR_congr h]
theorem kFB_congr {nb nb' : Nat → Nat} {n a b : Nat} (h : ∀ v, v < n → nb v = nb' v) : ∀ k, kFB nb n a b k = kFB nb' n a b k
  | 0 => rfl
  | k + 1 => by
    simp only [kFB]
    rw [kFB_congr h k, kR_congr h]
theorem foldN_congr {α : Type} {g g' : Nat → α → α} : ∀ {m : Nat} {s : α}, (∀ x s, x < m → g x s = g' x s) → foldN g m s = foldN g' m s
  | 0, _, _ => rfl
  | m + 1, s, h => by
    show g m (foldN g m s) = g' m (foldN g' m s)
    rw [foldN_congr (fun x s hx => h x s (by omega)), h m _ (by omega)]
theorem kT_congr {n k : Nat} {M M' : Nat → Nat → Nat} (h : ∀ v u, u < v → v < n → M v u = M' v u) : ∀ (d v used cost : Nat) (f : Nat → Nat) (st : Nat × (Nat → Nat)), v + d = n → kT n k M d v used cost f st = kT n k M' d v used cost f st
  | 0, v, used, cost, f, st, hv => rfl
  | d + 1, v, used, cost, f, st, hv => by
    simp only [kT]
    have e : ∀ x, pC M (va_up f v x) v = pC M' (va_up f v x) v := fun x => sm_congr (fun u hu => by rw [h v u hu (by omega)])
    split
    · refine foldN_congr (fun x s _ => ?_)
      rw [e x]
      exact kT_congr h d (v + 1) _ _ _ _ (by omega)
    · rfl
theorem kPR_congr {n k : Nat} {M M' : Nat → Nat → Nat} (h : ∀ v u, u < v → v < n → M v u = M' v u) : kPR n k M = kPR n k M' := kT_congr h n 0 0 0 _ _ (by omega)
theorem kWy_congr {n : Nat} {pa br pa' br' : Nat → Nat} (hp : ∀ j, j < n → pa j = pa' j) (hb : ∀ j, 1 ≤ j → j < n → br j = br' j) (hl : ∀ j, j < n → pa j < n) : ∀ (f x y z : Nat), x < n → y < n → kWy pa br f x y z = kWy pa' br' f x y z
  | 0, x, y, z, _, _ => rfl
  | f + 1, x, y, z, hx, hy => by
    simp only [kWy]
    split
    · rfl
    · rename_i hne
      rw [← hp (max x y) (by omega), ← hb (max x y) (by omega) (by omega)]
      exact kWy_congr hp hb hl f _ _ _ (by omega) (hl _ (by omega))
theorem dD_congr {n am : Nat} {fr to wt : Nat → Nat} (hA : aOK n am fr to wt) (hn : 0 < n) : ∀ (c : Nat) (z : Int32) (g g' : Nat → Nat), (∀ v, v < n → g v = g' v) → dD n am fr to wt c z g = dD n am fr to wt c z g'
  | 0, z, g, g', h => h 0 hn
  | c + 1, z, g, g', h => by
    have eW : ∀ k, k ≤ am → dW fr to wt g k = dW fr to wt g' k := fun k hk => sm_congr (fun j hj => by
      obtain ⟨f1, f2, _, _⟩ := hA.2.2 j (by omega)
      rw [h _ f1, h _ f2])
    simp only [dD]
    rw [eW am (Nat.le_refl _), h 0 hn]
    split
    · rfl
    · rename_i hs
      have ePk : dPk fr to wt g (dT (dZ z) (dW fr to wt g' am)) am = dPk fr to wt g' (dT (dZ z) (dW fr to wt g' am)) am := dPk_congr (fun j hj => eW j hj)
      rw [ePk]
      have hlt : dT (dZ z) (dW fr to wt g' am) < dW fr to wt g' am := Nat.mod_lt _ (by omega)
      obtain ⟨p1, -, -⟩ := dPk_ok fr to wt g' am hlt
      obtain ⟨f1, f2, _, _⟩ := hA.2.2 _ p1
      refine dD_congr hA hn c _ _ _ (fun v hv => ?_)
      unfold dJ
      rw [h _ f1, h _ f2, h v hv]
def bitsOf (p : Nat → Bool) : Nat → Nat
  | 0 => 0
  | k + 1 => bitsOf p k ||| (if p k = true then 2 ^ k else 0)
theorem bitsOf_t (p : Nat → Bool) (i : Nat) : ∀ k, (bitsOf p k).testBit i = (decide (i < k) && p i)
  | 0 => by simp [bitsOf]
  | k + 1 => by
    simp only [bitsOf]
    rw [Nat.testBit_or, bitsOf_t p i k]
    by_cases h : p k = true
    · rw [if_pos h, Nat.testBit_two_pow]
      by_cases e : k = i
      · subst e; simp [h]
      · simp [e, show i < k + 1 ↔ i < k by omega]
    · rw [if_neg h]
      by_cases e : k = i
      · subst e; simp [h]
      · simp [show i < k + 1 ↔ i < k by omega]
/-- the NODES beside v -/
def kNb (fr to wt : Nat → Nat) (am v : Nat) : Nat := bitsOf (fun b => decide (0 < kM fr to wt am v b)) 12
def nbOK (am : Nat) (fr to wt nb : Nat → Nat) : Prop := ∀ a, a < 12 → nb a = kNb fr to wt am a
theorem kNb_lt (fr to wt : Nat → Nat) (am v : Nat) : kNb fr to wt am v < 4096 := lt_of_t (n := 12) (fun i h => by
  unfold kNb at h
  rw [bitsOf_t] at h
  simp at h
  exact h.1)
theorem kNb_t (fr to wt : Nat → Nat) (am v b : Nat) (hb : b < 12) : (kNb fr to wt am v).testBit b = decide (0 < kM fr to wt am v b) := by
  unfold kNb
  rw [bitsOf_t]; simp [hb]
theorem nb_eq {x y : Nat} (hx : x < 4096) (hy : y < 4096) (h : ∀ b, b < 12 → x.testBit b = y.testBit b) : x = y := by
  apply Nat.eq_of_testBit_eq
  intro i
  rcases Nat.lt_or_ge i 12 with q | q
  · exact h i q
  · rw [Nat.testBit_lt_two_pow (Nat.lt_of_lt_of_le hx (Nat.pow_le_pow_right (n := 2) (by omega) q)), Nat.testBit_lt_two_pow (Nat.lt_of_lt_of_le hy (Nat.pow_le_pow_right (n := 2) (by omega) q))]
/-- a count of changes that was seen -/
def sB (ch : Nat) (x : Int32) : Prop := x = -1 ∨ ∃ c, c ≤ ch ∧ x = nI c
theorem sB.up {ch : Nat} {x : Int32} (h : sB ch x) : sB (ch + 1) x := h.elim Or.inl (fun ⟨c, hc, e⟩ => Or.inr ⟨c, by omega, e⟩)
theorem sB.ne {ch : Nat} {x : Int32} (h : sB ch x) (hb : ch + 1 < 2 ^ 31) : x ≠ nI (ch + 1) := by
  rcases h with rfl | ⟨c, hc, rfl⟩
  · intro q
    have h1 : (nI (ch + 1)).toInt = ((ch + 1 : Nat) : Int) := nI_toInt hb
    rw [← q] at h1
    have h2 : (-1 : Int32).toInt = -1 := by decide
    rw [h2] at h1
    omega
  · intro q
    have := pl_inj (by omega) hb q
    omega
theorem sB.self (ch : Nat) : sB ch (nI ch) := Or.inr ⟨ch, Nat.le_refl _, rfl⟩
/-- ARCS that are there -/
def kLv (wt : Nat → Nat) (am : Nat) : Nat := sm (fun i => if 0 < wt i then 1 else 0) am
abbrev HS : Type := Nat × (Nat → Nat) × (Nat → Nat → Nat) × Int32 × (Nat → Nat) × Int32 × (Nat → Nat) × (Nat → Nat) × (Nat → Nat) × (Nat → Int32 × Nat × (Nat → Nat) × (Nat → Nat))
def cwH (ad : Nat → Nat) (cI cII cP : ClassId) (n am al : Nat) (fr to wt : Nat → Nat) (h : HS) : va_W := cw ad cI cII cP n am al h.1 fr to wt h.2.1 h.2.2.1 h.2.2.2.1 h.2.2.2.2.1 h.2.2.2.2.2.1 h.2.2.2.2.2.2.1 h.2.2.2.2.2.2.2.1 h.2.2.2.2.2.2.2.2.1 h.2.2.2.2.2.2.2.2.2
def trOK (n am : Nat) (fr to wt pa br : Nat → Nat) : Prop := (∀ j, j < n → pa j = kPa (kC fr to wt am) n n j) ∧ ∀ j, 1 ≤ j → j < n → br j = kBr (kC fr to wt am) n j
def paOK (n am ch : Nat) (fr to wt : Nat → Nat) (P : Nat → Int32 × Nat × (Nat → Nat) × (Nat → Nat)) : Prop := ∀ j, j < 4 → sB ch (P j).1 ∧ ((P j).1 = nI ch → n ≤ 10 → j + 1 ≤ n → (P j).2.1 = (kPR n (j + 1) (kM fr to wt am)).1 ∧ ∀ u, u < n → (P j).2.2.2 u = (kPR n (j + 1) (kM fr to wt am)).2 u)
def cInv (t n am al : Nat) (fr to wt : Nat → Nat) (h : HS) : Prop :=
  aOK n am fr to wt ∧ mOK am fr to wt h.2.2.1 ∧ nbOK am fr to wt h.2.1 ∧ al = kLv wt am ∧ h.1 ≤ t ∧ h.2.2.2.2.1 0 = 0 ∧ sB h.1 h.2.2.2.1 ∧ (h.2.2.2.1 = nI h.1 → tOK n am fr to wt h.2.2.2.2.1) ∧ sB h.1 h.2.2.2.2.2.1 ∧ (h.2.2.2.2.2.1 = nI h.1 → trOK n am fr to wt h.2.2.2.2.2.2.1 h.2.2.2.2.2.2.2.1) ∧ paOK n am h.1 fr to wt h.2.2.2.2.2.2.2.2.2
/-- LEAST ONE 0 -/
noncomputable def kE (cf : Nat → Nat) (n : Nat) : Nat := @dite _ (∃ S, isFM cf (evP n) S) (Classical.propDecidable _) (fun h => Classical.choose h) (fun _ => 0)
theorem kE_ok {cf : Nat → Nat} {n : Nat} (h2 : 2 ≤ n) : isFM cf (evP n) (kE cf n) := by
  have hp : 2 ≤ 2 ^ (n - 1) := by have := Nat.pow_le_pow_right (n := 2) (by omega) (show 1 ≤ n - 1 by omega); omega
  have h : ∃ S, isFM cf (evP n) S := isFM_ex ⟨2, 0, by omega, rfl⟩
  unfold kE
  rw [dif_pos h]
  exact Classical.choose_spec h
abbrev isN (n : Nat) (v : Int32) : Prop := 0 ≤ v ∧ v < nI n
abbrev isP2 (n : Nat) (a b : Int32) : Prop := isN n a ∧ isN n b ∧ a ≠ b
section SP
variable (n am : Nat) (fr to wt : Nat → Nat)
noncomputable def sPair (a b : Int32) : Int32 := if isP2 n a b then nI (kC fr to wt am (kZ (kC fr to wt am) n a.toNatClampNeg b.toNatClampNeg)) else -1
noncomputable def sSide (a b : Int32) : Int32 := if isP2 n a b then nI (kZ (kC fr to wt am) n a.toNatClampNeg b.toNatClampNeg) else -1
noncomputable def sParent (v : Int32) : Int32 := if isN n v then (if v = 0 then -3 else nI (kPa (kC fr to wt am) n n v.toNatClampNeg)) else -1
noncomputable def sBranch (v : Int32) : Int32 := if isN n v then (if v = 0 then -3 else nI (kBr (kC fr to wt am) n v.toNatClampNeg)) else -1
noncomputable def sWay (a b : Int32) : Int32 := if isP2 n a b then nI (kWy (kPa (kC fr to wt am) n n) (kBr (kC fr to wt am) n) 24 a.toNatClampNeg b.toNatClampNeg 2147483647) else -1
noncomputable def sLeast : Int32 := if 1 < n then nI (kC fr to wt am (kE (kC fr to wt am) n)) else -3
noncomputable def sCounted : Int32 := if 1 < n then nI (kCnt (kC fr to wt am) (kC fr to wt am (kE (kC fr to wt am) n)) (2 ^ (n - 1) - 1)) else 0
noncomputable def sEvery (k : Int32) : Int32 := if 1 < n ∧ 0 ≤ k then kLO (kC fr to wt am) (kC fr to wt am (kE (kC fr to wt am) n)) k.toNatClampNeg (2 ^ (n - 1) - 1) 0 else -1
def sDrawn (z : Int32) : Int32 := if 1 < n then nI (dD n am fr to wt (n - 2) z (dI n (fun _ => 0))) else -3
def sParts (k : Int32) : Int32 := if pRef n k < 0 then pRef n k else nI (kPR n k.toNatClampNeg (kM fr to wt am)).1
def sPartOf (k v : Int32) : Int32 := if isN n v then (if pRef n k < 0 then pRef n k else nI ((kPR n k.toNatClampNeg (kM fr to wt am)).2 v.toNatClampNeg)) else -1
def sSparse : Int32 := if 1 < n then nI (kSp (kC fr to wt am) (kSpr n) (2 ^ (n - 1) - 2)) else -3
def sShare (q : Int32) : Int32 := if q ≠ 0 ∧ q ≠ 1 then -2 else if 1 < n then nI ((if q = 0 then kC fr to wt am (kSp (kC fr to wt am) (kSpr n) (2 ^ (n - 1) - 2)) else kSpr n (kSp (kC fr to wt am) (kSpr n) (2 ^ (n - 1) - 2))) / Nat.gcd (kC fr to wt am (kSp (kC fr to wt am) (kSpr n) (2 ^ (n - 1) - 2))) (kSpr n (kSp (kC fr to wt am) (kSpr n) (2 ^ (n - 1) - 2)))) else -3
def sBarSet (a b : Int32) : Int32 := if isP2 n a b then (if 0 < kM fr to wt am a.toNatClampNeg b.toNatClampNeg then -3 else nI (kFB (kNb fr to wt am) n a.toNatClampNeg b.toNatClampNeg (2 ^ (n - 2)))) else -1
def sBars (a b : Int32) : Int32 := if isP2 n a b then (if 0 < kM fr to wt am a.toNatClampNeg b.toNatClampNeg then -3 else nI (kP (kFB (kNb fr to wt am) n a.toNatClampNeg b.toNatClampNeg (2 ^ (n - 2))))) else -1
def sCut (s : Int32) : Int32 := if 0 ≤ s ∧ s ≤ nI (2 ^ n - 1) then nI (kC fr to wt am s.toNatClampNeg) else -2
def sWithout (s : Int32) : Int32 := if 0 ≤ s ∧ s ≤ nI (2 ^ n - 1) then nI (kCC (kNb fr to wt am) (pl_di (2 ^ n - 1) s.toNatClampNeg) n n).2 else -2
end SP
theorem isN_of {n : Nat} {v : Int32} (hn : n ≤ 12) (h : isN n v) : ∃ j, j < n ∧ v = nI j ∧ v.toNatClampNeg = j := by
  obtain ⟨j, hj, e⟩ := pl_of_lt (by omega) h.1 h.2
  exact ⟨j, hj, e, by rw [e]; exact nI_clamp (by omega)⟩
theorem isP2_of {n : Nat} {a b : Int32} (hn : n ≤ 12) (h : isP2 n a b) : ∃ i j, i < n ∧ j < n ∧ i ≠ j ∧ a = nI i ∧ b = nI j ∧ a.toNatClampNeg = i ∧ b.toNatClampNeg = j := by
  obtain ⟨i, hi, e1, f1⟩ := isN_of hn h.1
  obtain ⟨j, hj, e2, f2⟩ := isN_of hn h.2.1
  exact ⟨i, j, hi, hj, fun q => h.2.2 (by rw [e1, e2, q]), e1, e2, f1, f2⟩
theorem set_of {n : Nat} {s : Int32} (hn : n ≤ 12) (h : 0 ≤ s ∧ s ≤ nI (2 ^ n - 1)) : ∃ j, j < 2 ^ n ∧ s = nI j ∧ s.toNatClampNeg = j := by
  have hp := pl_pow12 hn
  obtain ⟨j, hj, e⟩ := pl_of h.1
  rw [e] at h
  have := (nI_leI hj (by omega)).mp h.2
  have := Nat.two_pow_pos n
  exact ⟨j, by omega, e, by rw [e]; exact nI_clamp hj⟩
end SPEC3
