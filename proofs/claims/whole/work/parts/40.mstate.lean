/-! the reference: its cells -/
abbrev zI (b : Bool) : Int32 := if b = true then 1 else 0
def bN (p : Nat → Bool) : Nat → Int32 := fun i => zI (p i)
section XZ
variable {E : xE} {l : Launch} {R : Room} {D : va_G} {cl : List vw_C} {tys : List (ClassId × FieldType)} {cc : ByteArray} {own : String} {nL : Nat} {Ts : List Cond} {nws : xN} {cells slots : Nat} {ws : va_W} {lv : List (Nat × Value)} {pc : Nat} {st : List Value}
theorem bN_up (p : Nat → Bool) (j : Nat) (z : Bool) : upd (bN p) j (vp_nar .boolean (zI z)) = bN (va_up p j z) := by
  have e : vp_nar .boolean (zI z) = zI z := by cases z <;> rfl
  rw [e]
  funext i
  by_cases h : i = j
  · subst h; simp [upd, bN, va_up]
  · simp [upd, bN, va_up, h]
theorem x_zaldB (S : xOK E l R D cl tys cc own nL Ts nws) {cA : ClassId} {n a : Nat} {p : Nat → Bool} {i : Int32} (q0 t0 j : Nat) (ha : ws[q0]? = some (a, .inl (cA, n, .inl (bN p)))) (ht : tys[t0]? = some (cA, .boolean)) (hi : i = nI j) (hj : j < n) (hn : n < 2 ^ 31) (hd : decode cc pc = .ok (.baload, 1)) (k : xW E D cl nL cells slots ws lv (pc + 1) (.int (if p j = true then 1 else 0) :: st)) : xW E D cl nL cells slots ws lv pc (.int i :: .ref a :: st) := by
  subst hi
  intro H locs ls hP hD hS hl
  refine va_zald S.1.1 S.1.2.1 S.2.2.2.1 hP q0 t0 ha ht (vp_in_nI hj hn) hd ?_
  rw [nI_clamp (Nat.lt_trans hj hn)]
  exact k H locs ls hP hD hS hl
theorem x_zastB (S : xOK E l R D cl tys cc own nL Ts nws) {cA : ClassId} {n a : Nat} {p : Nat → Bool} {i x : Int32} {z : Bool} {ws' : va_W} (q0 t0 j : Nat) (ha : ws[q0]? = some (a, .inl (cA, n, .inl (bN p)))) (ht : tys[t0]? = some (cA, .boolean)) (hi : i = nI j) (hj : j < n) (hn : n < 2 ^ 31) (hz : x = zI z) (hd : decode cc pc = .ok (.bastore, 1)) (hw : ws.set q0 (a, .inl (cA, n, .inl (bN (va_up p j z)))) = ws') (k : xW E D cl nL cells slots ws' lv (pc + 1) st) : xW E D cl nL cells slots ws lv pc (.int x :: .int i :: .ref a :: st) := by
  subst hi; subst hw; subst hz
  intro H locs ls hP hD hS hl
  refine va_zast S.1.1 S.1.2.1 S.2.2.2.1 hP hD hS q0 t0 ha ht (vp_in_nI hj hn) hd ?_
  rw [nI_clamp (Nat.lt_trans hj hn), bN_up]
  exact fun H1 locs1 h1 h2 h3 => k H1 locs1 ls h1 h2 h3 hl
end XZ
def mw (bd : Nat → Nat) (cI cZ : ClassId) (n am al : Nat) (on ot we : Nat → Nat) (th : Nat → Bool) (be ne cu : Nat → Nat) (nw : Bool) (pa br pc : Nat → Nat) (ap : Nat → Bool) (pn : Nat → Nat) (ls : Int32) (gr : Nat → Nat) (tl : Nat → Int32) (co : Nat → Nat) : va_W := [(bd 0, .inr (6, [.int (nI n), .int (nI am), .int (nI al), .ref (bd 1), .ref (bd 2), .ref (bd 3), .ref (bd 4), .ref (bd 5), .ref (bd 6), .ref (bd 7), .int (zI nw), .ref (bd 8), .ref (bd 9), .ref (bd 10), .ref (bd 11), .ref (bd 12), .int ls, .ref (bd 13), .ref (bd 14), .ref (bd 15)])), (bd 1, .inl (cI, 50, .inl (aN on))), (bd 2, .inl (cI, 50, .inl (aN ot))), (bd 3, .inl (cI, 50, .inl (aN we))), (bd 4, .inl (cZ, 50, .inl (bN th))), (bd 5, .inl (cI, 144, .inl (aN be))), (bd 6, .inl (cI, 12, .inl (aN ne))), (bd 7, .inl (cI, 4096, .inl (aN cu))), (bd 8, .inl (cI, 12, .inl (aN pa))), (bd 9, .inl (cI, 12, .inl (aN br))), (bd 10, .inl (cI, 5, .inl (aN pc))), (bd 11, .inl (cZ, 5, .inl (bN ap))), (bd 12, .inl (cI, 60, .inl (aN pn))), (bd 13, .inl (cI, 12, .inl (aN gr))), (bd 14, .inl (cI, 13, .inl tl)), (bd 15, .inl (cI, 13, .inl (aN co)))]
section SOF
variable {fr to wt : Nat → Nat} {am : Nat}
/-- CUTS of what two SETS share and of what they have together -/
theorem kC_submod (A B : Nat) : kC fr to wt am (A &&& B) + kC fr to wt am (A ||| B) ≤ kC fr to wt am A + kC fr to wt am B := by
  unfold kC
  rw [← sm_add, ← sm_add]
  refine sm_le (fun i _ => ?_)
  simp only [Nat.testBit_and, Nat.testBit_or]
  cases A.testBit (fr i) <;> cases A.testBit (to i) <;> cases B.testBit (fr i) <;> cases B.testBit (to i) <;> simp
theorem fm_in {n a b F T : Nat} (hF : isFM (kC fr to wt am) (isSd n a b) F) (hT : isSd n a b T) (he : kC fr to wt am T = kC fr to wt am F) : F &&& T = F := by
  have h1 : isSd n a b (F &&& T) := ⟨Nat.lt_of_le_of_lt Nat.and_le_left hF.1.1, by rw [Nat.testBit_and, hF.1.2.1, hT.2.1]; rfl, by rw [Nat.testBit_and, hF.1.2.2]; rfl⟩
  have h2 : isSd n a b (F ||| T) := ⟨Nat.or_lt_two_pow hF.1.1 hT.1, by rw [Nat.testBit_or, hF.1.2.1]; rfl, by rw [Nat.testBit_or, hF.1.2.2, hT.2.2]; rfl⟩
  have h3 := kC_submod (fr := fr) (to := to) (wt := wt) (am := am) F T
  have h4 := hF.2.1 _ h1
  have h5 := hF.2.1 _ h2
  have h6 : F &&& T ≤ F := Nat.and_le_left
  rcases Nat.lt_or_ge (F &&& T) F with q | q
  · have := hF.2.2 _ h1 q
    omega
  · omega
/-- what sideOf knows when the SETS below s are seen -/
def sOf (cf : Nat → Nat) (n a b s side : Nat) (ls : Int32) : Prop := side < 4096 ∧ (((∀ T, T < s → ¬ isSd n a b T) ∧ ls = -1) ∨ ∃ m, ls = nI m ∧ m < 2 ^ 31 ∧ (∃ T, T < s ∧ isSd n a b T ∧ cf T = m) ∧ (∀ T, T < s → isSd n a b T → m ≤ cf T) ∧ ∀ i, side.testBit i = true ↔ (∀ T, T < s → isSd n a b T → cf T = m → T.testBit i = true))
theorem sOf_fin {n a b s side Z : Nat} {ls : Int32} (h : sOf (kC fr to wt am) n a b s side ls) (hall : ∀ T, isSd n a b T → T < s) (hZ : isFM (kC fr to wt am) (isSd n a b) Z) : side = Z ∧ ls = nI (kC fr to wt am Z) := by
  rcases h.2 with ⟨q, -⟩ | ⟨m, h1, -, ⟨T, hT1, hT2, hT3⟩, h3, h4⟩
  · exact absurd hZ.1 (q Z (hall Z hZ.1))
  · have hm : m = kC fr to wt am Z := by
      have := h3 Z (hall Z hZ.1) hZ.1
      have := hZ.2.1 T hT2
      omega
    refine ⟨Nat.eq_of_testBit_eq (fun i => ?_), by rw [h1, hm]⟩
    have key : side.testBit i = true ↔ Z.testBit i = true := by
      rw [h4 i]
      constructor
      · intro q; exact q Z (hall Z hZ.1) hZ.1 hm.symm
      · intro q T hT hsd he
        have := fm_in hZ hsd (he.trans hm)
        rw [← this, Nat.testBit_and] at q
        exact (Bool.and_eq_true _ _ ▸ q).2
    cases h5 : side.testBit i <;> cases h6 : Z.testBit i <;> simp_all
theorem sOf_0 {cf : Nat → Nat} {n a b : Nat} : sOf cf n a b 1 0 (-1) := ⟨by omega, Or.inl ⟨fun T hT h => by
  have : T = 0 := by omega
  subst this
  have := h.2.1
  simp at this, rfl⟩⟩
theorem sOf_skip {cf : Nat → Nat} {n a b s side : Nat} {ls : Int32} (h : sOf cf n a b s side ls) (hs : ¬ isSd n a b s) : sOf cf n a b (s + 1) side ls := by
  have key : ∀ T, T < s + 1 → isSd n a b T → T < s := fun T hT q => by
    rcases Nat.lt_or_ge T s with c | c
    · exact c
    · have : T = s := by omega
      subst this; exact absurd q hs
  refine ⟨h.1, h.2.imp (fun ⟨q1, q2⟩ => ⟨fun T hT q => q1 T (key T hT q) q, q2⟩) (fun ⟨m, h1, h0, ⟨T, hT1, hT2⟩, h3, h4⟩ => ⟨m, h1, h0, ⟨T, by omega, hT2⟩, fun T hT q => h3 T (key T hT q) q, fun i => (h4 i).trans ⟨fun q T hT hsd he => q T (key T hT hsd) hsd he, fun q T hT hsd he => q T (by omega) hsd he⟩⟩)⟩
theorem sOf_low {cf : Nat → Nat} {n a b s : Nat} (hs : isSd n a b s) (h4 : s < 4096) (hb : cf s < 2 ^ 31) (low : ∀ T, T < s → isSd n a b T → cf s < cf T) : sOf cf n a b (s + 1) s (nI (cf s)) := by
  have key : ∀ T, T < s + 1 → T < s ∨ T = s := fun T hT => by omega
  refine ⟨h4, Or.inr ⟨cf s, rfl, hb, ⟨s, by omega, hs, rfl⟩, fun T hT hsd => (key T hT).elim (fun q => Nat.le_of_lt (low T q hsd)) (fun q => by rw [q]; exact Nat.le_refl _), fun i => ⟨fun q T hT hsd he => (key T hT).elim (fun z => by have := low T z hsd; omega) (fun z => by rw [z]; exact q), fun q => q s (by omega) hs rfl⟩⟩⟩
theorem sOf_and {cf : Nat → Nat} {n a b s side m : Nat} (hside : side < 4096) (hm : m < 2 ^ 31) (hx : ∃ T, T < s ∧ isSd n a b T ∧ cf T = m) (hlo : ∀ T, T < s → isSd n a b T → m ≤ cf T) (hbits : ∀ i, side.testBit i = true ↔ (∀ T, T < s → isSd n a b T → cf T = m → T.testBit i = true)) (hs : isSd n a b s) (he : cf s = m) : sOf cf n a b (s + 1) (side &&& s) (nI m) := by
  have key : ∀ T, T < s + 1 → T < s ∨ T = s := fun T hT => by omega
  obtain ⟨T0, t1, t2, t3⟩ := hx
  refine ⟨Nat.lt_of_le_of_lt Nat.and_le_left hside, Or.inr ⟨m, rfl, hm, ⟨T0, by omega, t2, t3⟩, fun T hT hsd => (key T hT).elim (fun q => hlo T q hsd) (fun q => by rw [q, he]; exact Nat.le_refl _), fun i => ?_⟩⟩
  rw [Nat.testBit_and, Bool.and_eq_true, hbits i]
  exact ⟨fun q T hT hsd h => (key T hT).elim (fun z => q.1 T z hsd h) (fun z => by rw [z]; exact q.2), fun q => ⟨fun T hT hsd h => q T (by omega) hsd h, q s (by omega) hs he⟩⟩
theorem sOf_more {cf : Nat → Nat} {n a b s side m : Nat} (hside : side < 4096) (hm : m < 2 ^ 31) (hx : ∃ T, T < s ∧ isSd n a b T ∧ cf T = m) (hlo : ∀ T, T < s → isSd n a b T → m ≤ cf T) (hbits : ∀ i, side.testBit i = true ↔ (∀ T, T < s → isSd n a b T → cf T = m → T.testBit i = true)) (he : m < cf s) : sOf cf n a b (s + 1) side (nI m) := by
  have key : ∀ T, T < s + 1 → T < s ∨ T = s := fun T hT => by omega
  obtain ⟨T0, t1, t2, t3⟩ := hx
  exact ⟨hside, Or.inr ⟨m, rfl, hm, ⟨T0, by omega, t2, t3⟩, fun T hT hsd => (key T hT).elim (fun q => hlo T q hsd) (fun q => by rw [q]; omega), fun i => (hbits i).trans ⟨fun q T hT hsd h => (key T hT).elim (fun z => q T z hsd h) (fun z => by rw [z] at h; omega), fun q T hT hsd h => q T (by omega) hsd h⟩⟩⟩
end SOF

