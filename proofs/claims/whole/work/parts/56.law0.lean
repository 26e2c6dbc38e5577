/-! the law: rows, the start, the invariant -/
section LAW0
abbrev m00 : MS := (kz, kz, kz, fun _ => false, kz, kz, kz, false, kz, kz, kz, fun _ => false, kz, 0, kz, fun _ => 0, kz)
theorem kM_z (a b : Nat) : kM kz kz kz 0 a b = 0 := rfl
theorem kNb_z (a : Nat) : kNb kz kz kz 0 a = 0 := kNb_0 ..
theorem cInv_00 : cInv 0 0 0 0 kz kz kz h00 := ⟨⟨by decide, by decide, fun i hi => absurd hi (by omega)⟩, fun a b _ _ => rfl, fun a _ => (kNb_z a).symm, rfl, Nat.le_refl _, rfl, Or.inl rfl, fun q => absurd q (by decide), Or.inl rfl, fun q => absurd q (by decide), fun j _ => ⟨Or.inl rfl, fun q => absurd (show (-1 : Int32) = nI 0 from q) (by decide)⟩⟩
theorem mInv_00 : mInv 0 0 0 kz kz kz m00 := ⟨⟨by decide, by decide, fun i hi => absurd hi (by omega)⟩, fun i hi => absurd hi (by omega), rfl, fun _ => ⟨bOK_0 (fun _ _ => rfl) (fun _ _ => rfl), fun s _ => rfl, fun j hj => absurd hj (by omega), fun j _ hj => absurd hj (by omega)⟩, fun k h1 _ _ _ h2 => absurd h2 (by omega)⟩
theorem cInv_up {t n am al : Nat} {fr to wt : Nat → Nat} {h : HS} (hI : cInv t n am al fr to wt h) : cInv (t + 1) n am al fr to wt h := by
  obtain ⟨h1, h2, h3, h4, h5, h6⟩ := hI
  exact ⟨h1, h2, h3, h4, by omega, h6⟩
theorem sw_cases (x : Int32) : x = 0 ∨ x = 1 ∨ x = 2 ∨ x = 3 ∨ x = 4 ∨ x = 5 ∨ x = 6 ∨ x = 7 ∨ x = 8 ∨ x = 9 ∨ x = 10 ∨ x = 11 ∨ x = 12 ∨ x = 13 ∨ x = 14 ∨ x = 15 ∨ x = 16 ∨ x = 17 ∨ x = 18 ∨ x = 19 ∨ x = 20 ∨ (x.toInt < 0 ∨ 20 < x.toInt) := by
  by_cases h : x.toInt < 0 ∨ 20 < x.toInt
  · exact Or.inr (Or.inr (Or.inr (Or.inr (Or.inr (Or.inr (Or.inr (Or.inr (Or.inr (Or.inr (Or.inr (Or.inr (Or.inr (Or.inr (Or.inr (Or.inr (Or.inr (Or.inr (Or.inr (Or.inr (Or.inr (h)))))))))))))))))))))
  · have h2 : x.toInt = 0 ∨ x.toInt = 1 ∨ x.toInt = 2 ∨ x.toInt = 3 ∨ x.toInt = 4 ∨ x.toInt = 5 ∨ x.toInt = 6 ∨ x.toInt = 7 ∨ x.toInt = 8 ∨ x.toInt = 9 ∨ x.toInt = 10 ∨ x.toInt = 11 ∨ x.toInt = 12 ∨ x.toInt = 13 ∨ x.toInt = 14 ∨ x.toInt = 15 ∨ x.toInt = 16 ∨ x.toInt = 17 ∨ x.toInt = 18 ∨ x.toInt = 19 ∨ x.toInt = 20 := by omega
    rcases h2 with h2 | h2 | h2 | h2 | h2 | h2 | h2 | h2 | h2 | h2 | h2 | h2 | h2 | h2 | h2 | h2 | h2 | h2 | h2 | h2 | h2
    · exact Or.inl (Int32.toInt_inj.mp (by rw [h2]; rfl))
    · exact Or.inr (Or.inl (Int32.toInt_inj.mp (by rw [h2]; rfl)))
    · exact Or.inr (Or.inr (Or.inl (Int32.toInt_inj.mp (by rw [h2]; rfl))))
    · exact Or.inr (Or.inr (Or.inr (Or.inl (Int32.toInt_inj.mp (by rw [h2]; rfl)))))
    · exact Or.inr (Or.inr (Or.inr (Or.inr (Or.inl (Int32.toInt_inj.mp (by rw [h2]; rfl))))))
    · exact Or.inr (Or.inr (Or.inr (Or.inr (Or.inr (Or.inl (Int32.toInt_inj.mp (by rw [h2]; rfl)))))))
    · exact Or.inr (Or.inr (Or.inr (Or.inr (Or.inr (Or.inr (Or.inl (Int32.toInt_inj.mp (by rw [h2]; rfl))))))))
    · exact Or.inr (Or.inr (Or.inr (Or.inr (Or.inr (Or.inr (Or.inr (Or.inl (Int32.toInt_inj.mp (by rw [h2]; rfl)))))))))
    · exact Or.inr (Or.inr (Or.inr (Or.inr (Or.inr (Or.inr (Or.inr (Or.inr (Or.inl (Int32.toInt_inj.mp (by rw [h2]; rfl))))))))))
    · exact Or.inr (Or.inr (Or.inr (Or.inr (Or.inr (Or.inr (Or.inr (Or.inr (Or.inr (Or.inl (Int32.toInt_inj.mp (by rw [h2]; rfl)))))))))))
    · exact Or.inr (Or.inr (Or.inr (Or.inr (Or.inr (Or.inr (Or.inr (Or.inr (Or.inr (Or.inr (Or.inl (Int32.toInt_inj.mp (by rw [h2]; rfl))))))))))))
    · exact Or.inr (Or.inr (Or.inr (Or.inr (Or.inr (Or.inr (Or.inr (Or.inr (Or.inr (Or.inr (Or.inr (Or.inl (Int32.toInt_inj.mp (by rw [h2]; rfl)))))))))))))
    · exact Or.inr (Or.inr (Or.inr (Or.inr (Or.inr (Or.inr (Or.inr (Or.inr (Or.inr (Or.inr (Or.inr (Or.inr (Or.inl (Int32.toInt_inj.mp (by rw [h2]; rfl))))))))))))))
    · exact Or.inr (Or.inr (Or.inr (Or.inr (Or.inr (Or.inr (Or.inr (Or.inr (Or.inr (Or.inr (Or.inr (Or.inr (Or.inr (Or.inl (Int32.toInt_inj.mp (by rw [h2]; rfl)))))))))))))))
    · exact Or.inr (Or.inr (Or.inr (Or.inr (Or.inr (Or.inr (Or.inr (Or.inr (Or.inr (Or.inr (Or.inr (Or.inr (Or.inr (Or.inr (Or.inl (Int32.toInt_inj.mp (by rw [h2]; rfl))))))))))))))))
    · exact Or.inr (Or.inr (Or.inr (Or.inr (Or.inr (Or.inr (Or.inr (Or.inr (Or.inr (Or.inr (Or.inr (Or.inr (Or.inr (Or.inr (Or.inr (Or.inl (Int32.toInt_inj.mp (by rw [h2]; rfl)))))))))))))))))
    · exact Or.inr (Or.inr (Or.inr (Or.inr (Or.inr (Or.inr (Or.inr (Or.inr (Or.inr (Or.inr (Or.inr (Or.inr (Or.inr (Or.inr (Or.inr (Or.inr (Or.inl (Int32.toInt_inj.mp (by rw [h2]; rfl))))))))))))))))))
    · exact Or.inr (Or.inr (Or.inr (Or.inr (Or.inr (Or.inr (Or.inr (Or.inr (Or.inr (Or.inr (Or.inr (Or.inr (Or.inr (Or.inr (Or.inr (Or.inr (Or.inr (Or.inl (Int32.toInt_inj.mp (by rw [h2]; rfl)))))))))))))))))))
    · exact Or.inr (Or.inr (Or.inr (Or.inr (Or.inr (Or.inr (Or.inr (Or.inr (Or.inr (Or.inr (Or.inr (Or.inr (Or.inr (Or.inr (Or.inr (Or.inr (Or.inr (Or.inr (Or.inl (Int32.toInt_inj.mp (by rw [h2]; rfl))))))))))))))))))))
    · exact Or.inr (Or.inr (Or.inr (Or.inr (Or.inr (Or.inr (Or.inr (Or.inr (Or.inr (Or.inr (Or.inr (Or.inr (Or.inr (Or.inr (Or.inr (Or.inr (Or.inr (Or.inr (Or.inr (Or.inl (Int32.toInt_inj.mp (by rw [h2]; rfl)))))))))))))))))))))
    · exact Or.inr (Or.inr (Or.inr (Or.inr (Or.inr (Or.inr (Or.inr (Or.inr (Or.inr (Or.inr (Or.inr (Or.inr (Or.inr (Or.inr (Or.inr (Or.inr (Or.inr (Or.inr (Or.inr (Or.inr (Or.inl (Int32.toInt_inj.mp (by rw [h2]; rfl))))))))))))))))))))))
variable {E : xE} {l : Launch} {R : Room} {D : va_G} {cl : List vw_C} {tys : List (ClassId × FieldType)} {cc : ByteArray} {own : String} {nL : Nat} {Ts : List Cond} {nws : xN} {cells slots : Nat} {ws : va_W} {lv : List (Nat × Value)} {pc : Nat} {st : List Value}
theorem x_nil (k : xW E D cl nL cells slots (ws ++ []) lv pc st) : xW E D cl nL cells slots ws lv pc st := by rw [List.append_nil] at k; exact k
theorem x_tin (S : xOK E l R D cl tys cc own nL Ts nws) {dflt lo hi : Int} {offs : Array Int} {len : Nat} {x : Int32} {off : Int} {tgt : Nat} (hd : decode cc pc = .ok (.tableswitch dflt lo hi offs, len)) (h1 : ¬ x.toInt < lo) (h2 : ¬ hi < x.toInt) (ho : offs[(x.toInt - lo).toNat]? = some off) (ht : (pc : Int) + off = (tgt : Int)) (k : xW E D cl nL cells slots ws lv tgt st) : xW E D cl nL cells slots ws lv pc (.int x :: st) := fun H locs ls hP hD hS hl => lv_tableIn S.1.1 S.1.2.1 hd h1 h2 ho ht (k H locs ls hP hD hS hl)
theorem x_tout (S : xOK E l R D cl tys cc own nL Ts nws) {dflt lo hi : Int} {offs : Array Int} {len : Nat} {x : Int32} {tgt : Nat} (hd : decode cc pc = .ok (.tableswitch dflt lo hi offs, len)) (h : x.toInt < lo ∨ hi < x.toInt) (ht : (pc : Int) + dflt = (tgt : Int)) (k : xW E D cl nL cells slots ws lv tgt st) : xW E D cl nL cells slots ws lv pc (.int x :: st) := fun H locs ls hP hD hS hl => lv_tableOut S.1.1 S.1.2.1 hd h ht (k H locs ls hP hD hS hl)
theorem x_sld (S : xOK E l R D cl tys cc own nL Ts nws) {b L : Nat} {xs : Nat → Int32} {i : Int32} (hX : va_X b L xs E.s E.s.heap) (hbl : b < E.s.heap.size) (hbA : ¬ E.A b) (hL : L < 2 ^ 31) (j : Nat) (hi : i = nI j) (hj : j < L) (hd : decode cc pc = .ok (.iaload, 1)) (k : xW E D cl nL cells slots ws lv (pc + 1) (.int (xs j) :: st)) : xW E D cl nL cells slots ws lv pc (.int i :: .ref b :: st) := by
  subst hi
  intro H locs ls hP hD hS hl
  refine va_sld S.1.1 S.1.2.1 hX hbl hbA hS (vp_in_nI hj hL) hd ?_
  rw [nI_clamp (Nat.lt_trans hj hL)]
  exact k H locs ls hP hD hS hl
theorem x_slen (S : xOK E l R D cl tys cc own nL Ts nws) {b L : Nat} {xs : Nat → Int32} (hX : va_X b L xs E.s E.s.heap) (hbl : b < E.s.heap.size) (hbA : ¬ E.A b) (hd : decode cc pc = .ok (.arraylength, 1)) (k : xW E D cl nL cells slots ws lv (pc + 1) (.int (nI L) :: st)) : xW E D cl nL cells slots ws lv pc (.ref b :: st) := fun H locs ls hP hD hS hl => va_slen S.1.1 S.1.2.1 hX hbl hbA hS hd (k H locs ls hP hD hS hl)
theorem len4 {L j : Nat} (hL : L ≤ 2048) (hj : j < 2 ^ 31) (h : ¬ nI L - 4 < nI j) : j + 4 ≤ L := by
  rcases Nat.lt_or_ge L 4 with q | q
  · exfalso
    refine h (Int32.lt_of_lt_of_le (b := 0) ?_ (Int32.not_lt.mp (nI_pos hj)))
    rcases (show L = 0 ∨ L = 1 ∨ L = 2 ∨ L = 3 by omega) with e | e | e | e <;> rw [e] <;> decide
  · rw [show nI L - 4 = nI (L - 4) from pk_sub (b := 4) q] at h
    have := Nat.le_of_not_lt (fun z => h (nI_lt z hj))
    omega
end LAW0
