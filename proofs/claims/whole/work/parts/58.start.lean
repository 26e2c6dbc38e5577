/-! the law from its entry -/
section START
theorem arrT_of {s : State} {c : ClassId} {k : Class} {comp : ClassId} {ty : FieldType} (h1 : s.vm.classes[c]? = some k) (h2 : k.kind = .array comp ty) : ArrOfT s c ty := fun n z => ⟨(fun q h => by cases h), k, h1, comp, h2⟩
set_option maxHeartbeats 4000000 in
set_option maxRecDepth 100000 in
theorem whole_start {p : Program} {e : Env} {s : State} {m : MethodId} {below : List Frame} {meth : Method} {c : Code} (l : Launch) {b L : Nat} {xs : Nat → Int32} (hL : L ≤ 2048) (C0 : lw_At p s m meth c b L xs) : W p l e room_1 s m #[Value.ref b] below meth c s.heap [] 0 0 (lw_Z below #[Value.ref b] s) (entryFrame m ([Value.ref b] : List Value).toArray 4) := by
  obtain ⟨hx, hb, hr, hml, hown, hts, hX, hbl, hlk, hgv⟩ := C0
  obtain ⟨c0, i0, k0⟩ := u_known (C := RX0) (T := TX0) (N := 3) (n := 3) hts (fun w hw => gT_in w (inX0 w hw)) (hts _ (List.mem_of_getElem? (i := 105) rfl))
  obtain ⟨c1, i1, k1⟩ := u_known (C := RX1) (T := TX1) (N := 2) (n := 2) hts (fun w hw => gT_in w (inX1 w hw)) (hts _ (List.mem_of_getElem? (i := 145) rfl))
  obtain ⟨c2, i2, k2⟩ := u_known (C := RX2) (T := TX2) (N := 9) (n := 9) hts (fun w hw => gT_in w (inX2 w hw)) (hts _ (List.mem_of_getElem? (i := 53) rfl))
  obtain ⟨c3, i3, k3⟩ := u_known (C := RX3) (T := TX3) (N := 5) (n := 5) hts (fun w hw => gT_in w (inX3 w hw)) (hts _ (List.mem_of_getElem? (i := 121) rfl))
  obtain ⟨c4, i4, k4⟩ := u_known (C := RX4) (T := TX4) (N := 6) (n := 6) hts (fun w hw => gT_in w (inX4 w hw)) (hts _ (List.mem_of_getElem? (i := 159) rfl))
  obtain ⟨c5, i5, k5⟩ := u_known (C := RX5) (T := TX5) (N := 5) (n := 5) hts (fun w hw => gT_in w (inX5 w hw)) (hts _ (List.mem_of_getElem? (i := 45) rfl))
  obtain ⟨c6, i6, k6⟩ := u_known (C := RX6) (T := TX6) (N := 20) (n := 20) hts (fun w hw => gT_in w (inX6 w hw)) (hts _ (List.mem_of_getElem? (i := 494) rfl))
  obtain ⟨cI, kI, xI, a1, a2, a3⟩ := Cond.arrayClass_spec (hts _ (gT_in _ tw69))
  obtain ⟨cZ, kZ, xZ, z1, z2, z3⟩ := Cond.arrayClass_spec (hts _ (gT_in _ tw526))
  have hO1 : (Cond.arrayOver (.array .int)).before #[Value.ref b] s = true := hts _ (List.mem_of_getElem? (i := 59) rfl)
  have hO2 : (Cond.arrayOver (.object "CutTrees$Parting")).before #[Value.ref b] s = true := hts _ (List.mem_of_getElem? (i := 158) rfl)
  have hO : oS s := ⟨hO2, hO1⟩
  obtain ⟨xG, cII, kG, -, g2, g3, g4⟩ := Cond.arrayOver_specA hO1
  obtain ⟨xP, cP, kP, p1, -, p2, p3, p4⟩ := Cond.arrayOver_spec hO2
  obtain ⟨D, hDd⟩ : ∃ D : va_G, D = (fun i => match i with | 0 => c0 | 1 => c1 | 2 => c2 | 3 => c3 | 4 => c4 | 5 => c5 | _ => c6, fun i => match i with | 0 => i0 | 1 => i1 | 2 => i2 | 3 => i3 | 4 => i4 | 5 => i5 | _ => i6) := ⟨_, rfl⟩
  have hK : va_K D vwCl (tyC cI cII cP cZ) s := by
    subst hDd
    refine ⟨fun c q hq => ?_, fun k q hq => ?_⟩
    · match c, hq with
      | 0, hq => cases hq; exact k0
      | 1, hq => cases hq; exact k1
      | 2, hq => cases hq; exact k2
      | 3, hq => cases hq; exact k3
      | 4, hq => cases hq; exact k4
      | 5, hq => cases hq; exact k5
      | 6, hq => cases hq; exact k6
      | c + 7, hq => simp at hq
    · match k, hq with
      | 0, hq => cases hq; exact ⟨arrT_of a2 a3, a1⟩
      | 1, hq => cases hq; exact ⟨arrT_of g2 g3, g4⟩
      | 2, hq => cases hq; exact ⟨arrT_of p2 p3, kP, xP, p2, p3, p1, p4⟩
      | 3, hq => cases hq; exact ⟨arrT_of z2 z3, z1⟩
      | k + 4, hq => simp at hq
  have hN : xNw nwC s := by
    intro q hq
    rcases List.mem_cons.mp hq with rfl | hq
    · exact va_Nw.of rfl (hts _ (List.mem_of_getElem? (i := 54) rfl))
    rcases List.mem_cons.mp hq with rfl | hq
    · exact va_Nw.of rfl (hts _ (List.mem_of_getElem? (i := 302) rfl))
    rcases List.mem_cons.mp hq with rfl | hq
    · exact va_Nw.of rfl (hts _ (List.mem_of_getElem? (i := 481) rfl))
    · cases hq
  obtain ⟨E, hE⟩ : ∃ E : xE, E = (p, l, e, room_1, s, m, #[Value.ref b], below, meth, c, lw_Z below #[Value.ref b] s, fun q => s.heap.size ≤ q) := ⟨_, rfl⟩
  have S : xOK E l room_1 D vwCl (tyC cI cII cP cZ) cL_law R_law 4 (Cond.initialized RL :: gT) nwC := by
    subst hE
    exact ⟨⟨hx, hb, hml, hown, fun w hw => (List.mem_cons.mp hw).elim (fun q => q ▸ hts _ (gT_in _ tw0)) (fun q => hts _ (gT_in _ q))⟩, rfl, rfl, hK, fun q h => h, hN⟩
  have hX' : va_X b L xs E.s E.s.heap := by subst hE; exact hX
  have hbl' : b < E.s.heap.size := by subst hE; exact hbl
  have hbA : ¬ E.A b := by subst hE; exact Nat.not_le.mpr hbl
  have hO' : oS E.s := by subst hE; exact hO
  have hEnd : ∀ ws lv, xW E D vwCl 4 55 7138 ws lv 651 [] := by
    intro ws lv
    refine x_iconst (v := 1) S dL_law_651 rfl ?_
    subst hE
    intro H locs ls hP hD hS hl
    exact va_forget (fun q hq => hS.2.2 q hq) (W.widen (k := 600000) (n := 7302250) (by decide) (by decide) (lw_ret hx hb hr hlk dL_law_652))
  have main : xW E D vwCl 4 0 0 [] [(0, .ref b)] 0 [] := by
    refine x_new (cells := 0) (slots := 0) (fs := [.null, .null, .null, .null, .null]) (a := []) (X := []) S 5 rfl inC5 tyX5 tyX5_ok (gC _ tw10) (gC _ tw11) (gC _ tw1) (by decide) (Nat.le_of_ble_eq_true rfl) (Nat.le_of_ble_eq_true rfl) dL_law_0 (fun o => ?_)
    show xW E D vwCl 4 1 5 [(o, .inr (5, [.null, .null, .null, .null, .null]))] [(0, .ref b)] 3 [.ref o]
    refine x_dup S dL_law_3 rfl ?_
    refine x_callIO (n := 0) S hO' (n_cut o) (gG gC tw14) rfl (gC _ tw1) (gC _ tw12) (gC _ tw13) rfl (by decide +kernel) rfl rfl (Nat.le_of_ble_eq_true rfl) dL_law_4 ⟨(Nat.le_of_ble_eq_true rfl), (Nat.le_of_ble_eq_true rfl)⟩ ⟨(Nat.le_of_ble_eq_true rfl), (Nat.le_of_ble_eq_true rfl)⟩ (fun ad had => ?_)
    subst had
    show xW E D vwCl 4 39 2534 (cwH ad cI cII cP 0 0 0 kz kz kz h00) [(0, .ref b)] 7 [.ref (ad 25)]
    refine x_astore_n (lv' := [(1, .ref (ad 25)), (0, .ref b)]) S dL_law_7 rfl (by decide) rfl ?_
    refine x_nil ?_
    refine x_new (cells := 39) (slots := 2534) (fs := [.int 0, .int 0, .int 0, .null, .null, .null, .null, .null, .null, .null, .int 0, .null, .null, .null, .null, .null, .int 0, .null, .null, .null]) (a := cwH ad cI cII cP 0 0 0 kz kz kz h00) (X := []) S 6 rfl inC6 tyX6 tyX6_ok (gC _ tw459) (gC _ tw460) (gC _ tw7) (by decide) (Nat.le_of_ble_eq_true rfl) (Nat.le_of_ble_eq_true rfl) dL_law_8 (fun o => ?_)
    refine x_dup S dL_law_11 rfl ?_
    refine x_swap (w1 := cwH ad cI cII cP 0 0 0 kz kz kz h00) (w2 := [(o, .inr (6, [.int 0, .int 0, .int 0, .null, .null, .null, .null, .null, .null, .null, .int 0, .null, .null, .null, .null, .null, .int 0, .null, .null, .null]))]) ?_
    refine x_callIS (n := 0) (ret := none) S (n_model (X := cwH ad cI cII cP 0 0 0 kz kz kz h00) o) (gG gC tw463) rfl (gC _ tw7) (gC _ tw461) (gC _ tw462) rfl (by decide +kernel) rfl rfl (Nat.le_of_ble_eq_true rfl) dL_law_12 ⟨(Nat.le_of_ble_eq_true rfl), (Nat.le_of_ble_eq_true rfl)⟩ ⟨(Nat.le_of_ble_eq_true rfl), (Nat.le_of_ble_eq_true rfl)⟩ (fun u _ => ?_)
    obtain ⟨bd, hbd⟩ : ∃ bd : Nat → Nat, bd 0 = o ∧ bd 1 = u.1 ∧ bd 2 = u.2.1 ∧ bd 3 = u.2.2.1 ∧ bd 4 = u.2.2.2.1 ∧ bd 5 = u.2.2.2.2.1 ∧ bd 6 = u.2.2.2.2.2.1 ∧ bd 7 = u.2.2.2.2.2.2.1 ∧ bd 8 = u.2.2.2.2.2.2.2.1 ∧ bd 9 = u.2.2.2.2.2.2.2.2.1 ∧ bd 10 = u.2.2.2.2.2.2.2.2.2.1 ∧ bd 11 = u.2.2.2.2.2.2.2.2.2.2.1 ∧ bd 12 = u.2.2.2.2.2.2.2.2.2.2.2.1 ∧ bd 13 = u.2.2.2.2.2.2.2.2.2.2.2.2.1 ∧ bd 14 = u.2.2.2.2.2.2.2.2.2.2.2.2.2.1 ∧ bd 15 = u.2.2.2.2.2.2.2.2.2.2.2.2.2.2 := ⟨adL [o, u.1, u.2.1, u.2.2.1, u.2.2.2.1, u.2.2.2.2.1, u.2.2.2.2.2.1, u.2.2.2.2.2.2.1, u.2.2.2.2.2.2.2.1, u.2.2.2.2.2.2.2.2.1, u.2.2.2.2.2.2.2.2.2.1, u.2.2.2.2.2.2.2.2.2.2.1, u.2.2.2.2.2.2.2.2.2.2.2.1, u.2.2.2.2.2.2.2.2.2.2.2.2.1, u.2.2.2.2.2.2.2.2.2.2.2.2.2.1, u.2.2.2.2.2.2.2.2.2.2.2.2.2.2], rfl, rfl, rfl, rfl, rfl, rfl, rfl, rfl, rfl, rfl, rfl, rfl, rfl, rfl, rfl, rfl⟩
    obtain ⟨e0, e1, e2, e3, e4, e5, e6, e7, e8, e9, e10, e11, e12, e13, e14, e15⟩ := hbd
    rw [← e0, ← e1, ← e2, ← e3, ← e4, ← e5, ← e6, ← e7, ← e8, ← e9, ← e10, ← e11, ← e12, ← e13, ← e14, ← e15]
    show xW E D vwCl 4 55 7138 (mwH bd cI cZ 0 0 0 m00 ++ cwH ad cI cII cP 0 0 0 kz kz kz h00) [(1, .ref (ad 25)), (0, .ref b)] 15 [.ref (bd 0)]
    refine x_swap (w1 := mwH bd cI cZ 0 0 0 m00) (w2 := cwH ad cI cII cP 0 0 0 kz kz kz h00) ?_
    refine x_astore_n (lv' := [(2, .ref (bd 0)), (1, .ref (ad 25)), (0, .ref b)]) S dL_law_15 rfl (by decide) rfl ?_
    refine x_iconst (v := 0) S dL_law_16 rfl ?_
    refine x_istore_n (lv' := [(3, .int 0), (2, .ref (bd 0)), (1, .ref (ad 25)), (0, .ref b)]) S dL_law_17 rfl (by decide) rfl ?_
    exact x_sub [3, 2, 1, 0] rfl (l_loop S hL hX' hbl' hbA (by decide) hEnd 0 (Nat.zero_le _) 0 0 0 kz kz kz h00 m00 cInv_00 mInv_00)
  have hl := lv_entry ([.ref b]) (n := 4) (Nat.le_of_ble_eq_true rfl)
  rw [lg_entry_eq]
  have fin := main s.heap [] _ (fun k q hq => by simp at hq) ⟨fun i j x y hi => by simp at hi, fun k q hq => by simp at hq⟩ (by subst hE; exact va_S.rf) hl
  subst hE
  exact fin
end START
