/-! CutTrees: the calls that change it -/
section CT4
theorem wt_del {wt : Nat → Nat} {k i : Nat} (h : wt i ≤ 1000) : va_up wt k 0 i ≤ 1000 := by
  by_cases e : i = k
  · rw [e, va_up_self]; omega
  · rw [va_up_ne _ _ e]; exact h
theorem kNb_0 (fr to wt : Nat → Nat) (a : Nat) : kNb fr to wt 0 a = 0 := nb_eq (kNb_lt _ _ _ _ _) (by omega) (fun b hb => by
  rw [kNb_t _ _ _ _ _ _ hb]
  simp [kM, sm])
variable {l : Launch} {D : va_G} {ad : Nat → Nat} {cI cII cP cZ : ClassId} {n am al ch : Nat} {fr to wt nb : Nat → Nat} {M : Nat → Nat → Nat} {tch : Int32} {cu : Nat → Nat} {rch : Int32} {pa br gp : Nat → Nat} {P : Nat → Int32 × Nat × (Nat → Nat) × (Nat → Nat)} {X : va_W}
set_option maxHeartbeats 4000000 in
set_option maxRecDepth 100000 in
theorem p_node_no {t : Nat} (h12 : ¬ n < 12) (h : HS) (hI : cInv t n am al fr to wt h) : xMetS l yX5_node wX5_node (rD 16) D vwCl (tyC cI cII cP cZ) nwC [.ref (ad 25)] (cwH ad cI cII cP n am al fr to wt h ++ X) (fun h' : HS => cInv t n am al fr to wt h') (fun h' => cwH ad cI cII cP n am al fr to wt h' ++ X) (fun _ => some (.int (-4))) := by
  obtain ⟨ch, nb, M, tch, cu, rch, pa, br, gp, P⟩ := h
  obtain ⟨hA, hM, hN, hal, hch, h0, hsT, hT, hsR, hR, hP⟩ := hI
  have hn := hA.1
  refine xMetS_of (cc := cX5_node) (maxL := 1) (ret := (some .int)) (by decide +kernel) rfl (Nat.le_of_ble_eq_true rfl) (fun _ _ => xfi) ?_
  intro E S hnm hret
  show xW E D vwCl 1 0 0 (cw ad cI cII cP n am al ch fr to wt nb M tch cu rch pa br gp P ++ X) [(0, .ref (ad 25))] 0 []
  refine x_aload_n S dX5_node_0 0 rfl rfl ?_
  refine x_get S 25 0 rfl rfl inC5 (by decide) (gC _ tw151) rfl rfl dX5_node_1 ?_
  refine x_get S 0 5 rfl rfl inC2 (by decide) (gC _ tw37) rfl rfl dX5_node_4 ?_
  refine x_bipush (v := 12) S dX5_node_7 (by decide) ?_
  refine x_icmp_lt (tgt := 17) S dX5_node_9 (by decide) (fun h1 => ?_) (fun h1 => ?_)
  · exact absurd ((nI_ltI (b := 12) (by omega) (by omega)).mp h1) h12
  refine x_bipush (v := -4) S dX5_node_12 (by decide) ?_
  refine x_goto (tgt := 24) S dX5_node_14 (by decide) ?_
  exact x_retS hret ((ch, nb, M, tch, cu, rch, pa, br, gp, P)) (⟨hA, hM, hN, hal, hch, h0, hsT, hT, hsR, hR, hP⟩) (rfl) dX5_node_24
set_option maxHeartbeats 4000000 in
set_option maxRecDepth 100000 in
theorem p_node_ok {t : Nat} (ht : t ≤ 1000000) (h12 : n < 12) (h : HS) (hI : cInv t n am al fr to wt h) : xMetS l yX5_node wX5_node (rD 16) D vwCl (tyC cI cII cP cZ) nwC [.ref (ad 25)] (cwH ad cI cII cP n am al fr to wt h ++ X) (fun h' : HS => cInv (t + 1) (n + 1) am al fr to wt h') (fun h' => cwH ad cI cII cP (n + 1) am al fr to wt h' ++ X) (fun _ => some (.int (nI n))) := by
  obtain ⟨ch, nb, M, tch, cu, rch, pa, br, gp, P⟩ := h
  obtain ⟨hA, hM, hN, hal, hch, h0, hsT, hT, hsR, hR, hP⟩ := hI
  have hn := hA.1
  refine xMetS_of (cc := cX5_node) (maxL := 1) (ret := (some .int)) (by decide +kernel) rfl (Nat.le_of_ble_eq_true rfl) (fun _ _ => xfi) ?_
  intro E S hnm hret
  show xW E D vwCl 1 0 0 (cw ad cI cII cP n am al ch fr to wt nb M tch cu rch pa br gp P ++ X) [(0, .ref (ad 25))] 0 []
  have hb31 : ch + 1 < 2 ^ 31 := t31 hch ht
  refine x_aload_n S dX5_node_0 0 rfl rfl ?_
  refine x_get S 25 0 rfl rfl inC5 (by decide) (gC _ tw151) rfl rfl dX5_node_1 ?_
  refine x_get S 0 5 rfl rfl inC2 (by decide) (gC _ tw37) rfl rfl dX5_node_4 ?_
  refine x_bipush (v := 12) S dX5_node_7 (by decide) ?_
  refine x_icmp_lt (tgt := 17) S dX5_node_9 (by decide) (fun h1 => ?_) (fun h1 => ?_)
  · refine x_aload_n S dX5_node_17 0 rfl rfl ?_
    refine x_get S 25 0 rfl rfl inC5 (by decide) (gC _ tw151) rfl rfl dX5_node_18 ?_
    refine x_cVi (n := 0) S (c_addNode) (gGV gC tw174 tw171 tw172 tw173 tw2) rfl (by decide +kernel) 0 rfl rfl rfl rfl (Nat.le_of_ble_eq_true rfl) dX5_node_21 ⟨by decide, by decide⟩ ⟨Nat.le_of_ble_eq_true rfl, Nat.le_of_ble_eq_true rfl⟩ ?_
    exact x_retS hret ((ch + 1, nb, M, tch, cu, rch, pa, br, gp, P)) (⟨⟨by omega, hA.2.1, fun i hi => by obtain ⟨f1, f2, f3, f4⟩ := hA.2.2 i hi; exact ⟨by omega, by omega, f3, f4⟩⟩, hM, hN, hal, (Nat.succ_le_succ hch), h0, hsT.up, fun q => absurd q (hsT.ne hb31), hsR.up, fun q => absurd q (hsR.ne hb31), hP.stale hb31⟩) (rfl) dX5_node_24
  exact absurd (nI_lt (b := 12) h12 (by omega)) h1
set_option maxHeartbeats 4000000 in
set_option maxRecDepth 100000 in
theorem p_arc_no {t : Nat} (a b w : Int32) (hno : ¬ (isP2 n a b ∧ 1 ≤ w ∧ w ≤ 1000 ∧ am < 50)) (h : HS) (hI : cInv t n am al fr to wt h) : xMetS l yX5_arc wX5_arc (rD 16) D vwCl (tyC cI cII cP cZ) nwC [.ref (ad 25), .int a, .int b, .int w] (cwH ad cI cII cP n am al fr to wt h ++ X) (fun h' : HS => cInv t n am al fr to wt h') (fun h' => cwH ad cI cII cP n am al fr to wt h' ++ X) (fun _ => some (.int (if isP2 n a b then (if w < 1 ∨ 1000 < w then -2 else -4) else -1))) := by
  obtain ⟨ch, nb, M, tch, cu, rch, pa, br, gp, P⟩ := h
  obtain ⟨hA, hM, hN, hal, hch, h0, hsT, hT, hsR, hR, hP⟩ := hI
  have hn := hA.1
  refine xMetS_of (cc := cX5_arc) (maxL := 4) (ret := (some .int)) (by decide +kernel) rfl (Nat.le_of_ble_eq_true rfl) (fun _ _ => xfi) ?_
  intro E S hnm hret
  show xW E D vwCl 4 0 0 (cw ad cI cII cP n am al ch fr to wt nb M tch cu rch pa br gp P ++ X) [(0, .ref (ad 25)), (1, .int a), (2, .int b), (3, .int w)] 0 []
  refine x_aload_n S dX5_arc_0 0 rfl rfl ?_
  refine x_get S 25 0 rfl rfl inC5 (by decide) (gC _ tw151) rfl rfl dX5_arc_1 ?_
  refine x_iload_n S dX5_arc_4 1 rfl rfl ?_
  refine x_iload_n S dX5_arc_5 2 rfl rfl ?_
  refine x_cVi (n := 2) S (c_hasPair a b) (gGV gC tw182 tw179 tw180 tw181 tw2) rfl (by decide +kernel) 0 rfl rfl rfl rfl (Nat.le_of_ble_eq_true rfl) dX5_arc_6 ⟨by decide, by decide⟩ ⟨Nat.le_of_ble_eq_true rfl, Nat.le_of_ble_eq_true rfl⟩ ?_
  refine x_if_neB (tgt := 14) S dX5_arc_9 (by decide) (fun h1 => ?_) (fun h1 => ?_)
  rotate_left
  · refine x_iconst (v := -1) S dX5_arc_12 rfl ?_
    exact x_retS hret ((ch, nb, M, tch, cu, rch, pa, br, gp, P)) (⟨hA, hM, hN, hal, hch, h0, hsT, hT, hsR, hR, hP⟩) ((if_neg h1).symm) dX5_arc_13
  refine x_iload_n S dX5_arc_14 3 rfl rfl ?_
  refine x_iconst (v := 1) S dX5_arc_15 rfl ?_
  refine x_icmp_lt (tgt := 26) S dX5_arc_16 (by decide) (fun h2 => ?_) (fun h2 => ?_)
  · refine x_bipush (v := -2) S dX5_arc_26 (by decide) ?_
    exact x_retS hret ((ch, nb, M, tch, cu, rch, pa, br, gp, P)) (⟨hA, hM, hN, hal, hch, h0, hsT, hT, hsR, hR, hP⟩) ((by rw [if_pos h1, if_pos (Or.inl h2)])) dX5_arc_28
  refine x_iload_n S dX5_arc_19 3 rfl rfl ?_
  refine x_sipush (v := 1000) S dX5_arc_20 (by decide) ?_
  refine x_icmp_le (tgt := 29) S dX5_arc_23 (by decide) (fun h3 => ?_) (fun h3 => ?_)
  rotate_left
  · refine x_bipush (v := -2) S dX5_arc_26 (by decide) ?_
    exact x_retS hret ((ch, nb, M, tch, cu, rch, pa, br, gp, P)) (⟨hA, hM, hN, hal, hch, h0, hsT, hT, hsR, hR, hP⟩) ((by rw [if_pos h1, if_pos (Or.inr (Int32.not_le.mp h3))])) dX5_arc_28
  have h50 : ¬ am < 50 := fun q => hno ⟨h1, Int32.not_lt.mp h2, h3, q⟩
  have ham := hA.2.1
  refine x_aload_n S dX5_arc_29 0 rfl rfl ?_
  refine x_get S 25 0 rfl rfl inC5 (by decide) (gC _ tw151) rfl rfl dX5_arc_30 ?_
  refine x_get S 0 6 rfl rfl inC2 (by decide) (gC _ tw43) rfl rfl dX5_arc_33 ?_
  refine x_bipush (v := 50) S dX5_arc_36 (by decide) ?_
  refine x_icmp_lt (tgt := 46) S dX5_arc_38 (by decide) (fun h4 => ?_) (fun h4 => ?_)
  · exact absurd ((nI_ltI (b := 50) (by omega) (by omega)).mp h4) h50
  refine x_bipush (v := -4) S dX5_arc_41 (by decide) ?_
  refine x_goto (tgt := 56) S dX5_arc_43 (by decide) ?_
  exact x_retS hret ((ch, nb, M, tch, cu, rch, pa, br, gp, P)) (⟨hA, hM, hN, hal, hch, h0, hsT, hT, hsR, hR, hP⟩) ((by rw [if_pos h1, if_neg (fun q => q.elim h2 (fun q => Int32.not_lt.mpr h3 q))])) dX5_arc_56
set_option maxHeartbeats 4000000 in
set_option maxRecDepth 100000 in
theorem p_arc_ok {t : Nat} {i j ω : Nat} (ht : t ≤ 1000000) (hi : i < n) (hj : j < n) (hij : i ≠ j) (hw1 : 1 ≤ ω) (hw2 : ω ≤ 1000) (h50 : am < 50) (h : HS) (hI : cInv t n am al fr to wt h) : xMetS l yX5_arc wX5_arc (rD 16) D vwCl (tyC cI cII cP cZ) nwC [.ref (ad 25), .int (nI i), .int (nI j), .int (nI ω)] (cwH ad cI cII cP n am al fr to wt h ++ X) (fun h' : HS => cInv (t + 1) n (am + 1) (al + 1) (va_up fr am i) (va_up to am j) (va_up wt am ω) h') (fun h' => cwH ad cI cII cP n (am + 1) (al + 1) (va_up fr am i) (va_up to am j) (va_up wt am ω) h' ++ X) (fun _ => some (.int (nI am))) := by
  obtain ⟨ch, nb, M, tch, cu, rch, pa, br, gp, P⟩ := h
  obtain ⟨hA, hM, hN, hal, hch, h0, hsT, hT, hsR, hR, hP⟩ := hI
  have hn := hA.1
  refine xMetS_of (cc := cX5_arc) (maxL := 4) (ret := (some .int)) (by decide +kernel) rfl (Nat.le_of_ble_eq_true rfl) (fun _ _ => xfi) ?_
  intro E S hnm hret
  show xW E D vwCl 4 0 0 (cw ad cI cII cP n am al ch fr to wt nb M tch cu rch pa br gp P ++ X) [(0, .ref (ad 25)), (1, .int (nI i)), (2, .int (nI j)), (3, .int (nI ω))] 0 []
  have hb31 : ch + 1 < 2 ^ 31 := t31 hch ht
  have hMd : M i j = kM fr to wt am i j := hM i j (by omega) (by omega)
  have hMd2 : M j i = kM fr to wt am j i := hM j i (by omega) (by omega)
  have hbd : M i j ≤ 50000 := mOK.bd hA hM i j (by omega) (by omega)
  have hp : isP2 n (nI i) (nI j) := ⟨⟨nI_pos' (by omega), nI_lt hi (by omega)⟩, ⟨nI_pos' (by omega), nI_lt hj (by omega)⟩, fun q => hij (pl_inj (by omega) (by omega) q)⟩
  refine x_aload_n S dX5_arc_0 0 rfl rfl ?_
  refine x_get S 25 0 rfl rfl inC5 (by decide) (gC _ tw151) rfl rfl dX5_arc_1 ?_
  refine x_iload_n S dX5_arc_4 1 rfl rfl ?_
  refine x_iload_n S dX5_arc_5 2 rfl rfl ?_
  refine x_cVi (n := 2) S (c_hasPair (nI i) (nI j)) (gGV gC tw182 tw179 tw180 tw181 tw2) rfl (by decide +kernel) 0 rfl rfl rfl rfl (Nat.le_of_ble_eq_true rfl) dX5_arc_6 ⟨by decide, by decide⟩ ⟨Nat.le_of_ble_eq_true rfl, Nat.le_of_ble_eq_true rfl⟩ ?_
  refine x_if_neB (tgt := 14) S dX5_arc_9 (by decide) (fun h1 => ?_) (fun h1 => ?_)
  rotate_left
  · exact absurd hp h1
  refine x_iload_n S dX5_arc_14 3 rfl rfl ?_
  refine x_iconst (v := 1) S dX5_arc_15 rfl ?_
  refine x_icmp_lt (tgt := 26) S dX5_arc_16 (by decide) (fun h2 => ?_) (fun h2 => ?_)
  · exact absurd h2 (nI_nlt (b := 1) (by omega) (by omega))
  refine x_iload_n S dX5_arc_19 3 rfl rfl ?_
  refine x_sipush (v := 1000) S dX5_arc_20 (by decide) ?_
  refine x_icmp_le (tgt := 29) S dX5_arc_23 (by decide) (fun h3 => ?_) (fun h3 => ?_)
  rotate_left
  · exact absurd (nI_le (b := 1000) hw2 (by omega)) h3
  refine x_aload_n S dX5_arc_29 0 rfl rfl ?_
  refine x_get S 25 0 rfl rfl inC5 (by decide) (gC _ tw151) rfl rfl dX5_arc_30 ?_
  refine x_get S 0 6 rfl rfl inC2 (by decide) (gC _ tw43) rfl rfl dX5_arc_33 ?_
  refine x_bipush (v := 50) S dX5_arc_36 (by decide) ?_
  refine x_icmp_lt (tgt := 46) S dX5_arc_38 (by decide) (fun h4 => ?_) (fun h4 => ?_)
  rotate_left
  · exact absurd (nI_lt (b := 50) h50 (by omega)) h4
  refine x_aload_n S dX5_arc_46 0 rfl rfl ?_
  refine x_get S 25 0 rfl rfl inC5 (by decide) (gC _ tw151) rfl rfl dX5_arc_47 ?_
  refine x_iload_n S dX5_arc_50 1 rfl rfl ?_
  refine x_iload_n S dX5_arc_51 2 rfl rfl ?_
  refine x_iload_n S dX5_arc_52 3 rfl rfl ?_
  refine x_cVi (n := 3) S (c_addArc (by omega) (by omega) hij h50 rfl rfl (by omega)) (gGV gC tw190 tw187 tw188 tw189 tw2) rfl (by decide +kernel) 0 rfl rfl rfl rfl (Nat.le_of_ble_eq_true rfl) dX5_arc_53 ⟨by decide, by decide⟩ ⟨Nat.le_of_ble_eq_true rfl, Nat.le_of_ble_eq_true rfl⟩ ?_
  have hmn := mn_upd (am' := am + 1) (fr' := va_up fr am i) (to' := va_up to am j) (wt' := va_up wt am ω) (m1 := M i j + ω) (m2 := M j i + ω) hM hN (show i < 12 by omega) (show j < 12 by omega) hij (by rw [kM_add, if_pos (Or.inl ⟨rfl, rfl⟩), hMd]) (by rw [kM_add, if_pos (Or.inr ⟨rfl, rfl⟩), hMd2]) (fun x y hxy => by rw [kM_add, if_neg (fun q => hxy (q.elim (fun z => Or.inl ⟨z.1.symm, z.2.symm⟩) (fun z => Or.inr ⟨z.2.symm, z.1.symm⟩))), Nat.add_zero])
  exact x_retS hret ((ch + 1, uB nb i j (decide (0 < M i j + ω)), uM M i j (M i j + ω) (M j i + ω), tch, cu, rch, pa, br, gp, P)) (⟨⟨hn, by omega, fun k hk => (Nat.lt_or_ge k am).elim (fun q => by rw [va_up_ne _ _ (by omega), va_up_ne _ _ (by omega), va_up_ne _ _ (by omega)]; exact hA.2.2 k q) (fun q => by have e : k = am := (by omega); subst e; rw [va_up_self, va_up_self, va_up_self]; exact ⟨hi, hj, hij, hw2⟩)⟩, hmn.1, hmn.2, by rw [kLv_add (by omega), hal], (Nat.succ_le_succ hch), h0, hsT.up, fun q => absurd q (hsT.ne hb31), hsR.up, fun q => absurd q (hsR.ne hb31), hP.stale hb31⟩) (rfl) dX5_arc_56
set_option maxHeartbeats 4000000 in
set_option maxRecDepth 100000 in
theorem p_drop_no {t : Nat} (k : Int32) (hno : ¬ (0 ≤ k ∧ k < nI am ∧ 0 < wt k.toNatClampNeg)) (h : HS) (hI : cInv t n am al fr to wt h) : xMetS l yX5_drop wX5_drop (rD 16) D vwCl (tyC cI cII cP cZ) nwC [.ref (ad 25), .int k] (cwH ad cI cII cP n am al fr to wt h ++ X) (fun h' : HS => cInv t n am al fr to wt h') (fun h' => cwH ad cI cII cP n am al fr to wt h' ++ X) (fun _ => some (.int (-1))) := by
  obtain ⟨ch, nb, M, tch, cu, rch, pa, br, gp, P⟩ := h
  obtain ⟨hA, hM, hN, hal, hch, h0, hsT, hT, hsR, hR, hP⟩ := hI
  have hn := hA.1
  refine xMetS_of (cc := cX5_drop) (maxL := 2) (ret := (some .int)) (by decide +kernel) rfl (Nat.le_of_ble_eq_true rfl) (fun _ _ => xfi) ?_
  intro E S hnm hret
  show xW E D vwCl 2 0 0 (cw ad cI cII cP n am al ch fr to wt nb M tch cu rch pa br gp P ++ X) [(0, .ref (ad 25)), (1, .int k)] 0 []
  refine x_aload_n S dX5_drop_0 0 rfl rfl ?_
  refine x_get S 25 0 rfl rfl inC5 (by decide) (gC _ tw151) rfl rfl dX5_drop_1 ?_
  refine x_iload_n S dX5_drop_4 1 rfl rfl ?_
  refine x_cVi (n := 1) S (c_hasArc hA.2.1 (fun i hi => (hA.2.2 i hi).2.2.2)) (gGV gC tw206 tw203 tw204 tw205 tw2) rfl (by decide +kernel) 0 rfl rfl rfl rfl (Nat.le_of_ble_eq_true rfl) dX5_drop_5 ⟨by decide, by decide⟩ ⟨Nat.le_of_ble_eq_true rfl, Nat.le_of_ble_eq_true rfl⟩ ?_
  refine x_if_eqB (tgt := 22) S dX5_drop_8 (by decide) (fun h1 => ?_) (fun h1 => ?_)
  · refine x_iconst (v := -1) S dX5_drop_22 rfl ?_
    exact x_retS hret ((ch, nb, M, tch, cu, rch, pa, br, gp, P)) (⟨hA, hM, hN, hal, hch, h0, hsT, hT, hsR, hR, hP⟩) (rfl) dX5_drop_23
  exact absurd h1 hno
set_option maxHeartbeats 4000000 in
set_option maxRecDepth 100000 in
theorem p_drop_ok {t : Nat} {k : Nat} (ht : t ≤ 1000000) (hk : k < am) (hw : 0 < wt k) (h : HS) (hI : cInv t n am al fr to wt h) : xMetS l yX5_drop wX5_drop (rD 16) D vwCl (tyC cI cII cP cZ) nwC [.ref (ad 25), .int (nI k)] (cwH ad cI cII cP n am al fr to wt h ++ X) (fun h' : HS => cInv (t + 1) n am (al - 1) fr to (va_up wt k 0) h') (fun h' => cwH ad cI cII cP n am (al - 1) fr to (va_up wt k 0) h' ++ X) (fun _ => some (.int (nI (al - 1)))) := by
  obtain ⟨ch, nb, M, tch, cu, rch, pa, br, gp, P⟩ := h
  obtain ⟨hA, hM, hN, hal, hch, h0, hsT, hT, hsR, hR, hP⟩ := hI
  have hn := hA.1
  refine xMetS_of (cc := cX5_drop) (maxL := 2) (ret := (some .int)) (by decide +kernel) rfl (Nat.le_of_ble_eq_true rfl) (fun _ _ => xfi) ?_
  intro E S hnm hret
  show xW E D vwCl 2 0 0 (cw ad cI cII cP n am al ch fr to wt nb M tch cu rch pa br gp P ++ X) [(0, .ref (ad 25)), (1, .int (nI k))] 0 []
  have hb31 : ch + 1 < 2 ^ 31 := t31 hch ht
  have ham := hA.2.1
  obtain ⟨f1, f2, f3, f4⟩ := hA.2.2 k hk
  have hcl : (nI k).toNatClampNeg = k := nI_clamp (by omega)
  have hlv := kLv_del hk hw
  have hMd : M (fr k) (to k) = kM fr to wt am (fr k) (to k) := hM _ _ (by omega) (by omega)
  have hMd2 : M (to k) (fr k) = kM fr to wt am (to k) (fr k) := hM _ _ (by omega) (by omega)
  have hbd : M (fr k) (to k) ≤ 50000 := mOK.bd hA hM _ _ (by omega) (by omega)
  have e1 := kM_del (fr := fr) (to := to) (wt := wt) hk (fr k) (to k)
  have e2 := kM_del (fr := fr) (to := to) (wt := wt) hk (to k) (fr k)
  rw [if_pos (Or.inl ⟨rfl, rfl⟩)] at e1
  rw [if_pos (Or.inr ⟨rfl, rfl⟩)] at e2
  refine x_aload_n S dX5_drop_0 0 rfl rfl ?_
  refine x_get S 25 0 rfl rfl inC5 (by decide) (gC _ tw151) rfl rfl dX5_drop_1 ?_
  refine x_iload_n S dX5_drop_4 1 rfl rfl ?_
  refine x_cVi (n := 1) S (c_hasArc hA.2.1 (fun i hi => (hA.2.2 i hi).2.2.2)) (gGV gC tw206 tw203 tw204 tw205 tw2) rfl (by decide +kernel) 0 rfl rfl rfl rfl (Nat.le_of_ble_eq_true rfl) dX5_drop_5 ⟨by decide, by decide⟩ ⟨Nat.le_of_ble_eq_true rfl, Nat.le_of_ble_eq_true rfl⟩ ?_
  refine x_if_eqB (tgt := 22) S dX5_drop_8 (by decide) (fun h1 => ?_) (fun h1 => ?_)
  · exact absurd ⟨nI_pos' (by omega), nI_lt hk (by omega), by rw [hcl]; exact hw⟩ h1
  refine x_aload_n S dX5_drop_11 0 rfl rfl ?_
  refine x_get S 25 0 rfl rfl inC5 (by decide) (gC _ tw151) rfl rfl dX5_drop_12 ?_
  refine x_iload_n S dX5_drop_15 1 rfl rfl ?_
  refine x_cVi (n := 1) S (c_removeArc (m1 := kM fr to (va_up wt k 0) am (fr k) (to k)) (m2 := kM fr to (va_up wt k 0) am (to k) (fr k)) (by omega) rfl rfl rfl (by omega) (by omega) f3 (by omega) (by omega) (by omega) (by omega)) (gGV gC tw210 tw207 tw208 tw209 tw2) rfl (by decide +kernel) 0 rfl rfl rfl rfl (Nat.le_of_ble_eq_true rfl) dX5_drop_16 ⟨by decide, by decide⟩ ⟨Nat.le_of_ble_eq_true rfl, Nat.le_of_ble_eq_true rfl⟩ ?_
  have hmn := mn_upd (am' := am) (fr' := fr) (to' := to) (wt' := va_up wt k 0) (m1 := kM fr to (va_up wt k 0) am (fr k) (to k)) (m2 := kM fr to (va_up wt k 0) am (to k) (fr k)) hM hN (show fr k < 12 by omega) (show to k < 12 by omega) f3 rfl rfl (fun x y hxy => by have e := kM_del (fr := fr) (to := to) (wt := wt) hk x y; rw [if_neg (fun q => hxy (q.elim (fun z => Or.inl ⟨z.1.symm, z.2.symm⟩) (fun z => Or.inr ⟨z.2.symm, z.1.symm⟩)))] at e; exact e)
  refine x_goto (tgt := 23) S dX5_drop_19 (by decide) ?_
  exact x_retS hret ((ch + 1, uB nb (fr k) (to k) (decide (0 < kM fr to (va_up wt k 0) am (fr k) (to k))), uM M (fr k) (to k) (kM fr to (va_up wt k 0) am (fr k) (to k)) (kM fr to (va_up wt k 0) am (to k) (fr k)), tch, cu, rch, pa, br, gp, P)) (⟨⟨hn, ham, fun i hi => by obtain ⟨g1, g2, g3, g4⟩ := hA.2.2 i hi; refine ⟨g1, g2, g3, ?_⟩; exact wt_del g4⟩, hmn.1, hmn.2, by omega, (Nat.succ_le_succ hch), h0, hsT.up, fun q => absurd q (hsT.ne hb31), hsR.up, fun q => absurd q (hsR.ne hb31), hP.stale hb31⟩) (rfl) dX5_drop_23
set_option maxHeartbeats 4000000 in
set_option maxRecDepth 100000 in
theorem p_clear {t : Nat} (ht : t ≤ 1000000) (h : HS) (hI : cInv t n am al fr to wt h) : xMetS l yX5_clear wX5_clear (rD 16) D vwCl (tyC cI cII cP cZ) nwC [.ref (ad 25)] (cwH ad cI cII cP n am al fr to wt h ++ X) (fun h' : HS => cInv (t + 1) 0 0 0 fr to wt h') (fun h' => cwH ad cI cII cP 0 0 0 fr to wt h' ++ X) (fun _ => some (.int (nI n))) := by
  obtain ⟨ch, nb, M, tch, cu, rch, pa, br, gp, P⟩ := h
  obtain ⟨hA, hM, hN, hal, hch, h0, hsT, hT, hsR, hR, hP⟩ := hI
  have hn := hA.1
  refine xMetS_of (cc := cX5_clear) (maxL := 1) (ret := (some .int)) (by decide +kernel) rfl (Nat.le_of_ble_eq_true rfl) (fun _ _ => xfi) ?_
  intro E S hnm hret
  show xW E D vwCl 1 0 0 (cw ad cI cII cP n am al ch fr to wt nb M tch cu rch pa br gp P ++ X) [(0, .ref (ad 25))] 0 []
  have hb31 : ch + 1 < 2 ^ 31 := t31 hch ht
  refine x_aload_n S dX5_clear_0 0 rfl rfl ?_
  refine x_get S 25 0 rfl rfl inC5 (by decide) (gC _ tw151) rfl rfl dX5_clear_1 ?_
  refine x_cVi (n := 0) S (c_removeAll) (gGV gC tw218 tw215 tw216 tw217 tw2) rfl (by decide +kernel) 0 rfl rfl rfl rfl (Nat.le_of_ble_eq_true rfl) dX5_clear_4 ⟨by decide, by decide⟩ ⟨Nat.le_of_ble_eq_true rfl, Nat.le_of_ble_eq_true rfl⟩ ?_
  exact x_retS hret ((ch + 1, zN nb 12, zR M 12, tch, cu, rch, pa, br, gp, P)) (⟨⟨by omega, by omega, fun i hi => absurd hi (by omega)⟩, (fun a b ha hb => by show zR M 12 a b = 0; simp [zR, zN, ha, hb]), (fun a ha => by show zN nb 12 a = _; rw [kNb_0]; simp [zN, ha]), rfl, (Nat.succ_le_succ hch), h0, hsT.up, fun q => absurd q (hsT.ne hb31), hsR.up, fun q => absurd q (hsR.ne hb31), hP.stale hb31⟩) (rfl) dX5_clear_7
end CT4
