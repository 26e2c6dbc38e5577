/-! CutTrees: the calls, 2 -/
section CT3
theorem pRef_ok {n : Nat} {k : Int32} (hn : n ≤ 12) (h : ¬ pRef n k < 0) : ∃ j, j < 4 ∧ k = nI (j + 1) ∧ n ≤ 10 ∧ j + 1 ≤ n ∧ k.toNatClampNeg = j + 1 := by
  unfold pRef at h
  by_cases c1 : k < 1 ∨ 4 < k
  · rw [if_pos c1] at h; exact absurd (by decide) h
  · rw [if_neg c1] at h
    by_cases c2 : 10 < n
    · rw [if_pos c2] at h; exact absurd (by decide) h
    · rw [if_neg c2] at h
      by_cases c3 : nI n < k
      · rw [if_pos c3] at h; exact absurd (by decide) h
      · have c4 : 1 ≤ k := Int32.not_lt.mp (fun q => c1 (Or.inl q))
        have c5 : k ≤ 4 := Int32.not_lt.mp (fun q => c1 (Or.inr q))
        obtain ⟨x, hx, rfl⟩ := pl_of (x := k) (Int32.le_trans (by decide) c4)
        have d1 : 1 ≤ x := (nI_leI (a := 1) (by omega) hx).mp c4
        have d2 : x ≤ 4 := (nI_leI (b := 4) hx (by omega)).mp c5
        have d3 : x ≤ n := (nI_leI hx (by omega)).mp (Int32.not_lt.mp c3)
        exact ⟨x - 1, by omega, by rw [show x - 1 + 1 = x by omega], by omega, by omega, by rw [nI_clamp hx]; omega⟩
theorem paOK.of {n am ch : Nat} {fr to wt : Nat → Nat} {P : Nat → Int32 × Nat × (Nat → Nat) × (Nat → Nat)} {M : Nat → Nat → Nat} (hM : mOK am fr to wt M) (h : paOK n am ch fr to wt P) {j : Nat} (hj : j < 4) (hn : n ≤ 10) (hkn : j + 1 ≤ n) : (P j).1 = nI ch → (P j).2.1 = (kPR n (j + 1) M).1 ∧ ∀ u, u < n → (P j).2.2.2 u = (kPR n (j + 1) M).2 u := by
  rw [kPR_congr (M := M) (M' := kM fr to wt am) (fun v u hu hv => hM v u (by omega) (by omega))]
  exact fun q => (h j hj).2 q hn hkn
theorem paOK.put {n am ch : Nat} {fr to wt : Nat → Nat} {P : Nat → Int32 × Nat × (Nat → Nat) × (Nat → Nat)} {M : Nat → Nat → Nat} (hM : mOK am fr to wt M) (h : paOK n am ch fr to wt P) {j : Nat} (hn : n ≤ 10) (s1 s2 : Nat → Nat) (hs : ∀ u, u < n → s2 u = (kPR n (j + 1) M).2 u) : paOK n am ch fr to wt (va_up P j (nI ch, (kPR n (j + 1) M).1, s1, s2)) := by
  intro i hi
  by_cases e : i = j
  · subst e
    rw [va_up_self]
    have ec := kPR_congr (n := n) (k := i + 1) (M := M) (M' := kM fr to wt am) (fun v u hu hv => hM v u (by omega) (by omega))
    refine ⟨sB.self ch, fun _ _ _ => ?_⟩
    rw [ec] at hs ⊢
    exact ⟨rfl, hs⟩
  · rw [va_up_ne _ _ e]
    exact h i hi
theorem kSpr_pos {n s : Nat} (hn : n ≤ 12) (h1 : 1 ≤ kP s) (h2 : kP s < n) : 1 ≤ kSpr n s := by
  unfold kSpr
  exact Nat.mul_pos h1 (by omega)
theorem pop_zero : ∀ (w s : Nat), s < 2 ^ w → pn_pop w s = 0 → s = 0
  | 0, s, h, _ => by simpa using h
  | w + 1, s, h, e => by
    rw [Nat.pow_succ] at h
    have e : pn_pop w (s / 2) + s % 2 = 0 := e
    have := pop_zero w (s / 2) (by omega) (by omega)
    omega
theorem pop_pos (s : Nat) (h : s < 4096) (h2 : 2 ≤ s) : 1 ≤ kP s := Nat.pos_of_ne_zero (fun q => by
  have := pop_zero 12 s h q
  omega)
theorem pop_lt_ev : ∀ n, n < 13 → ∀ s, s < 2 ^ n → s % 2 = 0 → 1 ≤ n → kP s < n := by
  intro n hn s hs he h1
  have h2 : 2 ^ n = 2 * 2 ^ (n - 1) := p2_s h1
  have h3 : pn_pop 12 s = pn_pop 11 (s / 2) + s % 2 := rfl
  have h4 := pop_n 11 (n - 1) (s / 2) (by omega)
  show pn_pop 12 s < n
  omega
theorem kSp_ev (cf sp : Nat → Nat) : ∀ k, kSp cf sp k % 2 = 0
  | 0 => by show 2 % 2 = 0; rfl
  | k + 1 => by
    have ih := kSp_ev cf sp k
    simp only [kSp]
    split <;> omega
variable {l : Launch} {D : va_G} {ad : Nat → Nat} {cI cII cP cZ : ClassId} {n am al ch : Nat} {fr to wt nb : Nat → Nat} {M : Nat → Nat → Nat} {tch : Int32} {cu : Nat → Nat} {rch : Int32} {pa br gp : Nat → Nat} {P : Nat → Int32 × Nat × (Nat → Nat) × (Nat → Nat)} {X : va_W}
set_option maxHeartbeats 4000000 in
set_option maxRecDepth 100000 in
theorem p_parts {t : Nat} (k : Int32) (h : HS) (hI : cInv t n am al fr to wt h) : xMetS l yX5_parts wX5_parts (rD 16) D vwCl (tyC cI cII cP cZ) nwC [.ref (ad 25), .int k] (cwH ad cI cII cP n am al fr to wt h ++ X) (fun h' : HS => cInv t n am al fr to wt h') (fun h' => cwH ad cI cII cP n am al fr to wt h' ++ X) (fun _ => some (.int (sParts n am fr to wt k))) := by
  obtain ⟨ch, nb, M, tch, cu, rch, pa, br, gp, P⟩ := h
  obtain ⟨hA, hM, hN, hal, hch, h0, hsT, hT, hsR, hR, hP⟩ := hI
  have hn := hA.1
  refine xMetS_of (cc := cX5_parts) (maxL := 3) (ret := (some .int)) (by decide +kernel) rfl (Nat.le_of_ble_eq_true rfl) (fun _ _ => xfi) ?_
  intro E S hnm hret
  show xW E D vwCl 3 0 0 (cw ad cI cII cP n am al ch fr to wt nb M tch cu rch pa br gp P ++ X) [(0, .ref (ad 25)), (1, .int k)] 0 []
  refine x_aload_n S dX5_parts_0 0 rfl rfl ?_
  refine x_iload_n S dX5_parts_1 1 rfl rfl ?_
  refine x_cVi (n := 1) S (c_refusalOfParts k hn) (gGV gC tw377 tw374 tw376 ts9 tw1) rfl (by decide +kernel) 25 rfl rfl rfl rfl (Nat.le_of_ble_eq_true rfl) dX5_parts_2 ⟨by decide, by decide⟩ ⟨Nat.le_of_ble_eq_true rfl, Nat.le_of_ble_eq_true rfl⟩ ?_
  refine x_istore_n (lv' := [(2, .int _), (0, .ref _), (1, .int _)]) S dX5_parts_5 rfl (by decide) rfl ?_
  refine x_iload_n S dX5_parts_6 0 rfl rfl ?_
  refine x_if_ge (tgt := 14) S dX5_parts_7 (by decide) (fun h1 => ?_) (fun h1 => ?_)
  rotate_left
  · refine x_iload_n S dX5_parts_10 0 rfl rfl ?_
    refine x_goto (tgt := 22) S dX5_parts_11 (by decide) ?_
    exact x_retS hret ((ch, nb, M, tch, cu, rch, pa, br, gp, P)) (⟨hA, hM, hN, hal, hch, h0, hsT, hT, hsR, hR, hP⟩) ((if_pos (Int32.not_le.mp h1)).symm) dX5_parts_22
  obtain ⟨j, hj, e, hn10, hkn, f⟩ := pRef_ok hn (Int32.not_lt.mpr h1)
  subst e
  have ec := kPR_congr (n := n) (k := j + 1) (M := M) (M' := kM fr to wt am) (fun v u hu hv => hM v u (by omega) (by omega))
  refine x_aload_n S dX5_parts_14 1 rfl rfl ?_
  refine x_iload_n S dX5_parts_15 2 rfl rfl ?_
  refine x_cVaS (n := 1) S (c_freshParting hj hn10 hkn (mOK.bd hA hM) (paOK.of hM hP hj hn10 hkn)) (gGV gC tw381 tw378 tw380 ts10 tw1) rfl (by decide +kernel) 25 rfl rfl rfl rfl (Nat.le_of_ble_eq_true rfl) dX5_parts_16 ⟨by decide, by decide⟩ ⟨Nat.le_of_ble_eq_true rfl, Nat.le_of_ble_eq_true rfl⟩ (fun s hs => ?_)
  refine x_get S (27 + 3 * j) 4 (cw_p0 hj) rfl inC4 (by decide) (gC _ tw136) rfl rfl dX5_parts_19 ?_
  exact x_retS hret ((ch, nb, M, tch, cu, rch, pa, br, gp, va_up P j (nI ch, (kPR n (j + 1) M).1, s.1, s.2))) (⟨hA, hM, hN, hal, hch, h0, hsT, hT, hsR, hR, paOK.put hM hP hn10 s.1 s.2 hs⟩) ((by unfold sParts; rw [if_neg (Int32.not_lt.mpr h1), f, va_up_self, ec])) dX5_parts_22
set_option maxHeartbeats 4000000 in
set_option maxRecDepth 100000 in
theorem p_partOf {t : Nat} (k v : Int32) (h : HS) (hI : cInv t n am al fr to wt h) : xMetS l yX5_partOf wX5_partOf (rD 16) D vwCl (tyC cI cII cP cZ) nwC [.ref (ad 25), .int k, .int v] (cwH ad cI cII cP n am al fr to wt h ++ X) (fun h' : HS => cInv t n am al fr to wt h') (fun h' => cwH ad cI cII cP n am al fr to wt h' ++ X) (fun _ => some (.int (sPartOf n am fr to wt k v))) := by
  obtain ⟨ch, nb, M, tch, cu, rch, pa, br, gp, P⟩ := h
  obtain ⟨hA, hM, hN, hal, hch, h0, hsT, hT, hsR, hR, hP⟩ := hI
  have hn := hA.1
  refine xMetS_of (cc := cX5_partOf) (maxL := 4) (ret := (some .int)) (by decide +kernel) rfl (Nat.le_of_ble_eq_true rfl) (fun _ _ => xfi) ?_
  intro E S hnm hret
  show xW E D vwCl 4 0 0 (cw ad cI cII cP n am al ch fr to wt nb M tch cu rch pa br gp P ++ X) [(0, .ref (ad 25)), (1, .int k), (2, .int v)] 0 []
  refine x_aload_n S dX5_partOf_0 0 rfl rfl ?_
  refine x_get S 25 0 rfl rfl inC5 (by decide) (gC _ tw151) rfl rfl dX5_partOf_1 ?_
  refine x_iload_n S dX5_partOf_4 2 rfl rfl ?_
  refine x_cVi (n := 1) S (c_hasNode v) (gGV gC tw186 tw280 tw184 tw185 tw2) rfl (by decide +kernel) 0 rfl rfl rfl rfl (Nat.le_of_ble_eq_true rfl) dX5_partOf_5 ⟨by decide, by decide⟩ ⟨Nat.le_of_ble_eq_true rfl, Nat.le_of_ble_eq_true rfl⟩ ?_
  refine x_if_neB (tgt := 13) S dX5_partOf_8 (by decide) (fun h3 => ?_) (fun h3 => ?_)
  rotate_left
  · refine x_iconst (v := -1) S dX5_partOf_11 rfl ?_
    exact x_retS hret ((ch, nb, M, tch, cu, rch, pa, br, gp, P)) (⟨hA, hM, hN, hal, hch, h0, hsT, hT, hsR, hR, hP⟩) ((if_neg h3).symm) dX5_partOf_12
  obtain ⟨x, hx, ex, fx⟩ := isN_of hn h3
  refine x_aload_n S dX5_partOf_13 0 rfl rfl ?_
  refine x_iload_n S dX5_partOf_14 1 rfl rfl ?_
  refine x_cVi (n := 1) S (c_refusalOfParts k hn) (gGV gC tw377 tw374 tw376 ts9 tw1) rfl (by decide +kernel) 25 rfl rfl rfl rfl (Nat.le_of_ble_eq_true rfl) dX5_partOf_15 ⟨by decide, by decide⟩ ⟨Nat.le_of_ble_eq_true rfl, Nat.le_of_ble_eq_true rfl⟩ ?_
  refine x_istore_n (lv' := [(3, .int _), (0, .ref _), (1, .int _), (2, .int _)]) S dX5_partOf_18 rfl (by decide) rfl ?_
  refine x_iload_n S dX5_partOf_19 0 rfl rfl ?_
  refine x_if_ge (tgt := 27) S dX5_partOf_20 (by decide) (fun h1 => ?_) (fun h1 => ?_)
  rotate_left
  · refine x_iload_n S dX5_partOf_23 0 rfl rfl ?_
    refine x_goto (tgt := 37) S dX5_partOf_24 (by decide) ?_
    exact x_retS hret ((ch, nb, M, tch, cu, rch, pa, br, gp, P)) (⟨hA, hM, hN, hal, hch, h0, hsT, hT, hsR, hR, hP⟩) ((by unfold sPartOf; rw [if_pos h3, if_pos (Int32.not_le.mp h1)])) dX5_partOf_37
  obtain ⟨j, hj, e, hn10, hkn, f⟩ := pRef_ok hn (Int32.not_lt.mpr h1)
  subst e
  have ec := kPR_congr (n := n) (k := j + 1) (M := M) (M' := kM fr to wt am) (fun v u hu hv => hM v u (by omega) (by omega))
  refine x_aload_n S dX5_partOf_27 1 rfl rfl ?_
  refine x_iload_n S dX5_partOf_28 2 rfl rfl ?_
  refine x_cVaS (n := 1) S (c_freshParting hj hn10 hkn (mOK.bd hA hM) (paOK.of hM hP hj hn10 hkn)) (gGV gC tw381 tw378 tw380 ts10 tw1) rfl (by decide +kernel) 25 rfl rfl rfl rfl (Nat.le_of_ble_eq_true rfl) dX5_partOf_29 ⟨by decide, by decide⟩ ⟨Nat.le_of_ble_eq_true rfl, Nat.le_of_ble_eq_true rfl⟩ (fun s hs => ?_)
  refine x_get S (27 + 3 * j) 3 (cw_p0 hj) rfl inC4 (by decide) (gC _ tw134) rfl rfl dX5_partOf_32 ?_
  refine x_iload_n S dX5_partOf_35 3 rfl rfl ?_
  refine x_ialdN S (29 + 3 * j) 0 (x) (cw_p2 hj) rfl ex (by omega) (by decide) dX5_partOf_36 ?_
  exact x_retS hret ((ch, nb, M, tch, cu, rch, pa, br, gp, va_up P j (nI ch, (kPR n (j + 1) M).1, s.1, s.2))) (⟨hA, hM, hN, hal, hch, h0, hsT, hT, hsR, hR, paOK.put hM hP hn10 s.1 s.2 hs⟩) ((by unfold sPartOf; rw [if_pos h3, if_neg (Int32.not_lt.mpr h1), f, fx, va_up_self, hs x hx, ec])) dX5_partOf_37
set_option maxHeartbeats 4000000 in
set_option maxRecDepth 100000 in
theorem p_share {t : Nat} (q : Int32) (h : HS) (hI : cInv t n am al fr to wt h) : xMetS l yX5_share wX5_share (rD 16) D vwCl (tyC cI cII cP cZ) nwC [.ref (ad 25), .int q] (cwH ad cI cII cP n am al fr to wt h ++ X) (fun h' : HS => cInv t n am al fr to wt h') (fun h' => cwH ad cI cII cP n am al fr to wt h' ++ X) (fun _ => some (.int (sShare n am fr to wt q))) := by
  obtain ⟨ch, nb, M, tch, cu, rch, pa, br, gp, P⟩ := h
  obtain ⟨hA, hM, hN, hal, hch, h0, hsT, hT, hsR, hR, hP⟩ := hI
  have hn := hA.1
  refine xMetS_of (cc := cX5_share) (maxL := 6) (ret := (some .int)) (by decide +kernel) rfl (Nat.le_of_ble_eq_true rfl) (fun _ _ => xfi) ?_
  intro E S hnm hret
  show xW E D vwCl 6 0 0 (cw ad cI cII cP n am al ch fr to wt nb M tch cu rch pa br gp P ++ X) [(0, .ref (ad 25)), (1, .int q)] 0 []
  refine x_iload_n S dX5_share_0 1 rfl rfl ?_
  refine x_if_eq (tgt := 12) S dX5_share_1 (by decide) (fun h1 => ?_) (fun h1 => ?_)
  rotate_left
  · refine x_iload_n S dX5_share_4 1 rfl rfl ?_
    refine x_iconst (v := 1) S dX5_share_5 rfl ?_
    refine x_icmp_eq (tgt := 12) S dX5_share_6 (by decide) (fun h2 => ?_) (fun h2 => ?_)
    rotate_left
    · refine x_bipush (v := -2) S dX5_share_9 (by decide) ?_
      exact x_retS hret ((ch, nb, M, tch, cu, rch, pa, br, gp, P)) (⟨hA, hM, hN, hal, hch, h0, hsT, hT, hsR, hR, hP⟩) ((if_pos ⟨h1, h2⟩).symm) dX5_share_11
    have hq0 : ¬ q = 0 := h1
    have hqq : ¬ (q ≠ 0 ∧ q ≠ 1) := fun w => w.2 h2
    refine x_aload_n S dX5_share_12 0 rfl rfl ?_
    refine x_get S 25 0 rfl rfl inC5 (by decide) (gC _ tw151) rfl rfl dX5_share_13 ?_
    refine x_cVi (n := 0) S (c_hasSides hn) (gGV gC tw321 tw318 tw319 tw320 tw2) rfl (by decide +kernel) 0 rfl rfl rfl rfl (Nat.le_of_ble_eq_true rfl) dX5_share_16 ⟨by decide, by decide⟩ ⟨Nat.le_of_ble_eq_true rfl, Nat.le_of_ble_eq_true rfl⟩ ?_
    refine x_if_neB (tgt := 25) S dX5_share_19 (by decide) (fun h3 => ?_) (fun h3 => ?_)
    rotate_left
    · refine x_bipush (v := -3) S dX5_share_22 (by decide) ?_
      exact x_retS hret ((ch, nb, M, tch, cu, rch, pa, br, gp, P)) (⟨hA, hM, hN, hal, hch, h0, hsT, hT, hsR, hR, hP⟩) ((by unfold sShare; rw [if_neg hqq, if_neg h3])) dX5_share_24
    refine x_aload_n S dX5_share_25 0 rfl rfl ?_
    refine x_cVaS (n := 0) S (c_freshTable (by omega) hA hM h0 hT) (gGV gC tw242 tw239 tw241 ts1 tw1) rfl (by decide +kernel) 25 rfl rfl rfl rfl (Nat.le_of_ble_eq_true rfl) dX5_share_26 ⟨by decide, by decide⟩ ⟨Nat.le_of_ble_eq_true rfl, Nat.le_of_ble_eq_true rfl⟩ (fun c hc => ?_)
    refine x_cVi (n := 0) S (c_sparsestSide h3 (by omega) hA hc) (gGV gC tw410 tw407 tw408 tw409 tw3) rfl (by decide +kernel) 18 rfl rfl rfl rfl (Nat.le_of_ble_eq_true rfl) dX5_share_29 ⟨by decide, by decide⟩ ⟨Nat.le_of_ble_eq_true rfl, Nat.le_of_ble_eq_true rfl⟩ ?_
    obtain ⟨s, es⟩ : ∃ s, s = kSp (kC fr to wt am) (kSpr n) (2 ^ (n - 1) - 2) := ⟨_, rfl⟩
    rw [← es]
    have hp := p2_s (show 1 ≤ n by omega)
    have hp12 := pl_pow12 hn
    have hp2 : 2 ≤ 2 ^ (n - 1) := by have := Nat.pow_le_pow_right (n := 2) (by omega) (show 1 ≤ n - 1 by omega); omega
    have hsl := kSp_le (kC fr to wt am) (kSpr n) (2 ^ (n - 1) - 2)
    rw [← es] at hsl
    have hse := kSp_ev (kC fr to wt am) (kSpr n) (2 ^ (n - 1) - 2)
    rw [← es] at hse
    have hpn : kP s ≤ n := pop_n 12 n s (by omega)
    have hsp : 1 ≤ kSpr n s := kSpr_pos hn (pop_pos s (by omega) hsl.2) (pop_lt_ev n (by omega) s (by omega) hse (by omega))
    have hsb := kSpr_le (s := s) hn
    have hcb := hA.cf s
    refine x_istore_n (lv' := [(2, .int _), (0, .ref _), (1, .int _)]) S dX5_share_32 rfl (by decide) rfl ?_
    refine x_aload_n S dX5_share_33 1 rfl rfl ?_
    refine x_get S 25 1 rfl rfl inC5 (by decide) (gC _ tw152) rfl rfl dX5_share_34 ?_
    refine x_iload_n S dX5_share_37 0 rfl rfl ?_
    refine x_cVi (n := 1) S (c_cutAt (by omega) hA hc (by omega)) (gGV gC tw267 tw425 tw265 tw266 tw3) rfl (by decide +kernel) 18 rfl rfl rfl rfl (Nat.le_of_ble_eq_true rfl) dX5_share_38 ⟨by decide, by decide⟩ ⟨Nat.le_of_ble_eq_true rfl, Nat.le_of_ble_eq_true rfl⟩ ?_
    refine x_istore_n (lv' := [(3, .int _), (2, .int _), (0, .ref _), (1, .int _)]) S dX5_share_41 rfl (by decide) rfl ?_
    refine x_aload_n S dX5_share_42 2 rfl rfl ?_
    refine x_get S 25 0 rfl rfl inC5 (by decide) (gC _ tw151) rfl rfl dX5_share_43 ?_
    refine x_iload_n S dX5_share_46 1 rfl rfl ?_
    refine x_cVi (n := 1) S (c_spread hn (by omega) hpn) (gGV gC tw414 tw426 tw412 tw413 tw2) rfl (by decide +kernel) 0 rfl rfl rfl rfl (Nat.le_of_ble_eq_true rfl) dX5_share_47 ⟨by decide, by decide⟩ ⟨Nat.le_of_ble_eq_true rfl, Nat.le_of_ble_eq_true rfl⟩ ?_
    refine x_top (nI (kSpr n s)) rfl ?_
    refine x_istore (lv' := [(4, .int _), (3, .int _), (2, .int _), (0, .ref _), (1, .int _)]) S dX5_share_50 (by decide) rfl ?_
    refine x_iload_n S dX5_share_52 1 rfl rfl ?_
    refine x_iload S dX5_share_53 0 rfl ?_
    have hg : 0 < Nat.gcd (kC fr to wt am s) (kSpr n s) := Nat.gcd_pos_of_pos_right _ hsp
    have hgl : Nat.gcd (kC fr to wt am s) (kSpr n s) ≤ kSpr n s := Nat.le_of_dvd hsp (Nat.gcd_dvd_right _ _)
    refine x_cSi (n := 2) S (c_greatestDivisor (b := kSpr n s) (by omega) (by omega) hsp) (gGS gC tw429 tw427 tw428 tw1) rfl (by decide +kernel) rfl rfl (Nat.le_of_ble_eq_true rfl) dX5_share_55 ⟨by decide, by decide⟩ ⟨Nat.le_of_ble_eq_true rfl, Nat.le_of_ble_eq_true rfl⟩ ?_
    refine x_istore (lv' := [(5, .int _), (4, .int _), (3, .int _), (2, .int _), (0, .ref _), (1, .int _)]) S dX5_share_58 (by decide) rfl ?_
    refine x_iload_n S dX5_share_60 5 rfl rfl ?_
    refine x_if_ne (tgt := 68) S dX5_share_61 (by decide) (fun h4 => ?_) (fun h4 => ?_)
    rotate_left
    · exact absurd h4 hq0
    refine x_iload S dX5_share_68 1 rfl ?_
    refine x_iload S dX5_share_70 0 rfl ?_
    refine x_idiv S dX5_share_72 (nI_ne0 hg (by omega)) ?_
    exact x_retS hret ((ch, nb, M, nI ch, c, rch, pa, br, gp, P)) (⟨hA, hM, hN, hal, hch, hc.zero, sB.self ch, fun _ => hc, hsR, hR, hP⟩) ((by unfold sShare; rw [if_neg hqq, if_pos h3, if_neg hq0, ← es, pk_div (by omega) hg (by omega)])) dX5_share_73
  have hqq : ¬ (q ≠ 0 ∧ q ≠ 1) := fun w => w.1 h1
  refine x_aload_n S dX5_share_12 0 rfl rfl ?_
  refine x_get S 25 0 rfl rfl inC5 (by decide) (gC _ tw151) rfl rfl dX5_share_13 ?_
  refine x_cVi (n := 0) S (c_hasSides hn) (gGV gC tw321 tw318 tw319 tw320 tw2) rfl (by decide +kernel) 0 rfl rfl rfl rfl (Nat.le_of_ble_eq_true rfl) dX5_share_16 ⟨by decide, by decide⟩ ⟨Nat.le_of_ble_eq_true rfl, Nat.le_of_ble_eq_true rfl⟩ ?_
  refine x_if_neB (tgt := 25) S dX5_share_19 (by decide) (fun h3 => ?_) (fun h3 => ?_)
  rotate_left
  · refine x_bipush (v := -3) S dX5_share_22 (by decide) ?_
    exact x_retS hret ((ch, nb, M, tch, cu, rch, pa, br, gp, P)) (⟨hA, hM, hN, hal, hch, h0, hsT, hT, hsR, hR, hP⟩) ((by unfold sShare; rw [if_neg hqq, if_neg h3])) dX5_share_24
  refine x_aload_n S dX5_share_25 0 rfl rfl ?_
  refine x_cVaS (n := 0) S (c_freshTable (by omega) hA hM h0 hT) (gGV gC tw242 tw239 tw241 ts1 tw1) rfl (by decide +kernel) 25 rfl rfl rfl rfl (Nat.le_of_ble_eq_true rfl) dX5_share_26 ⟨by decide, by decide⟩ ⟨Nat.le_of_ble_eq_true rfl, Nat.le_of_ble_eq_true rfl⟩ (fun c hc => ?_)
  refine x_cVi (n := 0) S (c_sparsestSide h3 (by omega) hA hc) (gGV gC tw410 tw407 tw408 tw409 tw3) rfl (by decide +kernel) 18 rfl rfl rfl rfl (Nat.le_of_ble_eq_true rfl) dX5_share_29 ⟨by decide, by decide⟩ ⟨Nat.le_of_ble_eq_true rfl, Nat.le_of_ble_eq_true rfl⟩ ?_
  obtain ⟨s, es⟩ : ∃ s, s = kSp (kC fr to wt am) (kSpr n) (2 ^ (n - 1) - 2) := ⟨_, rfl⟩
  rw [← es]
  have hp := p2_s (show 1 ≤ n by omega)
  have hp12 := pl_pow12 hn
  have hp2 : 2 ≤ 2 ^ (n - 1) := by have := Nat.pow_le_pow_right (n := 2) (by omega) (show 1 ≤ n - 1 by omega); omega
  have hsl := kSp_le (kC fr to wt am) (kSpr n) (2 ^ (n - 1) - 2)
  rw [← es] at hsl
  have hse := kSp_ev (kC fr to wt am) (kSpr n) (2 ^ (n - 1) - 2)
  rw [← es] at hse
  have hpn : kP s ≤ n := pop_n 12 n s (by omega)
  have hsp : 1 ≤ kSpr n s := kSpr_pos hn (pop_pos s (by omega) hsl.2) (pop_lt_ev n (by omega) s (by omega) hse (by omega))
  have hsb := kSpr_le (s := s) hn
  have hcb := hA.cf s
  refine x_istore_n (lv' := [(2, .int _), (0, .ref _), (1, .int _)]) S dX5_share_32 rfl (by decide) rfl ?_
  refine x_aload_n S dX5_share_33 1 rfl rfl ?_
  refine x_get S 25 1 rfl rfl inC5 (by decide) (gC _ tw152) rfl rfl dX5_share_34 ?_
  refine x_iload_n S dX5_share_37 0 rfl rfl ?_
  refine x_cVi (n := 1) S (c_cutAt (by omega) hA hc (by omega)) (gGV gC tw267 tw425 tw265 tw266 tw3) rfl (by decide +kernel) 18 rfl rfl rfl rfl (Nat.le_of_ble_eq_true rfl) dX5_share_38 ⟨by decide, by decide⟩ ⟨Nat.le_of_ble_eq_true rfl, Nat.le_of_ble_eq_true rfl⟩ ?_
  refine x_istore_n (lv' := [(3, .int _), (2, .int _), (0, .ref _), (1, .int _)]) S dX5_share_41 rfl (by decide) rfl ?_
  refine x_aload_n S dX5_share_42 2 rfl rfl ?_
  refine x_get S 25 0 rfl rfl inC5 (by decide) (gC _ tw151) rfl rfl dX5_share_43 ?_
  refine x_iload_n S dX5_share_46 1 rfl rfl ?_
  refine x_cVi (n := 1) S (c_spread hn (by omega) hpn) (gGV gC tw414 tw426 tw412 tw413 tw2) rfl (by decide +kernel) 0 rfl rfl rfl rfl (Nat.le_of_ble_eq_true rfl) dX5_share_47 ⟨by decide, by decide⟩ ⟨Nat.le_of_ble_eq_true rfl, Nat.le_of_ble_eq_true rfl⟩ ?_
  refine x_top (nI (kSpr n s)) rfl ?_
  refine x_istore (lv' := [(4, .int _), (3, .int _), (2, .int _), (0, .ref _), (1, .int _)]) S dX5_share_50 (by decide) rfl ?_
  refine x_iload_n S dX5_share_52 1 rfl rfl ?_
  refine x_iload S dX5_share_53 0 rfl ?_
  have hg : 0 < Nat.gcd (kC fr to wt am s) (kSpr n s) := Nat.gcd_pos_of_pos_right _ hsp
  have hgl : Nat.gcd (kC fr to wt am s) (kSpr n s) ≤ kSpr n s := Nat.le_of_dvd hsp (Nat.gcd_dvd_right _ _)
  refine x_cSi (n := 2) S (c_greatestDivisor (b := kSpr n s) (by omega) (by omega) hsp) (gGS gC tw429 tw427 tw428 tw1) rfl (by decide +kernel) rfl rfl (Nat.le_of_ble_eq_true rfl) dX5_share_55 ⟨by decide, by decide⟩ ⟨Nat.le_of_ble_eq_true rfl, Nat.le_of_ble_eq_true rfl⟩ ?_
  refine x_istore (lv' := [(5, .int _), (4, .int _), (3, .int _), (2, .int _), (0, .ref _), (1, .int _)]) S dX5_share_58 (by decide) rfl ?_
  refine x_iload_n S dX5_share_60 5 rfl rfl ?_
  refine x_if_ne (tgt := 68) S dX5_share_61 (by decide) (fun h4 => ?_) (fun h4 => ?_)
  · exact absurd h1 h4
  refine x_iload_n S dX5_share_64 2 rfl rfl ?_
  refine x_goto (tgt := 70) S dX5_share_65 (by decide) ?_
  refine x_iload S dX5_share_70 0 rfl ?_
  refine x_idiv S dX5_share_72 (nI_ne0 hg (by omega)) ?_
  exact x_retS hret ((ch, nb, M, nI ch, c, rch, pa, br, gp, P)) (⟨hA, hM, hN, hal, hch, hc.zero, sB.self ch, fun _ => hc, hsR, hR, hP⟩) ((by unfold sShare; rw [if_neg hqq, if_pos h3, if_pos h1, ← es, pk_div (by omega) hg (by omega)])) dX5_share_73
set_option maxHeartbeats 4000000 in
set_option maxRecDepth 100000 in
theorem p_barSet {t : Nat} (a b : Int32) (h : HS) (hI : cInv t n am al fr to wt h) : xMetS l yX5_barSet wX5_barSet (rD 16) D vwCl (tyC cI cII cP cZ) nwC [.ref (ad 25), .int a, .int b] (cwH ad cI cII cP n am al fr to wt h ++ X) (fun h' : HS => cInv t n am al fr to wt h') (fun h' => cwH ad cI cII cP n am al fr to wt h' ++ X) (fun _ => some (.int (sBarSet n am fr to wt a b))) := by
  obtain ⟨ch, nb, M, tch, cu, rch, pa, br, gp, P⟩ := h
  obtain ⟨hA, hM, hN, hal, hch, h0, hsT, hT, hsR, hR, hP⟩ := hI
  have hn := hA.1
  refine xMetS_of (cc := cX5_barSet) (maxL := 3) (ret := (some .int)) (by decide +kernel) rfl (Nat.le_of_ble_eq_true rfl) (fun _ _ => xfi) ?_
  intro E S hnm hret
  show xW E D vwCl 3 0 0 (cw ad cI cII cP n am al ch fr to wt nb M tch cu rch pa br gp P ++ X) [(0, .ref (ad 25)), (1, .int a), (2, .int b)] 0 []
  refine x_aload_n S dX5_barSet_0 0 rfl rfl ?_
  refine x_get S 25 0 rfl rfl inC5 (by decide) (gC _ tw151) rfl rfl dX5_barSet_1 ?_
  refine x_iload_n S dX5_barSet_4 1 rfl rfl ?_
  refine x_iload_n S dX5_barSet_5 2 rfl rfl ?_
  refine x_cVi (n := 2) S (c_hasPair a b) (gGV gC tw182 tw179 tw180 tw181 tw2) rfl (by decide +kernel) 0 rfl rfl rfl rfl (Nat.le_of_ble_eq_true rfl) dX5_barSet_6 ⟨by decide, by decide⟩ ⟨Nat.le_of_ble_eq_true rfl, Nat.le_of_ble_eq_true rfl⟩ ?_
  refine x_if_neB (tgt := 14) S dX5_barSet_9 (by decide) (fun h1 => ?_) (fun h1 => ?_)
  rotate_left
  · refine x_iconst (v := -1) S dX5_barSet_12 rfl ?_
    exact x_retS hret ((ch, nb, M, tch, cu, rch, pa, br, gp, P)) (⟨hA, hM, hN, hal, hch, h0, hsT, hT, hsR, hR, hP⟩) ((if_neg h1).symm) dX5_barSet_13
  obtain ⟨i, j, hi, hj, hij, rfl, rfl, f1, f2⟩ := isP2_of hn h1
  have hbd : M i j ≤ 50000 := mOK.bd hA hM i j (by omega) (by omega)
  refine x_aload_n S dX5_barSet_14 0 rfl rfl ?_
  refine x_get S 25 0 rfl rfl inC5 (by decide) (gC _ tw151) rfl rfl dX5_barSet_15 ?_
  refine x_iload_n S dX5_barSet_18 1 rfl rfl ?_
  refine x_iload_n S dX5_barSet_19 2 rfl rfl ?_
  refine x_cVi (n := 2) S (c_areJoined (by omega) (by omega) (by omega)) (gGV gC tw198 tw438 tw196 tw197 tw2) rfl (by decide +kernel) 0 rfl rfl rfl rfl (Nat.le_of_ble_eq_true rfl) dX5_barSet_20 ⟨by decide, by decide⟩ ⟨Nat.le_of_ble_eq_true rfl, Nat.le_of_ble_eq_true rfl⟩ ?_
  have em : M i j = kM fr to wt am i j := hM i j (by omega) (by omega)
  refine x_if_eqB (tgt := 31) S dX5_barSet_23 (by decide) (fun h2 => ?_) (fun h2 => ?_)
  rotate_left
  · refine x_bipush (v := -3) S dX5_barSet_26 (by decide) ?_
    refine x_goto (tgt := 40) S dX5_barSet_28 (by decide) ?_
    exact x_retS hret ((ch, nb, M, tch, cu, rch, pa, br, gp, P)) (⟨hA, hM, hN, hal, hch, h0, hsT, hT, hsR, hR, hP⟩) ((by unfold sBarSet; rw [if_pos h1, f1, f2, if_pos (by rw [← em]; exact h2)])) dX5_barSet_40
  refine x_aload_n S dX5_barSet_31 0 rfl rfl ?_
  refine x_get S 25 0 rfl rfl inC5 (by decide) (gC _ tw151) rfl rfl dX5_barSet_32 ?_
  refine x_iload_n S dX5_barSet_35 1 rfl rfl ?_
  refine x_iload_n S dX5_barSet_36 2 rfl rfl ?_
  refine x_cVi (n := 2) S (c_fewestBars hn hi hj hij) (gGV gC tw442 tw439 tw440 tw441 tw2) rfl (by decide +kernel) 0 rfl rfl rfl rfl (Nat.le_of_ble_eq_true rfl) dX5_barSet_37 ⟨by decide, by decide⟩ ⟨Nat.le_of_ble_eq_true rfl, Nat.le_of_ble_eq_true rfl⟩ ?_
  exact x_retS hret ((ch, nb, M, tch, cu, rch, pa, br, gp, P)) (⟨hA, hM, hN, hal, hch, h0, hsT, hT, hsR, hR, hP⟩) ((by unfold sBarSet; rw [if_pos h1, f1, f2, if_neg (by rw [← em]; exact h2), kFB_congr (fun v hv => hN v (by omega))])) dX5_barSet_40
set_option maxHeartbeats 4000000 in
set_option maxRecDepth 100000 in
theorem p_barSet15 {t : Nat} (a b : Int32) (h : HS) (hI : cInv t n am al fr to wt h) : xMetS l yX5_barSet wX5_barSet (rD 15) D vwCl (tyC cI cII cP cZ) nwC [.ref (ad 25), .int a, .int b] (cwH ad cI cII cP n am al fr to wt h ++ X) (fun h' : HS => cInv t n am al fr to wt h') (fun h' => cwH ad cI cII cP n am al fr to wt h' ++ X) (fun _ => some (.int (sBarSet n am fr to wt a b))) := by
  obtain ⟨ch, nb, M, tch, cu, rch, pa, br, gp, P⟩ := h
  obtain ⟨hA, hM, hN, hal, hch, h0, hsT, hT, hsR, hR, hP⟩ := hI
  have hn := hA.1
  refine xMetS_of (cc := cX5_barSet) (maxL := 3) (ret := (some .int)) (by decide +kernel) rfl (Nat.le_of_ble_eq_true rfl) (fun _ _ => xfi) ?_
  intro E S hnm hret
  show xW E D vwCl 3 0 0 (cw ad cI cII cP n am al ch fr to wt nb M tch cu rch pa br gp P ++ X) [(0, .ref (ad 25)), (1, .int a), (2, .int b)] 0 []
  refine x_aload_n S dX5_barSet_0 0 rfl rfl ?_
  refine x_get S 25 0 rfl rfl inC5 (by decide) (gC _ tw151) rfl rfl dX5_barSet_1 ?_
  refine x_iload_n S dX5_barSet_4 1 rfl rfl ?_
  refine x_iload_n S dX5_barSet_5 2 rfl rfl ?_
  refine x_cVi (n := 2) S (c_hasPair a b) (gGV gC tw182 tw179 tw180 tw181 tw2) rfl (by decide +kernel) 0 rfl rfl rfl rfl (Nat.le_of_ble_eq_true rfl) dX5_barSet_6 ⟨by decide, by decide⟩ ⟨Nat.le_of_ble_eq_true rfl, Nat.le_of_ble_eq_true rfl⟩ ?_
  refine x_if_neB (tgt := 14) S dX5_barSet_9 (by decide) (fun h1 => ?_) (fun h1 => ?_)
  rotate_left
  · refine x_iconst (v := -1) S dX5_barSet_12 rfl ?_
    exact x_retS hret ((ch, nb, M, tch, cu, rch, pa, br, gp, P)) (⟨hA, hM, hN, hal, hch, h0, hsT, hT, hsR, hR, hP⟩) ((if_neg h1).symm) dX5_barSet_13
  obtain ⟨i, j, hi, hj, hij, rfl, rfl, f1, f2⟩ := isP2_of hn h1
  have hbd : M i j ≤ 50000 := mOK.bd hA hM i j (by omega) (by omega)
  refine x_aload_n S dX5_barSet_14 0 rfl rfl ?_
  refine x_get S 25 0 rfl rfl inC5 (by decide) (gC _ tw151) rfl rfl dX5_barSet_15 ?_
  refine x_iload_n S dX5_barSet_18 1 rfl rfl ?_
  refine x_iload_n S dX5_barSet_19 2 rfl rfl ?_
  refine x_cVi (n := 2) S (c_areJoined (by omega) (by omega) (by omega)) (gGV gC tw198 tw438 tw196 tw197 tw2) rfl (by decide +kernel) 0 rfl rfl rfl rfl (Nat.le_of_ble_eq_true rfl) dX5_barSet_20 ⟨by decide, by decide⟩ ⟨Nat.le_of_ble_eq_true rfl, Nat.le_of_ble_eq_true rfl⟩ ?_
  have em : M i j = kM fr to wt am i j := hM i j (by omega) (by omega)
  refine x_if_eqB (tgt := 31) S dX5_barSet_23 (by decide) (fun h2 => ?_) (fun h2 => ?_)
  rotate_left
  · refine x_bipush (v := -3) S dX5_barSet_26 (by decide) ?_
    refine x_goto (tgt := 40) S dX5_barSet_28 (by decide) ?_
    exact x_retS hret ((ch, nb, M, tch, cu, rch, pa, br, gp, P)) (⟨hA, hM, hN, hal, hch, h0, hsT, hT, hsR, hR, hP⟩) ((by unfold sBarSet; rw [if_pos h1, f1, f2, if_pos (by rw [← em]; exact h2)])) dX5_barSet_40
  refine x_aload_n S dX5_barSet_31 0 rfl rfl ?_
  refine x_get S 25 0 rfl rfl inC5 (by decide) (gC _ tw151) rfl rfl dX5_barSet_32 ?_
  refine x_iload_n S dX5_barSet_35 1 rfl rfl ?_
  refine x_iload_n S dX5_barSet_36 2 rfl rfl ?_
  refine x_cVi (n := 2) S (c_fewestBars hn hi hj hij) (gGV gC tw442 tw439 tw440 tw441 tw2) rfl (by decide +kernel) 0 rfl rfl rfl rfl (Nat.le_of_ble_eq_true rfl) dX5_barSet_37 ⟨by decide, by decide⟩ ⟨Nat.le_of_ble_eq_true rfl, Nat.le_of_ble_eq_true rfl⟩ ?_
  exact x_retS hret ((ch, nb, M, tch, cu, rch, pa, br, gp, P)) (⟨hA, hM, hN, hal, hch, h0, hsT, hT, hsR, hR, hP⟩) ((by unfold sBarSet; rw [if_pos h1, f1, f2, if_neg (by rw [← em]; exact h2), kFB_congr (fun v hv => hN v (by omega))])) dX5_barSet_40
set_option maxHeartbeats 4000000 in
set_option maxRecDepth 100000 in
theorem p_bars {t : Nat} (a b : Int32) (h : HS) (hI : cInv t n am al fr to wt h) : xMetS l yX5_bars wX5_bars (rD 16) D vwCl (tyC cI cII cP cZ) nwC [.ref (ad 25), .int a, .int b] (cwH ad cI cII cP n am al fr to wt h ++ X) (fun h' : HS => cInv t n am al fr to wt h') (fun h' => cwH ad cI cII cP n am al fr to wt h' ++ X) (fun _ => some (.int (sBars n am fr to wt a b))) := by
  obtain ⟨ch, nb, M, tch, cu, rch, pa, br, gp, P⟩ := h
  obtain ⟨hA, hM, hN, hal, hch, h0, hsT, hT, hsR, hR, hP⟩ := hI
  have hn := hA.1
  refine xMetS_of (cc := cX5_bars) (maxL := 4) (ret := (some .int)) (by decide +kernel) rfl (Nat.le_of_ble_eq_true rfl) (fun _ _ => xfi) ?_
  intro E S hnm hret
  show xW E D vwCl 4 0 0 (cw ad cI cII cP n am al ch fr to wt nb M tch cu rch pa br gp P ++ X) [(0, .ref (ad 25)), (1, .int a), (2, .int b)] 0 []
  refine x_aload_n S dX5_bars_0 0 rfl rfl ?_
  refine x_iload_n S dX5_bars_1 1 rfl rfl ?_
  refine x_iload_n S dX5_bars_2 2 rfl rfl ?_
  refine x_cViS (n := 2) S (p_barSet15 a b (ch, nb, M, tch, cu, rch, pa, br, gp, P) ⟨hA, hM, hN, hal, hch, h0, hsT, hT, hsR, hR, hP⟩) (gGV gC tw437 tw434 tw435 tw436 tw1) rfl (by decide +kernel) 25 rfl rfl rfl rfl (Nat.le_of_ble_eq_true rfl) dX5_bars_3 ⟨by decide, by decide⟩ ⟨Nat.le_of_ble_eq_true rfl, Nat.le_of_ble_eq_true rfl⟩ (fun h' hI' => ?_)
  obtain ⟨ch, nb, M, tch, cu, rch, pa, br, gp, P⟩ := h'
  show xW E D vwCl 4 0 0 (cw ad cI cII cP n am al ch fr to wt nb M tch cu rch pa br gp P ++ X) _ _ _
  by_cases h1 : isP2 n a b
  · obtain ⟨i, j, hi, hj, hij, rfl, rfl, f1, f2⟩ := isP2_of hn h1
    have hv : sBarSet n am fr to wt (nI i) (nI j) = if 0 < kM fr to wt am i j then -3 else nI (kFB (kNb fr to wt am) n i j (2 ^ (n - 2))) := by unfold sBarSet; rw [if_pos h1, f1, f2]
    rw [hv]
    have hv2 : sBars n am fr to wt (nI i) (nI j) = if 0 < kM fr to wt am i j then -3 else nI (kP (kFB (kNb fr to wt am) n i j (2 ^ (n - 2)))) := by unfold sBars; rw [if_pos h1, f1, f2]
    have hF := kFB_lt (nb := kNb fr to wt am) (a := i) (b := j) hn (2 ^ (n - 2))
    by_cases h2 : 0 < kM fr to wt am i j
    · rw [if_pos h2]
      rw [if_pos h2] at hv2
      refine x_istore_n (lv' := [(3, .int _), (0, .ref _), (1, .int _), (2, .int _)]) S dX5_bars_6 rfl (by decide) rfl ?_
      refine x_iload_n S dX5_bars_7 0 rfl rfl ?_
      refine x_if_ge (tgt := 15) S dX5_bars_8 (by decide) (fun h3 => ?_) (fun h3 => ?_)
      rotate_left
      · refine x_iload_n S dX5_bars_11 0 rfl rfl ?_
        refine x_goto (tgt := 19) S dX5_bars_12 (by decide) ?_
        exact x_retS hret ((ch, nb, M, tch, cu, rch, pa, br, gp, P)) (hI') (hv2.symm) dX5_bars_19
      exact absurd h3 (by decide)
    · rw [if_neg h2]
      rw [if_neg h2] at hv2
      refine x_istore_n (lv' := [(3, .int _), (0, .ref _), (1, .int _), (2, .int _)]) S dX5_bars_6 rfl (by decide) rfl ?_
      refine x_iload_n S dX5_bars_7 0 rfl rfl ?_
      refine x_if_ge (tgt := 15) S dX5_bars_8 (by decide) (fun h3 => ?_) (fun h3 => ?_)
      · refine x_iload_n S dX5_bars_15 0 rfl rfl ?_
        refine x_cJi (n := 1) S (c_bitCount hF) (gG gC tw417) rfl (gC _ tw448) (gC _ tw9) (gC _ tw416) (by decide +kernel) rfl rfl (Nat.le_of_ble_eq_true rfl) dX5_bars_16 ⟨by decide, by decide⟩ ⟨Nat.le_of_ble_eq_true rfl, Nat.le_of_ble_eq_true rfl⟩ ?_
        exact x_retS hret ((ch, nb, M, tch, cu, rch, pa, br, gp, P)) (hI') (hv2.symm) dX5_bars_19
      exact absurd (nI_pos' (by omega)) h3
  · have hv : sBarSet n am fr to wt a b = -1 := if_neg h1
    have hv2 : sBars n am fr to wt a b = -1 := if_neg h1
    rw [hv]
    refine x_istore_n (lv' := [(3, .int _), (0, .ref _), (1, .int _), (2, .int _)]) S dX5_bars_6 rfl (by decide) rfl ?_
    refine x_iload_n S dX5_bars_7 0 rfl rfl ?_
    refine x_if_ge (tgt := 15) S dX5_bars_8 (by decide) (fun h3 => ?_) (fun h3 => ?_)
    rotate_left
    · refine x_iload_n S dX5_bars_11 0 rfl rfl ?_
      refine x_goto (tgt := 19) S dX5_bars_12 (by decide) ?_
      exact x_retS hret ((ch, nb, M, tch, cu, rch, pa, br, gp, P)) (hI') (hv2.symm) dX5_bars_19
    exact absurd h3 (by decide)
set_option maxHeartbeats 4000000 in
set_option maxRecDepth 100000 in
theorem p_without {t : Nat} (s : Int32) (h : HS) (hI : cInv t n am al fr to wt h) : xMetS l yX5_without wX5_without (rD 16) D vwCl (tyC cI cII cP cZ) nwC [.ref (ad 25), .int s] (cwH ad cI cII cP n am al fr to wt h ++ X) (fun h' : HS => cInv t n am al fr to wt h') (fun h' => cwH ad cI cII cP n am al fr to wt h' ++ X) (fun _ => some (.int (sWithout n am fr to wt s))) := by
  obtain ⟨ch, nb, M, tch, cu, rch, pa, br, gp, P⟩ := h
  obtain ⟨hA, hM, hN, hal, hch, h0, hsT, hT, hsR, hR, hP⟩ := hI
  have hn := hA.1
  refine xMetS_of (cc := cX5_without) (maxL := 2) (ret := (some .int)) (by decide +kernel) rfl (Nat.le_of_ble_eq_true rfl) (fun _ _ => xfi) ?_
  intro E S hnm hret
  show xW E D vwCl 2 0 0 (cw ad cI cII cP n am al ch fr to wt nb M tch cu rch pa br gp P ++ X) [(0, .ref (ad 25)), (1, .int s)] 0 []
  refine x_aload_n S dX5_without_0 0 rfl rfl ?_
  refine x_get S 25 0 rfl rfl inC5 (by decide) (gC _ tw151) rfl rfl dX5_without_1 ?_
  refine x_iload_n S dX5_without_4 1 rfl rfl ?_
  refine x_cVi (n := 1) S (c_hasSet hn s) (gGV gC tw226 tw223 tw224 tw225 tw2) rfl (by decide +kernel) 0 rfl rfl rfl rfl (Nat.le_of_ble_eq_true rfl) dX5_without_5 ⟨by decide, by decide⟩ ⟨Nat.le_of_ble_eq_true rfl, Nat.le_of_ble_eq_true rfl⟩ ?_
  refine x_if_eqB (tgt := 32) S dX5_without_8 (by decide) (fun h1 => ?_) (fun h1 => ?_)
  · refine x_bipush (v := -2) S dX5_without_32 (by decide) ?_
    exact x_retS hret ((ch, nb, M, tch, cu, rch, pa, br, gp, P)) (⟨hA, hM, hN, hal, hch, h0, hsT, hT, hsR, hR, hP⟩) ((if_neg h1).symm) dX5_without_34
  obtain ⟨j, hj, e, f⟩ := set_of hn h1
  have hp := pl_pow12 hn
  have hle := pl_di_le (2 ^ n - 1) j
  subst e
  refine x_aload_n S dX5_without_11 0 rfl rfl ?_
  refine x_get S 25 0 rfl rfl inC5 (by decide) (gC _ tw151) rfl rfl dX5_without_12 ?_
  refine x_aload_n S dX5_without_15 0 rfl rfl ?_
  refine x_get S 25 0 rfl rfl inC5 (by decide) (gC _ tw151) rfl rfl dX5_without_16 ?_
  refine x_cVi (n := 0) S (c_allNodes hn) (gGV gC tw230 tw454 tw228 tw229 tw2) rfl (by decide +kernel) 0 rfl rfl rfl rfl (Nat.le_of_ble_eq_true rfl) dX5_without_19 ⟨by decide, by decide⟩ ⟨Nat.le_of_ble_eq_true rfl, Nat.le_of_ble_eq_true rfl⟩ ?_
  refine x_iload_n S dX5_without_22 1 rfl rfl ?_
  refine x_iconst (v := -1) S dX5_without_23 rfl ?_
  refine x_ixor S dX5_without_24 ?_
  refine x_iand S dX5_without_25 ?_
  refine x_top (nI (pl_di (2 ^ n - 1) j)) (pl_di_I _ _) ?_
  refine x_cVi (n := 1) S (c_countConnected hn (by omega)) (gGV gC tw458 tw455 tw456 tw457 tw2) rfl (by decide +kernel) 0 rfl rfl rfl rfl (Nat.le_of_ble_eq_true rfl) dX5_without_26 ⟨by decide, by decide⟩ ⟨Nat.le_of_ble_eq_true rfl, Nat.le_of_ble_eq_true rfl⟩ ?_
  refine x_goto (tgt := 34) S dX5_without_29 (by decide) ?_
  exact x_retS hret ((ch, nb, M, tch, cu, rch, pa, br, gp, P)) (⟨hA, hM, hN, hal, hch, h0, hsT, hT, hsR, hR, hP⟩) ((by unfold sWithout; rw [if_pos h1, f, kCC_congr (fun v hv => hN v (by omega))])) dX5_without_34
end CT3
