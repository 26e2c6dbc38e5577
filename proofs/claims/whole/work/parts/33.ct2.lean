/-! CutTrees: the calls -/
section CT2
theorem x_retS {Sg : Type} {E : xE} {D : va_G} {cl : List vw_C} {nL : Nat} {cc : ByteArray} {cells slots : Nat} {post : Sg → Prop} {ws' : Sg → va_W} {r : Sg → Int32} {r' : Int32} {lv : List (Nat × Value)} {pc : Nat} (hret : xRetS E D cl nL cc cells slots post ws' (fun u => some (.int (r u)))) (u : Sg) (hp : post u) (hr : r' = r u) (hd : decode cc pc = .ok (.ireturn, 1)) : xW E D cl nL cells slots (ws' u) lv pc [.int r'] := by
  subst hr
  exact hret u lv pc hp hd
theorem tOK.zero {n am : Nat} {fr to wt c : Nat → Nat} (h : tOK n am fr to wt c) : c 0 = 0 := by
  have := h 0 (Nat.two_pow_pos _)
  rw [Nat.mul_zero, kC_0] at this
  exact this
theorem t31 {t ch : Nat} (h : ch ≤ t) (ht : t ≤ 1000000) : ch + 1 < 2 ^ 31 := by omega
variable {l : Launch} {D : va_G} {ad : Nat → Nat} {cI cII cP cZ : ClassId} {n am al ch : Nat} {fr to wt nb : Nat → Nat} {M : Nat → Nat → Nat} {tch : Int32} {cu : Nat → Nat} {rch : Int32} {pa br gp : Nat → Nat} {P : Nat → Int32 × Nat × (Nat → Nat) × (Nat → Nat)} {X : va_W}
set_option maxHeartbeats 4000000 in
set_option maxRecDepth 100000 in
theorem p_cut {t : Nat} (s : Int32) (h : HS) (hI : cInv t n am al fr to wt h) : xMetS l yX5_cut wX5_cut (rD 16) D vwCl (tyC cI cII cP cZ) nwC [.ref (ad 25), .int s] (cwH ad cI cII cP n am al fr to wt h ++ X) (fun h' : HS => cInv t n am al fr to wt h') (fun h' => cwH ad cI cII cP n am al fr to wt h' ++ X) (fun _ => some (.int (sCut n am fr to wt s))) := by
  obtain ⟨ch, nb, M, tch, cu, rch, pa, br, gp, P⟩ := h
  obtain ⟨hA, hM, hN, hal, hch, h0, hsT, hT, hsR, hR, hP⟩ := hI
  have hn := hA.1
  refine xMetS_of (cc := cX5_cut) (maxL := 2) (ret := (some .int)) (by decide +kernel) rfl (Nat.le_of_ble_eq_true rfl) (fun _ _ => xfi) ?_
  intro E S hnm hret
  show xW E D vwCl 2 0 0 (cw ad cI cII cP n am al ch fr to wt nb M tch cu rch pa br gp P ++ X) [(0, .ref (ad 25)), (1, .int s)] 0 []
  refine x_aload_n S dX5_cut_0 0 rfl rfl ?_
  refine x_get S 25 0 rfl rfl inC5 (by decide) (gC _ tw151) rfl rfl dX5_cut_1 ?_
  refine x_iload_n S dX5_cut_4 1 rfl rfl ?_
  refine x_cVi (n := 1) S (c_hasSet hn s) (gGV gC tw226 tw223 tw224 tw225 tw2) rfl (by decide +kernel) 0 rfl rfl rfl rfl (Nat.le_of_ble_eq_true rfl) dX5_cut_5 ⟨by decide, by decide⟩ ⟨Nat.le_of_ble_eq_true rfl, Nat.le_of_ble_eq_true rfl⟩ ?_
  refine x_if_eqB (tgt := 22) S dX5_cut_8 (by decide) (fun h1 => ?_) (fun h1 => ?_)
  · refine x_bipush (v := -2) S dX5_cut_22 (by decide) ?_
    exact x_retS hret ((ch, nb, M, tch, cu, rch, pa, br, gp, P)) (⟨hA, hM, hN, hal, hch, h0, hsT, hT, hsR, hR, hP⟩) ((if_neg h1).symm) dX5_cut_24
  obtain ⟨j, hj, e, f⟩ := set_of hn h1
  have hp := pl_pow12 hn
  subst e
  refine x_aload_n S dX5_cut_11 0 rfl rfl ?_
  refine x_get S 25 0 rfl rfl inC5 (by decide) (gC _ tw151) rfl rfl dX5_cut_12 ?_
  refine x_iload_n S dX5_cut_15 1 rfl rfl ?_
  refine x_cVi (n := 1) S (c_cutAround (by omega) hA.2.1 (fun i hi => ⟨by have := (hA.2.2 i hi).1; omega, by have := (hA.2.2 i hi).2.1; omega⟩)) (gGV gC tw234 tw231 tw232 tw233 tw2) rfl (by decide +kernel) 0 rfl rfl rfl rfl (Nat.le_of_ble_eq_true rfl) dX5_cut_16 ⟨by decide, by decide⟩ ⟨Nat.le_of_ble_eq_true rfl, Nat.le_of_ble_eq_true rfl⟩ ?_
  refine x_goto (tgt := 24) S dX5_cut_19 (by decide) ?_
  exact x_retS hret ((ch, nb, M, tch, cu, rch, pa, br, gp, P)) (⟨hA, hM, hN, hal, hch, h0, hsT, hT, hsR, hR, hP⟩) ((by unfold sCut; rw [if_pos h1, f])) dX5_cut_24
set_option maxHeartbeats 4000000 in
set_option maxRecDepth 100000 in
theorem p_pair {t : Nat} (a b : Int32) (h : HS) (hI : cInv t n am al fr to wt h) : xMetS l yX5_pair wX5_pair (rD 16) D vwCl (tyC cI cII cP cZ) nwC [.ref (ad 25), .int a, .int b] (cwH ad cI cII cP n am al fr to wt h ++ X) (fun h' : HS => cInv t n am al fr to wt h') (fun h' => cwH ad cI cII cP n am al fr to wt h' ++ X) (fun _ => some (.int (sPair n am fr to wt a b))) := by
  obtain ⟨ch, nb, M, tch, cu, rch, pa, br, gp, P⟩ := h
  obtain ⟨hA, hM, hN, hal, hch, h0, hsT, hT, hsR, hR, hP⟩ := hI
  have hn := hA.1
  refine xMetS_of (cc := cX5_pair) (maxL := 3) (ret := (some .int)) (by decide +kernel) rfl (Nat.le_of_ble_eq_true rfl) (fun _ _ => xfi) ?_
  intro E S hnm hret
  show xW E D vwCl 3 0 0 (cw ad cI cII cP n am al ch fr to wt nb M tch cu rch pa br gp P ++ X) [(0, .ref (ad 25)), (1, .int a), (2, .int b)] 0 []
  refine x_aload_n S dX5_pair_0 0 rfl rfl ?_
  refine x_get S 25 0 rfl rfl inC5 (by decide) (gC _ tw151) rfl rfl dX5_pair_1 ?_
  refine x_iload_n S dX5_pair_4 1 rfl rfl ?_
  refine x_iload_n S dX5_pair_5 2 rfl rfl ?_
  refine x_cVi (n := 2) S (c_hasPair a b) (gGV gC tw182 tw179 tw180 tw181 tw2) rfl (by decide +kernel) 0 rfl rfl rfl rfl (Nat.le_of_ble_eq_true rfl) dX5_pair_6 ⟨by decide, by decide⟩ ⟨Nat.le_of_ble_eq_true rfl, Nat.le_of_ble_eq_true rfl⟩ ?_
  refine x_if_eqB (tgt := 24) S dX5_pair_9 (by decide) (fun h1 => ?_) (fun h1 => ?_)
  · refine x_iconst (v := -1) S dX5_pair_24 rfl ?_
    exact x_retS hret ((ch, nb, M, tch, cu, rch, pa, br, gp, P)) (⟨hA, hM, hN, hal, hch, h0, hsT, hT, hsR, hR, hP⟩) ((if_neg h1).symm) dX5_pair_25
  obtain ⟨i, j, hi, hj, hij, rfl, rfl, f1, f2⟩ := isP2_of hn h1
  refine x_aload_n S dX5_pair_12 0 rfl rfl ?_
  refine x_cVaS (n := 0) S (c_freshTable (by omega) hA hM h0 hT) (gGV gC tw242 tw239 tw241 ts1 tw1) rfl (by decide +kernel) 25 rfl rfl rfl rfl (Nat.le_of_ble_eq_true rfl) dX5_pair_13 ⟨by decide, by decide⟩ ⟨Nat.le_of_ble_eq_true rfl, Nat.le_of_ble_eq_true rfl⟩ (fun c hc => ?_)
  refine x_iload_n S dX5_pair_16 1 rfl rfl ?_
  refine x_iload_n S dX5_pair_17 2 rfl rfl ?_
  refine x_cVi (n := 2) S (c_cutBetween (by omega) hA hc hi hj hij (kZ_ok hi hij)) (gGV gC tw258 tw255 tw256 tw257 tw3) rfl (by decide +kernel) 18 rfl rfl rfl rfl (Nat.le_of_ble_eq_true rfl) dX5_pair_18 ⟨by decide, by decide⟩ ⟨Nat.le_of_ble_eq_true rfl, Nat.le_of_ble_eq_true rfl⟩ ?_
  refine x_goto (tgt := 25) S dX5_pair_21 (by decide) ?_
  exact x_retS hret ((ch, nb, M, nI ch, c, rch, pa, br, gp, P)) (⟨hA, hM, hN, hal, hch, hc.zero, sB.self ch, fun _ => hc, hsR, hR, hP⟩) ((by unfold sPair; rw [if_pos h1, f1, f2])) dX5_pair_25
set_option maxHeartbeats 4000000 in
set_option maxRecDepth 100000 in
theorem p_side {t : Nat} (a b : Int32) (h : HS) (hI : cInv t n am al fr to wt h) : xMetS l yX5_side wX5_side (rD 16) D vwCl (tyC cI cII cP cZ) nwC [.ref (ad 25), .int a, .int b] (cwH ad cI cII cP n am al fr to wt h ++ X) (fun h' : HS => cInv t n am al fr to wt h') (fun h' => cwH ad cI cII cP n am al fr to wt h' ++ X) (fun _ => some (.int (sSide n am fr to wt a b))) := by
  obtain ⟨ch, nb, M, tch, cu, rch, pa, br, gp, P⟩ := h
  obtain ⟨hA, hM, hN, hal, hch, h0, hsT, hT, hsR, hR, hP⟩ := hI
  have hn := hA.1
  refine xMetS_of (cc := cX5_side) (maxL := 3) (ret := (some .int)) (by decide +kernel) rfl (Nat.le_of_ble_eq_true rfl) (fun _ _ => xfi) ?_
  intro E S hnm hret
  show xW E D vwCl 3 0 0 (cw ad cI cII cP n am al ch fr to wt nb M tch cu rch pa br gp P ++ X) [(0, .ref (ad 25)), (1, .int a), (2, .int b)] 0 []
  refine x_aload_n S dX5_side_0 0 rfl rfl ?_
  refine x_get S 25 0 rfl rfl inC5 (by decide) (gC _ tw151) rfl rfl dX5_side_1 ?_
  refine x_iload_n S dX5_side_4 1 rfl rfl ?_
  refine x_iload_n S dX5_side_5 2 rfl rfl ?_
  refine x_cVi (n := 2) S (c_hasPair a b) (gGV gC tw182 tw179 tw180 tw181 tw2) rfl (by decide +kernel) 0 rfl rfl rfl rfl (Nat.le_of_ble_eq_true rfl) dX5_side_6 ⟨by decide, by decide⟩ ⟨Nat.le_of_ble_eq_true rfl, Nat.le_of_ble_eq_true rfl⟩ ?_
  refine x_if_eqB (tgt := 24) S dX5_side_9 (by decide) (fun h1 => ?_) (fun h1 => ?_)
  · refine x_iconst (v := -1) S dX5_side_24 rfl ?_
    exact x_retS hret ((ch, nb, M, tch, cu, rch, pa, br, gp, P)) (⟨hA, hM, hN, hal, hch, h0, hsT, hT, hsR, hR, hP⟩) ((if_neg h1).symm) dX5_side_25
  obtain ⟨i, j, hi, hj, hij, rfl, rfl, f1, f2⟩ := isP2_of hn h1
  refine x_aload_n S dX5_side_12 0 rfl rfl ?_
  refine x_cVaS (n := 0) S (c_freshTable (by omega) hA hM h0 hT) (gGV gC tw242 tw239 tw241 ts1 tw1) rfl (by decide +kernel) 25 rfl rfl rfl rfl (Nat.le_of_ble_eq_true rfl) dX5_side_13 ⟨by decide, by decide⟩ ⟨Nat.le_of_ble_eq_true rfl, Nat.le_of_ble_eq_true rfl⟩ (fun c hc => ?_)
  refine x_iload_n S dX5_side_16 1 rfl rfl ?_
  refine x_iload_n S dX5_side_17 2 rfl rfl ?_
  refine x_cVi (n := 2) S (c_sideAgainst (by omega) hA hc hi hj hij (kZ_ok hi hij)) (gGV gC tw262 tw275 tw260 tw261 tw3) rfl (by decide +kernel) 18 rfl rfl rfl rfl (Nat.le_of_ble_eq_true rfl) dX5_side_18 ⟨by decide, by decide⟩ ⟨Nat.le_of_ble_eq_true rfl, Nat.le_of_ble_eq_true rfl⟩ ?_
  refine x_goto (tgt := 25) S dX5_side_21 (by decide) ?_
  exact x_retS hret ((ch, nb, M, nI ch, c, rch, pa, br, gp, P)) (⟨hA, hM, hN, hal, hch, hc.zero, sB.self ch, fun _ => hc, hsR, hR, hP⟩) ((by unfold sSide; rw [if_pos h1, f1, f2])) dX5_side_25
set_option maxHeartbeats 4000000 in
set_option maxRecDepth 100000 in
theorem p_parent {t : Nat} (v : Int32) (h : HS) (hI : cInv t n am al fr to wt h) : xMetS l yX5_parent wX5_parent (rD 16) D vwCl (tyC cI cII cP cZ) nwC [.ref (ad 25), .int v] (cwH ad cI cII cP n am al fr to wt h ++ X) (fun h' : HS => cInv t n am al fr to wt h') (fun h' => cwH ad cI cII cP n am al fr to wt h' ++ X) (fun _ => some (.int (sParent n am fr to wt v))) := by
  obtain ⟨ch, nb, M, tch, cu, rch, pa, br, gp, P⟩ := h
  obtain ⟨hA, hM, hN, hal, hch, h0, hsT, hT, hsR, hR, hP⟩ := hI
  have hn := hA.1
  refine xMetS_of (cc := cX5_parent) (maxL := 2) (ret := (some .int)) (by decide +kernel) rfl (Nat.le_of_ble_eq_true rfl) (fun _ _ => xfi) ?_
  intro E S hnm hret
  show xW E D vwCl 2 0 0 (cw ad cI cII cP n am al ch fr to wt nb M tch cu rch pa br gp P ++ X) [(0, .ref (ad 25)), (1, .int v)] 0 []
  refine x_aload_n S dX5_parent_0 0 rfl rfl ?_
  refine x_get S 25 0 rfl rfl inC5 (by decide) (gC _ tw151) rfl rfl dX5_parent_1 ?_
  refine x_iload_n S dX5_parent_4 1 rfl rfl ?_
  refine x_cVi (n := 1) S (c_hasNode v) (gGV gC tw186 tw280 tw184 tw185 tw2) rfl (by decide +kernel) 0 rfl rfl rfl rfl (Nat.le_of_ble_eq_true rfl) dX5_parent_5 ⟨by decide, by decide⟩ ⟨Nat.le_of_ble_eq_true rfl, Nat.le_of_ble_eq_true rfl⟩ ?_
  refine x_if_neB (tgt := 13) S dX5_parent_8 (by decide) (fun h1 => ?_) (fun h1 => ?_)
  rotate_left
  · refine x_iconst (v := -1) S dX5_parent_11 rfl ?_
    exact x_retS hret ((ch, nb, M, tch, cu, rch, pa, br, gp, P)) (⟨hA, hM, hN, hal, hch, h0, hsT, hT, hsR, hR, hP⟩) ((if_neg h1).symm) dX5_parent_12
  obtain ⟨j, hj, e, f⟩ := isN_of hn h1
  refine x_iload_n S dX5_parent_13 1 rfl rfl ?_
  refine x_if_ne (tgt := 22) S dX5_parent_14 (by decide) (fun h2 => ?_) (fun h2 => ?_)
  rotate_left
  · refine x_bipush (v := -3) S dX5_parent_17 (by decide) ?_
    refine x_goto (tgt := 31) S dX5_parent_19 (by decide) ?_
    exact x_retS hret ((ch, nb, M, tch, cu, rch, pa, br, gp, P)) (⟨hA, hM, hN, hal, hch, h0, hsT, hT, hsR, hR, hP⟩) ((by unfold sParent; rw [if_pos h1, if_pos h2])) dX5_parent_31
  have hj0 : 1 ≤ j := Nat.pos_of_ne_zero (fun q => h2 (by rw [e, q]; rfl))
  refine x_aload_n S dX5_parent_22 0 rfl rfl ?_
  refine x_cVaS (n := 0) S (c_freshTree (by omega) hA hM h0 hT hR) (gGV gC tw284 tw281 tw283 ts3 tw1) rfl (by decide +kernel) 25 rfl rfl rfl rfl (Nat.le_of_ble_eq_true rfl) dX5_parent_23 ⟨by decide, by decide⟩ ⟨Nat.le_of_ble_eq_true rfl, Nat.le_of_ble_eq_true rfl⟩ (fun u hu => ?_)
  refine x_get S 20 2 rfl rfl inC3 (by decide) (gC _ tw95) rfl rfl dX5_parent_26 ?_
  refine x_iload_n S dX5_parent_29 1 rfl rfl ?_
  refine x_ialdN S 21 0 (j) rfl rfl e (by omega) (by decide) dX5_parent_30 ?_
  exact x_retS hret ((ch, nb, M, nI ch, u.1, nI ch, u.2.1, u.2.2, gp, P)) (⟨hA, hM, hN, hal, hch, hu.1.zero, sB.self ch, fun _ => hu.1, sB.self ch, fun _ => hu.2, hP⟩) ((by unfold sParent; rw [if_pos h1, if_neg h2, f, hu.2.1 j hj])) dX5_parent_31
set_option maxHeartbeats 4000000 in
set_option maxRecDepth 100000 in
theorem p_branch {t : Nat} (v : Int32) (h : HS) (hI : cInv t n am al fr to wt h) : xMetS l yX5_branch wX5_branch (rD 16) D vwCl (tyC cI cII cP cZ) nwC [.ref (ad 25), .int v] (cwH ad cI cII cP n am al fr to wt h ++ X) (fun h' : HS => cInv t n am al fr to wt h') (fun h' => cwH ad cI cII cP n am al fr to wt h' ++ X) (fun _ => some (.int (sBranch n am fr to wt v))) := by
  obtain ⟨ch, nb, M, tch, cu, rch, pa, br, gp, P⟩ := h
  obtain ⟨hA, hM, hN, hal, hch, h0, hsT, hT, hsR, hR, hP⟩ := hI
  have hn := hA.1
  refine xMetS_of (cc := cX5_branch) (maxL := 2) (ret := (some .int)) (by decide +kernel) rfl (Nat.le_of_ble_eq_true rfl) (fun _ _ => xfi) ?_
  intro E S hnm hret
  show xW E D vwCl 2 0 0 (cw ad cI cII cP n am al ch fr to wt nb M tch cu rch pa br gp P ++ X) [(0, .ref (ad 25)), (1, .int v)] 0 []
  refine x_aload_n S dX5_branch_0 0 rfl rfl ?_
  refine x_get S 25 0 rfl rfl inC5 (by decide) (gC _ tw151) rfl rfl dX5_branch_1 ?_
  refine x_iload_n S dX5_branch_4 1 rfl rfl ?_
  refine x_cVi (n := 1) S (c_hasNode v) (gGV gC tw186 tw280 tw184 tw185 tw2) rfl (by decide +kernel) 0 rfl rfl rfl rfl (Nat.le_of_ble_eq_true rfl) dX5_branch_5 ⟨by decide, by decide⟩ ⟨Nat.le_of_ble_eq_true rfl, Nat.le_of_ble_eq_true rfl⟩ ?_
  refine x_if_neB (tgt := 13) S dX5_branch_8 (by decide) (fun h1 => ?_) (fun h1 => ?_)
  rotate_left
  · refine x_iconst (v := -1) S dX5_branch_11 rfl ?_
    exact x_retS hret ((ch, nb, M, tch, cu, rch, pa, br, gp, P)) (⟨hA, hM, hN, hal, hch, h0, hsT, hT, hsR, hR, hP⟩) ((if_neg h1).symm) dX5_branch_12
  obtain ⟨j, hj, e, f⟩ := isN_of hn h1
  refine x_iload_n S dX5_branch_13 1 rfl rfl ?_
  refine x_if_ne (tgt := 22) S dX5_branch_14 (by decide) (fun h2 => ?_) (fun h2 => ?_)
  rotate_left
  · refine x_bipush (v := -3) S dX5_branch_17 (by decide) ?_
    refine x_goto (tgt := 31) S dX5_branch_19 (by decide) ?_
    exact x_retS hret ((ch, nb, M, tch, cu, rch, pa, br, gp, P)) (⟨hA, hM, hN, hal, hch, h0, hsT, hT, hsR, hR, hP⟩) ((by unfold sBranch; rw [if_pos h1, if_pos h2])) dX5_branch_31
  have hj0 : 1 ≤ j := Nat.pos_of_ne_zero (fun q => h2 (by rw [e, q]; rfl))
  refine x_aload_n S dX5_branch_22 0 rfl rfl ?_
  refine x_cVaS (n := 0) S (c_freshTree (by omega) hA hM h0 hT hR) (gGV gC tw284 tw281 tw283 ts3 tw1) rfl (by decide +kernel) 25 rfl rfl rfl rfl (Nat.le_of_ble_eq_true rfl) dX5_branch_23 ⟨by decide, by decide⟩ ⟨Nat.le_of_ble_eq_true rfl, Nat.le_of_ble_eq_true rfl⟩ (fun u hu => ?_)
  refine x_get S 20 3 rfl rfl inC3 (by decide) (gC _ tw97) rfl rfl dX5_branch_26 ?_
  refine x_iload_n S dX5_branch_29 1 rfl rfl ?_
  refine x_ialdN S 22 0 (j) rfl rfl e (by omega) (by decide) dX5_branch_30 ?_
  exact x_retS hret ((ch, nb, M, nI ch, u.1, nI ch, u.2.1, u.2.2, gp, P)) (⟨hA, hM, hN, hal, hch, hu.1.zero, sB.self ch, fun _ => hu.1, sB.self ch, fun _ => hu.2, hP⟩) ((by unfold sBranch; rw [if_pos h1, if_neg h2, f, hu.2.2 j hj0 hj])) dX5_branch_31
set_option maxHeartbeats 4000000 in
set_option maxRecDepth 100000 in
theorem p_way {t : Nat} (a b : Int32) (h : HS) (hI : cInv t n am al fr to wt h) : xMetS l yX5_way wX5_way (rD 16) D vwCl (tyC cI cII cP cZ) nwC [.ref (ad 25), .int a, .int b] (cwH ad cI cII cP n am al fr to wt h ++ X) (fun h' : HS => cInv t n am al fr to wt h') (fun h' => cwH ad cI cII cP n am al fr to wt h' ++ X) (fun _ => some (.int (sWay n am fr to wt a b))) := by
  obtain ⟨ch, nb, M, tch, cu, rch, pa, br, gp, P⟩ := h
  obtain ⟨hA, hM, hN, hal, hch, h0, hsT, hT, hsR, hR, hP⟩ := hI
  have hn := hA.1
  refine xMetS_of (cc := cX5_way) (maxL := 3) (ret := (some .int)) (by decide +kernel) rfl (Nat.le_of_ble_eq_true rfl) (fun _ _ => xfi) ?_
  intro E S hnm hret
  show xW E D vwCl 3 0 0 (cw ad cI cII cP n am al ch fr to wt nb M tch cu rch pa br gp P ++ X) [(0, .ref (ad 25)), (1, .int a), (2, .int b)] 0 []
  refine x_aload_n S dX5_way_0 0 rfl rfl ?_
  refine x_get S 25 0 rfl rfl inC5 (by decide) (gC _ tw151) rfl rfl dX5_way_1 ?_
  refine x_iload_n S dX5_way_4 1 rfl rfl ?_
  refine x_iload_n S dX5_way_5 2 rfl rfl ?_
  refine x_cVi (n := 2) S (c_hasPair a b) (gGV gC tw182 tw179 tw180 tw181 tw2) rfl (by decide +kernel) 0 rfl rfl rfl rfl (Nat.le_of_ble_eq_true rfl) dX5_way_6 ⟨by decide, by decide⟩ ⟨Nat.le_of_ble_eq_true rfl, Nat.le_of_ble_eq_true rfl⟩ ?_
  refine x_if_eqB (tgt := 24) S dX5_way_9 (by decide) (fun h1 => ?_) (fun h1 => ?_)
  · refine x_iconst (v := -1) S dX5_way_24 rfl ?_
    exact x_retS hret ((ch, nb, M, tch, cu, rch, pa, br, gp, P)) (⟨hA, hM, hN, hal, hch, h0, hsT, hT, hsR, hR, hP⟩) ((if_neg h1).symm) dX5_way_25
  obtain ⟨i, j, hi, hj, hij, rfl, rfl, f1, f2⟩ := isP2_of hn h1
  refine x_aload_n S dX5_way_12 0 rfl rfl ?_
  refine x_cVaS (n := 0) S (c_freshTree (by omega) hA hM h0 hT hR) (gGV gC tw284 tw281 tw283 ts3 tw1) rfl (by decide +kernel) 25 rfl rfl rfl rfl (Nat.le_of_ble_eq_true rfl) dX5_way_13 ⟨by decide, by decide⟩ ⟨Nat.le_of_ble_eq_true rfl, Nat.le_of_ble_eq_true rfl⟩ (fun u hu => ?_)
  have hpl : ∀ k, k < n → u.2.1 k < n := fun k hk => by
    rw [hu.2.1 k hk]
    rcases Nat.eq_zero_or_pos k with q | q
    · rw [q, kPa_0]; omega
    · have := kPa_lt (kC fr to wt am) n n k q; omega
  have hbl : ∀ k, 1 ≤ k → k < n → u.2.2 k < 2 ^ 31 := fun k h1 hk => by
    rw [hu.2.2 k h1 hk]
    have := hA.cf (kZ (kC fr to wt am) n k (kPa (kC fr to wt am) n n k))
    unfold kBr
    omega
  refine x_iload_n S dX5_way_16 1 rfl rfl ?_
  refine x_iload_n S dX5_way_17 2 rfl rfl ?_
  refine x_cVi (n := 2) S (c_leastBranchBetween hn hi hj hpl hbl) (gGV gC tw306 tw303 tw304 tw305 tw4) rfl (by decide +kernel) 20 rfl rfl rfl rfl (Nat.le_of_ble_eq_true rfl) dX5_way_18 ⟨by decide, by decide⟩ ⟨Nat.le_of_ble_eq_true rfl, Nat.le_of_ble_eq_true rfl⟩ ?_
  refine x_goto (tgt := 25) S dX5_way_21 (by decide) ?_
  exact x_retS hret ((ch, nb, M, nI ch, u.1, nI ch, u.2.1, u.2.2, gp, P)) (⟨hA, hM, hN, hal, hch, hu.1.zero, sB.self ch, fun _ => hu.1, sB.self ch, fun _ => hu.2, hP⟩) ((by unfold sWay; rw [if_pos h1, f1, f2, kWy_congr hu.2.1 hu.2.2 hpl 24 i j 2147483647 hi hj])) dX5_way_25
set_option maxHeartbeats 4000000 in
set_option maxRecDepth 100000 in
theorem p_least {t : Nat}  (h : HS) (hI : cInv t n am al fr to wt h) : xMetS l yX5_least wX5_least (rD 16) D vwCl (tyC cI cII cP cZ) nwC [.ref (ad 25)] (cwH ad cI cII cP n am al fr to wt h ++ X) (fun h' : HS => cInv t n am al fr to wt h') (fun h' => cwH ad cI cII cP n am al fr to wt h' ++ X) (fun _ => some (.int (sLeast n am fr to wt))) := by
  obtain ⟨ch, nb, M, tch, cu, rch, pa, br, gp, P⟩ := h
  obtain ⟨hA, hM, hN, hal, hch, h0, hsT, hT, hsR, hR, hP⟩ := hI
  have hn := hA.1
  refine xMetS_of (cc := cX5_least) (maxL := 1) (ret := (some .int)) (by decide +kernel) rfl (Nat.le_of_ble_eq_true rfl) (fun _ _ => xfi) ?_
  intro E S hnm hret
  show xW E D vwCl 1 0 0 (cw ad cI cII cP n am al ch fr to wt nb M tch cu rch pa br gp P ++ X) [(0, .ref (ad 25))] 0 []
  refine x_aload_n S dX5_least_0 0 rfl rfl ?_
  refine x_get S 25 0 rfl rfl inC5 (by decide) (gC _ tw151) rfl rfl dX5_least_1 ?_
  refine x_cVi (n := 0) S (c_hasSides hn) (gGV gC tw321 tw318 tw319 tw320 tw2) rfl (by decide +kernel) 0 rfl rfl rfl rfl (Nat.le_of_ble_eq_true rfl) dX5_least_4 ⟨by decide, by decide⟩ ⟨Nat.le_of_ble_eq_true rfl, Nat.le_of_ble_eq_true rfl⟩ ?_
  refine x_if_eqB (tgt := 20) S dX5_least_7 (by decide) (fun h1 => ?_) (fun h1 => ?_)
  · refine x_bipush (v := -3) S dX5_least_20 (by decide) ?_
    exact x_retS hret ((ch, nb, M, tch, cu, rch, pa, br, gp, P)) (⟨hA, hM, hN, hal, hch, h0, hsT, hT, hsR, hR, hP⟩) ((if_neg h1).symm) dX5_least_22
  refine x_aload_n S dX5_least_10 0 rfl rfl ?_
  refine x_cVaS (n := 0) S (c_freshTable (by omega) hA hM h0 hT) (gGV gC tw242 tw239 tw241 ts1 tw1) rfl (by decide +kernel) 25 rfl rfl rfl rfl (Nat.le_of_ble_eq_true rfl) dX5_least_11 ⟨by decide, by decide⟩ ⟨Nat.le_of_ble_eq_true rfl, Nat.le_of_ble_eq_true rfl⟩ (fun c hc => ?_)
  refine x_cVi (n := 0) S (c_leastCut h1 (by omega) hA hc (kE_ok h1)) (gGV gC tw325 tw322 tw323 tw324 tw3) rfl (by decide +kernel) 18 rfl rfl rfl rfl (Nat.le_of_ble_eq_true rfl) dX5_least_14 ⟨by decide, by decide⟩ ⟨Nat.le_of_ble_eq_true rfl, Nat.le_of_ble_eq_true rfl⟩ ?_
  refine x_goto (tgt := 22) S dX5_least_17 (by decide) ?_
  exact x_retS hret ((ch, nb, M, nI ch, c, rch, pa, br, gp, P)) (⟨hA, hM, hN, hal, hch, hc.zero, sB.self ch, fun _ => hc, hsR, hR, hP⟩) ((by unfold sLeast; rw [if_pos h1])) dX5_least_22
set_option maxHeartbeats 4000000 in
set_option maxRecDepth 100000 in
theorem p_counted {t : Nat}  (h : HS) (hI : cInv t n am al fr to wt h) : xMetS l yX5_counted wX5_counted (rD 16) D vwCl (tyC cI cII cP cZ) nwC [.ref (ad 25)] (cwH ad cI cII cP n am al fr to wt h ++ X) (fun h' : HS => cInv t n am al fr to wt h') (fun h' => cwH ad cI cII cP n am al fr to wt h' ++ X) (fun _ => some (.int (sCounted n am fr to wt))) := by
  obtain ⟨ch, nb, M, tch, cu, rch, pa, br, gp, P⟩ := h
  obtain ⟨hA, hM, hN, hal, hch, h0, hsT, hT, hsR, hR, hP⟩ := hI
  have hn := hA.1
  refine xMetS_of (cc := cX5_counted) (maxL := 1) (ret := (some .int)) (by decide +kernel) rfl (Nat.le_of_ble_eq_true rfl) (fun _ _ => xfi) ?_
  intro E S hnm hret
  show xW E D vwCl 1 0 0 (cw ad cI cII cP n am al ch fr to wt nb M tch cu rch pa br gp P ++ X) [(0, .ref (ad 25))] 0 []
  refine x_aload_n S dX5_counted_0 0 rfl rfl ?_
  refine x_get S 25 0 rfl rfl inC5 (by decide) (gC _ tw151) rfl rfl dX5_counted_1 ?_
  refine x_cVi (n := 0) S (c_hasSides hn) (gGV gC tw321 tw318 tw319 tw320 tw2) rfl (by decide +kernel) 0 rfl rfl rfl rfl (Nat.le_of_ble_eq_true rfl) dX5_counted_4 ⟨by decide, by decide⟩ ⟨Nat.le_of_ble_eq_true rfl, Nat.le_of_ble_eq_true rfl⟩ ?_
  refine x_if_eqB (tgt := 20) S dX5_counted_7 (by decide) (fun h1 => ?_) (fun h1 => ?_)
  · refine x_iconst (v := 0) S dX5_counted_20 rfl ?_
    exact x_retS hret ((ch, nb, M, tch, cu, rch, pa, br, gp, P)) (⟨hA, hM, hN, hal, hch, h0, hsT, hT, hsR, hR, hP⟩) ((if_neg h1).symm) dX5_counted_21
  refine x_aload_n S dX5_counted_10 0 rfl rfl ?_
  refine x_cVaS (n := 0) S (c_freshTable (by omega) hA hM h0 hT) (gGV gC tw242 tw239 tw241 ts1 tw1) rfl (by decide +kernel) 25 rfl rfl rfl rfl (Nat.le_of_ble_eq_true rfl) dX5_counted_11 ⟨by decide, by decide⟩ ⟨Nat.le_of_ble_eq_true rfl, Nat.le_of_ble_eq_true rfl⟩ (fun c hc => ?_)
  refine x_cVi (n := 0) S (c_countLeastOnes h1 (by omega) hA hc (kE_ok h1)) (gGV gC tw334 tw331 tw332 tw333 tw3) rfl (by decide +kernel) 18 rfl rfl rfl rfl (Nat.le_of_ble_eq_true rfl) dX5_counted_14 ⟨by decide, by decide⟩ ⟨Nat.le_of_ble_eq_true rfl, Nat.le_of_ble_eq_true rfl⟩ ?_
  refine x_goto (tgt := 21) S dX5_counted_17 (by decide) ?_
  exact x_retS hret ((ch, nb, M, nI ch, c, rch, pa, br, gp, P)) (⟨hA, hM, hN, hal, hch, hc.zero, sB.self ch, fun _ => hc, hsR, hR, hP⟩) ((by unfold sCounted; rw [if_pos h1])) dX5_counted_21
set_option maxHeartbeats 4000000 in
set_option maxRecDepth 100000 in
theorem p_every {t : Nat} (k : Int32) (h : HS) (hI : cInv t n am al fr to wt h) : xMetS l yX5_every wX5_every (rD 16) D vwCl (tyC cI cII cP cZ) nwC [.ref (ad 25), .int k] (cwH ad cI cII cP n am al fr to wt h ++ X) (fun h' : HS => cInv t n am al fr to wt h') (fun h' => cwH ad cI cII cP n am al fr to wt h' ++ X) (fun _ => some (.int (sEvery n am fr to wt k))) := by
  obtain ⟨ch, nb, M, tch, cu, rch, pa, br, gp, P⟩ := h
  obtain ⟨hA, hM, hN, hal, hch, h0, hsT, hT, hsR, hR, hP⟩ := hI
  have hn := hA.1
  refine xMetS_of (cc := cX5_every) (maxL := 2) (ret := (some .int)) (by decide +kernel) rfl (Nat.le_of_ble_eq_true rfl) (fun _ _ => xfi) ?_
  intro E S hnm hret
  show xW E D vwCl 2 0 0 (cw ad cI cII cP n am al ch fr to wt nb M tch cu rch pa br gp P ++ X) [(0, .ref (ad 25)), (1, .int k)] 0 []
  refine x_aload_n S dX5_every_0 0 rfl rfl ?_
  refine x_get S 25 0 rfl rfl inC5 (by decide) (gC _ tw151) rfl rfl dX5_every_1 ?_
  refine x_cVi (n := 0) S (c_hasSides hn) (gGV gC tw321 tw318 tw319 tw320 tw2) rfl (by decide +kernel) 0 rfl rfl rfl rfl (Nat.le_of_ble_eq_true rfl) dX5_every_4 ⟨by decide, by decide⟩ ⟨Nat.le_of_ble_eq_true rfl, Nat.le_of_ble_eq_true rfl⟩ ?_
  refine x_if_eqB (tgt := 25) S dX5_every_7 (by decide) (fun h1 => ?_) (fun h1 => ?_)
  · refine x_iconst (v := -1) S dX5_every_25 rfl ?_
    exact x_retS hret ((ch, nb, M, tch, cu, rch, pa, br, gp, P)) (⟨hA, hM, hN, hal, hch, h0, hsT, hT, hsR, hR, hP⟩) ((if_neg (fun q => h1 q.1)).symm) dX5_every_26
  refine x_iload_n S dX5_every_10 1 rfl rfl ?_
  refine x_if_lt (tgt := 25) S dX5_every_11 (by decide) (fun h2 => ?_) (fun h2 => ?_)
  · refine x_iconst (v := -1) S dX5_every_25 rfl ?_
    exact x_retS hret ((ch, nb, M, tch, cu, rch, pa, br, gp, P)) (⟨hA, hM, hN, hal, hch, h0, hsT, hT, hsR, hR, hP⟩) ((if_neg (fun q => Int32.not_lt.mpr q.2 h2)).symm) dX5_every_26
  obtain ⟨κ, hκ, rfl⟩ := pl_of (Int32.not_lt.mp h2)
  refine x_aload_n S dX5_every_14 0 rfl rfl ?_
  refine x_cVaS (n := 0) S (c_freshTable (by omega) hA hM h0 hT) (gGV gC tw242 tw239 tw241 ts1 tw1) rfl (by decide +kernel) 25 rfl rfl rfl rfl (Nat.le_of_ble_eq_true rfl) dX5_every_15 ⟨by decide, by decide⟩ ⟨Nat.le_of_ble_eq_true rfl, Nat.le_of_ble_eq_true rfl⟩ (fun c hc => ?_)
  refine x_iload_n S dX5_every_18 1 rfl rfl ?_
  refine x_cVi (n := 1) S (c_leastOne h1 hκ (by omega) hA hc (kE_ok h1)) (gGV gC tw343 tw340 tw341 tw342 tw3) rfl (by decide +kernel) 18 rfl rfl rfl rfl (Nat.le_of_ble_eq_true rfl) dX5_every_19 ⟨by decide, by decide⟩ ⟨Nat.le_of_ble_eq_true rfl, Nat.le_of_ble_eq_true rfl⟩ ?_
  refine x_goto (tgt := 26) S dX5_every_22 (by decide) ?_
  exact x_retS hret ((ch, nb, M, nI ch, c, rch, pa, br, gp, P)) (⟨hA, hM, hN, hal, hch, hc.zero, sB.self ch, fun _ => hc, hsR, hR, hP⟩) ((by unfold sEvery; rw [if_pos ⟨h1, Int32.not_lt.mp h2⟩, nI_clamp hκ])) dX5_every_26
set_option maxHeartbeats 4000000 in
set_option maxRecDepth 100000 in
theorem p_drawn {t : Nat} (z : Int32) (h : HS) (hI : cInv t n am al fr to wt h) : xMetS l yX5_drawn wX5_drawn (rD 16) D vwCl (tyC cI cII cP cZ) nwC [.ref (ad 25), .int z] (cwH ad cI cII cP n am al fr to wt h ++ X) (fun h' : HS => cInv t n am al fr to wt h') (fun h' => cwH ad cI cII cP n am al fr to wt h' ++ X) (fun _ => some (.int (sDrawn n am fr to wt z))) := by
  obtain ⟨ch, nb, M, tch, cu, rch, pa, br, gp, P⟩ := h
  obtain ⟨hA, hM, hN, hal, hch, h0, hsT, hT, hsR, hR, hP⟩ := hI
  have hn := hA.1
  refine xMetS_of (cc := cX5_drawn) (maxL := 2) (ret := (some .int)) (by decide +kernel) rfl (Nat.le_of_ble_eq_true rfl) (fun _ _ => xfi) ?_
  intro E S hnm hret
  show xW E D vwCl 2 0 0 (cw ad cI cII cP n am al ch fr to wt nb M tch cu rch pa br gp P ++ X) [(0, .ref (ad 25)), (1, .int z)] 0 []
  refine x_aload_n S dX5_drawn_0 0 rfl rfl ?_
  refine x_get S 25 0 rfl rfl inC5 (by decide) (gC _ tw151) rfl rfl dX5_drawn_1 ?_
  refine x_cVi (n := 0) S (c_hasSides hn) (gGV gC tw321 tw318 tw319 tw320 tw2) rfl (by decide +kernel) 0 rfl rfl rfl rfl (Nat.le_of_ble_eq_true rfl) dX5_drawn_4 ⟨by decide, by decide⟩ ⟨Nat.le_of_ble_eq_true rfl, Nat.le_of_ble_eq_true rfl⟩ ?_
  refine x_if_eqB (tgt := 21) S dX5_drawn_7 (by decide) (fun h1 => ?_) (fun h1 => ?_)
  · refine x_bipush (v := -3) S dX5_drawn_21 (by decide) ?_
    exact x_retS hret ((ch, nb, M, tch, cu, rch, pa, br, gp, P)) (⟨hA, hM, hN, hal, hch, h0, hsT, hT, hsR, hR, hP⟩) ((if_neg h1).symm) dX5_drawn_23
  refine x_aload_n S dX5_drawn_10 0 rfl rfl ?_
  refine x_get S 25 3 rfl rfl inC5 (by decide) (gC _ tw154) rfl rfl dX5_drawn_11 ?_
  refine x_iload_n S dX5_drawn_14 1 rfl rfl ?_
  refine x_cViS (n := 1) S (c_drawBy z h1 hA) (gGV gC tw351 tw348 tw349 tw350 tw5) rfl (by decide +kernel) 23 rfl rfl rfl rfl (Nat.le_of_ble_eq_true rfl) dX5_drawn_15 ⟨by decide, by decide⟩ ⟨Nat.le_of_ble_eq_true rfl, Nat.le_of_ble_eq_true rfl⟩ (fun g _ => ?_)
  refine x_goto (tgt := 23) S dX5_drawn_18 (by decide) ?_
  exact x_retS hret ((ch, nb, M, tch, cu, rch, pa, br, g, P)) (⟨hA, hM, hN, hal, hch, h0, hsT, hT, hsR, hR, hP⟩) ((by unfold sDrawn; rw [if_pos h1, dD_congr hA (by omega) (n - 2) z (dI n gp) (dI n (fun _ => 0)) (fun v hv => by unfold dI; rw [if_pos hv, if_pos hv])])) dX5_drawn_23
set_option maxHeartbeats 4000000 in
set_option maxRecDepth 100000 in
theorem p_sparsest {t : Nat}  (h : HS) (hI : cInv t n am al fr to wt h) : xMetS l yX5_sparsest wX5_sparsest (rD 16) D vwCl (tyC cI cII cP cZ) nwC [.ref (ad 25)] (cwH ad cI cII cP n am al fr to wt h ++ X) (fun h' : HS => cInv t n am al fr to wt h') (fun h' => cwH ad cI cII cP n am al fr to wt h' ++ X) (fun _ => some (.int (sSparse n am fr to wt))) := by
  obtain ⟨ch, nb, M, tch, cu, rch, pa, br, gp, P⟩ := h
  obtain ⟨hA, hM, hN, hal, hch, h0, hsT, hT, hsR, hR, hP⟩ := hI
  have hn := hA.1
  refine xMetS_of (cc := cX5_sparsest) (maxL := 1) (ret := (some .int)) (by decide +kernel) rfl (Nat.le_of_ble_eq_true rfl) (fun _ _ => xfi) ?_
  intro E S hnm hret
  show xW E D vwCl 1 0 0 (cw ad cI cII cP n am al ch fr to wt nb M tch cu rch pa br gp P ++ X) [(0, .ref (ad 25))] 0 []
  refine x_aload_n S dX5_sparsest_0 0 rfl rfl ?_
  refine x_get S 25 0 rfl rfl inC5 (by decide) (gC _ tw151) rfl rfl dX5_sparsest_1 ?_
  refine x_cVi (n := 0) S (c_hasSides hn) (gGV gC tw321 tw318 tw319 tw320 tw2) rfl (by decide +kernel) 0 rfl rfl rfl rfl (Nat.le_of_ble_eq_true rfl) dX5_sparsest_4 ⟨by decide, by decide⟩ ⟨Nat.le_of_ble_eq_true rfl, Nat.le_of_ble_eq_true rfl⟩ ?_
  refine x_if_eqB (tgt := 20) S dX5_sparsest_7 (by decide) (fun h1 => ?_) (fun h1 => ?_)
  · refine x_bipush (v := -3) S dX5_sparsest_20 (by decide) ?_
    exact x_retS hret ((ch, nb, M, tch, cu, rch, pa, br, gp, P)) (⟨hA, hM, hN, hal, hch, h0, hsT, hT, hsR, hR, hP⟩) ((if_neg h1).symm) dX5_sparsest_22
  refine x_aload_n S dX5_sparsest_10 0 rfl rfl ?_
  refine x_cVaS (n := 0) S (c_freshTable (by omega) hA hM h0 hT) (gGV gC tw242 tw239 tw241 ts1 tw1) rfl (by decide +kernel) 25 rfl rfl rfl rfl (Nat.le_of_ble_eq_true rfl) dX5_sparsest_11 ⟨by decide, by decide⟩ ⟨Nat.le_of_ble_eq_true rfl, Nat.le_of_ble_eq_true rfl⟩ (fun c hc => ?_)
  refine x_cVi (n := 0) S (c_sparsestSide h1 (by omega) hA hc) (gGV gC tw410 tw407 tw408 tw409 tw3) rfl (by decide +kernel) 18 rfl rfl rfl rfl (Nat.le_of_ble_eq_true rfl) dX5_sparsest_14 ⟨by decide, by decide⟩ ⟨Nat.le_of_ble_eq_true rfl, Nat.le_of_ble_eq_true rfl⟩ ?_
  refine x_goto (tgt := 22) S dX5_sparsest_17 (by decide) ?_
  exact x_retS hret ((ch, nb, M, nI ch, c, rch, pa, br, gp, P)) (⟨hA, hM, hN, hal, hch, hc.zero, sB.self ch, fun _ => hc, hsR, hR, hP⟩) ((by unfold sSparse; rw [if_pos h1])) dX5_sparsest_22
end CT2
