/-! Graph: contracts -/
section GR
theorem kC_succ (fr to wt : Nat → Nat) (k s : Nat) : kC fr to wt (k + 1) s = kC fr to wt k s + if s.testBit (fr k) = s.testBit (to k) then 0 else wt k := rfl
variable {l : Launch} {D : va_G} {ad : Nat → Nat} {cI cII cP cZ : ClassId} {n am al ch : Nat} {fr to wt nb : Nat → Nat} {M : Nat → Nat → Nat} {tch : Int32} {cu : Nat → Nat} {rch : Int32} {pa br gp : Nat → Nat} {P : Nat → Int32 × Nat × (Nat → Nat) × (Nat → Nat)} {X : va_W}
set_option maxHeartbeats 4000000 in
set_option maxRecDepth 100000 in
theorem c_hasNode (v : Int32) : xMet l yX2_hasNode wX2_hasNode (rD 0) D vwCl (tyC cI cII cP cZ) nwC [.ref (ad 0), .int v] (cw ad cI cII cP n am al ch fr to wt nb M tch cu rch pa br gp P ++ X) (cw ad cI cII cP n am al ch fr to wt nb M tch cu rch pa br gp P ++ X) (some (.int (if 0 ≤ v ∧ v < nI n then 1 else 0))) := by
  refine xMet_of (cc := cX2_hasNode) (maxL := 2) (ret := (some .boolean)) (by decide +kernel) rfl (Nat.le_of_ble_eq_true rfl) xfz ?_
  intro E S hnm hret
  show xW E D vwCl 2 0 0 _ [(0, .ref (ad 0)), (1, .int v)] 0 []
  refine x_iload_n S dX2_hasNode_0 1 rfl rfl ?_
  refine x_if_lt (tgt := 16) S dX2_hasNode_1 (by decide) (fun h1 => ?_) (fun h1 => ?_)
  · refine x_iconst (v := 0) S dX2_hasNode_16 rfl ?_
    exact x_ret hret (if_neg (fun q => Int32.not_lt.mpr q.1 h1)).symm dX2_hasNode_17
  refine x_iload_n S dX2_hasNode_4 1 rfl rfl ?_
  refine x_aload_n S dX2_hasNode_5 0 rfl rfl ?_
  refine x_get S 0 5 rfl rfl inC2 (by decide) (gC _ tw36) rfl rfl dX2_hasNode_6 ?_
  refine x_icmp_ge (tgt := 16) S dX2_hasNode_9 (by decide) (fun h2 => ?_) (fun h2 => ?_)
  · refine x_iconst (v := 0) S dX2_hasNode_16 rfl ?_
    exact x_ret hret (if_neg (fun q => Int32.not_lt.mpr h2 q.2)).symm dX2_hasNode_17
  refine x_iconst (v := 1) S dX2_hasNode_12 rfl ?_
  refine x_goto (tgt := 17) S dX2_hasNode_13 (by decide) ?_
  exact x_ret hret (if_pos ⟨Int32.not_lt.mp h1, Int32.not_le.mp h2⟩).symm dX2_hasNode_17
set_option maxHeartbeats 4000000 in
set_option maxRecDepth 100000 in
theorem c_hasPair (a b : Int32) : xMet l yX2_hasPair wX2_hasPair (rD 1) D vwCl (tyC cI cII cP cZ) nwC [.ref (ad 0), .int a, .int b] (cw ad cI cII cP n am al ch fr to wt nb M tch cu rch pa br gp P ++ X) (cw ad cI cII cP n am al ch fr to wt nb M tch cu rch pa br gp P ++ X) (some (.int (if (0 ≤ a ∧ a < nI n) ∧ (0 ≤ b ∧ b < nI n) ∧ a ≠ b then 1 else 0))) := by
  refine xMet_of (cc := cX2_hasPair) (maxL := 3) (ret := (some .boolean)) (by decide +kernel) rfl (Nat.le_of_ble_eq_true rfl) xfz ?_
  intro E S hnm hret
  show xW E D vwCl 3 0 0 _ [(0, .ref (ad 0)), (1, .int a), (2, .int b)] 0 []
  refine x_aload_n S dX2_hasPair_0 0 rfl rfl ?_
  refine x_iload_n S dX2_hasPair_1 1 rfl rfl ?_
  refine x_cVi (n := 1) S (c_hasNode a) (gGV gC tw186 tw183 tw184 tw185 tw2) rfl (by decide +kernel) 0 rfl rfl rfl rfl (Nat.le_of_ble_eq_true rfl) dX2_hasPair_2 ⟨by decide, by decide⟩ ⟨Nat.le_of_ble_eq_true rfl, Nat.le_of_ble_eq_true rfl⟩ ?_
  refine x_if_eqB (tgt := 25) S dX2_hasPair_5 (by decide) (fun ha => ?_) (fun ha => ?_)
  · refine x_iconst (v := 0) S dX2_hasPair_25 rfl ?_
    exact x_ret hret (if_neg (fun q => ha q.1)).symm dX2_hasPair_26
  refine x_aload_n S dX2_hasPair_8 0 rfl rfl ?_
  refine x_iload_n S dX2_hasPair_9 2 rfl rfl ?_
  refine x_cVi (n := 1) S (c_hasNode b) (gGV gC tw186 tw183 tw184 tw185 tw2) rfl (by decide +kernel) 0 rfl rfl rfl rfl (Nat.le_of_ble_eq_true rfl) dX2_hasPair_10 ⟨by decide, by decide⟩ ⟨Nat.le_of_ble_eq_true rfl, Nat.le_of_ble_eq_true rfl⟩ ?_
  refine x_if_eqB (tgt := 25) S dX2_hasPair_13 (by decide) (fun hb => ?_) (fun hb => ?_)
  · refine x_iconst (v := 0) S dX2_hasPair_25 rfl ?_
    exact x_ret hret (if_neg (fun q => hb q.2.1)).symm dX2_hasPair_26
  refine x_iload_n S dX2_hasPair_16 1 rfl rfl ?_
  refine x_iload_n S dX2_hasPair_17 2 rfl rfl ?_
  refine x_icmp_eq (tgt := 25) S dX2_hasPair_18 (by decide) (fun h3 => ?_) (fun h3 => ?_)
  · refine x_iconst (v := 0) S dX2_hasPair_25 rfl ?_
    exact x_ret hret (if_neg (fun q => q.2.2 h3)).symm dX2_hasPair_26
  refine x_iconst (v := 1) S dX2_hasPair_21 rfl ?_
  refine x_goto (tgt := 26) S dX2_hasPair_22 (by decide) ?_
  exact x_ret hret (if_pos ⟨ha, hb, h3⟩).symm dX2_hasPair_26
set_option maxHeartbeats 4000000 in
set_option maxRecDepth 100000 in
theorem c_allNodes (hn : n ≤ 12) : xMet l yX2_allNodes wX2_allNodes (rD 0) D vwCl (tyC cI cII cP cZ) nwC [.ref (ad 0)] (cw ad cI cII cP n am al ch fr to wt nb M tch cu rch pa br gp P ++ X) (cw ad cI cII cP n am al ch fr to wt nb M tch cu rch pa br gp P ++ X) (some (.int (nI (2 ^ n - 1)))) := by
  refine xMet_of (cc := cX2_allNodes) (maxL := 1) (ret := (some .int)) (by decide +kernel) rfl (Nat.le_of_ble_eq_true rfl) xfi ?_
  intro E S hnm hret
  show xW E D vwCl 1 0 0 _ [(0, .ref (ad 0))] 0 []
  refine x_iconst (v := 1) S dX2_allNodes_0 rfl ?_
  refine x_aload_n S dX2_allNodes_1 0 rfl rfl ?_
  refine x_get S 0 5 rfl rfl inC2 (by decide) (gC _ tw36) rfl rfl dX2_allNodes_2 ?_
  refine x_ishl S dX2_allNodes_5 ?_
  refine x_iconst (v := 1) S dX2_allNodes_6 rfl ?_
  refine x_isub S dX2_allNodes_7 ?_
  refine x_ret hret ?_ dX2_allNodes_8
  rw [pl_one (by omega)]
  exact pk_sub (Nat.two_pow_pos n)
set_option maxHeartbeats 4000000 in
set_option maxRecDepth 100000 in
theorem c_hasSet (hn : n ≤ 12) (s : Int32) : xMet l yX2_hasSet wX2_hasSet (rD 1) D vwCl (tyC cI cII cP cZ) nwC [.ref (ad 0), .int s] (cw ad cI cII cP n am al ch fr to wt nb M tch cu rch pa br gp P ++ X) (cw ad cI cII cP n am al ch fr to wt nb M tch cu rch pa br gp P ++ X) (some (.int (if 0 ≤ s ∧ s ≤ nI (2 ^ n - 1) then 1 else 0))) := by
  refine xMet_of (cc := cX2_hasSet) (maxL := 2) (ret := (some .boolean)) (by decide +kernel) rfl (Nat.le_of_ble_eq_true rfl) xfz ?_
  intro E S hnm hret
  show xW E D vwCl 2 0 0 _ [(0, .ref (ad 0)), (1, .int s)] 0 []
  refine x_iload_n S dX2_hasSet_0 1 rfl rfl ?_
  refine x_if_lt (tgt := 16) S dX2_hasSet_1 (by decide) (fun h1 => ?_) (fun h1 => ?_)
  · refine x_iconst (v := 0) S dX2_hasSet_16 rfl ?_
    exact x_ret hret (if_neg (fun q => Int32.not_lt.mpr q.1 h1)).symm dX2_hasSet_17
  refine x_iload_n S dX2_hasSet_4 1 rfl rfl ?_
  refine x_aload_n S dX2_hasSet_5 0 rfl rfl ?_
  refine x_cVi (n := 0) S (c_allNodes hn) (gGV gC tw230 tw227 tw228 tw229 tw2) rfl (by decide +kernel) 0 rfl rfl rfl rfl (Nat.le_of_ble_eq_true rfl) dX2_hasSet_6 ⟨by decide, by decide⟩ ⟨Nat.le_of_ble_eq_true rfl, Nat.le_of_ble_eq_true rfl⟩ ?_
  refine x_icmp_gt (tgt := 16) S dX2_hasSet_9 (by decide) (fun h2 => ?_) (fun h2 => ?_)
  · refine x_iconst (v := 0) S dX2_hasSet_16 rfl ?_
    exact x_ret hret (if_neg (fun q => Int32.not_lt.mpr q.2 h2)).symm dX2_hasSet_17
  refine x_iconst (v := 1) S dX2_hasSet_12 rfl ?_
  refine x_goto (tgt := 17) S dX2_hasSet_13 (by decide) ?_
  exact x_ret hret (if_pos ⟨Int32.not_lt.mp h1, Int32.not_lt.mp h2⟩).symm dX2_hasSet_17
set_option maxHeartbeats 4000000 in
set_option maxRecDepth 100000 in
theorem c_addNode : xMet l yX2_addNode wX2_addNode (rD 0) D vwCl (tyC cI cII cP cZ) nwC [.ref (ad 0)] (cw ad cI cII cP n am al ch fr to wt nb M tch cu rch pa br gp P ++ X) (cw ad cI cII cP (n + 1) am al (ch + 1) fr to wt nb M tch cu rch pa br gp P ++ X) (some (.int (nI n))) := by
  refine xMet_of (cc := cX2_addNode) (maxL := 1) (ret := (some .int)) (by decide +kernel) rfl (Nat.le_of_ble_eq_true rfl) xfi ?_
  intro E S hnm hret
  show xW E D vwCl 1 0 0 _ [(0, .ref (ad 0))] 0 []
  refine x_aload_n S dX2_addNode_0 0 rfl rfl ?_
  refine x_dup S dX2_addNode_1 rfl ?_
  refine x_get S 0 8 rfl rfl inC2 (by decide) (gC _ tw46) rfl rfl dX2_addNode_2 ?_
  refine x_iconst (v := 1) S dX2_addNode_5 rfl ?_
  refine x_iadd S dX2_addNode_6 ?_
  refine x_top (nI (ch + 1)) (nI_1 ch) ?_
  refine x_put (ws' := (cw ad cI cII cP n am al (ch + 1) fr to wt nb M tch cu rch pa br gp P ++ X)) S 0 8 rfl rfl inC2 tyX2 tyX2_ok nmX2 (by decide) (gC _ tw46) rfl rfl (tyX2_ok 8 (by decide)) rfl rfl (Nat.le_of_ble_eq_true rfl) dX2_addNode_7 rfl ?_
  refine x_aload_n S dX2_addNode_10 0 rfl rfl ?_
  refine x_dup S dX2_addNode_11 rfl ?_
  refine x_get S 0 5 rfl rfl inC2 (by decide) (gC _ tw36) rfl rfl dX2_addNode_12 ?_
  refine x_iconst (v := 1) S dX2_addNode_15 rfl ?_
  refine x_iadd S dX2_addNode_16 ?_
  refine x_top (nI (n + 1)) (nI_1 n) ?_
  refine x_put (ws' := (cw ad cI cII cP (n + 1) am al (ch + 1) fr to wt nb M tch cu rch pa br gp P ++ X)) S 0 5 rfl rfl inC2 tyX2 tyX2_ok nmX2 (by decide) (gC _ tw36) rfl rfl (tyX2_ok 5 (by decide)) rfl rfl (Nat.le_of_ble_eq_true rfl) dX2_addNode_17 rfl ?_
  refine x_aload_n S dX2_addNode_20 0 rfl rfl ?_
  refine x_get S 0 5 rfl rfl inC2 (by decide) (gC _ tw36) rfl rfl dX2_addNode_21 ?_
  refine x_iconst (v := 1) S dX2_addNode_24 rfl ?_
  refine x_isub S dX2_addNode_25 ?_
  exact x_ret hret (nI_pred n) dX2_addNode_26
set_option maxHeartbeats 4000000 in
set_option maxRecDepth 100000 in
theorem c_cutAround {s : Nat} (hs : s < 4096) (ham : am ≤ 50) (hf : ∀ i, i < am → fr i < 12 ∧ to i < 12) : xMet l yX2_cutAround wX2_cutAround (rD 0) D vwCl (tyC cI cII cP cZ) nwC [.ref (ad 0), .int (nI s)] (cw ad cI cII cP n am al ch fr to wt nb M tch cu rch pa br gp P ++ X) (cw ad cI cII cP n am al ch fr to wt nb M tch cu rch pa br gp P ++ X) (some (.int (nI (kC fr to wt am s)))) := by
  refine xMet_of (cc := cX2_cutAround) (maxL := 4) (ret := (some .int)) (by decide +kernel) rfl (Nat.le_of_ble_eq_true rfl) xfi ?_
  intro E S hnm hret
  show xW E D vwCl 4 0 0 _ [(0, .ref (ad 0)), (1, .int (nI s))] 0 []
  have L : ∀ k, k ≤ am → xW E D vwCl 4 0 0 (cw ad cI cII cP n am al ch fr to wt nb M tch cu rch pa br gp P ++ X) [(0, .ref (ad 0)), (1, .int (nI s)), (2, .int (nI (kC fr to wt k s))), (3, .int (nI k))] 4 [] := by
    refine pl_up am (fun k hk ih => ?_)
    refine x_iload_n S dX2_cutAround_4 3 rfl rfl ?_
    refine x_aload_n S dX2_cutAround_5 0 rfl rfl ?_
    refine x_get S 0 6 rfl rfl inC2 (by decide) (gC _ tw42) rfl rfl dX2_cutAround_6 ?_
    refine x_icmp_ge (tgt := 50) S dX2_cutAround_9 (by decide) (fun h1 => ?_) (fun h1 => ?_)
    · refine x_iload_n S dX2_cutAround_50 2 rfl rfl ?_
      have hk2 : k = am := Nat.le_antisymm hk ((nI_leI (by omega) (by omega)).mp h1)
      subst hk2
      exact x_ret hret rfl dX2_cutAround_51
    have hk2 : k < am := Nat.lt_of_not_le (fun q => h1 (nI_le q (by omega)))
    obtain ⟨hf1, hf2⟩ := hf k hk2
    refine x_iload_n S dX2_cutAround_12 1 rfl rfl ?_
    refine x_aload_n S dX2_cutAround_13 0 rfl rfl ?_
    refine x_get S 0 0 rfl rfl inC2 (by decide) (gC _ tw26) rfl rfl dX2_cutAround_14 ?_
    refine x_iload_n S dX2_cutAround_17 3 rfl rfl ?_
    refine x_ialdN S 1 0 (k) rfl rfl rfl (by omega) (by decide) dX2_cutAround_18 ?_
    refine x_ishr S dX2_cutAround_19 ?_
    refine x_iconst (v := 1) S dX2_cutAround_20 rfl ?_
    refine x_iand S dX2_cutAround_21 ?_
    refine x_iload_n S dX2_cutAround_22 1 rfl rfl ?_
    refine x_aload_n S dX2_cutAround_23 0 rfl rfl ?_
    refine x_get S 0 1 rfl rfl inC2 (by decide) (gC _ tw28) rfl rfl dX2_cutAround_24 ?_
    refine x_iload_n S dX2_cutAround_27 3 rfl rfl ?_
    refine x_ialdN S 2 0 (k) rfl rfl rfl (by omega) (by decide) dX2_cutAround_28 ?_
    refine x_ishr S dX2_cutAround_29 ?_
    refine x_iconst (v := 1) S dX2_cutAround_30 rfl ?_
    refine x_iand S dX2_cutAround_31 ?_
    refine x_icmp_eq (tgt := 44) S dX2_cutAround_32 (by decide) (fun h2 => ?_) (fun h2 => ?_)
    rotate_left
    · refine x_iload_n S dX2_cutAround_35 2 rfl rfl ?_
      refine x_aload_n S dX2_cutAround_36 0 rfl rfl ?_
      refine x_get S 0 2 rfl rfl inC2 (by decide) (gC _ tw30) rfl rfl dX2_cutAround_37 ?_
      refine x_iload_n S dX2_cutAround_40 3 rfl rfl ?_
      refine x_ialdN S 3 0 (k) rfl rfl rfl (by omega) (by decide) dX2_cutAround_41 ?_
      refine x_iadd S dX2_cutAround_42 ?_
      refine x_top (nI (kC fr to wt (k + 1) s)) ?_ ?_
      · rw [nI_add]
        congr 1
        rw [kC_succ, if_neg (fun q => h2 ((pl_bite (by omega) (by omega) (by omega)).mpr q))]
      refine x_istore_n (lv' := [(2, .int _), (0, .ref _), (1, .int _), (3, .int _)]) S dX2_cutAround_43 rfl (by decide) rfl ?_
      refine x_iincN (lv' := [(3, .int _), (2, .int _), (0, .ref _), (1, .int _)]) S dX2_cutAround_44 3 rfl (by decide) rfl ?_
      refine x_goto (tgt := 4) S dX2_cutAround_47 (by decide) ?_
      exact x_sub [2, 3, 1, 0] rfl (ih hk2)
    refine x_iincN (lv' := [(3, .int _), (0, .ref _), (1, .int _), (2, .int _)]) S dX2_cutAround_44 3 rfl (by decide) rfl ?_
    refine x_goto (tgt := 4) S dX2_cutAround_47 (by decide) ?_
    have e : kC fr to wt (k + 1) s = kC fr to wt k s := by
      rw [kC_succ, if_pos ((pl_bite (by omega) (by omega) (by omega)).mp h2)]
      rfl
    rw [← e]
    exact x_sub [1, 2, 3, 0] rfl (ih hk2)
  refine x_iconst (v := 0) S dX2_cutAround_0 rfl ?_
  refine x_istore_n (lv' := [(2, .int _), (0, .ref _), (1, .int _)]) S dX2_cutAround_1 rfl (by decide) rfl ?_
  refine x_iconst (v := 0) S dX2_cutAround_2 rfl ?_
  refine x_istore_n (lv' := [(3, .int _), (2, .int _), (0, .ref _), (1, .int _)]) S dX2_cutAround_3 rfl (by decide) rfl ?_
  exact x_sub [2, 3, 1, 0] rfl (L 0 (Nat.zero_le _))
end GR
