/-! Drawing: contracts -/
section DR
section DRW
variable (fr to wt gp : Nat → Nat)
/-- the weights between GROUPS, the first k ARCS counted -/
def dW (k : Nat) : Nat := sm (fun i => if gp (fr i) = gp (to i) then 0 else wt i) k
theorem dW_s (k : Nat) : dW fr to wt gp (k + 1) = dW fr to wt gp k + if gp (fr k) = gp (to k) then 0 else wt k := rfl
theorem dW_mono {i j : Nat} (h : i ≤ j) : dW fr to wt gp i ≤ dW fr to wt gp j := by
  induction j with
  | zero => have : i = 0 := by omega
            subst this; exact Nat.le_refl _
  | succ j ih =>
    rcases Nat.lt_or_ge i (j + 1) with q | q
    · have := ih (by omega)
      rw [dW_s]; omega
    · have : i = j + 1 := by omega
      subst this; exact Nat.le_refl _
theorem dW_bd {k c : Nat} (h : ∀ i, i < k → wt i ≤ c) : dW fr to wt gp k ≤ c * k := sm_bd (fun i hi => by
  have := h i hi
  split <;> omega)
/-- which ARC is drawn -/
def dPk (t : Nat) : Nat → Nat
  | 0 => 0
  | k + 1 => if t < dW fr to wt gp k then dPk t k else k
theorem dPk_ok {t : Nat} : ∀ k, t < dW fr to wt gp k → dPk fr to wt gp t k < k ∧ dW fr to wt gp (dPk fr to wt gp t k) ≤ t ∧ t < dW fr to wt gp (dPk fr to wt gp t k + 1)
  | 0, h => absurd h (by simp [dW, sm])
  | k + 1, h => by
    simp only [dPk]
    split
    · rename_i q
      have ih := dPk_ok k q
      exact ⟨by omega, ih.2⟩
    · rename_i q
      exact ⟨by omega, by omega, h⟩
end DRW
def dJ (n : Nat) (gp : Nat → Nat) (s : Nat) : Nat → Nat := fun v => if v < n ∧ s.testBit v = true then s else gp v
def dI (n : Nat) (gp : Nat → Nat) : Nat → Nat := fun v => if v < n then 2 ^ v else gp v
def dZ (z : Int32) : Int32 := z * 1664525 + 1013904223
def dT (z : Int32) (s : Nat) : Nat := z.toBitVec.toNat / 2 % s
def dD (n am : Nat) (fr to wt : Nat → Nat) : Nat → Int32 → (Nat → Nat) → Nat
  | 0, _, gp => gp 0
  | c + 1, z, gp => if dW fr to wt gp am < 1 then gp 0 else dD n am fr to wt c (dZ z) (dJ n gp (gp (fr (dPk fr to wt gp (dT (dZ z) (dW fr to wt gp am)) am)) ||| gp (to (dPk fr to wt gp (dT (dZ z) (dW fr to wt gp am)) am))))
theorem ushr1 (z : Int32) : (z.toUInt32 >>> ((1 : Int32).toUInt32 &&& Int32.toUInt32 31)).toInt32 = nI (z.toBitVec.toNat / 2) := by
  apply Int32.toBitVec_inj.1
  apply BitVec.eq_of_toNat_eq
  rw [pk_ushr z 1 1 (by decide)]
  have : z.toBitVec.toNat < 2 ^ 32 := z.toBitVec.isLt
  rw [pk_tn (by omega)]
theorem tN_lt (z : Int32) : z.toBitVec.toNat / 2 < 2 ^ 31 := by
  have : z.toBitVec.toNat < 2 ^ 32 := z.toBitVec.isLt
  omega
theorem nI_dec (c : Nat) : nI (c + 1) + Int32.ofInt (-1) = nI c := pk_m1 c
theorem dPk_congr {fr to wt g g' : Nat → Nat} {t : Nat} : ∀ {k : Nat}, (∀ j, j ≤ k → dW fr to wt g j = dW fr to wt g' j) → dPk fr to wt g t k = dPk fr to wt g' t k
  | 0, _ => rfl
  | k + 1, h => by
    simp only [dPk]
    rw [h k (by omega), dPk_congr (fun j hj => h j (by omega))]
variable {l : Launch} {D : va_G} {ad : Nat → Nat} {cI cII cP cZ : ClassId} {n am al ch : Nat} {fr to wt nb : Nat → Nat} {M : Nat → Nat → Nat} {tch : Int32} {cu : Nat → Nat} {rch : Int32} {pa br gp : Nat → Nat} {P : Nat → Int32 × Nat × (Nat → Nat) × (Nat → Nat)} {X : va_W}
set_option maxHeartbeats 4000000 in
set_option maxRecDepth 100000 in
theorem c_isBetweenGroups {k : Nat} (hA : aOK n am fr to wt) (hg : ∀ v, v < n → gp v < 4096) (hk : k < am) : xMet l yX1_isBetweenGroups wX1_isBetweenGroups (rD 0) D vwCl (tyC cI cII cP cZ) nwC [.ref (ad 23), .int (nI k)] (cw ad cI cII cP n am al ch fr to wt nb M tch cu rch pa br gp P ++ X) (cw ad cI cII cP n am al ch fr to wt nb M tch cu rch pa br gp P ++ X) (some (.int (if gp (fr k) ≠ gp (to k) then 1 else 0))) := by
  refine xMet_of (cc := cX1_isBetweenGroups) (maxL := 2) (ret := (some .boolean)) (by decide +kernel) rfl (Nat.le_of_ble_eq_true rfl) xfz ?_
  intro E S hnm hret
  show xW E D vwCl 2 0 0 _ [(0, .ref (ad 23)), (1, .int (nI k))] 0 []
  have hn := hA.1
  have hm := hA.2.1
  obtain ⟨f1, f2, f3, f4⟩ := hA.2.2 k hk
  have g1 := hg _ f1
  have g2 := hg _ f2
  refine x_aload_n S dX1_isBetweenGroups_0 0 rfl rfl ?_
  refine x_get S 23 1 rfl rfl inC1 (by decide) (gC _ tw117) rfl rfl dX1_isBetweenGroups_1 ?_
  refine x_aload_n S dX1_isBetweenGroups_4 0 rfl rfl ?_
  refine x_get S 23 0 rfl rfl inC1 (by decide) (gC _ tw116) rfl rfl dX1_isBetweenGroups_5 ?_
  refine x_get S 0 0 rfl rfl inC2 (by decide) (gC _ tw27) rfl rfl dX1_isBetweenGroups_8 ?_
  refine x_iload_n S dX1_isBetweenGroups_11 1 rfl rfl ?_
  refine x_ialdN S 1 0 (k) rfl rfl rfl (by omega) (by decide) dX1_isBetweenGroups_12 ?_
  refine x_ialdN S 24 0 (fr k) rfl rfl rfl (by omega) (by decide) dX1_isBetweenGroups_13 ?_
  refine x_aload_n S dX1_isBetweenGroups_14 0 rfl rfl ?_
  refine x_get S 23 1 rfl rfl inC1 (by decide) (gC _ tw117) rfl rfl dX1_isBetweenGroups_15 ?_
  refine x_aload_n S dX1_isBetweenGroups_18 0 rfl rfl ?_
  refine x_get S 23 0 rfl rfl inC1 (by decide) (gC _ tw116) rfl rfl dX1_isBetweenGroups_19 ?_
  refine x_get S 0 1 rfl rfl inC2 (by decide) (gC _ tw29) rfl rfl dX1_isBetweenGroups_22 ?_
  refine x_iload_n S dX1_isBetweenGroups_25 1 rfl rfl ?_
  refine x_ialdN S 2 0 (k) rfl rfl rfl (by omega) (by decide) dX1_isBetweenGroups_26 ?_
  refine x_ialdN S 24 0 (to k) rfl rfl rfl (by omega) (by decide) dX1_isBetweenGroups_27 ?_
  refine x_icmp_eq (tgt := 35) S dX1_isBetweenGroups_28 (by decide) (fun h3 => ?_) (fun h3 => ?_)
  rotate_left
  · refine x_iconst (v := 1) S dX1_isBetweenGroups_31 rfl ?_
    refine x_goto (tgt := 36) S dX1_isBetweenGroups_32 (by decide) ?_
    exact x_ret hret (if_pos (fun q => h3 (by rw [q]))).symm dX1_isBetweenGroups_36
  refine x_iconst (v := 0) S dX1_isBetweenGroups_35 rfl ?_
  exact x_ret hret (if_neg (fun q => q (pl_inj (by omega) (by omega) h3))).symm dX1_isBetweenGroups_36
set_option maxHeartbeats 4000000 in
set_option maxRecDepth 100000 in
theorem c_weightBetweenGroups (hA : aOK n am fr to wt) (hg : ∀ v, v < n → gp v < 4096) : xMet l yX1_weightBetweenGroups wX1_weightBetweenGroups (rD 1) D vwCl (tyC cI cII cP cZ) nwC [.ref (ad 23)] (cw ad cI cII cP n am al ch fr to wt nb M tch cu rch pa br gp P ++ X) (cw ad cI cII cP n am al ch fr to wt nb M tch cu rch pa br gp P ++ X) (some (.int (nI (dW fr to wt gp am)))) := by
  refine xMet_of (cc := cX1_weightBetweenGroups) (maxL := 3) (ret := (some .int)) (by decide +kernel) rfl (Nat.le_of_ble_eq_true rfl) xfi ?_
  intro E S hnm hret
  show xW E D vwCl 3 0 0 _ [(0, .ref (ad 23))] 0 []
  have hn := hA.1
  have hm := hA.2.1
  have L : ∀ k, k ≤ am → xW E D vwCl 3 0 0 (cw ad cI cII cP n am al ch fr to wt nb M tch cu rch pa br gp P ++ X) [(0, .ref (ad 23)), (1, .int (nI (dW fr to wt gp k))), (2, .int (nI k))] 4 [] := by
    refine pl_up am (fun k hk ih => ?_)
    refine x_iload_n S dX1_weightBetweenGroups_4 2 rfl rfl ?_
    refine x_aload_n S dX1_weightBetweenGroups_5 0 rfl rfl ?_
    refine x_get S 23 0 rfl rfl inC1 (by decide) (gC _ tw116) rfl rfl dX1_weightBetweenGroups_6 ?_
    refine x_get S 0 6 rfl rfl inC2 (by decide) (gC _ tw44) rfl rfl dX1_weightBetweenGroups_9 ?_
    refine x_icmp_ge (tgt := 41) S dX1_weightBetweenGroups_12 (by decide) (fun h3 => ?_) (fun h3 => ?_)
    · have hk2 : k = am := Nat.le_antisymm hk ((nI_leI (by omega) (by omega)).mp h3)
      subst hk2
      refine x_iload_n S dX1_weightBetweenGroups_41 1 rfl rfl ?_
      exact x_ret hret rfl dX1_weightBetweenGroups_42
    have hk2 : k < am := Nat.lt_of_not_le (fun h => h3 (nI_le h (by omega)))
    have ih := ih hk2
    rw [dW_s] at ih
    refine x_aload_n S dX1_weightBetweenGroups_15 0 rfl rfl ?_
    refine x_iload_n S dX1_weightBetweenGroups_16 2 rfl rfl ?_
    refine x_cVi (n := 1) S (c_isBetweenGroups hA hg hk2) (gGV gC tw359 tw356 tw358 ts6 tw5) rfl (by decide +kernel) 23 rfl rfl rfl rfl (Nat.le_of_ble_eq_true rfl) dX1_weightBetweenGroups_17 ⟨by decide, by decide⟩ ⟨Nat.le_of_ble_eq_true rfl, Nat.le_of_ble_eq_true rfl⟩ ?_
    refine x_if_eqB (tgt := 35) S dX1_weightBetweenGroups_20 (by decide) (fun h4 => ?_) (fun h4 => ?_)
    · rw [if_pos (Classical.byContradiction h4)] at ih
      refine x_iincN (lv' := [(2, .int _), (0, .ref _), (1, .int _)]) S dX1_weightBetweenGroups_35 2 rfl (by decide) rfl ?_
      refine x_goto (tgt := 4) S dX1_weightBetweenGroups_38 (by decide) ?_
      exact x_sub [1, 2, 0] rfl (ih)
    rw [if_neg h4] at ih
    refine x_iload_n S dX1_weightBetweenGroups_23 1 rfl rfl ?_
    refine x_aload_n S dX1_weightBetweenGroups_24 0 rfl rfl ?_
    refine x_get S 23 0 rfl rfl inC1 (by decide) (gC _ tw116) rfl rfl dX1_weightBetweenGroups_25 ?_
    refine x_get S 0 2 rfl rfl inC2 (by decide) (gC _ tw31) rfl rfl dX1_weightBetweenGroups_28 ?_
    refine x_iload_n S dX1_weightBetweenGroups_31 2 rfl rfl ?_
    refine x_ialdN S 3 0 (k) rfl rfl rfl (by omega) (by decide) dX1_weightBetweenGroups_32 ?_
    refine x_iadd S dX1_weightBetweenGroups_33 ?_
    refine x_top (nI (dW fr to wt gp k + wt k)) (nI_add _ _) ?_
    refine x_istore_n (lv' := [(1, .int _), (0, .ref _), (2, .int _)]) S dX1_weightBetweenGroups_34 rfl (by decide) rfl ?_
    refine x_iincN (lv' := [(2, .int _), (1, .int _), (0, .ref _)]) S dX1_weightBetweenGroups_35 2 rfl (by decide) rfl ?_
    refine x_goto (tgt := 4) S dX1_weightBetweenGroups_38 (by decide) ?_
    exact x_sub [2, 1, 0] rfl (ih)
  refine x_iconst (v := 0) S dX1_weightBetweenGroups_0 rfl ?_
  refine x_istore_n (lv' := [(1, .int _), (0, .ref _)]) S dX1_weightBetweenGroups_1 rfl (by decide) rfl ?_
  refine x_iconst (v := 0) S dX1_weightBetweenGroups_2 rfl ?_
  refine x_istore_n (lv' := [(2, .int _), (1, .int _), (0, .ref _)]) S dX1_weightBetweenGroups_3 rfl (by decide) rfl ?_
  exact x_sub [2, 1, 0] rfl (L 0 (Nat.zero_le _))
set_option maxHeartbeats 4000000 in
set_option maxRecDepth 100000 in
theorem c_joinGroups {s : Nat} (hn : n ≤ 12) (hs : s < 4096) : xMetS l yX1_joinGroups wX1_joinGroups (rD 0) D vwCl (tyC cI cII cP cZ) nwC [.ref (ad 23), .int (nI s)] (cw ad cI cII cP n am al ch fr to wt nb M tch cu rch pa br gp P ++ X) (fun g : Nat → Nat => ∀ v, v < n → g v = dJ n gp s v) (fun g => (cw ad cI cII cP n am al ch fr to wt nb M tch cu rch pa br g P ++ X)) (fun _ => none) := by
  refine xMetS_of (cc := cX1_joinGroups) (maxL := 3) (ret := none) (by decide +kernel) rfl (Nat.le_of_ble_eq_true rfl) (fun _ _ => xfv) ?_
  intro E S hnm hret
  show xW E D vwCl 3 0 0 _ [(0, .ref (ad 23)), (1, .int (nI s))] 0 []
  have L : ∀ k, k ≤ n → ∀ g : Nat → Nat, (∀ v, v < k → g v = dJ n gp s v) → (∀ v, k ≤ v → v < n → g v = gp v) → xW E D vwCl 3 0 0 (cw ad cI cII cP n am al ch fr to wt nb M tch cu rch pa br g P ++ X) [(0, .ref (ad 23)), (1, .int (nI s)), (2, .int (nI k))] 2 [] := by
    refine pl_up n (fun k hk ih => ?_)
    intro g g1 g2
    refine x_iload_n S dX1_joinGroups_2 2 rfl rfl ?_
    refine x_aload_n S dX1_joinGroups_3 0 rfl rfl ?_
    refine x_get S 23 0 rfl rfl inC1 (by decide) (gC _ tw116) rfl rfl dX1_joinGroups_4 ?_
    refine x_get S 0 5 rfl rfl inC2 (by decide) (gC _ tw38) rfl rfl dX1_joinGroups_7 ?_
    refine x_icmp_ge (tgt := 35) S dX1_joinGroups_10 (by decide) (fun h3 => ?_) (fun h3 => ?_)
    · have hk2 : k = n := Nat.le_antisymm hk ((nI_leI (by omega) (by omega)).mp h3)
      subst hk2
      exact hret (g) _ _ g1 dX1_joinGroups_35
    have hk2 : k < n := Nat.lt_of_not_le (fun h => h3 (nI_le h (by omega)))
    have ih := ih hk2
    refine x_iload_n S dX1_joinGroups_13 1 rfl rfl ?_
    refine x_iload_n S dX1_joinGroups_14 2 rfl rfl ?_
    refine x_ishr S dX1_joinGroups_15 ?_
    refine x_iconst (v := 1) S dX1_joinGroups_16 rfl ?_
    refine x_iand S dX1_joinGroups_17 ?_
    refine x_iconst (v := 1) S dX1_joinGroups_18 rfl ?_
    refine x_icmp_ne (tgt := 29) S dX1_joinGroups_19 (by decide) (fun h4 => ?_) (fun h4 => ?_)
    rotate_left
    · refine x_aload_n S dX1_joinGroups_22 0 rfl rfl ?_
      refine x_get S 23 1 rfl rfl inC1 (by decide) (gC _ tw117) rfl rfl dX1_joinGroups_23 ?_
      refine x_iload_n S dX1_joinGroups_26 2 rfl rfl ?_
      refine x_iload_n S dX1_joinGroups_27 1 rfl rfl ?_
      refine x_iastN (ws' := (cw ad cI cII cP n am al ch fr to wt nb M tch cu rch pa br (va_up g k s) P ++ X)) S 24 0 (k) rfl rfl rfl (by omega) (by decide) rfl dX1_joinGroups_28 rfl ?_
      refine x_iincN (lv' := [(2, .int _), (0, .ref _), (1, .int _)]) S dX1_joinGroups_29 2 rfl (by decide) rfl ?_
      refine x_goto (tgt := 2) S dX1_joinGroups_32 (by decide) ?_
      exact x_sub [1, 2, 0] rfl (ih _ (fun v hv => (Nat.lt_or_ge v k).elim (fun h => by rw [va_up_ne _ _ (by omega)]; exact g1 v h) (fun h => by have e : v = k := (by omega); subst e; rw [va_up_self]; unfold dJ; rw [if_pos ⟨hk2, (pl_bit1 (by omega) (by omega)).mp h4⟩])) (fun v h h' => by rw [va_up_ne _ _ (by omega)]; exact g2 v (by omega) h'))
    refine x_iincN (lv' := [(2, .int _), (0, .ref _), (1, .int _)]) S dX1_joinGroups_29 2 rfl (by decide) rfl ?_
    refine x_goto (tgt := 2) S dX1_joinGroups_32 (by decide) ?_
    exact x_sub [1, 2, 0] rfl (ih g (fun v hv => (Nat.lt_or_ge v k).elim (fun h => g1 v h) (fun h => by have e : v = k := (by omega); subst e; unfold dJ; rw [if_neg (fun q => h4 ((pl_bit1 (by omega) (by omega)).mpr q.2))]; exact g2 v (Nat.le_refl _) hk2)) (fun v h h' => g2 v (by omega) h'))
  refine x_iconst (v := 0) S dX1_joinGroups_0 rfl ?_
  refine x_istore_n (lv' := [(2, .int _), (0, .ref _), (1, .int _)]) S dX1_joinGroups_1 rfl (by decide) rfl ?_
  exact x_sub [1, 2, 0] rfl (L 0 (Nat.zero_le _) gp (fun v hv => absurd hv (by omega)) (fun v _ _ => rfl))
set_option maxHeartbeats 4000000 in
set_option maxRecDepth 100000 in
theorem c_joinByArcAt {t i : Nat} (hA : aOK n am fr to wt) (hg : ∀ v, v < n → gp v < 4096) (hi : i < am) (ht : t < 2 ^ 31) (h1 : dW fr to wt gp i ≤ t) (h2 : t < dW fr to wt gp (i + 1)) : xMetS l yX1_joinByArcAt wX1_joinByArcAt (rD 1) D vwCl (tyC cI cII cP cZ) nwC [.ref (ad 23), .int (nI t)] (cw ad cI cII cP n am al ch fr to wt nb M tch cu rch pa br gp P ++ X) (fun g : Nat → Nat => ∀ v, v < n → g v = dJ n gp (gp (fr i) ||| gp (to i)) v) (fun g => (cw ad cI cII cP n am al ch fr to wt nb M tch cu rch pa br g P ++ X)) (fun _ => none) := by
  refine xMetS_of (cc := cX1_joinByArcAt) (maxL := 4) (ret := none) (by decide +kernel) rfl (Nat.le_of_ble_eq_true rfl) (fun _ _ => xfv) ?_
  intro E S hnm hret
  show xW E D vwCl 4 0 0 _ [(0, .ref (ad 23)), (1, .int (nI t))] 0 []
  have hn := hA.1
  have hm := hA.2.1
  have hbd : ∀ k, k ≤ am → dW fr to wt gp k ≤ 50000 := fun k hk => by
    have := dW_bd fr to wt gp (k := k) (c := 1000) (fun j hj => (hA.2.2 j (by omega)).2.2.2)
    omega
  have L : ∀ k, k ≤ i → xW E D vwCl 4 0 0 (cw ad cI cII cP n am al ch fr to wt nb M tch cu rch pa br gp P ++ X) [(0, .ref (ad 23)), (1, .int (nI t)), (2, .int (nI (dW fr to wt gp k))), (3, .int (nI k))] 4 [] := by
    refine pl_up i (fun k hk ih => ?_)
    refine x_iload_n S dX1_joinByArcAt_4 3 rfl rfl ?_
    refine x_aload_n S dX1_joinByArcAt_5 0 rfl rfl ?_
    refine x_get S 23 0 rfl rfl inC1 (by decide) (gC _ tw116) rfl rfl dX1_joinByArcAt_6 ?_
    refine x_get S 0 6 rfl rfl inC2 (by decide) (gC _ tw44) rfl rfl dX1_joinByArcAt_9 ?_
    refine x_icmp_ge (tgt := 80) S dX1_joinByArcAt_12 (by decide) (fun h3 => ?_) (fun h3 => ?_)
    · exact absurd h3 (nI_ge (by omega) (by omega))
    have hka : k < am := by omega
    obtain ⟨f1, f2, f3, f4⟩ := hA.2.2 k hka
    have b1 := hbd k (by omega)
    have b2 := hbd (k + 1) (by omega)
    have e := dW_s fr to wt gp k
    have hmn := dW_mono fr to wt gp hk
    refine x_aload_n S dX1_joinByArcAt_15 0 rfl rfl ?_
    refine x_iload_n S dX1_joinByArcAt_16 3 rfl rfl ?_
    refine x_cVi (n := 1) S (c_isBetweenGroups hA hg hka) (gGV gC tw359 tw356 tw358 ts6 tw5) rfl (by decide +kernel) 23 rfl rfl rfl rfl (Nat.le_of_ble_eq_true rfl) dX1_joinByArcAt_17 ⟨by decide, by decide⟩ ⟨Nat.le_of_ble_eq_true rfl, Nat.le_of_ble_eq_true rfl⟩ ?_
    refine x_if_eqB (tgt := 74) S dX1_joinByArcAt_20 (by decide) (fun h4 => ?_) (fun h4 => ?_)
    · rw [if_pos (Classical.byContradiction h4)] at e
      have hki : k < i := by
        rcases Nat.lt_or_ge k i with q | q
        · exact q
        · have hk3 : k = i := by omega
          subst hk3
          omega
      refine x_iincN (lv' := [(3, .int _), (0, .ref _), (1, .int _), (2, .int _)]) S dX1_joinByArcAt_74 3 rfl (by decide) rfl ?_
      refine x_goto (tgt := 4) S dX1_joinByArcAt_77 (by decide) ?_
      rw [← Nat.add_zero (dW fr to wt gp k), ← e]
      exact x_sub [1, 2, 3, 0] rfl (ih hki)
    rw [if_neg h4] at e
    refine x_iload_n S dX1_joinByArcAt_23 2 rfl rfl ?_
    refine x_aload_n S dX1_joinByArcAt_24 0 rfl rfl ?_
    refine x_get S 23 0 rfl rfl inC1 (by decide) (gC _ tw116) rfl rfl dX1_joinByArcAt_25 ?_
    refine x_get S 0 2 rfl rfl inC2 (by decide) (gC _ tw31) rfl rfl dX1_joinByArcAt_28 ?_
    refine x_iload_n S dX1_joinByArcAt_31 3 rfl rfl ?_
    refine x_ialdN S 3 0 (k) rfl rfl rfl (by omega) (by decide) dX1_joinByArcAt_32 ?_
    refine x_iadd S dX1_joinByArcAt_33 ?_
    refine x_top (nI (dW fr to wt gp (k + 1))) (by rw [nI_add, e]) ?_
    refine x_istore_n (lv' := [(2, .int _), (0, .ref _), (1, .int _), (3, .int _)]) S dX1_joinByArcAt_34 rfl (by decide) rfl ?_
    refine x_iload_n S dX1_joinByArcAt_35 0 rfl rfl ?_
    refine x_iload_n S dX1_joinByArcAt_36 2 rfl rfl ?_
    refine x_icmp_le (tgt := 74) S dX1_joinByArcAt_37 (by decide) (fun h5 => ?_) (fun h5 => ?_)
    · have h5 := (nI_leI (by omega) ht).mp h5
      have hki : k < i := by
        rcases Nat.lt_or_ge k i with q | q
        · exact q
        · have hk3 : k = i := by omega
          subst hk3
          omega
      refine x_iincN (lv' := [(3, .int _), (2, .int _), (0, .ref _), (1, .int _)]) S dX1_joinByArcAt_74 3 rfl (by decide) rfl ?_
      refine x_goto (tgt := 4) S dX1_joinByArcAt_77 (by decide) ?_
      exact x_sub [2, 3, 1, 0] rfl (ih hki)
    have h5 : t < dW fr to wt gp (k + 1) := Nat.lt_of_not_le (fun q => h5 (nI_le q ht))
    have hk3 : k = i := by
      rcases Nat.lt_or_ge k i with q | q
      · have := dW_mono fr to wt gp (show k + 1 ≤ i by omega)
        omega
      · omega
    subst hk3
    refine x_aload_n S dX1_joinByArcAt_40 1 rfl rfl ?_
    refine x_aload_n S dX1_joinByArcAt_41 1 rfl rfl ?_
    refine x_get S 23 1 rfl rfl inC1 (by decide) (gC _ tw117) rfl rfl dX1_joinByArcAt_42 ?_
    refine x_aload_n S dX1_joinByArcAt_45 1 rfl rfl ?_
    refine x_get S 23 0 rfl rfl inC1 (by decide) (gC _ tw116) rfl rfl dX1_joinByArcAt_46 ?_
    refine x_get S 0 0 rfl rfl inC2 (by decide) (gC _ tw27) rfl rfl dX1_joinByArcAt_49 ?_
    refine x_iload_n S dX1_joinByArcAt_52 3 rfl rfl ?_
    refine x_ialdN S 1 0 (k) rfl rfl rfl (by omega) (by decide) dX1_joinByArcAt_53 ?_
    refine x_ialdN S 24 0 (fr k) rfl rfl rfl (by omega) (by decide) dX1_joinByArcAt_54 ?_
    refine x_aload_n S dX1_joinByArcAt_55 1 rfl rfl ?_
    refine x_get S 23 1 rfl rfl inC1 (by decide) (gC _ tw117) rfl rfl dX1_joinByArcAt_56 ?_
    refine x_aload_n S dX1_joinByArcAt_59 1 rfl rfl ?_
    refine x_get S 23 0 rfl rfl inC1 (by decide) (gC _ tw116) rfl rfl dX1_joinByArcAt_60 ?_
    refine x_get S 0 1 rfl rfl inC2 (by decide) (gC _ tw29) rfl rfl dX1_joinByArcAt_63 ?_
    refine x_iload_n S dX1_joinByArcAt_66 3 rfl rfl ?_
    refine x_ialdN S 2 0 (k) rfl rfl rfl (by omega) (by decide) dX1_joinByArcAt_67 ?_
    refine x_ialdN S 24 0 (to k) rfl rfl rfl (by omega) (by decide) dX1_joinByArcAt_68 ?_
    refine x_ior S dX1_joinByArcAt_69 ?_
    refine x_top (nI (gp (fr k) ||| gp (to k))) (pl_or _ _) ?_
    refine x_cVvS (n := 1) S (c_joinGroups hn (Nat.or_lt_two_pow (n := 12) (hg _ f1) (hg _ f2))) (gGV gC tw369 tw366 tw368 ts8 tw5) rfl (by decide +kernel) 23 rfl rfl rfl rfl (Nat.le_of_ble_eq_true rfl) dX1_joinByArcAt_70 ⟨by decide, by decide⟩ ⟨Nat.le_of_ble_eq_true rfl, Nat.le_of_ble_eq_true rfl⟩ (fun g hgg => ?_)
    exact hret (g) _ _ hgg dX1_joinByArcAt_73
  refine x_iconst (v := 0) S dX1_joinByArcAt_0 rfl ?_
  refine x_istore_n (lv' := [(2, .int _), (0, .ref _), (1, .int _)]) S dX1_joinByArcAt_1 rfl (by decide) rfl ?_
  refine x_iconst (v := 0) S dX1_joinByArcAt_2 rfl ?_
  refine x_istore_n (lv' := [(3, .int _), (2, .int _), (0, .ref _), (1, .int _)]) S dX1_joinByArcAt_3 rfl (by decide) rfl ?_
  exact x_sub [2, 3, 1, 0] rfl (L 0 (Nat.zero_le _))
set_option maxHeartbeats 4000000 in
set_option maxRecDepth 100000 in
theorem c_drawBy (z : Int32) (h2 : 2 ≤ n) (hA : aOK n am fr to wt) : xMetS l yX1_drawBy wX1_drawBy (rD 2) D vwCl (tyC cI cII cP cZ) nwC [.ref (ad 23), .int z] (cw ad cI cII cP n am al ch fr to wt nb M tch cu rch pa br gp P ++ X) (fun _ : Nat → Nat => True) (fun g => (cw ad cI cII cP n am al ch fr to wt nb M tch cu rch pa br g P ++ X)) (fun _ => some (.int (nI (dD n am fr to wt (n - 2) z (dI n gp))))) := by
  refine xMetS_of (cc := cX1_drawBy) (maxL := 5) (ret := (some .int)) (by decide +kernel) rfl (Nat.le_of_ble_eq_true rfl) (fun _ _ => xfi) ?_
  intro E S hnm hret
  show xW E D vwCl 5 0 0 _ [(0, .ref (ad 23)), (1, .int z)] 0 []
  have hn := hA.1
  have hm := hA.2.1
  obtain ⟨rr, hrr⟩ : ∃ rr, dD n am fr to wt (n - 2) z (dI n gp) = rr := ⟨_, rfl⟩
  rw [hrr] at hret
  have F : ∀ (lv : List (Nat × Value)) (g : Nat → Nat), g 0 = rr → xW E D vwCl 5 0 0 (cw ad cI cII cP n am al ch fr to wt nb M tch cu rch pa br g P ++ X) ((0, .ref (ad 23)) :: lv) 82 [] := by
    intro lv g hr
    refine x_aload_n S dX1_drawBy_82 0 rfl rfl ?_
    refine x_get S 23 1 rfl rfl inC1 (by decide) (gC _ tw117) rfl rfl dX1_drawBy_83 ?_
    refine x_iconst (v := 0) S dX1_drawBy_86 rfl ?_
    refine x_ialdN S 24 0 (0) rfl rfl rfl (by omega) (by decide) dX1_drawBy_87 ?_
    rw [hr]
    exact hret g _ _ trivial dX1_drawBy_88
  have L : ∀ c, c ≤ 10 → ∀ (x : Int32) (g : Nat → Nat) (g' : Nat → Nat), (∀ v, v < n → g v = g' v) → (∀ v, v < n → g v < 4096) → dD n am fr to wt c x g' = rr → xW E D vwCl 5 0 0 (cw ad cI cII cP n am al ch fr to wt nb M tch cu rch pa br g P ++ X) [(0, .ref (ad 23)), (1, .int z), (2, .int x), (3, .int (nI (c + 2)))] 38 [] := by
    intro c
    induction c with
    | zero =>
      intro hc x g g' hgg hg4 he
      refine x_iload_n S dX1_drawBy_38 3 rfl rfl ?_
      refine x_iconst (v := 2) S dX1_drawBy_39 rfl ?_
      refine x_icmp_le (tgt := 82) S dX1_drawBy_40 (by decide) (fun h3 => ?_) (fun h3 => ?_)
      · exact x_sub [0] rfl (F [] g (by rw [hgg 0 (by omega)]; exact he))
      exact absurd (by decide) h3
    | succ c ih =>
      intro hc x g g' hgg hg4 he
      refine x_iload_n S dX1_drawBy_38 3 rfl rfl ?_
      refine x_iconst (v := 2) S dX1_drawBy_39 rfl ?_
      refine x_icmp_le (tgt := 82) S dX1_drawBy_40 (by decide) (fun h3 => ?_) (fun h3 => ?_)
      · exact absurd h3 (nI_ge (a := 2) (b := c + 1 + 2) (by omega) (by omega))
      have eW : ∀ k, k ≤ am → dW fr to wt g k = dW fr to wt g' k := fun k hk => sm_congr (fun j hj => by
        obtain ⟨f1, f2, _, _⟩ := hA.2.2 j (by omega)
        rw [hgg _ f1, hgg _ f2])
      have b2 : dW fr to wt g am ≤ 50000 := by
        have := dW_bd fr to wt g (k := am) (c := 1000) (fun j hj => (hA.2.2 j (by omega)).2.2.2)
        omega
      simp only [dD] at he
      rw [← eW am (Nat.le_refl _)] at he
      refine x_aload_n S dX1_drawBy_43 0 rfl rfl ?_
      refine x_cVi (n := 0) S (c_weightBetweenGroups hA hg4) (gGV gC tw355 tw352 tw354 ts5 tw5) rfl (by decide +kernel) 23 rfl rfl rfl rfl (Nat.le_of_ble_eq_true rfl) dX1_drawBy_44 ⟨by decide, by decide⟩ ⟨Nat.le_of_ble_eq_true rfl, Nat.le_of_ble_eq_true rfl⟩ ?_
      refine x_istore (lv' := [(4, .int _), (0, .ref _), (1, .int _), (2, .int _), (3, .int _)]) S dX1_drawBy_47 (by decide) rfl ?_
      refine x_iload S dX1_drawBy_49 0 rfl ?_
      refine x_iconst (v := 1) S dX1_drawBy_51 rfl ?_
      refine x_icmp_ge (tgt := 58) S dX1_drawBy_52 (by decide) (fun h4 => ?_) (fun h4 => ?_)
      rotate_left
      · refine x_goto (tgt := 82) S dX1_drawBy_55 (by decide) ?_
        have h4 : dW fr to wt g am < 1 := Nat.lt_of_not_le (fun q => h4 (nI_le q (by omega)))
        rw [if_pos h4] at he
        exact x_sub [1] rfl (F [] g (by rw [hgg 0 (by omega)]; exact he))
      have h4 : ¬ dW fr to wt g am < 1 := fun q => nI_ge q (by omega) h4
      rw [if_neg h4] at he
      refine x_iload_n S dX1_drawBy_58 3 rfl rfl ?_
      refine x_ldc S (gC _ tw360) dX1_drawBy_59 ?_
      refine x_imul S dX1_drawBy_61 ?_
      refine x_ldc S (gC _ tw361) dX1_drawBy_62 ?_
      refine x_iadd S dX1_drawBy_64 ?_
      refine x_top (dZ x) rfl ?_
      refine x_istore_n (lv' := [(2, .int _), (4, .int _), (0, .ref _), (1, .int _), (3, .int _)]) S dX1_drawBy_65 rfl (by decide) rfl ?_
      refine x_aload_n S dX1_drawBy_66 2 rfl rfl ?_
      refine x_iload_n S dX1_drawBy_67 0 rfl rfl ?_
      refine x_iconst (v := 1) S dX1_drawBy_68 rfl ?_
      refine x_iushr S dX1_drawBy_69 ?_
      refine x_top (nI ((dZ x).toBitVec.toNat / 2)) (ushr1 _) ?_
      refine x_iload S dX1_drawBy_70 1 rfl ?_
      refine x_irem S dX1_drawBy_72 (nI_ne0 (by omega) (by omega)) ?_
      refine x_top (nI (dT (dZ x) (dW fr to wt g am))) (pk_rem (tN_lt _) (by omega) (by omega)) ?_
      have hlt : dT (dZ x) (dW fr to wt g am) < dW fr to wt g am := Nat.mod_lt _ (by omega)
      obtain ⟨p1, p2, p3⟩ := dPk_ok fr to wt g am hlt
      have ePk : ∀ k, k ≤ am → dPk fr to wt g (dT (dZ x) (dW fr to wt g am)) k = dPk fr to wt g' (dT (dZ x) (dW fr to wt g am)) k := fun k hk => dPk_congr (fun j hj => eW j (by omega))
      rw [← ePk am (Nat.le_refl _)] at he
      generalize dPk fr to wt g (dT (dZ x) (dW fr to wt g am)) am = i at p1 p2 p3 he
      obtain ⟨f1, f2, _, _⟩ := hA.2.2 i p1
      rw [← hgg _ f1, ← hgg _ f2] at he
      refine x_cVvS (n := 1) S (c_joinByArcAt hA hg4 p1 (by omega) p2 p3) (gGV gC tw365 tw362 tw364 ts7 tw5) rfl (by decide +kernel) 23 rfl rfl rfl rfl (Nat.le_of_ble_eq_true rfl) dX1_drawBy_73 ⟨by decide, by decide⟩ ⟨Nat.le_of_ble_eq_true rfl, Nat.le_of_ble_eq_true rfl⟩ (fun g2 hg2 => ?_)
      refine x_iinc (lv' := [(3, .int _), (2, .int _), (4, .int _), (0, .ref _), (1, .int _)]) (v := nI (c + 2)) S dX1_drawBy_76 4 rfl (nI_dec (c + 2)) (by decide) rfl ?_
      refine x_goto (tgt := 38) S dX1_drawBy_79 (by decide) ?_
      have hor := Nat.or_lt_two_pow (n := 12) (hg4 _ f1) (hg4 _ f2)
      exact x_sub [3, 4, 1, 0] rfl (ih (by omega) (dZ x) g2 _ (fun v hv => by rw [hg2 v hv]; unfold dJ; rw [hgg v hv]) (fun v hv => by rw [hg2 v hv]; unfold dJ; split; exact hor; exact hg4 v hv) he)
  have L0 : ∀ k, k ≤ n → ∀ g : Nat → Nat, (∀ v, v < k → g v = 2 ^ v) → xW E D vwCl 5 0 0 (cw ad cI cII cP n am al ch fr to wt nb M tch cu rch pa br g P ++ X) [(0, .ref (ad 23)), (1, .int z), (2, .int (nI k))] 2 [] := by
    refine pl_up n (fun k hk ih => ?_)
    intro g g1
    refine x_iload_n S dX1_drawBy_2 2 rfl rfl ?_
    refine x_aload_n S dX1_drawBy_3 0 rfl rfl ?_
    refine x_get S 23 0 rfl rfl inC1 (by decide) (gC _ tw116) rfl rfl dX1_drawBy_4 ?_
    refine x_get S 0 5 rfl rfl inC2 (by decide) (gC _ tw38) rfl rfl dX1_drawBy_7 ?_
    refine x_icmp_ge (tgt := 28) S dX1_drawBy_10 (by decide) (fun h3 => ?_) (fun h3 => ?_)
    · have hk2 : k = n := Nat.le_antisymm hk ((nI_leI (by omega) (by omega)).mp h3)
      refine x_iload_n S dX1_drawBy_28 1 rfl rfl ?_
      refine x_istore_n (lv' := [(2, .int _), (0, .ref _), (1, .int _)]) S dX1_drawBy_29 rfl (by decide) rfl ?_
      refine x_aload_n S dX1_drawBy_30 1 rfl rfl ?_
      refine x_get S 23 0 rfl rfl inC1 (by decide) (gC _ tw116) rfl rfl dX1_drawBy_31 ?_
      refine x_get S 0 5 rfl rfl inC2 (by decide) (gC _ tw38) rfl rfl dX1_drawBy_34 ?_
      refine x_istore_n (lv' := [(3, .int _), (2, .int _), (0, .ref _), (1, .int _)]) S dX1_drawBy_37 rfl (by decide) rfl ?_
      have hLL := L (n - 2) (by omega) z g (dI n gp) (fun v hv => by rw [g1 v (by omega)]; unfold dI; rw [if_pos hv]) (fun v hv => by rw [g1 v (by omega)]; exact pl_pow (n := 12) (by omega)) hrr
      rw [show n - 2 + 2 = n by omega] at hLL
      exact x_sub [2, 3, 1, 0] rfl (hLL)
    have hk2 : k < n := Nat.lt_of_not_le (fun h => h3 (nI_le h (by omega)))
    refine x_aload_n S dX1_drawBy_13 0 rfl rfl ?_
    refine x_get S 23 1 rfl rfl inC1 (by decide) (gC _ tw117) rfl rfl dX1_drawBy_14 ?_
    refine x_iload_n S dX1_drawBy_17 2 rfl rfl ?_
    refine x_iconst (v := 1) S dX1_drawBy_18 rfl ?_
    refine x_iload_n S dX1_drawBy_19 2 rfl rfl ?_
    refine x_ishl S dX1_drawBy_20 ?_
    refine x_top (nI (2 ^ k)) (pl_one (by omega)) ?_
    refine x_iastN (ws' := (cw ad cI cII cP n am al ch fr to wt nb M tch cu rch pa br (va_up g k (2 ^ k)) P ++ X)) S 24 0 (k) rfl rfl rfl (by omega) (by decide) rfl dX1_drawBy_21 rfl ?_
    refine x_iincN (lv' := [(2, .int _), (0, .ref _), (1, .int _)]) S dX1_drawBy_22 2 rfl (by decide) rfl ?_
    refine x_goto (tgt := 2) S dX1_drawBy_25 (by decide) ?_
    exact x_sub [1, 2, 0] rfl (ih hk2 _ (fun v hv => (Nat.lt_or_ge v k).elim (fun h => by rw [va_up_ne _ _ (by omega)]; exact g1 v h) (fun h => by rw [show v = k by omega, va_up_self])))
  refine x_iconst (v := 0) S dX1_drawBy_0 rfl ?_
  refine x_istore_n (lv' := [(2, .int _), (0, .ref _), (1, .int _)]) S dX1_drawBy_1 rfl (by decide) rfl ?_
  exact x_sub [1, 2, 0] rfl (L0 0 (Nat.zero_le _) gp (fun v hv => absurd hv (by omega)))
end DR
