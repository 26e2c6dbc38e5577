/-! Graph: contracts, 2 -/
section GR2
theorem nx_low {i c x : Nat} (h : i < 12) : (2 ^ 12 * c + x).testBit i = x.testBit i := by
  rw [Nat.testBit_eq_decide_div_mod_eq, Nat.testBit_eq_decide_div_mod_eq]
  have e : 2 ^ 12 * c = 2 ^ i * (2 * (2 ^ (11 - i) * c)) := by
    rw [← Nat.mul_assoc, ← Nat.mul_assoc, ← Nat.pow_succ, ← Nat.pow_add, show i + 1 + (11 - i) = 12 by omega]
  rw [e, Nat.mul_add_div (Nat.two_pow_pos i), show 2 * (2 ^ (11 - i) * c) + x / 2 ^ i = x / 2 ^ i + 2 * (2 ^ (11 - i) * c) by omega, Nat.add_mul_mod_self_left]
variable {l : Launch} {D : va_G} {ad : Nat → Nat} {cI cII cP cZ : ClassId} {n am al ch : Nat} {fr to wt nb : Nat → Nat} {M : Nat → Nat → Nat} {tch : Int32} {cu : Nat → Nat} {rch : Int32} {pa br gp : Nat → Nat} {P : Nat → Int32 × Nat × (Nat → Nat) × (Nat → Nat)} {X : va_W}
set_option maxHeartbeats 4000000 in
set_option maxRecDepth 100000 in
theorem c_bitCount_val : ∀ s, s < 4096 → (let i1 : Int32 := nI s - ((((nI s).toUInt32 >>> ((1 : Int32).toUInt32 &&& Int32.toUInt32 31)).toInt32) &&& 1431655765); let i2 : Int32 := (i1 &&& 858993459) + (((i1.toUInt32 >>> ((2 : Int32).toUInt32 &&& Int32.toUInt32 31)).toInt32) &&& 858993459); let i3 : Int32 := (i2 + (i2.toUInt32 >>> ((4 : Int32).toUInt32 &&& Int32.toUInt32 31)).toInt32) &&& 252645135; let i4 : Int32 := i3 + (i3.toUInt32 >>> ((8 : Int32).toUInt32 &&& Int32.toUInt32 31)).toInt32; let i5 : Int32 := i4 + (i4.toUInt32 >>> ((16 : Int32).toUInt32 &&& Int32.toUInt32 31)).toInt32; i5 &&& 63) = nI (kP s) := by decide +kernel
set_option maxHeartbeats 4000000 in
set_option maxRecDepth 100000 in
theorem c_bitCount {ws : va_W} {tys : List (ClassId × FieldType)} {s : Nat} (hs : s < 4096) : xMet l yJI_bitCount wJI_bitCount (rD 0) D vwCl tys nwC [.int (nI s)] ws ws (some (.int (nI (kP s)))) := by
  refine xMet_of (cc := cJI_bitCount) (maxL := 1) (ret := (some .int)) (by decide +kernel) rfl (Nat.le_of_ble_eq_true rfl) xfi ?_
  intro E S hnm hret
  show xW E D vwCl 1 0 0 _ [(0, .int (nI s))] 0 []
  refine x_iload_n S dJI_bitCount_0 0 rfl rfl ?_
  refine x_iload_n S dJI_bitCount_1 0 rfl rfl ?_
  refine x_iconst (v := 1) S dJI_bitCount_2 rfl ?_
  refine x_iushr S dJI_bitCount_3 ?_
  refine x_ldcw S (gC _ tw418) dJI_bitCount_4 ?_
  refine x_iand S dJI_bitCount_7 ?_
  refine x_isub S dJI_bitCount_8 ?_
  refine x_istore_n (lv' := [(0, .int _)]) S dJI_bitCount_9 rfl (by decide) rfl ?_
  refine x_iload_n S dJI_bitCount_10 0 rfl rfl ?_
  refine x_ldcw S (gC _ tw419) dJI_bitCount_11 ?_
  refine x_iand S dJI_bitCount_14 ?_
  refine x_iload_n S dJI_bitCount_15 0 rfl rfl ?_
  refine x_iconst (v := 2) S dJI_bitCount_16 rfl ?_
  refine x_iushr S dJI_bitCount_17 ?_
  refine x_ldcw S (gC _ tw419) dJI_bitCount_18 ?_
  refine x_iand S dJI_bitCount_21 ?_
  refine x_iadd S dJI_bitCount_22 ?_
  refine x_istore_n (lv' := [(0, .int _)]) S dJI_bitCount_23 rfl (by decide) rfl ?_
  refine x_iload_n S dJI_bitCount_24 0 rfl rfl ?_
  refine x_iload_n S dJI_bitCount_25 0 rfl rfl ?_
  refine x_iconst (v := 4) S dJI_bitCount_26 rfl ?_
  refine x_iushr S dJI_bitCount_27 ?_
  refine x_iadd S dJI_bitCount_28 ?_
  refine x_ldcw S (gC _ tw420) dJI_bitCount_29 ?_
  refine x_iand S dJI_bitCount_32 ?_
  refine x_istore_n (lv' := [(0, .int _)]) S dJI_bitCount_33 rfl (by decide) rfl ?_
  refine x_iload_n S dJI_bitCount_34 0 rfl rfl ?_
  refine x_iload_n S dJI_bitCount_35 0 rfl rfl ?_
  refine x_bipush (v := 8) S dJI_bitCount_36 (by decide) ?_
  refine x_iushr S dJI_bitCount_38 ?_
  refine x_iadd S dJI_bitCount_39 ?_
  refine x_istore_n (lv' := [(0, .int _)]) S dJI_bitCount_40 rfl (by decide) rfl ?_
  refine x_iload_n S dJI_bitCount_41 0 rfl rfl ?_
  refine x_iload_n S dJI_bitCount_42 0 rfl rfl ?_
  refine x_bipush (v := 16) S dJI_bitCount_43 (by decide) ?_
  refine x_iushr S dJI_bitCount_45 ?_
  refine x_iadd S dJI_bitCount_46 ?_
  refine x_istore_n (lv' := [(0, .int _)]) S dJI_bitCount_47 rfl (by decide) rfl ?_
  refine x_iload_n S dJI_bitCount_48 0 rfl rfl ?_
  refine x_bipush (v := 63) S dJI_bitCount_49 (by decide) ?_
  refine x_iand S dJI_bitCount_51 ?_
  exact x_ret hret (c_bitCount_val s hs) dJI_bitCount_52
set_option maxHeartbeats 4000000 in
set_option maxRecDepth 100000 in
theorem c_nextWithin {ws : va_W} {tys : List (ClassId × FieldType)} {A s : Nat} (hA : A < 4096) (hs : s ≤ A) : xMet l yX5_nextWithin wX5_nextWithin (rD 0) D vwCl tys nwC [.int (nI A), .int (nI s)] ws ws (some (.int (nI ((s + 4096 - A) &&& A)))) := by
  refine xMet_of (cc := cX5_nextWithin) (maxL := 2) (ret := (some .int)) (by decide +kernel) rfl (Nat.le_of_ble_eq_true rfl) xfi ?_
  intro E S hnm hret
  show xW E D vwCl 2 0 0 _ [(0, .int (nI A)), (1, .int (nI s))] 0 []
  refine x_iload_n S dX5_nextWithin_0 1 rfl rfl ?_
  refine x_iload_n S dX5_nextWithin_1 0 rfl rfl ?_
  refine x_isub S dX5_nextWithin_2 ?_
  refine x_iload_n S dX5_nextWithin_3 0 rfl rfl ?_
  refine x_iand S dX5_nextWithin_4 ?_
  refine x_ret hret ?_ dX5_nextWithin_5
  have h1 : nI s - nI A = nI (s + 4294967296 - A) := by
    have h2 := nI_add (s + 4294967296 - A) A
    have h3 : nI (s + 4294967296 - A) = nI (s + 4294967296 - A) + nI A - nI A := by rw [Int32.add_sub_cancel]
    rw [h3, h2, show s + 4294967296 - A + A = s + 4294967296 by omega, ← nI_add, show nI 4294967296 = 0 from by decide, Int32.add_zero]
  rw [h1, pl_and]
  congr 1
  rw [show s + 4294967296 - A = 4096 * 1048575 + (s + 4096 - A) by omega]
  apply Nat.eq_of_testBit_eq
  intro i
  rw [Nat.testBit_and, Nat.testBit_and]
  rcases Nat.lt_or_ge i 12 with h | h
  · congr 1
    rw [show 4096 * 1048575 = 2 ^ 12 * 1048575 by omega, nx_low h]
  · rw [Nat.testBit_lt_two_pow (Nat.lt_of_lt_of_le hA (Nat.pow_le_pow_right (n := 2) (by omega) h)), Bool.and_false, Bool.and_false]
set_option maxHeartbeats 4000000 in
set_option maxRecDepth 100000 in
theorem c_hasArc {k : Int32} (ham : am ≤ 50) (hw : ∀ i, i < am → wt i ≤ 1000) : xMet l yX2_hasArc wX2_hasArc (rD 0) D vwCl (tyC cI cII cP cZ) nwC [.ref (ad 0), .int k] (cw ad cI cII cP n am al ch fr to wt nb M tch cu rch pa br gp P ++ X) (cw ad cI cII cP n am al ch fr to wt nb M tch cu rch pa br gp P ++ X) (some (.int (if 0 ≤ k ∧ k < nI am ∧ 0 < wt k.toNatClampNeg then 1 else 0))) := by
  refine xMet_of (cc := cX2_hasArc) (maxL := 2) (ret := (some .boolean)) (by decide +kernel) rfl (Nat.le_of_ble_eq_true rfl) xfz ?_
  intro E S hnm hret
  show xW E D vwCl 2 0 0 _ [(0, .ref (ad 0)), (1, .int k)] 0 []
  refine x_iload_n S dX2_hasArc_0 1 rfl rfl ?_
  refine x_if_lt (tgt := 25) S dX2_hasArc_1 (by decide) (fun h1 => ?_) (fun h1 => ?_)
  · refine x_iconst (v := 0) S dX2_hasArc_25 rfl ?_
    exact x_ret hret (if_neg (fun q => Int32.not_lt.mpr q.1 h1)).symm dX2_hasArc_26
  refine x_iload_n S dX2_hasArc_4 1 rfl rfl ?_
  refine x_aload_n S dX2_hasArc_5 0 rfl rfl ?_
  refine x_get S 0 6 rfl rfl inC2 (by decide) (gC _ tw42) rfl rfl dX2_hasArc_6 ?_
  refine x_icmp_ge (tgt := 25) S dX2_hasArc_9 (by decide) (fun h2 => ?_) (fun h2 => ?_)
  · refine x_iconst (v := 0) S dX2_hasArc_25 rfl ?_
    exact x_ret hret (if_neg (fun q => Int32.not_lt.mpr h2 q.2.1)).symm dX2_hasArc_26
  obtain ⟨j, hj, hkj⟩ := pl_of_lt (n := am) (by omega) (Int32.not_lt.mp h1) (Int32.not_le.mp h2)
  have hj2 : k.toNatClampNeg = j := by rw [hkj]; exact nI_clamp (by omega)
  have hwj := hw j hj
  refine x_aload_n S dX2_hasArc_12 0 rfl rfl ?_
  refine x_get S 0 2 rfl rfl inC2 (by decide) (gC _ tw30) rfl rfl dX2_hasArc_13 ?_
  refine x_iload_n S dX2_hasArc_16 1 rfl rfl ?_
  refine x_ialdN S 3 0 (j) rfl rfl hkj (by omega) (by decide) dX2_hasArc_17 ?_
  refine x_if_le (tgt := 25) S dX2_hasArc_18 (by decide) (fun h3 => ?_) (fun h3 => ?_)
  · refine x_iconst (v := 0) S dX2_hasArc_25 rfl ?_
    exact x_ret hret (if_neg (fun q => by rw [hj2] at q; exact nI_nle q.2.2 (by omega) h3)).symm dX2_hasArc_26
  refine x_iconst (v := 1) S dX2_hasArc_21 rfl ?_
  refine x_goto (tgt := 26) S dX2_hasArc_22 (by decide) ?_
  refine x_ret hret ?_ dX2_hasArc_26
  refine (if_pos ⟨Int32.not_lt.mp h1, Int32.not_le.mp h2, ?_⟩).symm
  rw [hj2]
  exact Nat.pos_of_ne_zero (fun q => h3 (by rw [q]; decide))
set_option maxHeartbeats 4000000 in
set_option maxRecDepth 100000 in
theorem c_hasSides (hn : n ≤ 12) : xMet l yX2_hasSides wX2_hasSides (rD 0) D vwCl (tyC cI cII cP cZ) nwC [.ref (ad 0)] (cw ad cI cII cP n am al ch fr to wt nb M tch cu rch pa br gp P ++ X) (cw ad cI cII cP n am al ch fr to wt nb M tch cu rch pa br gp P ++ X) (some (.int (if 1 < n then 1 else 0))) := by
  refine xMet_of (cc := cX2_hasSides) (maxL := 1) (ret := (some .boolean)) (by decide +kernel) rfl (Nat.le_of_ble_eq_true rfl) xfz ?_
  intro E S hnm hret
  show xW E D vwCl 1 0 0 _ [(0, .ref (ad 0))] 0 []
  refine x_aload_n S dX2_hasSides_0 0 rfl rfl ?_
  refine x_get S 0 5 rfl rfl inC2 (by decide) (gC _ tw36) rfl rfl dX2_hasSides_1 ?_
  refine x_iconst (v := 1) S dX2_hasSides_4 rfl ?_
  refine x_icmp_le (tgt := 12) S dX2_hasSides_5 (by decide) (fun h1 => ?_) (fun h1 => ?_)
  · refine x_iconst (v := 0) S dX2_hasSides_12 rfl ?_
    exact x_ret hret (if_neg (fun q => nI_ge q (by omega) h1)).symm dX2_hasSides_13
  refine x_iconst (v := 1) S dX2_hasSides_8 rfl ?_
  refine x_goto (tgt := 13) S dX2_hasSides_9 (by decide) ?_
  exact x_ret hret (if_pos (Nat.lt_of_not_le (fun q => h1 (nI_le q (by decide))))).symm dX2_hasSides_13
set_option maxHeartbeats 4000000 in
set_option maxRecDepth 100000 in
theorem c_areJoined {a b : Nat} (ha : a < 12) (hb : b < 12) (hM : M a b < 2 ^ 31) : xMet l yX2_areJoined wX2_areJoined (rD 0) D vwCl (tyC cI cII cP cZ) nwC [.ref (ad 0), .int (nI a), .int (nI b)] (cw ad cI cII cP n am al ch fr to wt nb M tch cu rch pa br gp P ++ X) (cw ad cI cII cP n am al ch fr to wt nb M tch cu rch pa br gp P ++ X) (some (.int (if 0 < M a b then 1 else 0))) := by
  refine xMet_of (cc := cX2_areJoined) (maxL := 3) (ret := (some .boolean)) (by decide +kernel) rfl (Nat.le_of_ble_eq_true rfl) xfz ?_
  intro E S hnm hret
  show xW E D vwCl 3 0 0 _ [(0, .ref (ad 0)), (1, .int (nI a)), (2, .int (nI b))] 0 []
  refine x_aload_n S dX2_areJoined_0 0 rfl rfl ?_
  refine x_get S 0 3 rfl rfl inC2 (by decide) (gC _ tw32) rfl rfl dX2_areJoined_1 ?_
  refine x_iload_n S dX2_areJoined_4 1 rfl rfl ?_
  refine x_aald S 4 1 (a) rfl rfl rfl rfl ha (by decide) rfl dX2_areJoined_5 ?_
  refine x_iload_n S dX2_areJoined_6 2 rfl rfl ?_
  refine x_ialdN S (6 + a) 0 (b) (cw_row ha) rfl rfl (by omega) (by decide) dX2_areJoined_7 ?_
  refine x_if_le (tgt := 15) S dX2_areJoined_8 (by decide) (fun h3 => ?_) (fun h3 => ?_)
  · refine x_iconst (v := 0) S dX2_areJoined_15 rfl ?_
    exact x_ret hret (if_neg (fun q => nI_nle q hM h3)).symm dX2_areJoined_16
  refine x_iconst (v := 1) S dX2_areJoined_11 rfl ?_
  refine x_goto (tgt := 16) S dX2_areJoined_12 (by decide) ?_
  exact x_ret hret (if_pos (Nat.pos_of_ne_zero (fun q => h3 (by rw [q]; decide)))).symm dX2_areJoined_16
set_option maxHeartbeats 4000000 in
set_option maxRecDepth 100000 in
theorem c_weightAt {v : Nat} (hn : n ≤ 12) (hv : v < 12) : xMet l yX2_weightAt wX2_weightAt (rD 0) D vwCl (tyC cI cII cP cZ) nwC [.ref (ad 0), .int (nI v)] (cw ad cI cII cP n am al ch fr to wt nb M tch cu rch pa br gp P ++ X) (cw ad cI cII cP n am al ch fr to wt nb M tch cu rch pa br gp P ++ X) (some (.int (nI (sm (fun u => M v u) n)))) := by
  refine xMet_of (cc := cX2_weightAt) (maxL := 4) (ret := (some .int)) (by decide +kernel) rfl (Nat.le_of_ble_eq_true rfl) xfi ?_
  intro E S hnm hret
  show xW E D vwCl 4 0 0 _ [(0, .ref (ad 0)), (1, .int (nI v))] 0 []
  have L : ∀ k, k ≤ n → xW E D vwCl 4 0 0 (cw ad cI cII cP n am al ch fr to wt nb M tch cu rch pa br gp P ++ X) [(0, .ref (ad 0)), (1, .int (nI v)), (2, .int (nI (sm (fun u => M v u) k))), (3, .int (nI k))] 4 [] := by
    refine pl_up n (fun k hk ih => ?_)
    refine x_iload_n S dX2_weightAt_4 3 rfl rfl ?_
    refine x_aload_n S dX2_weightAt_5 0 rfl rfl ?_
    refine x_get S 0 5 rfl rfl inC2 (by decide) (gC _ tw36) rfl rfl dX2_weightAt_6 ?_
    refine x_icmp_ge (tgt := 29) S dX2_weightAt_9 (by decide) (fun h1 => ?_) (fun h1 => ?_)
    · refine x_iload_n S dX2_weightAt_29 2 rfl rfl ?_
      have hk2 : k = n := Nat.le_antisymm hk ((nI_leI (by omega) (by omega)).mp h1)
      subst hk2
      exact x_ret hret rfl dX2_weightAt_30
    have hk2 : k < n := Nat.lt_of_not_le (fun q => h1 (nI_le q (by omega)))
    refine x_iload_n S dX2_weightAt_12 2 rfl rfl ?_
    refine x_aload_n S dX2_weightAt_13 0 rfl rfl ?_
    refine x_get S 0 3 rfl rfl inC2 (by decide) (gC _ tw32) rfl rfl dX2_weightAt_14 ?_
    refine x_iload_n S dX2_weightAt_17 1 rfl rfl ?_
    refine x_aald S 4 1 (v) rfl rfl rfl rfl hv (by decide) rfl dX2_weightAt_18 ?_
    refine x_iload_n S dX2_weightAt_19 3 rfl rfl ?_
    refine x_ialdN S (6 + v) 0 (k) (cw_row hv) rfl rfl (by omega) (by decide) dX2_weightAt_20 ?_
    refine x_iadd S dX2_weightAt_21 ?_
    refine x_top (nI (sm (fun u => M v u) (k + 1))) (nI_add _ _) ?_
    refine x_istore_n (lv' := [(2, .int _), (0, .ref _), (1, .int _), (3, .int _)]) S dX2_weightAt_22 rfl (by decide) rfl ?_
    refine x_iincN (lv' := [(3, .int _), (2, .int _), (0, .ref _), (1, .int _)]) S dX2_weightAt_23 3 rfl (by decide) rfl ?_
    refine x_goto (tgt := 4) S dX2_weightAt_26 (by decide) ?_
    exact x_sub [2, 3, 1, 0] rfl (ih hk2)
  refine x_iconst (v := 0) S dX2_weightAt_0 rfl ?_
  refine x_istore_n (lv' := [(2, .int _), (0, .ref _), (1, .int _)]) S dX2_weightAt_1 rfl (by decide) rfl ?_
  refine x_iconst (v := 0) S dX2_weightAt_2 rfl ?_
  refine x_istore_n (lv' := [(3, .int _), (2, .int _), (0, .ref _), (1, .int _)]) S dX2_weightAt_3 rfl (by decide) rfl ?_
  exact x_sub [2, 3, 1, 0] rfl (L 0 (Nat.zero_le _))
set_option maxHeartbeats 4000000 in
set_option maxRecDepth 100000 in
theorem c_spread {s : Nat} (hn : n ≤ 12) (hs : s < 4096) (hp : kP s ≤ n) : xMet l yX2_spread wX2_spread (rD 1) D vwCl (tyC cI cII cP cZ) nwC [.ref (ad 0), .int (nI s)] (cw ad cI cII cP n am al ch fr to wt nb M tch cu rch pa br gp P ++ X) (cw ad cI cII cP n am al ch fr to wt nb M tch cu rch pa br gp P ++ X) (some (.int (nI (kP s * (n - kP s))))) := by
  refine xMet_of (cc := cX2_spread) (maxL := 3) (ret := (some .int)) (by decide +kernel) rfl (Nat.le_of_ble_eq_true rfl) xfi ?_
  intro E S hnm hret
  show xW E D vwCl 3 0 0 _ [(0, .ref (ad 0)), (1, .int (nI s))] 0 []
  refine x_iload_n S dX2_spread_0 1 rfl rfl ?_
  refine x_cJi (n := 1) S (c_bitCount hs) (gG gC tw417) rfl (gC _ tw415) (gC _ tw9) (gC _ tw416) (by decide +kernel) rfl rfl (Nat.le_of_ble_eq_true rfl) dX2_spread_1 ⟨by decide, by decide⟩ ⟨Nat.le_of_ble_eq_true rfl, Nat.le_of_ble_eq_true rfl⟩ ?_
  refine x_istore_n (lv' := [(2, .int _), (0, .ref _), (1, .int _)]) S dX2_spread_4 rfl (by decide) rfl ?_
  refine x_iload_n S dX2_spread_5 0 rfl rfl ?_
  refine x_aload_n S dX2_spread_6 1 rfl rfl ?_
  refine x_get S 0 5 rfl rfl inC2 (by decide) (gC _ tw36) rfl rfl dX2_spread_7 ?_
  refine x_iload_n S dX2_spread_10 0 rfl rfl ?_
  refine x_isub S dX2_spread_11 ?_
  refine x_imul S dX2_spread_12 ?_
  exact x_ret hret (by rw [pk_sub hp, pk_mul]) dX2_spread_13
set_option maxHeartbeats 4000000 in
set_option maxRecDepth 100000 in
theorem c_reachedFrom {v o : Nat} (hn : n ≤ 12) (hv : v < 12) (ho : o < 4096) : xMet l yX2_reachedFrom wX2_reachedFrom (rD 0) D vwCl (tyC cI cII cP cZ) nwC [.ref (ad 0), .int (nI v), .int (nI o)] (cw ad cI cII cP n am al ch fr to wt nb M tch cu rch pa br gp P ++ X) (cw ad cI cII cP n am al ch fr to wt nb M tch cu rch pa br gp P ++ X) (some (.int (nI (kR nb o n n (2 ^ v))))) := by
  refine xMet_of (cc := cX2_reachedFrom) (maxL := 7) (ret := (some .int)) (by decide +kernel) rfl (Nat.le_of_ble_eq_true rfl) xfi ?_
  intro E S hnm hret
  show xW E D vwCl 7 0 0 _ [(0, .ref (ad 0)), (1, .int (nI v)), (2, .int (nI o))] 0 []
  have F : ∀ (lv : List (Nat × Value)) (r : Nat), r = kR nb o n n (2 ^ v) → xW E D vwCl 7 0 0 (cw ad cI cII cP n am al ch fr to wt nb M tch cu rch pa br gp P ++ X) ((3, .int (nI r)) :: lv) 79 [] := by
    intro lv r hr
    refine x_iload_n S dX2_reachedFrom_79 0 rfl rfl ?_
    exact x_ret hret (by rw [hr]) dX2_reachedFrom_80
  have L : ∀ j, j ≤ n → ∀ r, r < 4096 → kR nb o n (n - j) r = kR nb o n n (2 ^ v) → xW E D vwCl 7 0 0 (cw ad cI cII cP n am al ch fr to wt nb M tch cu rch pa br gp P ++ X) [(0, .ref (ad 0)), (1, .int (nI v)), (2, .int (nI o)), (3, .int (nI r)), (4, .int (nI j))] 7 [] := by
    refine pl_up n (fun j hj ih => ?_)
    intro r hr4 hr
    refine x_iload S dX2_reachedFrom_7 4 rfl ?_
    refine x_aload_n S dX2_reachedFrom_9 0 rfl rfl ?_
    refine x_get S 0 5 rfl rfl inC2 (by decide) (gC _ tw36) rfl rfl dX2_reachedFrom_10 ?_
    refine x_icmp_ge (tgt := 79) S dX2_reachedFrom_13 (by decide) (fun h1 => ?_) (fun h1 => ?_)
    · have hk2 : j = n := Nat.le_antisymm hj ((nI_leI (by omega) (by omega)).mp h1)
      subst hk2
      rw [Nat.sub_self] at hr
      exact x_sub [3] rfl (F [] r hr)
    have hk2 : j < n := Nat.lt_of_not_le (fun q => h1 (nI_le q (by omega)))
    have L2 : ∀ k, k ≤ n → xW E D vwCl 7 0 0 (cw ad cI cII cP n am al ch fr to wt nb M tch cu rch pa br gp P ++ X) [(0, .ref (ad 0)), (1, .int (nI v)), (2, .int (nI o)), (3, .int (nI r)), (4, .int (nI j)), (5, .int (nI (kR1 nb o r k))), (6, .int (nI k))] 22 [] := by
      refine pl_up n (fun k hk ih2 => ?_)
      refine x_iload S dX2_reachedFrom_22 6 rfl ?_
      refine x_aload_n S dX2_reachedFrom_24 0 rfl rfl ?_
      refine x_get S 0 5 rfl rfl inC2 (by decide) (gC _ tw36) rfl rfl dX2_reachedFrom_25 ?_
      refine x_icmp_ge (tgt := 61) S dX2_reachedFrom_28 (by decide) (fun h2 => ?_) (fun h2 => ?_)
      · have hk3 : k = n := Nat.le_antisymm hk ((nI_leI (by omega) (by omega)).mp h2)
        subst hk3
        have hlt := kR1_lt (nb := nb) hr4 ho k
        refine x_iload S dX2_reachedFrom_61 5 rfl ?_
        refine x_iload_n S dX2_reachedFrom_63 3 rfl rfl ?_
        refine x_icmp_ne (tgt := 70) S dX2_reachedFrom_64 (by decide) (fun h3 => ?_) (fun h3 => ?_)
        rotate_left
        · refine x_goto (tgt := 79) S dX2_reachedFrom_67 (by decide) ?_
          exact x_sub [3] rfl (F [] r (by rw [← hr, show k - j = (k - j - 1) + 1 by omega]; simp only [kR]; rw [if_pos (pl_inj (by omega) (by omega) h3)]))
        refine x_iload S dX2_reachedFrom_70 5 rfl ?_
        refine x_istore_n (lv' := [(3, .int _), (0, .ref _), (1, .int _), (2, .int _), (4, .int _), (5, .int _), (6, .int _)]) S dX2_reachedFrom_72 rfl (by decide) rfl ?_
        refine x_iincN (lv' := [(4, .int _), (3, .int _), (0, .ref _), (1, .int _), (2, .int _), (5, .int _), (6, .int _)]) S dX2_reachedFrom_73 4 rfl (by decide) rfl ?_
        refine x_goto (tgt := 7) S dX2_reachedFrom_76 (by decide) ?_
        exact x_sub [2, 3, 4, 1, 0] rfl (ih hk2 _ hlt (by rw [← hr, show k - j = (k - (j + 1)) + 1 by omega]; simp only [kR]; rw [if_neg (fun q => h3 (by rw [q]))]))
      have hk3 : k < n := Nat.lt_of_not_le (fun q => h2 (nI_le q (by omega)))
      refine x_iload_n S dX2_reachedFrom_31 3 rfl rfl ?_
      refine x_iload S dX2_reachedFrom_32 6 rfl ?_
      refine x_ishr S dX2_reachedFrom_34 ?_
      refine x_iconst (v := 1) S dX2_reachedFrom_35 rfl ?_
      refine x_iand S dX2_reachedFrom_36 ?_
      refine x_iconst (v := 1) S dX2_reachedFrom_37 rfl ?_
      refine x_icmp_ne (tgt := 55) S dX2_reachedFrom_38 (by decide) (fun h3 => ?_) (fun h3 => ?_)
      · refine x_iincN (lv' := [(6, .int _), (0, .ref _), (1, .int _), (2, .int _), (3, .int _), (4, .int _), (5, .int _)]) S dX2_reachedFrom_55 6 rfl (by decide) rfl ?_
        refine x_goto (tgt := 22) S dX2_reachedFrom_58 (by decide) ?_
        have e : kR1 nb o r (k + 1) = kR1 nb o r k := by
          simp only [kR1]
          rw [if_neg (fun q => h3 ((pl_bit1 (by omega) (by omega)).mpr q))]
        rw [← e]
        exact x_sub [1, 2, 3, 4, 5, 6, 0] rfl (ih2 hk3)
      refine x_iload S dX2_reachedFrom_41 5 rfl ?_
      refine x_aload_n S dX2_reachedFrom_43 0 rfl rfl ?_
      refine x_get S 0 4 rfl rfl inC2 (by decide) (gC _ tw35) rfl rfl dX2_reachedFrom_44 ?_
      refine x_iload S dX2_reachedFrom_47 6 rfl ?_
      refine x_ialdN S 5 0 (k) rfl rfl rfl (by omega) (by decide) dX2_reachedFrom_49 ?_
      refine x_iload_n S dX2_reachedFrom_50 2 rfl rfl ?_
      refine x_iand S dX2_reachedFrom_51 ?_
      refine x_ior S dX2_reachedFrom_52 ?_
      refine x_top (nI (kR1 nb o r (k + 1))) ?_ ?_
      · rw [pl_and, pl_or]
        simp only [kR1]
        rw [if_pos ((pl_bit1 (by omega) (by omega)).mp h3)]
      refine x_istore (lv' := [(5, .int _), (0, .ref _), (1, .int _), (2, .int _), (3, .int _), (4, .int _), (6, .int _)]) S dX2_reachedFrom_53 (by decide) rfl ?_
      refine x_iincN (lv' := [(6, .int _), (5, .int _), (0, .ref _), (1, .int _), (2, .int _), (3, .int _), (4, .int _)]) S dX2_reachedFrom_55 6 rfl (by decide) rfl ?_
      refine x_goto (tgt := 22) S dX2_reachedFrom_58 (by decide) ?_
      exact x_sub [2, 3, 4, 5, 6, 1, 0] rfl (ih2 hk3)
    refine x_sub [0, 1, 2, 3, 4] rfl ?_
    refine x_iload_n S dX2_reachedFrom_16 3 rfl rfl ?_
    refine x_istore (lv' := [(5, .int _), (0, .ref _), (1, .int _), (2, .int _), (3, .int _), (4, .int _)]) S dX2_reachedFrom_17 (by decide) rfl ?_
    refine x_iconst (v := 0) S dX2_reachedFrom_19 rfl ?_
    refine x_istore (lv' := [(6, .int _), (5, .int _), (0, .ref _), (1, .int _), (2, .int _), (3, .int _), (4, .int _)]) S dX2_reachedFrom_20 (by decide) rfl ?_
    exact x_sub [2, 3, 4, 5, 6, 1, 0] rfl (L2 0 (Nat.zero_le _))
  refine x_iconst (v := 1) S dX2_reachedFrom_0 rfl ?_
  refine x_iload_n S dX2_reachedFrom_1 1 rfl rfl ?_
  refine x_ishl S dX2_reachedFrom_2 ?_
  refine x_top (nI (2 ^ v)) (pl_one (by omega)) ?_
  refine x_istore_n (lv' := [(3, .int _), (0, .ref _), (1, .int _), (2, .int _)]) S dX2_reachedFrom_3 rfl (by decide) rfl ?_
  refine x_iconst (v := 0) S dX2_reachedFrom_4 rfl ?_
  refine x_istore (lv' := [(4, .int _), (3, .int _), (0, .ref _), (1, .int _), (2, .int _)]) S dX2_reachedFrom_5 (by decide) rfl ?_
  exact x_sub [2, 3, 4, 1, 0] rfl (L 0 (Nat.zero_le _) (2 ^ v) (pl_pow (n := 12) (by omega)) rfl)
end GR2
