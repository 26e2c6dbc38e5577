/-! PairTree: contracts -/
section TR
/-- THE SIDE -/
noncomputable def kZ (cf : Nat → Nat) (n a b : Nat) : Nat := @dite _ (∃ S, isFM cf (isSd n a b) S) (Classical.propDecidable _) (fun h => Classical.choose h) (fun _ => 0)
theorem kZ_ok {cf : Nat → Nat} {n a b : Nat} (ha : a < n) (hab : a ≠ b) : isFM cf (isSd n a b) (kZ cf n a b) := by
  have h : ∃ S, isFM cf (isSd n a b) S := isFM_ex ⟨2 ^ a, pl_pow ha, by rw [Nat.testBit_two_pow]; simp, by rw [Nat.testBit_two_pow]; simp [hab]⟩
  unfold kZ
  rw [dif_pos h]
  exact Classical.choose_spec h
/-- one NODE is hung -/
noncomputable def kHg (cf : Nat → Nat) (n : Nat) (p : Nat → Nat) (v : Nat) : Nat → Nat := fun j => if v < j ∧ p j = p v ∧ (kZ cf n v (p v)).testBit j = true then v else p j
/-- PARENTS when the NODES below i are hung -/
noncomputable def kPa (cf : Nat → Nat) (n : Nat) : Nat → Nat → Nat
  | 0 => fun _ => 0
  | i + 1 => if i = 0 then fun _ => 0 else kHg cf n (kPa cf n i) i
theorem kPa_1 (cf : Nat → Nat) (n j : Nat) : kPa cf n 1 j = 0 := rfl
theorem kPa_s {cf : Nat → Nat} {n i : Nat} (h : 1 ≤ i) : kPa cf n (i + 1) = kHg cf n (kPa cf n i) i := by
  show (if i = 0 then _ else _) = _
  rw [if_neg (by omega)]
theorem kPa_lt (cf : Nat → Nat) (n : Nat) : ∀ i j, 1 ≤ j → kPa cf n i j < j
  | 0, j, h => h
  | i + 1, j, h => by
    have ih := kPa_lt cf n i j h
    show (if i = 0 then (fun _ => 0) else kHg cf n (kPa cf n i) i) j < j
    split
    · exact h
    · unfold kHg
      split
      · rename_i q; exact q.1
      · exact ih
theorem kPa_keep (cf : Nat → Nat) (n : Nat) : ∀ d i j, j ≤ i → kPa cf n (i + d) j = kPa cf n i j
  | 0, i, j, h => rfl
  | d + 1, i, j, h => by
    have ih := kPa_keep cf n d i j h
    show (if i + d = 0 then (fun _ => 0) else kHg cf n (kPa cf n (i + d)) (i + d)) j = _
    split
    · rename_i q
      have h1 : i = 0 := by omega
      subst h1
      rfl
    · unfold kHg
      rw [if_neg (fun q => by omega), ih]
/-- BRANCHES -/
noncomputable def kBr (cf : Nat → Nat) (n v : Nat) : Nat := cf (kZ cf n v (kPa cf n n v))
def kWy (pa br : Nat → Nat) : Nat → Nat → Nat → Nat → Nat
  | 0, _, _, z => z
  | f + 1, x, y, z => if x = y then z else kWy pa br f (min x y) (pa (max x y)) (min z (br (max x y)))
theorem nI_min {x y : Nat} (hx : x < 2 ^ 31) (hy : y < 2 ^ 31) : (if nI y < nI x then nI y else nI x) = nI (min x y) := by
  by_cases h : y < x
  · rw [if_pos (nI_lt h hx), Nat.min_eq_right (by omega)]
  · rw [if_neg (nI_nlt (by omega) hy), Nat.min_eq_left (by omega)]
theorem nI_max {x y : Nat} (hx : x < 2 ^ 31) (hy : y < 2 ^ 31) : (if nI x < nI y then nI y else nI x) = nI (max x y) := by
  by_cases h : x < y
  · rw [if_pos (nI_lt h hy), Nat.max_eq_right (by omega)]
  · rw [if_neg (nI_nlt (by omega) hx), Nat.max_eq_left (by omega)]
theorem kPa_0 (cf : Nat → Nat) (n : Nat) : ∀ i, kPa cf n i 0 = 0
  | 0 => rfl
  | i + 1 => by
    have ih := kPa_0 cf n i
    show (if i = 0 then (fun _ => 0) else kHg cf n (kPa cf n i) i) 0 = 0
    split
    · rfl
    · unfold kHg
      rw [if_neg (fun q => by omega), ih]
variable {l : Launch} {D : va_G} {ad : Nat → Nat} {cI cII cP cZ : ClassId} {n am al ch : Nat} {fr to wt nb : Nat → Nat} {M : Nat → Nat → Nat} {tch : Int32} {cu : Nat → Nat} {rch : Int32} {pa br gp : Nat → Nat} {P : Nat → Int32 × Nat × (Nat → Nat) × (Nat → Nat)} {X : va_W}
set_option maxHeartbeats 4000000 in
set_option maxRecDepth 100000 in
theorem c_hang {v : Nat} (q : Nat → Nat) (h1 : 1 ≤ n) (hA : aOK n am fr to wt) (hT : tOK n am fr to wt cu) (hv1 : 1 ≤ v) (hv : v < n) (hq : ∀ j, j < n → pa j = q j) (hqv : q v < v) (hqs : ∀ j, j < n → q j < 2 ^ 31) : xMetS l yX3_hang wX3_hang (rD 3) D vwCl (tyC cI cII cP cZ) nwC [.ref (ad 20), .int (nI v)] (cw ad cI cII cP n am al ch fr to wt nb M tch cu rch pa br gp P ++ X) (fun c : Nat → Nat => ∀ j, j < n → c j = kHg (kC fr to wt am) n q v j) (fun c => (cw ad cI cII cP n am al ch fr to wt nb M tch cu rch c (va_up br v (kC fr to wt am (kZ (kC fr to wt am) n v (q v)))) gp P ++ X)) (fun _ => none) := by
  refine xMetS_of (cc := cX3_hang) (maxL := 5) (ret := none) (by decide +kernel) rfl (Nat.le_of_ble_eq_true rfl) (fun _ _ => xfv) ?_
  intro E S hnm hret
  show xW E D vwCl 5 0 0 _ [(0, .ref (ad 20)), (1, .int (nI v))] 0 []
  have hn := hA.1
  have hZ := kZ_ok (cf := kC fr to wt am) (n := n) (a := v) (b := q v) hv (by omega)
  generalize hz : kZ (kC fr to wt am) n v (q v) = z at hZ hret
  have hzl : z < 4096 := Nat.lt_of_lt_of_le hZ.1.1 (pl_pow12 hn)
  have hpv := hq v hv
  have L : ∀ k, k ≤ n → v + 1 ≤ k → ∀ c : Nat → Nat, (∀ j, j < k → j < n → c j = kHg (kC fr to wt am) n q v j) → (∀ j, k ≤ j → j < n → c j = q j) → xW E D vwCl 5 0 0 (cw ad cI cII cP n am al ch fr to wt nb M tch cu rch c (va_up br v (kC fr to wt am z)) gp P ++ X) [(0, .ref (ad 20)), (1, .int (nI v)), (2, .int (nI (q v))), (3, .int (nI z)), (4, .int (nI k))] 36 [] := by
    refine pl_up n (fun k hk ih => ?_)
    intro hk1 c g1 g2
    refine x_iload S dX3_hang_36 4 rfl ?_
    refine x_aload_n S dX3_hang_38 0 rfl rfl ?_
    refine x_get S 20 0 rfl rfl inC3 (by decide) (gC _ tw92) rfl rfl dX3_hang_39 ?_
    refine x_get S 0 5 rfl rfl inC2 (by decide) (gC _ tw41) rfl rfl dX3_hang_42 ?_
    refine x_icmp_ge (tgt := 83) S dX3_hang_45 (by decide) (fun h3 => ?_) (fun h3 => ?_)
    · have hk2 : k = n := Nat.le_antisymm hk ((nI_leI (by omega) (by omega)).mp h3)
      subst hk2
      exact hret (c) _ _ (fun j hj => g1 j hj hj) dX3_hang_83
    have hk2 : k < n := Nat.lt_of_not_le (fun h => h3 (nI_le h (by omega)))
    have e1 := g2 k (Nat.le_refl _) hk2
    have ih := ih hk2 (by omega)
    have T0 : ¬ (q k = q v ∧ z.testBit k = true) → ∀ j, j < k + 1 → j < n → c j = kHg (kC fr to wt am) n q v j := fun hne j hj hjn => (Nat.lt_or_ge j k).elim (fun h => g1 j h hjn) (fun h => by
      have hjk : j = k := by omega
      subst hjk
      unfold kHg
      rw [if_neg (fun w => hne ⟨w.2.1, by rw [← hz]; exact w.2.2⟩), e1])
    refine x_aload_n S dX3_hang_48 0 rfl rfl ?_
    refine x_get S 20 2 rfl rfl inC3 (by decide) (gC _ tw94) rfl rfl dX3_hang_49 ?_
    refine x_iload S dX3_hang_52 4 rfl ?_
    refine x_ialdN S 21 0 (k) rfl rfl rfl (by omega) (by decide) dX3_hang_54 ?_
    rw [e1]
    have hqe : nI (q k) = nI (q v) → q k = q v := fun h => pl_inj (hqs k hk2) (hqs v hv) h
    refine x_iload_n S dX3_hang_55 2 rfl rfl ?_
    refine x_icmp_ne (tgt := 77) S dX3_hang_56 (by decide) (fun h4 => ?_) (fun h4 => ?_)
    rotate_left
    · refine x_iload_n S dX3_hang_59 3 rfl rfl ?_
      refine x_iload S dX3_hang_60 4 rfl ?_
      refine x_ishr S dX3_hang_62 ?_
      refine x_iconst (v := 1) S dX3_hang_63 rfl ?_
      refine x_iand S dX3_hang_64 ?_
      refine x_iconst (v := 1) S dX3_hang_65 rfl ?_
      refine x_icmp_ne (tgt := 77) S dX3_hang_66 (by decide) (fun h5 => ?_) (fun h5 => ?_)
      rotate_left
      · have hb : z.testBit k = true := (pl_bit1 (by omega) (by omega)).mp h5
        refine x_aload_n S dX3_hang_69 0 rfl rfl ?_
        refine x_get S 20 2 rfl rfl inC3 (by decide) (gC _ tw94) rfl rfl dX3_hang_70 ?_
        refine x_iload S dX3_hang_73 4 rfl ?_
        refine x_iload_n S dX3_hang_75 1 rfl rfl ?_
        refine x_iastN (ws' := (cw ad cI cII cP n am al ch fr to wt nb M tch cu rch (va_up c k v) (va_up br v (kC fr to wt am z)) gp P ++ X)) (z := v) S 21 0 (k) rfl rfl rfl (by omega) (by decide) rfl dX3_hang_76 rfl ?_
        refine x_iincN (lv' := [(4, .int _), (0, .ref _), (1, .int _), (2, .int _), (3, .int _)]) S dX3_hang_77 4 rfl (by decide) rfl ?_
        refine x_goto (tgt := 36) S dX3_hang_80 (by decide) ?_
        exact x_sub [1, 2, 3, 4, 0] rfl (ih _ (fun j hj hjn => (Nat.lt_or_ge j k).elim (fun h => by rw [va_up_ne _ _ (by omega)]; exact g1 j h hjn) (fun h => by have hjk : j = k := (by omega); subst hjk; rw [va_up_self]; unfold kHg; rw [if_pos ⟨by omega, hqe h4, by rw [hz]; exact hb⟩])) (fun j hj hjn => by rw [va_up_ne _ _ (by omega)]; exact g2 j (by omega) hjn))
      refine x_iincN (lv' := [(4, .int _), (0, .ref _), (1, .int _), (2, .int _), (3, .int _)]) S dX3_hang_77 4 rfl (by decide) rfl ?_
      refine x_goto (tgt := 36) S dX3_hang_80 (by decide) ?_
      exact x_sub [1, 2, 3, 4, 0] rfl (ih c (T0 (fun w => h5 ((pl_bit1 (by omega) (by omega)).mpr w.2))) (fun j hj hjn => g2 j (by omega) hjn))
    refine x_iincN (lv' := [(4, .int _), (0, .ref _), (1, .int _), (2, .int _), (3, .int _)]) S dX3_hang_77 4 rfl (by decide) rfl ?_
    refine x_goto (tgt := 36) S dX3_hang_80 (by decide) ?_
    exact x_sub [1, 2, 3, 4, 0] rfl (ih c (T0 (fun w => h4 (by rw [w.1]))) (fun j hj hjn => g2 j (by omega) hjn))
  refine x_aload_n S dX3_hang_0 0 rfl rfl ?_
  refine x_get S 20 2 rfl rfl inC3 (by decide) (gC _ tw94) rfl rfl dX3_hang_1 ?_
  refine x_iload_n S dX3_hang_4 1 rfl rfl ?_
  refine x_ialdN S 21 0 (v) rfl rfl rfl (by omega) (by decide) dX3_hang_5 ?_
  rw [hpv]
  refine x_istore_n (lv' := [(2, .int _), (0, .ref _), (1, .int _)]) S dX3_hang_6 rfl (by decide) rfl ?_
  refine x_aload_n S dX3_hang_7 1 rfl rfl ?_
  refine x_get S 20 1 rfl rfl inC3 (by decide) (gC _ tw93) rfl rfl dX3_hang_8 ?_
  refine x_iload_n S dX3_hang_11 2 rfl rfl ?_
  refine x_iload_n S dX3_hang_12 0 rfl rfl ?_
  refine x_cVi (n := 2) S (c_sideAgainst h1 hA hT hv (by omega) (by omega) hZ) (gGV gC tw262 tw293 tw260 tw261 tw3) rfl (by decide +kernel) 18 rfl rfl rfl rfl (Nat.le_of_ble_eq_true rfl) dX3_hang_13 ⟨by decide, by decide⟩ ⟨Nat.le_of_ble_eq_true rfl, Nat.le_of_ble_eq_true rfl⟩ ?_
  refine x_istore_n (lv' := [(3, .int _), (2, .int _), (0, .ref _), (1, .int _)]) S dX3_hang_16 rfl (by decide) rfl ?_
  refine x_aload_n S dX3_hang_17 2 rfl rfl ?_
  refine x_get S 20 3 rfl rfl inC3 (by decide) (gC _ tw96) rfl rfl dX3_hang_18 ?_
  refine x_iload_n S dX3_hang_21 3 rfl rfl ?_
  refine x_aload_n S dX3_hang_22 2 rfl rfl ?_
  refine x_get S 20 1 rfl rfl inC3 (by decide) (gC _ tw93) rfl rfl dX3_hang_23 ?_
  refine x_iload_n S dX3_hang_26 0 rfl rfl ?_
  refine x_cVi (n := 1) S (c_cutAt h1 hA hT hZ.1.1) (gGV gC tw267 tw294 tw265 tw266 tw3) rfl (by decide +kernel) 18 rfl rfl rfl rfl (Nat.le_of_ble_eq_true rfl) dX3_hang_27 ⟨by decide, by decide⟩ ⟨Nat.le_of_ble_eq_true rfl, Nat.le_of_ble_eq_true rfl⟩ ?_
  refine x_iastN (ws' := (cw ad cI cII cP n am al ch fr to wt nb M tch cu rch pa (va_up br v (kC fr to wt am z)) gp P ++ X)) S 22 0 (v) rfl rfl rfl (by omega) (by decide) rfl dX3_hang_30 rfl ?_
  refine x_iload_n S dX3_hang_31 3 rfl rfl ?_
  refine x_iconst (v := 1) S dX3_hang_32 rfl ?_
  refine x_iadd S dX3_hang_33 ?_
  refine x_top (nI (v + 1)) (nI_1 v) ?_
  refine x_istore (lv' := [(4, .int _), (3, .int _), (2, .int _), (0, .ref _), (1, .int _)]) S dX3_hang_34 (by decide) rfl ?_
  exact x_sub [3, 4, 2, 1, 0] rfl (L (v + 1) hv (Nat.le_refl _) pa (fun j hj hjn => by rw [hq j hjn]; unfold kHg; rw [if_neg (fun w => by omega)]) (fun j _ hjn => hq j hjn))
set_option maxHeartbeats 4000000 in
set_option maxRecDepth 100000 in
theorem c_refreshR (h1 : 1 ≤ n) (hA : aOK n am fr to wt) (hT : tOK n am fr to wt cu) (hR : rch = nI ch → (∀ j, j < n → pa j = kPa (kC fr to wt am) n n j) ∧ ∀ j, 1 ≤ j → j < n → br j = kBr (kC fr to wt am) n j) : xMetS l yX3_refresh wX3_refresh (rD 4) D vwCl (tyC cI cII cP cZ) nwC [.ref (ad 20)] (cw ad cI cII cP n am al ch fr to wt nb M tch cu rch pa br gp P ++ X) (fun u : (Nat → Nat) × (Nat → Nat) => (∀ j, j < n → u.1 j = kPa (kC fr to wt am) n n j) ∧ ∀ j, 1 ≤ j → j < n → u.2 j = kBr (kC fr to wt am) n j) (fun u => (cw ad cI cII cP n am al ch fr to wt nb M tch cu (nI ch) u.1 u.2 gp P ++ X)) (fun _ => none) := by
  refine xMetS_of (cc := cX3_refresh) (maxL := 2) (ret := none) (by decide +kernel) rfl (Nat.le_of_ble_eq_true rfl) (fun _ _ => xfv) ?_
  intro E S hnm hret
  show xW E D vwCl 2 0 0 _ [(0, .ref (ad 20))] 0 []
  have hn := hA.1
  have L2 : ∀ v, v ≤ n → 1 ≤ v → ∀ c b : Nat → Nat, (∀ j, j < n → c j = kPa (kC fr to wt am) n v j) → (∀ j, 1 ≤ j → j < v → b j = kBr (kC fr to wt am) n j) → xW E D vwCl 2 0 0 (cw ad cI cII cP n am al ch fr to wt nb M tch cu (nI ch) c b gp P ++ X) [(0, .ref (ad 20)), (1, .int (nI v))] 54 [] := by
    refine pl_up n (fun v hv ih => ?_)
    intro hv1 c b g1 g2
    refine x_iload_n S dX3_refresh_54 1 rfl rfl ?_
    refine x_aload_n S dX3_refresh_55 0 rfl rfl ?_
    refine x_get S 20 0 rfl rfl inC3 (by decide) (gC _ tw92) rfl rfl dX3_refresh_56 ?_
    refine x_get S 0 5 rfl rfl inC2 (by decide) (gC _ tw41) rfl rfl dX3_refresh_59 ?_
    refine x_icmp_ge (tgt := 76) S dX3_refresh_62 (by decide) (fun h3 => ?_) (fun h3 => ?_)
    · have hv2 : v = n := Nat.le_antisymm hv ((nI_leI (by omega) (by omega)).mp h3)
      subst hv2
      exact hret ((c, b)) _ _ ⟨g1, g2⟩ dX3_refresh_76
    have hv2 : v < n := Nat.lt_of_not_le (fun h => h3 (nI_le h (by omega)))
    refine x_aload_n S dX3_refresh_65 0 rfl rfl ?_
    refine x_iload_n S dX3_refresh_66 1 rfl rfl ?_
    refine x_cVvS (n := 1) S (c_hang (kPa (kC fr to wt am) n v) h1 hA hT hv1 hv2 g1 (kPa_lt _ _ _ _ hv1) (fun j hj => (Nat.eq_zero_or_pos j).elim (fun e => by have := kPa_lt (kC fr to wt am) n v 1 (Nat.le_refl _); rw [e]; have h0 : kPa (kC fr to wt am) n v 0 = 0 := kPa_0 _ _ _; omega) (fun e => by have := kPa_lt (kC fr to wt am) n v j e; omega))) (gGV gC tw292 tw289 tw291 ts4 tw4) rfl (by decide +kernel) 20 rfl rfl rfl rfl (Nat.le_of_ble_eq_true rfl) dX3_refresh_67 ⟨by decide, by decide⟩ ⟨Nat.le_of_ble_eq_true rfl, Nat.le_of_ble_eq_true rfl⟩ (fun c2 hc2 => ?_)
    refine x_iincN (lv' := [(1, .int _), (0, .ref _)]) S dX3_refresh_70 1 rfl (by decide) rfl ?_
    refine x_goto (tgt := 54) S dX3_refresh_73 (by decide) ?_
    exact x_sub [1, 0] rfl (ih hv2 (by omega) c2 _ (fun j hj => by rw [kPa_s hv1]; exact hc2 j hj) (fun j hj1 hj => (Nat.lt_or_ge j v).elim (fun h => by rw [va_up_ne _ _ (by omega)]; exact g2 j hj1 h) (fun h => by have e : j = v := (by omega); subst e; rw [va_up_self]; unfold kBr; have hk := kPa_keep (kC fr to wt am) n (n - j) j j (Nat.le_refl _); rw [show j + (n - j) = n by omega] at hk; rw [hk])))
  have L1 : ∀ k, k ≤ n → ∀ c : Nat → Nat, (∀ j, j < k → c j = 0) → xW E D vwCl 2 0 0 (cw ad cI cII cP n am al ch fr to wt nb M tch cu (nI ch) c br gp P ++ X) [(0, .ref (ad 20)), (1, .int (nI k))] 28 [] := by
    refine pl_up n (fun k hk ih => ?_)
    intro c g1
    refine x_iload_n S dX3_refresh_28 1 rfl rfl ?_
    refine x_aload_n S dX3_refresh_29 0 rfl rfl ?_
    refine x_get S 20 0 rfl rfl inC3 (by decide) (gC _ tw92) rfl rfl dX3_refresh_30 ?_
    refine x_get S 0 5 rfl rfl inC2 (by decide) (gC _ tw41) rfl rfl dX3_refresh_33 ?_
    refine x_icmp_ge (tgt := 52) S dX3_refresh_36 (by decide) (fun h3 => ?_) (fun h3 => ?_)
    · have hk2 : k = n := Nat.le_antisymm hk ((nI_leI (by omega) (by omega)).mp h3)
      subst hk2
      refine x_iconst (v := 1) S dX3_refresh_52 rfl ?_
      refine x_istore_n (lv' := [(1, .int _), (0, .ref _)]) S dX3_refresh_53 rfl (by decide) rfl ?_
      exact x_sub [1, 0] rfl (L2 1 h1 (Nat.le_refl _) c br (fun j hj => by rw [kPa_1]; exact g1 j hj) (fun j h h' => absurd h' (by omega)))
    have hk2 : k < n := Nat.lt_of_not_le (fun h => h3 (nI_le h (by omega)))
    refine x_aload_n S dX3_refresh_39 0 rfl rfl ?_
    refine x_get S 20 2 rfl rfl inC3 (by decide) (gC _ tw94) rfl rfl dX3_refresh_40 ?_
    refine x_iload_n S dX3_refresh_43 1 rfl rfl ?_
    refine x_iconst (v := 0) S dX3_refresh_44 rfl ?_
    refine x_iastN (ws' := (cw ad cI cII cP n am al ch fr to wt nb M tch cu (nI ch) (va_up c k 0) br gp P ++ X)) (z := 0) S 21 0 (k) rfl rfl rfl (by omega) (by decide) rfl dX3_refresh_45 rfl ?_
    refine x_iincN (lv' := [(1, .int _), (0, .ref _)]) S dX3_refresh_46 1 rfl (by decide) rfl ?_
    refine x_goto (tgt := 28) S dX3_refresh_49 (by decide) ?_
    exact x_sub [1, 0] rfl (ih hk2 _ (fun j hj => (Nat.lt_or_ge j k).elim (fun h => by rw [va_up_ne _ _ (by omega)]; exact g1 j h) (fun h => by rw [show j = k by omega, va_up_self])))
  refine x_aload_n S dX3_refresh_0 0 rfl rfl ?_
  refine x_get S 20 4 rfl rfl inC3 (by decide) (gC _ tw98) rfl rfl dX3_refresh_1 ?_
  refine x_aload_n S dX3_refresh_4 0 rfl rfl ?_
  refine x_get S 20 0 rfl rfl inC3 (by decide) (gC _ tw92) rfl rfl dX3_refresh_5 ?_
  refine x_get S 0 8 rfl rfl inC2 (by decide) (gC _ tw48) rfl rfl dX3_refresh_8 ?_
  refine x_icmp_ne (tgt := 15) S dX3_refresh_11 (by decide) (fun h3 => ?_) (fun h3 => ?_)
  rotate_left
  · have hR2 := hR h3
    subst h3
    exact hret ((pa, br)) _ _ hR2 dX3_refresh_14
  refine x_aload_n S dX3_refresh_15 0 rfl rfl ?_
  refine x_aload_n S dX3_refresh_16 0 rfl rfl ?_
  refine x_get S 20 0 rfl rfl inC3 (by decide) (gC _ tw92) rfl rfl dX3_refresh_17 ?_
  refine x_get S 0 8 rfl rfl inC2 (by decide) (gC _ tw48) rfl rfl dX3_refresh_20 ?_
  refine x_put (ws' := (cw ad cI cII cP n am al ch fr to wt nb M tch cu (nI ch) pa br gp P ++ X)) S 20 4 rfl rfl inC3 tyX3 tyX3_ok nmX3 (by decide) (gC _ tw98) rfl rfl (tyX3_ok 4 (by decide)) rfl rfl (Nat.le_of_ble_eq_true rfl) dX3_refresh_23 rfl ?_
  refine x_iconst (v := 0) S dX3_refresh_26 rfl ?_
  refine x_istore_n (lv' := [(1, .int _), (0, .ref _)]) S dX3_refresh_27 rfl (by decide) rfl ?_
  exact x_sub [1, 0] rfl (L1 0 (Nat.zero_le _) pa (fun j hj => absurd hj (by omega)))
set_option maxHeartbeats 4000000 in
set_option maxRecDepth 100000 in
theorem c_leastBranchBetween {a b : Nat} (hn : n ≤ 12) (ha : a < n) (hb : b < n) (hp : ∀ j, j < n → pa j < n) (hbr : ∀ j, 1 ≤ j → j < n → br j < 2 ^ 31) : xMet l yX3_leastBranchBetween wX3_leastBranchBetween (rD 1) D vwCl (tyC cI cII cP cZ) nwC [.ref (ad 20), .int (nI a), .int (nI b)] (cw ad cI cII cP n am al ch fr to wt nb M tch cu rch pa br gp P ++ X) (cw ad cI cII cP n am al ch fr to wt nb M tch cu rch pa br gp P ++ X) (some (.int (nI (kWy pa br 24 a b 2147483647)))) := by
  refine xMet_of (cc := cX3_leastBranchBetween) (maxL := 8) (ret := (some .int)) (by decide +kernel) rfl (Nat.le_of_ble_eq_true rfl) xfi ?_
  intro E S hnm hret
  show xW E D vwCl 8 0 0 _ [(0, .ref (ad 20)), (1, .int (nI a)), (2, .int (nI b))] 0 []
  obtain ⟨rr, hrr⟩ : ∃ rr, kWy pa br 24 a b 2147483647 = rr := ⟨_, rfl⟩
  rw [hrr] at hret
  have F : ∀ (lv : List (Nat × Value)) (r : Nat), r = rr → xW E D vwCl 8 0 0 (cw ad cI cII cP n am al ch fr to wt nb M tch cu rch pa br gp P ++ X) ((3, .int (nI r)) :: lv) 75 [] := by
    intro lv r hr
    refine x_iload_n S dX3_leastBranchBetween_75 0 rfl rfl ?_
    exact x_ret hret (by rw [hr]) dX3_leastBranchBetween_76
  have L : ∀ k, k ≤ 24 → ∀ x y z, x < n → y < n → z < 2 ^ 31 → kWy pa br (24 - k) x y z = rr → xW E D vwCl 8 0 0 (cw ad cI cII cP n am al ch fr to wt nb M tch cu rch pa br gp P ++ X) [(0, .ref (ad 20)), (1, .int (nI a)), (2, .int (nI b)), (3, .int (nI z)), (4, .int (nI x)), (5, .int (nI y)), (6, .int (nI k))] 12 [] := by
    refine pl_up 24 (fun k hk ih => ?_)
    intro x y z hx hy hz he
    refine x_iload S dX3_leastBranchBetween_12 6 rfl ?_
    refine x_bipush (v := 24) S dX3_leastBranchBetween_14 (by decide) ?_
    refine x_icmp_ge (tgt := 75) S dX3_leastBranchBetween_16 (by decide) (fun h3 => ?_) (fun h3 => ?_)
    · have hk2 : k = 24 := Nat.le_antisymm hk ((nI_leI (by omega) (by omega)).mp h3)
      rw [hk2, Nat.sub_self] at he
      exact x_sub [3] rfl (F [] z he)
    have hk2 : k < 24 := Nat.lt_of_not_le (fun h => h3 (nI_le h (by omega)))
    rw [show 24 - k = (24 - (k + 1)) + 1 by omega] at he
    simp only [kWy] at he
    refine x_iload S dX3_leastBranchBetween_19 4 rfl ?_
    refine x_iload S dX3_leastBranchBetween_21 5 rfl ?_
    refine x_icmp_eq (tgt := 75) S dX3_leastBranchBetween_23 (by decide) (fun h4 => ?_) (fun h4 => ?_)
    · rw [if_pos (pl_inj (by omega) (by omega) h4)] at he
      exact x_sub [3] rfl (F [] z he)
    have hne : x ≠ y := fun w => h4 (by rw [w])
    rw [if_neg hne] at he
    refine x_iload S dX3_leastBranchBetween_26 4 rfl ?_
    refine x_iload S dX3_leastBranchBetween_28 5 rfl ?_
    refine x_mmin S (gC _ tw308) (gC _ tw309) (gC _ tw8) (gC _ tw310) (by decide) (Nat.le_of_ble_eq_true rfl) (Nat.le_of_ble_eq_true rfl) (Nat.le_of_ble_eq_true rfl) dX3_leastBranchBetween_30 ?_
    refine x_top (nI (min x y)) (nI_min (by omega) (by omega)) ?_
    refine x_istore (lv' := [(7, .int _), (0, .ref _), (1, .int _), (2, .int _), (3, .int _), (4, .int _), (5, .int _), (6, .int _)]) S dX3_leastBranchBetween_33 (by decide) rfl ?_
    refine x_iload S dX3_leastBranchBetween_35 5 rfl ?_
    refine x_iload S dX3_leastBranchBetween_37 6 rfl ?_
    refine x_mmax S (gC _ tw311) (gC _ tw312) (gC _ tw8) (gC _ tw313) (by decide) (Nat.le_of_ble_eq_true rfl) (Nat.le_of_ble_eq_true rfl) (Nat.le_of_ble_eq_true rfl) dX3_leastBranchBetween_39 ?_
    refine x_top (nI (max x y)) (nI_max (by omega) (by omega)) ?_
    refine x_istore (lv' := [(5, .int _), (7, .int _), (0, .ref _), (1, .int _), (2, .int _), (3, .int _), (4, .int _), (6, .int _)]) S dX3_leastBranchBetween_42 (by decide) rfl ?_
    refine x_iload S dX3_leastBranchBetween_44 1 rfl ?_
    refine x_istore (lv' := [(4, .int _), (5, .int _), (7, .int _), (0, .ref _), (1, .int _), (2, .int _), (3, .int _), (6, .int _)]) S dX3_leastBranchBetween_46 (by decide) rfl ?_
    refine x_iload_n S dX3_leastBranchBetween_48 6 rfl rfl ?_
    refine x_aload_n S dX3_leastBranchBetween_49 3 rfl rfl ?_
    refine x_get S 20 3 rfl rfl inC3 (by decide) (gC _ tw96) rfl rfl dX3_leastBranchBetween_50 ?_
    refine x_iload S dX3_leastBranchBetween_53 1 rfl ?_
    have hm : max x y < n := by omega
    have hb1 := hbr (max x y) (by omega) hm
    refine x_ialdN S 22 0 (max x y) rfl rfl rfl (by omega) (by decide) dX3_leastBranchBetween_55 ?_
    refine x_mmin S (gC _ tw308) (gC _ tw309) (gC _ tw8) (gC _ tw310) (by decide) (Nat.le_of_ble_eq_true rfl) (Nat.le_of_ble_eq_true rfl) (Nat.le_of_ble_eq_true rfl) dX3_leastBranchBetween_56 ?_
    refine x_top (nI (min z (br (max x y)))) (nI_min (by omega) (by omega)) ?_
    refine x_istore_n (lv' := [(3, .int _), (4, .int _), (5, .int _), (7, .int _), (0, .ref _), (1, .int _), (2, .int _), (6, .int _)]) S dX3_leastBranchBetween_59 rfl (by decide) rfl ?_
    refine x_aload_n S dX3_leastBranchBetween_60 4 rfl rfl ?_
    refine x_get S 20 2 rfl rfl inC3 (by decide) (gC _ tw94) rfl rfl dX3_leastBranchBetween_61 ?_
    refine x_iload S dX3_leastBranchBetween_64 2 rfl ?_
    refine x_ialdN S 21 0 (max x y) rfl rfl rfl (by omega) (by decide) dX3_leastBranchBetween_66 ?_
    refine x_istore (lv' := [(5, .int _), (3, .int _), (4, .int _), (7, .int _), (0, .ref _), (1, .int _), (2, .int _), (6, .int _)]) S dX3_leastBranchBetween_67 (by decide) rfl ?_
    refine x_iincN (lv' := [(6, .int _), (5, .int _), (3, .int _), (4, .int _), (7, .int _), (0, .ref _), (1, .int _), (2, .int _)]) S dX3_leastBranchBetween_69 7 rfl (by decide) rfl ?_
    refine x_goto (tgt := 12) S dX3_leastBranchBetween_72 (by decide) ?_
    exact x_sub [5, 6, 7, 2, 3, 1, 0] rfl (ih hk2 _ _ _ (by omega) (hp _ hm) (by omega) he)
  refine x_ldc S (gC _ tw307) dX3_leastBranchBetween_0 ?_
  refine x_istore_n (lv' := [(3, .int _), (0, .ref _), (1, .int _), (2, .int _)]) S dX3_leastBranchBetween_2 rfl (by decide) rfl ?_
  refine x_iload_n S dX3_leastBranchBetween_3 2 rfl rfl ?_
  refine x_istore (lv' := [(4, .int _), (3, .int _), (0, .ref _), (1, .int _), (2, .int _)]) S dX3_leastBranchBetween_4 (by decide) rfl ?_
  refine x_iload_n S dX3_leastBranchBetween_6 4 rfl rfl ?_
  refine x_istore (lv' := [(5, .int _), (4, .int _), (3, .int _), (0, .ref _), (1, .int _), (2, .int _)]) S dX3_leastBranchBetween_7 (by decide) rfl ?_
  refine x_iconst (v := 0) S dX3_leastBranchBetween_9 rfl ?_
  refine x_istore (lv' := [(6, .int _), (5, .int _), (4, .int _), (3, .int _), (0, .ref _), (1, .int _), (2, .int _)]) S dX3_leastBranchBetween_10 (by decide) rfl ?_
  exact x_sub [4, 5, 6, 3, 2, 1, 0] rfl (L 0 (Nat.zero_le _) a b 2147483647 ha hb (by omega) hrr)
end TR
