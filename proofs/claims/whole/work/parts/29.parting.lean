/-! Parting: contracts -/
section PT
def cwp (ad : Nat → Nat) (cI cII cP : ClassId) (n am al ch : Nat) (fr to wt nb : Nat → Nat) (M : Nat → Nat → Nat) (tch : Int32) (cu : Nat → Nat) (rch : Int32) (pa br gp : Nat → Nat) (P : Nat → Int32 × Nat × (Nat → Nat) × (Nat → Nat)) (j : Nat) (cs : Int32) (lc : Nat) (tr be : Nat → Nat) : va_W := cw ad cI cII cP n am al ch fr to wt nb M tch cu rch pa br gp (va_up P j (cs, lc, tr, be))
section CWP
variable {ad : Nat → Nat} {cI cII cP : ClassId} {n am al ch : Nat} {fr to wt nb : Nat → Nat} {M : Nat → Nat → Nat} {tch : Int32} {cu : Nat → Nat} {rch : Int32} {pa br gp : Nat → Nat} {P : Nat → Int32 × Nat × (Nat → Nat) × (Nat → Nat)} {j : Nat} {cs : Int32} {lc : Nat} {tr be : Nat → Nat} {X : va_W}
theorem cwp_row {v : Nat} (hv : v < 12) : (cwp ad cI cII cP n am al ch fr to wt nb M tch cu rch pa br gp P j cs lc tr be ++ X)[6 + v]? = some (ad (6 + v), .inl (cI, 12, .inl (aN (M v)))) := cw_row hv
theorem cwp_0 (hj : j < 4) : (cwp ad cI cII cP n am al ch fr to wt nb M tch cu rch pa br gp P j cs lc tr be ++ X)[27 + 3 * j]? = some (ad (27 + 3 * j), .inr (4, [.ref (ad 0), .int (nI (j + 1)), .ref (ad (28 + 3 * j)), .ref (ad (29 + 3 * j)), .int (nI lc), .int cs])) := by
  unfold cwp
  rw [cw_p0 hj, va_up_self]
theorem cwp_1 (hj : j < 4) : (cwp ad cI cII cP n am al ch fr to wt nb M tch cu rch pa br gp P j cs lc tr be ++ X)[28 + 3 * j]? = some (ad (28 + 3 * j), .inl (cI, 10, .inl (aN tr))) := by
  unfold cwp
  rw [cw_p1 hj, va_up_self]
theorem cwp_2 (hj : j < 4) : (cwp ad cI cII cP n am al ch fr to wt nb M tch cu rch pa br gp P j cs lc tr be ++ X)[29 + 3 * j]? = some (ad (29 + 3 * j), .inl (cI, 10, .inl (aN be))) := by
  unfold cwp
  rw [cw_p2 hj, va_up_self]
theorem cwp_s0 (hj : j < 4) (cs' : Int32) (lc' : Nat) : (cwp ad cI cII cP n am al ch fr to wt nb M tch cu rch pa br gp P j cs lc tr be ++ X).set (27 + 3 * j) (ad (27 + 3 * j), .inr (4, [.ref (ad 0), .int (nI (j + 1)), .ref (ad (28 + 3 * j)), .ref (ad (29 + 3 * j)), .int (nI lc'), .int cs'])) = cwp ad cI cII cP n am al ch fr to wt nb M tch cu rch pa br gp P j cs' lc' tr be ++ X := by
  match j, hj with
  | 0, _ => rfl
  | 1, _ => rfl
  | 2, _ => rfl
  | 3, _ => rfl
  | j + 4, h => exact absurd h (by omega)
theorem cwp_s1 (hj : j < 4) (t : Nat → Nat) : (cwp ad cI cII cP n am al ch fr to wt nb M tch cu rch pa br gp P j cs lc tr be ++ X).set (28 + 3 * j) (ad (28 + 3 * j), .inl (cI, 10, .inl (aN t))) = cwp ad cI cII cP n am al ch fr to wt nb M tch cu rch pa br gp P j cs lc t be ++ X := by
  match j, hj with
  | 0, _ => rfl
  | 1, _ => rfl
  | 2, _ => rfl
  | 3, _ => rfl
  | j + 4, h => exact absurd h (by omega)
theorem cwp_s2 (hj : j < 4) (t : Nat → Nat) : (cwp ad cI cII cP n am al ch fr to wt nb M tch cu rch pa br gp P j cs lc tr be ++ X).set (29 + 3 * j) (ad (29 + 3 * j), .inl (cI, 10, .inl (aN t))) = cwp ad cI cII cP n am al ch fr to wt nb M tch cu rch pa br gp P j cs lc tr t ++ X := by
  match j, hj with
  | 0, _ => rfl
  | 1, _ => rfl
  | 2, _ => rfl
  | 3, _ => rfl
  | j + 4, h => exact absurd h (by omega)
end CWP
/-- what NODE v costs to the lower ones -/
def pC (M : Nat → Nat → Nat) (f : Nat → Nat) (v : Nat) : Nat := sm (fun u => if f u = f v then 0 else M v u) v
def foldN {α : Type} (g : Nat → α → α) : Nat → α → α
  | 0, s => s
  | m + 1, s => g m (foldN g m s)
def kT (n k : Nat) (M : Nat → Nat → Nat) : Nat → Nat → Nat → Nat → (Nat → Nat) → Nat × (Nat → Nat) → Nat × (Nat → Nat)
  | 0, v, used, cost, f, st => if k + v ≤ n + used ∧ cost < st.1 then (cost, f) else st
  | d + 1, v, used, cost, f, st => if k + v ≤ n + used ∧ cost < st.1 then foldN (fun x st => kT n k M d (v + 1) (max used (x + 1)) (cost + pC M (va_up f v x) v) (va_up f v x) st) (min (used + 1) k) st else st
theorem pC_congr {M : Nat → Nat → Nat} {f g : Nat → Nat} {v : Nat} (h : ∀ u, u ≤ v → f u = g u) : pC M f v = pC M g v := sm_congr (fun u hu => by rw [h u (by omega), h v (Nat.le_refl _)])
theorem pC_bd {M : Nat → Nat → Nat} {f : Nat → Nat} {v c : Nat} (h : ∀ u, u < v → M v u ≤ c) : pC M f v ≤ c * v := sm_bd (fun u hu => by
  have := h u hu
  split <;> omega)
variable {l : Launch} {D : va_G} {ad : Nat → Nat} {cI cII cP cZ : ClassId} {n am al ch : Nat} {fr to wt nb : Nat → Nat} {M : Nat → Nat → Nat} {tch : Int32} {cu : Nat → Nat} {rch : Int32} {pa br gp : Nat → Nat} {P : Nat → Int32 × Nat × (Nat → Nat) × (Nat → Nat)} {X : va_W} {j : Nat} {cs : Int32} {lc : Nat} {tr be : Nat → Nat}
set_option maxHeartbeats 4000000 in
set_option maxRecDepth 100000 in
theorem c_costToLower {v : Nat} (hj : j < 4) (hv : v < 10) (ht : ∀ u, u ≤ v → tr u < 4) : xMet l yX4_costToLower wX4_costToLower (rD 0) D vwCl (tyC cI cII cP cZ) nwC [.ref (ad (27 + 3 * j)), .int (nI v)] (cwp ad cI cII cP n am al ch fr to wt nb M tch cu rch pa br gp P j cs lc tr be ++ X) (cwp ad cI cII cP n am al ch fr to wt nb M tch cu rch pa br gp P j cs lc tr be ++ X) (some (.int (nI (pC M tr v)))) := by
  refine xMet_of (cc := cX4_costToLower) (maxL := 4) (ret := (some .int)) (by decide +kernel) rfl (Nat.le_of_ble_eq_true rfl) xfi ?_
  intro E S hnm hret
  show xW E D vwCl 4 0 0 _ [(0, .ref (ad (27 + 3 * j))), (1, .int (nI v))] 0 []
  have htv := ht v (Nat.le_refl _)
  have L : ∀ k, k ≤ v → xW E D vwCl 4 0 0 (cwp ad cI cII cP n am al ch fr to wt nb M tch cu rch pa br gp P j cs lc tr be ++ X) [(0, .ref (ad (27 + 3 * j))), (1, .int (nI v)), (2, .int (nI (sm (fun u => if tr u = tr v then 0 else M v u) k))), (3, .int (nI k))] 4 [] := by
    refine pl_up v (fun k hk ih => ?_)
    refine x_iload_n S dX4_costToLower_4 3 rfl rfl ?_
    refine x_iload_n S dX4_costToLower_5 1 rfl rfl ?_
    refine x_icmp_ge (tgt := 44) S dX4_costToLower_6 (by decide) (fun h3 => ?_) (fun h3 => ?_)
    · have hk2 : k = v := Nat.le_antisymm hk ((nI_leI (by omega) (by omega)).mp h3)
      subst hk2
      refine x_iload_n S dX4_costToLower_44 2 rfl rfl ?_
      exact x_ret hret rfl dX4_costToLower_45
    have hk2 : k < v := Nat.lt_of_not_le (fun h => h3 (nI_le h (by omega)))
    have htk := ht k hk
    have ih := ih hk2
    simp only [sm] at ih
    refine x_aload_n S dX4_costToLower_9 0 rfl rfl ?_
    refine x_get S (27 + 3 * j) 2 (cwp_0 hj) rfl inC4 (by decide) (gC _ tw132) rfl rfl dX4_costToLower_10 ?_
    refine x_iload_n S dX4_costToLower_13 3 rfl rfl ?_
    refine x_ialdN S (28 + 3 * j) 0 (k) (cwp_1 hj) rfl rfl (by omega) (by decide) dX4_costToLower_14 ?_
    refine x_aload_n S dX4_costToLower_15 0 rfl rfl ?_
    refine x_get S (27 + 3 * j) 2 (cwp_0 hj) rfl inC4 (by decide) (gC _ tw132) rfl rfl dX4_costToLower_16 ?_
    refine x_iload_n S dX4_costToLower_19 1 rfl rfl ?_
    refine x_ialdN S (28 + 3 * j) 0 (v) (cwp_1 hj) rfl rfl (by omega) (by decide) dX4_costToLower_20 ?_
    refine x_icmp_eq (tgt := 38) S dX4_costToLower_21 (by decide) (fun h4 => ?_) (fun h4 => ?_)
    · rw [if_pos (pl_inj (by omega) (by omega) h4)] at ih
      refine x_iincN (lv' := [(3, .int _), (0, .ref _), (1, .int _), (2, .int _)]) S dX4_costToLower_38 3 rfl (by decide) rfl ?_
      refine x_goto (tgt := 4) S dX4_costToLower_41 (by decide) ?_
      exact x_sub [1, 2, 3, 0] rfl (ih)
    rw [if_neg (fun q => h4 (by rw [q]))] at ih
    refine x_iload_n S dX4_costToLower_24 2 rfl rfl ?_
    refine x_aload_n S dX4_costToLower_25 0 rfl rfl ?_
    refine x_get S (27 + 3 * j) 0 (cwp_0 hj) rfl inC4 (by decide) (gC _ tw130) rfl rfl dX4_costToLower_26 ?_
    refine x_get S 0 3 rfl rfl inC2 (by decide) (gC _ tw34) rfl rfl dX4_costToLower_29 ?_
    refine x_iload_n S dX4_costToLower_32 1 rfl rfl ?_
    refine x_aald S 4 1 (v) rfl rfl rfl rfl (by omega) (by decide) rfl dX4_costToLower_33 ?_
    refine x_iload_n S dX4_costToLower_34 3 rfl rfl ?_
    refine x_ialdN S (6 + v) 0 (k) (cwp_row (by omega)) rfl rfl (by omega) (by decide) dX4_costToLower_35 ?_
    refine x_iadd S dX4_costToLower_36 ?_
    refine x_top (nI (sm (fun u => if tr u = tr v then 0 else M v u) k + M v k)) (nI_add _ _) ?_
    refine x_istore_n (lv' := [(2, .int _), (0, .ref _), (1, .int _), (3, .int _)]) S dX4_costToLower_37 rfl (by decide) rfl ?_
    refine x_iincN (lv' := [(3, .int _), (2, .int _), (0, .ref _), (1, .int _)]) S dX4_costToLower_38 3 rfl (by decide) rfl ?_
    refine x_goto (tgt := 4) S dX4_costToLower_41 (by decide) ?_
    exact x_sub [2, 3, 1, 0] rfl (ih)
  refine x_iconst (v := 0) S dX4_costToLower_0 rfl ?_
  refine x_istore_n (lv' := [(2, .int _), (0, .ref _), (1, .int _)]) S dX4_costToLower_1 rfl (by decide) rfl ?_
  refine x_iconst (v := 0) S dX4_costToLower_2 rfl ?_
  refine x_istore_n (lv' := [(3, .int _), (2, .int _), (0, .ref _), (1, .int _)]) S dX4_costToLower_3 rfl (by decide) rfl ?_
  exact x_sub [2, 3, 1, 0] rfl (L 0 (Nat.zero_le _))
set_option maxHeartbeats 4000000 in
set_option maxRecDepth 100000 in
theorem c_keepTried {c : Nat} (hj : j < 4) (hn : n ≤ 10) : xMetS l yX4_keepTried wX4_keepTried (rD 0) D vwCl (tyC cI cII cP cZ) nwC [.ref (ad (27 + 3 * j)), .int (nI c)] (cwp ad cI cII cP n am al ch fr to wt nb M tch cu rch pa br gp P j cs lc tr be ++ X) (fun b : Nat → Nat => ∀ u, u < n → b u = tr u) (fun b => (cwp ad cI cII cP n am al ch fr to wt nb M tch cu rch pa br gp P j cs c tr b ++ X)) (fun _ => none) := by
  refine xMetS_of (cc := cX4_keepTried) (maxL := 3) (ret := none) (by decide +kernel) rfl (Nat.le_of_ble_eq_true rfl) (fun _ _ => xfv) ?_
  intro E S hnm hret
  show xW E D vwCl 3 0 0 _ [(0, .ref (ad (27 + 3 * j))), (1, .int (nI c))] 0 []
  have L : ∀ k, k ≤ n → ∀ b : Nat → Nat, (∀ u, u < k → b u = tr u) → xW E D vwCl 3 0 0 (cwp ad cI cII cP n am al ch fr to wt nb M tch cu rch pa br gp P j cs c tr b ++ X) [(0, .ref (ad (27 + 3 * j))), (1, .int (nI c)), (2, .int (nI k))] 7 [] := by
    refine pl_up n (fun k hk ih => ?_)
    intro b g1
    refine x_iload_n S dX4_keepTried_7 2 rfl rfl ?_
    refine x_aload_n S dX4_keepTried_8 0 rfl rfl ?_
    refine x_get S (27 + 3 * j) 0 (cwp_0 hj) rfl inC4 (by decide) (gC _ tw130) rfl rfl dX4_keepTried_9 ?_
    refine x_get S 0 5 rfl rfl inC2 (by decide) (gC _ tw39) rfl rfl dX4_keepTried_12 ?_
    refine x_icmp_ge (tgt := 36) S dX4_keepTried_15 (by decide) (fun h3 => ?_) (fun h3 => ?_)
    · have hk2 : k = n := Nat.le_antisymm hk ((nI_leI (by omega) (by omega)).mp h3)
      subst hk2
      exact hret (b) _ _ g1 dX4_keepTried_36
    have hk2 : k < n := Nat.lt_of_not_le (fun h => h3 (nI_le h (by omega)))
    refine x_aload_n S dX4_keepTried_18 0 rfl rfl ?_
    refine x_get S (27 + 3 * j) 3 (cwp_0 hj) rfl inC4 (by decide) (gC _ tw133) rfl rfl dX4_keepTried_19 ?_
    refine x_iload_n S dX4_keepTried_22 2 rfl rfl ?_
    refine x_aload_n S dX4_keepTried_23 0 rfl rfl ?_
    refine x_get S (27 + 3 * j) 2 (cwp_0 hj) rfl inC4 (by decide) (gC _ tw132) rfl rfl dX4_keepTried_24 ?_
    refine x_iload_n S dX4_keepTried_27 2 rfl rfl ?_
    refine x_ialdN S (28 + 3 * j) 0 (k) (cwp_1 hj) rfl rfl (by omega) (by decide) dX4_keepTried_28 ?_
    refine x_iastN (ws' := (cwp ad cI cII cP n am al ch fr to wt nb M tch cu rch pa br gp P j cs c tr (va_up b k (tr k)) ++ X)) S (29 + 3 * j) 0 (k) (cwp_2 hj) rfl rfl (by omega) (by decide) rfl dX4_keepTried_29 (cwp_s2 hj _) ?_
    refine x_iincN (lv' := [(2, .int _), (0, .ref _), (1, .int _)]) S dX4_keepTried_30 2 rfl (by decide) rfl ?_
    refine x_goto (tgt := 7) S dX4_keepTried_33 (by decide) ?_
    exact x_sub [1, 2, 0] rfl (ih hk2 _ (fun v hv => (Nat.lt_or_ge v k).elim (fun h => by rw [va_up_ne _ _ (by omega)]; exact g1 v h) (fun h => by rw [show v = k by omega, va_up_self])))
  refine x_aload_n S dX4_keepTried_0 0 rfl rfl ?_
  refine x_iload_n S dX4_keepTried_1 1 rfl rfl ?_
  refine x_put (ws' := (cwp ad cI cII cP n am al ch fr to wt nb M tch cu rch pa br gp P j cs c tr be ++ X)) S (27 + 3 * j) 4 (cwp_0 hj) rfl inC4 tyX4 tyX4_ok nmX4 (by decide) (gC _ tw135) rfl rfl (tyX4_ok 4 (by decide)) rfl rfl (Nat.le_of_ble_eq_true rfl) dX4_keepTried_2 (cwp_s0 hj _ _) ?_
  refine x_iconst (v := 0) S dX4_keepTried_5 rfl ?_
  refine x_istore_n (lv' := [(2, .int _), (0, .ref _), (1, .int _)]) S dX4_keepTried_6 rfl (by decide) rfl ?_
  exact x_sub [1, 2, 0] rfl (L 0 (Nat.zero_le _) be (fun v hv => absurd hv (by omega)))
end PT
