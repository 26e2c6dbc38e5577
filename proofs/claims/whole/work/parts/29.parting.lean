/-! Parting: contracts -/
section PT
def cwp (ad : Nat → Nat) (cI cII cP : ClassId) (n am al ch : Nat) (fr to wt nb : Nat → Nat) (M : Nat → Nat → Nat) (tch : Int32) (cu : Nat → Nat) (rch : Int32) (pa br gp : Nat → Nat) (P : Nat → Int32 × Nat × (Nat → Nat) × (Nat → Nat)) (j : Nat) (cs : Int32) (lc : Nat) (tr be : Nat → Nat) : va_W := cw ad cI cII cP n am al ch fr to wt nb M tch cu rch pa br gp (va_up P j (cs, lc, tr, be))
section CWP
variable {ad : Nat → Nat} {cI cII cP : ClassId} {n am al ch : Nat} {fr to wt nb : Nat → Nat} {M : Nat → Nat → Nat} {tch : Int32} {cu : Nat → Nat} {rch : Int32} {pa br gp : Nat → Nat} {P : Nat → Int32 × Nat × (Nat → Nat) × (Nat → Nat)} {j : Nat} {cs : Int32} {lc : Nat} {tr be : Nat → Nat} {X : va_W}
theorem cwp_row {v : Nat} (hv : v < 12) : (cwp ad cI cII cP n am al ch fr to wt nb M tch cu rch pa br gp P j cs lc tr be ++ X)[6 + v]? = some (ad (6 + v), .inl (cI, 12, .inl (aN (M v)))) := cw_row hv
theorem cwp_0 (hj : j < 4) : (cwp ad cI cII cP n am al ch fr to wt nb M tch cu rch pa br gp P j cs lc tr be ++ X)[27 + 3 * j]? = some (ad (27 + 3 * j), .inr (4, [.ref (ad 0), .int (nI (j + 1)), .ref (ad (28 + 3 * j)), .ref (ad (29 + 3 * j)), .int (nI lc), .int cs])) := by
  unfold cwp
  rw [cw_p0 hj, va_up_self]
theorem cwp_1 (hj : j < 4) : (cwp ad cI cII cP n am al ch fr to wt nb M tch cu rch pa br gp P j cs lc tr be ++ X)[28 + 3 * j]? = some (ad (28 + 3 * j), .inl (cI, 10, .inl (aN tr))) := by
  unfold cwp
  rw [cw_p1 hj, va_up_self]
theorem cwp_2 (hj : j < 4) : (cwp ad cI cII cP n am al ch fr to wt nb M tch cu rch pa br gp P j cs lc tr be ++ X)[29 + 3 * j]? = some (ad (29 + 3 * j), .inl (cI, 10, .inl (aN be))) := by
  unfold cwp
  rw [cw_p2 hj, va_up_self]
theorem cwp_s0 (hj : j < 4) (cs' : Int32) (lc' : Nat) : (cwp ad cI cII cP n am al ch fr to wt nb M tch cu rch pa br gp P j cs lc tr be ++ X).set (27 + 3 * j) (ad (27 + 3 * j), .inr (4, [.ref (ad 0), .int (nI (j + 1)), .ref (ad (28 + 3 * j)), .ref (ad (29 + 3 * j)), .int (nI lc'), .int cs'])) = cwp ad cI cII cP n am al ch fr to wt nb M tch cu rch pa br gp P j cs' lc' tr be ++ X := by
  match j, hj with
  | 0, _ => rfl
  | 1, _ => rfl
  | 2, _ => rfl
  | 3, _ => rfl
  | j + 4, h => exact absurd h (by omega)
theorem cwp_s1 (hj : j < 4) (t : Nat → Nat) : (cwp ad cI cII cP n am al ch fr to wt nb M tch cu rch pa br gp P j cs lc tr be ++ X).set (28 + 3 * j) (ad (28 + 3 * j), .inl (cI, 10, .inl (aN t))) = cwp ad cI cII cP n am al ch fr to wt nb M tch cu rch pa br gp P j cs lc t be ++ X := by
  match j, hj with
  | 0, _ => rfl
  | 1, _ => rfl
  | 2, _ => rfl
  | 3, _ => rfl
  | j + 4, h => exact absurd h (by omega)
theorem cwp_s2 (hj : j < 4) (t : Nat → Nat) : (cwp ad cI cII cP n am al ch fr to wt nb M tch cu rch pa br gp P j cs lc tr be ++ X).set (29 + 3 * j) (ad (29 + 3 * j), .inl (cI, 10, .inl (aN t))) = cwp ad cI cII cP n am al ch fr to wt nb M tch cu rch pa br gp P j cs lc tr t ++ X := by
  match j, hj with
  | 0, _ => rfl
  | 1, _ => rfl
  | 2, _ => rfl
  | 3, _ => rfl
  | j + 4, h => exact absurd h (by omega)
end CWP
/-- what NODE v costs to the lower ones -/
def pC (M : Nat → Nat → Nat) (f : Nat → Nat) (v : Nat) : Nat := sm (fun u => if f u = f v then 0 else M v u) v
def foldN {α : Type} (g : Nat → α → α) : Nat → α → α
  | 0, s => s
  | m + 1, s => g m (foldN g m s)
def kT (n k : Nat) (M : Nat → Nat → Nat) : Nat → Nat → Nat → Nat → (Nat → Nat) → Nat × (Nat → Nat) → Nat × (Nat → Nat)
  | 0, v, used, cost, f, st => if k + v ≤ n + used ∧ cost < st.1 then (cost, f) else st
  | d + 1, v, used, cost, f, st => if k + v ≤ n + used ∧ cost < st.1 then foldN (fun x st => kT n k M d (v + 1) (max used (x + 1)) (cost + pC M (va_up f v x) v) (va_up f v x) st) (min (used + 1) k) st else st
theorem foldN_le {β : Type} {g : Nat → Nat × β → Nat × β} (h : ∀ x st, (g x st).1 ≤ st.1) : ∀ m st, (foldN g m st).1 ≤ st.1
  | 0, st => Nat.le_refl _
  | m + 1, st => Nat.le_trans (h m (foldN g m st)) (foldN_le h m st)
theorem kT_le (n k : Nat) (M : Nat → Nat → Nat) : ∀ (d v used cost : Nat) (f : Nat → Nat) (st : Nat × (Nat → Nat)), (kT n k M d v used cost f st).1 ≤ st.1
  | 0, v, used, cost, f, st => by
    simp only [kT]
    split
    · rename_i h; exact Nat.le_of_lt h.2
    · exact Nat.le_refl _
  | d + 1, v, used, cost, f, st => by
    simp only [kT]
    split
    · exact foldN_le (fun x st => kT_le n k M d _ _ _ _ _) _ _
    · exact Nat.le_refl _
theorem pC_congr {M : Nat → Nat → Nat} {f g : Nat → Nat} {v : Nat} (h : ∀ u, u ≤ v → f u = g u) : pC M f v = pC M g v := sm_congr (fun u hu => by rw [h u (by omega), h v (Nat.le_refl _)])
theorem pC_bd {M : Nat → Nat → Nat} {f : Nat → Nat} {v c : Nat} (h : ∀ u, u < v → M v u ≤ c) : pC M f v ≤ c * v := sm_bd (fun u hu => by
  have := h u hu
  split <;> omega)
variable {l : Launch} {D : va_G} {ad : Nat → Nat} {cI cII cP cZ : ClassId} {n am al ch : Nat} {fr to wt nb : Nat → Nat} {M : Nat → Nat → Nat} {tch : Int32} {cu : Nat → Nat} {rch : Int32} {pa br gp : Nat → Nat} {P : Nat → Int32 × Nat × (Nat → Nat) × (Nat → Nat)} {X : va_W} {j : Nat} {cs : Int32} {lc : Nat} {tr be : Nat → Nat}
set_option maxHeartbeats 4000000 in
set_option maxRecDepth 100000 in
theorem c_costToLower {v : Nat} (hj : j < 4) (hv : v < 10) (ht : ∀ u, u ≤ v → tr u < 4) : xMet l yX4_costToLower wX4_costToLower (rD 0) D vwCl (tyC cI cII cP cZ) nwC [.ref (ad (27 + 3 * j)), .int (nI v)] (cwp ad cI cII cP n am al ch fr to wt nb M tch cu rch pa br gp P j cs lc tr be ++ X) (cwp ad cI cII cP n am al ch fr to wt nb M tch cu rch pa br gp P j cs lc tr be ++ X) (some (.int (nI (pC M tr v)))) := by
  refine xMet_of (cc := cX4_costToLower) (maxL := 4) (ret := (some .int)) (by decide +kernel) rfl (Nat.le_of_ble_eq_true rfl) xfi ?_
  intro E S hnm hret
  show xW E D vwCl 4 0 0 _ [(0, .ref (ad (27 + 3 * j))), (1, .int (nI v))] 0 []
  have htv := ht v (Nat.le_refl _)
  have L : ∀ k, k ≤ v → xW E D vwCl 4 0 0 (cwp ad cI cII cP n am al ch fr to wt nb M tch cu rch pa br gp P j cs lc tr be ++ X) [(0, .ref (ad (27 + 3 * j))), (1, .int (nI v)), (2, .int (nI (sm (fun u => if tr u = tr v then 0 else M v u) k))), (3, .int (nI k))] 4 [] := by
    refine pl_up v (fun k hk ih => ?_)
    refine x_iload_n S dX4_costToLower_4 3 rfl rfl ?_
    refine x_iload_n S dX4_costToLower_5 1 rfl rfl ?_
    refine x_icmp_ge (tgt := 44) S dX4_costToLower_6 (by decide) (fun h3 => ?_) (fun h3 => ?_)
    · have hk2 : k = v := Nat.le_antisymm hk ((nI_leI (by omega) (by omega)).mp h3)
      subst hk2
      refine x_iload_n S dX4_costToLower_44 2 rfl rfl ?_
      exact x_ret hret rfl dX4_costToLower_45
    have hk2 : k < v := Nat.lt_of_not_le (fun h => h3 (nI_le h (by omega)))
    have htk := ht k hk
    have ih := ih hk2
    simp only [sm] at ih
    refine x_aload_n S dX4_costToLower_9 0 rfl rfl ?_
    refine x_get S (27 + 3 * j) 2 (cwp_0 hj) rfl inC4 (by decide) (gC _ tw132) rfl rfl dX4_costToLower_10 ?_
    refine x_iload_n S dX4_costToLower_13 3 rfl rfl ?_
    refine x_ialdN S (28 + 3 * j) 0 (k) (cwp_1 hj) rfl rfl (by omega) (by decide) dX4_costToLower_14 ?_
    refine x_aload_n S dX4_costToLower_15 0 rfl rfl ?_
    refine x_get S (27 + 3 * j) 2 (cwp_0 hj) rfl inC4 (by decide) (gC _ tw132) rfl rfl dX4_costToLower_16 ?_
    refine x_iload_n S dX4_costToLower_19 1 rfl rfl ?_
    refine x_ialdN S (28 + 3 * j) 0 (v) (cwp_1 hj) rfl rfl (by omega) (by decide) dX4_costToLower_20 ?_
    refine x_icmp_eq (tgt := 38) S dX4_costToLower_21 (by decide) (fun h4 => ?_) (fun h4 => ?_)
    · rw [if_pos (pl_inj (by omega) (by omega) h4)] at ih
      refine x_iincN (lv' := [(3, .int _), (0, .ref _), (1, .int _), (2, .int _)]) S dX4_costToLower_38 3 rfl (by decide) rfl ?_
      refine x_goto (tgt := 4) S dX4_costToLower_41 (by decide) ?_
      exact x_sub [1, 2, 3, 0] rfl (ih)
    rw [if_neg (fun q => h4 (by rw [q]))] at ih
    refine x_iload_n S dX4_costToLower_24 2 rfl rfl ?_
    refine x_aload_n S dX4_costToLower_25 0 rfl rfl ?_
    refine x_get S (27 + 3 * j) 0 (cwp_0 hj) rfl inC4 (by decide) (gC _ tw130) rfl rfl dX4_costToLower_26 ?_
    refine x_get S 0 3 rfl rfl inC2 (by decide) (gC _ tw34) rfl rfl dX4_costToLower_29 ?_
    refine x_iload_n S dX4_costToLower_32 1 rfl rfl ?_
    refine x_aald S 4 1 (v) rfl rfl rfl rfl (by omega) (by decide) rfl dX4_costToLower_33 ?_
    refine x_iload_n S dX4_costToLower_34 3 rfl rfl ?_
    refine x_ialdN S (6 + v) 0 (k) (cwp_row (by omega)) rfl rfl (by omega) (by decide) dX4_costToLower_35 ?_
    refine x_iadd S dX4_costToLower_36 ?_
    refine x_top (nI (sm (fun u => if tr u = tr v then 0 else M v u) k + M v k)) (nI_add _ _) ?_
    refine x_istore_n (lv' := [(2, .int _), (0, .ref _), (1, .int _), (3, .int _)]) S dX4_costToLower_37 rfl (by decide) rfl ?_
    refine x_iincN (lv' := [(3, .int _), (2, .int _), (0, .ref _), (1, .int _)]) S dX4_costToLower_38 3 rfl (by decide) rfl ?_
    refine x_goto (tgt := 4) S dX4_costToLower_41 (by decide) ?_
    exact x_sub [2, 3, 1, 0] rfl (ih)
  refine x_iconst (v := 0) S dX4_costToLower_0 rfl ?_
  refine x_istore_n (lv' := [(2, .int _), (0, .ref _), (1, .int _)]) S dX4_costToLower_1 rfl (by decide) rfl ?_
  refine x_iconst (v := 0) S dX4_costToLower_2 rfl ?_
  refine x_istore_n (lv' := [(3, .int _), (2, .int _), (0, .ref _), (1, .int _)]) S dX4_costToLower_3 rfl (by decide) rfl ?_
  exact x_sub [2, 3, 1, 0] rfl (L 0 (Nat.zero_le _))
set_option maxHeartbeats 4000000 in
set_option maxRecDepth 100000 in
theorem c_keepTried {c : Nat} (hj : j < 4) (hn : n ≤ 10) : xMetS l yX4_keepTried wX4_keepTried (rD 0) D vwCl (tyC cI cII cP cZ) nwC [.ref (ad (27 + 3 * j)), .int (nI c)] (cwp ad cI cII cP n am al ch fr to wt nb M tch cu rch pa br gp P j cs lc tr be ++ X) (fun b : Nat → Nat => ∀ u, u < n → b u = tr u) (fun b => (cwp ad cI cII cP n am al ch fr to wt nb M tch cu rch pa br gp P j cs c tr b ++ X)) (fun _ => none) := by
  refine xMetS_of (cc := cX4_keepTried) (maxL := 3) (ret := none) (by decide +kernel) rfl (Nat.le_of_ble_eq_true rfl) (fun _ _ => xfv) ?_
  intro E S hnm hret
  show xW E D vwCl 3 0 0 _ [(0, .ref (ad (27 + 3 * j))), (1, .int (nI c))] 0 []
  have L : ∀ k, k ≤ n → ∀ b : Nat → Nat, (∀ u, u < k → b u = tr u) → xW E D vwCl 3 0 0 (cwp ad cI cII cP n am al ch fr to wt nb M tch cu rch pa br gp P j cs c tr b ++ X) [(0, .ref (ad (27 + 3 * j))), (1, .int (nI c)), (2, .int (nI k))] 7 [] := by
    refine pl_up n (fun k hk ih => ?_)
    intro b g1
    refine x_iload_n S dX4_keepTried_7 2 rfl rfl ?_
    refine x_aload_n S dX4_keepTried_8 0 rfl rfl ?_
    refine x_get S (27 + 3 * j) 0 (cwp_0 hj) rfl inC4 (by decide) (gC _ tw130) rfl rfl dX4_keepTried_9 ?_
    refine x_get S 0 5 rfl rfl inC2 (by decide) (gC _ tw39) rfl rfl dX4_keepTried_12 ?_
    refine x_icmp_ge (tgt := 36) S dX4_keepTried_15 (by decide) (fun h3 => ?_) (fun h3 => ?_)
    · have hk2 : k = n := Nat.le_antisymm hk ((nI_leI (by omega) (by omega)).mp h3)
      subst hk2
      exact hret (b) _ _ g1 dX4_keepTried_36
    have hk2 : k < n := Nat.lt_of_not_le (fun h => h3 (nI_le h (by omega)))
    refine x_aload_n S dX4_keepTried_18 0 rfl rfl ?_
    refine x_get S (27 + 3 * j) 3 (cwp_0 hj) rfl inC4 (by decide) (gC _ tw133) rfl rfl dX4_keepTried_19 ?_
    refine x_iload_n S dX4_keepTried_22 2 rfl rfl ?_
    refine x_aload_n S dX4_keepTried_23 0 rfl rfl ?_
    refine x_get S (27 + 3 * j) 2 (cwp_0 hj) rfl inC4 (by decide) (gC _ tw132) rfl rfl dX4_keepTried_24 ?_
    refine x_iload_n S dX4_keepTried_27 2 rfl rfl ?_
    refine x_ialdN S (28 + 3 * j) 0 (k) (cwp_1 hj) rfl rfl (by omega) (by decide) dX4_keepTried_28 ?_
    refine x_iastN (ws' := (cwp ad cI cII cP n am al ch fr to wt nb M tch cu rch pa br gp P j cs c tr (va_up b k (tr k)) ++ X)) S (29 + 3 * j) 0 (k) (cwp_2 hj) rfl rfl (by omega) (by decide) rfl dX4_keepTried_29 (cwp_s2 hj _) ?_
    refine x_iincN (lv' := [(2, .int _), (0, .ref _), (1, .int _)]) S dX4_keepTried_30 2 rfl (by decide) rfl ?_
    refine x_goto (tgt := 7) S dX4_keepTried_33 (by decide) ?_
    exact x_sub [1, 2, 0] rfl (ih hk2 _ (fun v hv => (Nat.lt_or_ge v k).elim (fun h => by rw [va_up_ne _ _ (by omega)]; exact g1 v h) (fun h => by rw [show v = k by omega, va_up_self])))
  refine x_aload_n S dX4_keepTried_0 0 rfl rfl ?_
  refine x_iload_n S dX4_keepTried_1 1 rfl rfl ?_
  refine x_put (ws' := (cwp ad cI cII cP n am al ch fr to wt nb M tch cu rch pa br gp P j cs c tr be ++ X)) S (27 + 3 * j) 4 (cwp_0 hj) rfl inC4 tyX4 tyX4_ok nmX4 (by decide) (gC _ tw135) rfl rfl (tyX4_ok 4 (by decide)) rfl rfl (Nat.le_of_ble_eq_true rfl) dX4_keepTried_2 (cwp_s0 hj _ _) ?_
  refine x_iconst (v := 0) S dX4_keepTried_5 rfl ?_
  refine x_istore_n (lv' := [(2, .int _), (0, .ref _), (1, .int _)]) S dX4_keepTried_6 rfl (by decide) rfl ?_
  exact x_sub [1, 2, 0] rfl (L 0 (Nat.zero_le _) be (fun v hv => absurd hv (by omega)))
set_option maxHeartbeats 4000000 in
set_option maxRecDepth 100000 in
theorem c_tryFrom (hj : j < 4) (hn : n ≤ 10) (hM : ∀ a b, a < 12 → b < 12 → M a b ≤ 50000) : ∀ (d v used cost lc : Nat) (tr be f g : Nat → Nat), v + d = n → used ≤ j + 1 → cost ≤ 500000 * v → lc < 2 ^ 31 → (∀ u, u < v → tr u = f u ∧ f u < 4) → (∀ u, u < n → be u = g u) → xMetS l yX4_tryFrom wX4_tryFrom (rD (d + 2)) D vwCl (tyC cI cII cP cZ) nwC [.ref (ad (27 + 3 * j)), .int (nI v), .int (nI used), .int (nI cost)] (cwp ad cI cII cP n am al ch fr to wt nb M tch cu rch pa br gp P j cs lc tr be ++ X) (fun s : Nat × (Nat → Nat) × (Nat → Nat) => s.1 = (kT n (j + 1) M d v used cost f (lc, g)).1 ∧ (∀ u, u < v → s.2.1 u = f u) ∧ ∀ u, u < n → s.2.2 u = (kT n (j + 1) M d v used cost f (lc, g)).2 u) (fun s => (cwp ad cI cII cP n am al ch fr to wt nb M tch cu rch pa br gp P j cs s.1 s.2.1 s.2.2 ++ X)) (fun _ => none) := by
  intro d
  induction d with
  | zero =>
    intro v used cost lc tr be f g hvn hu hc hlc htr hbe
    refine xMetS_of (cc := cX4_tryFrom) (maxL := 8) (ret := none) (by decide +kernel) rfl (Nat.le_of_ble_eq_true rfl) (fun _ _ => xfv) ?_
    intro E S hnm hret
    show xW E D vwCl 8 0 0 _ [(0, .ref (ad (27 + 3 * j))), (1, .int (nI v)), (2, .int (nI used)), (3, .int (nI cost))] 0 []
    have hR0 : ¬ (j + 1 + v ≤ n + used ∧ cost < lc) → kT n (j + 1) M (0) v used cost f (lc, g) = (lc, g) := fun h => if_neg h
    have hRet : ¬ (j + 1 + v ≤ n + used ∧ cost < lc) → (lc, tr, be).1 = (kT n (j + 1) M (0) v used cost f (lc, g)).1 ∧ (∀ u, u < v → (lc, tr, be).2.1 u = f u) ∧ ∀ u, u < n → (lc, tr, be).2.2 u = (kT n (j + 1) M (0) v used cost f (lc, g)).2 u := fun h => ⟨by rw [hR0 h], fun u hu => (htr u hu).1, fun u hu => by rw [hR0 h]; exact hbe u hu⟩
    refine x_aload_n S dX4_tryFrom_0 0 rfl rfl ?_
    refine x_get S (27 + 3 * j) 0 (cwp_0 hj) rfl inC4 (by decide) (gC _ tw130) rfl rfl dX4_tryFrom_1 ?_
    refine x_get S 0 5 rfl rfl inC2 (by decide) (gC _ tw39) rfl rfl dX4_tryFrom_4 ?_
    refine x_istore (lv' := [(4, .int _), (0, .ref _), (1, .int _), (2, .int _), (3, .int _)]) S dX4_tryFrom_7 (by decide) rfl ?_
    refine x_aload_n S dX4_tryFrom_9 1 rfl rfl ?_
    refine x_get S (27 + 3 * j) 1 (cwp_0 hj) rfl inC4 (by decide) (gC _ tw131) rfl rfl dX4_tryFrom_10 ?_
    refine x_iload_n S dX4_tryFrom_13 3 rfl rfl ?_
    refine x_isub S dX4_tryFrom_14 ?_
    refine x_top (nI (j + 1 - used)) (pk_sub (by omega)) ?_
    refine x_iload S dX4_tryFrom_15 0 rfl ?_
    refine x_iload_n S dX4_tryFrom_17 2 rfl rfl ?_
    refine x_isub S dX4_tryFrom_18 ?_
    refine x_top (nI (n - v)) (pk_sub (by omega)) ?_
    refine x_icmp_gt (tgt := 26) S dX4_tryFrom_19 (by decide) (fun h1 => ?_) (fun h1 => ?_)
    · have h1 := (nI_ltI (by omega) (by omega)).mp h1
      refine x_iconst (v := 0) S dX4_tryFrom_26 rfl ?_
      refine x_istore (lv' := [(5, .int _), (4, .int _), (0, .ref _), (1, .int _), (2, .int _), (3, .int _)]) S dX4_tryFrom_27 (by decide) rfl ?_
      refine x_iload S dX4_tryFrom_29 0 rfl ?_
      refine x_if_eq (tgt := 42) S dX4_tryFrom_31 (by decide) (fun h2 => ?_) (fun h2 => ?_)
      · exact hret ((lc, tr, be)) _ _ (hRet (fun q => by omega)) dX4_tryFrom_42
      exact absurd rfl h2
    have h1 := Nat.le_of_not_lt (fun q => h1 (nI_lt q (by omega)))
    refine x_iconst (v := 1) S dX4_tryFrom_22 rfl ?_
    refine x_goto (tgt := 27) S dX4_tryFrom_23 (by decide) ?_
    refine x_istore (lv' := [(5, .int _), (4, .int _), (0, .ref _), (1, .int _), (2, .int _), (3, .int _)]) S dX4_tryFrom_27 (by decide) rfl ?_
    refine x_iload S dX4_tryFrom_29 0 rfl ?_
    refine x_if_eq (tgt := 42) S dX4_tryFrom_31 (by decide) (fun h2 => ?_) (fun h2 => ?_)
    · exact absurd h2 (by decide)
    refine x_iload_n S dX4_tryFrom_34 5 rfl rfl ?_
    refine x_aload_n S dX4_tryFrom_35 2 rfl rfl ?_
    refine x_get S (27 + 3 * j) 4 (cwp_0 hj) rfl inC4 (by decide) (gC _ tw135) rfl rfl dX4_tryFrom_36 ?_
    refine x_icmp_lt (tgt := 43) S dX4_tryFrom_39 (by decide) (fun h3 => ?_) (fun h3 => ?_)
    rotate_left
    · exact hret ((lc, tr, be)) _ _ (hRet (fun q => h3 (nI_lt q.2 hlc))) dX4_tryFrom_42
    have h3 := (nI_ltI (by omega) hlc).mp h3
    have hG : (j + 1 + v ≤ n + used ∧ cost < lc) := ⟨by omega, h3⟩
    refine x_iload_n S dX4_tryFrom_43 3 rfl rfl ?_
    refine x_iload S dX4_tryFrom_44 1 rfl ?_
    refine x_icmp_lt (tgt := 55) S dX4_tryFrom_46 (by decide) (fun h4 => ?_) (fun h4 => ?_)
    rotate_left
    · refine x_aload_n S dX4_tryFrom_49 2 rfl rfl ?_
      refine x_iload_n S dX4_tryFrom_50 5 rfl rfl ?_
      refine x_cVvS (n := 1) S (c_keepTried hj hn) (gGV gC tw393 tw390 tw392 ts11 tw6) rfl (by decide +kernel) (27 + 3 * j) (cwp_0 hj) rfl rfl rfl (Nat.le_of_ble_eq_true rfl) dX4_tryFrom_51 ⟨Nat.succ_le_succ (Nat.zero_le _), Nat.le_of_ble_eq_true rfl⟩ ⟨Nat.le_of_ble_eq_true rfl, Nat.le_of_ble_eq_true rfl⟩ (fun b hb => ?_)
      have hk : kT n (j + 1) M 0 v used cost f (lc, g) = (cost, f) := if_pos hG
      exact hret ((cost, tr, b)) _ _ ⟨by rw [hk], fun u hu => (htr u hu).1, fun u hu => by rw [hk]; exact (hb u hu).trans (htr u (by omega)).1⟩ dX4_tryFrom_54
    exact absurd h4 (nI_nlt (by omega) (by omega))
  | succ d ih =>
    intro v used cost lc tr be f g hvn hu hc hlc htr hbe
    refine xMetS_of (cc := cX4_tryFrom) (maxL := 8) (ret := none) (by decide +kernel) rfl (Nat.le_of_ble_eq_true rfl) (fun _ _ => xfv) ?_
    intro E S hnm hret
    show xW E D vwCl 8 0 0 _ [(0, .ref (ad (27 + 3 * j))), (1, .int (nI v)), (2, .int (nI used)), (3, .int (nI cost))] 0 []
    have hR0 : ¬ (j + 1 + v ≤ n + used ∧ cost < lc) → kT n (j + 1) M (d + 1) v used cost f (lc, g) = (lc, g) := fun h => if_neg h
    have hRet : ¬ (j + 1 + v ≤ n + used ∧ cost < lc) → (lc, tr, be).1 = (kT n (j + 1) M (d + 1) v used cost f (lc, g)).1 ∧ (∀ u, u < v → (lc, tr, be).2.1 u = f u) ∧ ∀ u, u < n → (lc, tr, be).2.2 u = (kT n (j + 1) M (d + 1) v used cost f (lc, g)).2 u := fun h => ⟨by rw [hR0 h], fun u hu => (htr u hu).1, fun u hu => by rw [hR0 h]; exact hbe u hu⟩
    refine x_aload_n S dX4_tryFrom_0 0 rfl rfl ?_
    refine x_get S (27 + 3 * j) 0 (cwp_0 hj) rfl inC4 (by decide) (gC _ tw130) rfl rfl dX4_tryFrom_1 ?_
    refine x_get S 0 5 rfl rfl inC2 (by decide) (gC _ tw39) rfl rfl dX4_tryFrom_4 ?_
    refine x_istore (lv' := [(4, .int _), (0, .ref _), (1, .int _), (2, .int _), (3, .int _)]) S dX4_tryFrom_7 (by decide) rfl ?_
    refine x_aload_n S dX4_tryFrom_9 1 rfl rfl ?_
    refine x_get S (27 + 3 * j) 1 (cwp_0 hj) rfl inC4 (by decide) (gC _ tw131) rfl rfl dX4_tryFrom_10 ?_
    refine x_iload_n S dX4_tryFrom_13 3 rfl rfl ?_
    refine x_isub S dX4_tryFrom_14 ?_
    refine x_top (nI (j + 1 - used)) (pk_sub (by omega)) ?_
    refine x_iload S dX4_tryFrom_15 0 rfl ?_
    refine x_iload_n S dX4_tryFrom_17 2 rfl rfl ?_
    refine x_isub S dX4_tryFrom_18 ?_
    refine x_top (nI (n - v)) (pk_sub (by omega)) ?_
    refine x_icmp_gt (tgt := 26) S dX4_tryFrom_19 (by decide) (fun h1 => ?_) (fun h1 => ?_)
    · have h1 := (nI_ltI (by omega) (by omega)).mp h1
      refine x_iconst (v := 0) S dX4_tryFrom_26 rfl ?_
      refine x_istore (lv' := [(5, .int _), (4, .int _), (0, .ref _), (1, .int _), (2, .int _), (3, .int _)]) S dX4_tryFrom_27 (by decide) rfl ?_
      refine x_iload S dX4_tryFrom_29 0 rfl ?_
      refine x_if_eq (tgt := 42) S dX4_tryFrom_31 (by decide) (fun h2 => ?_) (fun h2 => ?_)
      · exact hret ((lc, tr, be)) _ _ (hRet (fun q => by omega)) dX4_tryFrom_42
      exact absurd rfl h2
    have h1 := Nat.le_of_not_lt (fun q => h1 (nI_lt q (by omega)))
    refine x_iconst (v := 1) S dX4_tryFrom_22 rfl ?_
    refine x_goto (tgt := 27) S dX4_tryFrom_23 (by decide) ?_
    refine x_istore (lv' := [(5, .int _), (4, .int _), (0, .ref _), (1, .int _), (2, .int _), (3, .int _)]) S dX4_tryFrom_27 (by decide) rfl ?_
    refine x_iload S dX4_tryFrom_29 0 rfl ?_
    refine x_if_eq (tgt := 42) S dX4_tryFrom_31 (by decide) (fun h2 => ?_) (fun h2 => ?_)
    · exact absurd h2 (by decide)
    refine x_iload_n S dX4_tryFrom_34 5 rfl rfl ?_
    refine x_aload_n S dX4_tryFrom_35 2 rfl rfl ?_
    refine x_get S (27 + 3 * j) 4 (cwp_0 hj) rfl inC4 (by decide) (gC _ tw135) rfl rfl dX4_tryFrom_36 ?_
    refine x_icmp_lt (tgt := 43) S dX4_tryFrom_39 (by decide) (fun h3 => ?_) (fun h3 => ?_)
    rotate_left
    · exact hret ((lc, tr, be)) _ _ (hRet (fun q => h3 (nI_lt q.2 hlc))) dX4_tryFrom_42
    have h3 := (nI_ltI (by omega) hlc).mp h3
    have hG : (j + 1 + v ≤ n + used ∧ cost < lc) := ⟨by omega, h3⟩
    refine x_iload_n S dX4_tryFrom_43 3 rfl rfl ?_
    refine x_iload S dX4_tryFrom_44 1 rfl ?_
    refine x_icmp_lt (tgt := 55) S dX4_tryFrom_46 (by decide) (fun h4 => ?_) (fun h4 => ?_)
    rotate_left
    · exact absurd (nI_lt (by omega) (by omega)) h4
    obtain ⟨gs, hgs⟩ : ∃ gs : Nat → Nat × (Nat → Nat) → Nat × (Nat → Nat), gs = (fun x st => kT n (j + 1) M d (v + 1) (max used (x + 1)) (cost + pC M (va_up f v x) v) (va_up f v x) st) := ⟨_, rfl⟩
    have hk : kT n (j + 1) M (d + 1) v used cost f (lc, g) = foldN gs (min (used + 1) (j + 1)) (lc, g) := by rw [hgs]; exact if_pos hG
    rw [hk] at hret
    have hle : ∀ x, (foldN gs x (lc, g)).1 ≤ lc := fun x => foldN_le (fun y st => by rw [hgs]; exact kT_le _ _ _ _ _ _ _ _ _) x _
    have L : ∀ x, x ≤ min (used + 1) (j + 1) → ∀ tr' be' : Nat → Nat, (∀ u, u < v → tr' u = f u) → (∀ u, u < n → be' u = (foldN gs x (lc, g)).2 u) → xW E D vwCl 8 0 0 (cwp ad cI cII cP n am al ch fr to wt nb M tch cu rch pa br gp P j cs ((foldN gs x (lc, g)).1) tr' be' ++ X) [(0, .ref (ad (27 + 3 * j))), (1, .int (nI v)), (2, .int (nI used)), (3, .int (nI cost)), (4, .int (nI n)), (5, .int 1), (6, .int (nI x))] 58 [] := by
      refine pl_up (min (used + 1) (j + 1)) (fun x hx ih2 => ?_)
      intro tr' be' g1 g2
      refine x_iload S dX4_tryFrom_58 6 rfl ?_
      refine x_iload_n S dX4_tryFrom_60 2 rfl rfl ?_
      refine x_icmp_gt (tgt := 113) S dX4_tryFrom_61 (by decide) (fun h5 => ?_) (fun h5 => ?_)
      · have h5 := (nI_ltI (by omega) (by omega)).mp h5
        have hxN : x = min (used + 1) (j + 1) := by omega
        exact hret (((foldN gs x (lc, g)).1, tr', be')) _ _ (by rw [← hxN]; exact ⟨rfl, g1, g2⟩) dX4_tryFrom_113
      have h5 := Nat.le_of_not_lt (fun q => h5 (nI_lt q (by omega)))
      refine x_iload S dX4_tryFrom_64 6 rfl ?_
      refine x_aload_n S dX4_tryFrom_66 0 rfl rfl ?_
      refine x_get S (27 + 3 * j) 1 (cwp_0 hj) rfl inC4 (by decide) (gC _ tw131) rfl rfl dX4_tryFrom_67 ?_
      refine x_icmp_ge (tgt := 113) S dX4_tryFrom_70 (by decide) (fun h6 => ?_) (fun h6 => ?_)
      · have h6 := (nI_leI (by omega) (by omega)).mp h6
        have hxN : x = min (used + 1) (j + 1) := by omega
        exact hret (((foldN gs x (lc, g)).1, tr', be')) _ _ (by rw [← hxN]; exact ⟨rfl, g1, g2⟩) dX4_tryFrom_113
      have h6 : x < j + 1 := Nat.lt_of_not_le (fun q => h6 (nI_le q (by omega)))
      have hxN : x < min (used + 1) (j + 1) := by omega
      have hlx := hle x
      have g3 : ∀ u, u ≤ v → va_up tr' v x u = va_up f v x u := fun u hu => by
        by_cases e : u = v
        · subst e; rw [va_up_self, va_up_self]
        · rw [va_up_ne _ _ e, va_up_ne _ _ e]; exact g1 u (by omega)
      have g4 : ∀ u, u ≤ v → va_up f v x u < 4 := fun u hu => by
        by_cases e : u = v
        · subst e; rw [va_up_self]; omega
        · rw [va_up_ne _ _ e]; exact (htr u (by omega)).2
      have hpc : pC M (va_up tr' v x) v = pC M (va_up f v x) v := pC_congr g3
      have hpb : pC M (va_up f v x) v ≤ 50000 * v := pC_bd (fun u hu => hM v u (by omega) (by omega))
      refine x_aload_n S dX4_tryFrom_73 0 rfl rfl ?_
      refine x_get S (27 + 3 * j) 2 (cwp_0 hj) rfl inC4 (by decide) (gC _ tw132) rfl rfl dX4_tryFrom_74 ?_
      refine x_iload_n S dX4_tryFrom_77 1 rfl rfl ?_
      refine x_iload S dX4_tryFrom_78 6 rfl ?_
      refine x_iastN (ws' := (cwp ad cI cII cP n am al ch fr to wt nb M tch cu rch pa br gp P j cs ((foldN gs x (lc, g)).1) (va_up tr' v x) be' ++ X)) S (28 + 3 * j) 0 (v) (cwp_1 hj) rfl rfl (by omega) (by decide) rfl dX4_tryFrom_80 (cwp_s1 hj _) ?_
      refine x_aload_n S dX4_tryFrom_81 0 rfl rfl ?_
      refine x_iload_n S dX4_tryFrom_82 1 rfl rfl ?_
      refine x_cVi (n := 1) S (c_costToLower hj (by omega) (fun u hu => by rw [g3 u hu]; exact g4 u hu)) (gGV gC tw397 tw394 tw396 ts12 tw6) rfl (by decide +kernel) (27 + 3 * j) (cwp_0 hj) rfl rfl rfl (Nat.le_of_ble_eq_true rfl) dX4_tryFrom_83 ⟨Nat.succ_le_succ (Nat.zero_le _), by show 8 + (4 + 11) + 40 * 0 ≤ 40 * (d + 1 + 2); omega⟩ ⟨Nat.le_of_ble_eq_true rfl, Nat.le_of_ble_eq_true rfl⟩ ?_
      rw [hpc]
      refine x_istore (lv' := [(7, .int _), (0, .ref _), (1, .int _), (2, .int _), (3, .int _), (4, .int _), (5, .int _), (6, .int _)]) S dX4_tryFrom_86 (by decide) rfl ?_
      refine x_aload_n S dX4_tryFrom_88 1 rfl rfl ?_
      refine x_iload_n S dX4_tryFrom_89 2 rfl rfl ?_
      refine x_iconst (v := 1) S dX4_tryFrom_90 rfl ?_
      refine x_iadd S dX4_tryFrom_91 ?_
      refine x_top (nI (v + 1)) (nI_1 v) ?_
      refine x_iload_n S dX4_tryFrom_92 3 rfl rfl ?_
      refine x_iload S dX4_tryFrom_93 7 rfl ?_
      refine x_iconst (v := 1) S dX4_tryFrom_95 rfl ?_
      refine x_iadd S dX4_tryFrom_96 ?_
      refine x_top (nI (x + 1)) (nI_1 x) ?_
      refine x_mmax S (gC _ tw398) (gC _ tw312) (gC _ tw8) (gC _ tw313) (Nat.succ_le_succ (Nat.zero_le _)) (by show 2 + 13 ≤ 40 * (d + 1 + 2); omega) (Nat.le_of_ble_eq_true rfl) (Nat.le_of_ble_eq_true rfl) dX4_tryFrom_97 ?_
      refine x_top (nI (max used (x + 1))) (nI_max (by omega) (by omega)) ?_
      refine x_iload_n S dX4_tryFrom_100 4 rfl rfl ?_
      refine x_iload S dX4_tryFrom_101 0 rfl ?_
      refine x_iadd S dX4_tryFrom_103 ?_
      refine x_top (nI (cost + pC M (va_up f v x) v)) (nI_add _ _) ?_
      refine x_cSvS (n := 4) S (ih (v + 1) (max used (x + 1)) (cost + pC M (va_up f v x) v) (foldN gs x (lc, g)).1 (va_up tr' v x) be' (va_up f v x) (foldN gs x (lc, g)).2 (by omega) (by omega) (by omega) (by omega) (fun u hu => ⟨g3 u (by omega), g4 u (by omega)⟩) g2) (gGS gC tw389 tw387 tw388 tw6) rfl (by decide +kernel) rfl rfl (Nat.le_of_ble_eq_true rfl) dX4_tryFrom_104 ⟨Nat.le_refl _, by show 8 + (8 + 11) + 40 * (d + 2) ≤ 40 * (d + 1 + 2); omega⟩ ⟨Nat.le_of_ble_eq_true rfl, Nat.le_of_ble_eq_true rfl⟩ (fun s hs => ?_)
      obtain ⟨lc2, tr2, be2⟩ := s
      obtain ⟨e1, e2, e3⟩ := hs
      simp only at e1 e2 e3
      have hfs : foldN gs (x + 1) (lc, g) = kT n (j + 1) M d (v + 1) (max used (x + 1)) (cost + pC M (va_up f v x) v) (va_up f v x) ((foldN gs x (lc, g)).1, (foldN gs x (lc, g)).2) := by
        show gs x (foldN gs x (lc, g)) = _
        rw [hgs]
      rw [← hfs] at e1 e3
      subst e1
      refine x_iincN (lv' := [(6, .int _), (7, .int _), (0, .ref _), (1, .int _), (2, .int _), (3, .int _), (4, .int _), (5, .int _)]) S dX4_tryFrom_107 7 rfl (by decide) rfl ?_
      refine x_goto (tgt := 58) S dX4_tryFrom_110 (by decide) ?_
      exact x_sub [2, 3, 4, 5, 6, 7, 0] rfl (ih2 hxN tr2 be2 (fun u hu => by rw [e2 u (by omega), va_up_ne _ _ (by omega)]) e3)
    refine x_iconst (v := 0) S dX4_tryFrom_55 rfl ?_
    refine x_istore (lv' := [(6, .int _), (5, .int _), (4, .int _), (0, .ref _), (1, .int _), (2, .int _), (3, .int _)]) S dX4_tryFrom_56 (by decide) rfl ?_
    exact x_sub [3, 4, 5, 6, 2, 1, 0] rfl (L 0 (Nat.zero_le _) tr be (fun u hu => (htr u hu).1) hbe)
end PT
