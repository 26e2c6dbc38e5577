/-! CutTrees: contracts of its own methods -/
section CT1
def pRef (n : Nat) (k : Int32) : Int32 := if k < 1 ∨ 4 < k then -2 else if 10 < n then -4 else if nI n < k then -3 else 0
theorem va_eta {α : Type} (P : Nat → α) (j : Nat) : va_up P j (P j) = P := by
  funext i
  by_cases h : i = j
  · subst h; rw [va_up_self]
  · rw [va_up_ne _ _ h]
theorem xfa {n : String} {a : Nat} : xFits (some (.object n)) (some (.ref a)) := ⟨_, rfl, Or.inl ⟨_, rfl⟩⟩
theorem kT_found {n k B : Nat} {M : Nat → Nat → Nat} (hB : ∀ v f, v < n → pC M f v ≤ B) : ∀ (d v used cost : Nat) (f : Nat → Nat) (st : Nat × (Nat → Nat)) (lc : Nat), v + d = n → used ≤ k → k + v ≤ n + used → 1 ≤ k → cost + B * d < lc → st.1 ≤ lc → (kT n k M d v used cost f st).1 < lc
  | 0, v, used, cost, f, st, lc, hv, hu, hg, hk, hc, hs => by
    simp only [kT]
    split
    · simp only; omega
    · rename_i h
      have : ¬ cost < st.1 := fun q => h ⟨hg, q⟩
      omega
  | d + 1, v, used, cost, f, st, lc, hv, hu, hg, hk, hc, hs => by
    simp only [kT]
    split
    · have key : ∀ m, (used < m ∨ (used = k ∧ 0 < m)) → m ≤ min (used + 1) k → (foldN (fun x st => kT n k M d (v + 1) (max used (x + 1)) (cost + pC M (va_up f v x) v) (va_up f v x) st) m st).1 < lc := by
        intro m
        induction m with
        | zero => intro h; omega
        | succ m ihm =>
          intro h hm
          have hle := foldN_le (g := fun x st => kT n k M d (v + 1) (max used (x + 1)) (cost + pC M (va_up f v x) v) (va_up f v x) st) (fun x st => kT_le n k M d _ _ _ _ st) m st
          show (kT n k M d (v + 1) (max used (m + 1)) (cost + pC M (va_up f v m) v) (va_up f v m) (foldN _ m st)).1 < lc
          by_cases c : used < m ∨ (used = k ∧ 0 < m)
          · exact Nat.lt_of_le_of_lt (kT_le n k M d _ _ _ _ _) (ihm c (by omega))
          · have hb := hB v (va_up f v m) (by omega)
            have hmul : B * (d + 1) = B * d + B := Nat.mul_succ B d
            exact kT_found hB d (v + 1) _ _ _ _ lc (by omega) (by omega) (by omega) hk (by omega) (by omega)
      exact key _ (by omega) (Nat.le_refl _)
    · rename_i h
      have : ¬ cost < st.1 := fun q => h ⟨hg, q⟩
      have hmul : B * (d + 1) = B * d + B := Nat.mul_succ B d
      omega
theorem kPR_found {n k : Nat} {M : Nat → Nat → Nat} (hn : n ≤ 10) (hk : 1 ≤ k) (hkn : k ≤ n) (hM : ∀ a b, a < 12 → b < 12 → M a b ≤ 50000) : (kPR n k M).1 < 2147483647 := by
  refine kT_found (B := 500000) (fun v f hv => ?_) n 0 0 0 _ _ _ (by omega) (by omega) (by omega) hk (by omega) (Nat.le_refl _)
  have h1 : pC M f v ≤ 50000 * v := pC_bd (fun u hu => hM v u (by omega) (by omega))
  omega
theorem mOK.bd {n am : Nat} {fr to wt : Nat → Nat} {M : Nat → Nat → Nat} (hA : aOK n am fr to wt) (h : mOK am fr to wt M) : ∀ a b, a < 12 → b < 12 → M a b ≤ 50000 := fun a b ha hb => by
  rw [h a b ha hb]
  have := kM_bd (fr := fr) (to := to) (wt := wt) (k := am) (a := a) (b := b) (c := 1000) (fun i hi => (hA.2.2 i hi).2.2.2)
  have := hA.2.1
  omega
variable {l : Launch} {D : va_G} {ad : Nat → Nat} {cI cII cP cZ : ClassId} {n am al ch : Nat} {fr to wt nb : Nat → Nat} {M : Nat → Nat → Nat} {tch : Int32} {cu : Nat → Nat} {rch : Int32} {pa br gp : Nat → Nat} {P : Nat → Int32 × Nat × (Nat → Nat) × (Nat → Nat)} {X : va_W}
set_option maxHeartbeats 4000000 in
set_option maxRecDepth 100000 in
theorem c_refusalOfParts (k : Int32) (hn : n ≤ 12) : xMet l yX5_refusalOfParts wX5_refusalOfParts (rD 0) D vwCl (tyC cI cII cP cZ) nwC [.ref (ad 25), .int k] (cw ad cI cII cP n am al ch fr to wt nb M tch cu rch pa br gp P ++ X) (cw ad cI cII cP n am al ch fr to wt nb M tch cu rch pa br gp P ++ X) (some (.int (pRef n k))) := by
  refine xMet_of (cc := cX5_refusalOfParts) (maxL := 2) (ret := (some .int)) (by decide +kernel) rfl (Nat.le_of_ble_eq_true rfl) xfi ?_
  intro E S hnm hret
  show xW E D vwCl 2 0 0 _ [(0, .ref (ad 25)), (1, .int k)] 0 []
  unfold pRef at hret
  refine x_iload_n S dX5_refusalOfParts_0 1 rfl rfl ?_
  refine x_iconst (v := 1) S dX5_refusalOfParts_1 rfl ?_
  refine x_icmp_lt (tgt := 10) S dX5_refusalOfParts_2 (by decide) (fun h1 => ?_) (fun h1 => ?_)
  · refine x_bipush (v := -2) S dX5_refusalOfParts_10 (by decide) ?_
    exact x_ret hret (if_pos (Or.inl h1)).symm dX5_refusalOfParts_12
  refine x_iload_n S dX5_refusalOfParts_5 1 rfl rfl ?_
  refine x_iconst (v := 4) S dX5_refusalOfParts_6 rfl ?_
  refine x_icmp_le (tgt := 13) S dX5_refusalOfParts_7 (by decide) (fun h2 => ?_) (fun h2 => ?_)
  rotate_left
  · refine x_bipush (v := -2) S dX5_refusalOfParts_10 (by decide) ?_
    exact x_ret hret (if_pos (Or.inr (Int32.not_le.mp h2))).symm dX5_refusalOfParts_12
  rw [if_neg (fun q => q.elim h1 (fun q => Int32.not_lt.mpr h2 q))] at hret
  refine x_aload_n S dX5_refusalOfParts_13 0 rfl rfl ?_
  refine x_get S 25 0 rfl rfl inC5 (by decide) (gC _ tw151) rfl rfl dX5_refusalOfParts_14 ?_
  refine x_get S 0 5 rfl rfl inC2 (by decide) (gC _ tw37) rfl rfl dX5_refusalOfParts_17 ?_
  refine x_bipush (v := 10) S dX5_refusalOfParts_20 (by decide) ?_
  refine x_icmp_le (tgt := 28) S dX5_refusalOfParts_22 (by decide) (fun h3 => ?_) (fun h3 => ?_)
  rotate_left
  · refine x_bipush (v := -4) S dX5_refusalOfParts_25 (by decide) ?_
    exact x_ret hret (if_pos (Nat.lt_of_not_le (fun q => h3 (nI_le (b := 10) q (by omega))))).symm dX5_refusalOfParts_27
  rw [if_neg (fun q => nI_ge q (by omega) h3)] at hret
  refine x_aload_n S dX5_refusalOfParts_28 0 rfl rfl ?_
  refine x_get S 25 0 rfl rfl inC5 (by decide) (gC _ tw151) rfl rfl dX5_refusalOfParts_29 ?_
  refine x_get S 0 5 rfl rfl inC2 (by decide) (gC _ tw37) rfl rfl dX5_refusalOfParts_32 ?_
  refine x_iload_n S dX5_refusalOfParts_35 1 rfl rfl ?_
  refine x_icmp_ge (tgt := 44) S dX5_refusalOfParts_36 (by decide) (fun h4 => ?_) (fun h4 => ?_)
  rotate_left
  · refine x_bipush (v := -3) S dX5_refusalOfParts_39 (by decide) ?_
    refine x_goto (tgt := 45) S dX5_refusalOfParts_41 (by decide) ?_
    exact x_ret hret (if_pos (Int32.not_le.mp h4)).symm dX5_refusalOfParts_45
  refine x_iconst (v := 0) S dX5_refusalOfParts_44 rfl ?_
  exact x_ret hret (if_neg (Int32.not_lt.mpr h4)).symm dX5_refusalOfParts_45
set_option maxHeartbeats 4000000 in
set_option maxRecDepth 100000 in
theorem c_greatestDivisor {ws : va_W} {tys : List (ClassId × FieldType)} {a b : Nat} (ha : a < 2 ^ 31) (hb : b < 2 ^ 31) (hb1 : 1 ≤ b) : xMet l yX5_greatestDivisor wX5_greatestDivisor (rD 0) D vwCl tys nwC [.int (nI a), .int (nI b)] ws ws (some (.int (nI (Nat.gcd a b)))) := by
  refine xMet_of (cc := cX5_greatestDivisor) (maxL := 3) (ret := (some .int)) (by decide +kernel) rfl (Nat.le_of_ble_eq_true rfl) xfi ?_
  intro E S hnm hret
  show xW E D vwCl 3 0 0 _ [(0, .int (nI a)), (1, .int (nI b))] 0 []
  have hg0 : 0 < Nat.gcd a b := Nat.gcd_pos_of_pos_right a hb1
  have L : ∀ d, d ≤ b → Nat.gcd a b ≤ d → xW E D vwCl 3 0 0 ws [(0, .int (nI a)), (1, .int (nI b)), (2, .int (nI d))] 2 [] := by
    intro d
    induction d with
    | zero => intro _ h; omega
    | succ d ih =>
      intro hdb hgd
      refine x_iload_n S dX5_greatestDivisor_2 2 rfl rfl ?_
      refine x_iconst (v := 1) S dX5_greatestDivisor_3 rfl ?_
      refine x_icmp_le (tgt := 27) S dX5_greatestDivisor_4 (by decide) (fun h1 => ?_) (fun h1 => ?_)
      · have h1 : d + 1 ≤ 1 := (nI_leI (b := 1) (by omega) (by omega)).mp h1
        refine x_iconst (v := 1) S dX5_greatestDivisor_27 rfl ?_
        exact x_ret hret (by rw [show Nat.gcd a b = 1 by omega]; rfl) dX5_greatestDivisor_28
      have h1 : 1 < d + 1 := Nat.lt_of_not_le (fun q => h1 (nI_le (b := 1) q (by omega)))
      have T : ¬ (a % (d + 1) = 0 ∧ b % (d + 1) = 0) → Nat.gcd a b ≤ d := fun h => by
        rcases Nat.lt_or_ge (Nat.gcd a b) (d + 1) with q | q
        · omega
        · have e : Nat.gcd a b = d + 1 := by omega
          exact absurd ⟨Nat.mod_eq_zero_of_dvd (e ▸ Nat.gcd_dvd_left a b), Nat.mod_eq_zero_of_dvd (e ▸ Nat.gcd_dvd_right a b)⟩ h
      refine x_iload_n S dX5_greatestDivisor_7 0 rfl rfl ?_
      refine x_iload_n S dX5_greatestDivisor_8 2 rfl rfl ?_
      refine x_irem S dX5_greatestDivisor_9 (nI_ne0 (by omega) (by omega)) ?_
      refine x_top (nI (a % (d + 1))) (pk_rem ha (by omega) (by omega)) ?_
      have hm1 : a % (d + 1) < d + 1 := Nat.mod_lt _ (by omega)
      have hm2 : b % (d + 1) < d + 1 := Nat.mod_lt _ (by omega)
      refine x_if_ne (tgt := 21) S dX5_greatestDivisor_10 (by decide) (fun h2 => ?_) (fun h2 => ?_)
      rotate_left
      · have h2 : a % (d + 1) = 0 := pl_inj (b := 0) (by omega) (by omega) h2
        refine x_iload_n S dX5_greatestDivisor_13 1 rfl rfl ?_
        refine x_iload_n S dX5_greatestDivisor_14 2 rfl rfl ?_
        refine x_irem S dX5_greatestDivisor_15 (nI_ne0 (by omega) (by omega)) ?_
        refine x_top (nI (b % (d + 1))) (pk_rem hb (by omega) (by omega)) ?_
        refine x_if_ne (tgt := 21) S dX5_greatestDivisor_16 (by decide) (fun h3 => ?_) (fun h3 => ?_)
        rotate_left
        · have h3 : b % (d + 1) = 0 := pl_inj (b := 0) (by omega) (by omega) h3
          refine x_iload_n S dX5_greatestDivisor_19 2 rfl rfl ?_
          exact x_ret hret (by rw [Nat.le_antisymm hgd (Nat.le_of_dvd hg0 (Nat.dvd_gcd (Nat.dvd_of_mod_eq_zero h2) (Nat.dvd_of_mod_eq_zero h3)))]) dX5_greatestDivisor_20
        refine x_iinc (lv' := [(2, .int _), (0, .int _), (1, .int _)]) (v := nI d) S dX5_greatestDivisor_21 2 rfl (nI_dec d) (by decide) rfl ?_
        refine x_goto (tgt := 2) S dX5_greatestDivisor_24 (by decide) ?_
        exact x_sub [1, 2, 0] rfl (ih (by omega) (T (fun q => h3 (by rw [q.2]; rfl))))
      refine x_iinc (lv' := [(2, .int _), (0, .int _), (1, .int _)]) (v := nI d) S dX5_greatestDivisor_21 2 rfl (nI_dec d) (by decide) rfl ?_
      refine x_goto (tgt := 2) S dX5_greatestDivisor_24 (by decide) ?_
      exact x_sub [1, 2, 0] rfl (ih (by omega) (T (fun q => h2 (by rw [q.1]; rfl))))
  refine x_iload_n S dX5_greatestDivisor_0 1 rfl rfl ?_
  refine x_istore_n (lv' := [(2, .int _), (0, .int _), (1, .int _)]) S dX5_greatestDivisor_1 rfl (by decide) rfl ?_
  exact x_sub [1, 2, 0] rfl (L b (Nat.le_refl _) (Nat.le_of_dvd hb1 (Nat.gcd_dvd_right a b)))
set_option maxHeartbeats 4000000 in
set_option maxRecDepth 100000 in
theorem c_freshTable (h1 : 1 ≤ n) (hA : aOK n am fr to wt) (hM : mOK am fr to wt M) (h0 : cu 0 = 0) (hT : tch = nI ch → tOK n am fr to wt cu) : xMetS l yX5_freshTable wX5_freshTable (rD 3) D vwCl (tyC cI cII cP cZ) nwC [.ref (ad 25)] (cw ad cI cII cP n am al ch fr to wt nb M tch cu rch pa br gp P ++ X) (fun c : Nat → Nat => tOK n am fr to wt c) (fun c => (cw ad cI cII cP n am al ch fr to wt nb M (nI ch) c rch pa br gp P ++ X)) (fun _ => some (.ref (ad 18))) := by
  refine xMetS_of (cc := cX5_freshTable) (maxL := 1) (ret := (some (.object "CutTrees$CutTable"))) (by decide +kernel) rfl (Nat.le_of_ble_eq_true rfl) (fun _ _ => xfa) ?_
  intro E S hnm hret
  show xW E D vwCl 1 0 0 _ [(0, .ref (ad 25))] 0 []
  refine x_aload_n S dX5_freshTable_0 0 rfl rfl ?_
  refine x_get S 25 1 rfl rfl inC5 (by decide) (gC _ tw152) rfl rfl dX5_freshTable_1 ?_
  refine x_cVvS (n := 0) S (c_refreshT h1 hA hM h0 hT) (gGV gC tw246 tw243 tw244 tw245 tw3) rfl (by decide +kernel) 18 rfl rfl rfl rfl (Nat.le_of_ble_eq_true rfl) dX5_freshTable_4 ⟨by decide, by decide⟩ ⟨Nat.le_of_ble_eq_true rfl, Nat.le_of_ble_eq_true rfl⟩ (fun c hc => ?_)
  refine x_aload_n S dX5_freshTable_7 0 rfl rfl ?_
  refine x_get S 25 1 rfl rfl inC5 (by decide) (gC _ tw152) rfl rfl dX5_freshTable_8 ?_
  exact hret (c) _ _ hc dX5_freshTable_11
set_option maxHeartbeats 4000000 in
set_option maxRecDepth 100000 in
theorem c_freshTree (h1 : 1 ≤ n) (hA : aOK n am fr to wt) (hM : mOK am fr to wt M) (h0 : cu 0 = 0) (hT : tch = nI ch → tOK n am fr to wt cu) (hR : rch = nI ch → (∀ j, j < n → pa j = kPa (kC fr to wt am) n n j) ∧ ∀ j, 1 ≤ j → j < n → br j = kBr (kC fr to wt am) n j) : xMetS l yX5_freshTree wX5_freshTree (rD 5) D vwCl (tyC cI cII cP cZ) nwC [.ref (ad 25)] (cw ad cI cII cP n am al ch fr to wt nb M tch cu rch pa br gp P ++ X) (fun u : (Nat → Nat) × (Nat → Nat) × (Nat → Nat) => tOK n am fr to wt u.1 ∧ (∀ j, j < n → u.2.1 j = kPa (kC fr to wt am) n n j) ∧ ∀ j, 1 ≤ j → j < n → u.2.2 j = kBr (kC fr to wt am) n j) (fun u => (cw ad cI cII cP n am al ch fr to wt nb M (nI ch) u.1 (nI ch) u.2.1 u.2.2 gp P ++ X)) (fun _ => some (.ref (ad 20))) := by
  refine xMetS_of (cc := cX5_freshTree) (maxL := 1) (ret := (some (.object "CutTrees$PairTree"))) (by decide +kernel) rfl (Nat.le_of_ble_eq_true rfl) (fun _ _ => xfa) ?_
  intro E S hnm hret
  show xW E D vwCl 1 0 0 _ [(0, .ref (ad 25))] 0 []
  refine x_aload_n S dX5_freshTree_0 0 rfl rfl ?_
  refine x_get S 25 1 rfl rfl inC5 (by decide) (gC _ tw152) rfl rfl dX5_freshTree_1 ?_
  refine x_cVvS (n := 0) S (c_refreshT h1 hA hM h0 hT) (gGV gC tw246 tw243 tw244 tw245 tw3) rfl (by decide +kernel) 18 rfl rfl rfl rfl (Nat.le_of_ble_eq_true rfl) dX5_freshTree_4 ⟨by decide, by decide⟩ ⟨Nat.le_of_ble_eq_true rfl, Nat.le_of_ble_eq_true rfl⟩ (fun c hc => ?_)
  refine x_aload_n S dX5_freshTree_7 0 rfl rfl ?_
  refine x_get S 25 2 rfl rfl inC5 (by decide) (gC _ tw153) rfl rfl dX5_freshTree_8 ?_
  refine x_cVvS (n := 0) S (c_refreshR h1 hA hc hR) (gGV gC tw288 tw285 tw286 tw287 tw4) rfl (by decide +kernel) 20 rfl rfl rfl rfl (Nat.le_of_ble_eq_true rfl) dX5_freshTree_11 ⟨by decide, by decide⟩ ⟨Nat.le_of_ble_eq_true rfl, Nat.le_of_ble_eq_true rfl⟩ (fun u hu => ?_)
  refine x_aload_n S dX5_freshTree_14 0 rfl rfl ?_
  refine x_get S 25 2 rfl rfl inC5 (by decide) (gC _ tw153) rfl rfl dX5_freshTree_15 ?_
  exact hret ((c, u.1, u.2)) _ _ ⟨hc, hu.1, hu.2⟩ dX5_freshTree_18
set_option maxHeartbeats 4000000 in
set_option maxRecDepth 100000 in
theorem c_freshParting {j : Nat} (hj : j < 4) (hn : n ≤ 10) (hkn : j + 1 ≤ n) (hM : ∀ a b, a < 12 → b < 12 → M a b ≤ 50000) (hR : (P j).1 = nI ch → (P j).2.1 = (kPR n (j + 1) M).1 ∧ ∀ u, u < n → (P j).2.2.2 u = (kPR n (j + 1) M).2 u) : xMetS l yX5_freshParting wX5_freshParting (rD 14) D vwCl (tyC cI cII cP cZ) nwC [.ref (ad 25), .int (nI (j + 1))] (cw ad cI cII cP n am al ch fr to wt nb M tch cu rch pa br gp P ++ X) (fun s : (Nat → Nat) × (Nat → Nat) => ∀ u, u < n → s.2 u = (kPR n (j + 1) M).2 u) (fun s => (cw ad cI cII cP n am al ch fr to wt nb M tch cu rch pa br gp (va_up P j (nI ch, (kPR n (j + 1) M).1, s.1, s.2)) ++ X)) (fun _ => some (.ref (ad (27 + 3 * j)))) := by
  refine xMetS_of (cc := cX5_freshParting) (maxL := 2) (ret := (some (.object "CutTrees$Parting"))) (by decide +kernel) rfl (Nat.le_of_ble_eq_true rfl) (fun _ _ => xfa) ?_
  intro E S hnm hret
  show xW E D vwCl 2 0 0 _ [(0, .ref (ad 25)), (1, .int (nI (j + 1)))] 0 []
  have hf := kPR_found (n := n) (k := j + 1) (M := M) hn (by omega) hkn hM
  refine x_aload_n S dX5_freshParting_0 0 rfl rfl ?_
  refine x_get S 25 4 rfl rfl inC5 (by decide) (gC _ tw155) rfl rfl dX5_freshParting_1 ?_
  refine x_iload_n S dX5_freshParting_4 1 rfl rfl ?_
  refine x_iconst (v := 1) S dX5_freshParting_5 rfl ?_
  refine x_isub S dX5_freshParting_6 ?_
  refine x_top (nI j) (nI_pred j) ?_
  refine x_aald S 26 2 (j) rfl rfl rfl rfl (by omega) (by decide) rfl dX5_freshParting_7 ?_
  refine x_ws (ws' := cwp ad cI cII cP n am al ch fr to wt nb M tch cu rch pa br gp P j (P j).1 (P j).2.1 (P j).2.2.1 (P j).2.2.2 ++ X) (by unfold cwp; rw [va_eta]) ?_
  refine x_cVvS (n := 0) S (c_refreshP hj hn hM hf hR) (gGV gC tw385 tw382 tw383 tw384 tw6) rfl (by decide +kernel) (27 + 3 * j) (cwp_0 hj) rfl rfl rfl (Nat.le_of_ble_eq_true rfl) dX5_freshParting_8 ⟨by decide, by decide⟩ ⟨Nat.le_of_ble_eq_true rfl, Nat.le_of_ble_eq_true rfl⟩ (fun s hs => ?_)
  show xW E D vwCl 2 0 0 (cw ad cI cII cP n am al ch fr to wt nb M tch cu rch pa br gp (va_up P j (nI ch, (kPR n (j + 1) M).1, s.1, s.2)) ++ X) _ _ _
  refine x_aload_n S dX5_freshParting_11 0 rfl rfl ?_
  refine x_get S 25 4 rfl rfl inC5 (by decide) (gC _ tw155) rfl rfl dX5_freshParting_12 ?_
  refine x_iload_n S dX5_freshParting_15 1 rfl rfl ?_
  refine x_iconst (v := 1) S dX5_freshParting_16 rfl ?_
  refine x_isub S dX5_freshParting_17 ?_
  refine x_top (nI j) (nI_pred j) ?_
  refine x_aald S 26 2 (j) rfl rfl rfl rfl (by omega) (by decide) rfl dX5_freshParting_18 ?_
  exact hret (s) _ _ hs dX5_freshParting_19
end CT1
