/-! the reference: contracts, 9 -/
section M9
theorem ud_self (f : Nat → Int32) (j : Nat) (x : Int32) : upd f j x j = x := by simp [upd]
theorem ud_ne (f : Nat → Int32) {j i : Nat} (x : Int32) (h : i ≠ j) : upd f j x i = f i := by simp [upd, h]
theorem nI_m1 (x : Nat) : nI x + -1 + 1 = nI x := by rw [Int32.add_assoc]; exact Int32.add_zero _
theorem nI_sm1 (x : Nat) : nI (x + 1) + -1 = nI x := by rw [← nI_1 x, Int32.add_assoc]; exact Int32.add_zero _
def rR (k n : Nat) (p0 : Nat → Nat) (st : Nat × (Nat → Nat)) (bs : Int32) (p : Nat → Nat) : Prop := (∀ i, (i < 12 * k ∨ 12 * k + 12 ≤ i) → p i = p0 i) ∧ ((st.1 = 2147483647 ∧ bs = -1) ∨ (st.1 < 2147483647 ∧ bs = nI st.1 ∧ ∀ u, u < n → p (12 * k + u) = st.2 u))
theorem pC_bd0 {M : Nat → Nat → Nat} (hM : ∀ a b, a < 12 → b < 12 → M a b ≤ 50000) {f : Nat → Nat} {v : Nat} (hv : v < 12) : pC M f v ≤ 600000 := by
  have h1 : pC M f v ≤ 50000 * v := pC_bd (fun u hu => hM v u (by omega) (by omega))
  omega
theorem kCs_bd {M : Nat → Nat → Nat} (hM : ∀ a b, a < 12 → b < 12 → M a b ≤ 50000) {f : Nat → Nat} {v : Nat} (hv : v ≤ 12) : kCs M f v ≤ 600000 * v := sm_bd (fun i hi => pC_bd0 hM (by omega))
variable {l : Launch} {D : va_G} {bd : Nat → Nat} {cI cII cP cZ : ClassId} {n am al : Nat} {on ot we : Nat → Nat} {th : Nat → Bool} {be ne cu : Nat → Nat} {nw : Bool} {pa br pc : Nat → Nat} {ap : Nat → Bool} {pn : Nat → Nat} {ls : Int32} {gr : Nat → Nat} {tl : Nat → Int32} {co : Nat → Nat} {fr to wt : Nat → Nat} {X : va_W}
set_option maxHeartbeats 4000000 in
set_option maxRecDepth 100000 in
theorem m_partFault (k : Int32) (hn : n ≤ 12) : xMet l yX6_partFault wX6_partFault (rD 0) D vwCl (tyC cI cII cP cZ) nwC [.ref (bd 0), .int k] (mw bd cI cZ n am al on ot we th be ne cu nw pa br pc ap pn ls gr tl co ++ X) (mw bd cI cZ n am al on ot we th be ne cu nw pa br pc ap pn ls gr tl co ++ X) (some (.int (pRef n k))) := by
  refine xMet_of (cc := cX6_partFault) (maxL := 2) (ret := (some .int)) (by decide +kernel) rfl (Nat.le_of_ble_eq_true rfl) xfi ?_
  intro E S hnm hret
  show xW E D vwCl 2 0 0 _ [(0, .ref (bd 0)), (1, .int k)] 0 []
  unfold pRef at hret
  refine x_iload_n S dX6_partFault_0 1 rfl rfl ?_
  refine x_iconst (v := 1) S dX6_partFault_1 rfl ?_
  refine x_icmp_lt (tgt := 10) S dX6_partFault_2 (by decide) (fun h1 => ?_) (fun h1 => ?_)
  · refine x_bipush (v := -2) S dX6_partFault_10 (by decide) ?_
    refine x_goto (tgt := 43) S dX6_partFault_12 (by decide) ?_
    exact x_ret hret (if_pos (Or.inl h1)).symm dX6_partFault_43
  refine x_iload_n S dX6_partFault_5 1 rfl rfl ?_
  refine x_iconst (v := 4) S dX6_partFault_6 rfl ?_
  refine x_icmp_le (tgt := 15) S dX6_partFault_7 (by decide) (fun h2 => ?_) (fun h2 => ?_)
  rotate_left
  · refine x_bipush (v := -2) S dX6_partFault_10 (by decide) ?_
    refine x_goto (tgt := 43) S dX6_partFault_12 (by decide) ?_
    exact x_ret hret (if_pos (Or.inr (Int32.not_le.mp h2))).symm dX6_partFault_43
  rw [if_neg (fun q => q.elim h1 (fun q => Int32.not_lt.mpr h2 q))] at hret
  refine x_aload_n S dX6_partFault_15 0 rfl rfl ?_
  refine x_get S 0 0 rfl rfl inC6 (by decide) (gC _ tw465) rfl rfl dX6_partFault_16 ?_
  refine x_bipush (v := 10) S dX6_partFault_19 (by decide) ?_
  refine x_icmp_le (tgt := 29) S dX6_partFault_21 (by decide) (fun h3 => ?_) (fun h3 => ?_)
  rotate_left
  · refine x_bipush (v := -4) S dX6_partFault_24 (by decide) ?_
    refine x_goto (tgt := 43) S dX6_partFault_26 (by decide) ?_
    exact x_ret hret (if_pos (Nat.lt_of_not_le (fun q => h3 (nI_le (b := 10) q (by omega))))).symm dX6_partFault_43
  rw [if_neg (fun q => nI_ge q (by omega) h3)] at hret
  refine x_aload_n S dX6_partFault_29 0 rfl rfl ?_
  refine x_get S 0 0 rfl rfl inC6 (by decide) (gC _ tw465) rfl rfl dX6_partFault_30 ?_
  refine x_iload_n S dX6_partFault_33 1 rfl rfl ?_
  refine x_icmp_ge (tgt := 42) S dX6_partFault_34 (by decide) (fun h4 => ?_) (fun h4 => ?_)
  rotate_left
  · refine x_bipush (v := -3) S dX6_partFault_37 (by decide) ?_
    refine x_goto (tgt := 43) S dX6_partFault_39 (by decide) ?_
    exact x_ret hret (if_pos (Int32.not_le.mp h4)).symm dX6_partFault_43
  refine x_iconst (v := 0) S dX6_partFault_42 rfl ?_
  exact x_ret hret (if_neg (Int32.not_lt.mpr h4)).symm dX6_partFault_43
set_option maxHeartbeats 4000000 in
set_option maxRecDepth 100000 in
theorem m_isFull {f : Nat → Nat} {k : Nat} (hn : n ≤ 12) (hk : k ≤ 4) (hf : ∀ u, u < n → tl u = nI (f u) ∧ f u < k) : xMet l yX6_isFull wX6_isFull (rD 0) D vwCl (tyC cI cII cP cZ) nwC [.ref (bd 0), .int (nI k)] (mw bd cI cZ n am al on ot we th be ne cu nw pa br pc ap pn ls gr tl co ++ X) (mw bd cI cZ n am al on ot we th be ne cu nw pa br pc ap pn ls gr tl co ++ X) (some (.int (if bO f n = 2 ^ k - 1 then 1 else 0))) := by
  refine xMet_of (cc := cX6_isFull) (maxL := 4) (ret := (some .boolean)) (by decide +kernel) rfl (Nat.le_of_ble_eq_true rfl) xfz ?_
  intro E S hnm hret
  show xW E D vwCl 4 0 0 _ [(0, .ref (bd 0)), (1, .int (nI k))] 0 []
  have hp := Nat.pow_le_pow_right (n := 2) (by omega) hk
  have hp0 := Nat.two_pow_pos k
  have L : ∀ m, m ≤ n → xW E D vwCl 4 0 0 (mw bd cI cZ n am al on ot we th be ne cu nw pa br pc ap pn ls gr tl co ++ X) [(0, .ref (bd 0)), (1, .int (nI k)), (2, .int (nI (bO f m))), (3, .int (nI m))] 4 [] := by
    refine pl_up n (fun m hm ih => ?_)
    refine x_iload_n S dX6_isFull_4 3 rfl rfl ?_
    refine x_aload_n S dX6_isFull_5 0 rfl rfl ?_
    refine x_get S 0 0 rfl rfl inC6 (by decide) (gC _ tw465) rfl rfl dX6_isFull_6 ?_
    refine x_icmp_ge (tgt := 29) S dX6_isFull_9 (by decide) (fun h3 => ?_) (fun h3 => ?_)
    · have hk2 : m = n := Nat.le_antisymm hm ((nI_leI (by omega) (by omega)).mp h3)
      rw [hk2]
      have hb : bO f n < 2 ^ k := bO_lt (fun u hu => (hf u hu).2)
      refine x_iload_n S dX6_isFull_29 2 rfl rfl ?_
      refine x_iconst (v := 1) S dX6_isFull_30 rfl ?_
      refine x_iload_n S dX6_isFull_31 1 rfl rfl ?_
      refine x_ishl S dX6_isFull_32 ?_
      refine x_iconst (v := 1) S dX6_isFull_33 rfl ?_
      refine x_isub S dX6_isFull_34 ?_
      refine x_top (nI (2 ^ k - 1)) (by rw [pl_one (by omega)]; exact pk_sub hp0) ?_
      refine x_icmp_ne (tgt := 42) S dX6_isFull_35 (by decide) (fun h4 => ?_) (fun h4 => ?_)
      rotate_left
      · refine x_iconst (v := 1) S dX6_isFull_38 rfl ?_
        refine x_goto (tgt := 43) S dX6_isFull_39 (by decide) ?_
        exact x_ret hret (if_pos (pl_inj (by omega) (by omega) h4)).symm dX6_isFull_43
      refine x_iconst (v := 0) S dX6_isFull_42 rfl ?_
      exact x_ret hret (if_neg (fun q => h4 (by rw [q]))).symm dX6_isFull_43
    have hk2 : m < n := Nat.lt_of_not_le (fun h => h3 (nI_le h (by omega)))
    have ih := ih hk2
    obtain ⟨e, hf2⟩ := hf m hk2
    refine x_iload_n S dX6_isFull_12 2 rfl rfl ?_
    refine x_iconst (v := 1) S dX6_isFull_13 rfl ?_
    refine x_aload_n S dX6_isFull_14 0 rfl rfl ?_
    refine x_get S 0 18 rfl rfl inC6 (by decide) (gC _ tw483) rfl rfl dX6_isFull_15 ?_
    refine x_iload_n S dX6_isFull_18 3 rfl rfl ?_
    refine x_iald S 14 0 (m) rfl rfl rfl (by omega) (by decide) dX6_isFull_19 ?_
    rw [e]
    refine x_ishl S dX6_isFull_20 ?_
    refine x_top (nI (2 ^ f m)) (pl_one (by omega)) ?_
    refine x_ior S dX6_isFull_21 ?_
    refine x_top (nI (bO f (m + 1))) (pl_or _ _) ?_
    refine x_istore_n (lv' := [(2, .int _), (0, .ref _), (1, .int _), (3, .int _)]) S dX6_isFull_22 rfl (by decide) rfl ?_
    refine x_iincN (lv' := [(3, .int _), (2, .int _), (0, .ref _), (1, .int _)]) S dX6_isFull_23 3 rfl (by decide) rfl ?_
    refine x_goto (tgt := 4) S dX6_isFull_26 (by decide) ?_
    exact x_sub [2, 3, 1, 0] rfl (ih)
  refine x_iconst (v := 0) S dX6_isFull_0 rfl ?_
  refine x_istore_n (lv' := [(2, .int _), (0, .ref _), (1, .int _)]) S dX6_isFull_1 rfl (by decide) rfl ?_
  refine x_iconst (v := 0) S dX6_isFull_2 rfl ?_
  refine x_istore_n (lv' := [(3, .int _), (2, .int _), (0, .ref _), (1, .int _)]) S dX6_isFull_3 rfl (by decide) rfl ?_
  exact x_sub [2, 3, 1, 0] rfl (L 0 (Nat.zero_le _))
set_option maxHeartbeats 4000000 in
set_option maxRecDepth 100000 in
theorem m_findParts {k : Nat} (hk1 : 1 ≤ k) (hk4 : k ≤ 4) (hn10 : n ≤ 10) (hkn : k ≤ n) (h : MS) (hI : mInv n am al fr to wt h) : xMetS l yX6_findParts wX6_findParts (rD 10) D vwCl (tyC cI cII cP cZ) nwC [.ref (bd 0), .int (nI k)] (mwH bd cI cZ n am al h ++ X) (fun h' : MS => mInv n am al fr to wt h' ∧ h'.2.2.2.2.2.2.2.2.2.2.2.1 k = false) (fun h' => mwH bd cI cZ n am al h' ++ X) (fun _ => none) := by
  obtain ⟨on, ot, we, th, be, ne, cu, nw, pa, br, pc, ap, pn, ls, gr, tl, co⟩ := h
  obtain ⟨hA, hL, hal, hV, hPt⟩ := hI
  have hn := hA.1
  refine xMetS_of (cc := cX6_findParts) (maxL := 6) (ret := none) (by decide +kernel) rfl (Nat.le_of_ble_eq_true rfl) (fun _ _ => xfv) ?_
  intro E S hnm hret
  show xW E D vwCl 6 0 0 (mw bd cI cZ n am al on ot we th be ne cu nw pa br pc ap pn ls gr tl co ++ X) [(0, .ref (bd 0)), (1, .int (nI k))] 0 []
  refine x_aload_n S dX6_findParts_0 0 rfl rfl ?_
  refine x_cVvS (n := 0) S (m_make hA hL hV) (gGV gC tw562 tw559 tw561 ts17 tw7) rfl (by decide +kernel) 0 rfl rfl rfl rfl (Nat.le_of_ble_eq_true rfl) dX6_findParts_1 ⟨by decide, by decide⟩ ⟨Nat.le_of_ble_eq_true rfl, Nat.le_of_ble_eq_true rfl⟩ (fun u hu => ?_)
  refine x_aload_n S dX6_findParts_4 0 rfl rfl ?_
  refine x_get S 0 14 rfl rfl inC6 (by decide) (gC _ tw479) rfl rfl dX6_findParts_5 ?_
  refine x_iload_n S dX6_findParts_8 1 rfl rfl ?_
  refine x_zaldB S 11 3 (k) rfl rfl rfl (by omega) (by decide) dX6_findParts_9 ?_
  refine x_if_neB (tgt := 14) S dX6_findParts_10 (by decide) (fun h1 => ?_) (fun h1 => ?_)
  rotate_left
  · exact hret (on, ot, we, th, u.1, u.2.1, u.2.2.1, false, u.2.2.2.1, u.2.2.2.2.1, pc, ap, pn, u.2.2.2.2.2, gr, tl, co) _ _ ⟨⟨hA, hL, hal, fun _ => hu, hPt⟩, Bool.eq_false_iff.mpr h1⟩ dX6_findParts_13
  obtain ⟨M, hMd⟩ : ∃ M, M = kM fr to wt am := ⟨_, rfl⟩
  have hM : ∀ a b, a < 12 → b < 12 → M a b ≤ 50000 := fun a b ha hb => by
    have := kM_bd (fr := fr) (to := to) (wt := wt) (k := am) (a := a) (b := b) (c := 1000) (fun i hi => (hA.2.2 i hi).2.2.2)
    have := hA.2.1
    rw [hMd]; omega
  have hbe : ∀ a b, a < 12 → b < 12 → u.1 (12 * a + b) = M a b := fun a b ha hb => by rw [hMd]; exact hu.1.1 a b ha hb
  have hfd : (kPR n k M).1 < 2147483647 := kPR_found hn10 hk1 hkn hM
  have hQ : ∀ d v, v + d + 1 = n → ∀ (f : Nat → Nat) (st0 : Nat × (Nat → Nat)), (∀ u, u < v → f u < k) → ∀ g : Nat → Nat × (Nat → Nat) → Nat × (Nat → Nat), g = (fun x st => rT n k M d (v + 1) (kCs M f v + pC M (va_up f v x) v) (va_up f v x) st) → (∀ bs p t c, rR k n pn (foldN g k st0) bs p → (∀ u, u < v → t u = nI (f u)) → (∀ u, u < v → c u = kCs M f u) → xW E D vwCl 6 0 0 (mw bd cI cZ n am al on ot we th u.1 u.2.1 u.2.2.1 false u.2.2.2.1 u.2.2.2.2.1 pc (va_up ap k false) p u.2.2.2.2.2 gr t c ++ X) [(0, .ref (bd 0)), (1, .int (nI k)), (2, .int bs), (3, .int (nI v + -1))] 39 []) → ∀ x, x ≤ k → ∀ bs p t c, rR k n pn (foldN g x st0) bs p → (∀ u, u < v → t u = nI (f u)) → t v = nI x + -1 → (∀ u, u ≤ v → c u = kCs M f u) → xW E D vwCl 6 0 0 (mw bd cI cZ n am al on ot we th u.1 u.2.1 u.2.2.1 false u.2.2.2.1 u.2.2.2.2.1 pc (va_up ap k false) p u.2.2.2.2.2 gr t c ++ X) [(0, .ref (bd 0)), (1, .int (nI k)), (2, .int bs), (3, .int (nI v))] 39 [] := by
    intro d
    induction d with
    | zero =>
      intro v hvd f st0 hfk g hg H
      refine pl_up k (fun x hx ih => ?_)
      intro bs p t c hR ht htv hc
      obtain ⟨st, hst⟩ : ∃ st, st = foldN g x st0 := ⟨_, rfl⟩
      rw [← hst] at hR
      obtain ⟨f', hf'⟩ : ∃ f' : Nat → Nat, f' = va_up f v x := ⟨_, rfl⟩
      have f1 : ∀ u, u < v → f' u = f u := fun u hu => by rw [hf', va_up_ne _ _ (by omega)]
      have f2 : f' v = x := by rw [hf', va_up_self]
      refine x_iload_n S dX6_findParts_39 3 rfl rfl ?_
      refine x_if_lt (tgt := 224) S dX6_findParts_40 (by decide) (fun h2 => ?_) (fun h2 => ?_)
      · exact absurd h2 (nI_pos (by omega))
      refine x_aload_n S dX6_findParts_43 0 rfl rfl ?_
      refine x_get S 0 18 rfl rfl inC6 (by decide) (gC _ tw483) rfl rfl dX6_findParts_44 ?_
      refine x_iload_n S dX6_findParts_47 3 rfl rfl ?_
      refine x_dup2 S dX6_findParts_48 rfl rfl ?_
      refine x_iald S 14 0 (v) rfl rfl rfl (by omega) (by decide) dX6_findParts_49 ?_
      refine x_iconst (v := 1) S dX6_findParts_50 rfl ?_
      refine x_iadd S dX6_findParts_51 ?_
      refine x_top (nI x) (by rw [htv]; exact nI_m1 x) ?_
      refine x_iast (ws' := (mw bd cI cZ n am al on ot we th u.1 u.2.1 u.2.2.1 false u.2.2.2.1 u.2.2.2.2.1 pc (va_up ap k false) p u.2.2.2.2.2 gr (upd t v (nI x)) c ++ X)) S 14 0 (v) rfl rfl rfl (by omega) (by decide) dX6_findParts_52 rfl ?_
      have t1 : ∀ u, u ≤ v → upd t v (nI x) u = nI (f' u) := fun u hu => (Nat.lt_or_ge u v).elim (fun q => by rw [ud_ne _ _ (by omega), ht u q, f1 u q]) (fun q => by rw [show u = v by omega, ud_self, f2])
      refine x_aload_n S dX6_findParts_53 0 rfl rfl ?_
      refine x_get S 0 18 rfl rfl inC6 (by decide) (gC _ tw483) rfl rfl dX6_findParts_54 ?_
      refine x_iload_n S dX6_findParts_57 3 rfl rfl ?_
      refine x_iald S 14 0 (v) rfl rfl rfl (by omega) (by decide) dX6_findParts_58 ?_
      rw [ud_self]
      refine x_iload_n S dX6_findParts_59 1 rfl rfl ?_
      refine x_icmp_ne (tgt := 69) S dX6_findParts_60 (by decide) (fun h3 => ?_) (fun h3 => ?_)
      rotate_left
      · have hxk : x = k := pl_inj (by omega) (by omega) h3
        refine x_iinc (lv' := [(3, .int _), (0, .ref _), (1, .int _), (2, .int _)]) (v := nI v + -1) S dX6_findParts_63 3 rfl rfl (by decide) rfl ?_
        refine x_goto (tgt := 39) S dX6_findParts_66 (by decide) ?_
        exact x_sub [1, 2, 3, 0] rfl (H bs p _ c (by rw [show foldN g k st0 = st by rw [hst, hxk]]; exact hR) (fun u hu => by rw [t1 u (by omega), f1 u hu]) (fun u hu => hc u (by omega)))
      have hxk : x < k := Nat.lt_of_le_of_ne hx (fun q => h3 (by rw [q]))
      have ih := ih hxk
      have hfk' : ∀ u, u < v + 1 → f' u < k := fun u hu => (Nat.lt_or_ge u v).elim (fun q => by rw [f1 u q]; exact hfk u q) (fun q => by rw [show u = v by omega, f2]; exact hxk)
      have hcb := kCs_bd hM (f := f) (v := v) (by omega)
      have hpb := pC_bd0 hM (f := f') (v := v) (by omega)
      have hgx : foldN g (x + 1) st0 = rT n k M 0 (v + 1) (kCs M f v + pC M f' v) f' st := by
        show g x (foldN g x st0) = _
        rw [← hst, hg, hf']
      have hcs : kCs M f v + pC M f' v = kCs M f' (v + 1) := by rw [hf', kCs_up]
      have hcu : ∀ u, u ≤ v → c u = kCs M f' u := fun u hu => by rw [hc u hu]; exact kCs_congr (fun w hw => (f1 w (by omega)).symm)
      obtain ⟨cs, hcsd⟩ : ∃ cs, cs = kCs M f v + pC M f' v := ⟨_, rfl⟩
      have hcsb : cs < 2147483647 := by rw [hcsd]; omega
      rw [← hcsd] at hgx hcs
      have K : cs < st.1 → xW E D vwCl 6 0 0 (mw bd cI cZ n am al on ot we th u.1 u.2.1 u.2.2.1 false u.2.2.2.1 u.2.2.2.2.1 pc (va_up ap k false) p u.2.2.2.2.2 gr (upd t v (nI x)) c ++ X) [(0, .ref (bd 0)), (1, .int (nI k)), (2, .int bs), (3, .int (nI v)), (4, .int (nI cs))] 142 [] := by
        intro hlt
        refine x_iload_n S dX6_findParts_142 3 rfl rfl ?_
        refine x_aload_n S dX6_findParts_143 0 rfl rfl ?_
        refine x_get S 0 0 rfl rfl inC6 (by decide) (gC _ tw465) rfl rfl dX6_findParts_144 ?_
        refine x_iconst (v := 1) S dX6_findParts_147 rfl ?_
        refine x_isub S dX6_findParts_148 ?_
        refine x_top (nI (n - 1)) (pk_sub (b := 1) (by omega)) ?_
        refine x_icmp_ge (tgt := 173) S dX6_findParts_149 (by decide) (fun h9 => ?_) (fun h9 => ?_)
        rotate_left
        · exact absurd (nI_le (show n - 1 ≤ v by omega) (by omega)) h9
        have hvn : v + 1 = n := by omega
        have hsj := bO_full (f := f') (n := n) (k := k) (fun u hu => hfk' u (by omega))
        refine x_aload_n S dX6_findParts_173 0 rfl rfl ?_
        refine x_iload_n S dX6_findParts_174 1 rfl rfl ?_
        refine x_cVi (n := 1) S (m_isFull (f := f') hn hk4 (fun u hu => ⟨t1 u (by omega), hfk' u (by omega)⟩)) (gGV gC tw649 tw646 tw648 ts28 tw7) rfl (by decide +kernel) 0 rfl rfl rfl rfl (Nat.le_of_ble_eq_true rfl) dX6_findParts_175 ⟨by decide, by decide⟩ ⟨Nat.le_of_ble_eq_true rfl, Nat.le_of_ble_eq_true rfl⟩ ?_
        refine x_if_eqB (tgt := 221) S dX6_findParts_178 (by decide) (fun h10 => ?_) (fun h10 => ?_)
        · have hno : rT n k M 0 (v + 1) cs f' st = st := if_neg (fun q => h10 (hsj.mpr q.2))
          refine x_goto (tgt := 39) S dX6_findParts_221 (by decide) ?_
          exact x_sub [0, 1, 2, 3] rfl (ih bs p _ c (by rw [hgx, hno]; exact hR) (fun u hu => by rw [t1 u (by omega), f1 u hu]) (by rw [t1 v (Nat.le_refl _), f2]; exact (nI_sm1 x).symm) hc)
        have hye : rT n k M 0 (v + 1) cs f' st = (cs, f') := if_pos ⟨hlt, hsj.mp h10⟩
        have LP : ∀ w, w ≤ n → ∀ p' : Nat → Nat, (∀ i, (i < 12 * k ∨ 12 * k + 12 ≤ i) → p' i = pn i) → (∀ u, u < w → p' (12 * k + u) = f' u) → xW E D vwCl 6 0 0 (mw bd cI cZ n am al on ot we th u.1 u.2.1 u.2.2.1 false u.2.2.2.1 u.2.2.2.2.1 pc (va_up ap k false) p' u.2.2.2.2.2 gr (upd t v (nI x)) c ++ X) [(0, .ref (bd 0)), (1, .int (nI k)), (2, .int (nI cs)), (3, .int (nI v)), (4, .int (nI cs)), (5, .int (nI w))] 187 [] := by
          refine pl_up n (fun w hw ihw => ?_)
          intro p' g1 g2
          refine x_iload S dX6_findParts_187 5 rfl ?_
          refine x_aload_n S dX6_findParts_189 0 rfl rfl ?_
          refine x_get S 0 0 rfl rfl inC6 (by decide) (gC _ tw465) rfl rfl dX6_findParts_190 ?_
          refine x_icmp_ge (tgt := 221) S dX6_findParts_193 (by decide) (fun h11 => ?_) (fun h11 => ?_)
          · have hk2 : w = n := Nat.le_antisymm hw ((nI_leI (by omega) (by omega)).mp h11)
            rw [hk2] at g2
            refine x_goto (tgt := 39) S dX6_findParts_221 (by decide) ?_
            exact x_sub [0, 1, 2, 3] rfl (ih (nI cs) p' _ c (by rw [hgx, hye]; exact ⟨g1, Or.inr ⟨hcsb, rfl, g2⟩⟩) (fun u hu => by rw [t1 u (by omega), f1 u hu]) (by rw [t1 v (Nat.le_refl _), f2]; exact (nI_sm1 x).symm) hc)
          have hk2 : w < n := Nat.lt_of_not_le (fun h => h11 (nI_le h (by omega)))
          refine x_aload_n S dX6_findParts_196 0 rfl rfl ?_
          refine x_get S 0 15 rfl rfl inC6 (by decide) (gC _ tw480) rfl rfl dX6_findParts_197 ?_
          refine x_bipush (v := 12) S dX6_findParts_200 (by decide) ?_
          refine x_iload_n S dX6_findParts_202 1 rfl rfl ?_
          refine x_imul S dX6_findParts_203 ?_
          refine x_iload S dX6_findParts_204 5 rfl ?_
          refine x_iadd S dX6_findParts_206 ?_
          refine x_top (nI (12 * k + w)) (by show nI 12 * nI k + nI w = _; rw [pk_mul, nI_add]) ?_
          refine x_aload_n S dX6_findParts_207 0 rfl rfl ?_
          refine x_get S 0 18 rfl rfl inC6 (by decide) (gC _ tw483) rfl rfl dX6_findParts_208 ?_
          refine x_iload S dX6_findParts_211 5 rfl ?_
          refine x_iald S 14 0 (w) rfl rfl rfl (by omega) (by decide) dX6_findParts_213 ?_
          rw [t1 w (by omega)]
          refine x_iastN (ws' := (mw bd cI cZ n am al on ot we th u.1 u.2.1 u.2.2.1 false u.2.2.2.1 u.2.2.2.2.1 pc (va_up ap k false) (va_up p' (12 * k + w) (f' w)) u.2.2.2.2.2 gr (upd t v (nI x)) c ++ X)) S 12 0 (12 * k + w) rfl rfl rfl (by omega) (by decide) rfl dX6_findParts_214 rfl ?_
          refine x_iincN (lv' := [(5, .int _), (0, .ref _), (1, .int _), (2, .int _), (3, .int _), (4, .int _)]) S dX6_findParts_215 5 rfl (by decide) rfl ?_
          refine x_goto (tgt := 187) S dX6_findParts_218 (by decide) ?_
          exact x_sub [1, 2, 3, 4, 5, 0] rfl (ihw hk2 _ (fun i hi => by rw [va_up_ne _ _ (by omega)]; exact g1 i hi) (fun u hu => (Nat.lt_or_ge u w).elim (fun q => by rw [va_up_ne _ _ (by omega)]; exact g2 u q) (fun q => by rw [show u = w by omega, va_up_self])))
        refine x_iload S dX6_findParts_181 4 rfl ?_
        refine x_istore_n (lv' := [(2, .int _), (0, .ref _), (1, .int _), (3, .int _), (4, .int _)]) S dX6_findParts_183 rfl (by decide) rfl ?_
        refine x_iconst (v := 0) S dX6_findParts_184 rfl ?_
        refine x_istore (lv' := [(5, .int _), (2, .int _), (0, .ref _), (1, .int _), (3, .int _), (4, .int _)]) S dX6_findParts_185 (by decide) rfl ?_
        exact x_sub [2, 3, 1, 4, 5, 0] rfl (LP 0 (Nat.zero_le _) p hR.1 (fun u hu => absurd hu (by omega)))
      have P : xW E D vwCl 6 0 0 (mw bd cI cZ n am al on ot we th u.1 u.2.1 u.2.2.1 false u.2.2.2.1 u.2.2.2.2.1 pc (va_up ap k false) p u.2.2.2.2.2 gr (upd t v (nI x)) c ++ X) [(0, .ref (bd 0)), (1, .int (nI k)), (2, .int bs), (3, .int (nI v)), (4, .int (nI cs))] 129 [] := by
        refine x_iload_n S dX6_findParts_129 2 rfl rfl ?_
        refine x_if_lt (tgt := 142) S dX6_findParts_130 (by decide) (fun h6 => ?_) (fun h6 => ?_)
        · rcases hR.2 with ⟨q1, q2⟩ | ⟨q1, q2, _⟩
          · exact K (by omega)
          · rw [q2] at h6; exact absurd h6 (nI_pos (by omega))
        refine x_iload S dX6_findParts_133 4 rfl ?_
        refine x_iload_n S dX6_findParts_135 2 rfl rfl ?_
        rcases hR.2 with ⟨q1, q2⟩ | ⟨q1, q2, _⟩
        · rw [q2] at h6; exact absurd (by decide) h6
        refine x_icmp_lt (tgt := 142) S dX6_findParts_136 (by decide) (fun h7 => ?_) (fun h7 => ?_)
        · exact x_sub [0, 1, 2, 3, 4] rfl (K ((nI_ltI (by omega) (by omega)).mp (q2 ▸ h7)))
        have h7 : ¬ cs < st.1 := fun q => h7 (by rw [q2]; exact nI_lt q (by omega))
        have hno : rT n k M 0 (v + 1) cs f' st = st := if_neg (fun q => h7 q.1)
        refine x_goto (tgt := 39) S dX6_findParts_139 (by decide) ?_
        exact x_sub [0, 1, 2, 3] rfl (ih bs p _ c (by rw [hgx, hno]; exact hR) (fun u hu => by rw [t1 u (by omega), f1 u hu]) (by rw [t1 v (Nat.le_refl _), f2]; exact (nI_sm1 x).symm) hc)
      have LC : ∀ w, w ≤ v → xW E D vwCl 6 0 0 (mw bd cI cZ n am al on ot we th u.1 u.2.1 u.2.2.1 false u.2.2.2.1 u.2.2.2.2.1 pc (va_up ap k false) p u.2.2.2.2.2 gr (upd t v (nI x)) c ++ X) [(0, .ref (bd 0)), (1, .int (nI k)), (2, .int bs), (3, .int (nI v)), (4, .int (nI (kCs M f v + sm (fun u => if f' u = f' v then 0 else M v u) w))), (5, .int (nI w))] 80 [] := by
        refine pl_up v (fun w hw ihw => ?_)
        refine x_iload S dX6_findParts_80 5 rfl ?_
        refine x_iload_n S dX6_findParts_82 3 rfl rfl ?_
        refine x_icmp_ge (tgt := 129) S dX6_findParts_83 (by decide) (fun h6 => ?_) (fun h6 => ?_)
        · have hk2 : w = v := Nat.le_antisymm hw ((nI_leI (by omega) (by omega)).mp h6)
          rw [hk2]
          rw [hcsd] at P
          exact x_sub [0, 1, 2, 3, 4] rfl (P)
        have hk2 : w < v := Nat.lt_of_not_le (fun h => h6 (nI_le h (by omega)))
        have ihw := ihw hk2
        have hss : sm (fun u => if f' u = f' v then 0 else M v u) (w + 1) = sm (fun u => if f' u = f' v then 0 else M v u) w + (if f' w = f' v then 0 else M v w) := rfl
        have hw4 := hfk' w (by omega)
        have hv4 := hfk' v (by omega)
        refine x_iload S dX6_findParts_86 4 rfl ?_
        refine x_aload_n S dX6_findParts_88 0 rfl rfl ?_
        refine x_get S 0 18 rfl rfl inC6 (by decide) (gC _ tw483) rfl rfl dX6_findParts_89 ?_
        refine x_iload S dX6_findParts_92 5 rfl ?_
        refine x_iald S 14 0 (w) rfl rfl rfl (by omega) (by decide) dX6_findParts_94 ?_
        rw [t1 w (by omega)]
        refine x_aload_n S dX6_findParts_95 0 rfl rfl ?_
        refine x_get S 0 18 rfl rfl inC6 (by decide) (gC _ tw483) rfl rfl dX6_findParts_96 ?_
        refine x_iload_n S dX6_findParts_99 3 rfl rfl ?_
        refine x_iald S 14 0 (v) rfl rfl rfl (by omega) (by decide) dX6_findParts_100 ?_
        rw [t1 v (Nat.le_refl _)]
        refine x_icmp_eq (tgt := 119) S dX6_findParts_101 (by decide) (fun h8 => ?_) (fun h8 => ?_)
        rotate_left
        · rw [hss, if_neg (fun q => h8 (by rw [q]))] at ihw
          refine x_aload_n S dX6_findParts_104 0 rfl rfl ?_
          refine x_get S 0 7 rfl rfl inC6 (by decide) (gC _ tw472) rfl rfl dX6_findParts_105 ?_
          refine x_bipush (v := 12) S dX6_findParts_108 (by decide) ?_
          refine x_iload_n S dX6_findParts_110 3 rfl rfl ?_
          refine x_imul S dX6_findParts_111 ?_
          refine x_iload S dX6_findParts_112 5 rfl ?_
          refine x_iadd S dX6_findParts_114 ?_
          refine x_top (nI (12 * v + w)) (by show nI 12 * nI v + nI w = _; rw [pk_mul, nI_add]) ?_
          refine x_ialdN S 5 0 (12 * v + w) rfl rfl rfl (by omega) (by decide) dX6_findParts_115 ?_
          rw [hbe v w (by omega) (by omega)]
          refine x_goto (tgt := 120) S dX6_findParts_116 (by decide) ?_
          refine x_iadd S dX6_findParts_120 ?_
          refine x_top (nI (kCs M f v + (sm (fun u => if f' u = f' v then 0 else M v u) w + M v w))) (by rw [nI_add, Nat.add_assoc]) ?_
          refine x_istore (lv' := [(4, .int _), (0, .ref _), (1, .int _), (2, .int _), (3, .int _), (5, .int _)]) S dX6_findParts_121 (by decide) rfl ?_
          refine x_iincN (lv' := [(5, .int _), (4, .int _), (0, .ref _), (1, .int _), (2, .int _), (3, .int _)]) S dX6_findParts_123 5 rfl (by decide) rfl ?_
          refine x_goto (tgt := 80) S dX6_findParts_126 (by decide) ?_
          exact x_sub [2, 3, 4, 5, 1, 0] rfl (ihw)
        rw [hss, if_pos (pl_inj (by omega) (by omega) h8), Nat.add_zero] at ihw
        refine x_iconst (v := 0) S dX6_findParts_119 rfl ?_
        refine x_iadd S dX6_findParts_120 ?_
        refine x_top (nI (kCs M f v + sm (fun u => if f' u = f' v then 0 else M v u) w)) (Int32.add_zero _) ?_
        refine x_istore (lv' := [(4, .int _), (0, .ref _), (1, .int _), (2, .int _), (3, .int _), (5, .int _)]) S dX6_findParts_121 (by decide) rfl ?_
        refine x_iincN (lv' := [(5, .int _), (4, .int _), (0, .ref _), (1, .int _), (2, .int _), (3, .int _)]) S dX6_findParts_123 5 rfl (by decide) rfl ?_
        refine x_goto (tgt := 80) S dX6_findParts_126 (by decide) ?_
        exact x_sub [2, 3, 4, 5, 1, 0] rfl (ihw)
      refine x_aload_n S dX6_findParts_69 0 rfl rfl ?_
      refine x_get S 0 19 rfl rfl inC6 (by decide) (gC _ tw484) rfl rfl dX6_findParts_70 ?_
      refine x_iload_n S dX6_findParts_73 3 rfl rfl ?_
      refine x_ialdN S 15 0 (v) rfl rfl rfl (by omega) (by decide) dX6_findParts_74 ?_
      rw [hc v (Nat.le_refl _)]
      refine x_istore (lv' := [(4, .int _), (0, .ref _), (1, .int _), (2, .int _), (3, .int _)]) S dX6_findParts_75 (by decide) rfl ?_
      refine x_iconst (v := 0) S dX6_findParts_77 rfl ?_
      refine x_istore (lv' := [(5, .int _), (4, .int _), (0, .ref _), (1, .int _), (2, .int _), (3, .int _)]) S dX6_findParts_78 (by decide) rfl ?_
      exact x_sub [2, 3, 4, 5, 1, 0] rfl (LC 0 (Nat.zero_le _))
    | succ d ihd =>
      intro v hvd f st0 hfk g hg H
      refine pl_up k (fun x hx ih => ?_)
      intro bs p t c hR ht htv hc
      obtain ⟨st, hst⟩ : ∃ st, st = foldN g x st0 := ⟨_, rfl⟩
      rw [← hst] at hR
      obtain ⟨f', hf'⟩ : ∃ f' : Nat → Nat, f' = va_up f v x := ⟨_, rfl⟩
      have f1 : ∀ u, u < v → f' u = f u := fun u hu => by rw [hf', va_up_ne _ _ (by omega)]
      have f2 : f' v = x := by rw [hf', va_up_self]
      refine x_iload_n S dX6_findParts_39 3 rfl rfl ?_
      refine x_if_lt (tgt := 224) S dX6_findParts_40 (by decide) (fun h2 => ?_) (fun h2 => ?_)
      · exact absurd h2 (nI_pos (by omega))
      refine x_aload_n S dX6_findParts_43 0 rfl rfl ?_
      refine x_get S 0 18 rfl rfl inC6 (by decide) (gC _ tw483) rfl rfl dX6_findParts_44 ?_
      refine x_iload_n S dX6_findParts_47 3 rfl rfl ?_
      refine x_dup2 S dX6_findParts_48 rfl rfl ?_
      refine x_iald S 14 0 (v) rfl rfl rfl (by omega) (by decide) dX6_findParts_49 ?_
      refine x_iconst (v := 1) S dX6_findParts_50 rfl ?_
      refine x_iadd S dX6_findParts_51 ?_
      refine x_top (nI x) (by rw [htv]; exact nI_m1 x) ?_
      refine x_iast (ws' := (mw bd cI cZ n am al on ot we th u.1 u.2.1 u.2.2.1 false u.2.2.2.1 u.2.2.2.2.1 pc (va_up ap k false) p u.2.2.2.2.2 gr (upd t v (nI x)) c ++ X)) S 14 0 (v) rfl rfl rfl (by omega) (by decide) dX6_findParts_52 rfl ?_
      have t1 : ∀ u, u ≤ v → upd t v (nI x) u = nI (f' u) := fun u hu => (Nat.lt_or_ge u v).elim (fun q => by rw [ud_ne _ _ (by omega), ht u q, f1 u q]) (fun q => by rw [show u = v by omega, ud_self, f2])
      refine x_aload_n S dX6_findParts_53 0 rfl rfl ?_
      refine x_get S 0 18 rfl rfl inC6 (by decide) (gC _ tw483) rfl rfl dX6_findParts_54 ?_
      refine x_iload_n S dX6_findParts_57 3 rfl rfl ?_
      refine x_iald S 14 0 (v) rfl rfl rfl (by omega) (by decide) dX6_findParts_58 ?_
      rw [ud_self]
      refine x_iload_n S dX6_findParts_59 1 rfl rfl ?_
      refine x_icmp_ne (tgt := 69) S dX6_findParts_60 (by decide) (fun h3 => ?_) (fun h3 => ?_)
      rotate_left
      · have hxk : x = k := pl_inj (by omega) (by omega) h3
        refine x_iinc (lv' := [(3, .int _), (0, .ref _), (1, .int _), (2, .int _)]) (v := nI v + -1) S dX6_findParts_63 3 rfl rfl (by decide) rfl ?_
        refine x_goto (tgt := 39) S dX6_findParts_66 (by decide) ?_
        exact x_sub [1, 2, 3, 0] rfl (H bs p _ c (by rw [show foldN g k st0 = st by rw [hst, hxk]]; exact hR) (fun u hu => by rw [t1 u (by omega), f1 u hu]) (fun u hu => hc u (by omega)))
      have hxk : x < k := Nat.lt_of_le_of_ne hx (fun q => h3 (by rw [q]))
      have ih := ih hxk
      have hfk' : ∀ u, u < v + 1 → f' u < k := fun u hu => (Nat.lt_or_ge u v).elim (fun q => by rw [f1 u q]; exact hfk u q) (fun q => by rw [show u = v by omega, f2]; exact hxk)
      have hcb := kCs_bd hM (f := f) (v := v) (by omega)
      have hpb := pC_bd0 hM (f := f') (v := v) (by omega)
      have hgx : foldN g (x + 1) st0 = rT n k M (d + 1) (v + 1) (kCs M f v + pC M f' v) f' st := by
        show g x (foldN g x st0) = _
        rw [← hst, hg, hf']
      have hcs : kCs M f v + pC M f' v = kCs M f' (v + 1) := by rw [hf', kCs_up]
      have hcu : ∀ u, u ≤ v → c u = kCs M f' u := fun u hu => by rw [hc u hu]; exact kCs_congr (fun w hw => (f1 w (by omega)).symm)
      obtain ⟨cs, hcsd⟩ : ∃ cs, cs = kCs M f v + pC M f' v := ⟨_, rfl⟩
      have hcsb : cs < 2147483647 := by rw [hcsd]; omega
      rw [← hcsd] at hgx hcs
      have K : cs < st.1 → xW E D vwCl 6 0 0 (mw bd cI cZ n am al on ot we th u.1 u.2.1 u.2.2.1 false u.2.2.2.1 u.2.2.2.2.1 pc (va_up ap k false) p u.2.2.2.2.2 gr (upd t v (nI x)) c ++ X) [(0, .ref (bd 0)), (1, .int (nI k)), (2, .int bs), (3, .int (nI v)), (4, .int (nI cs))] 142 [] := by
        intro hlt
        refine x_iload_n S dX6_findParts_142 3 rfl rfl ?_
        refine x_aload_n S dX6_findParts_143 0 rfl rfl ?_
        refine x_get S 0 0 rfl rfl inC6 (by decide) (gC _ tw465) rfl rfl dX6_findParts_144 ?_
        refine x_iconst (v := 1) S dX6_findParts_147 rfl ?_
        refine x_isub S dX6_findParts_148 ?_
        refine x_top (nI (n - 1)) (pk_sub (b := 1) (by omega)) ?_
        refine x_icmp_ge (tgt := 173) S dX6_findParts_149 (by decide) (fun h9 => ?_) (fun h9 => ?_)
        · exact absurd ((nI_leI (by omega) (by omega)).mp h9) (by omega)
        obtain ⟨g', hg'⟩ : ∃ g' : Nat → Nat × (Nat → Nat) → Nat × (Nat → Nat), g' = (fun x st => rT n k M d (v + 1 + 1) (kCs M f' (v + 1) + pC M (va_up f' (v + 1) x) (v + 1)) (va_up f' (v + 1) x) st) := ⟨_, rfl⟩
        have hye : rT n k M (d + 1) (v + 1) cs f' st = foldN g' k st := by
          show (if cs < st.1 then _ else _) = _
          rw [if_pos hlt, hg', ← hcs]
        refine x_iincN (lv' := [(3, .int _), (0, .ref _), (1, .int _), (2, .int _), (4, .int _)]) S dX6_findParts_152 3 rfl (by decide) rfl ?_
        refine x_aload_n S dX6_findParts_155 1 rfl rfl ?_
        refine x_get S 0 18 rfl rfl inC6 (by decide) (gC _ tw483) rfl rfl dX6_findParts_156 ?_
        refine x_iload_n S dX6_findParts_159 0 rfl rfl ?_
        refine x_iconst (v := -1) S dX6_findParts_160 rfl ?_
        refine x_iast (ws' := (mw bd cI cZ n am al on ot we th u.1 u.2.1 u.2.2.1 false u.2.2.2.1 u.2.2.2.2.1 pc (va_up ap k false) p u.2.2.2.2.2 gr (upd (upd t v (nI x)) (v + 1) (-1)) c ++ X)) S 14 0 (v + 1) rfl rfl rfl (by omega) (by decide) dX6_findParts_161 rfl ?_
        refine x_aload_n S dX6_findParts_162 1 rfl rfl ?_
        refine x_get S 0 19 rfl rfl inC6 (by decide) (gC _ tw484) rfl rfl dX6_findParts_163 ?_
        refine x_iload_n S dX6_findParts_166 0 rfl rfl ?_
        refine x_iload S dX6_findParts_167 4 rfl ?_
        refine x_iastN (ws' := (mw bd cI cZ n am al on ot we th u.1 u.2.1 u.2.2.1 false u.2.2.2.1 u.2.2.2.2.1 pc (va_up ap k false) p u.2.2.2.2.2 gr (upd (upd t v (nI x)) (v + 1) (-1)) (va_up c (v + 1) cs) ++ X)) S 15 0 (v + 1) rfl rfl rfl (by omega) (by decide) rfl dX6_findParts_169 rfl ?_
        refine x_goto (tgt := 221) S dX6_findParts_170 (by decide) ?_
        refine x_goto (tgt := 39) S dX6_findParts_221 (by decide) ?_
        exact x_sub [1, 2, 3, 0] rfl (ihd (v + 1) (by omega) f' st hfk' g' hg' (fun bs' p' t' c' hR' ht' hc' => by rw [nI_sm1]; exact ih bs' p' t' c' (by rw [hgx, hye]; exact hR') (fun u hu => by rw [ht' u (by omega), f1 u hu]) (by rw [ht' v (by omega), f2]; exact (nI_sm1 x).symm) (fun u hu => by rw [hc' u (by omega)]; exact kCs_congr (fun w hw => f1 w (by omega)))) 0 (Nat.zero_le _) bs p _ _ hR (fun u hu => by rw [ud_ne _ _ (by omega)]; exact t1 u (by omega)) (ud_self _ _ _) (fun u hu => (Nat.lt_or_ge u (v + 1)).elim (fun q => by rw [va_up_ne _ _ (by omega)]; exact hcu u (by omega)) (fun q => by rw [show u = v + 1 by omega, va_up_self]; exact hcs)))
      have P : xW E D vwCl 6 0 0 (mw bd cI cZ n am al on ot we th u.1 u.2.1 u.2.2.1 false u.2.2.2.1 u.2.2.2.2.1 pc (va_up ap k false) p u.2.2.2.2.2 gr (upd t v (nI x)) c ++ X) [(0, .ref (bd 0)), (1, .int (nI k)), (2, .int bs), (3, .int (nI v)), (4, .int (nI cs))] 129 [] := by
        refine x_iload_n S dX6_findParts_129 2 rfl rfl ?_
        refine x_if_lt (tgt := 142) S dX6_findParts_130 (by decide) (fun h6 => ?_) (fun h6 => ?_)
        · rcases hR.2 with ⟨q1, q2⟩ | ⟨q1, q2, _⟩
          · exact K (by omega)
          · rw [q2] at h6; exact absurd h6 (nI_pos (by omega))
        refine x_iload S dX6_findParts_133 4 rfl ?_
        refine x_iload_n S dX6_findParts_135 2 rfl rfl ?_
        rcases hR.2 with ⟨q1, q2⟩ | ⟨q1, q2, _⟩
        · rw [q2] at h6; exact absurd (by decide) h6
        refine x_icmp_lt (tgt := 142) S dX6_findParts_136 (by decide) (fun h7 => ?_) (fun h7 => ?_)
        · exact x_sub [0, 1, 2, 3, 4] rfl (K ((nI_ltI (by omega) (by omega)).mp (q2 ▸ h7)))
        have h7 : ¬ cs < st.1 := fun q => h7 (by rw [q2]; exact nI_lt q (by omega))
        have hno : rT n k M (d + 1) (v + 1) cs f' st = st := if_neg h7
        refine x_goto (tgt := 39) S dX6_findParts_139 (by decide) ?_
        exact x_sub [0, 1, 2, 3] rfl (ih bs p _ c (by rw [hgx, hno]; exact hR) (fun u hu => by rw [t1 u (by omega), f1 u hu]) (by rw [t1 v (Nat.le_refl _), f2]; exact (nI_sm1 x).symm) hc)
      have LC : ∀ w, w ≤ v → xW E D vwCl 6 0 0 (mw bd cI cZ n am al on ot we th u.1 u.2.1 u.2.2.1 false u.2.2.2.1 u.2.2.2.2.1 pc (va_up ap k false) p u.2.2.2.2.2 gr (upd t v (nI x)) c ++ X) [(0, .ref (bd 0)), (1, .int (nI k)), (2, .int bs), (3, .int (nI v)), (4, .int (nI (kCs M f v + sm (fun u => if f' u = f' v then 0 else M v u) w))), (5, .int (nI w))] 80 [] := by
        refine pl_up v (fun w hw ihw => ?_)
        refine x_iload S dX6_findParts_80 5 rfl ?_
        refine x_iload_n S dX6_findParts_82 3 rfl rfl ?_
        refine x_icmp_ge (tgt := 129) S dX6_findParts_83 (by decide) (fun h6 => ?_) (fun h6 => ?_)
        · have hk2 : w = v := Nat.le_antisymm hw ((nI_leI (by omega) (by omega)).mp h6)
          rw [hk2]
          rw [hcsd] at P
          exact x_sub [0, 1, 2, 3, 4] rfl (P)
        have hk2 : w < v := Nat.lt_of_not_le (fun h => h6 (nI_le h (by omega)))
        have ihw := ihw hk2
        have hss : sm (fun u => if f' u = f' v then 0 else M v u) (w + 1) = sm (fun u => if f' u = f' v then 0 else M v u) w + (if f' w = f' v then 0 else M v w) := rfl
        have hw4 := hfk' w (by omega)
        have hv4 := hfk' v (by omega)
        refine x_iload S dX6_findParts_86 4 rfl ?_
        refine x_aload_n S dX6_findParts_88 0 rfl rfl ?_
        refine x_get S 0 18 rfl rfl inC6 (by decide) (gC _ tw483) rfl rfl dX6_findParts_89 ?_
        refine x_iload S dX6_findParts_92 5 rfl ?_
        refine x_iald S 14 0 (w) rfl rfl rfl (by omega) (by decide) dX6_findParts_94 ?_
        rw [t1 w (by omega)]
        refine x_aload_n S dX6_findParts_95 0 rfl rfl ?_
        refine x_get S 0 18 rfl rfl inC6 (by decide) (gC _ tw483) rfl rfl dX6_findParts_96 ?_
        refine x_iload_n S dX6_findParts_99 3 rfl rfl ?_
        refine x_iald S 14 0 (v) rfl rfl rfl (by omega) (by decide) dX6_findParts_100 ?_
        rw [t1 v (Nat.le_refl _)]
        refine x_icmp_eq (tgt := 119) S dX6_findParts_101 (by decide) (fun h8 => ?_) (fun h8 => ?_)
        rotate_left
        · rw [hss, if_neg (fun q => h8 (by rw [q]))] at ihw
          refine x_aload_n S dX6_findParts_104 0 rfl rfl ?_
          refine x_get S 0 7 rfl rfl inC6 (by decide) (gC _ tw472) rfl rfl dX6_findParts_105 ?_
          refine x_bipush (v := 12) S dX6_findParts_108 (by decide) ?_
          refine x_iload_n S dX6_findParts_110 3 rfl rfl ?_
          refine x_imul S dX6_findParts_111 ?_
          refine x_iload S dX6_findParts_112 5 rfl ?_
          refine x_iadd S dX6_findParts_114 ?_
          refine x_top (nI (12 * v + w)) (by show nI 12 * nI v + nI w = _; rw [pk_mul, nI_add]) ?_
          refine x_ialdN S 5 0 (12 * v + w) rfl rfl rfl (by omega) (by decide) dX6_findParts_115 ?_
          rw [hbe v w (by omega) (by omega)]
          refine x_goto (tgt := 120) S dX6_findParts_116 (by decide) ?_
          refine x_iadd S dX6_findParts_120 ?_
          refine x_top (nI (kCs M f v + (sm (fun u => if f' u = f' v then 0 else M v u) w + M v w))) (by rw [nI_add, Nat.add_assoc]) ?_
          refine x_istore (lv' := [(4, .int _), (0, .ref _), (1, .int _), (2, .int _), (3, .int _), (5, .int _)]) S dX6_findParts_121 (by decide) rfl ?_
          refine x_iincN (lv' := [(5, .int _), (4, .int _), (0, .ref _), (1, .int _), (2, .int _), (3, .int _)]) S dX6_findParts_123 5 rfl (by decide) rfl ?_
          refine x_goto (tgt := 80) S dX6_findParts_126 (by decide) ?_
          exact x_sub [2, 3, 4, 5, 1, 0] rfl (ihw)
        rw [hss, if_pos (pl_inj (by omega) (by omega) h8), Nat.add_zero] at ihw
        refine x_iconst (v := 0) S dX6_findParts_119 rfl ?_
        refine x_iadd S dX6_findParts_120 ?_
        refine x_top (nI (kCs M f v + sm (fun u => if f' u = f' v then 0 else M v u) w)) (Int32.add_zero _) ?_
        refine x_istore (lv' := [(4, .int _), (0, .ref _), (1, .int _), (2, .int _), (3, .int _), (5, .int _)]) S dX6_findParts_121 (by decide) rfl ?_
        refine x_iincN (lv' := [(5, .int _), (4, .int _), (0, .ref _), (1, .int _), (2, .int _), (3, .int _)]) S dX6_findParts_123 5 rfl (by decide) rfl ?_
        refine x_goto (tgt := 80) S dX6_findParts_126 (by decide) ?_
        exact x_sub [2, 3, 4, 5, 1, 0] rfl (ihw)
      refine x_aload_n S dX6_findParts_69 0 rfl rfl ?_
      refine x_get S 0 19 rfl rfl inC6 (by decide) (gC _ tw484) rfl rfl dX6_findParts_70 ?_
      refine x_iload_n S dX6_findParts_73 3 rfl rfl ?_
      refine x_ialdN S 15 0 (v) rfl rfl rfl (by omega) (by decide) dX6_findParts_74 ?_
      rw [hc v (Nat.le_refl _)]
      refine x_istore (lv' := [(4, .int _), (0, .ref _), (1, .int _), (2, .int _), (3, .int _)]) S dX6_findParts_75 (by decide) rfl ?_
      refine x_iconst (v := 0) S dX6_findParts_77 rfl ?_
      refine x_istore (lv' := [(5, .int _), (4, .int _), (0, .ref _), (1, .int _), (2, .int _), (3, .int _)]) S dX6_findParts_78 (by decide) rfl ?_
      exact x_sub [2, 3, 4, 5, 1, 0] rfl (LC 0 (Nat.zero_le _))
  have hPf : ∀ p : Nat → Nat, (∀ i, (i < 12 * k ∨ 12 * k + 12 ≤ i) → p i = pn i) → (∀ u, u < n → p (12 * k + u) = (rT n k M n 0 0 (fun _ => 0) (2147483647, fun _ => 0)).2 u) → mpOK n am fr to wt (va_up pc k (kPR n k M).1) (va_up ap k false) p := by
    intro p g1 g2 k' hk1' hk4' hap hn' hkn'
    by_cases e : k' = k
    · subst e
      rw [va_up_self, ← hMd]
      exact ⟨rfl, fun u hu => by rw [g2 u hu]; exact (rT_kT hk1 hfd (fun _ => 0)).2 u hu⟩
    · rw [va_up_ne _ _ e]
      rw [va_up_ne _ _ e] at hap
      obtain ⟨a1, a2⟩ := hPt k' hk1' hk4' hap hn' hkn'
      exact ⟨a1, fun u hu => by rw [g1 _ (by omega)]; exact a2 u hu⟩
  refine x_aload_n S dX6_findParts_14 0 rfl rfl ?_
  refine x_get S 0 14 rfl rfl inC6 (by decide) (gC _ tw479) rfl rfl dX6_findParts_15 ?_
  refine x_iload_n S dX6_findParts_18 1 rfl rfl ?_
  refine x_iconst (v := 0) S dX6_findParts_19 rfl ?_
  refine x_zastB (ws' := (mw bd cI cZ n am al on ot we th u.1 u.2.1 u.2.2.1 false u.2.2.2.1 u.2.2.2.2.1 pc (va_up ap k false) pn u.2.2.2.2.2 gr tl co ++ X)) (z := false) S 11 3 (k) rfl rfl rfl (by omega) (by decide) rfl dX6_findParts_20 rfl ?_
  refine x_iconst (v := -1) S dX6_findParts_21 rfl ?_
  refine x_istore_n (lv' := [(2, .int _), (0, .ref _), (1, .int _)]) S dX6_findParts_22 rfl (by decide) rfl ?_
  refine x_iconst (v := 0) S dX6_findParts_23 rfl ?_
  refine x_istore_n (lv' := [(3, .int _), (2, .int _), (0, .ref _), (1, .int _)]) S dX6_findParts_24 rfl (by decide) rfl ?_
  refine x_aload_n S dX6_findParts_25 2 rfl rfl ?_
  refine x_get S 0 18 rfl rfl inC6 (by decide) (gC _ tw483) rfl rfl dX6_findParts_26 ?_
  refine x_iconst (v := 0) S dX6_findParts_29 rfl ?_
  refine x_iconst (v := -1) S dX6_findParts_30 rfl ?_
  refine x_iast (ws' := (mw bd cI cZ n am al on ot we th u.1 u.2.1 u.2.2.1 false u.2.2.2.1 u.2.2.2.2.1 pc (va_up ap k false) pn u.2.2.2.2.2 gr (upd tl 0 (-1)) co ++ X)) S 14 0 (0) rfl rfl rfl (by omega) (by decide) dX6_findParts_31 rfl ?_
  refine x_aload_n S dX6_findParts_32 2 rfl rfl ?_
  refine x_get S 0 19 rfl rfl inC6 (by decide) (gC _ tw484) rfl rfl dX6_findParts_33 ?_
  refine x_iconst (v := 0) S dX6_findParts_36 rfl ?_
  refine x_iconst (v := 0) S dX6_findParts_37 rfl ?_
  refine x_iastN (ws' := (mw bd cI cZ n am al on ot we th u.1 u.2.1 u.2.2.1 false u.2.2.2.1 u.2.2.2.2.1 pc (va_up ap k false) pn u.2.2.2.2.2 gr (upd tl 0 (-1)) (va_up co 0 0) ++ X)) S 15 0 (0) rfl rfl rfl (by omega) (by decide) rfl dX6_findParts_38 rfl ?_
  refine x_sub [2, 3, 1, 0] rfl (hQ (n - 1) 0 (by omega) (fun _ => 0) (2147483647, fun _ => 0) (fun u hu => absurd hu (by omega)) _ rfl ?_ 0 (Nat.zero_le _) (-1) pn (upd tl 0 (-1)) (va_up co 0 0) ⟨fun _ _ => rfl, Or.inl ⟨rfl, rfl⟩⟩ (fun u hu => absurd hu (by omega)) (ud_self _ _ _) (fun u hu => by rw [show u = 0 by omega, va_up_self]; rfl))
  intro bs p t c hR _ _
  have hr : foldN (fun x st => rT n k M (n - 1) (0 + 1) (kCs M (fun _ => 0) 0 + pC M (va_up (fun _ => 0) 0 x) 0) (va_up (fun _ => 0) 0 x) st) k (2147483647, fun _ => 0) = rT n k M (n - 1 + 1) 0 0 (fun _ => 0) (2147483647, fun _ => 0) := by
    show _ = if 0 < 2147483647 then _ else _
    rw [if_pos (by decide)]; rfl
  rw [hr, show n - 1 + 1 = n by omega] at hR
  have hkt := rT_kT hk1 hfd (fun _ => 0)
  obtain ⟨hR1, hR2⟩ := hR
  rw [hkt.1] at hR2
  rcases hR2 with ⟨q, _⟩ | ⟨_, rfl, hR3⟩
  · rw [q] at hfd; exact absurd hfd (Nat.lt_irrefl _)
  refine x_iload_n S dX6_findParts_39 3 rfl rfl ?_
  refine x_if_lt (tgt := 224) S dX6_findParts_40 (by decide) (fun h5 => ?_) (fun h5 => ?_)
  · refine x_aload_n S dX6_findParts_224 0 rfl rfl ?_
    refine x_get S 0 13 rfl rfl inC6 (by decide) (gC _ tw478) rfl rfl dX6_findParts_225 ?_
    refine x_iload_n S dX6_findParts_228 1 rfl rfl ?_
    refine x_iload_n S dX6_findParts_229 2 rfl rfl ?_
    refine x_iastN (ws' := (mw bd cI cZ n am al on ot we th u.1 u.2.1 u.2.2.1 false u.2.2.2.1 u.2.2.2.2.1 (va_up pc k (kPR n k M).1) (va_up ap k false) p u.2.2.2.2.2 gr t c ++ X)) S 10 0 (k) rfl rfl rfl (by omega) (by decide) rfl dX6_findParts_230 rfl ?_
    exact hret (on, ot, we, th, u.1, u.2.1, u.2.2.1, false, u.2.2.2.1, u.2.2.2.2.1, va_up pc k (kPR n k M).1, va_up ap k false, p, u.2.2.2.2.2, gr, t, c) _ _ ⟨⟨hA, hL, hal, fun _ => hu, hPf p hR1 hR3⟩, va_up_self _ _ _⟩ dX6_findParts_231
  exact absurd (by decide) h5
set_option maxHeartbeats 4000000 in
set_option maxRecDepth 100000 in
theorem q_parts (k : Int32) (h : MS) (hI : mInv n am al fr to wt h) : xMetS l yX6_parts wX6_parts (rD 16) D vwCl (tyC cI cII cP cZ) nwC [.ref (bd 0), .int k] (mwH bd cI cZ n am al h ++ X) (fun h' : MS => mInv n am al fr to wt h') (fun h' => mwH bd cI cZ n am al h' ++ X) (fun _ => some (.int (sParts n am fr to wt k))) := by
  obtain ⟨on, ot, we, th, be, ne, cu, nw, pa, br, pc, ap, pn, ls, gr, tl, co⟩ := h
  obtain ⟨hA, hL, hal, hV, hPt⟩ := hI
  have hn := hA.1
  refine xMetS_of (cc := cX6_parts) (maxL := 3) (ret := (some .int)) (by decide +kernel) rfl (Nat.le_of_ble_eq_true rfl) (fun _ _ => xfi) ?_
  intro E S hnm hret
  show xW E D vwCl 3 0 0 (mw bd cI cZ n am al on ot we th be ne cu nw pa br pc ap pn ls gr tl co ++ X) [(0, .ref (bd 0)), (1, .int k)] 0 []
  refine x_aload_n S dX6_parts_0 0 rfl rfl ?_
  refine x_iload_n S dX6_parts_1 1 rfl rfl ?_
  refine x_cVi (n := 1) S (m_partFault k hn) (gGV gC tw641 tw638 tw640 ts26 tw7) rfl (by decide +kernel) 0 rfl rfl rfl rfl (Nat.le_of_ble_eq_true rfl) dX6_parts_2 ⟨by decide, by decide⟩ ⟨Nat.le_of_ble_eq_true rfl, Nat.le_of_ble_eq_true rfl⟩ ?_
  refine x_istore_n (lv' := [(2, .int _), (0, .ref _), (1, .int _)]) S dX6_parts_5 rfl (by decide) rfl ?_
  refine x_iload_n S dX6_parts_6 0 rfl rfl ?_
  refine x_if_ge (tgt := 12) S dX6_parts_7 (by decide) (fun h1 => ?_) (fun h1 => ?_)
  rotate_left
  · refine x_iload_n S dX6_parts_10 0 rfl rfl ?_
    exact x_retS hret ((on, ot, we, th, be, ne, cu, nw, pa, br, pc, ap, pn, ls, gr, tl, co)) (⟨hA, hL, hal, hV, hPt⟩) ((by unfold sParts; rw [if_pos (Int32.not_le.mp h1)])) dX6_parts_11
  obtain ⟨j, hj, e, hn10, hkn, f⟩ := pRef_ok hn (Int32.not_lt.mpr h1)
  subst e
  refine x_aload_n S dX6_parts_12 1 rfl rfl ?_
  refine x_iload_n S dX6_parts_13 2 rfl rfl ?_
  refine x_cVvS (n := 1) S (m_findParts (by omega) (by omega) hn10 hkn (on, ot, we, th, be, ne, cu, nw, pa, br, pc, ap, pn, ls, gr, tl, co) ⟨hA, hL, hal, hV, hPt⟩) (gGV gC tw645 tw642 tw644 ts27 tw7) rfl (by decide +kernel) 0 rfl rfl rfl rfl (Nat.le_of_ble_eq_true rfl) dX6_parts_14 ⟨by decide, by decide⟩ ⟨Nat.le_of_ble_eq_true rfl, Nat.le_of_ble_eq_true rfl⟩ (fun h' hI' => ?_)
  obtain ⟨on, ot, we, th, be, ne, cu, nw, pa, br, pc, ap, pn, ls, gr, tl, co⟩ := h'
  obtain ⟨⟨hA, hL, hal, hV, hPt⟩, hap⟩ := hI'
  show xW E D vwCl 3 0 0 (mw bd cI cZ n am al on ot we th be ne cu nw pa br pc ap pn ls gr tl co ++ X) _ _ _
  refine x_aload_n S dX6_parts_17 1 rfl rfl ?_
  refine x_get S 0 13 rfl rfl inC6 (by decide) (gC _ tw478) rfl rfl dX6_parts_18 ?_
  refine x_iload_n S dX6_parts_21 2 rfl rfl ?_
  refine x_ialdN S 10 0 (j + 1) rfl rfl rfl (by omega) (by decide) dX6_parts_22 ?_
  exact x_retS hret ((on, ot, we, th, be, ne, cu, nw, pa, br, pc, ap, pn, ls, gr, tl, co)) (⟨hA, hL, hal, hV, hPt⟩) ((by unfold sParts; rw [if_neg (Int32.not_lt.mpr h1), f]; exact congrArg nI (hPt (j + 1) (by omega) (by omega) hap hn10 hkn).1)) dX6_parts_23
set_option maxHeartbeats 4000000 in
set_option maxRecDepth 100000 in
theorem q_partOf (k v : Int32) (h : MS) (hI : mInv n am al fr to wt h) : xMetS l yX6_partOf wX6_partOf (rD 16) D vwCl (tyC cI cII cP cZ) nwC [.ref (bd 0), .int k, .int v] (mwH bd cI cZ n am al h ++ X) (fun h' : MS => mInv n am al fr to wt h') (fun h' => mwH bd cI cZ n am al h' ++ X) (fun _ => some (.int (sPartOf n am fr to wt k v))) := by
  obtain ⟨on, ot, we, th, be, ne, cu, nw, pa, br, pc, ap, pn, ls, gr, tl, co⟩ := h
  obtain ⟨hA, hL, hal, hV, hPt⟩ := hI
  have hn := hA.1
  refine xMetS_of (cc := cX6_partOf) (maxL := 4) (ret := (some .int)) (by decide +kernel) rfl (Nat.le_of_ble_eq_true rfl) (fun _ _ => xfi) ?_
  intro E S hnm hret
  show xW E D vwCl 4 0 0 (mw bd cI cZ n am al on ot we th be ne cu nw pa br pc ap pn ls gr tl co ++ X) [(0, .ref (bd 0)), (1, .int k), (2, .int v)] 0 []
  refine x_iload_n S dX6_partOf_0 2 rfl rfl ?_
  refine x_if_lt (tgt := 12) S dX6_partOf_1 (by decide) (fun h1 => ?_) (fun h1 => ?_)
  · refine x_iconst (v := -1) S dX6_partOf_12 rfl ?_
    exact x_retS hret ((on, ot, we, th, be, ne, cu, nw, pa, br, pc, ap, pn, ls, gr, tl, co)) (⟨hA, hL, hal, hV, hPt⟩) ((if_neg (fun q => Int32.not_lt.mpr q.1 h1)).symm) dX6_partOf_13
  refine x_iload_n S dX6_partOf_4 2 rfl rfl ?_
  refine x_aload_n S dX6_partOf_5 0 rfl rfl ?_
  refine x_get S 0 0 rfl rfl inC6 (by decide) (gC _ tw465) rfl rfl dX6_partOf_6 ?_
  refine x_icmp_lt (tgt := 14) S dX6_partOf_9 (by decide) (fun h2 => ?_) (fun h2 => ?_)
  rotate_left
  · refine x_iconst (v := -1) S dX6_partOf_12 rfl ?_
    exact x_retS hret ((on, ot, we, th, be, ne, cu, nw, pa, br, pc, ap, pn, ls, gr, tl, co)) (⟨hA, hL, hal, hV, hPt⟩) ((if_neg (fun q => h2 q.2)).symm) dX6_partOf_13
  have h3 : isN n v := ⟨Int32.not_lt.mp h1, h2⟩
  obtain ⟨w, hw, ew, fw⟩ := isN_of hn h3
  refine x_aload_n S dX6_partOf_14 0 rfl rfl ?_
  refine x_iload_n S dX6_partOf_15 1 rfl rfl ?_
  refine x_cVi (n := 1) S (m_partFault k hn) (gGV gC tw641 tw638 tw640 ts26 tw7) rfl (by decide +kernel) 0 rfl rfl rfl rfl (Nat.le_of_ble_eq_true rfl) dX6_partOf_16 ⟨by decide, by decide⟩ ⟨Nat.le_of_ble_eq_true rfl, Nat.le_of_ble_eq_true rfl⟩ ?_
  refine x_istore_n (lv' := [(3, .int _), (0, .ref _), (1, .int _), (2, .int _)]) S dX6_partOf_19 rfl (by decide) rfl ?_
  refine x_iload_n S dX6_partOf_20 0 rfl rfl ?_
  refine x_if_ge (tgt := 26) S dX6_partOf_21 (by decide) (fun h4 => ?_) (fun h4 => ?_)
  rotate_left
  · refine x_iload_n S dX6_partOf_24 0 rfl rfl ?_
    exact x_retS hret ((on, ot, we, th, be, ne, cu, nw, pa, br, pc, ap, pn, ls, gr, tl, co)) (⟨hA, hL, hal, hV, hPt⟩) ((by unfold sPartOf; rw [if_pos h3, if_pos (Int32.not_le.mp h4)])) dX6_partOf_25
  obtain ⟨j, hj, e, hn10, hkn, f⟩ := pRef_ok hn (Int32.not_lt.mpr h4)
  subst e
  refine x_aload_n S dX6_partOf_26 1 rfl rfl ?_
  refine x_iload_n S dX6_partOf_27 2 rfl rfl ?_
  refine x_cVvS (n := 1) S (m_findParts (by omega) (by omega) hn10 hkn (on, ot, we, th, be, ne, cu, nw, pa, br, pc, ap, pn, ls, gr, tl, co) ⟨hA, hL, hal, hV, hPt⟩) (gGV gC tw645 tw642 tw644 ts27 tw7) rfl (by decide +kernel) 0 rfl rfl rfl rfl (Nat.le_of_ble_eq_true rfl) dX6_partOf_28 ⟨by decide, by decide⟩ ⟨Nat.le_of_ble_eq_true rfl, Nat.le_of_ble_eq_true rfl⟩ (fun h' hI' => ?_)
  obtain ⟨on, ot, we, th, be, ne, cu, nw, pa, br, pc, ap, pn, ls, gr, tl, co⟩ := h'
  obtain ⟨⟨hA, hL, hal, hV, hPt⟩, hap⟩ := hI'
  show xW E D vwCl 4 0 0 (mw bd cI cZ n am al on ot we th be ne cu nw pa br pc ap pn ls gr tl co ++ X) _ _ _
  refine x_aload_n S dX6_partOf_31 1 rfl rfl ?_
  refine x_get S 0 15 rfl rfl inC6 (by decide) (gC _ tw480) rfl rfl dX6_partOf_32 ?_
  refine x_bipush (v := 12) S dX6_partOf_35 (by decide) ?_
  refine x_iload_n S dX6_partOf_37 2 rfl rfl ?_
  refine x_imul S dX6_partOf_38 ?_
  refine x_iload_n S dX6_partOf_39 3 rfl rfl ?_
  refine x_iadd S dX6_partOf_40 ?_
  refine x_top (nI (12 * (j + 1) + w)) (by rw [ew]; show nI 12 * nI (j + 1) + nI w = _; rw [pk_mul, nI_add]) ?_
  refine x_ialdN S 12 0 (12 * (j + 1) + w) rfl rfl rfl (by omega) (by decide) dX6_partOf_41 ?_
  exact x_retS hret ((on, ot, we, th, be, ne, cu, nw, pa, br, pc, ap, pn, ls, gr, tl, co)) (⟨hA, hL, hal, hV, hPt⟩) ((by unfold sPartOf; rw [if_pos h3, if_neg (Int32.not_lt.mpr h4), f, fw]; exact congrArg nI ((hPt (j + 1) (by omega) (by omega) hap hn10 hkn).2 w hw))) dX6_partOf_42
end M9
