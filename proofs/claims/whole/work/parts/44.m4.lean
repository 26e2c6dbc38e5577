/-! the reference: contracts, 4 -/
section M4
theorem ev_if {n : Nat} {k x : Int32} (h : 0 ≤ k) : (if 1 < n then x else -1) = if 1 < n ∧ 0 ≤ k then x else -1 := by
  by_cases q : 1 < n
  · rw [if_pos q, if_pos ⟨q, h⟩]
  · rw [if_neg q, if_neg (fun w => q w.1)]
variable {l : Launch} {D : va_G} {bd : Nat → Nat} {cI cII cP cZ : ClassId} {n am al : Nat} {on ot we : Nat → Nat} {th : Nat → Bool} {be ne cu : Nat → Nat} {nw : Bool} {pa br pc : Nat → Nat} {ap : Nat → Bool} {pn : Nat → Nat} {ls : Int32} {gr : Nat → Nat} {tl : Nat → Int32} {co : Nat → Nat} {fr to wt : Nat → Nat} {X : va_W}
set_option maxHeartbeats 4000000 in
set_option maxRecDepth 100000 in
theorem m_leastOneC (hA : aOK n am fr to wt) (hL : aRel am on ot we th fr to wt) (hV : nw = false → bOK am fr to wt be ne ∧ vOK n am fr to wt cu ∧ trOK n am fr to wt pa br) : xMetS l yX6_leastOne wX6_leastOne (rD 5) D vwCl (tyC cI cII cP cZ) nwC [.ref (bd 0), .int (-1)] (mw bd cI cZ n am al on ot we th be ne cu nw pa br pc ap pn ls gr tl co ++ X) (fun u : (Nat → Nat) × (Nat → Nat) × (Nat → Nat) × (Nat → Nat) × (Nat → Nat) × Int32 => bOK am fr to wt u.1 u.2.1 ∧ vOK n am fr to wt u.2.2.1 ∧ trOK n am fr to wt u.2.2.2.1 u.2.2.2.2.1) (fun u => (mw bd cI cZ n am al on ot we th u.1 u.2.1 u.2.2.1 false u.2.2.2.1 u.2.2.2.2.1 pc ap pn u.2.2.2.2.2 gr tl co ++ X)) (fun _ => some (.int (sCounted n am fr to wt))) := by
  refine xMetS_of (cc := cX6_leastOne) (maxL := 5) (ret := (some .int)) (by decide +kernel) rfl (Nat.le_of_ble_eq_true rfl) (fun _ _ => xfi) ?_
  intro E S hnm hret
  show xW E D vwCl 5 0 0 _ [(0, .ref (bd 0)), (1, .int (-1))] 0 []
  have hn := hA.1
  have hpn := pl_pow12 hn
  have hp0 := Nat.two_pow_pos n
  have hbd : ∀ T, kC fr to wt am T < 2 ^ 31 := fun T => by have := hA.cf T; omega
  obtain ⟨m, hm⟩ : ∃ m, m = kC fr to wt am (kE (kC fr to wt am) n) := ⟨_, rfl⟩
  have hmb : m < 2 ^ 31 := by rw [hm]; exact hbd _
  refine x_aload_n S dX6_leastOne_0 0 rfl rfl ?_
  refine x_cViS (n := 0) S (m_leastCut hA hL hV) (gGV gC tw607 tw604 tw606 ts22 tw7) rfl (by decide +kernel) 0 rfl rfl rfl rfl (Nat.le_of_ble_eq_true rfl) dX6_leastOne_1 ⟨by decide, by decide⟩ ⟨Nat.le_of_ble_eq_true rfl, Nat.le_of_ble_eq_true rfl⟩ (fun u hu => ?_)
  rw [← hm]
  refine x_istore_n (lv' := [(2, .int _), (0, .ref _), (1, .int _)]) S dX6_leastOne_4 rfl (by decide) rfl ?_
  refine x_iconst (v := 0) S dX6_leastOne_5 rfl ?_
  refine x_istore_n (lv' := [(3, .int _), (2, .int _), (0, .ref _), (1, .int _)]) S dX6_leastOne_6 rfl (by decide) rfl ?_
  refine x_iconst (v := 2) S dX6_leastOne_7 rfl ?_
  refine x_istore (lv' := [(4, .int _), (3, .int _), (2, .int _), (0, .ref _), (1, .int _)]) S dX6_leastOne_8 (by decide) rfl ?_
  by_cases h2n : 1 < n
  · rw [if_pos h2n]
    have hps := p2_s (show 1 ≤ n by omega)
    have L : ∀ k, k ≤ 2 ^ (n - 1) - 1 → xW E D vwCl 5 0 0 (mw bd cI cZ n am al on ot we th u.1 u.2.1 u.2.2.1 false u.2.2.2.1 u.2.2.2.2.1 pc ap pn u.2.2.2.2.2 gr tl co ++ X) [(0, .ref (bd 0)), (1, .int (-1)), (2, .int (nI m)), (3, .int (nI (kCnt (kC fr to wt am) m k))), (4, .int (nI (2 * (k + 1))))] 10 [] := by
      refine pl_up (2 ^ (n - 1) - 1) (fun k hk ih => ?_)
      skip
      refine x_iload S dX6_leastOne_10 4 rfl ?_
      refine x_aload_n S dX6_leastOne_12 0 rfl rfl ?_
      refine x_cVi (n := 0) S (m_all hn) (gGV gC tw558 tw555 tw557 ts16 tw7) rfl (by decide +kernel) 0 rfl rfl rfl rfl (Nat.le_of_ble_eq_true rfl) dX6_leastOne_13 ⟨by decide, by decide⟩ ⟨Nat.le_of_ble_eq_true rfl, Nat.le_of_ble_eq_true rfl⟩ ?_
      refine x_icmp_gt (tgt := 55) S dX6_leastOne_16 (by decide) (fun h3 => ?_) (fun h3 => ?_)
      · have hk2 : k = 2 ^ (n - 1) - 1 := by have := (nI_ltI (by omega) (by omega)).mp h3; omega
        refine x_iload_n S dX6_leastOne_55 1 rfl rfl ?_
        refine x_if_ge (tgt := 63) S dX6_leastOne_56 (by decide) (fun h5 => ?_) (fun h5 => ?_)
        rotate_left
        · refine x_iload_n S dX6_leastOne_59 3 rfl rfl ?_
          refine x_goto (tgt := 64) S dX6_leastOne_60 (by decide) ?_
          exact x_retS hret u hu (by unfold sCounted; rw [if_pos h2n, ← hm, hk2]) dX6_leastOne_64
        exact absurd h5 (by decide)
      have hk2 : k < 2 ^ (n - 1) - 1 := by have := Nat.le_of_not_lt (fun q => h3 (nI_lt q (by omega))); omega
      have hcs := hu.2.1 (2 * (k + 1)) (by omega)
      have hct := kCnt_le (kC fr to wt am) m k
      have ih := ih hk2
      rw [kCnt_s] at ih
      refine x_aload_n S dX6_leastOne_19 0 rfl rfl ?_
      refine x_get S 0 0 rfl rfl inC6 (by decide) (gC _ tw465) rfl rfl dX6_leastOne_20 ?_
      refine x_iconst (v := 1) S dX6_leastOne_23 rfl ?_
      refine x_icmp_le (tgt := 55) S dX6_leastOne_24 (by decide) (fun h6 => ?_) (fun h6 => ?_)
      · exact absurd h6 (nI_ge (a := 1) h2n (by omega))
      refine x_aload_n S dX6_leastOne_27 0 rfl rfl ?_
      refine x_get S 0 9 rfl rfl inC6 (by decide) (gC _ tw474) rfl rfl dX6_leastOne_28 ?_
      refine x_iload S dX6_leastOne_31 4 rfl ?_
      refine x_ialdN S 7 0 (2 * (k + 1)) rfl rfl rfl (by omega) (by decide) dX6_leastOne_33 ?_
      rw [hcs]
      refine x_iload_n S dX6_leastOne_34 2 rfl rfl ?_
      refine x_icmp_ne (tgt := 49) S dX6_leastOne_35 (by decide) (fun h4 => ?_) (fun h4 => ?_)
      rotate_left
      · have h4 := pl_inj (hbd _) hmb h4
        rw [if_pos h4] at ih
        refine x_iload_n S dX6_leastOne_38 3 rfl rfl ?_
        refine x_iload_n S dX6_leastOne_39 1 rfl rfl ?_
        refine x_icmp_ne (tgt := 46) S dX6_leastOne_40 (by decide) (fun h5 => ?_) (fun h5 => ?_)
        rotate_left
        · exact absurd h5 (fun q => by have h8 : (nI (kCnt (kC fr to wt am) m k)).toInt = (-1 : Int32).toInt := (by rw [q]); rw [nI_toInt (by omega), show (-1 : Int32).toInt = -1 from by decide] at h8; omega)
        refine x_iincN (lv' := [(3, .int _), (0, .ref _), (1, .int _), (2, .int _), (4, .int _)]) S dX6_leastOne_46 3 rfl (by decide) rfl ?_
        refine x_iinc2N (lv' := [(4, .int _), (3, .int _), (0, .ref _), (1, .int _), (2, .int _)]) (j' := 2 * (k + 1 + 1)) S dX6_leastOne_49 4 rfl (by omega) (by decide) rfl ?_
        refine x_goto (tgt := 10) S dX6_leastOne_52 (by decide) ?_
        exact x_sub [2, 3, 4, 1, 0] rfl (ih)
      rw [if_neg (fun q => h4 (by rw [q]))] at ih
      refine x_iinc2N (lv' := [(4, .int _), (0, .ref _), (1, .int _), (2, .int _), (3, .int _)]) (j' := 2 * (k + 1 + 1)) S dX6_leastOne_49 4 rfl (by omega) (by decide) rfl ?_
      refine x_goto (tgt := 10) S dX6_leastOne_52 (by decide) ?_
      exact x_sub [1, 2, 3, 4, 0] rfl (ih)
    exact x_sub [3, 4, 2, 1, 0] rfl (L 0 (Nat.zero_le _))
  · rw [if_neg h2n]
    have hsm : 2 ^ n ≤ 2 := by have := Nat.pow_le_pow_right (n := 2) (by omega) (show n ≤ 1 by omega); omega
    refine x_iload S dX6_leastOne_10 0 rfl ?_
    refine x_aload_n S dX6_leastOne_12 3 rfl rfl ?_
    refine x_cVi (n := 0) S (m_all hn) (gGV gC tw558 tw555 tw557 ts16 tw7) rfl (by decide +kernel) 0 rfl rfl rfl rfl (Nat.le_of_ble_eq_true rfl) dX6_leastOne_13 ⟨by decide, by decide⟩ ⟨Nat.le_of_ble_eq_true rfl, Nat.le_of_ble_eq_true rfl⟩ ?_
    refine x_icmp_gt (tgt := 55) S dX6_leastOne_16 (by decide) (fun h3 => ?_) (fun h3 => ?_)
    · refine x_iload_n S dX6_leastOne_55 4 rfl rfl ?_
      refine x_if_ge (tgt := 63) S dX6_leastOne_56 (by decide) (fun h5 => ?_) (fun h5 => ?_)
      rotate_left
      · refine x_iload_n S dX6_leastOne_59 1 rfl rfl ?_
        refine x_goto (tgt := 64) S dX6_leastOne_60 (by decide) ?_
        exact x_retS hret u hu (by unfold sCounted; rw [if_neg h2n]) dX6_leastOne_64
      exact absurd h5 (by decide)
    exact absurd (nI_lt (b := 2) (by omega) (by omega)) h3
set_option maxHeartbeats 4000000 in
set_option maxRecDepth 100000 in
theorem m_leastOneE {κ : Nat} (hκ : κ < 2 ^ 31) (hA : aOK n am fr to wt) (hL : aRel am on ot we th fr to wt) (hV : nw = false → bOK am fr to wt be ne ∧ vOK n am fr to wt cu ∧ trOK n am fr to wt pa br) : xMetS l yX6_leastOne wX6_leastOne (rD 5) D vwCl (tyC cI cII cP cZ) nwC [.ref (bd 0), .int (nI κ)] (mw bd cI cZ n am al on ot we th be ne cu nw pa br pc ap pn ls gr tl co ++ X) (fun u : (Nat → Nat) × (Nat → Nat) × (Nat → Nat) × (Nat → Nat) × (Nat → Nat) × Int32 => bOK am fr to wt u.1 u.2.1 ∧ vOK n am fr to wt u.2.2.1 ∧ trOK n am fr to wt u.2.2.2.1 u.2.2.2.2.1) (fun u => (mw bd cI cZ n am al on ot we th u.1 u.2.1 u.2.2.1 false u.2.2.2.1 u.2.2.2.2.1 pc ap pn u.2.2.2.2.2 gr tl co ++ X)) (fun _ => some (.int (if 1 < n then kLO (kC fr to wt am) (kC fr to wt am (kE (kC fr to wt am) n)) κ (2 ^ (n - 1) - 1) 0 else -1))) := by
  refine xMetS_of (cc := cX6_leastOne) (maxL := 5) (ret := (some .int)) (by decide +kernel) rfl (Nat.le_of_ble_eq_true rfl) (fun _ _ => xfi) ?_
  intro E S hnm hret
  show xW E D vwCl 5 0 0 _ [(0, .ref (bd 0)), (1, .int (nI κ))] 0 []
  have hn := hA.1
  have hpn := pl_pow12 hn
  have hp0 := Nat.two_pow_pos n
  have hbd : ∀ T, kC fr to wt am T < 2 ^ 31 := fun T => by have := hA.cf T; omega
  obtain ⟨m, hm⟩ : ∃ m, m = kC fr to wt am (kE (kC fr to wt am) n) := ⟨_, rfl⟩
  have hmb : m < 2 ^ 31 := by rw [hm]; exact hbd _
  refine x_aload_n S dX6_leastOne_0 0 rfl rfl ?_
  refine x_cViS (n := 0) S (m_leastCut hA hL hV) (gGV gC tw607 tw604 tw606 ts22 tw7) rfl (by decide +kernel) 0 rfl rfl rfl rfl (Nat.le_of_ble_eq_true rfl) dX6_leastOne_1 ⟨by decide, by decide⟩ ⟨Nat.le_of_ble_eq_true rfl, Nat.le_of_ble_eq_true rfl⟩ (fun u hu => ?_)
  rw [← hm]
  refine x_istore_n (lv' := [(2, .int _), (0, .ref _), (1, .int _)]) S dX6_leastOne_4 rfl (by decide) rfl ?_
  refine x_iconst (v := 0) S dX6_leastOne_5 rfl ?_
  refine x_istore_n (lv' := [(3, .int _), (2, .int _), (0, .ref _), (1, .int _)]) S dX6_leastOne_6 rfl (by decide) rfl ?_
  refine x_iconst (v := 2) S dX6_leastOne_7 rfl ?_
  refine x_istore (lv' := [(4, .int _), (3, .int _), (2, .int _), (0, .ref _), (1, .int _)]) S dX6_leastOne_8 (by decide) rfl ?_
  by_cases h2n : 1 < n
  · rw [if_pos h2n]
    have hps := p2_s (show 1 ≤ n by omega)
    have L : ∀ k, k ≤ 2 ^ (n - 1) - 1 → kLO (kC fr to wt am) m κ (2 ^ (n - 1) - 1) 0 = kLO (kC fr to wt am) m κ (2 ^ (n - 1) - 1 - k) k → xW E D vwCl 5 0 0 (mw bd cI cZ n am al on ot we th u.1 u.2.1 u.2.2.1 false u.2.2.2.1 u.2.2.2.2.1 pc ap pn u.2.2.2.2.2 gr tl co ++ X) [(0, .ref (bd 0)), (1, .int (nI κ)), (2, .int (nI m)), (3, .int (nI (kCnt (kC fr to wt am) m k))), (4, .int (nI (2 * (k + 1))))] 10 [] := by
      refine pl_up (2 ^ (n - 1) - 1) (fun k hk ih => ?_)
      intro hv
      refine x_iload S dX6_leastOne_10 4 rfl ?_
      refine x_aload_n S dX6_leastOne_12 0 rfl rfl ?_
      refine x_cVi (n := 0) S (m_all hn) (gGV gC tw558 tw555 tw557 ts16 tw7) rfl (by decide +kernel) 0 rfl rfl rfl rfl (Nat.le_of_ble_eq_true rfl) dX6_leastOne_13 ⟨by decide, by decide⟩ ⟨Nat.le_of_ble_eq_true rfl, Nat.le_of_ble_eq_true rfl⟩ ?_
      refine x_icmp_gt (tgt := 55) S dX6_leastOne_16 (by decide) (fun h3 => ?_) (fun h3 => ?_)
      · have hk2 : k = 2 ^ (n - 1) - 1 := by have := (nI_ltI (by omega) (by omega)).mp h3; omega
        refine x_iload_n S dX6_leastOne_55 1 rfl rfl ?_
        refine x_if_ge (tgt := 63) S dX6_leastOne_56 (by decide) (fun h5 => ?_) (fun h5 => ?_)
        · refine x_iconst (v := -1) S dX6_leastOne_63 rfl ?_
          exact x_retS hret u hu (by rw [if_pos h2n, ← hm, hv, hk2, Nat.sub_self]; rfl) dX6_leastOne_64
        exact absurd (nI_pos' hκ) h5
      have hk2 : k < 2 ^ (n - 1) - 1 := by have := Nat.le_of_not_lt (fun q => h3 (nI_lt q (by omega))); omega
      have hcs := hu.2.1 (2 * (k + 1)) (by omega)
      have hct := kCnt_le (kC fr to wt am) m k
      have ih := ih hk2
      rw [kCnt_s] at ih
      refine x_aload_n S dX6_leastOne_19 0 rfl rfl ?_
      refine x_get S 0 0 rfl rfl inC6 (by decide) (gC _ tw465) rfl rfl dX6_leastOne_20 ?_
      refine x_iconst (v := 1) S dX6_leastOne_23 rfl ?_
      refine x_icmp_le (tgt := 55) S dX6_leastOne_24 (by decide) (fun h6 => ?_) (fun h6 => ?_)
      · exact absurd h6 (nI_ge (a := 1) h2n (by omega))
      refine x_aload_n S dX6_leastOne_27 0 rfl rfl ?_
      refine x_get S 0 9 rfl rfl inC6 (by decide) (gC _ tw474) rfl rfl dX6_leastOne_28 ?_
      refine x_iload S dX6_leastOne_31 4 rfl ?_
      refine x_ialdN S 7 0 (2 * (k + 1)) rfl rfl rfl (by omega) (by decide) dX6_leastOne_33 ?_
      rw [hcs]
      refine x_iload_n S dX6_leastOne_34 2 rfl rfl ?_
      rw [show 2 ^ (n - 1) - 1 - k = (2 ^ (n - 1) - 1 - (k + 1)) + 1 by omega] at hv
      simp only [kLO] at hv
      refine x_icmp_ne (tgt := 49) S dX6_leastOne_35 (by decide) (fun h4 => ?_) (fun h4 => ?_)
      rotate_left
      · have h4 := pl_inj (hbd _) hmb h4
        rw [if_pos h4] at ih hv
        refine x_iload_n S dX6_leastOne_38 3 rfl rfl ?_
        refine x_iload_n S dX6_leastOne_39 1 rfl rfl ?_
        refine x_icmp_ne (tgt := 46) S dX6_leastOne_40 (by decide) (fun h5 => ?_) (fun h5 => ?_)
        rotate_left
        · rw [if_pos (pl_inj (by omega) hκ h5)] at hv
          refine x_iload S dX6_leastOne_43 4 rfl ?_
          exact x_retS hret u hu (by rw [if_pos h2n, ← hm]; exact hv.symm) dX6_leastOne_45
        rw [if_neg (fun q => h5 (by rw [q]))] at hv
        refine x_iincN (lv' := [(3, .int _), (0, .ref _), (1, .int _), (2, .int _), (4, .int _)]) S dX6_leastOne_46 3 rfl (by decide) rfl ?_
        refine x_iinc2N (lv' := [(4, .int _), (3, .int _), (0, .ref _), (1, .int _), (2, .int _)]) (j' := 2 * (k + 1 + 1)) S dX6_leastOne_49 4 rfl (by omega) (by decide) rfl ?_
        refine x_goto (tgt := 10) S dX6_leastOne_52 (by decide) ?_
        exact x_sub [2, 3, 4, 1, 0] rfl (ih hv)
      rw [if_neg (fun q => h4 (by rw [q]))] at ih hv
      refine x_iinc2N (lv' := [(4, .int _), (0, .ref _), (1, .int _), (2, .int _), (3, .int _)]) (j' := 2 * (k + 1 + 1)) S dX6_leastOne_49 4 rfl (by omega) (by decide) rfl ?_
      refine x_goto (tgt := 10) S dX6_leastOne_52 (by decide) ?_
      exact x_sub [1, 2, 3, 4, 0] rfl (ih hv)
    exact x_sub [3, 4, 2, 1, 0] rfl (L 0 (Nat.zero_le _) rfl)
  · rw [if_neg h2n]
    have hsm : 2 ^ n ≤ 2 := by have := Nat.pow_le_pow_right (n := 2) (by omega) (show n ≤ 1 by omega); omega
    refine x_iload S dX6_leastOne_10 0 rfl ?_
    refine x_aload_n S dX6_leastOne_12 3 rfl rfl ?_
    refine x_cVi (n := 0) S (m_all hn) (gGV gC tw558 tw555 tw557 ts16 tw7) rfl (by decide +kernel) 0 rfl rfl rfl rfl (Nat.le_of_ble_eq_true rfl) dX6_leastOne_13 ⟨by decide, by decide⟩ ⟨Nat.le_of_ble_eq_true rfl, Nat.le_of_ble_eq_true rfl⟩ ?_
    refine x_icmp_gt (tgt := 55) S dX6_leastOne_16 (by decide) (fun h3 => ?_) (fun h3 => ?_)
    · refine x_iload_n S dX6_leastOne_55 4 rfl rfl ?_
      refine x_if_ge (tgt := 63) S dX6_leastOne_56 (by decide) (fun h5 => ?_) (fun h5 => ?_)
      · refine x_iconst (v := -1) S dX6_leastOne_63 rfl ?_
        exact x_retS hret u hu (by rw [if_neg h2n]) dX6_leastOne_64
      exact absurd (nI_pos' hκ) h5
    exact absurd (nI_lt (b := 2) (by omega) (by omega)) h3
set_option maxHeartbeats 4000000 in
set_option maxRecDepth 100000 in
theorem q_counted  (h : MS) (hI : mInv n am al fr to wt h) : xMetS l yX6_counted wX6_counted (rD 16) D vwCl (tyC cI cII cP cZ) nwC [.ref (bd 0)] (mwH bd cI cZ n am al h ++ X) (fun h' : MS => mInv n am al fr to wt h') (fun h' => mwH bd cI cZ n am al h' ++ X) (fun _ => some (.int (sCounted n am fr to wt))) := by
  obtain ⟨on, ot, we, th, be, ne, cu, nw, pa, br, pc, ap, pn, ls, gr, tl, co⟩ := h
  obtain ⟨hA, hL, hal, hV, hPt⟩ := hI
  have hn := hA.1
  refine xMetS_of (cc := cX6_counted) (maxL := 1) (ret := (some .int)) (by decide +kernel) rfl (Nat.le_of_ble_eq_true rfl) (fun _ _ => xfi) ?_
  intro E S hnm hret
  show xW E D vwCl 1 0 0 (mw bd cI cZ n am al on ot we th be ne cu nw pa br pc ap pn ls gr tl co ++ X) [(0, .ref (bd 0))] 0 []
  refine x_aload_n S dX6_counted_0 0 rfl rfl ?_
  refine x_iconst (v := -1) S dX6_counted_1 rfl ?_
  refine x_cViS (n := 1) S (m_leastOneC hA hL hV) (gGV gC tw615 tw612 tw614 ts23 tw7) rfl (by decide +kernel) 0 rfl rfl rfl rfl (Nat.le_of_ble_eq_true rfl) dX6_counted_2 ⟨by decide, by decide⟩ ⟨Nat.le_of_ble_eq_true rfl, Nat.le_of_ble_eq_true rfl⟩ (fun u hu => ?_)
  exact x_retS hret ((on, ot, we, th, u.1, u.2.1, u.2.2.1, false, u.2.2.2.1, u.2.2.2.2.1, pc, ap, pn, u.2.2.2.2.2, gr, tl, co)) (⟨hA, hL, hal, fun _ => hu, hPt⟩) (rfl) dX6_counted_5
set_option maxHeartbeats 4000000 in
set_option maxRecDepth 100000 in
theorem q_every (k : Int32) (h : MS) (hI : mInv n am al fr to wt h) : xMetS l yX6_every wX6_every (rD 16) D vwCl (tyC cI cII cP cZ) nwC [.ref (bd 0), .int k] (mwH bd cI cZ n am al h ++ X) (fun h' : MS => mInv n am al fr to wt h') (fun h' => mwH bd cI cZ n am al h' ++ X) (fun _ => some (.int (sEvery n am fr to wt k))) := by
  obtain ⟨on, ot, we, th, be, ne, cu, nw, pa, br, pc, ap, pn, ls, gr, tl, co⟩ := h
  obtain ⟨hA, hL, hal, hV, hPt⟩ := hI
  have hn := hA.1
  refine xMetS_of (cc := cX6_every) (maxL := 2) (ret := (some .int)) (by decide +kernel) rfl (Nat.le_of_ble_eq_true rfl) (fun _ _ => xfi) ?_
  intro E S hnm hret
  show xW E D vwCl 2 0 0 (mw bd cI cZ n am al on ot we th be ne cu nw pa br pc ap pn ls gr tl co ++ X) [(0, .ref (bd 0)), (1, .int k)] 0 []
  refine x_iload_n S dX6_every_0 1 rfl rfl ?_
  refine x_if_ge (tgt := 8) S dX6_every_1 (by decide) (fun h1 => ?_) (fun h1 => ?_)
  · obtain ⟨κ, hκ, rfl⟩ := pl_of h1
    refine x_aload_n S dX6_every_8 0 rfl rfl ?_
    refine x_iload_n S dX6_every_9 1 rfl rfl ?_
    refine x_cViS (n := 1) S (m_leastOneE hκ hA hL hV) (gGV gC tw615 tw612 tw614 ts23 tw7) rfl (by decide +kernel) 0 rfl rfl rfl rfl (Nat.le_of_ble_eq_true rfl) dX6_every_10 ⟨by decide, by decide⟩ ⟨Nat.le_of_ble_eq_true rfl, Nat.le_of_ble_eq_true rfl⟩ (fun u hu => ?_)
    exact x_retS hret ((on, ot, we, th, u.1, u.2.1, u.2.2.1, false, u.2.2.2.1, u.2.2.2.2.1, pc, ap, pn, u.2.2.2.2.2, gr, tl, co)) (⟨hA, hL, hal, fun _ => hu, hPt⟩) ((by unfold sEvery; rw [nI_clamp hκ]; exact ev_if h1)) dX6_every_13
  refine x_iconst (v := -1) S dX6_every_4 rfl ?_
  refine x_goto (tgt := 13) S dX6_every_5 (by decide) ?_
  exact x_retS hret ((on, ot, we, th, be, ne, cu, nw, pa, br, pc, ap, pn, ls, gr, tl, co)) (⟨hA, hL, hal, hV, hPt⟩) ((by unfold sEvery; rw [if_neg (fun w => h1 w.2)])) dX6_every_13
set_option maxHeartbeats 4000000 in
set_option maxRecDepth 100000 in
theorem m_count {ws : va_W} {tys : List (ClassId × FieldType)} {s : Nat} (hs : s < 4096) : xMet l yX6_count wX6_count (rD 0) D vwCl tys nwC [.int (nI s)] ws ws (some (.int (nI (kP s)))) := by
  refine xMet_of (cc := cX6_count) (maxL := 3) (ret := (some .int)) (by decide +kernel) rfl (Nat.le_of_ble_eq_true rfl) xfi ?_
  intro E S hnm hret
  show xW E D vwCl 3 0 0 _ [(0, .int (nI s))] 0 []
  have L : ∀ k, k ≤ 12 → xW E D vwCl 3 0 0 ws [(0, .int (nI s)), (1, .int (nI (sm (fun k => s / 2 ^ k % 2) k))), (2, .int (nI k))] 4 [] := by
    refine pl_up 12 (fun k hk ih => ?_)
    refine x_iload_n S dX6_count_4 2 rfl rfl ?_
    refine x_bipush (v := 12) S dX6_count_5 (by decide) ?_
    refine x_icmp_ge (tgt := 24) S dX6_count_7 (by decide) (fun h1 => ?_) (fun h1 => ?_)
    · have hk2 : k = 12 := Nat.le_antisymm hk ((nI_leI (a := 12) (by omega) (by omega)).mp h1)
      refine x_iload_n S dX6_count_24 1 rfl rfl ?_
      exact x_ret hret (by rw [hk2, ← pop_sm]) dX6_count_25
    have hk2 : k < 12 := Nat.lt_of_not_le (fun h => h1 (nI_le (a := 12) h (by omega)))
    refine x_iload_n S dX6_count_10 1 rfl rfl ?_
    refine x_iload_n S dX6_count_11 0 rfl rfl ?_
    refine x_iload_n S dX6_count_12 2 rfl rfl ?_
    refine x_ishr S dX6_count_13 ?_
    refine x_iconst (v := 1) S dX6_count_14 rfl ?_
    refine x_iand S dX6_count_15 ?_
    refine x_top (nI (s / 2 ^ k % 2)) (pl_bit (by omega) (by omega)) ?_
    refine x_iadd S dX6_count_16 ?_
    refine x_top (nI (sm (fun k => s / 2 ^ k % 2) (k + 1))) (nI_add _ _) ?_
    refine x_istore_n (lv' := [(1, .int _), (0, .int _), (2, .int _)]) S dX6_count_17 rfl (by decide) rfl ?_
    refine x_iincN (lv' := [(2, .int _), (1, .int _), (0, .int _)]) S dX6_count_18 2 rfl (by decide) rfl ?_
    refine x_goto (tgt := 4) S dX6_count_21 (by decide) ?_
    exact x_sub [2, 1, 0] rfl (ih hk2)
  refine x_iconst (v := 0) S dX6_count_0 rfl ?_
  refine x_istore_n (lv' := [(1, .int _), (0, .int _)]) S dX6_count_1 rfl (by decide) rfl ?_
  refine x_iconst (v := 0) S dX6_count_2 rfl ?_
  refine x_istore_n (lv' := [(2, .int _), (1, .int _), (0, .int _)]) S dX6_count_3 rfl (by decide) rfl ?_
  exact x_sub [2, 1, 0] rfl (L 0 (Nat.zero_le _))
set_option maxHeartbeats 4000000 in
set_option maxRecDepth 100000 in
theorem m_below {s : Nat} (hs : s < 4096) (hp : kP s ≤ n) : xMet l yX6_below wX6_below (rD 1) D vwCl (tyC cI cII cP cZ) nwC [.ref (bd 0), .int (nI s)] (mw bd cI cZ n am al on ot we th be ne cu nw pa br pc ap pn ls gr tl co ++ X) (mw bd cI cZ n am al on ot we th be ne cu nw pa br pc ap pn ls gr tl co ++ X) (some (.int (nI (kSpr n s)))) := by
  refine xMet_of (cc := cX6_below) (maxL := 2) (ret := (some .int)) (by decide +kernel) rfl (Nat.le_of_ble_eq_true rfl) xfi ?_
  intro E S hnm hret
  show xW E D vwCl 2 0 0 _ [(0, .ref (bd 0)), (1, .int (nI s))] 0 []
  refine x_iload_n S dX6_below_0 1 rfl rfl ?_
  refine x_cSi (n := 1) S (m_count hs) (gGS gC tw668 tw666 tw667 tw7) rfl (by decide +kernel) rfl rfl (Nat.le_of_ble_eq_true rfl) dX6_below_1 ⟨by decide, by decide⟩ ⟨Nat.le_of_ble_eq_true rfl, Nat.le_of_ble_eq_true rfl⟩ ?_
  refine x_aload_n S dX6_below_4 0 rfl rfl ?_
  refine x_get S 0 0 rfl rfl inC6 (by decide) (gC _ tw465) rfl rfl dX6_below_5 ?_
  refine x_iload_n S dX6_below_8 1 rfl rfl ?_
  refine x_cSi (n := 1) S (m_count hs) (gGS gC tw668 tw666 tw667 tw7) rfl (by decide +kernel) rfl rfl (Nat.le_of_ble_eq_true rfl) dX6_below_9 ⟨by decide, by decide⟩ ⟨Nat.le_of_ble_eq_true rfl, Nat.le_of_ble_eq_true rfl⟩ ?_
  refine x_isub S dX6_below_12 ?_
  refine x_imul S dX6_below_13 ?_
  exact x_ret hret (by rw [pk_sub hp, pk_mul]; rfl) dX6_below_14
set_option maxHeartbeats 4000000 in
set_option maxRecDepth 100000 in
theorem m_sparsestOf (h2 : 2 ≤ n) (hA : aOK n am fr to wt) (hL : aRel am on ot we th fr to wt) (hV : nw = false → bOK am fr to wt be ne ∧ vOK n am fr to wt cu ∧ trOK n am fr to wt pa br) : xMetS l yX6_sparsestOf wX6_sparsestOf (rD 4) D vwCl (tyC cI cII cP cZ) nwC [.ref (bd 0)] (mw bd cI cZ n am al on ot we th be ne cu nw pa br pc ap pn ls gr tl co ++ X) (fun u : (Nat → Nat) × (Nat → Nat) × (Nat → Nat) × (Nat → Nat) × (Nat → Nat) × Int32 => bOK am fr to wt u.1 u.2.1 ∧ vOK n am fr to wt u.2.2.1 ∧ trOK n am fr to wt u.2.2.2.1 u.2.2.2.2.1) (fun u => (mw bd cI cZ n am al on ot we th u.1 u.2.1 u.2.2.1 false u.2.2.2.1 u.2.2.2.2.1 pc ap pn u.2.2.2.2.2 gr tl co ++ X)) (fun _ => some (.int (nI (kSp (kC fr to wt am) (kSpr n) (2 ^ (n - 1) - 2))))) := by
  refine xMetS_of (cc := cX6_sparsestOf) (maxL := 3) (ret := (some .int)) (by decide +kernel) rfl (Nat.le_of_ble_eq_true rfl) (fun _ _ => xfi) ?_
  intro E S hnm hret
  show xW E D vwCl 3 0 0 _ [(0, .ref (bd 0))] 0 []
  have hn := hA.1
  have hpn := pl_pow12 hn
  have hps := p2_s (show 1 ≤ n by omega)
  have hp2 : 2 ≤ 2 ^ (n - 1) := by have := Nat.pow_le_pow_right (n := 2) (by omega) (show 1 ≤ n - 1 by omega); omega
  refine x_aload_n S dX6_sparsestOf_0 0 rfl rfl ?_
  refine x_cVvS (n := 0) S (m_make hA hL hV) (gGV gC tw562 tw559 tw561 ts17 tw7) rfl (by decide +kernel) 0 rfl rfl rfl rfl (Nat.le_of_ble_eq_true rfl) dX6_sparsestOf_1 ⟨by decide, by decide⟩ ⟨Nat.le_of_ble_eq_true rfl, Nat.le_of_ble_eq_true rfl⟩ (fun u hu => ?_)
  have L : ∀ k, k ≤ 2 ^ (n - 1) - 2 → xW E D vwCl 3 0 0 (mw bd cI cZ n am al on ot we th u.1 u.2.1 u.2.2.1 false u.2.2.2.1 u.2.2.2.2.1 pc ap pn u.2.2.2.2.2 gr tl co ++ X) [(0, .ref (bd 0)), (1, .int (nI (kSp (kC fr to wt am) (kSpr n) k))), (2, .int (nI (2 * (k + 2))))] 8 [] := by
    refine pl_up (2 ^ (n - 1) - 2) (fun k hk ih => ?_)
    refine x_iload_n S dX6_sparsestOf_8 2 rfl rfl ?_
    refine x_aload_n S dX6_sparsestOf_9 0 rfl rfl ?_
    refine x_cVi (n := 0) S (m_all hn) (gGV gC tw558 tw555 tw557 ts16 tw7) rfl (by decide +kernel) 0 rfl rfl rfl rfl (Nat.le_of_ble_eq_true rfl) dX6_sparsestOf_10 ⟨by decide, by decide⟩ ⟨Nat.le_of_ble_eq_true rfl, Nat.le_of_ble_eq_true rfl⟩ ?_
    refine x_icmp_gt (tgt := 51) S dX6_sparsestOf_13 (by decide) (fun h3 => ?_) (fun h3 => ?_)
    · have hk2 : k = 2 ^ (n - 1) - 2 := by have := (nI_ltI (by omega) (by omega)).mp h3; omega
      subst hk2
      refine x_iload_n S dX6_sparsestOf_51 1 rfl rfl ?_
      exact x_retS hret u hu rfl dX6_sparsestOf_52
    have hk2 : k < 2 ^ (n - 1) - 2 := by have := Nat.le_of_not_lt (fun q => h3 (nI_lt q (by omega))); omega
    have ih := ih hk2
    have hs := kSp_le (kC fr to wt am) (kSpr n) k
    simp only [kSp] at ih
    have hc1 := hA.cf (2 * (k + 2))
    have hc2 := hA.cf (kSp (kC fr to wt am) (kSpr n) k)
    have hs1 := kSpr_le (s := 2 * (k + 2)) hn
    have hs2 := kSpr_le (s := kSp (kC fr to wt am) (kSpr n) k) hn
    refine x_aload_n S dX6_sparsestOf_16 0 rfl rfl ?_
    refine x_get S 0 9 rfl rfl inC6 (by decide) (gC _ tw474) rfl rfl dX6_sparsestOf_17 ?_
    refine x_iload_n S dX6_sparsestOf_20 2 rfl rfl ?_
    refine x_ialdN S 7 0 (2 * (k + 2)) rfl rfl rfl (by omega) (by decide) dX6_sparsestOf_21 ?_
    rw [hu.2.1 (2 * (k + 2)) (by omega)]
    refine x_aload_n S dX6_sparsestOf_22 0 rfl rfl ?_
    refine x_iload_n S dX6_sparsestOf_23 1 rfl rfl ?_
    refine x_cVi (n := 1) S (m_below (by omega) (pop_n 12 n _ (by omega))) (gGV gC tw665 tw662 tw664 ts30 tw7) rfl (by decide +kernel) 0 rfl rfl rfl rfl (Nat.le_of_ble_eq_true rfl) dX6_sparsestOf_24 ⟨by decide, by decide⟩ ⟨Nat.le_of_ble_eq_true rfl, Nat.le_of_ble_eq_true rfl⟩ ?_
    refine x_imul S dX6_sparsestOf_27 ?_
    refine x_top (nI (kC fr to wt am (2 * (k + 2)) * kSpr n (kSp (kC fr to wt am) (kSpr n) k))) (pk_mul _ _) ?_
    refine x_aload_n S dX6_sparsestOf_28 0 rfl rfl ?_
    refine x_get S 0 9 rfl rfl inC6 (by decide) (gC _ tw474) rfl rfl dX6_sparsestOf_29 ?_
    refine x_iload_n S dX6_sparsestOf_32 1 rfl rfl ?_
    refine x_ialdN S 7 0 (kSp (kC fr to wt am) (kSpr n) k) rfl rfl rfl (by omega) (by decide) dX6_sparsestOf_33 ?_
    rw [hu.2.1 (kSp (kC fr to wt am) (kSpr n) k) (by omega)]
    refine x_aload_n S dX6_sparsestOf_34 0 rfl rfl ?_
    refine x_iload_n S dX6_sparsestOf_35 2 rfl rfl ?_
    refine x_cVi (n := 1) S (m_below (by omega) (pop_n 12 n _ (by omega))) (gGV gC tw665 tw662 tw664 ts30 tw7) rfl (by decide +kernel) 0 rfl rfl rfl rfl (Nat.le_of_ble_eq_true rfl) dX6_sparsestOf_36 ⟨by decide, by decide⟩ ⟨Nat.le_of_ble_eq_true rfl, Nat.le_of_ble_eq_true rfl⟩ ?_
    refine x_imul S dX6_sparsestOf_39 ?_
    refine x_top (nI (kC fr to wt am (kSp (kC fr to wt am) (kSpr n) k) * kSpr n (2 * (k + 2)))) (pk_mul _ _) ?_
    refine x_icmp_ge (tgt := 45) S dX6_sparsestOf_40 (by decide) (fun h4 => ?_) (fun h4 => ?_)
    · rw [if_neg (fun q => nI_ge q (mul_bd (c := 0) hc2 hs1) h4)] at ih
      refine x_iinc2N (lv' := [(2, .int _), (0, .ref _), (1, .int _)]) (j' := 2 * (k + 1 + 2)) S dX6_sparsestOf_45 2 rfl (by omega) (by decide) rfl ?_
      refine x_goto (tgt := 8) S dX6_sparsestOf_48 (by decide) ?_
      exact x_sub [1, 2, 0] rfl (ih)
    rw [if_pos (Nat.lt_of_not_le (fun q => h4 (nI_le q (mul_bd (c := 0) hc1 hs2))))] at ih
    refine x_iload_n S dX6_sparsestOf_43 2 rfl rfl ?_
    refine x_istore_n (lv' := [(1, .int _), (0, .ref _), (2, .int _)]) S dX6_sparsestOf_44 rfl (by decide) rfl ?_
    refine x_iinc2N (lv' := [(2, .int _), (1, .int _), (0, .ref _)]) (j' := 2 * (k + 1 + 2)) S dX6_sparsestOf_45 2 rfl (by omega) (by decide) rfl ?_
    refine x_goto (tgt := 8) S dX6_sparsestOf_48 (by decide) ?_
    exact x_sub [2, 1, 0] rfl (ih)
  refine x_iconst (v := 2) S dX6_sparsestOf_4 rfl ?_
  refine x_istore_n (lv' := [(1, .int _), (0, .ref _)]) S dX6_sparsestOf_5 rfl (by decide) rfl ?_
  refine x_iconst (v := 4) S dX6_sparsestOf_6 rfl ?_
  refine x_istore_n (lv' := [(2, .int _), (1, .int _), (0, .ref _)]) S dX6_sparsestOf_7 rfl (by decide) rfl ?_
  exact x_sub [2, 1, 0] rfl (L 0 (Nat.zero_le _))
set_option maxHeartbeats 4000000 in
set_option maxRecDepth 100000 in
theorem q_sparsest  (h : MS) (hI : mInv n am al fr to wt h) : xMetS l yX6_sparsest wX6_sparsest (rD 16) D vwCl (tyC cI cII cP cZ) nwC [.ref (bd 0)] (mwH bd cI cZ n am al h ++ X) (fun h' : MS => mInv n am al fr to wt h') (fun h' => mwH bd cI cZ n am al h' ++ X) (fun _ => some (.int (sSparse n am fr to wt))) := by
  obtain ⟨on, ot, we, th, be, ne, cu, nw, pa, br, pc, ap, pn, ls, gr, tl, co⟩ := h
  obtain ⟨hA, hL, hal, hV, hPt⟩ := hI
  have hn := hA.1
  refine xMetS_of (cc := cX6_sparsest) (maxL := 1) (ret := (some .int)) (by decide +kernel) rfl (Nat.le_of_ble_eq_true rfl) (fun _ _ => xfi) ?_
  intro E S hnm hret
  show xW E D vwCl 1 0 0 (mw bd cI cZ n am al on ot we th be ne cu nw pa br pc ap pn ls gr tl co ++ X) [(0, .ref (bd 0))] 0 []
  refine x_aload_n S dX6_sparsest_0 0 rfl rfl ?_
  refine x_get S 0 0 rfl rfl inC6 (by decide) (gC _ tw465) rfl rfl dX6_sparsest_1 ?_
  refine x_iconst (v := 2) S dX6_sparsest_4 rfl ?_
  refine x_icmp_ge (tgt := 13) S dX6_sparsest_5 (by decide) (fun h1 => ?_) (fun h1 => ?_)
  · have h1 : 2 ≤ n := (nI_leI (a := 2) (by omega) (by omega)).mp h1
    refine x_aload_n S dX6_sparsest_13 0 rfl rfl ?_
    refine x_cViS (n := 0) S (m_sparsestOf h1 hA hL hV) (gGV gC tw661 tw658 tw660 ts29 tw7) rfl (by decide +kernel) 0 rfl rfl rfl rfl (Nat.le_of_ble_eq_true rfl) dX6_sparsest_14 ⟨by decide, by decide⟩ ⟨Nat.le_of_ble_eq_true rfl, Nat.le_of_ble_eq_true rfl⟩ (fun u hu => ?_)
    exact x_retS hret ((on, ot, we, th, u.1, u.2.1, u.2.2.1, false, u.2.2.2.1, u.2.2.2.2.1, pc, ap, pn, u.2.2.2.2.2, gr, tl, co)) (⟨hA, hL, hal, fun _ => hu, hPt⟩) ((by unfold sSparse; rw [if_pos (show 1 < n by omega)])) dX6_sparsest_17
  have h1 : ¬ 1 < n := fun q => h1 (nI_le (a := 2) q (by omega))
  refine x_bipush (v := -3) S dX6_sparsest_8 (by decide) ?_
  refine x_goto (tgt := 17) S dX6_sparsest_10 (by decide) ?_
  exact x_retS hret ((on, ot, we, th, be, ne, cu, nw, pa, br, pc, ap, pn, ls, gr, tl, co)) (⟨hA, hL, hal, hV, hPt⟩) ((by unfold sSparse; rw [if_neg h1])) dX6_sparsest_17
set_option maxHeartbeats 4000000 in
set_option maxRecDepth 100000 in
theorem q_share (q : Int32) (h : MS) (hI : mInv n am al fr to wt h) : xMetS l yX6_share wX6_share (rD 16) D vwCl (tyC cI cII cP cZ) nwC [.ref (bd 0), .int q] (mwH bd cI cZ n am al h ++ X) (fun h' : MS => mInv n am al fr to wt h') (fun h' => mwH bd cI cZ n am al h' ++ X) (fun _ => some (.int (sShare n am fr to wt q))) := by
  obtain ⟨on, ot, we, th, be, ne, cu, nw, pa, br, pc, ap, pn, ls, gr, tl, co⟩ := h
  obtain ⟨hA, hL, hal, hV, hPt⟩ := hI
  have hn := hA.1
  refine xMetS_of (cc := cX6_share) (maxL := 8) (ret := (some .int)) (by decide +kernel) rfl (Nat.le_of_ble_eq_true rfl) (fun _ _ => xfi) ?_
  intro E S hnm hret
  show xW E D vwCl 8 0 0 (mw bd cI cZ n am al on ot we th be ne cu nw pa br pc ap pn ls gr tl co ++ X) [(0, .ref (bd 0)), (1, .int q)] 0 []
  refine x_iload_n S dX6_share_0 1 rfl rfl ?_
  refine x_if_lt (tgt := 9) S dX6_share_1 (by decide) (fun h1 => ?_) (fun h1 => ?_)
  · refine x_bipush (v := -2) S dX6_share_9 (by decide) ?_
    exact x_retS hret ((on, ot, we, th, be, ne, cu, nw, pa, br, pc, ap, pn, ls, gr, tl, co)) (⟨hA, hL, hal, hV, hPt⟩) ((if_pos ⟨fun w => by rw [w] at h1; exact absurd h1 (by decide), fun w => by rw [w] at h1; exact absurd h1 (by decide)⟩).symm) dX6_share_11
  refine x_iload_n S dX6_share_4 1 rfl rfl ?_
  refine x_iconst (v := 1) S dX6_share_5 rfl ?_
  refine x_icmp_le (tgt := 12) S dX6_share_6 (by decide) (fun h2 => ?_) (fun h2 => ?_)
  rotate_left
  · refine x_bipush (v := -2) S dX6_share_9 (by decide) ?_
    exact x_retS hret ((on, ot, we, th, be, ne, cu, nw, pa, br, pc, ap, pn, ls, gr, tl, co)) (⟨hA, hL, hal, hV, hPt⟩) ((if_pos ⟨fun w => by rw [w] at h2; exact absurd (by decide) h2, fun w => by rw [w] at h2; exact absurd (by decide) h2⟩).symm) dX6_share_11
  have hqq : q = 0 ∨ q = 1 := by
    obtain ⟨x, hx, rfl⟩ := pl_of (Int32.not_lt.mp h1)
    have : x ≤ 1 := (nI_leI (b := 1) hx (by omega)).mp h2
    rcases (show x = 0 ∨ x = 1 by omega) with rfl | rfl
    · exact Or.inl rfl
    · exact Or.inr rfl
  have hq2 : ¬ (q ≠ 0 ∧ q ≠ 1) := fun w => hqq.elim w.1 w.2
  refine x_aload_n S dX6_share_12 0 rfl rfl ?_
  refine x_get S 0 0 rfl rfl inC6 (by decide) (gC _ tw465) rfl rfl dX6_share_13 ?_
  refine x_iconst (v := 2) S dX6_share_16 rfl ?_
  refine x_icmp_ge (tgt := 23) S dX6_share_17 (by decide) (fun h3 => ?_) (fun h3 => ?_)
  rotate_left
  · have h3 : ¬ 1 < n := fun w => h3 (nI_le (a := 2) w (by omega))
    refine x_bipush (v := -3) S dX6_share_20 (by decide) ?_
    exact x_retS hret ((on, ot, we, th, be, ne, cu, nw, pa, br, pc, ap, pn, ls, gr, tl, co)) (⟨hA, hL, hal, hV, hPt⟩) ((by unfold sShare; rw [if_neg hq2, if_neg h3])) dX6_share_22
  have h3 : 1 < n := (nI_leI (a := 2) (by omega) (by omega)).mp h3
  refine x_aload_n S dX6_share_23 0 rfl rfl ?_
  refine x_cViS (n := 0) S (m_sparsestOf h3 hA hL hV) (gGV gC tw661 tw658 tw660 ts29 tw7) rfl (by decide +kernel) 0 rfl rfl rfl rfl (Nat.le_of_ble_eq_true rfl) dX6_share_24 ⟨by decide, by decide⟩ ⟨Nat.le_of_ble_eq_true rfl, Nat.le_of_ble_eq_true rfl⟩ (fun u hu => ?_)
  obtain ⟨s, es⟩ : ∃ s, s = kSp (kC fr to wt am) (kSpr n) (2 ^ (n - 1) - 2) := ⟨_, rfl⟩
  rw [← es]
  have hp := p2_s (show 1 ≤ n by omega)
  have hp12 := pl_pow12 hn
  have hp2 : 2 ≤ 2 ^ (n - 1) := by have := Nat.pow_le_pow_right (n := 2) (by omega) (show 1 ≤ n - 1 by omega); omega
  have hsl := kSp_le (kC fr to wt am) (kSpr n) (2 ^ (n - 1) - 2)
  rw [← es] at hsl
  have hse := kSp_ev (kC fr to wt am) (kSpr n) (2 ^ (n - 1) - 2)
  rw [← es] at hse
  have hpn : kP s ≤ n := pop_n 12 n s (by omega)
  have hsp : 1 ≤ kSpr n s := kSpr_pos hn (pop_pos s (by omega) hsl.2) (pop_lt_ev n (by omega) s (by omega) hse (by omega))
  have hsb := kSpr_le (s := s) hn
  have hcb := hA.cf s
  refine x_istore_n (lv' := [(2, .int _), (0, .ref _), (1, .int _)]) S dX6_share_27 rfl (by decide) rfl ?_
  refine x_aload_n S dX6_share_28 1 rfl rfl ?_
  refine x_get S 0 9 rfl rfl inC6 (by decide) (gC _ tw474) rfl rfl dX6_share_29 ?_
  refine x_iload_n S dX6_share_32 0 rfl rfl ?_
  refine x_ialdN S 7 0 (s) rfl rfl rfl (by omega) (by decide) dX6_share_33 ?_
  rw [hu.2.1 s (by omega)]
  refine x_istore_n (lv' := [(3, .int _), (2, .int _), (0, .ref _), (1, .int _)]) S dX6_share_34 rfl (by decide) rfl ?_
  refine x_aload_n S dX6_share_35 2 rfl rfl ?_
  refine x_iload_n S dX6_share_36 1 rfl rfl ?_
  refine x_cVi (n := 1) S (m_below (by omega) hpn) (gGV gC tw665 tw662 tw664 ts30 tw7) rfl (by decide +kernel) 0 rfl rfl rfl rfl (Nat.le_of_ble_eq_true rfl) dX6_share_37 ⟨by decide, by decide⟩ ⟨Nat.le_of_ble_eq_true rfl, Nat.le_of_ble_eq_true rfl⟩ ?_
  have hg : 0 < Nat.gcd (kC fr to wt am s) (kSpr n s) := Nat.gcd_pos_of_pos_right _ hsp
  have hgl : Nat.gcd (kC fr to wt am s) (kSpr n s) ≤ kSpr n s := Nat.le_of_dvd hsp (Nat.gcd_dvd_right _ _)
  have L : ∀ y, ∀ x, x < 2 ^ 31 → y < 2 ^ 31 → Nat.gcd x y = Nat.gcd (kC fr to wt am s) (kSpr n s) → xW E D vwCl 8 0 0 (mw bd cI cZ n am al on ot we th u.1 u.2.1 u.2.2.1 false u.2.2.2.1 u.2.2.2.2.1 pc ap pn u.2.2.2.2.2 gr tl co ++ X) [(0, .ref (bd 0)), (1, .int q), (2, .int (nI s)), (3, .int (nI (kC fr to wt am s))), (4, .int (nI (kSpr n s))), (5, .int (nI x)), (6, .int (nI y))] 49 [] := by
    refine pl_dn (fun y => y) (fun y ih => ?_)
    intro x hx hy hg2
    refine x_iload S dX6_share_49 6 rfl ?_
    refine x_if_eq (tgt := 72) S dX6_share_51 (by decide) (fun h4 => ?_) (fun h4 => ?_)
    · have h4 : y = 0 := pl_inj (b := 0) hy (by omega) h4
      rw [h4, Nat.gcd_zero_right] at hg2
      refine x_iload_n S dX6_share_72 1 rfl rfl ?_
      refine x_if_ne (tgt := 80) S dX6_share_73 (by decide) (fun h5 => ?_) (fun h5 => ?_)
      rotate_left
      · refine x_iload_n S dX6_share_76 3 rfl rfl ?_
        refine x_goto (tgt := 82) S dX6_share_77 (by decide) ?_
        refine x_iload S dX6_share_82 5 rfl ?_
        refine x_idiv S dX6_share_84 (nI_ne0 (by omega) hx) ?_
        exact x_retS hret ((on, ot, we, th, u.1, u.2.1, u.2.2.1, false, u.2.2.2.1, u.2.2.2.2.1, pc, ap, pn, u.2.2.2.2.2, gr, tl, co)) (⟨hA, hL, hal, fun _ => hu, hPt⟩) ((by unfold sShare; rw [if_neg hq2, if_pos h3, if_pos h5, ← es, pk_div (by omega) (by omega) hx, hg2])) dX6_share_85
      refine x_iload S dX6_share_80 4 rfl ?_
      refine x_iload S dX6_share_82 5 rfl ?_
      refine x_idiv S dX6_share_84 (nI_ne0 (by omega) hx) ?_
      exact x_retS hret ((on, ot, we, th, u.1, u.2.1, u.2.2.1, false, u.2.2.2.1, u.2.2.2.2.1, pc, ap, pn, u.2.2.2.2.2, gr, tl, co)) (⟨hA, hL, hal, fun _ => hu, hPt⟩) ((by unfold sShare; rw [if_neg hq2, if_pos h3, if_neg h5, ← es, pk_div (by omega) (by omega) hx, hg2])) dX6_share_85
    have h4 : 0 < y := Nat.pos_of_ne_zero (fun w => h4 (by rw [w]; rfl))
    have hml := Nat.mod_lt x h4
    refine x_iload S dX6_share_54 5 rfl ?_
    refine x_iload S dX6_share_56 6 rfl ?_
    refine x_irem S dX6_share_58 (nI_ne0 h4 hy) ?_
    refine x_top (nI (x % y)) (pk_rem hx h4 hy) ?_
    refine x_istore (lv' := [(7, .int _), (0, .ref _), (1, .int _), (2, .int _), (3, .int _), (4, .int _), (5, .int _), (6, .int _)]) S dX6_share_59 (by decide) rfl ?_
    refine x_iload S dX6_share_61 7 rfl ?_
    refine x_istore (lv' := [(5, .int _), (7, .int _), (0, .ref _), (1, .int _), (2, .int _), (3, .int _), (4, .int _), (6, .int _)]) S dX6_share_63 (by decide) rfl ?_
    refine x_iload S dX6_share_65 1 rfl ?_
    refine x_istore (lv' := [(6, .int _), (5, .int _), (7, .int _), (0, .ref _), (1, .int _), (2, .int _), (3, .int _), (4, .int _)]) S dX6_share_67 (by decide) rfl ?_
    refine x_goto (tgt := 49) S dX6_share_69 (by decide) ?_
    exact x_sub [3, 4, 5, 6, 7, 1, 0] rfl (ih (x % y) hml y hy (by omega) (by rw [← hg2, Nat.gcd_comm x y, Nat.gcd_rec y x, Nat.gcd_comm]))
  refine x_istore (lv' := [(4, .int _), (3, .int _), (2, .int _), (0, .ref _), (1, .int _)]) S dX6_share_40 (by decide) rfl ?_
  refine x_iload_n S dX6_share_42 1 rfl rfl ?_
  refine x_istore (lv' := [(5, .int _), (4, .int _), (3, .int _), (2, .int _), (0, .ref _), (1, .int _)]) S dX6_share_43 (by decide) rfl ?_
  refine x_iload S dX6_share_45 1 rfl ?_
  refine x_istore (lv' := [(6, .int _), (5, .int _), (4, .int _), (3, .int _), (2, .int _), (0, .ref _), (1, .int _)]) S dX6_share_47 (by decide) rfl ?_
  exact x_sub [5, 6, 4, 3, 2, 1, 0] rfl (L _ _ (by omega) (by omega) rfl)
end M4
