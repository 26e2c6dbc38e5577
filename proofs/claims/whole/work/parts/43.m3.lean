/-! the reference: contracts, 3 -/
section M3
abbrev MS : Type := (Nat → Nat) × (Nat → Nat) × (Nat → Nat) × (Nat → Bool) × (Nat → Nat) × (Nat → Nat) × (Nat → Nat) × Bool × (Nat → Nat) × (Nat → Nat) × (Nat → Nat) × (Nat → Bool) × (Nat → Nat) × Int32 × (Nat → Nat) × (Nat → Int32) × (Nat → Nat)
def mwH (bd : Nat → Nat) (cI cZ : ClassId) (n am al : Nat) (h : MS) : va_W := mw bd cI cZ n am al h.1 h.2.1 h.2.2.1 h.2.2.2.1 h.2.2.2.2.1 h.2.2.2.2.2.1 h.2.2.2.2.2.2.1 h.2.2.2.2.2.2.2.1 h.2.2.2.2.2.2.2.2.1 h.2.2.2.2.2.2.2.2.2.1 h.2.2.2.2.2.2.2.2.2.2.1 h.2.2.2.2.2.2.2.2.2.2.2.1 h.2.2.2.2.2.2.2.2.2.2.2.2.1 h.2.2.2.2.2.2.2.2.2.2.2.2.2.1 h.2.2.2.2.2.2.2.2.2.2.2.2.2.2.1 h.2.2.2.2.2.2.2.2.2.2.2.2.2.2.2.1 h.2.2.2.2.2.2.2.2.2.2.2.2.2.2.2.2
def mpOK (n am : Nat) (fr to wt pc : Nat → Nat) (ap : Nat → Bool) (pn : Nat → Nat) : Prop := ∀ k, 1 ≤ k → k ≤ 4 → ap k = false → n ≤ 10 → k ≤ n → pc k = (kPR n k (kM fr to wt am)).1 ∧ ∀ u, u < n → pn (12 * k + u) = (kPR n k (kM fr to wt am)).2 u
def mInv (n am al : Nat) (fr to wt : Nat → Nat) (h : MS) : Prop := aOK n am fr to wt ∧ aRel am h.1 h.2.1 h.2.2.1 h.2.2.2.1 fr to wt ∧ al = kLv wt am ∧ (h.2.2.2.2.2.2.2.1 = false → bOK am fr to wt h.2.2.2.2.1 h.2.2.2.2.2.1 ∧ vOK n am fr to wt h.2.2.2.2.2.2.1 ∧ trOK n am fr to wt h.2.2.2.2.2.2.2.2.1 h.2.2.2.2.2.2.2.2.2.1) ∧ mpOK n am fr to wt h.2.2.2.2.2.2.2.2.2.2.1 h.2.2.2.2.2.2.2.2.2.2.2.1 h.2.2.2.2.2.2.2.2.2.2.2.2.1
theorem sm_shift (f : Nat → Nat) : ∀ w, sm f (w + 1) = f 0 + sm (fun k => f (k + 1)) w
  | 0 => by simp [sm]
  | w + 1 => by
    show sm f (w + 1) + f (w + 1) = f 0 + (sm (fun k => f (k + 1)) w + f (w + 1))
    rw [sm_shift f w]; omega
theorem pop_sm : ∀ (w s : Nat), pn_pop w s = sm (fun k => s / 2 ^ k % 2) w
  | 0, s => rfl
  | w + 1, s => by
    rw [sm_shift]
    show pn_pop w (s / 2) + s % 2 = _
    rw [pop_sm w (s / 2), sm_congr (g := fun k => s / 2 ^ (k + 1) % 2) (fun k _ => by rw [Nat.pow_succ, Nat.mul_comm, Nat.div_div_eq_div_mul])]
    simp
    omega
theorem co_ev {n am F : Nat} {fr to wt : Nat → Nat} (hA : aOK n am fr to wt) (h2 : 2 ≤ n) (h1 : 1 ≤ F) (hF : F < 2 ^ n - 1) : ∃ T, evP n T ∧ kC fr to wt am T = kC fr to wt am F := by
  have hp := p2_s (show 1 ≤ n by omega)
  rcases Nat.mod_two_eq_zero_or_one F with q | q
  · exact ⟨F, ⟨F / 2 - 1, by omega, by omega⟩, rfl⟩
  · have h3 := di_ev (n := n) (S := F) (by omega) q
    have h4 := pl_di_le (2 ^ n - 1) F
    have h5 := kC_co (fr := fr) (to := to) (wt := wt) (k := am) (n := n) (S := F) (fun i hi => ⟨(hA.2.2 i hi).1, (hA.2.2 i hi).2.1⟩)
    have h6 : pl_di (2 ^ n - 1) F ≠ 0 := fun e => by
      have : F = 2 ^ n - 1 := Nat.eq_of_testBit_eq (fun i => by
        have g := pl_di_t (2 ^ n - 1) F i
        rw [e, Nat.zero_testBit, Nat.testBit_two_pow_sub_one] at g
        rw [Nat.testBit_two_pow_sub_one]
        cases hb : F.testBit i with
        | true => exact (decide_eq_true (t_lt (show F < 2 ^ n by omega) hb)).symm
        | false => rw [hb] at g; simpa using g)
      omega
    have h7 : pl_di (2 ^ n - 1) F ≤ 2 ^ n - 1 := h4
    exact ⟨pl_di (2 ^ n - 1) F, ⟨pl_di (2 ^ n - 1) F / 2 - 1, by omega, by omega⟩, h5⟩
theorem least_eq {n am F : Nat} {fr to wt : Nat → Nat} (hA : aOK n am fr to wt) (h2 : 2 ≤ n) (hF : isFM (kC fr to wt am) (fun T => 1 ≤ T ∧ T < 2 ^ n - 1) F) : kC fr to wt am F = kC fr to wt am (kE (kC fr to wt am) n) := by
  have hE := kE_ok (cf := kC fr to wt am) h2
  have hp := p2_s (show 1 ≤ n by omega)
  obtain ⟨T, hT, e⟩ := co_ev hA h2 hF.1.1 hF.1.2
  have h3 := hE.2.1 T hT
  obtain ⟨j, hj, ej⟩ := hE.1
  have h4 := hF.2.1 (kE (kC fr to wt am) n) ⟨by omega, by omega⟩
  omega
variable {l : Launch} {D : va_G} {bd : Nat → Nat} {cI cII cP cZ : ClassId} {n am al : Nat} {on ot we : Nat → Nat} {th : Nat → Bool} {be ne cu : Nat → Nat} {nw : Bool} {pa br pc : Nat → Nat} {ap : Nat → Bool} {pn : Nat → Nat} {ls : Int32} {gr : Nat → Nat} {tl : Nat → Int32} {co : Nat → Nat} {fr to wt : Nat → Nat} {X : va_W}
set_option maxHeartbeats 4000000 in
set_option maxRecDepth 100000 in
theorem q_pair (a b : Int32) (h : MS) (hI : mInv n am al fr to wt h) : xMetS l yX6_pair wX6_pair (rD 16) D vwCl (tyC cI cII cP cZ) nwC [.ref (bd 0), .int a, .int b] (mwH bd cI cZ n am al h ++ X) (fun h' : MS => mInv n am al fr to wt h') (fun h' => mwH bd cI cZ n am al h' ++ X) (fun _ => some (.int (sPair n am fr to wt a b))) := by
  obtain ⟨on, ot, we, th, be, ne, cu, nw, pa, br, pc, ap, pn, ls, gr, tl, co⟩ := h
  obtain ⟨hA, hL, hal, hV, hPt⟩ := hI
  have hn := hA.1
  refine xMetS_of (cc := cX6_pair) (maxL := 4) (ret := (some .int)) (by decide +kernel) rfl (Nat.le_of_ble_eq_true rfl) (fun _ _ => xfi) ?_
  intro E S hnm hret
  show xW E D vwCl 4 0 0 (mw bd cI cZ n am al on ot we th be ne cu nw pa br pc ap pn ls gr tl co ++ X) [(0, .ref (bd 0)), (1, .int a), (2, .int b)] 0 []
  refine x_aload_n S dX6_pair_0 0 rfl rfl ?_
  refine x_iload_n S dX6_pair_1 1 rfl rfl ?_
  refine x_iload_n S dX6_pair_2 2 rfl rfl ?_
  refine x_cVi (n := 2) S (m_areTwo a b) (gGV gC tw542 tw539 tw541 ts15 tw7) rfl (by decide +kernel) 0 rfl rfl rfl rfl (Nat.le_of_ble_eq_true rfl) dX6_pair_3 ⟨by decide, by decide⟩ ⟨Nat.le_of_ble_eq_true rfl, Nat.le_of_ble_eq_true rfl⟩ ?_
  refine x_if_neB (tgt := 11) S dX6_pair_6 (by decide) (fun h1 => ?_) (fun h1 => ?_)
  rotate_left
  · refine x_iconst (v := -1) S dX6_pair_9 rfl ?_
    exact x_retS hret ((on, ot, we, th, be, ne, cu, nw, pa, br, pc, ap, pn, ls, gr, tl, co)) (⟨hA, hL, hal, hV, hPt⟩) ((if_neg h1).symm) dX6_pair_10
  obtain ⟨i, j, hi, hj, hij, rfl, rfl, f1, f2⟩ := isP2_of hn h1
  refine x_aload_n S dX6_pair_11 0 rfl rfl ?_
  refine x_cVvS (n := 0) S (m_make hA hL hV) (gGV gC tw562 tw559 tw561 ts17 tw7) rfl (by decide +kernel) 0 rfl rfl rfl rfl (Nat.le_of_ble_eq_true rfl) dX6_pair_12 ⟨by decide, by decide⟩ ⟨Nat.le_of_ble_eq_true rfl, Nat.le_of_ble_eq_true rfl⟩ (fun u hu => ?_)
  refine x_aload_n S dX6_pair_15 0 rfl rfl ?_
  refine x_iload_n S dX6_pair_16 1 rfl rfl ?_
  refine x_iload_n S dX6_pair_17 2 rfl rfl ?_
  refine x_cVi (n := 2) S (m_sideOf hA hu.2.1 hi hj (kZ_ok hi hij)) (gGV gC tw570 tw567 tw569 ts19 tw7) rfl (by decide +kernel) 0 rfl rfl rfl rfl (Nat.le_of_ble_eq_true rfl) dX6_pair_18 ⟨by decide, by decide⟩ ⟨Nat.le_of_ble_eq_true rfl, Nat.le_of_ble_eq_true rfl⟩ ?_
  refine x_istore_n (lv' := [(3, .int _), (0, .ref _), (1, .int _), (2, .int _)]) S dX6_pair_21 rfl (by decide) rfl ?_
  refine x_aload_n S dX6_pair_22 1 rfl rfl ?_
  refine x_get S 0 16 rfl rfl inC6 (by decide) (gC _ tw481) rfl rfl dX6_pair_23 ?_
  exact x_retS hret ((on, ot, we, th, u.1, u.2.1, u.2.2.1, false, u.2.2.2.1, u.2.2.2.2.1, pc, ap, pn, nI (kC fr to wt am (kZ (kC fr to wt am) n i j)), gr, tl, co)) (⟨hA, hL, hal, fun _ => hu, hPt⟩) ((by unfold sPair; rw [if_pos h1, f1, f2])) dX6_pair_26
set_option maxHeartbeats 4000000 in
set_option maxRecDepth 100000 in
theorem q_side (a b : Int32) (h : MS) (hI : mInv n am al fr to wt h) : xMetS l yX6_side wX6_side (rD 16) D vwCl (tyC cI cII cP cZ) nwC [.ref (bd 0), .int a, .int b] (mwH bd cI cZ n am al h ++ X) (fun h' : MS => mInv n am al fr to wt h') (fun h' => mwH bd cI cZ n am al h' ++ X) (fun _ => some (.int (sSide n am fr to wt a b))) := by
  obtain ⟨on, ot, we, th, be, ne, cu, nw, pa, br, pc, ap, pn, ls, gr, tl, co⟩ := h
  obtain ⟨hA, hL, hal, hV, hPt⟩ := hI
  have hn := hA.1
  refine xMetS_of (cc := cX6_side) (maxL := 3) (ret := (some .int)) (by decide +kernel) rfl (Nat.le_of_ble_eq_true rfl) (fun _ _ => xfi) ?_
  intro E S hnm hret
  show xW E D vwCl 3 0 0 (mw bd cI cZ n am al on ot we th be ne cu nw pa br pc ap pn ls gr tl co ++ X) [(0, .ref (bd 0)), (1, .int a), (2, .int b)] 0 []
  refine x_aload_n S dX6_side_0 0 rfl rfl ?_
  refine x_iload_n S dX6_side_1 1 rfl rfl ?_
  refine x_iload_n S dX6_side_2 2 rfl rfl ?_
  refine x_cVi (n := 2) S (m_areTwo a b) (gGV gC tw542 tw539 tw541 ts15 tw7) rfl (by decide +kernel) 0 rfl rfl rfl rfl (Nat.le_of_ble_eq_true rfl) dX6_side_3 ⟨by decide, by decide⟩ ⟨Nat.le_of_ble_eq_true rfl, Nat.le_of_ble_eq_true rfl⟩ ?_
  refine x_if_neB (tgt := 11) S dX6_side_6 (by decide) (fun h1 => ?_) (fun h1 => ?_)
  rotate_left
  · refine x_iconst (v := -1) S dX6_side_9 rfl ?_
    exact x_retS hret ((on, ot, we, th, be, ne, cu, nw, pa, br, pc, ap, pn, ls, gr, tl, co)) (⟨hA, hL, hal, hV, hPt⟩) ((if_neg h1).symm) dX6_side_10
  obtain ⟨i, j, hi, hj, hij, rfl, rfl, f1, f2⟩ := isP2_of hn h1
  refine x_aload_n S dX6_side_11 0 rfl rfl ?_
  refine x_cVvS (n := 0) S (m_make hA hL hV) (gGV gC tw562 tw559 tw561 ts17 tw7) rfl (by decide +kernel) 0 rfl rfl rfl rfl (Nat.le_of_ble_eq_true rfl) dX6_side_12 ⟨by decide, by decide⟩ ⟨Nat.le_of_ble_eq_true rfl, Nat.le_of_ble_eq_true rfl⟩ (fun u hu => ?_)
  refine x_aload_n S dX6_side_15 0 rfl rfl ?_
  refine x_iload_n S dX6_side_16 1 rfl rfl ?_
  refine x_iload_n S dX6_side_17 2 rfl rfl ?_
  refine x_cVi (n := 2) S (m_sideOf hA hu.2.1 hi hj (kZ_ok hi hij)) (gGV gC tw570 tw567 tw569 ts19 tw7) rfl (by decide +kernel) 0 rfl rfl rfl rfl (Nat.le_of_ble_eq_true rfl) dX6_side_18 ⟨by decide, by decide⟩ ⟨Nat.le_of_ble_eq_true rfl, Nat.le_of_ble_eq_true rfl⟩ ?_
  exact x_retS hret ((on, ot, we, th, u.1, u.2.1, u.2.2.1, false, u.2.2.2.1, u.2.2.2.2.1, pc, ap, pn, nI (kC fr to wt am (kZ (kC fr to wt am) n i j)), gr, tl, co)) (⟨hA, hL, hal, fun _ => hu, hPt⟩) ((by unfold sSide; rw [if_pos h1, f1, f2])) dX6_side_21
set_option maxHeartbeats 4000000 in
set_option maxRecDepth 100000 in
theorem q_ofP (v : Int32) (h : MS) (hI : mInv n am al fr to wt h) : xMetS l yX6_ofNode wX6_ofNode (rD 15) D vwCl (tyC cI cII cP cZ) nwC [.ref (bd 0), .int v, .ref (bd 8)] (mwH bd cI cZ n am al h ++ X) (fun h' : MS => mInv n am al fr to wt h') (fun h' => mwH bd cI cZ n am al h' ++ X) (fun _ => some (.int (sParent n am fr to wt v))) := by
  obtain ⟨on, ot, we, th, be, ne, cu, nw, pa, br, pc, ap, pn, ls, gr, tl, co⟩ := h
  obtain ⟨hA, hL, hal, hV, hPt⟩ := hI
  have hn := hA.1
  refine xMetS_of (cc := cX6_ofNode) (maxL := 3) (ret := (some .int)) (by decide +kernel) rfl (Nat.le_of_ble_eq_true rfl) (fun _ _ => xfi) ?_
  intro E S hnm hret
  show xW E D vwCl 3 0 0 (mw bd cI cZ n am al on ot we th be ne cu nw pa br pc ap pn ls gr tl co ++ X) [(0, .ref (bd 0)), (1, .int v), (2, .ref (bd 8))] 0 []
  refine x_iload_n S dX6_ofNode_0 1 rfl rfl ?_
  refine x_if_lt (tgt := 12) S dX6_ofNode_1 (by decide) (fun h1 => ?_) (fun h1 => ?_)
  · refine x_iconst (v := -1) S dX6_ofNode_12 rfl ?_
    exact x_retS hret ((on, ot, we, th, be, ne, cu, nw, pa, br, pc, ap, pn, ls, gr, tl, co)) (⟨hA, hL, hal, hV, hPt⟩) ((if_neg (fun q => Int32.not_lt.mpr q.1 h1)).symm) dX6_ofNode_13
  refine x_iload_n S dX6_ofNode_4 1 rfl rfl ?_
  refine x_aload_n S dX6_ofNode_5 0 rfl rfl ?_
  refine x_get S 0 0 rfl rfl inC6 (by decide) (gC _ tw465) rfl rfl dX6_ofNode_6 ?_
  refine x_icmp_lt (tgt := 14) S dX6_ofNode_9 (by decide) (fun h2 => ?_) (fun h2 => ?_)
  rotate_left
  · refine x_iconst (v := -1) S dX6_ofNode_12 rfl ?_
    exact x_retS hret ((on, ot, we, th, be, ne, cu, nw, pa, br, pc, ap, pn, ls, gr, tl, co)) (⟨hA, hL, hal, hV, hPt⟩) ((if_neg (fun q => h2 q.2)).symm) dX6_ofNode_13
  have h3 : isN n v := ⟨Int32.not_lt.mp h1, h2⟩
  obtain ⟨j, hj, e, f⟩ := isN_of hn h3
  refine x_aload_n S dX6_ofNode_14 0 rfl rfl ?_
  refine x_cVvS (n := 0) S (m_make hA hL hV) (gGV gC tw562 tw559 tw561 ts17 tw7) rfl (by decide +kernel) 0 rfl rfl rfl rfl (Nat.le_of_ble_eq_true rfl) dX6_ofNode_15 ⟨by decide, by decide⟩ ⟨Nat.le_of_ble_eq_true rfl, Nat.le_of_ble_eq_true rfl⟩ (fun u hu => ?_)
  refine x_iload_n S dX6_ofNode_18 1 rfl rfl ?_
  refine x_if_ne (tgt := 27) S dX6_ofNode_19 (by decide) (fun h4 => ?_) (fun h4 => ?_)
  rotate_left
  · refine x_bipush (v := -3) S dX6_ofNode_22 (by decide) ?_
    refine x_goto (tgt := 30) S dX6_ofNode_24 (by decide) ?_
    exact x_retS hret ((on, ot, we, th, u.1, u.2.1, u.2.2.1, false, u.2.2.2.1, u.2.2.2.2.1, pc, ap, pn, u.2.2.2.2.2, gr, tl, co)) (⟨hA, hL, hal, fun _ => hu, hPt⟩) ((by unfold sParent; rw [if_pos h3, if_pos h4])) dX6_ofNode_30
  have hj0 : 1 ≤ j := Nat.pos_of_ne_zero (fun q => h4 (by rw [e, q]; rfl))
  refine x_aload_n S dX6_ofNode_27 2 rfl rfl ?_
  refine x_iload_n S dX6_ofNode_28 1 rfl rfl ?_
  refine x_ialdN S 8 0 (j) rfl rfl e (by omega) (by decide) dX6_ofNode_29 ?_
  exact x_retS hret ((on, ot, we, th, u.1, u.2.1, u.2.2.1, false, u.2.2.2.1, u.2.2.2.2.1, pc, ap, pn, u.2.2.2.2.2, gr, tl, co)) (⟨hA, hL, hal, fun _ => hu, hPt⟩) ((by unfold sParent; rw [if_pos h3, if_neg h4, f, hu.2.2.1 j hj])) dX6_ofNode_30
set_option maxHeartbeats 4000000 in
set_option maxRecDepth 100000 in
theorem q_ofB (v : Int32) (h : MS) (hI : mInv n am al fr to wt h) : xMetS l yX6_ofNode wX6_ofNode (rD 15) D vwCl (tyC cI cII cP cZ) nwC [.ref (bd 0), .int v, .ref (bd 9)] (mwH bd cI cZ n am al h ++ X) (fun h' : MS => mInv n am al fr to wt h') (fun h' => mwH bd cI cZ n am al h' ++ X) (fun _ => some (.int (sBranch n am fr to wt v))) := by
  obtain ⟨on, ot, we, th, be, ne, cu, nw, pa, br, pc, ap, pn, ls, gr, tl, co⟩ := h
  obtain ⟨hA, hL, hal, hV, hPt⟩ := hI
  have hn := hA.1
  refine xMetS_of (cc := cX6_ofNode) (maxL := 3) (ret := (some .int)) (by decide +kernel) rfl (Nat.le_of_ble_eq_true rfl) (fun _ _ => xfi) ?_
  intro E S hnm hret
  show xW E D vwCl 3 0 0 (mw bd cI cZ n am al on ot we th be ne cu nw pa br pc ap pn ls gr tl co ++ X) [(0, .ref (bd 0)), (1, .int v), (2, .ref (bd 9))] 0 []
  refine x_iload_n S dX6_ofNode_0 1 rfl rfl ?_
  refine x_if_lt (tgt := 12) S dX6_ofNode_1 (by decide) (fun h1 => ?_) (fun h1 => ?_)
  · refine x_iconst (v := -1) S dX6_ofNode_12 rfl ?_
    exact x_retS hret ((on, ot, we, th, be, ne, cu, nw, pa, br, pc, ap, pn, ls, gr, tl, co)) (⟨hA, hL, hal, hV, hPt⟩) ((if_neg (fun q => Int32.not_lt.mpr q.1 h1)).symm) dX6_ofNode_13
  refine x_iload_n S dX6_ofNode_4 1 rfl rfl ?_
  refine x_aload_n S dX6_ofNode_5 0 rfl rfl ?_
  refine x_get S 0 0 rfl rfl inC6 (by decide) (gC _ tw465) rfl rfl dX6_ofNode_6 ?_
  refine x_icmp_lt (tgt := 14) S dX6_ofNode_9 (by decide) (fun h2 => ?_) (fun h2 => ?_)
  rotate_left
  · refine x_iconst (v := -1) S dX6_ofNode_12 rfl ?_
    exact x_retS hret ((on, ot, we, th, be, ne, cu, nw, pa, br, pc, ap, pn, ls, gr, tl, co)) (⟨hA, hL, hal, hV, hPt⟩) ((if_neg (fun q => h2 q.2)).symm) dX6_ofNode_13
  have h3 : isN n v := ⟨Int32.not_lt.mp h1, h2⟩
  obtain ⟨j, hj, e, f⟩ := isN_of hn h3
  refine x_aload_n S dX6_ofNode_14 0 rfl rfl ?_
  refine x_cVvS (n := 0) S (m_make hA hL hV) (gGV gC tw562 tw559 tw561 ts17 tw7) rfl (by decide +kernel) 0 rfl rfl rfl rfl (Nat.le_of_ble_eq_true rfl) dX6_ofNode_15 ⟨by decide, by decide⟩ ⟨Nat.le_of_ble_eq_true rfl, Nat.le_of_ble_eq_true rfl⟩ (fun u hu => ?_)
  refine x_iload_n S dX6_ofNode_18 1 rfl rfl ?_
  refine x_if_ne (tgt := 27) S dX6_ofNode_19 (by decide) (fun h4 => ?_) (fun h4 => ?_)
  rotate_left
  · refine x_bipush (v := -3) S dX6_ofNode_22 (by decide) ?_
    refine x_goto (tgt := 30) S dX6_ofNode_24 (by decide) ?_
    exact x_retS hret ((on, ot, we, th, u.1, u.2.1, u.2.2.1, false, u.2.2.2.1, u.2.2.2.2.1, pc, ap, pn, u.2.2.2.2.2, gr, tl, co)) (⟨hA, hL, hal, fun _ => hu, hPt⟩) ((by unfold sBranch; rw [if_pos h3, if_pos h4])) dX6_ofNode_30
  have hj0 : 1 ≤ j := Nat.pos_of_ne_zero (fun q => h4 (by rw [e, q]; rfl))
  refine x_aload_n S dX6_ofNode_27 2 rfl rfl ?_
  refine x_iload_n S dX6_ofNode_28 1 rfl rfl ?_
  refine x_ialdN S 9 0 (j) rfl rfl e (by omega) (by decide) dX6_ofNode_29 ?_
  exact x_retS hret ((on, ot, we, th, u.1, u.2.1, u.2.2.1, false, u.2.2.2.1, u.2.2.2.2.1, pc, ap, pn, u.2.2.2.2.2, gr, tl, co)) (⟨hA, hL, hal, fun _ => hu, hPt⟩) ((by unfold sBranch; rw [if_pos h3, if_neg h4, f, hu.2.2.2 j hj0 hj])) dX6_ofNode_30
set_option maxHeartbeats 4000000 in
set_option maxRecDepth 100000 in
theorem q_parent (v : Int32) (h : MS) (hI : mInv n am al fr to wt h) : xMetS l yX6_parent wX6_parent (rD 16) D vwCl (tyC cI cII cP cZ) nwC [.ref (bd 0), .int v] (mwH bd cI cZ n am al h ++ X) (fun h' : MS => mInv n am al fr to wt h') (fun h' => mwH bd cI cZ n am al h' ++ X) (fun _ => some (.int (sParent n am fr to wt v))) := by
  obtain ⟨on, ot, we, th, be, ne, cu, nw, pa, br, pc, ap, pn, ls, gr, tl, co⟩ := h
  obtain ⟨hA, hL, hal, hV, hPt⟩ := hI
  have hn := hA.1
  refine xMetS_of (cc := cX6_parent) (maxL := 2) (ret := (some .int)) (by decide +kernel) rfl (Nat.le_of_ble_eq_true rfl) (fun _ _ => xfi) ?_
  intro E S hnm hret
  show xW E D vwCl 2 0 0 (mw bd cI cZ n am al on ot we th be ne cu nw pa br pc ap pn ls gr tl co ++ X) [(0, .ref (bd 0)), (1, .int v)] 0 []
  refine x_aload_n S dX6_parent_0 0 rfl rfl ?_
  refine x_iload_n S dX6_parent_1 1 rfl rfl ?_
  refine x_aload_n S dX6_parent_2 0 rfl rfl ?_
  refine x_get S 0 11 rfl rfl inC6 (by decide) (gC _ tw476) rfl rfl dX6_parent_3 ?_
  refine x_cViS (n := 2) S (q_ofP v (on, ot, we, th, be, ne, cu, nw, pa, br, pc, ap, pn, ls, gr, tl, co) ⟨hA, hL, hal, hV, hPt⟩) (gGV gC tw586 tw583 tw585 ts20 tw7) rfl (by decide +kernel) 0 rfl rfl rfl rfl (Nat.le_of_ble_eq_true rfl) dX6_parent_6 ⟨by decide, by decide⟩ ⟨Nat.le_of_ble_eq_true rfl, Nat.le_of_ble_eq_true rfl⟩ (fun h' hI' => ?_)
  exact x_retS hret (h') (hI') (rfl) dX6_parent_9
set_option maxHeartbeats 4000000 in
set_option maxRecDepth 100000 in
theorem q_branch (v : Int32) (h : MS) (hI : mInv n am al fr to wt h) : xMetS l yX6_branch wX6_branch (rD 16) D vwCl (tyC cI cII cP cZ) nwC [.ref (bd 0), .int v] (mwH bd cI cZ n am al h ++ X) (fun h' : MS => mInv n am al fr to wt h') (fun h' => mwH bd cI cZ n am al h' ++ X) (fun _ => some (.int (sBranch n am fr to wt v))) := by
  obtain ⟨on, ot, we, th, be, ne, cu, nw, pa, br, pc, ap, pn, ls, gr, tl, co⟩ := h
  obtain ⟨hA, hL, hal, hV, hPt⟩ := hI
  have hn := hA.1
  refine xMetS_of (cc := cX6_branch) (maxL := 2) (ret := (some .int)) (by decide +kernel) rfl (Nat.le_of_ble_eq_true rfl) (fun _ _ => xfi) ?_
  intro E S hnm hret
  show xW E D vwCl 2 0 0 (mw bd cI cZ n am al on ot we th be ne cu nw pa br pc ap pn ls gr tl co ++ X) [(0, .ref (bd 0)), (1, .int v)] 0 []
  refine x_aload_n S dX6_branch_0 0 rfl rfl ?_
  refine x_iload_n S dX6_branch_1 1 rfl rfl ?_
  refine x_aload_n S dX6_branch_2 0 rfl rfl ?_
  refine x_get S 0 12 rfl rfl inC6 (by decide) (gC _ tw477) rfl rfl dX6_branch_3 ?_
  refine x_cViS (n := 2) S (q_ofB v (on, ot, we, th, be, ne, cu, nw, pa, br, pc, ap, pn, ls, gr, tl, co) ⟨hA, hL, hal, hV, hPt⟩) (gGV gC tw586 tw583 tw585 ts20 tw7) rfl (by decide +kernel) 0 rfl rfl rfl rfl (Nat.le_of_ble_eq_true rfl) dX6_branch_6 ⟨by decide, by decide⟩ ⟨Nat.le_of_ble_eq_true rfl, Nat.le_of_ble_eq_true rfl⟩ (fun h' hI' => ?_)
  exact x_retS hret (h') (hI') (rfl) dX6_branch_9
set_option maxHeartbeats 4000000 in
set_option maxRecDepth 100000 in
theorem m_leastCut (hA : aOK n am fr to wt) (hL : aRel am on ot we th fr to wt) (hV : nw = false → bOK am fr to wt be ne ∧ vOK n am fr to wt cu ∧ trOK n am fr to wt pa br) : xMetS l yX6_leastCut wX6_leastCut (rD 4) D vwCl (tyC cI cII cP cZ) nwC [.ref (bd 0)] (mw bd cI cZ n am al on ot we th be ne cu nw pa br pc ap pn ls gr tl co ++ X) (fun u : (Nat → Nat) × (Nat → Nat) × (Nat → Nat) × (Nat → Nat) × (Nat → Nat) × Int32 => bOK am fr to wt u.1 u.2.1 ∧ vOK n am fr to wt u.2.2.1 ∧ trOK n am fr to wt u.2.2.2.1 u.2.2.2.2.1) (fun u => (mw bd cI cZ n am al on ot we th u.1 u.2.1 u.2.2.1 false u.2.2.2.1 u.2.2.2.2.1 pc ap pn u.2.2.2.2.2 gr tl co ++ X)) (fun _ => some (.int (if 1 < n then nI (kC fr to wt am (kE (kC fr to wt am) n)) else -1))) := by
  refine xMetS_of (cc := cX6_leastCut) (maxL := 3) (ret := (some .int)) (by decide +kernel) rfl (Nat.le_of_ble_eq_true rfl) (fun _ _ => xfi) ?_
  intro E S hnm hret
  show xW E D vwCl 3 0 0 _ [(0, .ref (bd 0))] 0 []
  have hn := hA.1
  have hpn := pl_pow12 hn
  have hp0 := Nat.two_pow_pos n
  have hbd : ∀ T, kC fr to wt am T < 2 ^ 31 := fun T => by have := hA.cf T; omega
  have hcx : ∀ (c : Nat → Nat), vOK n am fr to wt c → True := fun _ _ => trivial
  refine x_aload_n S dX6_leastCut_0 0 rfl rfl ?_
  refine x_cVvS (n := 0) S (m_make hA hL hV) (gGV gC tw562 tw559 tw561 ts17 tw7) rfl (by decide +kernel) 0 rfl rfl rfl rfl (Nat.le_of_ble_eq_true rfl) dX6_leastCut_1 ⟨by decide, by decide⟩ ⟨Nat.le_of_ble_eq_true rfl, Nat.le_of_ble_eq_true rfl⟩ (fun u hu => ?_)
  have L : ∀ s, s ≤ 2 ^ n - 1 → 2 ≤ s → ∀ F, isFM (kC fr to wt am) (fun T => 1 ≤ T ∧ T < s) F → xW E D vwCl 3 0 0 (mw bd cI cZ n am al on ot we th u.1 u.2.1 u.2.2.1 false u.2.2.2.1 u.2.2.2.2.1 pc ap pn u.2.2.2.2.2 gr tl co ++ X) [(0, .ref (bd 0)), (1, .int (nI (kC fr to wt am F))), (2, .int (nI s))] 8 [] := by
    refine pl_up (2 ^ n - 1) (fun s hs ih => ?_)
    intro hs2 F hF
    refine x_iload_n S dX6_leastCut_8 2 rfl rfl ?_
    refine x_aload_n S dX6_leastCut_9 0 rfl rfl ?_
    refine x_cVi (n := 0) S (m_all hn) (gGV gC tw558 tw555 tw557 ts16 tw7) rfl (by decide +kernel) 0 rfl rfl rfl rfl (Nat.le_of_ble_eq_true rfl) dX6_leastCut_10 ⟨by decide, by decide⟩ ⟨Nat.le_of_ble_eq_true rfl, Nat.le_of_ble_eq_true rfl⟩ ?_
    refine x_icmp_ge (tgt := 43) S dX6_leastCut_13 (by decide) (fun h1 => ?_) (fun h1 => ?_)
    · have hs3 : s = 2 ^ n - 1 := Nat.le_antisymm hs ((nI_leI (by omega) (by omega)).mp h1)
      rw [hs3] at hF
      have h2n : 2 ≤ n := by
        rcases Nat.lt_or_ge n 2 with q | q
        · have := Nat.pow_le_pow_right (n := 2) (by omega) (show n ≤ 1 by omega); omega
        · exact q
      refine x_iload_n S dX6_leastCut_43 1 rfl rfl ?_
      exact x_retS hret u hu (by rw [if_pos (show 1 < n by omega), least_eq hA h2n hF]) dX6_leastCut_44
    have hs3 : s < 2 ^ n - 1 := Nat.lt_of_not_le (fun q => h1 (nI_le q (by omega)))
    have ih := ih hs3 (by omega)
    have hcs := hu.2.1 s (by omega)
    have hst := isFM_step (Q := fun T => 1 ≤ T ∧ T < s + 1) (T := s) hF (fun U => ⟨fun q => (Nat.lt_or_ge U s).elim (fun z => Or.inl ⟨q.1, z⟩) (fun z => Or.inr (by omega)), fun q => q.elim (fun z => ⟨z.1, by omega⟩) (fun z => ⟨by omega, by omega⟩)⟩) (fun U q => q.2)
    have ih := ih _ hst
    refine x_iload_n S dX6_leastCut_16 1 rfl rfl ?_
    refine x_if_lt (tgt := 30) S dX6_leastCut_17 (by decide) (fun h3 => ?_) (fun h3 => ?_)
    · exact absurd h3 (nI_pos (hbd F))
    refine x_aload_n S dX6_leastCut_20 0 rfl rfl ?_
    refine x_get S 0 9 rfl rfl inC6 (by decide) (gC _ tw474) rfl rfl dX6_leastCut_21 ?_
    refine x_iload_n S dX6_leastCut_24 2 rfl rfl ?_
    refine x_ialdN S 7 0 (s) rfl rfl rfl (by omega) (by decide) dX6_leastCut_25 ?_
    rw [hcs]
    refine x_iload_n S dX6_leastCut_26 1 rfl rfl ?_
    refine x_icmp_ge (tgt := 37) S dX6_leastCut_27 (by decide) (fun h4 => ?_) (fun h4 => ?_)
    rotate_left
    · rw [if_pos (Nat.lt_of_not_le (fun q => h4 (nI_le q (hbd s))))] at ih
      refine x_aload_n S dX6_leastCut_30 0 rfl rfl ?_
      refine x_get S 0 9 rfl rfl inC6 (by decide) (gC _ tw474) rfl rfl dX6_leastCut_31 ?_
      refine x_iload_n S dX6_leastCut_34 2 rfl rfl ?_
      refine x_ialdN S 7 0 (s) rfl rfl rfl (by omega) (by decide) dX6_leastCut_35 ?_
      rw [hcs]
      refine x_istore_n (lv' := [(1, .int _), (0, .ref _), (2, .int _)]) S dX6_leastCut_36 rfl (by decide) rfl ?_
      refine x_iincN (lv' := [(2, .int _), (1, .int _), (0, .ref _)]) S dX6_leastCut_37 2 rfl (by decide) rfl ?_
      refine x_goto (tgt := 8) S dX6_leastCut_40 (by decide) ?_
      exact x_sub [2, 1, 0] rfl (ih)
    rw [if_neg (fun q => nI_ge q (hbd F) h4)] at ih
    refine x_iincN (lv' := [(2, .int _), (0, .ref _), (1, .int _)]) S dX6_leastCut_37 2 rfl (by decide) rfl ?_
    refine x_goto (tgt := 8) S dX6_leastCut_40 (by decide) ?_
    exact x_sub [1, 2, 0] rfl (ih)
  refine x_iconst (v := -1) S dX6_leastCut_4 rfl ?_
  refine x_istore_n (lv' := [(1, .int _), (0, .ref _)]) S dX6_leastCut_5 rfl (by decide) rfl ?_
  refine x_iconst (v := 1) S dX6_leastCut_6 rfl ?_
  refine x_istore_n (lv' := [(2, .int _), (1, .int _), (0, .ref _)]) S dX6_leastCut_7 rfl (by decide) rfl ?_
  refine x_iload_n S dX6_leastCut_8 0 rfl rfl ?_
  refine x_aload_n S dX6_leastCut_9 2 rfl rfl ?_
  refine x_cVi (n := 0) S (m_all hn) (gGV gC tw558 tw555 tw557 ts16 tw7) rfl (by decide +kernel) 0 rfl rfl rfl rfl (Nat.le_of_ble_eq_true rfl) dX6_leastCut_10 ⟨by decide, by decide⟩ ⟨Nat.le_of_ble_eq_true rfl, Nat.le_of_ble_eq_true rfl⟩ ?_
  refine x_icmp_ge (tgt := 43) S dX6_leastCut_13 (by decide) (fun h1 => ?_) (fun h1 => ?_)
  · have h1 := (nI_leI (b := 1) (by omega) (by omega)).mp h1
    have h2n : ¬ 1 < n := fun q => by
      have := Nat.pow_le_pow_right (n := 2) (by omega) (show 2 ≤ n by omega); omega
    refine x_iload_n S dX6_leastCut_43 1 rfl rfl ?_
    exact x_retS hret u hu (by rw [if_neg h2n]) dX6_leastCut_44
  have h1 : 1 < 2 ^ n - 1 := Nat.lt_of_not_le (fun q => h1 (nI_le (b := 1) q (by omega)))
  have hcs := hu.2.1 1 (by omega)
  refine x_iload_n S dX6_leastCut_16 1 rfl rfl ?_
  refine x_if_lt (tgt := 30) S dX6_leastCut_17 (by decide) (fun h3 => ?_) (fun h3 => ?_)
  · refine x_aload_n S dX6_leastCut_30 2 rfl rfl ?_
    refine x_get S 0 9 rfl rfl inC6 (by decide) (gC _ tw474) rfl rfl dX6_leastCut_31 ?_
    refine x_iload_n S dX6_leastCut_34 0 rfl rfl ?_
    refine x_ialdN S 7 0 (1) rfl rfl rfl (by omega) (by decide) dX6_leastCut_35 ?_
    rw [hcs]
    refine x_istore_n (lv' := [(1, .int _), (2, .int _), (0, .ref _)]) S dX6_leastCut_36 rfl (by decide) rfl ?_
    refine x_iincN (lv' := [(2, .int _), (1, .int _), (0, .ref _)]) S dX6_leastCut_37 1 rfl (by decide) rfl ?_
    refine x_goto (tgt := 8) S dX6_leastCut_40 (by decide) ?_
    exact x_sub [2, 1, 0] rfl (L 2 (by omega) (Nat.le_refl _) 1 (isFM_one (fun U => ⟨fun q => by omega, fun q => by omega⟩)))
  exact absurd (by decide) h3
set_option maxHeartbeats 4000000 in
set_option maxRecDepth 100000 in
theorem q_least  (h : MS) (hI : mInv n am al fr to wt h) : xMetS l yX6_least wX6_least (rD 16) D vwCl (tyC cI cII cP cZ) nwC [.ref (bd 0)] (mwH bd cI cZ n am al h ++ X) (fun h' : MS => mInv n am al fr to wt h') (fun h' => mwH bd cI cZ n am al h' ++ X) (fun _ => some (.int (sLeast n am fr to wt))) := by
  obtain ⟨on, ot, we, th, be, ne, cu, nw, pa, br, pc, ap, pn, ls, gr, tl, co⟩ := h
  obtain ⟨hA, hL, hal, hV, hPt⟩ := hI
  have hn := hA.1
  refine xMetS_of (cc := cX6_least) (maxL := 1) (ret := (some .int)) (by decide +kernel) rfl (Nat.le_of_ble_eq_true rfl) (fun _ _ => xfi) ?_
  intro E S hnm hret
  show xW E D vwCl 1 0 0 (mw bd cI cZ n am al on ot we th be ne cu nw pa br pc ap pn ls gr tl co ++ X) [(0, .ref (bd 0))] 0 []
  refine x_aload_n S dX6_least_0 0 rfl rfl ?_
  refine x_get S 0 0 rfl rfl inC6 (by decide) (gC _ tw465) rfl rfl dX6_least_1 ?_
  refine x_iconst (v := 2) S dX6_least_4 rfl ?_
  refine x_icmp_ge (tgt := 13) S dX6_least_5 (by decide) (fun h1 => ?_) (fun h1 => ?_)
  · have h1 : 2 ≤ n := (nI_leI (a := 2) (by omega) (by omega)).mp h1
    refine x_aload_n S dX6_least_13 0 rfl rfl ?_
    refine x_cViS (n := 0) S (m_leastCut hA hL hV) (gGV gC tw607 tw604 tw606 ts22 tw7) rfl (by decide +kernel) 0 rfl rfl rfl rfl (Nat.le_of_ble_eq_true rfl) dX6_least_14 ⟨by decide, by decide⟩ ⟨Nat.le_of_ble_eq_true rfl, Nat.le_of_ble_eq_true rfl⟩ (fun u hu => ?_)
    exact x_retS hret ((on, ot, we, th, u.1, u.2.1, u.2.2.1, false, u.2.2.2.1, u.2.2.2.2.1, pc, ap, pn, u.2.2.2.2.2, gr, tl, co)) (⟨hA, hL, hal, fun _ => hu, hPt⟩) ((by unfold sLeast; rw [if_pos (show 1 < n by omega), if_pos (show 1 < n by omega)])) dX6_least_17
  have h1 : ¬ 1 < n := fun q => h1 (nI_le (a := 2) q (by omega))
  refine x_bipush (v := -3) S dX6_least_8 (by decide) ?_
  refine x_goto (tgt := 17) S dX6_least_10 (by decide) ?_
  exact x_retS hret ((on, ot, we, th, be, ne, cu, nw, pa, br, pc, ap, pn, ls, gr, tl, co)) (⟨hA, hL, hal, hV, hPt⟩) ((by unfold sLeast; rw [if_neg h1])) dX6_least_17
end M3
