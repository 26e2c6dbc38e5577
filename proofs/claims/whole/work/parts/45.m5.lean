/-! the reference: contracts, 5 -/
section M5
theorem i32_nat (s : Int32) : ∃ x, x < 2 ^ 32 ∧ s = nI x := ⟨s.toBitVec.toNat, s.toBitVec.isLt, by
  apply Int32.toBitVec_inj.1
  show s.toBitVec = BitVec.ofNat 32 s.toBitVec.toNat
  rw [BitVec.ofNat_toNat, BitVec.setWidth_eq]⟩
theorem nI_zero {y : Nat} (hy : y < 2 ^ 32) (h : nI y = 0) : y = 0 := by
  have h1 := pk_tn hy
  rw [h] at h1
  exact h1.symm
theorem maskI {n : Nat} (hn : n ≤ 12) (s : Int32) : s &&& (nI (2 ^ n - 1) ^^^ (-1)) = 0 ↔ 0 ≤ s ∧ s ≤ nI (2 ^ n - 1) := by
  have hp := pl_pow12 hn
  have hp0 := Nat.two_pow_pos n
  constructor
  · intro h
    obtain ⟨x, hx, rfl⟩ := i32_nat s
    rw [pl_di_I] at h
    have h2 := nI_zero (Nat.lt_of_le_of_lt (pl_di_le _ _) hx) h
    have h3 : x < 2 ^ n := lt_of_t (fun i hi => by
      have g := pl_di_t x (2 ^ n - 1) i
      rw [h2, Nat.zero_testBit, hi, Nat.testBit_two_pow_sub_one] at g
      simpa using g)
    exact ⟨nI_pos' (by omega), nI_le (by omega) (by omega)⟩
  · intro h
    obtain ⟨j, hj, rfl, -⟩ := set_of hn h
    rw [pl_di_I]
    have : pl_di j (2 ^ n - 1) = 0 := Nat.eq_of_testBit_eq (fun i => by
      rw [pl_di_t, Nat.testBit_two_pow_sub_one, Nat.zero_testBit]
      cases hb : j.testBit i with
      | false => rfl
      | true => simp [t_lt hj hb])
    rw [this]; rfl
theorem mpOK.new {n am : Nat} {fr to wt pc : Nat → Nat} {ap : Nat → Bool} {pn : Nat → Nat} (h : ∀ i, i < 5 → ap i = true) : mpOK n am fr to wt pc ap pn := fun k h1 h2 h3 => by
  rw [h k (by omega)] at h3; cases h3
theorem aRel_add {am i j ω : Nat} {on ot we : Nat → Nat} {th : Nat → Bool} {fr to wt : Nat → Nat} (h : aRel am on ot we th fr to wt) (hw : 1 ≤ ω) : aRel (am + 1) (va_up on am i) (va_up ot am j) (va_up we am ω) (va_up th am true) (va_up fr am i) (va_up to am j) (va_up wt am ω) := fun k hk => by
  by_cases e : k = am
  · subst e
    simp only [va_up_self]
    exact ⟨trivial, trivial, Or.inl ⟨trivial, trivial, hw⟩⟩
  · simp only [va_up_ne _ _ e]
    exact h k (by omega)
theorem aRel_del {am k : Nat} {on ot we : Nat → Nat} {th : Nat → Bool} {fr to wt : Nat → Nat} (h : aRel am on ot we th fr to wt) : aRel am on ot we (va_up th k false) fr to (va_up wt k 0) := fun i hi => by
  obtain ⟨h1, h2, h3⟩ := h i hi
  refine ⟨h1, h2, ?_⟩
  by_cases e : i = k
  · subst e
    rw [va_up_self, va_up_self]
    exact Or.inr ⟨rfl, rfl⟩
  · rw [va_up_ne _ _ e, va_up_ne _ _ e]
    exact h3
variable {l : Launch} {D : va_G} {bd : Nat → Nat} {cI cII cP cZ : ClassId} {n am al : Nat} {on ot we : Nat → Nat} {th : Nat → Bool} {be ne cu : Nat → Nat} {nw : Bool} {pa br pc : Nat → Nat} {ap : Nat → Bool} {pn : Nat → Nat} {ls : Int32} {gr : Nat → Nat} {tl : Nat → Int32} {co : Nat → Nat} {fr to wt : Nat → Nat} {X : va_W}
set_option maxHeartbeats 4000000 in
set_option maxRecDepth 100000 in
theorem q_cut (s : Int32) (h : MS) (hI : mInv n am al fr to wt h) : xMetS l yX6_cut wX6_cut (rD 16) D vwCl (tyC cI cII cP cZ) nwC [.ref (bd 0), .int s] (mwH bd cI cZ n am al h ++ X) (fun h' : MS => mInv n am al fr to wt h') (fun h' => mwH bd cI cZ n am al h' ++ X) (fun _ => some (.int (sCut n am fr to wt s))) := by
  obtain ⟨on, ot, we, th, be, ne, cu, nw, pa, br, pc, ap, pn, ls, gr, tl, co⟩ := h
  obtain ⟨hA, hL, hal, hV, hPt⟩ := hI
  have hn := hA.1
  refine xMetS_of (cc := cX6_cut) (maxL := 2) (ret := (some .int)) (by decide +kernel) rfl (Nat.le_of_ble_eq_true rfl) (fun _ _ => xfi) ?_
  intro E S hnm hret
  show xW E D vwCl 2 0 0 (mw bd cI cZ n am al on ot we th be ne cu nw pa br pc ap pn ls gr tl co ++ X) [(0, .ref (bd 0)), (1, .int s)] 0 []
  refine x_iload_n S dX6_cut_0 1 rfl rfl ?_
  refine x_aload_n S dX6_cut_1 0 rfl rfl ?_
  refine x_cVi (n := 0) S (m_all hn) (gGV gC tw558 tw555 tw557 ts16 tw7) rfl (by decide +kernel) 0 rfl rfl rfl rfl (Nat.le_of_ble_eq_true rfl) dX6_cut_2 ⟨by decide, by decide⟩ ⟨Nat.le_of_ble_eq_true rfl, Nat.le_of_ble_eq_true rfl⟩ ?_
  refine x_iconst (v := -1) S dX6_cut_5 rfl ?_
  refine x_ixor S dX6_cut_6 ?_
  refine x_iand S dX6_cut_7 ?_
  refine x_if_eq (tgt := 14) S dX6_cut_8 (by decide) (fun h1 => ?_) (fun h1 => ?_)
  rotate_left
  · refine x_bipush (v := -2) S dX6_cut_11 (by decide) ?_
    exact x_retS hret ((on, ot, we, th, be, ne, cu, nw, pa, br, pc, ap, pn, ls, gr, tl, co)) (⟨hA, hL, hal, hV, hPt⟩) ((if_neg (fun q => h1 ((maskI hn s).mpr q))).symm) dX6_cut_13
  have h1 := (maskI hn s).mp h1
  obtain ⟨j, hj, e, f⟩ := set_of hn h1
  have hp := pl_pow12 hn
  refine x_aload_n S dX6_cut_14 0 rfl rfl ?_
  refine x_cVvS (n := 0) S (m_make hA hL hV) (gGV gC tw562 tw559 tw561 ts17 tw7) rfl (by decide +kernel) 0 rfl rfl rfl rfl (Nat.le_of_ble_eq_true rfl) dX6_cut_15 ⟨by decide, by decide⟩ ⟨Nat.le_of_ble_eq_true rfl, Nat.le_of_ble_eq_true rfl⟩ (fun u hu => ?_)
  refine x_aload_n S dX6_cut_18 0 rfl rfl ?_
  refine x_get S 0 9 rfl rfl inC6 (by decide) (gC _ tw474) rfl rfl dX6_cut_19 ?_
  refine x_iload_n S dX6_cut_22 1 rfl rfl ?_
  refine x_ialdN S 7 0 (j) rfl rfl e (by omega) (by decide) dX6_cut_23 ?_
  exact x_retS hret ((on, ot, we, th, u.1, u.2.1, u.2.2.1, false, u.2.2.2.1, u.2.2.2.2.1, pc, ap, pn, u.2.2.2.2.2, gr, tl, co)) (⟨hA, hL, hal, fun _ => hu, hPt⟩) ((by unfold sCut; rw [if_pos h1, f, hu.2.1 j hj])) dX6_cut_24
set_option maxHeartbeats 4000000 in
set_option maxRecDepth 100000 in
theorem q_node_no (h12 : ¬ n < 12) (h : MS) (hI : mInv n am al fr to wt h) : xMetS l yX6_node wX6_node (rD 16) D vwCl (tyC cI cII cP cZ) nwC [.ref (bd 0)] (mwH bd cI cZ n am al h ++ X) (fun h' : MS => mInv n am al fr to wt h') (fun h' => mwH bd cI cZ n am al h' ++ X) (fun _ => some (.int (-4))) := by
  obtain ⟨on, ot, we, th, be, ne, cu, nw, pa, br, pc, ap, pn, ls, gr, tl, co⟩ := h
  obtain ⟨hA, hL, hal, hV, hPt⟩ := hI
  have hn := hA.1
  refine xMetS_of (cc := cX6_node) (maxL := 1) (ret := (some .int)) (by decide +kernel) rfl (Nat.le_of_ble_eq_true rfl) (fun _ _ => xfi) ?_
  intro E S hnm hret
  show xW E D vwCl 1 0 0 (mw bd cI cZ n am al on ot we th be ne cu nw pa br pc ap pn ls gr tl co ++ X) [(0, .ref (bd 0))] 0 []
  refine x_aload_n S dX6_node_0 0 rfl rfl ?_
  refine x_get S 0 0 rfl rfl inC6 (by decide) (gC _ tw465) rfl rfl dX6_node_1 ?_
  refine x_bipush (v := 12) S dX6_node_4 (by decide) ?_
  refine x_icmp_ne (tgt := 12) S dX6_node_6 (by decide) (fun h1 => ?_) (fun h1 => ?_)
  rotate_left
  · refine x_bipush (v := -4) S dX6_node_9 (by decide) ?_
    exact x_retS hret ((on, ot, we, th, be, ne, cu, nw, pa, br, pc, ap, pn, ls, gr, tl, co)) (⟨hA, hL, hal, hV, hPt⟩) (rfl) dX6_node_11
  exact absurd (by rw [show n = 12 by omega]; rfl) h1
set_option maxHeartbeats 4000000 in
set_option maxRecDepth 100000 in
theorem q_node_ok (h12 : n < 12) (h : MS) (hI : mInv n am al fr to wt h) : xMetS l yX6_node wX6_node (rD 16) D vwCl (tyC cI cII cP cZ) nwC [.ref (bd 0)] (mwH bd cI cZ n am al h ++ X) (fun h' : MS => mInv (n + 1) am al fr to wt h') (fun h' => mwH bd cI cZ (n + 1) am al h' ++ X) (fun _ => some (.int (nI n))) := by
  obtain ⟨on, ot, we, th, be, ne, cu, nw, pa, br, pc, ap, pn, ls, gr, tl, co⟩ := h
  obtain ⟨hA, hL, hal, hV, hPt⟩ := hI
  have hn := hA.1
  refine xMetS_of (cc := cX6_node) (maxL := 1) (ret := (some .int)) (by decide +kernel) rfl (Nat.le_of_ble_eq_true rfl) (fun _ _ => xfi) ?_
  intro E S hnm hret
  show xW E D vwCl 1 0 0 (mw bd cI cZ n am al on ot we th be ne cu nw pa br pc ap pn ls gr tl co ++ X) [(0, .ref (bd 0))] 0 []
  refine x_aload_n S dX6_node_0 0 rfl rfl ?_
  refine x_get S 0 0 rfl rfl inC6 (by decide) (gC _ tw465) rfl rfl dX6_node_1 ?_
  refine x_bipush (v := 12) S dX6_node_4 (by decide) ?_
  refine x_icmp_ne (tgt := 12) S dX6_node_6 (by decide) (fun h1 => ?_) (fun h1 => ?_)
  · refine x_aload_n S dX6_node_12 0 rfl rfl ?_
    refine x_cVvS (n := 0) S (m_changed) (gGV gC tw534 tw531 tw533 ts14 tw7) rfl (by decide +kernel) 0 rfl rfl rfl rfl (Nat.le_of_ble_eq_true rfl) dX6_node_13 ⟨by decide, by decide⟩ ⟨Nat.le_of_ble_eq_true rfl, Nat.le_of_ble_eq_true rfl⟩ (fun p hp => ?_)
    refine x_aload_n S dX6_node_16 0 rfl rfl ?_
    refine x_dup S dX6_node_17 rfl ?_
    refine x_get S 0 0 rfl rfl inC6 (by decide) (gC _ tw465) rfl rfl dX6_node_18 ?_
    refine x_iconst (v := 1) S dX6_node_21 rfl ?_
    refine x_iadd S dX6_node_22 ?_
    refine x_top (nI (n + 1)) (nI_1 n) ?_
    refine x_put (ws' := (mw bd cI cZ (n + 1) am al on ot we th be ne cu true pa br pc p pn ls gr tl co ++ X)) S 0 0 rfl rfl inC6 tyX6 tyX6_ok nmX6 (by decide) (gC _ tw465) rfl rfl (tyX6_ok 0 (by decide)) rfl rfl (Nat.le_of_ble_eq_true rfl) dX6_node_23 rfl ?_
    refine x_aload_n S dX6_node_26 0 rfl rfl ?_
    refine x_get S 0 0 rfl rfl inC6 (by decide) (gC _ tw465) rfl rfl dX6_node_27 ?_
    refine x_iconst (v := 1) S dX6_node_30 rfl ?_
    refine x_isub S dX6_node_31 ?_
    exact x_retS hret ((on, ot, we, th, be, ne, cu, true, pa, br, pc, p, pn, ls, gr, tl, co)) (⟨⟨by omega, hA.2.1, fun i hi => by obtain ⟨f1, f2, f3, f4⟩ := hA.2.2 i hi; exact ⟨by omega, by omega, f3, f4⟩⟩, hL, hal, (fun q => by cases q), mpOK.new hp⟩) ((nI_pred n)) dX6_node_32
  exact absurd (pl_inj (b := 12) (by omega) (by omega) h1) (by omega)
set_option maxHeartbeats 4000000 in
set_option maxRecDepth 100000 in
theorem q_arc_no (a b w : Int32) (hno : ¬ (isP2 n a b ∧ 1 ≤ w ∧ w ≤ 1000 ∧ am < 50)) (h : MS) (hI : mInv n am al fr to wt h) : xMetS l yX6_arc wX6_arc (rD 16) D vwCl (tyC cI cII cP cZ) nwC [.ref (bd 0), .int a, .int b, .int w] (mwH bd cI cZ n am al h ++ X) (fun h' : MS => mInv n am al fr to wt h') (fun h' => mwH bd cI cZ n am al h' ++ X) (fun _ => some (.int (if isP2 n a b then (if w < 1 ∨ 1000 < w then -2 else -4) else -1))) := by
  obtain ⟨on, ot, we, th, be, ne, cu, nw, pa, br, pc, ap, pn, ls, gr, tl, co⟩ := h
  obtain ⟨hA, hL, hal, hV, hPt⟩ := hI
  have hn := hA.1
  refine xMetS_of (cc := cX6_arc) (maxL := 4) (ret := (some .int)) (by decide +kernel) rfl (Nat.le_of_ble_eq_true rfl) (fun _ _ => xfi) ?_
  intro E S hnm hret
  show xW E D vwCl 4 0 0 (mw bd cI cZ n am al on ot we th be ne cu nw pa br pc ap pn ls gr tl co ++ X) [(0, .ref (bd 0)), (1, .int a), (2, .int b), (3, .int w)] 0 []
  refine x_aload_n S dX6_arc_0 0 rfl rfl ?_
  refine x_iload_n S dX6_arc_1 1 rfl rfl ?_
  refine x_iload_n S dX6_arc_2 2 rfl rfl ?_
  refine x_cVi (n := 2) S (m_areTwo a b) (gGV gC tw542 tw539 tw541 ts15 tw7) rfl (by decide +kernel) 0 rfl rfl rfl rfl (Nat.le_of_ble_eq_true rfl) dX6_arc_3 ⟨by decide, by decide⟩ ⟨Nat.le_of_ble_eq_true rfl, Nat.le_of_ble_eq_true rfl⟩ ?_
  refine x_if_neB (tgt := 11) S dX6_arc_6 (by decide) (fun h1 => ?_) (fun h1 => ?_)
  rotate_left
  · refine x_iconst (v := -1) S dX6_arc_9 rfl ?_
    exact x_retS hret ((on, ot, we, th, be, ne, cu, nw, pa, br, pc, ap, pn, ls, gr, tl, co)) (⟨hA, hL, hal, hV, hPt⟩) ((if_neg h1).symm) dX6_arc_10
  refine x_iload_n S dX6_arc_11 3 rfl rfl ?_
  refine x_iconst (v := 1) S dX6_arc_12 rfl ?_
  refine x_icmp_lt (tgt := 23) S dX6_arc_13 (by decide) (fun h2 => ?_) (fun h2 => ?_)
  · refine x_bipush (v := -2) S dX6_arc_23 (by decide) ?_
    exact x_retS hret ((on, ot, we, th, be, ne, cu, nw, pa, br, pc, ap, pn, ls, gr, tl, co)) (⟨hA, hL, hal, hV, hPt⟩) ((by rw [if_pos h1, if_pos (Or.inl h2)])) dX6_arc_25
  refine x_iload_n S dX6_arc_16 3 rfl rfl ?_
  refine x_sipush (v := 1000) S dX6_arc_17 (by decide) ?_
  refine x_icmp_le (tgt := 26) S dX6_arc_20 (by decide) (fun h3 => ?_) (fun h3 => ?_)
  rotate_left
  · refine x_bipush (v := -2) S dX6_arc_23 (by decide) ?_
    exact x_retS hret ((on, ot, we, th, be, ne, cu, nw, pa, br, pc, ap, pn, ls, gr, tl, co)) (⟨hA, hL, hal, hV, hPt⟩) ((by rw [if_pos h1, if_pos (Or.inr (Int32.not_le.mp h3))])) dX6_arc_25
  have h50 : ¬ am < 50 := fun q => hno ⟨h1, Int32.not_lt.mp h2, h3, q⟩
  have ham := hA.2.1
  refine x_aload_n S dX6_arc_26 0 rfl rfl ?_
  refine x_get S 0 1 rfl rfl inC6 (by decide) (gC _ tw466) rfl rfl dX6_arc_27 ?_
  refine x_bipush (v := 50) S dX6_arc_30 (by decide) ?_
  refine x_icmp_ne (tgt := 38) S dX6_arc_32 (by decide) (fun h4 => ?_) (fun h4 => ?_)
  rotate_left
  · refine x_bipush (v := -4) S dX6_arc_35 (by decide) ?_
    exact x_retS hret ((on, ot, we, th, be, ne, cu, nw, pa, br, pc, ap, pn, ls, gr, tl, co)) (⟨hA, hL, hal, hV, hPt⟩) ((by rw [if_pos h1, if_neg (fun q => q.elim h2 (fun q => Int32.not_lt.mpr h3 q))])) dX6_arc_37
  exact absurd (by rw [show am = 50 by omega]; rfl) h4
set_option maxHeartbeats 4000000 in
set_option maxRecDepth 100000 in
theorem q_arc_ok {i j ω : Nat} (hi : i < n) (hj : j < n) (hij : i ≠ j) (hw1 : 1 ≤ ω) (hw2 : ω ≤ 1000) (h50 : am < 50) (h : MS) (hI : mInv n am al fr to wt h) : xMetS l yX6_arc wX6_arc (rD 16) D vwCl (tyC cI cII cP cZ) nwC [.ref (bd 0), .int (nI i), .int (nI j), .int (nI ω)] (mwH bd cI cZ n am al h ++ X) (fun h' : MS => mInv n (am + 1) (al + 1) (va_up fr am i) (va_up to am j) (va_up wt am ω) h') (fun h' => mwH bd cI cZ n (am + 1) (al + 1) h' ++ X) (fun _ => some (.int (nI am))) := by
  obtain ⟨on, ot, we, th, be, ne, cu, nw, pa, br, pc, ap, pn, ls, gr, tl, co⟩ := h
  obtain ⟨hA, hL, hal, hV, hPt⟩ := hI
  have hn := hA.1
  refine xMetS_of (cc := cX6_arc) (maxL := 4) (ret := (some .int)) (by decide +kernel) rfl (Nat.le_of_ble_eq_true rfl) (fun _ _ => xfi) ?_
  intro E S hnm hret
  show xW E D vwCl 4 0 0 (mw bd cI cZ n am al on ot we th be ne cu nw pa br pc ap pn ls gr tl co ++ X) [(0, .ref (bd 0)), (1, .int (nI i)), (2, .int (nI j)), (3, .int (nI ω))] 0 []
  have hp : isP2 n (nI i) (nI j) := ⟨⟨nI_pos' (by omega), nI_lt hi (by omega)⟩, ⟨nI_pos' (by omega), nI_lt hj (by omega)⟩, fun q => hij (pl_inj (by omega) (by omega) q)⟩
  refine x_aload_n S dX6_arc_0 0 rfl rfl ?_
  refine x_iload_n S dX6_arc_1 1 rfl rfl ?_
  refine x_iload_n S dX6_arc_2 2 rfl rfl ?_
  refine x_cVi (n := 2) S (m_areTwo (nI i) (nI j)) (gGV gC tw542 tw539 tw541 ts15 tw7) rfl (by decide +kernel) 0 rfl rfl rfl rfl (Nat.le_of_ble_eq_true rfl) dX6_arc_3 ⟨by decide, by decide⟩ ⟨Nat.le_of_ble_eq_true rfl, Nat.le_of_ble_eq_true rfl⟩ ?_
  refine x_if_neB (tgt := 11) S dX6_arc_6 (by decide) (fun h1 => ?_) (fun h1 => ?_)
  rotate_left
  · exact absurd hp h1
  refine x_iload_n S dX6_arc_11 3 rfl rfl ?_
  refine x_iconst (v := 1) S dX6_arc_12 rfl ?_
  refine x_icmp_lt (tgt := 23) S dX6_arc_13 (by decide) (fun h2 => ?_) (fun h2 => ?_)
  · exact absurd h2 (nI_nlt (b := 1) (by omega) (by omega))
  refine x_iload_n S dX6_arc_16 3 rfl rfl ?_
  refine x_sipush (v := 1000) S dX6_arc_17 (by decide) ?_
  refine x_icmp_le (tgt := 26) S dX6_arc_20 (by decide) (fun h3 => ?_) (fun h3 => ?_)
  rotate_left
  · exact absurd (nI_le (b := 1000) hw2 (by omega)) h3
  refine x_aload_n S dX6_arc_26 0 rfl rfl ?_
  refine x_get S 0 1 rfl rfl inC6 (by decide) (gC _ tw466) rfl rfl dX6_arc_27 ?_
  refine x_bipush (v := 50) S dX6_arc_30 (by decide) ?_
  refine x_icmp_ne (tgt := 38) S dX6_arc_32 (by decide) (fun h4 => ?_) (fun h4 => ?_)
  rotate_left
  · exact absurd (pl_inj (b := 50) (by omega) (by omega) h4) (by omega)
  refine x_aload_n S dX6_arc_38 0 rfl rfl ?_
  refine x_get S 0 3 rfl rfl inC6 (by decide) (gC _ tw468) rfl rfl dX6_arc_39 ?_
  refine x_aload_n S dX6_arc_42 0 rfl rfl ?_
  refine x_get S 0 1 rfl rfl inC6 (by decide) (gC _ tw466) rfl rfl dX6_arc_43 ?_
  refine x_iload_n S dX6_arc_46 1 rfl rfl ?_
  refine x_iastN (ws' := (mw bd cI cZ n am al (va_up on am i) ot we th be ne cu nw pa br pc ap pn ls gr tl co ++ X)) S 1 0 (am) rfl rfl rfl (by omega) (by decide) rfl dX6_arc_47 rfl ?_
  refine x_aload_n S dX6_arc_48 0 rfl rfl ?_
  refine x_get S 0 4 rfl rfl inC6 (by decide) (gC _ tw469) rfl rfl dX6_arc_49 ?_
  refine x_aload_n S dX6_arc_52 0 rfl rfl ?_
  refine x_get S 0 1 rfl rfl inC6 (by decide) (gC _ tw466) rfl rfl dX6_arc_53 ?_
  refine x_iload_n S dX6_arc_56 2 rfl rfl ?_
  refine x_iastN (ws' := (mw bd cI cZ n am al (va_up on am i) (va_up ot am j) we th be ne cu nw pa br pc ap pn ls gr tl co ++ X)) S 2 0 (am) rfl rfl rfl (by omega) (by decide) rfl dX6_arc_57 rfl ?_
  refine x_aload_n S dX6_arc_58 0 rfl rfl ?_
  refine x_get S 0 5 rfl rfl inC6 (by decide) (gC _ tw470) rfl rfl dX6_arc_59 ?_
  refine x_aload_n S dX6_arc_62 0 rfl rfl ?_
  refine x_get S 0 1 rfl rfl inC6 (by decide) (gC _ tw466) rfl rfl dX6_arc_63 ?_
  refine x_iload_n S dX6_arc_66 3 rfl rfl ?_
  refine x_iastN (ws' := (mw bd cI cZ n am al (va_up on am i) (va_up ot am j) (va_up we am ω) th be ne cu nw pa br pc ap pn ls gr tl co ++ X)) S 3 0 (am) rfl rfl rfl (by omega) (by decide) rfl dX6_arc_67 rfl ?_
  refine x_aload_n S dX6_arc_68 0 rfl rfl ?_
  refine x_get S 0 6 rfl rfl inC6 (by decide) (gC _ tw471) rfl rfl dX6_arc_69 ?_
  refine x_aload_n S dX6_arc_72 0 rfl rfl ?_
  refine x_get S 0 1 rfl rfl inC6 (by decide) (gC _ tw466) rfl rfl dX6_arc_73 ?_
  refine x_iconst (v := 1) S dX6_arc_76 rfl ?_
  refine x_zastB (ws' := (mw bd cI cZ n am al (va_up on am i) (va_up ot am j) (va_up we am ω) (va_up th am true) be ne cu nw pa br pc ap pn ls gr tl co ++ X)) (z := true) S 4 3 (am) rfl rfl rfl (by omega) (by decide) rfl dX6_arc_77 rfl ?_
  refine x_aload_n S dX6_arc_78 0 rfl rfl ?_
  refine x_dup S dX6_arc_79 rfl ?_
  refine x_get S 0 1 rfl rfl inC6 (by decide) (gC _ tw466) rfl rfl dX6_arc_80 ?_
  refine x_iconst (v := 1) S dX6_arc_83 rfl ?_
  refine x_iadd S dX6_arc_84 ?_
  refine x_top (nI (am + 1)) (nI_1 am) ?_
  refine x_put (ws' := (mw bd cI cZ n (am + 1) al (va_up on am i) (va_up ot am j) (va_up we am ω) (va_up th am true) be ne cu nw pa br pc ap pn ls gr tl co ++ X)) S 0 1 rfl rfl inC6 tyX6 tyX6_ok nmX6 (by decide) (gC _ tw466) rfl rfl (tyX6_ok 1 (by decide)) rfl rfl (Nat.le_of_ble_eq_true rfl) dX6_arc_85 rfl ?_
  refine x_aload_n S dX6_arc_88 0 rfl rfl ?_
  refine x_dup S dX6_arc_89 rfl ?_
  refine x_get S 0 2 rfl rfl inC6 (by decide) (gC _ tw467) rfl rfl dX6_arc_90 ?_
  refine x_iconst (v := 1) S dX6_arc_93 rfl ?_
  refine x_iadd S dX6_arc_94 ?_
  refine x_top (nI (al + 1)) (nI_1 al) ?_
  refine x_put (ws' := (mw bd cI cZ n (am + 1) (al + 1) (va_up on am i) (va_up ot am j) (va_up we am ω) (va_up th am true) be ne cu nw pa br pc ap pn ls gr tl co ++ X)) S 0 2 rfl rfl inC6 tyX6 tyX6_ok nmX6 (by decide) (gC _ tw467) rfl rfl (tyX6_ok 2 (by decide)) rfl rfl (Nat.le_of_ble_eq_true rfl) dX6_arc_95 rfl ?_
  refine x_aload_n S dX6_arc_98 0 rfl rfl ?_
  refine x_cVvS (n := 0) S (m_changed) (gGV gC tw534 tw531 tw533 ts14 tw7) rfl (by decide +kernel) 0 rfl rfl rfl rfl (Nat.le_of_ble_eq_true rfl) dX6_arc_99 ⟨by decide, by decide⟩ ⟨Nat.le_of_ble_eq_true rfl, Nat.le_of_ble_eq_true rfl⟩ (fun p hp => ?_)
  refine x_aload_n S dX6_arc_102 0 rfl rfl ?_
  refine x_get S 0 1 rfl rfl inC6 (by decide) (gC _ tw466) rfl rfl dX6_arc_103 ?_
  refine x_iconst (v := 1) S dX6_arc_106 rfl ?_
  refine x_isub S dX6_arc_107 ?_
  exact x_retS hret ((va_up on am i, va_up ot am j, va_up we am ω, va_up th am true, be, ne, cu, true, pa, br, pc, p, pn, ls, gr, tl, co)) (⟨⟨hn, by omega, fun k hk => (Nat.lt_or_ge k am).elim (fun q => by rw [va_up_ne _ _ (by omega), va_up_ne _ _ (by omega), va_up_ne _ _ (by omega)]; exact hA.2.2 k q) (fun q => by have e : k = am := (by omega); subst e; rw [va_up_self, va_up_self, va_up_self]; exact ⟨hi, hj, hij, hw2⟩)⟩, aRel_add hL hw1, by rw [kLv_add (by omega), hal], (fun q => by cases q), mpOK.new hp⟩) ((nI_pred am)) dX6_arc_108
set_option maxHeartbeats 4000000 in
set_option maxRecDepth 100000 in
theorem q_drop_no (k : Int32) (hno : ¬ (0 ≤ k ∧ k < nI am ∧ 0 < wt k.toNatClampNeg)) (h : MS) (hI : mInv n am al fr to wt h) : xMetS l yX6_drop wX6_drop (rD 16) D vwCl (tyC cI cII cP cZ) nwC [.ref (bd 0), .int k] (mwH bd cI cZ n am al h ++ X) (fun h' : MS => mInv n am al fr to wt h') (fun h' => mwH bd cI cZ n am al h' ++ X) (fun _ => some (.int (-1))) := by
  obtain ⟨on, ot, we, th, be, ne, cu, nw, pa, br, pc, ap, pn, ls, gr, tl, co⟩ := h
  obtain ⟨hA, hL, hal, hV, hPt⟩ := hI
  have hn := hA.1
  refine xMetS_of (cc := cX6_drop) (maxL := 2) (ret := (some .int)) (by decide +kernel) rfl (Nat.le_of_ble_eq_true rfl) (fun _ _ => xfi) ?_
  intro E S hnm hret
  show xW E D vwCl 2 0 0 (mw bd cI cZ n am al on ot we th be ne cu nw pa br pc ap pn ls gr tl co ++ X) [(0, .ref (bd 0)), (1, .int k)] 0 []
  have ham := hA.2.1
  refine x_iload_n S dX6_drop_0 1 rfl rfl ?_
  refine x_if_lt (tgt := 21) S dX6_drop_1 (by decide) (fun h1 => ?_) (fun h1 => ?_)
  · refine x_iconst (v := -1) S dX6_drop_21 rfl ?_
    exact x_retS hret ((on, ot, we, th, be, ne, cu, nw, pa, br, pc, ap, pn, ls, gr, tl, co)) (⟨hA, hL, hal, hV, hPt⟩) (rfl) dX6_drop_22
  refine x_iload_n S dX6_drop_4 1 rfl rfl ?_
  refine x_aload_n S dX6_drop_5 0 rfl rfl ?_
  refine x_get S 0 1 rfl rfl inC6 (by decide) (gC _ tw466) rfl rfl dX6_drop_6 ?_
  refine x_icmp_ge (tgt := 21) S dX6_drop_9 (by decide) (fun h2 => ?_) (fun h2 => ?_)
  · refine x_iconst (v := -1) S dX6_drop_21 rfl ?_
    exact x_retS hret ((on, ot, we, th, be, ne, cu, nw, pa, br, pc, ap, pn, ls, gr, tl, co)) (⟨hA, hL, hal, hV, hPt⟩) (rfl) dX6_drop_22
  obtain ⟨j, hj, e⟩ := pl_of_lt (n := am) (by omega) (Int32.not_lt.mp h1) (Int32.not_le.mp h2)
  have hcl : k.toNatClampNeg = j := by rw [e]; exact nI_clamp (by omega)
  refine x_aload_n S dX6_drop_12 0 rfl rfl ?_
  refine x_get S 0 6 rfl rfl inC6 (by decide) (gC _ tw471) rfl rfl dX6_drop_13 ?_
  refine x_iload_n S dX6_drop_16 1 rfl rfl ?_
  refine x_zaldB S 4 3 (j) rfl rfl e (by omega) (by decide) dX6_drop_17 ?_
  refine x_if_neB (tgt := 23) S dX6_drop_18 (by decide) (fun h3 => ?_) (fun h3 => ?_)
  rotate_left
  · refine x_iconst (v := -1) S dX6_drop_21 rfl ?_
    exact x_retS hret ((on, ot, we, th, be, ne, cu, nw, pa, br, pc, ap, pn, ls, gr, tl, co)) (⟨hA, hL, hal, hV, hPt⟩) (rfl) dX6_drop_22
  exact absurd ⟨Int32.not_lt.mp h1, Int32.not_le.mp h2, by rw [hcl]; exact (hL j hj).2.2.elim (fun q => q.2.2) (fun q => by have q1 : th j = false := q.1; rw [h3] at q1; cases q1)⟩ hno
set_option maxHeartbeats 4000000 in
set_option maxRecDepth 100000 in
theorem q_drop_ok {k : Nat} (hk : k < am) (hw : 0 < wt k) (h : MS) (hI : mInv n am al fr to wt h) : xMetS l yX6_drop wX6_drop (rD 16) D vwCl (tyC cI cII cP cZ) nwC [.ref (bd 0), .int (nI k)] (mwH bd cI cZ n am al h ++ X) (fun h' : MS => mInv n am (al - 1) fr to (va_up wt k 0) h') (fun h' => mwH bd cI cZ n am (al - 1) h' ++ X) (fun _ => some (.int (nI (al - 1)))) := by
  obtain ⟨on, ot, we, th, be, ne, cu, nw, pa, br, pc, ap, pn, ls, gr, tl, co⟩ := h
  obtain ⟨hA, hL, hal, hV, hPt⟩ := hI
  have hn := hA.1
  refine xMetS_of (cc := cX6_drop) (maxL := 2) (ret := (some .int)) (by decide +kernel) rfl (Nat.le_of_ble_eq_true rfl) (fun _ _ => xfi) ?_
  intro E S hnm hret
  show xW E D vwCl 2 0 0 (mw bd cI cZ n am al on ot we th be ne cu nw pa br pc ap pn ls gr tl co ++ X) [(0, .ref (bd 0)), (1, .int (nI k))] 0 []
  have ham := hA.2.1
  have hlv := kLv_del hk hw
  have hth : th k = true := (hL k hk).2.2.elim (fun q => q.1) (fun q => by omega)
  refine x_iload_n S dX6_drop_0 1 rfl rfl ?_
  refine x_if_lt (tgt := 21) S dX6_drop_1 (by decide) (fun h1 => ?_) (fun h1 => ?_)
  · exact absurd h1 (nI_pos (by omega))
  refine x_iload_n S dX6_drop_4 1 rfl rfl ?_
  refine x_aload_n S dX6_drop_5 0 rfl rfl ?_
  refine x_get S 0 1 rfl rfl inC6 (by decide) (gC _ tw466) rfl rfl dX6_drop_6 ?_
  refine x_icmp_ge (tgt := 21) S dX6_drop_9 (by decide) (fun h2 => ?_) (fun h2 => ?_)
  · exact absurd h2 (nI_ge hk (by omega))
  refine x_aload_n S dX6_drop_12 0 rfl rfl ?_
  refine x_get S 0 6 rfl rfl inC6 (by decide) (gC _ tw471) rfl rfl dX6_drop_13 ?_
  refine x_iload_n S dX6_drop_16 1 rfl rfl ?_
  refine x_zaldB S 4 3 (k) rfl rfl rfl (by omega) (by decide) dX6_drop_17 ?_
  refine x_if_neB (tgt := 23) S dX6_drop_18 (by decide) (fun h3 => ?_) (fun h3 => ?_)
  rotate_left
  · exact absurd hth h3
  refine x_aload_n S dX6_drop_23 0 rfl rfl ?_
  refine x_get S 0 6 rfl rfl inC6 (by decide) (gC _ tw471) rfl rfl dX6_drop_24 ?_
  refine x_iload_n S dX6_drop_27 1 rfl rfl ?_
  refine x_iconst (v := 0) S dX6_drop_28 rfl ?_
  refine x_zastB (ws' := (mw bd cI cZ n am al on ot we (va_up th k false) be ne cu nw pa br pc ap pn ls gr tl co ++ X)) (z := false) S 4 3 (k) rfl rfl rfl (by omega) (by decide) rfl dX6_drop_29 rfl ?_
  refine x_aload_n S dX6_drop_30 0 rfl rfl ?_
  refine x_dup S dX6_drop_31 rfl ?_
  refine x_get S 0 2 rfl rfl inC6 (by decide) (gC _ tw467) rfl rfl dX6_drop_32 ?_
  refine x_iconst (v := 1) S dX6_drop_35 rfl ?_
  refine x_isub S dX6_drop_36 ?_
  refine x_top (nI (al - 1)) (pk_sub (b := 1) (by omega)) ?_
  refine x_put (ws' := (mw bd cI cZ n am (al - 1) on ot we (va_up th k false) be ne cu nw pa br pc ap pn ls gr tl co ++ X)) S 0 2 rfl rfl inC6 tyX6 tyX6_ok nmX6 (by decide) (gC _ tw467) rfl rfl (tyX6_ok 2 (by decide)) rfl rfl (Nat.le_of_ble_eq_true rfl) dX6_drop_37 rfl ?_
  refine x_aload_n S dX6_drop_40 0 rfl rfl ?_
  refine x_cVvS (n := 0) S (m_changed) (gGV gC tw534 tw531 tw533 ts14 tw7) rfl (by decide +kernel) 0 rfl rfl rfl rfl (Nat.le_of_ble_eq_true rfl) dX6_drop_41 ⟨by decide, by decide⟩ ⟨Nat.le_of_ble_eq_true rfl, Nat.le_of_ble_eq_true rfl⟩ (fun p hp => ?_)
  refine x_aload_n S dX6_drop_44 0 rfl rfl ?_
  refine x_get S 0 2 rfl rfl inC6 (by decide) (gC _ tw467) rfl rfl dX6_drop_45 ?_
  exact x_retS hret ((on, ot, we, va_up th k false, be, ne, cu, true, pa, br, pc, p, pn, ls, gr, tl, co)) (⟨⟨hn, ham, fun i hi => by obtain ⟨g1, g2, g3, g4⟩ := hA.2.2 i hi; exact ⟨g1, g2, g3, wt_del g4⟩⟩, aRel_del hL, by omega, (fun q => by cases q), mpOK.new hp⟩) (rfl) dX6_drop_48
set_option maxHeartbeats 4000000 in
set_option maxRecDepth 100000 in
theorem q_clear  (h : MS) (hI : mInv n am al fr to wt h) : xMetS l yX6_clear wX6_clear (rD 16) D vwCl (tyC cI cII cP cZ) nwC [.ref (bd 0)] (mwH bd cI cZ n am al h ++ X) (fun h' : MS => mInv 0 0 0 fr to wt h') (fun h' => mwH bd cI cZ 0 0 0 h' ++ X) (fun _ => some (.int (nI n))) := by
  obtain ⟨on, ot, we, th, be, ne, cu, nw, pa, br, pc, ap, pn, ls, gr, tl, co⟩ := h
  obtain ⟨hA, hL, hal, hV, hPt⟩ := hI
  have hn := hA.1
  refine xMetS_of (cc := cX6_clear) (maxL := 2) (ret := (some .int)) (by decide +kernel) rfl (Nat.le_of_ble_eq_true rfl) (fun _ _ => xfi) ?_
  intro E S hnm hret
  show xW E D vwCl 2 0 0 (mw bd cI cZ n am al on ot we th be ne cu nw pa br pc ap pn ls gr tl co ++ X) [(0, .ref (bd 0))] 0 []
  refine x_aload_n S dX6_clear_0 0 rfl rfl ?_
  refine x_get S 0 0 rfl rfl inC6 (by decide) (gC _ tw465) rfl rfl dX6_clear_1 ?_
  refine x_istore_n (lv' := [(1, .int _), (0, .ref _)]) S dX6_clear_4 rfl (by decide) rfl ?_
  refine x_aload_n S dX6_clear_5 1 rfl rfl ?_
  refine x_iconst (v := 0) S dX6_clear_6 rfl ?_
  refine x_put (ws' := (mw bd cI cZ 0 am al on ot we th be ne cu nw pa br pc ap pn ls gr tl co ++ X)) S 0 0 rfl rfl inC6 tyX6 tyX6_ok nmX6 (by decide) (gC _ tw465) rfl rfl (tyX6_ok 0 (by decide)) rfl rfl (Nat.le_of_ble_eq_true rfl) dX6_clear_7 rfl ?_
  refine x_aload_n S dX6_clear_10 1 rfl rfl ?_
  refine x_iconst (v := 0) S dX6_clear_11 rfl ?_
  refine x_put (ws' := (mw bd cI cZ 0 0 al on ot we th be ne cu nw pa br pc ap pn ls gr tl co ++ X)) S 0 1 rfl rfl inC6 tyX6 tyX6_ok nmX6 (by decide) (gC _ tw466) rfl rfl (tyX6_ok 1 (by decide)) rfl rfl (Nat.le_of_ble_eq_true rfl) dX6_clear_12 rfl ?_
  refine x_aload_n S dX6_clear_15 1 rfl rfl ?_
  refine x_iconst (v := 0) S dX6_clear_16 rfl ?_
  refine x_put (ws' := (mw bd cI cZ 0 0 0 on ot we th be ne cu nw pa br pc ap pn ls gr tl co ++ X)) S 0 2 rfl rfl inC6 tyX6 tyX6_ok nmX6 (by decide) (gC _ tw467) rfl rfl (tyX6_ok 2 (by decide)) rfl rfl (Nat.le_of_ble_eq_true rfl) dX6_clear_17 rfl ?_
  refine x_aload_n S dX6_clear_20 1 rfl rfl ?_
  refine x_cVvS (n := 0) S (m_changed) (gGV gC tw534 tw531 tw533 ts14 tw7) rfl (by decide +kernel) 0 rfl rfl rfl rfl (Nat.le_of_ble_eq_true rfl) dX6_clear_21 ⟨by decide, by decide⟩ ⟨Nat.le_of_ble_eq_true rfl, Nat.le_of_ble_eq_true rfl⟩ (fun p hp => ?_)
  refine x_iload_n S dX6_clear_24 0 rfl rfl ?_
  exact x_retS hret ((on, ot, we, th, be, ne, cu, true, pa, br, pc, p, pn, ls, gr, tl, co)) (⟨⟨by omega, by omega, fun i hi => absurd hi (by omega)⟩, (fun i hi => absurd hi (by omega)), rfl, (fun q => by cases q), mpOK.new hp⟩) (rfl) dX6_clear_25
end M5
