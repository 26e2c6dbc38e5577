/-! the reference: contracts, 8 -/
section M8
/-- GROUPS as SETS and GROUPS as numbers -/
def gRel (n : Nat) (gp g : Nat → Nat) : Prop := (∀ v, v < n → gp v < 2 ^ n ∧ g v < 12) ∧ ∀ u v, u < n → v < n → ((gp v).testBit u = true ↔ g u = g v)
theorem gRel.eq {n : Nat} {gp g : Nat → Nat} (h : gRel n gp g) {u v : Nat} (hu : u < n) (hv : v < n) : gp u = gp v ↔ g u = g v := by
  constructor
  · intro e
    have := (h.2 u u hu hu).mpr rfl
    rw [e] at this
    exact (h.2 u v hu hv).mp this
  · intro e
    apply Nat.eq_of_testBit_eq
    intro i
    rcases Nat.lt_or_ge i n with q | q
    · have a := h.2 i u q hu
      have b := h.2 i v q hv
      rw [e] at a
      cases h1 : (gp u).testBit i <;> cases h2 : (gp v).testBit i <;> simp_all
    · rw [Nat.testBit_lt_two_pow (Nat.lt_of_lt_of_le (h.1 u hu).1 (Nat.pow_le_pow_right (n := 2) (by omega) q)), Nat.testBit_lt_two_pow (Nat.lt_of_lt_of_le (h.1 v hv).1 (Nat.pow_le_pow_right (n := 2) (by omega) q))]
theorem gRel.W {n am : Nat} {fr to wt gp g : Nat → Nat} (hA : aOK n am fr to wt) (h : gRel n gp g) : ∀ k, k ≤ am → dW fr to wt gp k = dW fr to wt g k := fun k hk => sm_congr (fun i hi => by
  obtain ⟨f1, f2, _, _⟩ := hA.2.2 i (by omega)
  by_cases e : g (fr i) = g (to i)
  · rw [if_pos e, if_pos ((h.eq f1 f2).mpr e)]
  · rw [if_neg e, if_neg (fun q => e ((h.eq f1 f2).mp q))])
theorem gRel.start {n : Nat} (hn : n ≤ 12) {gp g : Nat → Nat} (hg : ∀ v, v < n → g v = v) : gRel n (dI n gp) g := by
  refine ⟨fun v hv => ⟨by unfold dI; rw [if_pos hv]; exact pl_pow hv, by rw [hg v hv]; omega⟩, fun u v hu hv => ?_⟩
  unfold dI
  rw [if_pos hv, Nat.testBit_two_pow, hg u hu, hg v hv]
  exact ⟨fun q => (of_decide_eq_true q).symm, fun q => decide_eq_true q.symm⟩
theorem gRel.join {n a b : Nat} {gp g g' : Nat → Nat} (h : gRel n gp g) (ha : a < n) (hb : b < n) (hg : ∀ v, v < n → g' v = if g v = g b then g a else g v) : gRel n (dJ n gp (gp a ||| gp b)) g' := by
  have hbit : ∀ v, v < n → ((gp a ||| gp b).testBit v = true ↔ g v = g a ∨ g v = g b) := fun v hv => by
    rw [Nat.testBit_or, Bool.or_eq_true, h.2 v a hv ha, h.2 v b hv hb]
  refine ⟨fun v hv => ⟨?_, ?_⟩, fun u v hu hv => ?_⟩
  · unfold dJ
    split
    · exact Nat.or_lt_two_pow (h.1 a ha).1 (h.1 b hb).1
    · exact (h.1 v hv).1
  · rw [hg v hv]
    split
    · exact (h.1 a ha).2
    · exact (h.1 v hv).2
  · unfold dJ
    rw [hg u hu, hg v hv]
    by_cases c : g v = g a ∨ g v = g b
    · rw [if_pos ⟨hv, (hbit v hv).mpr c⟩, hbit u hu]
      have e : (if g v = g b then g a else g v) = g a := by
        rcases c with c | c
        · by_cases d : g v = g b
          · rw [if_pos d]
          · rw [if_neg d, c]
        · rw [if_pos c]
      rw [e]
      by_cases d : g u = g b
      · rw [if_pos d]; exact ⟨fun _ => rfl, fun _ => Or.inr d⟩
      · rw [if_neg d]; exact ⟨fun q => q.elim id (fun q => absurd q d), Or.inl⟩
    · rw [if_neg (fun q => c ((hbit v hv).mp q.2)), h.2 u v hu hv, if_neg (fun q => c (Or.inr q))]
      by_cases d : g u = g b
      · rw [if_pos d]
        exact ⟨fun q => absurd (Or.inr (q.symm.trans d)) c, fun q => absurd (Or.inl q.symm) c⟩
      · rw [if_neg d]
theorem gRel.fin {n : Nat} {gp g : Nat → Nat} (h : gRel n gp g) (hn : 0 < n) : bitsOf (fun u => decide (g u = g 0)) n = gp 0 := by
  apply Nat.eq_of_testBit_eq
  intro i
  rw [bitsOf_t]
  rcases Nat.lt_or_ge i n with q | q
  · have := h.2 i 0 q hn
    rw [decide_eq_true q, Bool.true_and]
    by_cases e : g i = g 0
    · rw [decide_eq_true e, this.mpr e]
    · rw [decide_eq_false e]
      cases hb : (gp 0).testBit i with
      | false => rfl
      | true => exact absurd (this.mp hb) e
  · rw [decide_eq_false (by omega), Bool.false_and, Nat.testBit_lt_two_pow (Nat.lt_of_lt_of_le (h.1 0 hn).1 (Nat.pow_le_pow_right (n := 2) (by omega) q))]
theorem bitsOf_lt {p : Nat → Bool} {k : Nat} (hk : k ≤ 12) : bitsOf p k < 4096 := lt_of_t (n := 12) (fun i h => by
  rw [bitsOf_t] at h
  simp at h; omega)
variable {l : Launch} {D : va_G} {bd : Nat → Nat} {cI cII cP cZ : ClassId} {n am al : Nat} {on ot we : Nat → Nat} {th : Nat → Bool} {be ne cu : Nat → Nat} {nw : Bool} {pa br pc : Nat → Nat} {ap : Nat → Bool} {pn : Nat → Nat} {ls : Int32} {gr : Nat → Nat} {tl : Nat → Int32} {co : Nat → Nat} {fr to wt : Nat → Nat} {X : va_W}
set_option maxHeartbeats 4000000 in
set_option maxRecDepth 100000 in
theorem m_isLoose {k : Nat} (hA : aOK n am fr to wt) (hL : aRel am on ot we th fr to wt) (hg : ∀ v, v < n → gr v < 12) (hk : k < am) : xMet l yX6_isLoose wX6_isLoose (rD 0) D vwCl (tyC cI cII cP cZ) nwC [.ref (bd 0), .int (nI k)] (mw bd cI cZ n am al on ot we th be ne cu nw pa br pc ap pn ls gr tl co ++ X) (mw bd cI cZ n am al on ot we th be ne cu nw pa br pc ap pn ls gr tl co ++ X) (some (.int (if th k = true ∧ gr (fr k) ≠ gr (to k) then 1 else 0))) := by
  refine xMet_of (cc := cX6_isLoose) (maxL := 2) (ret := (some .boolean)) (by decide +kernel) rfl (Nat.le_of_ble_eq_true rfl) xfz ?_
  intro E S hnm hret
  show xW E D vwCl 2 0 0 _ [(0, .ref (bd 0)), (1, .int (nI k))] 0 []
  have hn := hA.1
  have hm := hA.2.1
  obtain ⟨f1, f2, f3, f4⟩ := hA.2.2 k hk
  obtain ⟨l1, l2, l3⟩ := hL k hk
  have g1 := hg _ f1
  have g2 := hg _ f2
  refine x_aload_n S dX6_isLoose_0 0 rfl rfl ?_
  refine x_get S 0 6 rfl rfl inC6 (by decide) (gC _ tw471) rfl rfl dX6_isLoose_1 ?_
  refine x_iload_n S dX6_isLoose_4 1 rfl rfl ?_
  refine x_zaldB S 4 3 (k) rfl rfl rfl (by omega) (by decide) dX6_isLoose_5 ?_
  refine x_if_eqB (tgt := 38) S dX6_isLoose_6 (by decide) (fun h1 => ?_) (fun h1 => ?_)
  · refine x_iconst (v := 0) S dX6_isLoose_38 rfl ?_
    exact x_ret hret (if_neg (fun q => h1 q.1)).symm dX6_isLoose_39
  refine x_aload_n S dX6_isLoose_9 0 rfl rfl ?_
  refine x_get S 0 17 rfl rfl inC6 (by decide) (gC _ tw482) rfl rfl dX6_isLoose_10 ?_
  refine x_aload_n S dX6_isLoose_13 0 rfl rfl ?_
  refine x_get S 0 3 rfl rfl inC6 (by decide) (gC _ tw468) rfl rfl dX6_isLoose_14 ?_
  refine x_iload_n S dX6_isLoose_17 1 rfl rfl ?_
  refine x_ialdN S 1 0 (k) rfl rfl rfl (by omega) (by decide) dX6_isLoose_18 ?_
  rw [l1]
  refine x_ialdN S 13 0 (fr k) rfl rfl rfl (by omega) (by decide) dX6_isLoose_19 ?_
  refine x_aload_n S dX6_isLoose_20 0 rfl rfl ?_
  refine x_get S 0 17 rfl rfl inC6 (by decide) (gC _ tw482) rfl rfl dX6_isLoose_21 ?_
  refine x_aload_n S dX6_isLoose_24 0 rfl rfl ?_
  refine x_get S 0 4 rfl rfl inC6 (by decide) (gC _ tw469) rfl rfl dX6_isLoose_25 ?_
  refine x_iload_n S dX6_isLoose_28 1 rfl rfl ?_
  refine x_ialdN S 2 0 (k) rfl rfl rfl (by omega) (by decide) dX6_isLoose_29 ?_
  rw [l2]
  refine x_ialdN S 13 0 (to k) rfl rfl rfl (by omega) (by decide) dX6_isLoose_30 ?_
  refine x_icmp_eq (tgt := 38) S dX6_isLoose_31 (by decide) (fun h3 => ?_) (fun h3 => ?_)
  rotate_left
  · refine x_iconst (v := 1) S dX6_isLoose_34 rfl ?_
    refine x_goto (tgt := 39) S dX6_isLoose_35 (by decide) ?_
    exact x_ret hret (if_pos ⟨h1, fun q => h3 (by rw [q])⟩).symm dX6_isLoose_39
  refine x_iconst (v := 0) S dX6_isLoose_38 rfl ?_
  exact x_ret hret (if_neg (fun q => q.2 (pl_inj (by omega) (by omega) h3))).symm dX6_isLoose_39
set_option maxHeartbeats 4000000 in
set_option maxRecDepth 100000 in
theorem m_loose (hA : aOK n am fr to wt) (hL : aRel am on ot we th fr to wt) (hg : ∀ v, v < n → gr v < 12) : xMet l yX6_loose wX6_loose (rD 1) D vwCl (tyC cI cII cP cZ) nwC [.ref (bd 0)] (mw bd cI cZ n am al on ot we th be ne cu nw pa br pc ap pn ls gr tl co ++ X) (mw bd cI cZ n am al on ot we th be ne cu nw pa br pc ap pn ls gr tl co ++ X) (some (.int (nI (dW fr to wt gr am)))) := by
  refine xMet_of (cc := cX6_loose) (maxL := 3) (ret := (some .int)) (by decide +kernel) rfl (Nat.le_of_ble_eq_true rfl) xfi ?_
  intro E S hnm hret
  show xW E D vwCl 3 0 0 _ [(0, .ref (bd 0))] 0 []
  have hn := hA.1
  have hm := hA.2.1
  have L : ∀ k, k ≤ am → xW E D vwCl 3 0 0 (mw bd cI cZ n am al on ot we th be ne cu nw pa br pc ap pn ls gr tl co ++ X) [(0, .ref (bd 0)), (1, .int (nI (dW fr to wt gr k))), (2, .int (nI k))] 4 [] := by
    refine pl_up am (fun k hk ih => ?_)
    refine x_iload_n S dX6_loose_4 2 rfl rfl ?_
    refine x_aload_n S dX6_loose_5 0 rfl rfl ?_
    refine x_get S 0 1 rfl rfl inC6 (by decide) (gC _ tw466) rfl rfl dX6_loose_6 ?_
    refine x_icmp_ge (tgt := 39) S dX6_loose_9 (by decide) (fun h3 => ?_) (fun h3 => ?_)
    · have hk2 : k = am := Nat.le_antisymm hk ((nI_leI (by omega) (by omega)).mp h3)
      subst hk2
      refine x_iload_n S dX6_loose_39 1 rfl rfl ?_
      exact x_ret hret rfl dX6_loose_40
    have hk2 : k < am := Nat.lt_of_not_le (fun h => h3 (nI_le h (by omega)))
    have ih := ih hk2
    have hstep : dW fr to wt gr (k + 1) = dW fr to wt gr k + (if th k = true ∧ gr (fr k) ≠ gr (to k) then we k else 0) := by
      rw [dW_s]
      rcases (hL k hk2).2.2 with ⟨q1, q2, q3⟩ | ⟨q1, q2⟩
      · by_cases e : gr (fr k) = gr (to k)
        · rw [if_pos e, if_neg (fun q => q.2 e)]
        · rw [if_neg e, if_pos ⟨q1, e⟩, q2]
      · rw [q2, if_neg (c := th k = true ∧ gr (fr k) ≠ gr (to k)) (fun q => by rw [q1] at q; exact absurd q.1 (by decide))]
        split <;> rfl
    rw [hstep] at ih
    refine x_iload_n S dX6_loose_12 1 rfl rfl ?_
    refine x_aload_n S dX6_loose_13 0 rfl rfl ?_
    refine x_iload_n S dX6_loose_14 2 rfl rfl ?_
    refine x_cVi (n := 1) S (m_isLoose hA hL hg hk2) (gGV gC tw631 tw628 tw630 ts25 tw7) rfl (by decide +kernel) 0 rfl rfl rfl rfl (Nat.le_of_ble_eq_true rfl) dX6_loose_15 ⟨by decide, by decide⟩ ⟨Nat.le_of_ble_eq_true rfl, Nat.le_of_ble_eq_true rfl⟩ ?_
    refine x_if_eqB (tgt := 30) S dX6_loose_18 (by decide) (fun h4 => ?_) (fun h4 => ?_)
    · rw [if_neg h4, Nat.add_zero] at ih
      refine x_iconst (v := 0) S dX6_loose_30 rfl ?_
      refine x_iadd S dX6_loose_31 ?_
      refine x_top (nI (dW fr to wt gr k)) (Int32.add_zero _) ?_
      refine x_istore_n (lv' := [(1, .int _), (0, .ref _), (2, .int _)]) S dX6_loose_32 rfl (by decide) rfl ?_
      refine x_iincN (lv' := [(2, .int _), (1, .int _), (0, .ref _)]) S dX6_loose_33 2 rfl (by decide) rfl ?_
      refine x_goto (tgt := 4) S dX6_loose_36 (by decide) ?_
      exact x_sub [2, 1, 0] rfl (ih)
    rw [if_pos h4] at ih
    refine x_aload_n S dX6_loose_21 0 rfl rfl ?_
    refine x_get S 0 5 rfl rfl inC6 (by decide) (gC _ tw470) rfl rfl dX6_loose_22 ?_
    refine x_iload_n S dX6_loose_25 2 rfl rfl ?_
    refine x_ialdN S 3 0 (k) rfl rfl rfl (by omega) (by decide) dX6_loose_26 ?_
    refine x_goto (tgt := 31) S dX6_loose_27 (by decide) ?_
    refine x_iadd S dX6_loose_31 ?_
    refine x_top (nI (dW fr to wt gr k + we k)) (nI_add _ _) ?_
    refine x_istore_n (lv' := [(1, .int _), (0, .ref _), (2, .int _)]) S dX6_loose_32 rfl (by decide) rfl ?_
    refine x_iincN (lv' := [(2, .int _), (1, .int _), (0, .ref _)]) S dX6_loose_33 2 rfl (by decide) rfl ?_
    refine x_goto (tgt := 4) S dX6_loose_36 (by decide) ?_
    exact x_sub [2, 1, 0] rfl (ih)
  refine x_iconst (v := 0) S dX6_loose_0 rfl ?_
  refine x_istore_n (lv' := [(1, .int _), (0, .ref _)]) S dX6_loose_1 rfl (by decide) rfl ?_
  refine x_iconst (v := 0) S dX6_loose_2 rfl ?_
  refine x_istore_n (lv' := [(2, .int _), (1, .int _), (0, .ref _)]) S dX6_loose_3 rfl (by decide) rfl ?_
  exact x_sub [2, 1, 0] rfl (L 0 (Nat.zero_le _))
set_option maxHeartbeats 4000000 in
set_option maxRecDepth 100000 in
theorem q_drawn (z : Int32) (h : MS) (hI : mInv n am al fr to wt h) : xMetS l yX6_drawn wX6_drawn (rD 16) D vwCl (tyC cI cII cP cZ) nwC [.ref (bd 0), .int z] (mwH bd cI cZ n am al h ++ X) (fun h' : MS => mInv n am al fr to wt h') (fun h' => mwH bd cI cZ n am al h' ++ X) (fun _ => some (.int (sDrawn n am fr to wt z))) := by
  obtain ⟨on, ot, we, th, be, ne, cu, nw, pa, br, pc, ap, pn, ls, gr, tl, co⟩ := h
  obtain ⟨hA, hL, hal, hV, hPt⟩ := hI
  have hn := hA.1
  refine xMetS_of (cc := cX6_drawn) (maxL := 11) (ret := (some .int)) (by decide +kernel) rfl (Nat.le_of_ble_eq_true rfl) (fun _ _ => xfi) ?_
  intro E S hnm hret
  show xW E D vwCl 11 0 0 (mw bd cI cZ n am al on ot we th be ne cu nw pa br pc ap pn ls gr tl co ++ X) [(0, .ref (bd 0)), (1, .int z)] 0 []
  have hm := hA.2.1
  have hL : aRel am on ot we th fr to wt := hL
  refine x_aload_n S dX6_drawn_0 0 rfl rfl ?_
  refine x_get S 0 0 rfl rfl inC6 (by decide) (gC _ tw465) rfl rfl dX6_drawn_1 ?_
  refine x_iconst (v := 2) S dX6_drawn_4 rfl ?_
  refine x_icmp_ge (tgt := 11) S dX6_drawn_5 (by decide) (fun h1 => ?_) (fun h1 => ?_)
  rotate_left
  · have h1 : ¬ 1 < n := fun q => h1 (nI_le (a := 2) q (by omega))
    refine x_bipush (v := -3) S dX6_drawn_8 (by decide) ?_
    exact x_retS hret ((on, ot, we, th, be, ne, cu, nw, pa, br, pc, ap, pn, ls, gr, tl, co)) (⟨hA, hL, hal, hV, hPt⟩) ((by unfold sDrawn; rw [if_neg h1])) dX6_drawn_10
  have h1 : 1 < n := (nI_leI (a := 2) (by omega) (by omega)).mp h1
  obtain ⟨rr, hrr⟩ : ∃ rr, dD n am fr to wt (n - 2) z (dI n (fun _ => 0)) = rr := ⟨_, rfl⟩
  have hsp : sDrawn n am fr to wt z = nI rr := by unfold sDrawn; rw [if_pos h1, hrr]
  have F : ∀ (lv : List (Nat × Value)) (g gp : Nat → Nat), gRel n gp g → gp 0 = rr → xW E D vwCl 11 0 0 (mw bd cI cZ n am al on ot we th be ne cu nw pa br pc ap pn ls g tl co ++ X) ((0, .ref (bd 0)) :: lv) 210 [] := by
    intro lv g gp hR he
    have LF : ∀ k, k ≤ n → xW E D vwCl 11 0 0 (mw bd cI cZ n am al on ot we th be ne cu nw pa br pc ap pn ls g tl co ++ X) [(0, .ref (bd 0)), (5, .int (nI (bitsOf (fun u => decide (g u = g 0)) k))), (6, .int (nI k))] 216 [] := by
      refine pl_up n (fun k hk ih => ?_)
      refine x_iload S dX6_drawn_216 2 rfl ?_
      refine x_aload_n S dX6_drawn_218 0 rfl rfl ?_
      refine x_get S 0 0 rfl rfl inC6 (by decide) (gC _ tw465) rfl rfl dX6_drawn_219 ?_
      refine x_icmp_ge (tgt := 260) S dX6_drawn_222 (by decide) (fun h2 => ?_) (fun h2 => ?_)
      · have hk2 : k = n := Nat.le_antisymm hk ((nI_leI (by omega) (by omega)).mp h2)
        refine x_iload S dX6_drawn_260 1 rfl ?_
        exact x_retS hret ((on, ot, we, th, be, ne, cu, nw, pa, br, pc, ap, pn, ls, g, tl, co)) (⟨hA, hL, hal, hV, hPt⟩) ((by rw [hsp, hk2, hR.fin (by omega), he])) dX6_drawn_262
      have hk2 : k < n := Nat.lt_of_not_le (fun h => h2 (nI_le h (by omega)))
      have ih := ih hk2
      simp only [bitsOf] at ih
      have hgk := (hR.1 k hk2).2
      have hg0 := (hR.1 0 (by omega)).2
      refine x_iload S dX6_drawn_225 1 rfl ?_
      refine x_aload_n S dX6_drawn_227 0 rfl rfl ?_
      refine x_get S 0 17 rfl rfl inC6 (by decide) (gC _ tw482) rfl rfl dX6_drawn_228 ?_
      refine x_iload S dX6_drawn_231 2 rfl ?_
      refine x_ialdN S 13 0 (k) rfl rfl rfl (by omega) (by decide) dX6_drawn_233 ?_
      refine x_aload_n S dX6_drawn_234 0 rfl rfl ?_
      refine x_get S 0 17 rfl rfl inC6 (by decide) (gC _ tw482) rfl rfl dX6_drawn_235 ?_
      refine x_iconst (v := 0) S dX6_drawn_238 rfl ?_
      refine x_ialdN S 13 0 (0) rfl rfl rfl (by omega) (by decide) dX6_drawn_239 ?_
      refine x_icmp_ne (tgt := 250) S dX6_drawn_240 (by decide) (fun h3 => ?_) (fun h3 => ?_)
      rotate_left
      · rw [if_pos (decide_eq_true (pl_inj (by omega) (by omega) h3))] at ih
        refine x_iconst (v := 1) S dX6_drawn_243 rfl ?_
        refine x_iload S dX6_drawn_244 2 rfl ?_
        refine x_ishl S dX6_drawn_246 ?_
        refine x_goto (tgt := 251) S dX6_drawn_247 (by decide) ?_
        refine x_ior S dX6_drawn_251 ?_
        refine x_top (nI (bitsOf (fun u => decide (g u = g 0)) k ||| 2 ^ k)) (by rw [pl_one (by omega), pl_or]) ?_
        refine x_istore (lv' := [(5, .int _), (0, .ref _), (6, .int _)]) S dX6_drawn_252 (by decide) rfl ?_
        refine x_iincN (lv' := [(6, .int _), (5, .int _), (0, .ref _)]) S dX6_drawn_254 2 rfl (by decide) rfl ?_
        refine x_goto (tgt := 216) S dX6_drawn_257 (by decide) ?_
        exact x_sub [2, 1, 0] rfl (ih)
      rw [if_neg (fun q => h3 (by rw [of_decide_eq_true q]))] at ih
      refine x_iconst (v := 0) S dX6_drawn_250 rfl ?_
      refine x_ior S dX6_drawn_251 ?_
      refine x_top (nI (bitsOf (fun u => decide (g u = g 0)) k ||| 0)) (pl_or _ 0) ?_
      refine x_istore (lv' := [(5, .int _), (0, .ref _), (6, .int _)]) S dX6_drawn_252 (by decide) rfl ?_
      refine x_iincN (lv' := [(6, .int _), (5, .int _), (0, .ref _)]) S dX6_drawn_254 2 rfl (by decide) rfl ?_
      refine x_goto (tgt := 216) S dX6_drawn_257 (by decide) ?_
      exact x_sub [2, 1, 0] rfl (ih)
    refine x_sub [0] rfl ?_
    refine x_iconst (v := 0) S dX6_drawn_210 rfl ?_
    refine x_istore (lv' := [(5, .int _), (0, .ref _)]) S dX6_drawn_211 (by decide) rfl ?_
    refine x_iconst (v := 0) S dX6_drawn_213 rfl ?_
    refine x_istore (lv' := [(6, .int _), (5, .int _), (0, .ref _)]) S dX6_drawn_214 (by decide) rfl ?_
    exact x_sub [2, 1, 0] rfl (LF 0 (Nat.zero_le _))
  have L : ∀ c, c ≤ 10 → ∀ (x : Int32) (g gp : Nat → Nat), gRel n gp g → dD n am fr to wt c x gp = rr → xW E D vwCl 11 0 0 (mw bd cI cZ n am al on ot we th be ne cu nw pa br pc ap pn ls g tl co ++ X) [(0, .ref (bd 0)), (1, .int z), (2, .int x), (3, .int (nI (c + 2))), (4, .int (nI (dW fr to wt g am)))] 47 [] := by
    intro c
    induction c with
    | zero =>
      intro hc x g gp hR he
      refine x_iload_n S dX6_drawn_47 3 rfl rfl ?_
      refine x_iconst (v := 2) S dX6_drawn_48 rfl ?_
      refine x_icmp_le (tgt := 210) S dX6_drawn_49 (by decide) (fun h3 => ?_) (fun h3 => ?_)
      · exact x_sub [0] rfl (F [] g gp hR he)
      exact absurd (by decide) h3
    | succ c ih =>
      intro hc x g gp hR he
      refine x_iload_n S dX6_drawn_47 3 rfl rfl ?_
      refine x_iconst (v := 2) S dX6_drawn_48 rfl ?_
      refine x_icmp_le (tgt := 210) S dX6_drawn_49 (by decide) (fun h3 => ?_) (fun h3 => ?_)
      · exact absurd h3 (nI_ge (a := 2) (b := c + 1 + 2) (by omega) (by omega))
      have hg12 : ∀ v, v < n → g v < 12 := fun v hv => (hR.1 v hv).2
      have b2 : dW fr to wt g am ≤ 50000 := by
        have := dW_bd fr to wt g (k := am) (c := 1000) (fun j hj => (hA.2.2 j (by omega)).2.2.2)
        omega
      simp only [dD] at he
      rw [hR.W hA am (Nat.le_refl _)] at he
      refine x_iload S dX6_drawn_52 4 rfl ?_
      refine x_if_le (tgt := 210) S dX6_drawn_54 (by decide) (fun h4 => ?_) (fun h4 => ?_)
      · have h4 : dW fr to wt g am ≤ 0 := (nI_leI (b := 0) (by omega) (by omega)).mp h4
        rw [if_pos (by omega)] at he
        exact x_sub [0] rfl (F [] g gp hR he)
      have h4 : ¬ dW fr to wt g am < 1 := fun q => h4 (by rw [show dW fr to wt g am = 0 by omega]; decide)
      rw [if_neg h4] at he
      refine x_iload_n S dX6_drawn_57 2 rfl rfl ?_
      refine x_ldc S (gC _ tw632) dX6_drawn_58 ?_
      refine x_imul S dX6_drawn_60 ?_
      refine x_ldc S (gC _ tw633) dX6_drawn_61 ?_
      refine x_iadd S dX6_drawn_63 ?_
      refine x_top (dZ x) rfl ?_
      refine x_istore_n (lv' := [(2, .int _), (0, .ref _), (1, .int _), (3, .int _), (4, .int _)]) S dX6_drawn_64 rfl (by decide) rfl ?_
      refine x_iload_n S dX6_drawn_65 0 rfl rfl ?_
      refine x_iconst (v := 1) S dX6_drawn_66 rfl ?_
      refine x_iushr S dX6_drawn_67 ?_
      refine x_top (nI ((dZ x).toBitVec.toNat / 2)) (ushr1 _) ?_
      refine x_iload S dX6_drawn_68 4 rfl ?_
      refine x_irem S dX6_drawn_70 (nI_ne0 (by omega) (by omega)) ?_
      refine x_top (nI (dT (dZ x) (dW fr to wt g am))) (pk_rem (tN_lt _) (by omega) (by omega)) ?_
      have hlt : dT (dZ x) (dW fr to wt g am) < dW fr to wt g am := Nat.mod_lt _ (by omega)
      obtain ⟨p1, p2, p3⟩ := dPk_ok fr to wt g am hlt
      have ePk : dPk fr to wt gp (dT (dZ x) (dW fr to wt g am)) am = dPk fr to wt g (dT (dZ x) (dW fr to wt g am)) am := dPk_congr (fun j hj => hR.W hA j hj)
      rw [ePk] at he
      generalize dPk fr to wt g (dT (dZ x) (dW fr to wt g am)) am = i at p1 p2 p3 he
      generalize dT (dZ x) (dW fr to wt g am) = t at hlt p2 p3
      obtain ⟨f1, f2, f3, f4⟩ := hA.2.2 i p1
      obtain ⟨l1, l2, -⟩ := hL i p1
      have LJ : ∀ v, v ≤ n → ∀ g' : Nat → Nat, (∀ u, u < v → g' u = if g u = g (to i) then g (fr i) else g u) → (∀ u, v ≤ u → u < n → g' u = g u) → xW E D vwCl 11 0 0 (mw bd cI cZ n am al on ot we th be ne cu nw pa br pc ap pn ls g' tl co ++ X) [(0, .ref (bd 0)), (1, .int z), (2, .int (dZ x)), (3, .int (nI (c + 1 + 2))), (8, .int (nI (g (to i)))), (9, .int (nI (g (fr i)))), (10, .int (nI v))] 152 [] := by
        refine pl_up n (fun v hv ih2 => ?_)
        intro g' g1 g2
        refine x_iload S dX6_drawn_152 6 rfl ?_
        refine x_aload_n S dX6_drawn_154 0 rfl rfl ?_
        refine x_get S 0 0 rfl rfl inC6 (by decide) (gC _ tw465) rfl rfl dX6_drawn_155 ?_
        refine x_icmp_ge (tgt := 198) S dX6_drawn_158 (by decide) (fun h5 => ?_) (fun h5 => ?_)
        · have hv2 : v = n := Nat.le_antisymm hv ((nI_leI (by omega) (by omega)).mp h5)
          rw [hv2] at g1
          have hR2 := hR.join f1 f2 g1
          refine x_iinc (lv' := [(3, .int _), (0, .ref _), (1, .int _), (2, .int _), (8, .int _), (9, .int _), (10, .int _)]) (v := nI (c + 2)) S dX6_drawn_198 3 rfl (nI_dec (c + 2)) (by decide) rfl ?_
          refine x_aload_n S dX6_drawn_201 1 rfl rfl ?_
          refine x_cVi (n := 0) S (m_loose hA hL (fun u hu => (hR2.1 u hu).2)) (gGV gC tw627 tw624 tw626 ts24 tw7) rfl (by decide +kernel) 0 rfl rfl rfl rfl (Nat.le_of_ble_eq_true rfl) dX6_drawn_202 ⟨by decide, by decide⟩ ⟨Nat.le_of_ble_eq_true rfl, Nat.le_of_ble_eq_true rfl⟩ ?_
          refine x_istore (lv' := [(4, .int _), (3, .int _), (0, .ref _), (1, .int _), (2, .int _), (8, .int _), (9, .int _), (10, .int _)]) S dX6_drawn_205 (by decide) rfl ?_
          refine x_goto (tgt := 47) S dX6_drawn_207 (by decide) ?_
          exact x_sub [2, 3, 4, 1, 0] rfl (ih (by omega) (dZ x) g' _ hR2 he)
        have hv2 : v < n := Nat.lt_of_not_le (fun h => h5 (nI_le h (by omega)))
        have ih2 := ih2 hv2
        have e1 := g2 v (Nat.le_refl _) hv2
        have hb1 := hg12 v hv2
        have hb2 := hg12 _ f2
        refine x_aload_n S dX6_drawn_161 0 rfl rfl ?_
        refine x_get S 0 17 rfl rfl inC6 (by decide) (gC _ tw482) rfl rfl dX6_drawn_162 ?_
        refine x_iload S dX6_drawn_165 6 rfl ?_
        refine x_aload_n S dX6_drawn_167 0 rfl rfl ?_
        refine x_get S 0 17 rfl rfl inC6 (by decide) (gC _ tw482) rfl rfl dX6_drawn_168 ?_
        refine x_iload S dX6_drawn_171 6 rfl ?_
        refine x_ialdN S 13 0 (v) rfl rfl rfl (by omega) (by decide) dX6_drawn_173 ?_
        rw [e1]
        refine x_iload S dX6_drawn_174 4 rfl ?_
        refine x_icmp_ne (tgt := 184) S dX6_drawn_176 (by decide) (fun h6 => ?_) (fun h6 => ?_)
        rotate_left
        · refine x_iload S dX6_drawn_179 5 rfl ?_
          refine x_goto (tgt := 191) S dX6_drawn_181 (by decide) ?_
          refine x_iastN (ws' := (mw bd cI cZ n am al on ot we th be ne cu nw pa br pc ap pn ls (va_up g' v (g (fr i))) tl co ++ X)) (z := g (fr i)) S 13 0 (v) rfl rfl rfl (by omega) (by decide) rfl dX6_drawn_191 rfl ?_
          refine x_iincN (lv' := [(10, .int _), (0, .ref _), (1, .int _), (2, .int _), (3, .int _), (8, .int _), (9, .int _)]) S dX6_drawn_192 6 rfl (by decide) rfl ?_
          refine x_goto (tgt := 152) S dX6_drawn_195 (by decide) ?_
          exact x_sub [1, 2, 3, 4, 5, 6, 0] rfl (ih2 _ (fun u hu => (Nat.lt_or_ge u v).elim (fun q => by rw [va_up_ne _ _ (by omega)]; exact g1 u q) (fun q => by rw [show u = v by omega, va_up_self, if_pos (pl_inj (by omega) (by omega) h6)])) (fun u hu hun => by rw [va_up_ne _ _ (by omega)]; exact g2 u (by omega) hun))
        refine x_aload_n S dX6_drawn_184 0 rfl rfl ?_
        refine x_get S 0 17 rfl rfl inC6 (by decide) (gC _ tw482) rfl rfl dX6_drawn_185 ?_
        refine x_iload S dX6_drawn_188 6 rfl ?_
        refine x_ialdN S 13 0 (v) rfl rfl rfl (by omega) (by decide) dX6_drawn_190 ?_
        rw [e1]
        refine x_iastN (ws' := (mw bd cI cZ n am al on ot we th be ne cu nw pa br pc ap pn ls (va_up g' v (g v)) tl co ++ X)) (z := g v) S 13 0 (v) rfl rfl rfl (by omega) (by decide) rfl dX6_drawn_191 rfl ?_
        refine x_iincN (lv' := [(10, .int _), (0, .ref _), (1, .int _), (2, .int _), (3, .int _), (8, .int _), (9, .int _)]) S dX6_drawn_192 6 rfl (by decide) rfl ?_
        refine x_goto (tgt := 152) S dX6_drawn_195 (by decide) ?_
        exact x_sub [1, 2, 3, 4, 5, 6, 0] rfl (ih2 _ (fun u hu => (Nat.lt_or_ge u v).elim (fun q => by rw [va_up_ne _ _ (by omega)]; exact g1 u q) (fun q => by rw [show u = v by omega, va_up_self, if_neg (fun w => h6 (by rw [w]))])) (fun u hu hun => by rw [va_up_ne _ _ (by omega)]; exact g2 u (by omega) hun))
      have hbw : ∀ k, k ≤ am → dW fr to wt g k ≤ 50000 := fun k hk => by
        have := dW_bd fr to wt g (k := k) (c := 1000) (fun j hj => (hA.2.2 j (by omega)).2.2.2)
        omega
      have LS : ∀ k, k ≤ i + 1 → xW E D vwCl 11 0 0 (mw bd cI cZ n am al on ot we th be ne cu nw pa br pc ap pn ls g tl co ++ X) [(0, .ref (bd 0)), (1, .int z), (2, .int (dZ x)), (3, .int (nI (c + 1 + 2))), (5, .int (nI t)), (6, .int (nI k)), (7, .int (nI (dW fr to wt g k)))] 79 [] := by
        refine pl_up (i + 1) (fun k hk ih2 => ?_)
        have hbk := hbw k (by omega)
        refine x_iload S dX6_drawn_79 6 rfl ?_
        refine x_iload S dX6_drawn_81 4 rfl ?_
        refine x_icmp_gt (tgt := 117) S dX6_drawn_83 (by decide) (fun h5 => ?_) (fun h5 => ?_)
        · have h5 := (nI_ltI (by omega) (by omega)).mp h5
          have hk2 : k = i + 1 := by
            rcases Nat.lt_or_ge k (i + 1) with q | q
            · have := dW_mono fr to wt g (show k ≤ i by omega); omega
            · omega
          rw [hk2]
          refine x_aload_n S dX6_drawn_117 0 rfl rfl ?_
          refine x_get S 0 17 rfl rfl inC6 (by decide) (gC _ tw482) rfl rfl dX6_drawn_118 ?_
          refine x_aload_n S dX6_drawn_121 0 rfl rfl ?_
          refine x_get S 0 4 rfl rfl inC6 (by decide) (gC _ tw469) rfl rfl dX6_drawn_122 ?_
          refine x_iload S dX6_drawn_125 5 rfl ?_
          refine x_iconst (v := 1) S dX6_drawn_127 rfl ?_
          refine x_isub S dX6_drawn_128 ?_
          refine x_top (nI i) (nI_pred i) ?_
          refine x_ialdN S 2 0 (i) rfl rfl rfl (by omega) (by decide) dX6_drawn_129 ?_
          rw [l2]
          refine x_ialdN S 13 0 (to i) rfl rfl rfl (by omega) (by decide) dX6_drawn_130 ?_
          refine x_istore (lv' := [(8, .int _), (0, .ref _), (1, .int _), (2, .int _), (3, .int _), (5, .int _), (6, .int _), (7, .int _)]) S dX6_drawn_131 (by decide) rfl ?_
          refine x_aload_n S dX6_drawn_133 1 rfl rfl ?_
          refine x_get S 0 17 rfl rfl inC6 (by decide) (gC _ tw482) rfl rfl dX6_drawn_134 ?_
          refine x_aload_n S dX6_drawn_137 1 rfl rfl ?_
          refine x_get S 0 3 rfl rfl inC6 (by decide) (gC _ tw468) rfl rfl dX6_drawn_138 ?_
          refine x_iload S dX6_drawn_141 6 rfl ?_
          refine x_iconst (v := 1) S dX6_drawn_143 rfl ?_
          refine x_isub S dX6_drawn_144 ?_
          refine x_top (nI i) (nI_pred i) ?_
          refine x_ialdN S 1 0 (i) rfl rfl rfl (by omega) (by decide) dX6_drawn_145 ?_
          rw [l1]
          refine x_ialdN S 13 0 (fr i) rfl rfl rfl (by omega) (by decide) dX6_drawn_146 ?_
          refine x_istore (lv' := [(9, .int _), (8, .int _), (0, .ref _), (1, .int _), (2, .int _), (3, .int _), (5, .int _), (6, .int _), (7, .int _)]) S dX6_drawn_147 (by decide) rfl ?_
          refine x_iconst (v := 0) S dX6_drawn_149 rfl ?_
          refine x_istore (lv' := [(10, .int _), (9, .int _), (8, .int _), (0, .ref _), (1, .int _), (2, .int _), (3, .int _), (5, .int _), (6, .int _), (7, .int _)]) S dX6_drawn_150 (by decide) rfl ?_
          exact x_sub [3, 4, 5, 6, 2, 1, 0] rfl (LJ 0 (Nat.zero_le _) g (fun u hu => absurd hu (by omega)) (fun u _ _ => rfl))
        have h5 := Nat.le_of_not_lt (fun q => h5 (nI_lt q (by omega)))
        have hki : k < i + 1 := by
          rcases Nat.lt_or_ge k (i + 1) with q | q
          · exact q
          · have hkk : k = i + 1 := by omega
            rw [hkk] at h5; omega
        have hk2 : k < am := by omega
        have ih2 := ih2 hki
        have hstep : dW fr to wt g (k + 1) = dW fr to wt g k + (if th k = true ∧ g (fr k) ≠ g (to k) then we k else 0) := by
          rw [dW_s]
          rcases (hL k hk2).2.2 with ⟨q1, q2, q3⟩ | ⟨q1, q2⟩
          · by_cases e : g (fr k) = g (to k)
            · rw [if_pos e, if_neg (fun q => q.2 e)]
            · rw [if_neg e, if_pos ⟨q1, e⟩, q2]
          · rw [q2, if_neg (c := th k = true ∧ g (fr k) ≠ g (to k)) (fun q => by rw [q1] at q; exact absurd q.1 (by decide))]
            split <;> rfl
        rw [hstep] at ih2
        refine x_iload S dX6_drawn_86 6 rfl ?_
        refine x_aload_n S dX6_drawn_88 0 rfl rfl ?_
        refine x_iload S dX6_drawn_89 5 rfl ?_
        refine x_cVi (n := 1) S (m_isLoose hA hL hg12 hk2) (gGV gC tw631 tw628 tw630 ts25 tw7) rfl (by decide +kernel) 0 rfl rfl rfl rfl (Nat.le_of_ble_eq_true rfl) dX6_drawn_91 ⟨by decide, by decide⟩ ⟨Nat.le_of_ble_eq_true rfl, Nat.le_of_ble_eq_true rfl⟩ ?_
        refine x_if_eqB (tgt := 107) S dX6_drawn_94 (by decide) (fun h6 => ?_) (fun h6 => ?_)
        · rw [if_neg h6, Nat.add_zero] at ih2
          refine x_iconst (v := 0) S dX6_drawn_107 rfl ?_
          refine x_iadd S dX6_drawn_108 ?_
          refine x_top (nI (dW fr to wt g k)) (Int32.add_zero _) ?_
          refine x_istore (lv' := [(7, .int _), (0, .ref _), (1, .int _), (2, .int _), (3, .int _), (5, .int _), (6, .int _)]) S dX6_drawn_109 (by decide) rfl ?_
          refine x_iincN (lv' := [(6, .int _), (7, .int _), (0, .ref _), (1, .int _), (2, .int _), (3, .int _), (5, .int _)]) S dX6_drawn_111 6 rfl (by decide) rfl ?_
          refine x_goto (tgt := 79) S dX6_drawn_114 (by decide) ?_
          exact x_sub [2, 3, 4, 5, 6, 0, 1] rfl (ih2)
        rw [if_pos h6] at ih2
        refine x_aload_n S dX6_drawn_97 0 rfl rfl ?_
        refine x_get S 0 5 rfl rfl inC6 (by decide) (gC _ tw470) rfl rfl dX6_drawn_98 ?_
        refine x_iload S dX6_drawn_101 5 rfl ?_
        refine x_ialdN S 3 0 (k) rfl rfl rfl (by omega) (by decide) dX6_drawn_103 ?_
        refine x_goto (tgt := 108) S dX6_drawn_104 (by decide) ?_
        refine x_iadd S dX6_drawn_108 ?_
        refine x_top (nI (dW fr to wt g k + we k)) (nI_add _ _) ?_
        refine x_istore (lv' := [(7, .int _), (0, .ref _), (1, .int _), (2, .int _), (3, .int _), (5, .int _), (6, .int _)]) S dX6_drawn_109 (by decide) rfl ?_
        refine x_iincN (lv' := [(6, .int _), (7, .int _), (0, .ref _), (1, .int _), (2, .int _), (3, .int _), (5, .int _)]) S dX6_drawn_111 6 rfl (by decide) rfl ?_
        refine x_goto (tgt := 79) S dX6_drawn_114 (by decide) ?_
        exact x_sub [2, 3, 4, 5, 6, 0, 1] rfl (ih2)
      refine x_istore (lv' := [(5, .int _), (2, .int _), (0, .ref _), (1, .int _), (3, .int _), (4, .int _)]) S dX6_drawn_71 (by decide) rfl ?_
      refine x_iconst (v := 0) S dX6_drawn_73 rfl ?_
      refine x_istore (lv' := [(6, .int _), (5, .int _), (2, .int _), (0, .ref _), (1, .int _), (3, .int _), (4, .int _)]) S dX6_drawn_74 (by decide) rfl ?_
      refine x_iconst (v := 0) S dX6_drawn_76 rfl ?_
      refine x_istore (lv' := [(7, .int _), (6, .int _), (5, .int _), (2, .int _), (0, .ref _), (1, .int _), (3, .int _), (4, .int _)]) S dX6_drawn_77 (by decide) rfl ?_
      exact x_sub [4, 5, 3, 6, 2, 1, 0] rfl (LS 0 (Nat.zero_le _))
  have L0 : ∀ k, k ≤ n → ∀ g : Nat → Nat, (∀ v, v < k → g v = v) → xW E D vwCl 11 0 0 (mw bd cI cZ n am al on ot we th be ne cu nw pa br pc ap pn ls g tl co ++ X) [(0, .ref (bd 0)), (1, .int z), (2, .int (nI k))] 13 [] := by
    refine pl_up n (fun k hk ih => ?_)
    intro g g1
    refine x_iload_n S dX6_drawn_13 2 rfl rfl ?_
    refine x_aload_n S dX6_drawn_14 0 rfl rfl ?_
    refine x_get S 0 0 rfl rfl inC6 (by decide) (gC _ tw465) rfl rfl dX6_drawn_15 ?_
    refine x_icmp_ge (tgt := 34) S dX6_drawn_18 (by decide) (fun h3 => ?_) (fun h3 => ?_)
    · have hk2 : k = n := Nat.le_antisymm hk ((nI_leI (by omega) (by omega)).mp h3)
      rw [hk2] at g1
      have hR := gRel.start (gp := fun _ => 0) hn g1
      refine x_iload_n S dX6_drawn_34 1 rfl rfl ?_
      refine x_istore_n (lv' := [(2, .int _), (0, .ref _), (1, .int _)]) S dX6_drawn_35 rfl (by decide) rfl ?_
      refine x_aload_n S dX6_drawn_36 1 rfl rfl ?_
      refine x_get S 0 0 rfl rfl inC6 (by decide) (gC _ tw465) rfl rfl dX6_drawn_37 ?_
      refine x_istore_n (lv' := [(3, .int _), (2, .int _), (0, .ref _), (1, .int _)]) S dX6_drawn_40 rfl (by decide) rfl ?_
      refine x_aload_n S dX6_drawn_41 2 rfl rfl ?_
      refine x_cVi (n := 0) S (m_loose hA hL (fun u hu => (hR.1 u hu).2)) (gGV gC tw627 tw624 tw626 ts24 tw7) rfl (by decide +kernel) 0 rfl rfl rfl rfl (Nat.le_of_ble_eq_true rfl) dX6_drawn_42 ⟨by decide, by decide⟩ ⟨Nat.le_of_ble_eq_true rfl, Nat.le_of_ble_eq_true rfl⟩ ?_
      refine x_istore (lv' := [(4, .int _), (3, .int _), (2, .int _), (0, .ref _), (1, .int _)]) S dX6_drawn_45 (by decide) rfl ?_
      have hLL := L (n - 2) (by omega) z g _ hR hrr
      rw [show n - 2 + 2 = n by omega] at hLL
      exact x_sub [3, 4, 2, 1, 0] rfl (hLL)
    have hk2 : k < n := Nat.lt_of_not_le (fun h => h3 (nI_le h (by omega)))
    refine x_aload_n S dX6_drawn_21 0 rfl rfl ?_
    refine x_get S 0 17 rfl rfl inC6 (by decide) (gC _ tw482) rfl rfl dX6_drawn_22 ?_
    refine x_iload_n S dX6_drawn_25 2 rfl rfl ?_
    refine x_iload_n S dX6_drawn_26 2 rfl rfl ?_
    refine x_iastN (ws' := (mw bd cI cZ n am al on ot we th be ne cu nw pa br pc ap pn ls (va_up g k k) tl co ++ X)) S 13 0 (k) rfl rfl rfl (by omega) (by decide) rfl dX6_drawn_27 rfl ?_
    refine x_iincN (lv' := [(2, .int _), (0, .ref _), (1, .int _)]) S dX6_drawn_28 2 rfl (by decide) rfl ?_
    refine x_goto (tgt := 13) S dX6_drawn_31 (by decide) ?_
    exact x_sub [1, 2, 0] rfl (ih hk2 _ (fun v hv => (Nat.lt_or_ge v k).elim (fun h => by rw [va_up_ne _ _ (by omega)]; exact g1 v h) (fun h => by rw [show v = k by omega, va_up_self])))
  refine x_iconst (v := 0) S dX6_drawn_11 rfl ?_
  refine x_istore_n (lv' := [(2, .int _), (0, .ref _), (1, .int _)]) S dX6_drawn_12 rfl (by decide) rfl ?_
  exact x_sub [1, 2, 0] rfl (L0 0 (Nat.zero_le _) gr (fun v hv => absurd hv (by omega)))
end M8
