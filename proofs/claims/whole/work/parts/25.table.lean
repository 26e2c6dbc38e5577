/-! CutTable: contracts -/
section TB
theorem x_iinc2N {E : xE} {l : Launch} {R : Room} {D : va_G} {cl : List vw_C} {tys : List (ClassId × FieldType)} {cc : ByteArray} {own : String} {nL : Nat} {Ts : List Cond} {nws : xN} {cells slots : Nat} {ws : va_W} {lv : List (Nat × Value)} {pc : Nat} {st : List Value} (S0 : xOK E l R D cl tys cc own nL Ts nws) {i j j' : Nat} {lv' : List (Nat × Value)} (hd : decode cc pc = .ok (.iinc i 2, 3)) (q : Nat) (hq : lv[q]? = some (i, .int (nI j))) (hj : j + 2 = j') (hn : i < nL) (hl' : (i, Value.int (nI j')) :: lv.filter (fun q => !(q.1 == i) && !(q.1 + 1 == i && q.2.category == 2)) = lv') (k : xW E D cl nL cells slots ws lv' (pc + 3) st) : xW E D cl nL cells slots ws lv pc st := x_iinc S0 hd q hq (by subst hj; exact nI_add j 2) hn hl' k
theorem p2_s {n : Nat} (h : 1 ≤ n) : 2 ^ n = 2 * 2 ^ (n - 1) := by
  obtain ⟨k, rfl⟩ : ∃ k, n = k + 1 := ⟨n - 1, by omega⟩
  rw [Nat.pow_succ, Nat.add_sub_cancel]; omega
theorem nI_mod2 (s : Nat) : nI s &&& 1 = nI (s % 2) := by
  show nI s &&& nI 1 = _
  rw [pl_and, Nat.and_one_is_mod]
theorem nI_half {s : Nat} (h : s < 2 ^ 31) : nI s >>> ((1 : Int32) &&& 31) = nI (s / 2) := by
  have := pl_shr (v := 1) h (by omega)
  exact this
theorem tab_ev {n am S : Nat} {fr to wt cu : Nat → Nat} (h1 : 1 ≤ n) (hT : tOK n am fr to wt cu) (hS : S < 2 ^ n) (he : S % 2 = 0) : cu (S / 2) = kC fr to wt am S ∧ S / 2 < 2048 ∨ 2048 ≤ S / 2 := by
  have := p2_s h1
  rcases Nat.lt_or_ge (S / 2) 2048 with q | q
  · exact Or.inl ⟨by rw [hT (S / 2) (by omega), show 2 * (S / 2) = S by omega], q⟩
  · exact Or.inr q
theorem half_lt {n S : Nat} (hn : n ≤ 12) (hS : S < 2 ^ n) : S / 2 < 2048 := by
  have := pl_pow12 hn
  omega
theorem di_ev {n S : Nat} (h1 : 1 ≤ n) (ho : S % 2 = 1) : pl_di (2 ^ n - 1) S % 2 = 0 := by
  have h : (pl_di (2 ^ n - 1) S).testBit 0 = false := by
    rw [pl_di_t, Nat.testBit_zero (x := S), ho]; simp
  rw [Nat.testBit_zero] at h
  have := of_decide_eq_false h
  omega
variable {l : Launch} {D : va_G} {ad : Nat → Nat} {cI cII cP cZ : ClassId} {n am al ch : Nat} {fr to wt nb : Nat → Nat} {M : Nat → Nat → Nat} {tch : Int32} {cu : Nat → Nat} {rch : Int32} {pa br gp : Nat → Nat} {P : Nat → Int32 × Nat × (Nat → Nat) × (Nat → Nat)} {X : va_W}
set_option maxHeartbeats 4000000 in
set_option maxRecDepth 100000 in
theorem c_cutAt {s : Nat} (h1 : 1 ≤ n) (hA : aOK n am fr to wt) (hT : tOK n am fr to wt cu) (hs : s < 2 ^ n) : xMet l yX0_cutAt wX0_cutAt (rD 1) D vwCl (tyC cI cII cP cZ) nwC [.ref (ad 18), .int (nI s)] (cw ad cI cII cP n am al ch fr to wt nb M tch cu rch pa br gp P ++ X) (cw ad cI cII cP n am al ch fr to wt nb M tch cu rch pa br gp P ++ X) (some (.int (nI (kC fr to wt am s)))) := by
  refine xMet_of (cc := cX0_cutAt) (maxL := 3) (ret := (some .int)) (by decide +kernel) rfl (Nat.le_of_ble_eq_true rfl) xfi ?_
  intro E S hnm hret
  show xW E D vwCl 3 0 0 _ [(0, .ref (ad 18)), (1, .int (nI s))] 0 []
  have hn := hA.1
  have hp := pl_pow12 hn
  refine x_iload_n S dX0_cutAt_0 1 rfl rfl ?_
  refine x_iconst (v := 1) S dX0_cutAt_1 rfl ?_
  refine x_iand S dX0_cutAt_2 ?_
  refine x_top (nI (s % 2)) (nI_mod2 s) ?_
  refine x_if_ne (tgt := 10) S dX0_cutAt_3 (by decide) (fun h2 => ?_) (fun h2 => ?_)
  rotate_left
  · have he : s % 2 = 0 := pl_inj (by omega) (by omega) h2
    refine x_iload_n S dX0_cutAt_6 1 rfl rfl ?_
    refine x_goto (tgt := 21) S dX0_cutAt_7 (by decide) ?_
    refine x_istore_n (lv' := [(2, .int _), (0, .ref _), (1, .int _)]) S dX0_cutAt_21 rfl (by decide) rfl ?_
    refine x_aload_n S dX0_cutAt_22 1 rfl rfl ?_
    refine x_get S 18 1 rfl rfl inC0 (by decide) (gC _ tw77) rfl rfl dX0_cutAt_23 ?_
    refine x_iload_n S dX0_cutAt_26 0 rfl rfl ?_
    refine x_iconst (v := 1) S dX0_cutAt_27 rfl ?_
    refine x_ishr S dX0_cutAt_28 ?_
    refine x_top (nI (s / 2)) (nI_half (by omega)) ?_
    have hh := half_lt hn hs
    refine x_ialdN S 19 0 (s / 2) rfl rfl rfl (by omega) (by decide) dX0_cutAt_29 ?_
    exact x_ret hret (by rw [hT (s / 2) (by have := p2_s h1; omega), show 2 * (s / 2) = s by omega]) dX0_cutAt_30
  have ho : s % 2 = 1 := by
    rcases Nat.mod_two_eq_zero_or_one s with q | q
    · rw [q] at h2; exact absurd rfl h2
    · exact q
  refine x_aload_n S dX0_cutAt_10 0 rfl rfl ?_
  refine x_get S 18 0 rfl rfl inC0 (by decide) (gC _ tw76) rfl rfl dX0_cutAt_11 ?_
  refine x_cVi (n := 0) S (c_allNodes hn) (gGV gC tw230 tw263 tw228 tw229 tw2) rfl (by decide +kernel) 0 rfl rfl rfl rfl (Nat.le_of_ble_eq_true rfl) dX0_cutAt_14 ⟨by decide, by decide⟩ ⟨Nat.le_of_ble_eq_true rfl, Nat.le_of_ble_eq_true rfl⟩ ?_
  refine x_iload_n S dX0_cutAt_17 1 rfl rfl ?_
  refine x_iconst (v := -1) S dX0_cutAt_18 rfl ?_
  refine x_ixor S dX0_cutAt_19 ?_
  refine x_iand S dX0_cutAt_20 ?_
  refine x_top (nI (pl_di (2 ^ n - 1) s)) (pl_di_I _ _) ?_
  have hle := pl_di_le (2 ^ n - 1) s
  have hev := di_ev h1 ho
  refine x_istore_n (lv' := [(2, .int _), (0, .ref _), (1, .int _)]) S dX0_cutAt_21 rfl (by decide) rfl ?_
  refine x_aload_n S dX0_cutAt_22 1 rfl rfl ?_
  refine x_get S 18 1 rfl rfl inC0 (by decide) (gC _ tw77) rfl rfl dX0_cutAt_23 ?_
  refine x_iload_n S dX0_cutAt_26 0 rfl rfl ?_
  refine x_iconst (v := 1) S dX0_cutAt_27 rfl ?_
  refine x_ishr S dX0_cutAt_28 ?_
  refine x_top (nI (pl_di (2 ^ n - 1) s / 2)) (nI_half (by omega)) ?_
  refine x_ialdN S 19 0 (pl_di (2 ^ n - 1) s / 2) rfl rfl rfl (half_lt hn (by omega)) (by decide) dX0_cutAt_29 ?_
  exact x_ret hret (by rw [hT (pl_di (2 ^ n - 1) s / 2) (by have := p2_s h1; omega), show 2 * (pl_di (2 ^ n - 1) s / 2) = pl_di (2 ^ n - 1) s by omega, kC_co (fun i hi => ⟨(hA.2.2 i hi).1, (hA.2.2 i hi).2.1⟩)]) dX0_cutAt_30
set_option maxHeartbeats 4000000 in
set_option maxRecDepth 100000 in
theorem c_sideAgainst {a b Z : Nat} (h1 : 1 ≤ n) (hA : aOK n am fr to wt) (hT : tOK n am fr to wt cu) (ha : a < n) (hb : b < n) (hab : a ≠ b) (hZ : isFM (kC fr to wt am) (isSd n a b) Z) : xMet l yX0_sideAgainst wX0_sideAgainst (rD 2) D vwCl (tyC cI cII cP cZ) nwC [.ref (ad 18), .int (nI a), .int (nI b)] (cw ad cI cII cP n am al ch fr to wt nb M tch cu rch pa br gp P ++ X) (cw ad cI cII cP n am al ch fr to wt nb M tch cu rch pa br gp P ++ X) (some (.int (nI Z))) := by
  refine xMet_of (cc := cX0_sideAgainst) (maxL := 11) (ret := (some .int)) (by decide +kernel) rfl (Nat.le_of_ble_eq_true rfl) xfi ?_
  intro E S hnm hret
  show xW E D vwCl 11 0 0 _ [(0, .ref (ad 18)), (1, .int (nI a)), (2, .int (nI b))] 0 []
  have hn := hA.1
  have hO := kO_lt (a := a) (b := b) hn
  have hpop := kO_pop n (by omega) a ha b hb hab
  have hpw : 2 ^ (n - 2) ≤ 4096 := pl_pow12 (by omega)
  have hpn := pl_pow12 hn
  have L : ∀ k, k ≤ 2 ^ (n - 2) → 1 ≤ k → ∀ z, isFM (kC fr to wt am) (fun T => ∃ j, j < k ∧ T = 2 ^ a ||| pn_dep 12 (kO n a b) j) z → xW E D vwCl 11 0 0 (cw ad cI cII cP n am al ch fr to wt nb M tch cu rch pa br gp P ++ X) [(0, .ref (ad 18)), (1, .int (nI a)), (2, .int (nI b)), (3, .int (nI (2 ^ a))), (4, .int (nI (kO n a b))), (5, .int (nI z)), (6, .int (nI (kC fr to wt am z))), (7, .int (nI (2 ^ (n - 2)))), (8, .int (nI (pn_dep 12 (kO n a b) (k - 1)))), (9, .int (nI k))] 52 [] := by
    refine pl_up (2 ^ (n - 2)) (fun k hk ih => ?_)
    intro hk1 z hz
    refine x_iload S dX0_sideAgainst_52 9 rfl ?_
    refine x_iload S dX0_sideAgainst_54 7 rfl ?_
    refine x_icmp_ge (tgt := 101) S dX0_sideAgainst_56 (by decide) (fun h2 => ?_) (fun h2 => ?_)
    · have hk2 : k = 2 ^ (n - 2) := Nat.le_antisymm hk ((nI_leI (by omega) (by omega)).mp h2)
      subst hk2
      refine x_iload S dX0_sideAgainst_101 5 rfl ?_
      exact x_ret hret (by rw [isFM_uniq (isFM_congr (fun T => (sd_iff hn ha hb hab T).symm) (fun _ _ => rfl) hz) hZ]) dX0_sideAgainst_103
    have hk2 : k < 2 ^ (n - 2) := Nat.lt_of_not_le (fun q => h2 (nI_le q (by omega)))
    have hd := pn_dep_le (w := 12) (i := k - 1) hO
    refine x_iload S dX0_sideAgainst_59 4 rfl ?_
    refine x_iload S dX0_sideAgainst_61 8 rfl ?_
    refine x_cNi (n := 2) S (c_nextWithin hO hd) (gG gC tw270) rfl nwm_CutTrees_CutTable_54 (gC _ tw1) (gC _ tw269) (by decide +kernel) rfl rfl (Nat.le_of_ble_eq_true rfl) dX0_sideAgainst_63 ⟨by decide, by decide⟩ ⟨Nat.le_of_ble_eq_true rfl, Nat.le_of_ble_eq_true rfl⟩ ?_
    refine x_top (nI (pn_dep 12 (kO n a b) k)) (by rw [pn_next 12 (kO n a b) (k - 1) hO (by rw [hpop, show k - 1 + 1 = k by omega]; exact hk2), show k - 1 + 1 = k by omega]) ?_
    refine x_istore (lv' := [(8, .int _), (0, .ref _), (1, .int _), (2, .int _), (3, .int _), (4, .int _), (5, .int _), (6, .int _), (7, .int _), (9, .int _)]) S dX0_sideAgainst_66 (by decide) rfl ?_
    refine x_aload_n S dX0_sideAgainst_68 1 rfl rfl ?_
    refine x_iload_n S dX0_sideAgainst_69 4 rfl rfl ?_
    refine x_iload S dX0_sideAgainst_70 0 rfl ?_
    refine x_ior S dX0_sideAgainst_72 ?_
    refine x_top (nI (2 ^ a ||| pn_dep 12 (kO n a b) k)) (pl_or _ _) ?_
    have hsd := (sd_iff hn ha hb hab _).mpr ⟨k, hk2, rfl⟩
    refine x_cVi (n := 1) S (c_cutAt h1 hA hT hsd.1) (gGV gC tw267 tw264 tw265 tw266 tw3) rfl (by decide +kernel) 18 rfl rfl rfl rfl (Nat.le_of_ble_eq_true rfl) dX0_sideAgainst_73 ⟨by decide, by decide⟩ ⟨Nat.le_of_ble_eq_true rfl, Nat.le_of_ble_eq_true rfl⟩ ?_
    have hc1 := hA.cf z
    have hc2 := hA.cf (2 ^ a ||| pn_dep 12 (kO n a b) k)
    have hst := isFM_step (Q := fun T => ∃ j, j < k + 1 ∧ T = 2 ^ a ||| pn_dep 12 (kO n a b) j) (T := 2 ^ a ||| pn_dep 12 (kO n a b) k) hz (fun U => ⟨fun ⟨j, hj, e⟩ => (Nat.lt_or_ge j k).elim (fun q => Or.inl ⟨j, q, e⟩) (fun q => Or.inr (by rw [e, show j = k by omega])), fun q => q.elim (fun ⟨j, hj, e⟩ => ⟨j, by omega, e⟩) (fun e => ⟨k, by omega, e⟩)⟩) (fun U ⟨j, hj, e⟩ => by rw [e]; exact sd_mono hn ha hb hab hj hk2)
    have ih := ih hk2 (by omega) _ hst
    rw [show k + 1 - 1 = k by omega] at ih
    refine x_istore (lv' := [(10, .int _), (8, .int _), (0, .ref _), (1, .int _), (2, .int _), (3, .int _), (4, .int _), (5, .int _), (6, .int _), (7, .int _), (9, .int _)]) S dX0_sideAgainst_76 (by decide) rfl ?_
    refine x_iload S dX0_sideAgainst_78 0 rfl ?_
    refine x_iload S dX0_sideAgainst_80 8 rfl ?_
    refine x_icmp_ge (tgt := 95) S dX0_sideAgainst_82 (by decide) (fun h3 => ?_) (fun h3 => ?_)
    · rw [if_neg (fun q => nI_ge q (by omega) h3)] at ih
      refine x_iincN (lv' := [(9, .int _), (10, .int _), (8, .int _), (0, .ref _), (1, .int _), (2, .int _), (3, .int _), (4, .int _), (5, .int _), (6, .int _), (7, .int _)]) S dX0_sideAgainst_95 10 rfl (by decide) rfl ?_
      refine x_goto (tgt := 52) S dX0_sideAgainst_98 (by decide) ?_
      exact x_sub [3, 4, 5, 6, 7, 8, 9, 10, 2, 0] rfl (ih)
    rw [if_pos (Nat.lt_of_not_le (fun q => h3 (nI_le q (by omega))))] at ih
    refine x_iload_n S dX0_sideAgainst_85 5 rfl rfl ?_
    refine x_iload S dX0_sideAgainst_86 1 rfl ?_
    refine x_ior S dX0_sideAgainst_88 ?_
    refine x_top (nI (2 ^ a ||| pn_dep 12 (kO n a b) k)) (pl_or _ _) ?_
    refine x_istore (lv' := [(5, .int _), (10, .int _), (8, .int _), (0, .ref _), (1, .int _), (2, .int _), (3, .int _), (4, .int _), (6, .int _), (7, .int _), (9, .int _)]) S dX0_sideAgainst_89 (by decide) rfl ?_
    refine x_iload S dX0_sideAgainst_91 1 rfl ?_
    refine x_istore (lv' := [(6, .int _), (5, .int _), (10, .int _), (8, .int _), (0, .ref _), (1, .int _), (2, .int _), (3, .int _), (4, .int _), (7, .int _), (9, .int _)]) S dX0_sideAgainst_93 (by decide) rfl ?_
    refine x_iincN (lv' := [(9, .int _), (6, .int _), (5, .int _), (10, .int _), (8, .int _), (0, .ref _), (1, .int _), (2, .int _), (3, .int _), (4, .int _), (7, .int _)]) S dX0_sideAgainst_95 10 rfl (by decide) rfl ?_
    refine x_goto (tgt := 52) S dX0_sideAgainst_98 (by decide) ?_
    exact x_sub [5, 6, 7, 8, 9, 2, 1, 10, 4, 0] rfl (ih)
  refine x_iconst (v := 1) S dX0_sideAgainst_0 rfl ?_
  refine x_iload_n S dX0_sideAgainst_1 1 rfl rfl ?_
  refine x_ishl S dX0_sideAgainst_2 ?_
  refine x_top (nI (2 ^ a)) (pl_one (by omega)) ?_
  refine x_istore_n (lv' := [(3, .int _), (0, .ref _), (1, .int _), (2, .int _)]) S dX0_sideAgainst_3 rfl (by decide) rfl ?_
  refine x_aload_n S dX0_sideAgainst_4 1 rfl rfl ?_
  refine x_get S 18 0 rfl rfl inC0 (by decide) (gC _ tw76) rfl rfl dX0_sideAgainst_5 ?_
  refine x_cVi (n := 0) S (c_allNodes hn) (gGV gC tw230 tw263 tw228 tw229 tw2) rfl (by decide +kernel) 0 rfl rfl rfl rfl (Nat.le_of_ble_eq_true rfl) dX0_sideAgainst_8 ⟨by decide, by decide⟩ ⟨Nat.le_of_ble_eq_true rfl, Nat.le_of_ble_eq_true rfl⟩ ?_
  refine x_iload_n S dX0_sideAgainst_11 0 rfl rfl ?_
  refine x_iconst (v := -1) S dX0_sideAgainst_12 rfl ?_
  refine x_ixor S dX0_sideAgainst_13 ?_
  refine x_iand S dX0_sideAgainst_14 ?_
  refine x_iconst (v := 1) S dX0_sideAgainst_15 rfl ?_
  refine x_iload_n S dX0_sideAgainst_16 3 rfl rfl ?_
  refine x_ishl S dX0_sideAgainst_17 ?_
  refine x_iconst (v := -1) S dX0_sideAgainst_18 rfl ?_
  refine x_ixor S dX0_sideAgainst_19 ?_
  refine x_iand S dX0_sideAgainst_20 ?_
  refine x_top (nI (kO n a b)) (by rw [pl_one (by omega), pl_di_I, pl_di_I]) ?_
  refine x_istore (lv' := [(4, .int _), (3, .int _), (0, .ref _), (1, .int _), (2, .int _)]) S dX0_sideAgainst_21 (by decide) rfl ?_
  refine x_iload_n S dX0_sideAgainst_23 1 rfl rfl ?_
  refine x_istore (lv' := [(5, .int _), (4, .int _), (3, .int _), (0, .ref _), (1, .int _), (2, .int _)]) S dX0_sideAgainst_24 (by decide) rfl ?_
  refine x_aload_n S dX0_sideAgainst_26 3 rfl rfl ?_
  refine x_iload_n S dX0_sideAgainst_27 2 rfl rfl ?_
  refine x_cVi (n := 1) S (c_cutAt h1 hA hT (pl_pow ha)) (gGV gC tw267 tw264 tw265 tw266 tw3) rfl (by decide +kernel) 18 rfl rfl rfl rfl (Nat.le_of_ble_eq_true rfl) dX0_sideAgainst_28 ⟨by decide, by decide⟩ ⟨Nat.le_of_ble_eq_true rfl, Nat.le_of_ble_eq_true rfl⟩ ?_
  refine x_istore (lv' := [(6, .int _), (5, .int _), (4, .int _), (3, .int _), (0, .ref _), (1, .int _), (2, .int _)]) S dX0_sideAgainst_31 (by decide) rfl ?_
  refine x_iconst (v := 1) S dX0_sideAgainst_33 rfl ?_
  refine x_aload_n S dX0_sideAgainst_34 4 rfl rfl ?_
  refine x_get S 18 0 rfl rfl inC0 (by decide) (gC _ tw76) rfl rfl dX0_sideAgainst_35 ?_
  refine x_get S 0 5 rfl rfl inC2 (by decide) (gC _ tw40) rfl rfl dX0_sideAgainst_38 ?_
  refine x_iconst (v := 2) S dX0_sideAgainst_41 rfl ?_
  refine x_isub S dX0_sideAgainst_42 ?_
  refine x_ishl S dX0_sideAgainst_43 ?_
  refine x_top (nI (2 ^ (n - 2))) (by rw [show (2 : Int32) = nI 2 from rfl, pk_sub (by omega), pl_one (by omega)]) ?_
  refine x_istore (lv' := [(7, .int _), (6, .int _), (5, .int _), (4, .int _), (3, .int _), (0, .ref _), (1, .int _), (2, .int _)]) S dX0_sideAgainst_44 (by decide) rfl ?_
  refine x_iconst (v := 0) S dX0_sideAgainst_46 rfl ?_
  refine x_istore (lv' := [(8, .int _), (7, .int _), (6, .int _), (5, .int _), (4, .int _), (3, .int _), (0, .ref _), (1, .int _), (2, .int _)]) S dX0_sideAgainst_47 (by decide) rfl ?_
  refine x_iconst (v := 1) S dX0_sideAgainst_49 rfl ?_
  refine x_istore (lv' := [(9, .int _), (8, .int _), (7, .int _), (6, .int _), (5, .int _), (4, .int _), (3, .int _), (0, .ref _), (1, .int _), (2, .int _)]) S dX0_sideAgainst_50 (by decide) rfl ?_
  have h0 : isFM (kC fr to wt am) (fun T => ∃ j, j < 1 ∧ T = 2 ^ a ||| pn_dep 12 (kO n a b) j) (2 ^ a) := isFM_one (fun U => ⟨fun ⟨j, hj, e⟩ => by rw [e, show j = 0 by omega, pn_zero, Nat.or_zero], fun e => ⟨0, by omega, by rw [e, pn_zero, Nat.or_zero]⟩⟩)
  have hL := L 1 (Nat.two_pow_pos _) (Nat.le_refl _) _ h0
  rw [show 1 - 1 = 0 by rfl, pn_zero] at hL
  exact x_sub [7, 8, 9, 6, 5, 4, 3, 2, 1, 0] rfl (hL)
set_option maxHeartbeats 4000000 in
set_option maxRecDepth 100000 in
theorem c_cutBetween {a b Z : Nat} (h1 : 1 ≤ n) (hA : aOK n am fr to wt) (hT : tOK n am fr to wt cu) (ha : a < n) (hb : b < n) (hab : a ≠ b) (hZ : isFM (kC fr to wt am) (isSd n a b) Z) : xMet l yX0_cutBetween wX0_cutBetween (rD 3) D vwCl (tyC cI cII cP cZ) nwC [.ref (ad 18), .int (nI a), .int (nI b)] (cw ad cI cII cP n am al ch fr to wt nb M tch cu rch pa br gp P ++ X) (cw ad cI cII cP n am al ch fr to wt nb M tch cu rch pa br gp P ++ X) (some (.int (nI (kC fr to wt am Z)))) := by
  refine xMet_of (cc := cX0_cutBetween) (maxL := 3) (ret := (some .int)) (by decide +kernel) rfl (Nat.le_of_ble_eq_true rfl) xfi ?_
  intro E S hnm hret
  show xW E D vwCl 3 0 0 _ [(0, .ref (ad 18)), (1, .int (nI a)), (2, .int (nI b))] 0 []
  refine x_aload_n S dX0_cutBetween_0 0 rfl rfl ?_
  refine x_aload_n S dX0_cutBetween_1 0 rfl rfl ?_
  refine x_iload_n S dX0_cutBetween_2 1 rfl rfl ?_
  refine x_iload_n S dX0_cutBetween_3 2 rfl rfl ?_
  refine x_cVi (n := 2) S (c_sideAgainst h1 hA hT ha hb hab hZ) (gGV gC tw262 tw259 tw260 tw261 tw3) rfl (by decide +kernel) 18 rfl rfl rfl rfl (Nat.le_of_ble_eq_true rfl) dX0_cutBetween_4 ⟨by decide, by decide⟩ ⟨Nat.le_of_ble_eq_true rfl, Nat.le_of_ble_eq_true rfl⟩ ?_
  refine x_cVi (n := 1) S (c_cutAt h1 hA hT hZ.1.1) (gGV gC tw267 tw264 tw265 tw266 tw3) rfl (by decide +kernel) 18 rfl rfl rfl rfl (Nat.le_of_ble_eq_true rfl) dX0_cutBetween_7 ⟨by decide, by decide⟩ ⟨Nat.le_of_ble_eq_true rfl, Nat.le_of_ble_eq_true rfl⟩ ?_
  exact x_ret hret rfl dX0_cutBetween_10
set_option maxHeartbeats 4000000 in
set_option maxRecDepth 100000 in
theorem c_leastCut {Z : Nat} (h2 : 2 ≤ n) (h1 : 1 ≤ n) (hA : aOK n am fr to wt) (hT : tOK n am fr to wt cu) (hZ : isFM (kC fr to wt am) (evP n) Z) : xMet l yX0_leastCut wX0_leastCut (rD 2) D vwCl (tyC cI cII cP cZ) nwC [.ref (ad 18)] (cw ad cI cII cP n am al ch fr to wt nb M tch cu rch pa br gp P ++ X) (cw ad cI cII cP n am al ch fr to wt nb M tch cu rch pa br gp P ++ X) (some (.int (nI (kC fr to wt am Z)))) := by
  refine xMet_of (cc := cX0_leastCut) (maxL := 3) (ret := (some .int)) (by decide +kernel) rfl (Nat.le_of_ble_eq_true rfl) xfi ?_
  intro E S hnm hret
  show xW E D vwCl 3 0 0 _ [(0, .ref (ad 18))] 0 []
  have hn := hA.1
  have hpn := pl_pow12 hn
  have hps := p2_s h1
  have hp2 : 2 ≤ 2 ^ (n - 1) := by have := Nat.pow_le_pow_right (n := 2) (by omega) (show 1 ≤ n - 1 by omega); omega
  have L : ∀ k, k ≤ 2 ^ (n - 1) - 1 → 1 ≤ k → ∀ z, isFM (kC fr to wt am) (fun T => ∃ j, j < k ∧ T = 2 * (j + 1)) z → xW E D vwCl 3 0 0 (cw ad cI cII cP n am al ch fr to wt nb M tch cu rch pa br gp P ++ X) [(0, .ref (ad 18)), (1, .int (nI (kC fr to wt am z))), (2, .int (nI (2 * (k + 1))))] 8 [] := by
    refine pl_up (2 ^ (n - 1) - 1) (fun k hk ih => ?_)
    intro hk1 z hz
    refine x_iload_n S dX0_leastCut_8 2 rfl rfl ?_
    refine x_aload_n S dX0_leastCut_9 0 rfl rfl ?_
    refine x_get S 18 0 rfl rfl inC0 (by decide) (gC _ tw76) rfl rfl dX0_leastCut_10 ?_
    refine x_cVi (n := 0) S (c_allNodes hn) (gGV gC tw230 tw263 tw228 tw229 tw2) rfl (by decide +kernel) 0 rfl rfl rfl rfl (Nat.le_of_ble_eq_true rfl) dX0_leastCut_13 ⟨by decide, by decide⟩ ⟨Nat.le_of_ble_eq_true rfl, Nat.le_of_ble_eq_true rfl⟩ ?_
    refine x_icmp_gt (tgt := 35) S dX0_leastCut_16 (by decide) (fun h3 => ?_) (fun h3 => ?_)
    · have hk2 : k = 2 ^ (n - 1) - 1 := by have := (nI_ltI (by omega) (by omega)).mp h3; omega
      subst hk2
      refine x_iload_n S dX0_leastCut_35 1 rfl rfl ?_
      exact x_ret hret (by rw [isFM_uniq hz hZ]) dX0_leastCut_36
    have hk2 : k < 2 ^ (n - 1) - 1 := by have := Nat.le_of_not_lt (fun q => h3 (nI_lt q (by omega))); omega
    refine x_iload_n S dX0_leastCut_19 1 rfl rfl ?_
    refine x_aload_n S dX0_leastCut_20 0 rfl rfl ?_
    refine x_iload_n S dX0_leastCut_21 2 rfl rfl ?_
    refine x_cVi (n := 1) S (c_cutAt h1 hA hT (by omega)) (gGV gC tw267 tw264 tw265 tw266 tw3) rfl (by decide +kernel) 18 rfl rfl rfl rfl (Nat.le_of_ble_eq_true rfl) dX0_leastCut_22 ⟨by decide, by decide⟩ ⟨Nat.le_of_ble_eq_true rfl, Nat.le_of_ble_eq_true rfl⟩ ?_
    have hc1 := hA.cf z
    have hc2 := hA.cf (2 * (k + 1))
    have hst := isFM_step (Q := fun T => ∃ j, j < k + 1 ∧ T = 2 * (j + 1)) (T := 2 * (k + 1)) hz (fun U => ⟨fun ⟨j, hj, e⟩ => (Nat.lt_or_ge j k).elim (fun q => Or.inl ⟨j, q, e⟩) (fun q => Or.inr (by rw [e, show j = k by omega])), fun q => q.elim (fun ⟨j, hj, e⟩ => ⟨j, by omega, e⟩) (fun e => ⟨k, by omega, e⟩)⟩) (fun U ⟨j, hj, e⟩ => by rw [e]; omega)
    have ih := ih hk2 (by omega) _ hst
    refine x_mmin S (gC _ tw326) (gC _ tw309) (gC _ tw8) (gC _ tw310) (by decide) (Nat.le_of_ble_eq_true rfl) (Nat.le_of_ble_eq_true rfl) (Nat.le_of_ble_eq_true rfl) dX0_leastCut_25 ?_
    refine x_top (nI (kC fr to wt am (if kC fr to wt am (2 * (k + 1)) < kC fr to wt am z then 2 * (k + 1) else z))) ?_ ?_
    · by_cases q : kC fr to wt am (2 * (k + 1)) < kC fr to wt am z
      · rw [if_pos q, if_pos (nI_lt q (by omega))]
      · rw [if_neg q, if_neg (nI_nlt (by omega) (by omega))]
    refine x_istore_n (lv' := [(1, .int _), (0, .ref _), (2, .int _)]) S dX0_leastCut_28 rfl (by decide) rfl ?_
    refine x_iinc2N (lv' := [(2, .int _), (1, .int _), (0, .ref _)]) (j' := 2 * (k + 1 + 1)) S dX0_leastCut_29 2 rfl (by omega) (by decide) rfl ?_
    refine x_goto (tgt := 8) S dX0_leastCut_32 (by decide) ?_
    exact x_sub [2, 1, 0] rfl (ih)
  refine x_aload_n S dX0_leastCut_0 0 rfl rfl ?_
  refine x_iconst (v := 2) S dX0_leastCut_1 rfl ?_
  refine x_cVi (n := 1) S (c_cutAt (s := 2) h1 hA hT (by omega)) (gGV gC tw267 tw264 tw265 tw266 tw3) rfl (by decide +kernel) 18 rfl rfl rfl rfl (Nat.le_of_ble_eq_true rfl) dX0_leastCut_2 ⟨by decide, by decide⟩ ⟨Nat.le_of_ble_eq_true rfl, Nat.le_of_ble_eq_true rfl⟩ ?_
  refine x_istore_n (lv' := [(1, .int _), (0, .ref _)]) S dX0_leastCut_5 rfl (by decide) rfl ?_
  refine x_iconst (v := 4) S dX0_leastCut_6 rfl ?_
  refine x_istore_n (lv' := [(2, .int _), (1, .int _), (0, .ref _)]) S dX0_leastCut_7 rfl (by decide) rfl ?_
  exact x_sub [2, 1, 0] rfl (L 1 (by omega) (Nat.le_refl _) 2 (isFM_one (fun U => ⟨fun ⟨j, hj, e⟩ => by rw [e]; omega, fun e => ⟨0, by omega, e⟩⟩)))
set_option maxHeartbeats 4000000 in
set_option maxRecDepth 100000 in
theorem c_countLeastOnes {Z : Nat} (h2 : 2 ≤ n) (h1 : 1 ≤ n) (hA : aOK n am fr to wt) (hT : tOK n am fr to wt cu) (hZ : isFM (kC fr to wt am) (evP n) Z) : xMet l yX0_countLeastOnes wX0_countLeastOnes (rD 3) D vwCl (tyC cI cII cP cZ) nwC [.ref (ad 18)] (cw ad cI cII cP n am al ch fr to wt nb M tch cu rch pa br gp P ++ X) (cw ad cI cII cP n am al ch fr to wt nb M tch cu rch pa br gp P ++ X) (some (.int (nI (kCnt (kC fr to wt am) (kC fr to wt am Z) (2 ^ (n - 1) - 1))))) := by
  refine xMet_of (cc := cX0_countLeastOnes) (maxL := 4) (ret := (some .int)) (by decide +kernel) rfl (Nat.le_of_ble_eq_true rfl) xfi ?_
  intro E S hnm hret
  show xW E D vwCl 4 0 0 _ [(0, .ref (ad 18))] 0 []
  have hn := hA.1
  have hpn := pl_pow12 hn
  have hps := p2_s h1
  have hcz := hA.cf Z
  have L : ∀ k, k ≤ 2 ^ (n - 1) - 1 → xW E D vwCl 4 0 0 (cw ad cI cII cP n am al ch fr to wt nb M tch cu rch pa br gp P ++ X) [(0, .ref (ad 18)), (1, .int (nI (kC fr to wt am Z))), (2, .int (nI (kCnt (kC fr to wt am) (kC fr to wt am Z) k))), (3, .int (nI (2 * (k + 1))))] 9 [] := by
    refine pl_up (2 ^ (n - 1) - 1) (fun k hk ih => ?_)
    refine x_iload_n S dX0_countLeastOnes_9 3 rfl rfl ?_
    refine x_aload_n S dX0_countLeastOnes_10 0 rfl rfl ?_
    refine x_get S 18 0 rfl rfl inC0 (by decide) (gC _ tw76) rfl rfl dX0_countLeastOnes_11 ?_
    refine x_cVi (n := 0) S (c_allNodes hn) (gGV gC tw230 tw263 tw228 tw229 tw2) rfl (by decide +kernel) 0 rfl rfl rfl rfl (Nat.le_of_ble_eq_true rfl) dX0_countLeastOnes_14 ⟨by decide, by decide⟩ ⟨Nat.le_of_ble_eq_true rfl, Nat.le_of_ble_eq_true rfl⟩ ?_
    refine x_icmp_gt (tgt := 38) S dX0_countLeastOnes_17 (by decide) (fun h3 => ?_) (fun h3 => ?_)
    · have hk2 : k = 2 ^ (n - 1) - 1 := by have := (nI_ltI (by omega) (by omega)).mp h3; omega
      subst hk2
      refine x_iload_n S dX0_countLeastOnes_38 2 rfl rfl ?_
      exact x_ret hret rfl dX0_countLeastOnes_39
    have hk2 : k < 2 ^ (n - 1) - 1 := by have := Nat.le_of_not_lt (fun q => h3 (nI_lt q (by omega))); omega
    refine x_aload_n S dX0_countLeastOnes_20 0 rfl rfl ?_
    refine x_iload_n S dX0_countLeastOnes_21 3 rfl rfl ?_
    refine x_cVi (n := 1) S (c_cutAt h1 hA hT (by omega)) (gGV gC tw267 tw264 tw265 tw266 tw3) rfl (by decide +kernel) 18 rfl rfl rfl rfl (Nat.le_of_ble_eq_true rfl) dX0_countLeastOnes_22 ⟨by decide, by decide⟩ ⟨Nat.le_of_ble_eq_true rfl, Nat.le_of_ble_eq_true rfl⟩ ?_
    have hc2 := hA.cf (2 * (k + 1))
    have ih := ih hk2
    rw [kCnt_s] at ih
    refine x_iload_n S dX0_countLeastOnes_25 1 rfl rfl ?_
    refine x_icmp_ne (tgt := 32) S dX0_countLeastOnes_26 (by decide) (fun h4 => ?_) (fun h4 => ?_)
    rotate_left
    · rw [if_pos (pl_inj (by omega) (by omega) h4)] at ih
      refine x_iincN (lv' := [(2, .int _), (0, .ref _), (1, .int _), (3, .int _)]) S dX0_countLeastOnes_29 2 rfl (by decide) rfl ?_
      refine x_iinc2N (lv' := [(3, .int _), (2, .int _), (0, .ref _), (1, .int _)]) (j' := 2 * (k + 1 + 1)) S dX0_countLeastOnes_32 3 rfl (by omega) (by decide) rfl ?_
      refine x_goto (tgt := 9) S dX0_countLeastOnes_35 (by decide) ?_
      exact x_sub [2, 3, 1, 0] rfl (ih)
    rw [if_neg (fun q => h4 (by rw [q]))] at ih
    refine x_iinc2N (lv' := [(3, .int _), (0, .ref _), (1, .int _), (2, .int _)]) (j' := 2 * (k + 1 + 1)) S dX0_countLeastOnes_32 3 rfl (by omega) (by decide) rfl ?_
    refine x_goto (tgt := 9) S dX0_countLeastOnes_35 (by decide) ?_
    exact x_sub [1, 2, 3, 0] rfl (ih)
  refine x_aload_n S dX0_countLeastOnes_0 0 rfl rfl ?_
  refine x_cVi (n := 0) S (c_leastCut h2 h1 hA hT hZ) (gGV gC tw325 tw335 tw323 tw324 tw3) rfl (by decide +kernel) 18 rfl rfl rfl rfl (Nat.le_of_ble_eq_true rfl) dX0_countLeastOnes_1 ⟨by decide, by decide⟩ ⟨Nat.le_of_ble_eq_true rfl, Nat.le_of_ble_eq_true rfl⟩ ?_
  refine x_istore_n (lv' := [(1, .int _), (0, .ref _)]) S dX0_countLeastOnes_4 rfl (by decide) rfl ?_
  refine x_iconst (v := 0) S dX0_countLeastOnes_5 rfl ?_
  refine x_istore_n (lv' := [(2, .int _), (1, .int _), (0, .ref _)]) S dX0_countLeastOnes_6 rfl (by decide) rfl ?_
  refine x_iconst (v := 2) S dX0_countLeastOnes_7 rfl ?_
  refine x_istore_n (lv' := [(3, .int _), (2, .int _), (1, .int _), (0, .ref _)]) S dX0_countLeastOnes_8 rfl (by decide) rfl ?_
  exact x_sub [3, 2, 1, 0] rfl (L 0 (Nat.zero_le _))
set_option maxHeartbeats 4000000 in
set_option maxRecDepth 100000 in
theorem c_leastOne {Z κ : Nat} (h2 : 2 ≤ n) (hκ : κ < 2 ^ 31) (h1 : 1 ≤ n) (hA : aOK n am fr to wt) (hT : tOK n am fr to wt cu) (hZ : isFM (kC fr to wt am) (evP n) Z) : xMet l yX0_leastOne wX0_leastOne (rD 3) D vwCl (tyC cI cII cP cZ) nwC [.ref (ad 18), .int (nI κ)] (cw ad cI cII cP n am al ch fr to wt nb M tch cu rch pa br gp P ++ X) (cw ad cI cII cP n am al ch fr to wt nb M tch cu rch pa br gp P ++ X) (some (.int (kLO (kC fr to wt am) (kC fr to wt am Z) κ (2 ^ (n - 1) - 1) 0))) := by
  refine xMet_of (cc := cX0_leastOne) (maxL := 5) (ret := (some .int)) (by decide +kernel) rfl (Nat.le_of_ble_eq_true rfl) xfi ?_
  intro E S hnm hret
  show xW E D vwCl 5 0 0 _ [(0, .ref (ad 18)), (1, .int (nI κ))] 0 []
  have hn := hA.1
  have hpn := pl_pow12 hn
  have hps := p2_s h1
  have hcz := hA.cf Z
  have L : ∀ k, k ≤ 2 ^ (n - 1) - 1 → kLO (kC fr to wt am) (kC fr to wt am Z) κ (2 ^ (n - 1) - 1) 0 = kLO (kC fr to wt am) (kC fr to wt am Z) κ (2 ^ (n - 1) - 1 - k) k → xW E D vwCl 5 0 0 (cw ad cI cII cP n am al ch fr to wt nb M tch cu rch pa br gp P ++ X) [(0, .ref (ad 18)), (1, .int (nI κ)), (2, .int (nI (kC fr to wt am Z))), (3, .int (nI (kCnt (kC fr to wt am) (kC fr to wt am Z) k))), (4, .int (nI (2 * (k + 1))))] 10 [] := by
    refine pl_up (2 ^ (n - 1) - 1) (fun k hk ih => ?_)
    intro hv
    refine x_iload S dX0_leastOne_10 4 rfl ?_
    refine x_aload_n S dX0_leastOne_12 0 rfl rfl ?_
    refine x_get S 18 0 rfl rfl inC0 (by decide) (gC _ tw76) rfl rfl dX0_leastOne_13 ?_
    refine x_cVi (n := 0) S (c_allNodes hn) (gGV gC tw230 tw263 tw228 tw229 tw2) rfl (by decide +kernel) 0 rfl rfl rfl rfl (Nat.le_of_ble_eq_true rfl) dX0_leastOne_16 ⟨by decide, by decide⟩ ⟨Nat.le_of_ble_eq_true rfl, Nat.le_of_ble_eq_true rfl⟩ ?_
    refine x_icmp_gt (tgt := 49) S dX0_leastOne_19 (by decide) (fun h3 => ?_) (fun h3 => ?_)
    · have hk2 : k = 2 ^ (n - 1) - 1 := by have := (nI_ltI (by omega) (by omega)).mp h3; omega
      refine x_iconst (v := -1) S dX0_leastOne_49 rfl ?_
      exact x_ret hret (by rw [hv, hk2, Nat.sub_self]; rfl) dX0_leastOne_50
    have hk2 : k < 2 ^ (n - 1) - 1 := by have := Nat.le_of_not_lt (fun q => h3 (nI_lt q (by omega))); omega
    refine x_aload_n S dX0_leastOne_22 0 rfl rfl ?_
    refine x_iload S dX0_leastOne_23 4 rfl ?_
    refine x_cVi (n := 1) S (c_cutAt h1 hA hT (by omega)) (gGV gC tw267 tw264 tw265 tw266 tw3) rfl (by decide +kernel) 18 rfl rfl rfl rfl (Nat.le_of_ble_eq_true rfl) dX0_leastOne_25 ⟨by decide, by decide⟩ ⟨Nat.le_of_ble_eq_true rfl, Nat.le_of_ble_eq_true rfl⟩ ?_
    have hc2 := hA.cf (2 * (k + 1))
    have hct := kCnt_le (kC fr to wt am) (kC fr to wt am Z) k
    rw [show 2 ^ (n - 1) - 1 - k = (2 ^ (n - 1) - 1 - (k + 1)) + 1 by omega] at hv
    simp only [kLO] at hv
    have ih := ih hk2
    rw [kCnt_s] at ih
    refine x_iload_n S dX0_leastOne_28 2 rfl rfl ?_
    refine x_icmp_ne (tgt := 43) S dX0_leastOne_29 (by decide) (fun h4 => ?_) (fun h4 => ?_)
    rotate_left
    · have h4 := pl_inj (by omega) (by omega) h4
      rw [if_pos h4] at ih hv
      refine x_iload_n S dX0_leastOne_32 3 rfl rfl ?_
      refine x_iload_n S dX0_leastOne_33 1 rfl rfl ?_
      refine x_icmp_ne (tgt := 40) S dX0_leastOne_34 (by decide) (fun h5 => ?_) (fun h5 => ?_)
      rotate_left
      · rw [if_pos (pl_inj (by omega) hκ h5)] at hv
        refine x_iload S dX0_leastOne_37 4 rfl ?_
        exact x_ret hret hv.symm dX0_leastOne_39
      rw [if_neg (fun q => h5 (by rw [q]))] at hv
      refine x_iincN (lv' := [(3, .int _), (0, .ref _), (1, .int _), (2, .int _), (4, .int _)]) S dX0_leastOne_40 3 rfl (by decide) rfl ?_
      refine x_iinc2N (lv' := [(4, .int _), (3, .int _), (0, .ref _), (1, .int _), (2, .int _)]) (j' := 2 * (k + 1 + 1)) S dX0_leastOne_43 4 rfl (by omega) (by decide) rfl ?_
      refine x_goto (tgt := 10) S dX0_leastOne_46 (by decide) ?_
      exact x_sub [2, 3, 4, 1, 0] rfl (ih hv)
    rw [if_neg (fun q => h4 (by rw [q]))] at ih hv
    refine x_iinc2N (lv' := [(4, .int _), (0, .ref _), (1, .int _), (2, .int _), (3, .int _)]) (j' := 2 * (k + 1 + 1)) S dX0_leastOne_43 4 rfl (by omega) (by decide) rfl ?_
    refine x_goto (tgt := 10) S dX0_leastOne_46 (by decide) ?_
    exact x_sub [1, 2, 3, 4, 0] rfl (ih hv)
  refine x_aload_n S dX0_leastOne_0 0 rfl rfl ?_
  refine x_cVi (n := 0) S (c_leastCut h2 h1 hA hT hZ) (gGV gC tw325 tw335 tw323 tw324 tw3) rfl (by decide +kernel) 18 rfl rfl rfl rfl (Nat.le_of_ble_eq_true rfl) dX0_leastOne_1 ⟨by decide, by decide⟩ ⟨Nat.le_of_ble_eq_true rfl, Nat.le_of_ble_eq_true rfl⟩ ?_
  refine x_istore_n (lv' := [(2, .int _), (0, .ref _), (1, .int _)]) S dX0_leastOne_4 rfl (by decide) rfl ?_
  refine x_iconst (v := 0) S dX0_leastOne_5 rfl ?_
  refine x_istore_n (lv' := [(3, .int _), (2, .int _), (0, .ref _), (1, .int _)]) S dX0_leastOne_6 rfl (by decide) rfl ?_
  refine x_iconst (v := 2) S dX0_leastOne_7 rfl ?_
  refine x_istore (lv' := [(4, .int _), (3, .int _), (2, .int _), (0, .ref _), (1, .int _)]) S dX0_leastOne_8 (by decide) rfl ?_
  exact x_sub [3, 4, 2, 1, 0] rfl (L 0 (Nat.zero_le _) rfl)
end TB
