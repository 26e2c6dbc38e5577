/-! the reference: contracts, 1 -/
section M1
def vOK (n am : Nat) (fr to wt cu : Nat → Nat) : Prop := ∀ s, s < 2 ^ n → cu s = kC fr to wt am s
variable {l : Launch} {D : va_G} {bd : Nat → Nat} {cI cII cP cZ : ClassId} {n am al : Nat} {on ot we : Nat → Nat} {th : Nat → Bool} {be ne cu : Nat → Nat} {nw : Bool} {pa br pc : Nat → Nat} {ap : Nat → Bool} {pn : Nat → Nat} {ls : Int32} {gr : Nat → Nat} {tl : Nat → Int32} {co : Nat → Nat} {fr to wt : Nat → Nat} {X : va_W}
set_option maxHeartbeats 4000000 in
set_option maxRecDepth 100000 in
theorem m_changed  : xMetS l yX6_changed wX6_changed (rD 0) D vwCl (tyC cI cII cP cZ) nwC [.ref (bd 0)] (mw bd cI cZ n am al on ot we th be ne cu nw pa br pc ap pn ls gr tl co ++ X) (fun q : Nat → Bool => ∀ i, i < 5 → q i = true) (fun q => (mw bd cI cZ n am al on ot we th be ne cu true pa br pc q pn ls gr tl co ++ X)) (fun _ => none) := by
  refine xMetS_of (cc := cX6_changed) (maxL := 2) (ret := none) (by decide +kernel) rfl (Nat.le_of_ble_eq_true rfl) (fun _ _ => xfv) ?_
  intro E S hnm hret
  show xW E D vwCl 2 0 0 _ [(0, .ref (bd 0))] 0 []
  have L : ∀ k, k ≤ 5 → ∀ q : Nat → Bool, (∀ i, i < k → q i = true) → xW E D vwCl 2 0 0 (mw bd cI cZ n am al on ot we th be ne cu true pa br pc q pn ls gr tl co ++ X) [(0, .ref (bd 0)), (1, .int (nI k))] 7 [] := by
    refine pl_up 5 (fun k hk ih => ?_)
    intro q g1
    refine x_iload_n S dX6_changed_7 1 rfl rfl ?_
    refine x_iconst (v := 5) S dX6_changed_8 rfl ?_
    refine x_icmp_ge (tgt := 25) S dX6_changed_9 (by decide) (fun h3 => ?_) (fun h3 => ?_)
    · have hk2 : k = 5 := Nat.le_antisymm hk ((nI_leI (a := 5) (by omega) (by omega)).mp h3)
      subst hk2
      exact hret (q) _ _ g1 dX6_changed_25
    have hk2 : k < 5 := Nat.lt_of_not_le (fun h => h3 (nI_le (a := 5) h (by omega)))
    refine x_aload_n S dX6_changed_12 0 rfl rfl ?_
    refine x_get S 0 14 rfl rfl inC6 (by decide) (gC _ tw479) rfl rfl dX6_changed_13 ?_
    refine x_iload_n S dX6_changed_16 1 rfl rfl ?_
    refine x_iconst (v := 1) S dX6_changed_17 rfl ?_
    refine x_zastB (ws' := (mw bd cI cZ n am al on ot we th be ne cu true pa br pc (va_up q k true) pn ls gr tl co ++ X)) (z := true) S 11 3 (k) rfl rfl rfl (by omega) (by decide) rfl dX6_changed_18 rfl ?_
    refine x_iincN (lv' := [(1, .int _), (0, .ref _)]) S dX6_changed_19 1 rfl (by decide) rfl ?_
    refine x_goto (tgt := 7) S dX6_changed_22 (by decide) ?_
    exact x_sub [1, 0] rfl (ih hk2 _ (fun v hv => (Nat.lt_or_ge v k).elim (fun h => by rw [va_up_ne _ _ (by omega)]; exact g1 v h) (fun h => by rw [show v = k by omega, va_up_self])))
  refine x_aload_n S dX6_changed_0 0 rfl rfl ?_
  refine x_iconst (v := 1) S dX6_changed_1 rfl ?_
  refine x_put (ws' := (mw bd cI cZ n am al on ot we th be ne cu true pa br pc ap pn ls gr tl co ++ X)) S 0 10 rfl rfl inC6 tyX6 tyX6_ok nmX6 (by decide) (gC _ tw475) rfl rfl (tyX6_ok 10 (by decide)) rfl rfl (Nat.le_of_ble_eq_true rfl) dX6_changed_2 rfl ?_
  refine x_iconst (v := 0) S dX6_changed_5 rfl ?_
  refine x_istore_n (lv' := [(1, .int _), (0, .ref _)]) S dX6_changed_6 rfl (by decide) rfl ?_
  exact x_sub [1, 0] rfl (L 0 (Nat.zero_le _) ap (fun v hv => absurd hv (by omega)))
set_option maxHeartbeats 4000000 in
set_option maxRecDepth 100000 in
theorem m_all (hn : n ≤ 12) : xMet l yX6_all wX6_all (rD 0) D vwCl (tyC cI cII cP cZ) nwC [.ref (bd 0)] (mw bd cI cZ n am al on ot we th be ne cu nw pa br pc ap pn ls gr tl co ++ X) (mw bd cI cZ n am al on ot we th be ne cu nw pa br pc ap pn ls gr tl co ++ X) (some (.int (nI (2 ^ n - 1)))) := by
  refine xMet_of (cc := cX6_all) (maxL := 1) (ret := (some .int)) (by decide +kernel) rfl (Nat.le_of_ble_eq_true rfl) xfi ?_
  intro E S hnm hret
  show xW E D vwCl 1 0 0 _ [(0, .ref (bd 0))] 0 []
  refine x_iconst (v := 1) S dX6_all_0 rfl ?_
  refine x_aload_n S dX6_all_1 0 rfl rfl ?_
  refine x_get S 0 0 rfl rfl inC6 (by decide) (gC _ tw465) rfl rfl dX6_all_2 ?_
  refine x_ishl S dX6_all_5 ?_
  refine x_iconst (v := 1) S dX6_all_6 rfl ?_
  refine x_isub S dX6_all_7 ?_
  refine x_ret hret ?_ dX6_all_8
  rw [pl_one (by omega)]
  exact pk_sub (Nat.two_pow_pos n)
set_option maxHeartbeats 4000000 in
set_option maxRecDepth 100000 in
theorem m_areTwo (a b : Int32) : xMet l yX6_areTwo wX6_areTwo (rD 0) D vwCl (tyC cI cII cP cZ) nwC [.ref (bd 0), .int a, .int b] (mw bd cI cZ n am al on ot we th be ne cu nw pa br pc ap pn ls gr tl co ++ X) (mw bd cI cZ n am al on ot we th be ne cu nw pa br pc ap pn ls gr tl co ++ X) (some (.int (if isP2 n a b then 1 else 0))) := by
  refine xMet_of (cc := cX6_areTwo) (maxL := 3) (ret := (some .boolean)) (by decide +kernel) rfl (Nat.le_of_ble_eq_true rfl) xfz ?_
  intro E S hnm hret
  show xW E D vwCl 3 0 0 _ [(0, .ref (bd 0)), (1, .int a), (2, .int b)] 0 []
  refine x_iload_n S dX6_areTwo_0 1 rfl rfl ?_
  refine x_if_lt (tgt := 33) S dX6_areTwo_1 (by decide) (fun h1 => ?_) (fun h1 => ?_)
  · refine x_iconst (v := 0) S dX6_areTwo_33 rfl ?_
    exact x_ret hret (if_neg (fun q => Int32.not_lt.mpr q.1.1 h1)).symm dX6_areTwo_34
  refine x_iload_n S dX6_areTwo_4 1 rfl rfl ?_
  refine x_aload_n S dX6_areTwo_5 0 rfl rfl ?_
  refine x_get S 0 0 rfl rfl inC6 (by decide) (gC _ tw465) rfl rfl dX6_areTwo_6 ?_
  refine x_icmp_ge (tgt := 33) S dX6_areTwo_9 (by decide) (fun h2 => ?_) (fun h2 => ?_)
  · refine x_iconst (v := 0) S dX6_areTwo_33 rfl ?_
    exact x_ret hret (if_neg (fun q => Int32.not_lt.mpr h2 q.1.2)).symm dX6_areTwo_34
  refine x_iload_n S dX6_areTwo_12 2 rfl rfl ?_
  refine x_if_lt (tgt := 33) S dX6_areTwo_13 (by decide) (fun h3 => ?_) (fun h3 => ?_)
  · refine x_iconst (v := 0) S dX6_areTwo_33 rfl ?_
    exact x_ret hret (if_neg (fun q => Int32.not_lt.mpr q.2.1.1 h3)).symm dX6_areTwo_34
  refine x_iload_n S dX6_areTwo_16 2 rfl rfl ?_
  refine x_aload_n S dX6_areTwo_17 0 rfl rfl ?_
  refine x_get S 0 0 rfl rfl inC6 (by decide) (gC _ tw465) rfl rfl dX6_areTwo_18 ?_
  refine x_icmp_ge (tgt := 33) S dX6_areTwo_21 (by decide) (fun h4 => ?_) (fun h4 => ?_)
  · refine x_iconst (v := 0) S dX6_areTwo_33 rfl ?_
    exact x_ret hret (if_neg (fun q => Int32.not_lt.mpr h4 q.2.1.2)).symm dX6_areTwo_34
  refine x_iload_n S dX6_areTwo_24 1 rfl rfl ?_
  refine x_iload_n S dX6_areTwo_25 2 rfl rfl ?_
  refine x_icmp_eq (tgt := 33) S dX6_areTwo_26 (by decide) (fun h5 => ?_) (fun h5 => ?_)
  · refine x_iconst (v := 0) S dX6_areTwo_33 rfl ?_
    exact x_ret hret (if_neg (fun q => q.2.2 h5)).symm dX6_areTwo_34
  refine x_iconst (v := 1) S dX6_areTwo_29 rfl ?_
  refine x_goto (tgt := 34) S dX6_areTwo_30 (by decide) ?_
  exact x_ret hret (if_pos ⟨⟨Int32.not_lt.mp h1, Int32.not_le.mp h2⟩, ⟨Int32.not_lt.mp h3, Int32.not_le.mp h4⟩, h5⟩).symm dX6_areTwo_34
set_option maxHeartbeats 4000000 in
set_option maxRecDepth 100000 in
theorem m_sideOf {a b Z : Nat} (hA : aOK n am fr to wt) (hC : vOK n am fr to wt cu) (ha : a < n) (hb : b < n) (hZ : isFM (kC fr to wt am) (isSd n a b) Z) : xMet l yX6_sideOf wX6_sideOf (rD 1) D vwCl (tyC cI cII cP cZ) nwC [.ref (bd 0), .int (nI a), .int (nI b)] (mw bd cI cZ n am al on ot we th be ne cu nw pa br pc ap pn ls gr tl co ++ X) (mw bd cI cZ n am al on ot we th be ne cu nw pa br pc ap pn (nI (kC fr to wt am Z)) gr tl co ++ X) (some (.int (nI Z))) := by
  refine xMet_of (cc := cX6_sideOf) (maxL := 5) (ret := (some .int)) (by decide +kernel) rfl (Nat.le_of_ble_eq_true rfl) xfi ?_
  intro E S hnm hret
  show xW E D vwCl 5 0 0 _ [(0, .ref (bd 0)), (1, .int (nI a)), (2, .int (nI b))] 0 []
  have hn := hA.1
  have hpn := pl_pow12 hn
  have hp0 := Nat.two_pow_pos n
  have hbd : ∀ T, kC fr to wt am T < 2 ^ 31 := fun T => by have := hA.cf T; omega
  have L : ∀ s, s ≤ 2 ^ n - 1 → 1 ≤ s → ∀ (side : Nat) (y : Int32), sOf (kC fr to wt am) n a b s side y → xW E D vwCl 5 0 0 (mw bd cI cZ n am al on ot we th be ne cu nw pa br pc ap pn y gr tl co ++ X) [(0, .ref (bd 0)), (1, .int (nI a)), (2, .int (nI b)), (3, .int (nI side)), (4, .int (nI s))] 10 [] := by
    refine pl_up (2 ^ n - 1) (fun s hs ih => ?_)
    intro hs1 side y hso
    refine x_iload S dX6_sideOf_10 4 rfl ?_
    refine x_aload_n S dX6_sideOf_12 0 rfl rfl ?_
    refine x_cVi (n := 0) S (m_all hn) (gGV gC tw558 tw555 tw557 ts16 tw7) rfl (by decide +kernel) 0 rfl rfl rfl rfl (Nat.le_of_ble_eq_true rfl) dX6_sideOf_13 ⟨by decide, by decide⟩ ⟨Nat.le_of_ble_eq_true rfl, Nat.le_of_ble_eq_true rfl⟩ ?_
    refine x_icmp_ge (tgt := 101) S dX6_sideOf_16 (by decide) (fun h1 => ?_) (fun h1 => ?_)
    · have hs2 : s = 2 ^ n - 1 := Nat.le_antisymm hs ((nI_leI (by omega) (by omega)).mp h1)
      have hf := sOf_fin hso (fun T hT => by
        rcases Nat.lt_or_ge T s with q | q
        · exact q
        · have e : T = 2 ^ n - 1 := by have := hT.1; omega
          have := hT.2.2
          rw [e, Nat.testBit_two_pow_sub_one] at this
          simp at this
          omega) hZ
      rw [hf.1, hf.2]
      refine x_iload_n S dX6_sideOf_101 3 rfl rfl ?_
      exact x_ret hret rfl dX6_sideOf_102
    have hs2 : s < 2 ^ n - 1 := Nat.lt_of_not_le (fun q => h1 (nI_le q (by omega)))
    have ih := ih hs2 (by omega)
    have hcs := hC s (by omega)
    have hbs := hbd s
    refine x_iload S dX6_sideOf_19 4 rfl ?_
    refine x_iload_n S dX6_sideOf_21 1 rfl rfl ?_
    refine x_ishr S dX6_sideOf_22 ?_
    refine x_iconst (v := 1) S dX6_sideOf_23 rfl ?_
    refine x_iand S dX6_sideOf_24 ?_
    refine x_iconst (v := 1) S dX6_sideOf_25 rfl ?_
    refine x_icmp_ne (tgt := 95) S dX6_sideOf_26 (by decide) (fun h2 => ?_) (fun h2 => ?_)
    · refine x_iincN (lv' := [(4, .int _), (0, .ref _), (1, .int _), (2, .int _), (3, .int _)]) S dX6_sideOf_95 4 rfl (by decide) rfl ?_
      refine x_goto (tgt := 10) S dX6_sideOf_98 (by decide) ?_
      exact x_sub [1, 2, 3, 4, 0] rfl (ih side y (sOf_skip hso (fun q => h2 ((pl_bit1 (by omega) (by omega)).mpr q.2.1))))
    have h2 := (pl_bit1 (by omega) (by omega)).mp h2
    refine x_iload S dX6_sideOf_29 4 rfl ?_
    refine x_iload_n S dX6_sideOf_31 2 rfl rfl ?_
    refine x_ishr S dX6_sideOf_32 ?_
    refine x_iconst (v := 1) S dX6_sideOf_33 rfl ?_
    refine x_iand S dX6_sideOf_34 ?_
    refine x_if_ne (tgt := 95) S dX6_sideOf_35 (by decide) (fun h3 => ?_) (fun h3 => ?_)
    · refine x_iincN (lv' := [(4, .int _), (0, .ref _), (1, .int _), (2, .int _), (3, .int _)]) S dX6_sideOf_95 4 rfl (by decide) rfl ?_
      refine x_goto (tgt := 10) S dX6_sideOf_98 (by decide) ?_
      exact x_sub [1, 2, 3, 4, 0] rfl (ih side y (sOf_skip hso (fun q => h3 ((pl_bit0 (by omega) (by omega)).mpr q.2.2))))
    have h3 := (pl_bit0 (by omega) (by omega)).mp h3
    have hsd : isSd n a b s := ⟨by omega, h2, h3⟩
    have h4k : s < 4096 := by omega
    rcases hso.2 with ⟨q, rfl⟩ | ⟨m, rfl, hm, hx, hlo, hbits⟩
    · have hnew := sOf_low hsd h4k hbs (fun T hT h => absurd h (q T hT))
      refine x_aload_n S dX6_sideOf_38 0 rfl rfl ?_
      refine x_get S 0 16 rfl rfl inC6 (by decide) (gC _ tw481) rfl rfl dX6_sideOf_39 ?_
      refine x_if_lt (tgt := 59) S dX6_sideOf_42 (by decide) (fun h5 => ?_) (fun h5 => ?_)
      · refine x_aload_n S dX6_sideOf_59 0 rfl rfl ?_
        refine x_aload_n S dX6_sideOf_60 0 rfl rfl ?_
        refine x_get S 0 9 rfl rfl inC6 (by decide) (gC _ tw474) rfl rfl dX6_sideOf_61 ?_
        refine x_iload S dX6_sideOf_64 4 rfl ?_
        refine x_ialdN S 7 0 (s) rfl rfl rfl (by omega) (by decide) dX6_sideOf_66 ?_
        rw [hcs]
        refine x_put (ws' := (mw bd cI cZ n am al on ot we th be ne cu nw pa br pc ap pn (nI (kC fr to wt am s)) gr tl co ++ X)) S 0 16 rfl rfl inC6 tyX6 tyX6_ok nmX6 (by decide) (gC _ tw481) rfl rfl (tyX6_ok 16 (by decide)) rfl rfl (Nat.le_of_ble_eq_true rfl) dX6_sideOf_67 rfl ?_
        refine x_iload S dX6_sideOf_70 4 rfl ?_
        refine x_istore_n (lv' := [(3, .int _), (0, .ref _), (1, .int _), (2, .int _), (4, .int _)]) S dX6_sideOf_72 rfl (by decide) rfl ?_
        refine x_goto (tgt := 95) S dX6_sideOf_73 (by decide) ?_
        refine x_iincN (lv' := [(4, .int _), (3, .int _), (0, .ref _), (1, .int _), (2, .int _)]) S dX6_sideOf_95 4 rfl (by decide) rfl ?_
        refine x_goto (tgt := 10) S dX6_sideOf_98 (by decide) ?_
        exact x_sub [2, 3, 4, 1, 0] rfl (ih s _ hnew)
      exact absurd (by decide) h5
    refine x_aload_n S dX6_sideOf_38 0 rfl rfl ?_
    refine x_get S 0 16 rfl rfl inC6 (by decide) (gC _ tw481) rfl rfl dX6_sideOf_39 ?_
    refine x_if_lt (tgt := 59) S dX6_sideOf_42 (by decide) (fun h5 => ?_) (fun h5 => ?_)
    · exact absurd h5 (nI_pos hm)
    refine x_aload_n S dX6_sideOf_45 0 rfl rfl ?_
    refine x_get S 0 9 rfl rfl inC6 (by decide) (gC _ tw474) rfl rfl dX6_sideOf_46 ?_
    refine x_iload S dX6_sideOf_49 4 rfl ?_
    refine x_ialdN S 7 0 (s) rfl rfl rfl (by omega) (by decide) dX6_sideOf_51 ?_
    rw [hcs]
    refine x_aload_n S dX6_sideOf_52 0 rfl rfl ?_
    refine x_get S 0 16 rfl rfl inC6 (by decide) (gC _ tw481) rfl rfl dX6_sideOf_53 ?_
    refine x_icmp_ge (tgt := 76) S dX6_sideOf_56 (by decide) (fun h6 => ?_) (fun h6 => ?_)
    rotate_left
    · refine x_aload_n S dX6_sideOf_59 0 rfl rfl ?_
      refine x_aload_n S dX6_sideOf_60 0 rfl rfl ?_
      refine x_get S 0 9 rfl rfl inC6 (by decide) (gC _ tw474) rfl rfl dX6_sideOf_61 ?_
      refine x_iload S dX6_sideOf_64 4 rfl ?_
      refine x_ialdN S 7 0 (s) rfl rfl rfl (by omega) (by decide) dX6_sideOf_66 ?_
      rw [hcs]
      refine x_put (ws' := (mw bd cI cZ n am al on ot we th be ne cu nw pa br pc ap pn (nI (kC fr to wt am s)) gr tl co ++ X)) S 0 16 rfl rfl inC6 tyX6 tyX6_ok nmX6 (by decide) (gC _ tw481) rfl rfl (tyX6_ok 16 (by decide)) rfl rfl (Nat.le_of_ble_eq_true rfl) dX6_sideOf_67 rfl ?_
      refine x_iload S dX6_sideOf_70 4 rfl ?_
      refine x_istore_n (lv' := [(3, .int _), (0, .ref _), (1, .int _), (2, .int _), (4, .int _)]) S dX6_sideOf_72 rfl (by decide) rfl ?_
      refine x_goto (tgt := 95) S dX6_sideOf_73 (by decide) ?_
      refine x_iincN (lv' := [(4, .int _), (3, .int _), (0, .ref _), (1, .int _), (2, .int _)]) S dX6_sideOf_95 4 rfl (by decide) rfl ?_
      refine x_goto (tgt := 10) S dX6_sideOf_98 (by decide) ?_
      exact x_sub [2, 3, 4, 1, 0] rfl (ih s _ (sOf_low hsd h4k hbs (fun T hT h => by have := hlo T hT h; have := Nat.lt_of_not_le (fun q => h6 (nI_le q hbs)); omega)))
    have h6 := (nI_leI hm hbs).mp h6
    refine x_aload_n S dX6_sideOf_76 0 rfl rfl ?_
    refine x_get S 0 9 rfl rfl inC6 (by decide) (gC _ tw474) rfl rfl dX6_sideOf_77 ?_
    refine x_iload S dX6_sideOf_80 4 rfl ?_
    refine x_ialdN S 7 0 (s) rfl rfl rfl (by omega) (by decide) dX6_sideOf_82 ?_
    rw [hcs]
    refine x_aload_n S dX6_sideOf_83 0 rfl rfl ?_
    refine x_get S 0 16 rfl rfl inC6 (by decide) (gC _ tw481) rfl rfl dX6_sideOf_84 ?_
    refine x_icmp_ne (tgt := 95) S dX6_sideOf_87 (by decide) (fun h7 => ?_) (fun h7 => ?_)
    · refine x_iincN (lv' := [(4, .int _), (0, .ref _), (1, .int _), (2, .int _), (3, .int _)]) S dX6_sideOf_95 4 rfl (by decide) rfl ?_
      refine x_goto (tgt := 10) S dX6_sideOf_98 (by decide) ?_
      exact x_sub [1, 2, 3, 4, 0] rfl (ih side _ (sOf_more hso.1 hm hx hlo hbits (by have : kC fr to wt am s ≠ m := fun q => h7 (by rw [q]); omega)))
    have h7 := pl_inj hbs hm h7
    refine x_iload_n S dX6_sideOf_90 3 rfl rfl ?_
    refine x_iload S dX6_sideOf_91 4 rfl ?_
    refine x_iand S dX6_sideOf_93 ?_
    refine x_top (nI (side &&& s)) (pl_and _ _) ?_
    refine x_istore_n (lv' := [(3, .int _), (0, .ref _), (1, .int _), (2, .int _), (4, .int _)]) S dX6_sideOf_94 rfl (by decide) rfl ?_
    refine x_iincN (lv' := [(4, .int _), (3, .int _), (0, .ref _), (1, .int _), (2, .int _)]) S dX6_sideOf_95 4 rfl (by decide) rfl ?_
    refine x_goto (tgt := 10) S dX6_sideOf_98 (by decide) ?_
    exact x_sub [2, 3, 4, 1, 0] rfl (ih _ _ (sOf_and hso.1 hm hx hlo hbits hsd h7))
  refine x_aload_n S dX6_sideOf_0 0 rfl rfl ?_
  refine x_iconst (v := -1) S dX6_sideOf_1 rfl ?_
  refine x_put (ws' := (mw bd cI cZ n am al on ot we th be ne cu nw pa br pc ap pn (-1) gr tl co ++ X)) S 0 16 rfl rfl inC6 tyX6 tyX6_ok nmX6 (by decide) (gC _ tw481) rfl rfl (tyX6_ok 16 (by decide)) rfl rfl (Nat.le_of_ble_eq_true rfl) dX6_sideOf_2 rfl ?_
  refine x_iconst (v := 0) S dX6_sideOf_5 rfl ?_
  refine x_istore_n (lv' := [(3, .int _), (0, .ref _), (1, .int _), (2, .int _)]) S dX6_sideOf_6 rfl (by decide) rfl ?_
  refine x_iconst (v := 1) S dX6_sideOf_7 rfl ?_
  refine x_istore (lv' := [(4, .int _), (3, .int _), (0, .ref _), (1, .int _), (2, .int _)]) S dX6_sideOf_8 (by decide) rfl ?_
  exact x_sub [2, 3, 4, 1, 0] rfl (L 1 (by have := Nat.pow_le_pow_right (n := 2) (by omega) (show 1 ≤ n by omega); omega) (Nat.le_refl _) 0 (-1) sOf_0)
set_option maxHeartbeats 4000000 in
set_option maxRecDepth 100000 in
theorem m_tree (h1 : 1 ≤ n) (hA : aOK n am fr to wt) (hC : vOK n am fr to wt cu) : xMetS l yX6_tree wX6_tree (rD 2) D vwCl (tyC cI cII cP cZ) nwC [.ref (bd 0)] (mw bd cI cZ n am al on ot we th be ne cu nw pa br pc ap pn ls gr tl co ++ X) (fun u : (Nat → Nat) × (Nat → Nat) × Int32 => trOK n am fr to wt u.1 u.2.1) (fun u => (mw bd cI cZ n am al on ot we th be ne cu nw u.1 u.2.1 pc ap pn u.2.2 gr tl co ++ X)) (fun _ => none) := by
  refine xMetS_of (cc := cX6_tree) (maxL := 5) (ret := none) (by decide +kernel) rfl (Nat.le_of_ble_eq_true rfl) (fun _ _ => xfv) ?_
  intro E S hnm hret
  show xW E D vwCl 5 0 0 _ [(0, .ref (bd 0))] 0 []
  have hn := hA.1
  have L2 : ∀ v, v ≤ n → 1 ≤ v → ∀ (c b : Nat → Nat) (y : Int32), (∀ j, j < n → c j = kPa (kC fr to wt am) n v j) → (∀ j, 1 ≤ j → j < v → b j = kBr (kC fr to wt am) n j) → xW E D vwCl 5 0 0 (mw bd cI cZ n am al on ot we th be ne cu nw c b pc ap pn y gr tl co ++ X) [(0, .ref (bd 0)), (1, .int (nI v))] 25 [] := by
    refine pl_up n (fun v hv ih => ?_)
    intro hv1 c b y g1 g2
    refine x_iload_n S dX6_tree_25 1 rfl rfl ?_
    refine x_aload_n S dX6_tree_26 0 rfl rfl ?_
    refine x_get S 0 0 rfl rfl inC6 (by decide) (gC _ tw465) rfl rfl dX6_tree_27 ?_
    refine x_icmp_ge (tgt := 112) S dX6_tree_30 (by decide) (fun h3 => ?_) (fun h3 => ?_)
    · have hv2 : v = n := Nat.le_antisymm hv ((nI_leI (by omega) (by omega)).mp h3)
      subst hv2
      exact hret ((c, b, y)) _ _ ⟨g1, g2⟩ dX6_tree_112
    have hv2 : v < n := Nat.lt_of_not_le (fun h => h3 (nI_le h (by omega)))
    have ih := ih hv2 (by omega)
    obtain ⟨q, hq⟩ : ∃ q, q = kPa (kC fr to wt am) n v := ⟨_, rfl⟩
    rw [← hq] at g1
    have hqv : q v < v := by rw [hq]; exact kPa_lt _ _ _ _ hv1
    have hqs : ∀ j, j < n → q j < 2 ^ 31 := fun j hj => by
      rcases Nat.eq_zero_or_pos j with e | e
      · rw [hq, e, kPa_0]; omega
      · have := kPa_lt (kC fr to wt am) n v j e
        rw [hq]; omega
    have hZ := kZ_ok (cf := kC fr to wt am) (n := n) (a := v) (b := q v) hv2 (by omega)
    have hbv : ∀ j, 1 ≤ j → j < v + 1 → va_up b v (kC fr to wt am (kZ (kC fr to wt am) n v (q v))) j = kBr (kC fr to wt am) n j := fun j hj1 hj => (Nat.lt_or_ge j v).elim (fun h => by rw [va_up_ne _ _ (by omega)]; exact g2 j hj1 h) (fun h => by
      have e : j = v := by omega
      subst e
      rw [va_up_self]
      unfold kBr
      have hk := kPa_keep (kC fr to wt am) n (n - j) j j (Nat.le_refl _)
      rw [show j + (n - j) = n by omega] at hk
      rw [hk, hq])
    have hps : ∀ j, kPa (kC fr to wt am) n (v + 1) j = kHg (kC fr to wt am) n q v j := fun j => by rw [kPa_s hv1, hq]
    generalize hz : kZ (kC fr to wt am) n v (q v) = z at hZ hbv
    have hzl : z < 4096 := Nat.lt_of_lt_of_le hZ.1.1 (pl_pow12 hn)
    have L3 : ∀ k, k ≤ n → v + 1 ≤ k → ∀ c : Nat → Nat, (∀ j, j < k → j < n → c j = kHg (kC fr to wt am) n q v j) → (∀ j, k ≤ j → j < n → c j = q j) → xW E D vwCl 5 0 0 (mw bd cI cZ n am al on ot we th be ne cu nw c (va_up b v (kC fr to wt am z)) pc ap pn (nI (kC fr to wt am z)) gr tl co ++ X) [(0, .ref (bd 0)), (1, .int (nI v)), (2, .int (nI (q v))), (3, .int (nI z)), (4, .int (nI k))] 62 [] := by
      refine pl_up n (fun k hk ih3 => ?_)
      intro hk1 c g1 g2
      refine x_iload S dX6_tree_62 4 rfl ?_
      refine x_aload_n S dX6_tree_64 0 rfl rfl ?_
      refine x_get S 0 0 rfl rfl inC6 (by decide) (gC _ tw465) rfl rfl dX6_tree_65 ?_
      refine x_icmp_ge (tgt := 106) S dX6_tree_68 (by decide) (fun h3 => ?_) (fun h3 => ?_)
      · have hk2 : k = n := Nat.le_antisymm hk ((nI_leI (by omega) (by omega)).mp h3)
        subst hk2
        refine x_iincN (lv' := [(1, .int _), (0, .ref _), (2, .int _), (3, .int _), (4, .int _)]) S dX6_tree_106 1 rfl (by decide) rfl ?_
        refine x_goto (tgt := 25) S dX6_tree_109 (by decide) ?_
        exact x_sub [1, 0] rfl (ih c _ _ (fun j hj => by rw [hps]; exact g1 j hj hj) hbv)
      have hk2 : k < n := Nat.lt_of_not_le (fun h => h3 (nI_le h (by omega)))
      have e1 := g2 k (Nat.le_refl _) hk2
      have ih3 := ih3 hk2 (by omega)
      have T0 : ¬ (q k = q v ∧ z.testBit k = true) → ∀ j, j < k + 1 → j < n → c j = kHg (kC fr to wt am) n q v j := fun hne j hj hjn => (Nat.lt_or_ge j k).elim (fun h => g1 j h hjn) (fun h => by
        have hjk : j = k := by omega
        subst hjk
        unfold kHg
        rw [if_neg (fun w => hne ⟨w.2.1, by rw [← hz]; exact w.2.2⟩), e1])
      refine x_aload_n S dX6_tree_71 0 rfl rfl ?_
      refine x_get S 0 11 rfl rfl inC6 (by decide) (gC _ tw476) rfl rfl dX6_tree_72 ?_
      refine x_iload S dX6_tree_75 4 rfl ?_
      refine x_ialdN S 8 0 (k) rfl rfl rfl (by omega) (by decide) dX6_tree_77 ?_
      rw [e1]
      have hqe : nI (q k) = nI (q v) → q k = q v := fun h => pl_inj (hqs k hk2) (hqs v hv2) h
      refine x_iload_n S dX6_tree_78 2 rfl rfl ?_
      refine x_icmp_ne (tgt := 100) S dX6_tree_79 (by decide) (fun h4 => ?_) (fun h4 => ?_)
      rotate_left
      · refine x_iload_n S dX6_tree_82 3 rfl rfl ?_
        refine x_iload S dX6_tree_83 4 rfl ?_
        refine x_ishr S dX6_tree_85 ?_
        refine x_iconst (v := 1) S dX6_tree_86 rfl ?_
        refine x_iand S dX6_tree_87 ?_
        refine x_iconst (v := 1) S dX6_tree_88 rfl ?_
        refine x_icmp_ne (tgt := 100) S dX6_tree_89 (by decide) (fun h5 => ?_) (fun h5 => ?_)
        rotate_left
        · have hb : z.testBit k = true := (pl_bit1 (by omega) (by omega)).mp h5
          refine x_aload_n S dX6_tree_92 0 rfl rfl ?_
          refine x_get S 0 11 rfl rfl inC6 (by decide) (gC _ tw476) rfl rfl dX6_tree_93 ?_
          refine x_iload S dX6_tree_96 4 rfl ?_
          refine x_iload_n S dX6_tree_98 1 rfl rfl ?_
          refine x_iastN (ws' := (mw bd cI cZ n am al on ot we th be ne cu nw (va_up c k v) (va_up b v (kC fr to wt am z)) pc ap pn (nI (kC fr to wt am z)) gr tl co ++ X)) (z := v) S 8 0 (k) rfl rfl rfl (by omega) (by decide) rfl dX6_tree_99 rfl ?_
          refine x_iincN (lv' := [(4, .int _), (0, .ref _), (1, .int _), (2, .int _), (3, .int _)]) S dX6_tree_100 4 rfl (by decide) rfl ?_
          refine x_goto (tgt := 62) S dX6_tree_103 (by decide) ?_
          exact x_sub [1, 2, 3, 4, 0] rfl (ih3 _ (fun j hj hjn => (Nat.lt_or_ge j k).elim (fun h => by rw [va_up_ne _ _ (by omega)]; exact g1 j h hjn) (fun h => by have hjk : j = k := (by omega); subst hjk; rw [va_up_self]; unfold kHg; rw [if_pos ⟨by omega, hqe h4, by rw [hz]; exact hb⟩])) (fun j hj hjn => by rw [va_up_ne _ _ (by omega)]; exact g2 j (by omega) hjn))
        refine x_iincN (lv' := [(4, .int _), (0, .ref _), (1, .int _), (2, .int _), (3, .int _)]) S dX6_tree_100 4 rfl (by decide) rfl ?_
        refine x_goto (tgt := 62) S dX6_tree_103 (by decide) ?_
        exact x_sub [1, 2, 3, 4, 0] rfl (ih3 c (T0 (fun w => h5 ((pl_bit1 (by omega) (by omega)).mpr w.2))) (fun j hj hjn => g2 j (by omega) hjn))
      refine x_iincN (lv' := [(4, .int _), (0, .ref _), (1, .int _), (2, .int _), (3, .int _)]) S dX6_tree_100 4 rfl (by decide) rfl ?_
      refine x_goto (tgt := 62) S dX6_tree_103 (by decide) ?_
      exact x_sub [1, 2, 3, 4, 0] rfl (ih3 c (T0 (fun w => h4 (by rw [w.1]))) (fun j hj hjn => g2 j (by omega) hjn))
    refine x_aload_n S dX6_tree_33 0 rfl rfl ?_
    refine x_get S 0 11 rfl rfl inC6 (by decide) (gC _ tw476) rfl rfl dX6_tree_34 ?_
    refine x_iload_n S dX6_tree_37 1 rfl rfl ?_
    refine x_ialdN S 8 0 (v) rfl rfl rfl (by omega) (by decide) dX6_tree_38 ?_
    rw [g1 v hv2]
    refine x_istore_n (lv' := [(2, .int _), (0, .ref _), (1, .int _)]) S dX6_tree_39 rfl (by decide) rfl ?_
    refine x_aload_n S dX6_tree_40 1 rfl rfl ?_
    refine x_iload_n S dX6_tree_41 2 rfl rfl ?_
    refine x_iload_n S dX6_tree_42 0 rfl rfl ?_
    refine x_cVi (n := 2) S (m_sideOf hA hC hv2 (by omega) hZ) (gGV gC tw570 tw567 tw569 ts19 tw7) rfl (by decide +kernel) 0 rfl rfl rfl rfl (Nat.le_of_ble_eq_true rfl) dX6_tree_43 ⟨by decide, by decide⟩ ⟨Nat.le_of_ble_eq_true rfl, Nat.le_of_ble_eq_true rfl⟩ ?_
    refine x_istore_n (lv' := [(3, .int _), (2, .int _), (0, .ref _), (1, .int _)]) S dX6_tree_46 rfl (by decide) rfl ?_
    refine x_aload_n S dX6_tree_47 2 rfl rfl ?_
    refine x_get S 0 12 rfl rfl inC6 (by decide) (gC _ tw477) rfl rfl dX6_tree_48 ?_
    refine x_iload_n S dX6_tree_51 3 rfl rfl ?_
    refine x_aload_n S dX6_tree_52 2 rfl rfl ?_
    refine x_get S 0 16 rfl rfl inC6 (by decide) (gC _ tw481) rfl rfl dX6_tree_53 ?_
    refine x_iastN (ws' := (mw bd cI cZ n am al on ot we th be ne cu nw c (va_up b v (kC fr to wt am z)) pc ap pn (nI (kC fr to wt am z)) gr tl co ++ X)) S 9 0 (v) rfl rfl rfl (by omega) (by decide) rfl dX6_tree_56 rfl ?_
    refine x_iload_n S dX6_tree_57 3 rfl rfl ?_
    refine x_iconst (v := 1) S dX6_tree_58 rfl ?_
    refine x_iadd S dX6_tree_59 ?_
    refine x_top (nI (v + 1)) (nI_1 v) ?_
    refine x_istore (lv' := [(4, .int _), (3, .int _), (2, .int _), (0, .ref _), (1, .int _)]) S dX6_tree_60 (by decide) rfl ?_
    exact x_sub [3, 4, 2, 1, 0] rfl (L3 (v + 1) hv2 (Nat.le_refl _) c (fun j hj hjn => by rw [g1 j hjn]; unfold kHg; rw [if_neg (fun w => by omega)]) (fun j _ hjn => g1 j hjn))
  have L1 : ∀ k, k ≤ n → ∀ c : Nat → Nat, (∀ j, j < k → c j = 0) → xW E D vwCl 5 0 0 (mw bd cI cZ n am al on ot we th be ne cu nw c br pc ap pn ls gr tl co ++ X) [(0, .ref (bd 0)), (1, .int (nI k))] 2 [] := by
    refine pl_up n (fun k hk ih => ?_)
    intro c g1
    refine x_iload_n S dX6_tree_2 1 rfl rfl ?_
    refine x_aload_n S dX6_tree_3 0 rfl rfl ?_
    refine x_get S 0 0 rfl rfl inC6 (by decide) (gC _ tw465) rfl rfl dX6_tree_4 ?_
    refine x_icmp_ge (tgt := 23) S dX6_tree_7 (by decide) (fun h3 => ?_) (fun h3 => ?_)
    · have hk2 : k = n := Nat.le_antisymm hk ((nI_leI (by omega) (by omega)).mp h3)
      subst hk2
      refine x_iconst (v := 1) S dX6_tree_23 rfl ?_
      refine x_istore_n (lv' := [(1, .int _), (0, .ref _)]) S dX6_tree_24 rfl (by decide) rfl ?_
      exact x_sub [1, 0] rfl (L2 1 h1 (Nat.le_refl _) c br ls (fun j hj => by rw [kPa_1]; exact g1 j hj) (fun j h h' => absurd h' (by omega)))
    have hk2 : k < n := Nat.lt_of_not_le (fun h => h3 (nI_le h (by omega)))
    refine x_aload_n S dX6_tree_10 0 rfl rfl ?_
    refine x_get S 0 11 rfl rfl inC6 (by decide) (gC _ tw476) rfl rfl dX6_tree_11 ?_
    refine x_iload_n S dX6_tree_14 1 rfl rfl ?_
    refine x_iconst (v := 0) S dX6_tree_15 rfl ?_
    refine x_iastN (ws' := (mw bd cI cZ n am al on ot we th be ne cu nw (va_up c k 0) br pc ap pn ls gr tl co ++ X)) (z := 0) S 8 0 (k) rfl rfl rfl (by omega) (by decide) rfl dX6_tree_16 rfl ?_
    refine x_iincN (lv' := [(1, .int _), (0, .ref _)]) S dX6_tree_17 1 rfl (by decide) rfl ?_
    refine x_goto (tgt := 2) S dX6_tree_20 (by decide) ?_
    exact x_sub [1, 0] rfl (ih hk2 _ (fun j hj => (Nat.lt_or_ge j k).elim (fun h => by rw [va_up_ne _ _ (by omega)]; exact g1 j h) (fun h => by rw [show j = k by omega, va_up_self])))
  refine x_iconst (v := 0) S dX6_tree_0 rfl ?_
  refine x_istore_n (lv' := [(1, .int _), (0, .ref _)]) S dX6_tree_1 rfl (by decide) rfl ?_
  exact x_sub [1, 0] rfl (L1 0 (Nat.zero_le _) pa (fun j hj => absurd hj (by omega)))
end M1
