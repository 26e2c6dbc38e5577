/-! CutTable: contracts, 2 -/
section TB2
theorem pop_n : ∀ (w n s : Nat), s < 2 ^ n → pn_pop w s ≤ n
  | 0, n, s, h => Nat.zero_le _
  | w + 1, 0, s, h => by
    have : s = 0 := by simpa using h
    subst this
    have := pop_n w 0 0 (by simp)
    simp only [pn_pop]
    omega
  | w + 1, n + 1, s, h => by
    rw [Nat.pow_succ] at h
    have := pop_n w n (s / 2) (by omega)
    simp only [pn_pop]
    omega
def kSpr (n s : Nat) : Nat := kP s * (n - kP s)
theorem kSpr_le {n s : Nat} (hn : n ≤ 12) : kSpr n s ≤ 144 := by
  have h1 : kP s ≤ 12 := pop_le 12 s
  have : kP s * (n - kP s) ≤ 12 * 12 := Nat.mul_le_mul h1 (by omega)
  exact this
theorem mul_bd {a b c : Nat} (h1 : a ≤ 50000) (h2 : b ≤ 144) : a * b < 2 ^ 31 := by
  have : a * b ≤ 50000 * 144 := Nat.mul_le_mul h1 h2
  omega
variable {l : Launch} {D : va_G} {ad : Nat → Nat} {cI cII cP cZ : ClassId} {n am al ch : Nat} {fr to wt nb : Nat → Nat} {M : Nat → Nat → Nat} {tch : Int32} {cu : Nat → Nat} {rch : Int32} {pa br gp : Nat → Nat} {P : Nat → Int32 × Nat × (Nat → Nat) × (Nat → Nat)} {X : va_W}
set_option maxHeartbeats 4000000 in
set_option maxRecDepth 100000 in
theorem c_sparsestSide (h2 : 2 ≤ n) (h1 : 1 ≤ n) (hA : aOK n am fr to wt) (hT : tOK n am fr to wt cu) : xMet l yX0_sparsestSide wX0_sparsestSide (rD 2) D vwCl (tyC cI cII cP cZ) nwC [.ref (ad 18)] (cw ad cI cII cP n am al ch fr to wt nb M tch cu rch pa br gp P ++ X) (cw ad cI cII cP n am al ch fr to wt nb M tch cu rch pa br gp P ++ X) (some (.int (nI (kSp (kC fr to wt am) (kSpr n) (2 ^ (n - 1) - 2))))) := by
  refine xMet_of (cc := cX0_sparsestSide) (maxL := 7) (ret := (some .int)) (by decide +kernel) rfl (Nat.le_of_ble_eq_true rfl) xfi ?_
  intro E S hnm hret
  show xW E D vwCl 7 0 0 _ [(0, .ref (ad 18))] 0 []
  have hn := hA.1
  have hpn := pl_pow12 hn
  have hps := p2_s h1
  have hp2 : 2 ≤ 2 ^ (n - 1) := by have := Nat.pow_le_pow_right (n := 2) (by omega) (show 1 ≤ n - 1 by omega); omega
  have L : ∀ k, k ≤ 2 ^ (n - 1) - 2 → xW E D vwCl 7 0 0 (cw ad cI cII cP n am al ch fr to wt nb M tch cu rch pa br gp P ++ X) [(0, .ref (ad 18)), (1, .int (nI (kSp (kC fr to wt am) (kSpr n) k))), (2, .int (nI (kC fr to wt am (kSp (kC fr to wt am) (kSpr n) k)))), (3, .int (nI (kSpr n (kSp (kC fr to wt am) (kSpr n) k)))), (4, .int (nI (2 * (k + 2))))] 20 [] := by
    refine pl_up (2 ^ (n - 1) - 2) (fun k hk ih => ?_)
    refine x_iload S dX0_sparsestSide_20 4 rfl ?_
    refine x_aload_n S dX0_sparsestSide_22 0 rfl rfl ?_
    refine x_get S 18 0 rfl rfl inC0 (by decide) (gC _ tw76) rfl rfl dX0_sparsestSide_23 ?_
    refine x_cVi (n := 0) S (c_allNodes hn) (gGV gC tw230 tw263 tw228 tw229 tw2) rfl (by decide +kernel) 0 rfl rfl rfl rfl (Nat.le_of_ble_eq_true rfl) dX0_sparsestSide_26 ⟨by decide, by decide⟩ ⟨Nat.le_of_ble_eq_true rfl, Nat.le_of_ble_eq_true rfl⟩ ?_
    refine x_icmp_gt (tgt := 77) S dX0_sparsestSide_29 (by decide) (fun h3 => ?_) (fun h3 => ?_)
    · have hk2 : k = 2 ^ (n - 1) - 2 := by have := (nI_ltI (by omega) (by omega)).mp h3; omega
      subst hk2
      refine x_iload_n S dX0_sparsestSide_77 1 rfl rfl ?_
      exact x_ret hret rfl dX0_sparsestSide_78
    have hk2 : k < 2 ^ (n - 1) - 2 := by have := Nat.le_of_not_lt (fun q => h3 (nI_lt q (by omega))); omega
    have ih := ih hk2
    have hs := kSp_le (kC fr to wt am) (kSpr n) k
    simp only [kSp] at ih
    have hc1 := hA.cf (2 * (k + 2))
    have hc2 := hA.cf (kSp (kC fr to wt am) (kSpr n) k)
    have hs1 := kSpr_le (s := 2 * (k + 2)) hn
    have hs2 := kSpr_le (s := kSp (kC fr to wt am) (kSpr n) k) hn
    refine x_aload_n S dX0_sparsestSide_32 0 rfl rfl ?_
    refine x_iload S dX0_sparsestSide_33 4 rfl ?_
    refine x_cVi (n := 1) S (c_cutAt h1 hA hT (by omega)) (gGV gC tw267 tw264 tw265 tw266 tw3) rfl (by decide +kernel) 18 rfl rfl rfl rfl (Nat.le_of_ble_eq_true rfl) dX0_sparsestSide_35 ⟨by decide, by decide⟩ ⟨Nat.le_of_ble_eq_true rfl, Nat.le_of_ble_eq_true rfl⟩ ?_
    refine x_istore (lv' := [(5, .int _), (0, .ref _), (1, .int _), (2, .int _), (3, .int _), (4, .int _)]) S dX0_sparsestSide_38 (by decide) rfl ?_
    refine x_aload_n S dX0_sparsestSide_40 1 rfl rfl ?_
    refine x_get S 18 0 rfl rfl inC0 (by decide) (gC _ tw76) rfl rfl dX0_sparsestSide_41 ?_
    refine x_iload S dX0_sparsestSide_44 5 rfl ?_
    refine x_cVi (n := 1) S (c_spread hn (by omega) (pop_n 12 n _ (by omega))) (gGV gC tw414 tw411 tw412 tw413 tw2) rfl (by decide +kernel) 0 rfl rfl rfl rfl (Nat.le_of_ble_eq_true rfl) dX0_sparsestSide_46 ⟨by decide, by decide⟩ ⟨Nat.le_of_ble_eq_true rfl, Nat.le_of_ble_eq_true rfl⟩ ?_
    refine x_istore (lv' := [(6, .int _), (5, .int _), (0, .ref _), (1, .int _), (2, .int _), (3, .int _), (4, .int _)]) S dX0_sparsestSide_49 (by decide) rfl ?_
    refine x_iload S dX0_sparsestSide_51 1 rfl ?_
    refine x_iload_n S dX0_sparsestSide_53 5 rfl rfl ?_
    refine x_imul S dX0_sparsestSide_54 ?_
    refine x_top (nI (kC fr to wt am (2 * (k + 2)) * kSpr n (kSp (kC fr to wt am) (kSpr n) k))) (pk_mul _ _) ?_
    refine x_iload_n S dX0_sparsestSide_55 4 rfl rfl ?_
    refine x_iload S dX0_sparsestSide_56 0 rfl ?_
    refine x_imul S dX0_sparsestSide_58 ?_
    refine x_top (nI (kC fr to wt am (kSp (kC fr to wt am) (kSpr n) k) * kSpr n (2 * (k + 2)))) (pk_mul _ _) ?_
    refine x_icmp_ge (tgt := 71) S dX0_sparsestSide_59 (by decide) (fun h4 => ?_) (fun h4 => ?_)
    · rw [if_neg (fun q => nI_ge q (mul_bd (c := 0) hc2 hs1) h4)] at ih
      refine x_iinc2N (lv' := [(4, .int _), (6, .int _), (5, .int _), (0, .ref _), (1, .int _), (2, .int _), (3, .int _)]) (j' := 2 * (k + 1 + 2)) S dX0_sparsestSide_71 6 rfl (by omega) (by decide) rfl ?_
      refine x_goto (tgt := 20) S dX0_sparsestSide_74 (by decide) ?_
      exact x_sub [3, 4, 5, 6, 0] rfl (ih)
    rw [if_pos (Nat.lt_of_not_le (fun q => h4 (nI_le q (mul_bd (c := 0) hc1 hs2))))] at ih
    refine x_iload S dX0_sparsestSide_62 6 rfl ?_
    refine x_istore_n (lv' := [(1, .int _), (6, .int _), (5, .int _), (0, .ref _), (2, .int _), (3, .int _), (4, .int _)]) S dX0_sparsestSide_64 rfl (by decide) rfl ?_
    refine x_iload S dX0_sparsestSide_65 2 rfl ?_
    refine x_istore_n (lv' := [(2, .int _), (1, .int _), (6, .int _), (5, .int _), (0, .ref _), (3, .int _), (4, .int _)]) S dX0_sparsestSide_67 rfl (by decide) rfl ?_
    refine x_iload S dX0_sparsestSide_68 2 rfl ?_
    refine x_istore_n (lv' := [(3, .int _), (2, .int _), (1, .int _), (6, .int _), (5, .int _), (0, .ref _), (4, .int _)]) S dX0_sparsestSide_70 rfl (by decide) rfl ?_
    refine x_iinc2N (lv' := [(4, .int _), (3, .int _), (2, .int _), (1, .int _), (6, .int _), (5, .int _), (0, .ref _)]) (j' := 2 * (k + 1 + 2)) S dX0_sparsestSide_71 6 rfl (by omega) (by decide) rfl ?_
    refine x_goto (tgt := 20) S dX0_sparsestSide_74 (by decide) ?_
    exact x_sub [6, 3, 2, 1, 0] rfl (ih)
  refine x_iconst (v := 2) S dX0_sparsestSide_0 rfl ?_
  refine x_istore_n (lv' := [(1, .int _), (0, .ref _)]) S dX0_sparsestSide_1 rfl (by decide) rfl ?_
  refine x_aload_n S dX0_sparsestSide_2 1 rfl rfl ?_
  refine x_iconst (v := 2) S dX0_sparsestSide_3 rfl ?_
  refine x_cVi (n := 1) S (c_cutAt (s := 2) h1 hA hT (by omega)) (gGV gC tw267 tw264 tw265 tw266 tw3) rfl (by decide +kernel) 18 rfl rfl rfl rfl (Nat.le_of_ble_eq_true rfl) dX0_sparsestSide_4 ⟨by decide, by decide⟩ ⟨Nat.le_of_ble_eq_true rfl, Nat.le_of_ble_eq_true rfl⟩ ?_
  refine x_istore_n (lv' := [(2, .int _), (1, .int _), (0, .ref _)]) S dX0_sparsestSide_7 rfl (by decide) rfl ?_
  refine x_aload_n S dX0_sparsestSide_8 2 rfl rfl ?_
  refine x_get S 18 0 rfl rfl inC0 (by decide) (gC _ tw76) rfl rfl dX0_sparsestSide_9 ?_
  refine x_iconst (v := 2) S dX0_sparsestSide_12 rfl ?_
  refine x_cVi (n := 1) S (c_spread (s := 2) hn (by omega) (pop_n 12 n _ (by omega))) (gGV gC tw414 tw411 tw412 tw413 tw2) rfl (by decide +kernel) 0 rfl rfl rfl rfl (Nat.le_of_ble_eq_true rfl) dX0_sparsestSide_13 ⟨by decide, by decide⟩ ⟨Nat.le_of_ble_eq_true rfl, Nat.le_of_ble_eq_true rfl⟩ ?_
  refine x_istore_n (lv' := [(3, .int _), (2, .int _), (1, .int _), (0, .ref _)]) S dX0_sparsestSide_16 rfl (by decide) rfl ?_
  refine x_iconst (v := 4) S dX0_sparsestSide_17 rfl ?_
  refine x_istore (lv' := [(4, .int _), (3, .int _), (2, .int _), (1, .int _), (0, .ref _)]) S dX0_sparsestSide_18 (by decide) rfl ?_
  exact x_sub [4, 3, 2, 1, 0] rfl (L 0 (Nat.zero_le _))
set_option maxHeartbeats 4000000 in
set_option maxRecDepth 100000 in
theorem c_fillSetsUpTo {v : Nat} (hA : aOK n am fr to wt) (hM : mOK am fr to wt M) (hv1 : 1 ≤ v) (hv : v < n) (hc : ∀ p, p < 2 ^ (v - 1) → cu p = kC fr to wt am (2 * p)) : xMetS l yX0_fillSetsUpTo wX0_fillSetsUpTo (rD 1) D vwCl (tyC cI cII cP cZ) nwC [.ref (ad 18), .int (nI v)] (cw ad cI cII cP n am al ch fr to wt nb M tch cu rch pa br gp P ++ X) (fun c : Nat → Nat => ∀ p, p < 2 ^ v → c p = kC fr to wt am (2 * p)) (fun c => (cw ad cI cII cP n am al ch fr to wt nb M tch c rch pa br gp P ++ X)) (fun _ => none) := by
  refine xMetS_of (cc := cX0_fillSetsUpTo) (maxL := 7) (ret := none) (by decide +kernel) rfl (Nat.le_of_ble_eq_true rfl) (fun _ _ => xfv) ?_
  intro E S hnm hret
  show xW E D vwCl 7 0 0 _ [(0, .ref (ad 18)), (1, .int (nI v))] 0 []
  have hn := hA.1
  obtain ⟨q, hq⟩ : ∃ q, q = 2 ^ (v - 1) := ⟨_, rfl⟩
  have hq0 : 0 < q := by rw [hq]; exact Nat.two_pow_pos _
  have hqv : 2 ^ v = 2 * q := by rw [hq]; exact p2_s hv1
  have hq10 : q ≤ 1024 := by rw [hq]; exact Nat.pow_le_pow_right (n := 2) (by omega) (show v - 1 ≤ 10 by omega)
  rw [← hq] at hc
  have hMv : ∀ u, u < n → M v u = kM fr to wt am v u := fun u hu => hM v u (by omega) (by omega)
  have hK : ∀ r, r < q → kC fr to wt am (2 * (q + r)) + 2 * kV M v n (2 * r) = kC fr to wt am (2 * r) + sm (fun u => M v u) n := by
    intro r hr
    have hb : (2 * r).testBit v = false := Nat.testBit_lt_two_pow (by omega)
    have h3 := kC_step (fr := fr) (to := to) (wt := wt) (k := am) (n := n) (v := v) (S := 2 * r) hA.st hb
    rw [or_add _ _ hb, hqv, show 2 * r + 2 * q = 2 * (q + r) by omega] at h3
    unfold kV
    rw [sm_congr (g := fun u => if (2 * r).testBit u = true then kM fr to wt am v u else 0) (fun u hu => by rw [hMv u hu]), sm_congr (g := fun u => kM fr to wt am v u) (fun u hu => hMv u hu)]
    exact h3
  have L3 : ∀ k, k ≤ q → ∀ c : Nat → Nat, (∀ p, p < q → c p = kC fr to wt am (2 * p)) → (∀ r, r < k → c (q + r) = kC fr to wt am (2 * (q + r))) → (∀ r, k ≤ r → r < q → c (q + r) = kV M v n (2 * r)) → ∀ x5 x6 : Int32, xW E D vwCl 7 0 0 (cw ad cI cII cP n am al ch fr to wt nb M tch c rch pa br gp P ++ X) [(0, .ref (ad 18)), (1, .int (nI v)), (2, .int (nI q)), (3, .int (nI (sm (fun u => M v u) n))), (4, .int (nI k))] 98 [] := by
    refine pl_up q (fun k hk ih => ?_)
    intro c g1 g2 g3 x5 x6
    refine x_iload S dX0_fillSetsUpTo_98 4 rfl ?_
    refine x_iload_n S dX0_fillSetsUpTo_100 2 rfl rfl ?_
    refine x_icmp_ge (tgt := 140) S dX0_fillSetsUpTo_101 (by decide) (fun h3 => ?_) (fun h3 => ?_)
    · have hk2 : k = q := Nat.le_antisymm hk ((nI_leI (by omega) (by omega)).mp h3)
      subst hk2
      exact hret (c) _ _ (fun p hp => (Nat.lt_or_ge p k).elim (fun h => g1 p h) (fun h => by have := g2 (p - k) (by omega); rw [show k + (p - k) = p by omega] at this; exact this)) dX0_fillSetsUpTo_140
    have hk2 : k < q := Nat.lt_of_not_le (fun h => h3 (nI_le h (by omega)))
    have e1 := g1 k hk2
    have e2 := g3 k (Nat.le_refl _) hk2
    have e3 := hK k hk2
    refine x_aload_n S dX0_fillSetsUpTo_104 0 rfl rfl ?_
    refine x_get S 18 1 rfl rfl inC0 (by decide) (gC _ tw77) rfl rfl dX0_fillSetsUpTo_105 ?_
    refine x_iload_n S dX0_fillSetsUpTo_108 2 rfl rfl ?_
    refine x_iload S dX0_fillSetsUpTo_109 4 rfl ?_
    refine x_iadd S dX0_fillSetsUpTo_111 ?_
    refine x_top (nI (q + k)) (nI_add _ _) ?_
    refine x_aload_n S dX0_fillSetsUpTo_112 0 rfl rfl ?_
    refine x_get S 18 1 rfl rfl inC0 (by decide) (gC _ tw77) rfl rfl dX0_fillSetsUpTo_113 ?_
    refine x_iload S dX0_fillSetsUpTo_116 4 rfl ?_
    refine x_ialdN S 19 0 (k) rfl rfl rfl (by omega) (by decide) dX0_fillSetsUpTo_118 ?_
    refine x_iload_n S dX0_fillSetsUpTo_119 3 rfl rfl ?_
    refine x_iadd S dX0_fillSetsUpTo_120 ?_
    refine x_iconst (v := 2) S dX0_fillSetsUpTo_121 rfl ?_
    refine x_aload_n S dX0_fillSetsUpTo_122 0 rfl rfl ?_
    refine x_get S 18 1 rfl rfl inC0 (by decide) (gC _ tw77) rfl rfl dX0_fillSetsUpTo_123 ?_
    refine x_iload_n S dX0_fillSetsUpTo_126 2 rfl rfl ?_
    refine x_iload S dX0_fillSetsUpTo_127 4 rfl ?_
    refine x_iadd S dX0_fillSetsUpTo_129 ?_
    refine x_top (nI (q + k)) (nI_add _ _) ?_
    refine x_ialdN S 19 0 (q + k) rfl rfl rfl (by omega) (by decide) dX0_fillSetsUpTo_130 ?_
    refine x_imul S dX0_fillSetsUpTo_131 ?_
    refine x_isub S dX0_fillSetsUpTo_132 ?_
    refine x_iastN (ws' := (cw ad cI cII cP n am al ch fr to wt nb M tch (va_up c (q + k) (kC fr to wt am (2 * (q + k)))) rch pa br gp P ++ X)) (z := kC fr to wt am (2 * (q + k))) S 19 0 (q + k) rfl rfl rfl (by omega) (by decide) (by rw [nI_add, show (2 : Int32) = nI 2 from rfl, pk_mul, pk_sub (by omega)]; congr 1; omega) dX0_fillSetsUpTo_133 rfl ?_
    refine x_iincN (lv' := [(4, .int _), (0, .ref _), (1, .int _), (2, .int _), (3, .int _)]) S dX0_fillSetsUpTo_134 4 rfl (by decide) rfl ?_
    refine x_goto (tgt := 98) S dX0_fillSetsUpTo_137 (by decide) ?_
    exact x_sub [1, 2, 3, 4, 0] rfl (ih hk2 _ (fun p hp => by rw [va_up_ne _ _ (by omega)]; exact g1 p hp) (fun r hr => (Nat.lt_or_ge r k).elim (fun h => by rw [va_up_ne _ _ (by omega)]; exact g2 r h) (fun h => by rw [show r = k by omega, va_up_self])) (fun r h h' => by rw [va_up_ne _ _ (by omega)]; exact g3 r (by omega) h') 0 0)
  have L1 : ∀ u, u ≤ v → 1 ≤ u → ∀ c : Nat → Nat, (∀ p, p < q → c p = kC fr to wt am (2 * p)) → (∀ r, r < 2 ^ (u - 1) → c (q + r) = kV M v n (2 * r)) → xW E D vwCl 7 0 0 (cw ad cI cII cP n am al ch fr to wt nb M tch c rch pa br gp P ++ X) [(0, .ref (ad 18)), (1, .int (nI v)), (2, .int (nI q)), (3, .int (nI u))] 15 [] := by
    refine pl_up v (fun u hu ih => ?_)
    intro hu1 c g1 g2
    refine x_iload_n S dX0_fillSetsUpTo_15 3 rfl rfl ?_
    refine x_iload_n S dX0_fillSetsUpTo_16 1 rfl rfl ?_
    refine x_icmp_ge (tgt := 86) S dX0_fillSetsUpTo_17 (by decide) (fun h3 => ?_) (fun h3 => ?_)
    · have hu2 : u = v := Nat.le_antisymm hu ((nI_leI (by omega) (by omega)).mp h3)
      subst hu2
      refine x_aload_n S dX0_fillSetsUpTo_86 0 rfl rfl ?_
      refine x_get S 18 0 rfl rfl inC0 (by decide) (gC _ tw76) rfl rfl dX0_fillSetsUpTo_87 ?_
      refine x_iload_n S dX0_fillSetsUpTo_90 1 rfl rfl ?_
      refine x_cVi (n := 1) S (c_weightAt hn (by omega)) (gGV gC tw254 tw251 tw252 tw253 tw2) rfl (by decide +kernel) 0 rfl rfl rfl rfl (Nat.le_of_ble_eq_true rfl) dX0_fillSetsUpTo_91 ⟨by decide, by decide⟩ ⟨Nat.le_of_ble_eq_true rfl, Nat.le_of_ble_eq_true rfl⟩ ?_
      refine x_istore_n (lv' := [(3, .int _), (0, .ref _), (1, .int _), (2, .int _)]) S dX0_fillSetsUpTo_94 rfl (by decide) rfl ?_
      refine x_iconst (v := 0) S dX0_fillSetsUpTo_95 rfl ?_
      refine x_istore (lv' := [(4, .int _), (3, .int _), (0, .ref _), (1, .int _), (2, .int _)]) S dX0_fillSetsUpTo_96 (by decide) rfl ?_
      exact x_sub [2, 3, 4, 1, 0] rfl (L3 0 (Nat.zero_le _) c g1 (fun r hr => absurd hr (by omega)) (fun r _ hr => g2 r (by rw [← hq]; exact hr)) 0 0)
    have hu2 : u < v := Nat.lt_of_not_le (fun h => h3 (nI_le h (by omega)))
    obtain ⟨b, hb⟩ : ∃ b, b = 2 ^ (u - 1) := ⟨_, rfl⟩
    have hb0 : 0 < b := by rw [hb]; exact Nat.two_pow_pos _
    have hbu : 2 ^ u = 2 * b := by rw [hb]; exact p2_s hu1
    have hbq : 2 * b ≤ q := by rw [← hbu, hq]; exact Nat.pow_le_pow_right (n := 2) (by omega) (by omega)
    rw [← hb] at g2
    have L2 : ∀ k, k ≤ b → ∀ c : Nat → Nat, (∀ p, p < q → c p = kC fr to wt am (2 * p)) → (∀ r, r < b + k → c (q + r) = kV M v n (2 * r)) → xW E D vwCl 7 0 0 (cw ad cI cII cP n am al ch fr to wt nb M tch c rch pa br gp P ++ X) [(0, .ref (ad 18)), (1, .int (nI v)), (2, .int (nI q)), (3, .int (nI u)), (4, .int (nI b)), (5, .int (nI (M v u))), (6, .int (nI k))] 43 [] := by
      refine pl_up b (fun k hk ih2 => ?_)
      intro c g1 g2
      refine x_iload S dX0_fillSetsUpTo_43 6 rfl ?_
      refine x_iload S dX0_fillSetsUpTo_45 4 rfl ?_
      refine x_icmp_ge (tgt := 80) S dX0_fillSetsUpTo_47 (by decide) (fun h4 => ?_) (fun h4 => ?_)
      · have hk2 : k = b := Nat.le_antisymm hk ((nI_leI (by omega) (by omega)).mp h4)
        refine x_iincN (lv' := [(3, .int _), (0, .ref _), (1, .int _), (2, .int _), (4, .int _), (5, .int _), (6, .int _)]) S dX0_fillSetsUpTo_80 3 rfl (by decide) rfl ?_
        refine x_goto (tgt := 15) S dX0_fillSetsUpTo_83 (by decide) ?_
        exact x_sub [1, 2, 3, 0] rfl (ih hu2 (by omega) c g1 (fun r hr => g2 r (by rw [show u + 1 - 1 = u by omega, hbu] at hr; omega)))
      have hk2 : k < b := Nat.lt_of_not_le (fun h => h4 (nI_le h (by omega)))
      have e1 := g2 k (by omega)
      have e2 : kV M v n (2 * (b + k)) = kV M v n (2 * k) + M v u := by
        have := kV_add (M := M) (v := v) (n := n) (u := u) (S := 2 * k) (by omega) (by omega)
        rw [hbu, show 2 * b + 2 * k = 2 * (b + k) by omega] at this
        exact this
      refine x_aload_n S dX0_fillSetsUpTo_50 0 rfl rfl ?_
      refine x_get S 18 1 rfl rfl inC0 (by decide) (gC _ tw77) rfl rfl dX0_fillSetsUpTo_51 ?_
      refine x_iload_n S dX0_fillSetsUpTo_54 2 rfl rfl ?_
      refine x_iload S dX0_fillSetsUpTo_55 4 rfl ?_
      refine x_iadd S dX0_fillSetsUpTo_57 ?_
      refine x_iload S dX0_fillSetsUpTo_58 6 rfl ?_
      refine x_iadd S dX0_fillSetsUpTo_60 ?_
      refine x_top (nI (q + b + k)) (by rw [nI_add, nI_add]) ?_
      refine x_aload_n S dX0_fillSetsUpTo_61 0 rfl rfl ?_
      refine x_get S 18 1 rfl rfl inC0 (by decide) (gC _ tw77) rfl rfl dX0_fillSetsUpTo_62 ?_
      refine x_iload_n S dX0_fillSetsUpTo_65 2 rfl rfl ?_
      refine x_iload S dX0_fillSetsUpTo_66 6 rfl ?_
      refine x_iadd S dX0_fillSetsUpTo_68 ?_
      refine x_top (nI (q + k)) (nI_add _ _) ?_
      refine x_ialdN S 19 0 (q + k) rfl rfl rfl (by omega) (by decide) dX0_fillSetsUpTo_69 ?_
      refine x_iload S dX0_fillSetsUpTo_70 5 rfl ?_
      refine x_iadd S dX0_fillSetsUpTo_72 ?_
      refine x_iastN (ws' := (cw ad cI cII cP n am al ch fr to wt nb M tch (va_up c (q + b + k) (kV M v n (2 * (b + k)))) rch pa br gp P ++ X)) (z := kV M v n (2 * (b + k))) S 19 0 (q + b + k) rfl rfl rfl (by omega) (by decide) (by rw [nI_add, e1, e2]) dX0_fillSetsUpTo_73 rfl ?_
      refine x_iincN (lv' := [(6, .int _), (0, .ref _), (1, .int _), (2, .int _), (3, .int _), (4, .int _), (5, .int _)]) S dX0_fillSetsUpTo_74 6 rfl (by decide) rfl ?_
      refine x_goto (tgt := 43) S dX0_fillSetsUpTo_77 (by decide) ?_
      exact x_sub [1, 2, 3, 4, 5, 6, 0] rfl (ih2 hk2 _ (fun p hp => by rw [va_up_ne _ _ (by omega)]; exact g1 p hp) (fun r hr => (Nat.lt_or_ge r (b + k)).elim (fun h => by rw [va_up_ne _ _ (by omega)]; exact g2 r h) (fun h => by rw [show r = b + k by omega, show q + (b + k) = q + b + k by omega, va_up_self])))
    refine x_iconst (v := 1) S dX0_fillSetsUpTo_20 rfl ?_
    refine x_iload_n S dX0_fillSetsUpTo_21 3 rfl rfl ?_
    refine x_iconst (v := 1) S dX0_fillSetsUpTo_22 rfl ?_
    refine x_isub S dX0_fillSetsUpTo_23 ?_
    refine x_ishl S dX0_fillSetsUpTo_24 ?_
    refine x_top (nI b) (by rw [show (1 : Int32) = nI 1 from rfl, pk_sub hu1]; show (1 : Int32) <<< _ = _; rw [pl_one (by omega), hb]) ?_
    refine x_istore (lv' := [(4, .int _), (0, .ref _), (1, .int _), (2, .int _), (3, .int _)]) S dX0_fillSetsUpTo_25 (by decide) rfl ?_
    refine x_aload_n S dX0_fillSetsUpTo_27 1 rfl rfl ?_
    refine x_get S 18 0 rfl rfl inC0 (by decide) (gC _ tw76) rfl rfl dX0_fillSetsUpTo_28 ?_
    refine x_get S 0 3 rfl rfl inC2 (by decide) (gC _ tw33) rfl rfl dX0_fillSetsUpTo_31 ?_
    refine x_iload_n S dX0_fillSetsUpTo_34 2 rfl rfl ?_
    refine x_aald S 4 1 (v) rfl rfl rfl rfl (by omega) (by decide) rfl dX0_fillSetsUpTo_35 ?_
    refine x_iload_n S dX0_fillSetsUpTo_36 4 rfl rfl ?_
    refine x_ialdN S (6 + v) 0 (u) (cw_row (by omega)) rfl rfl (by omega) (by decide) dX0_fillSetsUpTo_37 ?_
    refine x_istore (lv' := [(5, .int _), (4, .int _), (0, .ref _), (1, .int _), (2, .int _), (3, .int _)]) S dX0_fillSetsUpTo_38 (by decide) rfl ?_
    refine x_iconst (v := 0) S dX0_fillSetsUpTo_40 rfl ?_
    refine x_istore (lv' := [(6, .int _), (5, .int _), (4, .int _), (0, .ref _), (1, .int _), (2, .int _), (3, .int _)]) S dX0_fillSetsUpTo_41 (by decide) rfl ?_
    exact x_sub [3, 4, 5, 6, 2, 1, 0] rfl (L2 0 (Nat.zero_le _) c g1 (fun r hr => g2 r (by omega)))
  refine x_iconst (v := 1) S dX0_fillSetsUpTo_0 rfl ?_
  refine x_iload_n S dX0_fillSetsUpTo_1 1 rfl rfl ?_
  refine x_iconst (v := 1) S dX0_fillSetsUpTo_2 rfl ?_
  refine x_isub S dX0_fillSetsUpTo_3 ?_
  refine x_ishl S dX0_fillSetsUpTo_4 ?_
  refine x_top (nI q) (by rw [show (1 : Int32) = nI 1 from rfl, pk_sub hv1]; show (1 : Int32) <<< _ = _; rw [pl_one (by omega), hq]) ?_
  refine x_istore_n (lv' := [(2, .int _), (0, .ref _), (1, .int _)]) S dX0_fillSetsUpTo_5 rfl (by decide) rfl ?_
  refine x_aload_n S dX0_fillSetsUpTo_6 1 rfl rfl ?_
  refine x_get S 18 1 rfl rfl inC0 (by decide) (gC _ tw77) rfl rfl dX0_fillSetsUpTo_7 ?_
  refine x_iload_n S dX0_fillSetsUpTo_10 0 rfl rfl ?_
  refine x_iconst (v := 0) S dX0_fillSetsUpTo_11 rfl ?_
  refine x_iastN (ws' := (cw ad cI cII cP n am al ch fr to wt nb M tch (va_up cu q 0) rch pa br gp P ++ X)) (z := 0) S 19 0 (q) rfl rfl rfl (by omega) (by decide) rfl dX0_fillSetsUpTo_12 rfl ?_
  refine x_iconst (v := 1) S dX0_fillSetsUpTo_13 rfl ?_
  refine x_istore_n (lv' := [(3, .int _), (2, .int _), (0, .ref _), (1, .int _)]) S dX0_fillSetsUpTo_14 rfl (by decide) rfl ?_
  exact x_sub [2, 3, 1, 0] rfl (L1 1 hv1 (Nat.le_refl _) _ (fun p hp => by rw [va_up_ne _ _ (by omega)]; exact hc p hp) (fun r hr => by have : r = 0 := (by simpa using hr); rw [this, Nat.add_zero, va_up_self, Nat.mul_zero, kV_0]))
set_option maxHeartbeats 4000000 in
set_option maxRecDepth 100000 in
theorem c_refreshT (h1 : 1 ≤ n) (hA : aOK n am fr to wt) (hM : mOK am fr to wt M) (h0 : cu 0 = 0) (hT : tch = nI ch → tOK n am fr to wt cu) : xMetS l yX0_refresh wX0_refresh (rD 2) D vwCl (tyC cI cII cP cZ) nwC [.ref (ad 18)] (cw ad cI cII cP n am al ch fr to wt nb M tch cu rch pa br gp P ++ X) (fun c : Nat → Nat => tOK n am fr to wt c) (fun c => (cw ad cI cII cP n am al ch fr to wt nb M (nI ch) c rch pa br gp P ++ X)) (fun _ => none) := by
  refine xMetS_of (cc := cX0_refresh) (maxL := 2) (ret := none) (by decide +kernel) rfl (Nat.le_of_ble_eq_true rfl) (fun _ _ => xfv) ?_
  intro E S hnm hret
  show xW E D vwCl 2 0 0 _ [(0, .ref (ad 18))] 0 []
  have hn := hA.1
  have L : ∀ v, v ≤ n → 1 ≤ v → ∀ c : Nat → Nat, (∀ p, p < 2 ^ (v - 1) → c p = kC fr to wt am (2 * p)) → xW E D vwCl 2 0 0 (cw ad cI cII cP n am al ch fr to wt nb M (nI ch) c rch pa br gp P ++ X) [(0, .ref (ad 18)), (1, .int (nI v))] 28 [] := by
    refine pl_up n (fun v hv ih => ?_)
    intro hv1 c hc
    refine x_iload_n S dX0_refresh_28 1 rfl rfl ?_
    refine x_aload_n S dX0_refresh_29 0 rfl rfl ?_
    refine x_get S 18 0 rfl rfl inC0 (by decide) (gC _ tw76) rfl rfl dX0_refresh_30 ?_
    refine x_get S 0 5 rfl rfl inC2 (by decide) (gC _ tw40) rfl rfl dX0_refresh_33 ?_
    refine x_icmp_ge (tgt := 50) S dX0_refresh_36 (by decide) (fun h3 => ?_) (fun h3 => ?_)
    · have hv2 : v = n := Nat.le_antisymm hv ((nI_leI (by omega) (by omega)).mp h3)
      subst hv2
      exact hret (c) _ _ hc dX0_refresh_50
    have hv2 : v < n := Nat.lt_of_not_le (fun h => h3 (nI_le h (by omega)))
    refine x_aload_n S dX0_refresh_39 0 rfl rfl ?_
    refine x_iload_n S dX0_refresh_40 1 rfl rfl ?_
    refine x_cVvS (n := 1) S (c_fillSetsUpTo hA hM hv1 hv2 hc) (gGV gC tw250 tw247 tw249 ts2 tw3) rfl (by decide +kernel) 18 rfl rfl rfl rfl (Nat.le_of_ble_eq_true rfl) dX0_refresh_41 ⟨by decide, by decide⟩ ⟨Nat.le_of_ble_eq_true rfl, Nat.le_of_ble_eq_true rfl⟩ (fun c2 hc2 => ?_)
    refine x_iincN (lv' := [(1, .int _), (0, .ref _)]) S dX0_refresh_44 1 rfl (by decide) rfl ?_
    refine x_goto (tgt := 28) S dX0_refresh_47 (by decide) ?_
    exact x_sub [1, 0] rfl (ih hv2 (by omega) c2 hc2)
  refine x_aload_n S dX0_refresh_0 0 rfl rfl ?_
  refine x_get S 18 2 rfl rfl inC0 (by decide) (gC _ tw78) rfl rfl dX0_refresh_1 ?_
  refine x_aload_n S dX0_refresh_4 0 rfl rfl ?_
  refine x_get S 18 0 rfl rfl inC0 (by decide) (gC _ tw76) rfl rfl dX0_refresh_5 ?_
  refine x_get S 0 8 rfl rfl inC2 (by decide) (gC _ tw47) rfl rfl dX0_refresh_8 ?_
  refine x_icmp_ne (tgt := 15) S dX0_refresh_11 (by decide) (fun h3 => ?_) (fun h3 => ?_)
  rotate_left
  · have hT2 := hT h3
    subst h3
    exact hret (cu) _ _ hT2 dX0_refresh_14
  refine x_aload_n S dX0_refresh_15 0 rfl rfl ?_
  refine x_aload_n S dX0_refresh_16 0 rfl rfl ?_
  refine x_get S 18 0 rfl rfl inC0 (by decide) (gC _ tw76) rfl rfl dX0_refresh_17 ?_
  refine x_get S 0 8 rfl rfl inC2 (by decide) (gC _ tw47) rfl rfl dX0_refresh_20 ?_
  refine x_put (ws' := (cw ad cI cII cP n am al ch fr to wt nb M (nI ch) cu rch pa br gp P ++ X)) S 18 2 rfl rfl inC0 tyX0 tyX0_ok nmX0 (by decide) (gC _ tw78) rfl rfl (tyX0_ok 2 (by decide)) rfl rfl (Nat.le_of_ble_eq_true rfl) dX0_refresh_23 rfl ?_
  refine x_iconst (v := 1) S dX0_refresh_26 rfl ?_
  refine x_istore_n (lv' := [(1, .int _), (0, .ref _)]) S dX0_refresh_27 rfl (by decide) rfl ?_
  exact x_sub [1, 0] rfl (L 1 h1 (Nat.le_refl _) cu (fun p hp => by have : p = 0 := (by simpa using hp); rw [this, h0, Nat.mul_zero, kC_0]))
end TB2
