/-! Graph: contracts, 3 -/
section GR3
theorem nwm_CutTrees_9 : (RX5, 9, yX2_init, RX5) ∈ nwC := List.mem_cons_self
theorem nwm_CutTrees_CutTable_54 : (RX0, 54, yX5_nextWithin, RX5) ∈ nwC := List.mem_cons_of_mem _ List.mem_cons_self
theorem nwm_CutTrees_Graph_68 : (RX2, 68, yX5_nextWithin, RX5) ∈ nwC := List.mem_cons_of_mem _ (List.mem_cons_of_mem _ List.mem_cons_self)
theorem nI_subw {m w x : Nat} (h : m + w = x) : nI x + -nI w = nI m := by
  rw [← h, ← nI_add, ← Int32.sub_eq_add_neg, Int32.add_sub_cancel]
def zN (f : Nat → Nat) (k : Nat) : Nat → Nat := fun i => if i < k then 0 else f i
theorem zN_0 (f : Nat → Nat) : zN f 0 = f := by funext i; simp [zN]
theorem zN_s (f : Nat → Nat) (k : Nat) : va_up (zN f k) k 0 = zN f (k + 1) := by
  funext i
  by_cases h : i = k
  · subst h; simp [zN, va_up]
  · by_cases h2 : i < k
    · simp [zN, va_up, h, h2, Nat.lt_succ_of_lt h2]
    · simp [zN, va_up, h, h2, show ¬ i < k + 1 by omega]
def zR (M : Nat → Nat → Nat) (k : Nat) : Nat → Nat → Nat := fun i => if i < k then zN (M i) 12 else M i
theorem zR_0 (M : Nat → Nat → Nat) : zR M 0 = M := by funext i; simp [zR]
theorem zR_a (M : Nat → Nat → Nat) (k : Nat) : va_up (zR M k) k (zN (M k) 0) = zR M k := by
  funext i
  by_cases h : i = k
  · subst h; simp [zR, va_up, zN_0]
  · simp [va_up, h]
theorem zR_s (M : Nat → Nat → Nat) (k : Nat) : va_up (zR M k) k (zN (M k) 12) = zR M (k + 1) := by
  funext i
  by_cases h : i = k
  · subst h; simp [zR, va_up]
  · by_cases h2 : i < k
    · simp [zR, va_up, h, h2, Nat.lt_succ_of_lt h2]
    · simp [zR, va_up, h, h2, show ¬ i < k + 1 by omega]
theorem upup {α : Type} (f : Nat → α) (k : Nat) (v w : α) : va_up (va_up f k v) k w = va_up f k w := bx_uu f k v w
variable {l : Launch} {D : va_G} {ad : Nat → Nat} {cI cII cP cZ : ClassId} {n am al ch : Nat} {fr to wt nb : Nat → Nat} {M : Nat → Nat → Nat} {tch : Int32} {cu : Nat → Nat} {rch : Int32} {pa br gp : Nat → Nat} {P : Nat → Int32 × Nat × (Nat → Nat) × (Nat → Nat)} {X : va_W}
set_option maxHeartbeats 4000000 in
set_option maxRecDepth 100000 in
theorem c_countConnected {o : Nat} (hn : n ≤ 12) (ho : o < 4096) : xMet l yX2_countConnected wX2_countConnected (rD 1) D vwCl (tyC cI cII cP cZ) nwC [.ref (ad 0), .int (nI o)] (cw ad cI cII cP n am al ch fr to wt nb M tch cu rch pa br gp P ++ X) (cw ad cI cII cP n am al ch fr to wt nb M tch cu rch pa br gp P ++ X) (some (.int (nI (kCC nb o n n).2))) := by
  refine xMet_of (cc := cX2_countConnected) (maxL := 5) (ret := (some .int)) (by decide +kernel) rfl (Nat.le_of_ble_eq_true rfl) xfi ?_
  intro E S hnm hret
  show xW E D vwCl 5 0 0 _ [(0, .ref (ad 0)), (1, .int (nI o))] 0 []
  have L : ∀ k, k ≤ n → xW E D vwCl 5 0 0 (cw ad cI cII cP n am al ch fr to wt nb M tch cu rch pa br gp P ++ X) [(0, .ref (ad 0)), (1, .int (nI o)), (2, .int (nI (kCC nb o n k).2)), (3, .int (nI (kCC nb o n k).1)), (4, .int (nI k))] 7 [] := by
    refine pl_up n (fun k hk ih => ?_)
    refine x_iload S dX2_countConnected_7 4 rfl ?_
    refine x_aload_n S dX2_countConnected_9 0 rfl rfl ?_
    refine x_get S 0 5 rfl rfl inC2 (by decide) (gC _ tw36) rfl rfl dX2_countConnected_10 ?_
    refine x_icmp_ge (tgt := 47) S dX2_countConnected_13 (by decide) (fun h1 => ?_) (fun h1 => ?_)
    · refine x_iload_n S dX2_countConnected_47 2 rfl rfl ?_
      have hk2 : k = n := Nat.le_antisymm hk ((nI_leI (by omega) (by omega)).mp h1)
      subst hk2
      exact x_ret hret rfl dX2_countConnected_48
    have hk2 : k < n := Nat.lt_of_not_le (fun q => h1 (nI_le q (by omega)))
    have hlt := kCC_lt (nb := nb) (n := n) ho k
    refine x_iload_n S dX2_countConnected_16 3 rfl rfl ?_
    refine x_iload S dX2_countConnected_17 4 rfl ?_
    refine x_ishr S dX2_countConnected_19 ?_
    refine x_iconst (v := 1) S dX2_countConnected_20 rfl ?_
    refine x_iand S dX2_countConnected_21 ?_
    refine x_iconst (v := 1) S dX2_countConnected_22 rfl ?_
    refine x_icmp_ne (tgt := 41) S dX2_countConnected_23 (by decide) (fun h3 => ?_) (fun h3 => ?_)
    · refine x_iincN (lv' := [(4, .int _), (0, .ref _), (1, .int _), (2, .int _), (3, .int _)]) S dX2_countConnected_41 4 rfl (by decide) rfl ?_
      refine x_goto (tgt := 7) S dX2_countConnected_44 (by decide) ?_
      have e : kCC nb o n (k + 1) = kCC nb o n k := by
        simp only [kCC]
        rw [if_neg (fun q => h3 ((pl_bit1 (by omega) (by omega)).mpr q))]
      rw [← e]
      exact x_sub [1, 2, 3, 4, 0] rfl (ih hk2)
    have e : kCC nb o n (k + 1) = (pl_di (kCC nb o n k).1 (kR nb o n n (2 ^ k)), (kCC nb o n k).2 + 1) := by
      simp only [kCC]
      rw [if_pos ((pl_bit1 (by omega) (by omega)).mp h3)]
    rw [e] at ih
    refine x_iload_n S dX2_countConnected_26 3 rfl rfl ?_
    refine x_aload_n S dX2_countConnected_27 0 rfl rfl ?_
    refine x_iload S dX2_countConnected_28 4 rfl ?_
    refine x_iload_n S dX2_countConnected_30 1 rfl rfl ?_
    refine x_cVi (n := 2) S (c_reachedFrom hn (by omega) ho) (gGV gC tw446 tw443 tw445 ts13 tw2) rfl (by decide +kernel) 0 rfl rfl rfl rfl (Nat.le_of_ble_eq_true rfl) dX2_countConnected_31 ⟨by decide, by decide⟩ ⟨Nat.le_of_ble_eq_true rfl, Nat.le_of_ble_eq_true rfl⟩ ?_
    refine x_iconst (v := -1) S dX2_countConnected_34 rfl ?_
    refine x_ixor S dX2_countConnected_35 ?_
    refine x_iand S dX2_countConnected_36 ?_
    refine x_top (nI (pl_di (kCC nb o n k).1 (kR nb o n n (2 ^ k)))) (pl_di_I _ _) ?_
    refine x_istore_n (lv' := [(3, .int _), (0, .ref _), (1, .int _), (2, .int _), (4, .int _)]) S dX2_countConnected_37 rfl (by decide) rfl ?_
    refine x_iincN (lv' := [(2, .int _), (3, .int _), (0, .ref _), (1, .int _), (4, .int _)]) S dX2_countConnected_38 3 rfl (by decide) rfl ?_
    refine x_iincN (lv' := [(4, .int _), (2, .int _), (3, .int _), (0, .ref _), (1, .int _)]) S dX2_countConnected_41 4 rfl (by decide) rfl ?_
    refine x_goto (tgt := 7) S dX2_countConnected_44 (by decide) ?_
    exact x_sub [3, 4, 1, 2, 0] rfl (ih hk2)
  refine x_iconst (v := 0) S dX2_countConnected_0 rfl ?_
  refine x_istore_n (lv' := [(2, .int _), (0, .ref _), (1, .int _)]) S dX2_countConnected_1 rfl (by decide) rfl ?_
  refine x_iload_n S dX2_countConnected_2 2 rfl rfl ?_
  refine x_istore_n (lv' := [(3, .int _), (2, .int _), (0, .ref _), (1, .int _)]) S dX2_countConnected_3 rfl (by decide) rfl ?_
  refine x_iconst (v := 0) S dX2_countConnected_4 rfl ?_
  refine x_istore (lv' := [(4, .int _), (3, .int _), (2, .int _), (0, .ref _), (1, .int _)]) S dX2_countConnected_5 (by decide) rfl ?_
  exact x_sub [3, 4, 2, 1, 0] rfl (L 0 (Nat.zero_le _))
set_option maxHeartbeats 4000000 in
set_option maxRecDepth 100000 in
theorem c_fewestBars {a b : Nat} (hn : n ≤ 12) (ha : a < n) (hb : b < n) (hab : a ≠ b) : xMet l yX2_fewestBars wX2_fewestBars (rD 1) D vwCl (tyC cI cII cP cZ) nwC [.ref (ad 0), .int (nI a), .int (nI b)] (cw ad cI cII cP n am al ch fr to wt nb M tch cu rch pa br gp P ++ X) (cw ad cI cII cP n am al ch fr to wt nb M tch cu rch pa br gp P ++ X) (some (.int (nI (kFB nb n a b (2 ^ (n - 2)))))) := by
  refine xMet_of (cc := cX2_fewestBars) (maxL := 10) (ret := (some .int)) (by decide +kernel) rfl (Nat.le_of_ble_eq_true rfl) xfi ?_
  intro E S hnm hret
  show xW E D vwCl 10 0 0 _ [(0, .ref (ad 0)), (1, .int (nI a)), (2, .int (nI b))] 0 []
  have hO := kO_lt (a := a) (b := b) hn
  have hpop := kO_pop n (by omega) a ha b hb hab
  have hpw : 2 ^ (n - 2) ≤ 4096 := pl_pow12 (by omega)
  have hall : 2 ^ n - 1 < 4096 := by have := pl_pow12 hn; have := Nat.two_pow_pos n; omega
  have L : ∀ k, k ≤ 2 ^ (n - 2) → ∀ s : Int32, (k < 2 ^ (n - 2) → s = nI (pn_dep 12 (kO n a b) k)) → ∀ x9 : Int32, xW E D vwCl 10 0 0 (cw ad cI cII cP n am al ch fr to wt nb M tch cu rch pa br gp P ++ X) [(0, .ref (ad 0)), (1, .int (nI a)), (2, .int (nI b)), (3, .int (nI (2 ^ n - 1))), (4, .int (nI (kO n a b))), (5, .int (nI (kFB nb n a b k))), (6, .int (nI (2 ^ (n - 2)))), (7, .int s), (8, .int (nI k))] 40 [] := by
    refine pl_up (2 ^ (n - 2)) (fun k hk ih => ?_)
    intro s hs x9
    refine x_iload S dX2_fewestBars_40 8 rfl ?_
    refine x_iload S dX2_fewestBars_42 6 rfl ?_
    refine x_icmp_ge (tgt := 109) S dX2_fewestBars_44 (by decide) (fun h1 => ?_) (fun h1 => ?_)
    · refine x_iload S dX2_fewestBars_109 5 rfl ?_
      have hk2 : k = 2 ^ (n - 2) := Nat.le_antisymm hk ((nI_leI (by omega) (by omega)).mp h1)
      exact x_ret hret (by rw [hk2]) dX2_fewestBars_111
    have hk2 : k < 2 ^ (n - 2) := Nat.lt_of_not_le (fun q => h1 (nI_le q (by omega)))
    obtain rfl := hs hk2
    have hd := pn_dep_le (w := 12) (i := k) hO
    have hF := kFB_lt (nb := nb) (a := a) (b := b) hn k
    have T : ∀ (z : Int32), xW E D vwCl 10 0 0 (cw ad cI cII cP n am al ch fr to wt nb M tch cu rch pa br gp P ++ X) [(0, .ref (ad 0)), (1, .int (nI a)), (2, .int (nI b)), (3, .int (nI (2 ^ n - 1))), (4, .int (nI (kO n a b))), (5, .int (nI (kFB nb n a b (k + 1)))), (6, .int (nI (2 ^ (n - 2)))), (7, .int (nI (pn_dep 12 (kO n a b) k))), (8, .int (nI k)), (9, .int z)] 94 [] := by
      intro z
      refine x_iload S dX2_fewestBars_94 4 rfl ?_
      refine x_iload S dX2_fewestBars_96 7 rfl ?_
      refine x_cNi (n := 2) S (c_nextWithin hO hd) (gG gC tw270) rfl nwm_CutTrees_Graph_68 (gC _ tw1) (gC _ tw269) (by decide +kernel) rfl rfl (Nat.le_of_ble_eq_true rfl) dX2_fewestBars_98 ⟨by decide, by decide⟩ ⟨Nat.le_of_ble_eq_true rfl, Nat.le_of_ble_eq_true rfl⟩ ?_
      refine x_istore (lv' := [(7, .int _), (0, .ref _), (1, .int _), (2, .int _), (3, .int _), (4, .int _), (5, .int _), (6, .int _), (8, .int _), (9, .int _)]) S dX2_fewestBars_101 (by decide) rfl ?_
      refine x_iincN (lv' := [(8, .int _), (7, .int _), (0, .ref _), (1, .int _), (2, .int _), (3, .int _), (4, .int _), (5, .int _), (6, .int _), (9, .int _)]) S dX2_fewestBars_103 8 rfl (by decide) rfl ?_
      refine x_goto (tgt := 40) S dX2_fewestBars_106 (by decide) ?_
      exact x_sub [2, 3, 4, 5, 6, 7, 8, 1, 0] rfl (ih hk2 _ (fun hk3 => by rw [← pn_next 12 (kO n a b) k hO (by rw [hpop]; exact hk3)]) 0)
    refine x_iload S dX2_fewestBars_47 7 rfl ?_
    refine x_cJi (n := 1) S (c_bitCount (by omega)) (gG gC tw417) rfl (gC _ tw415) (gC _ tw9) (gC _ tw416) (by decide +kernel) rfl rfl (Nat.le_of_ble_eq_true rfl) dX2_fewestBars_49 ⟨by decide, by decide⟩ ⟨Nat.le_of_ble_eq_true rfl, Nat.le_of_ble_eq_true rfl⟩ ?_
    refine x_iload S dX2_fewestBars_52 5 rfl ?_
    refine x_cJi (n := 1) S (c_bitCount hF) (gG gC tw417) rfl (gC _ tw415) (gC _ tw9) (gC _ tw416) (by decide +kernel) rfl rfl (Nat.le_of_ble_eq_true rfl) dX2_fewestBars_54 ⟨by decide, by decide⟩ ⟨Nat.le_of_ble_eq_true rfl, Nat.le_of_ble_eq_true rfl⟩ ?_
    have hp1 : kP (pn_dep 12 (kO n a b) k) ≤ 12 := pop_le 12 _
    have hp2 : kP (kFB nb n a b k) ≤ 12 := pop_le 12 _
    refine x_icmp_ge (tgt := 64) S dX2_fewestBars_57 (by decide) (fun h2 => ?_) (fun h2 => ?_)
    · refine x_iconst (v := 0) S dX2_fewestBars_64 rfl ?_
      refine x_istore (lv' := [(9, .int _), (0, .ref _), (1, .int _), (2, .int _), (3, .int _), (4, .int _), (5, .int _), (6, .int _), (7, .int _), (8, .int _)]) S dX2_fewestBars_65 (by decide) rfl ?_
      refine x_iload S dX2_fewestBars_67 0 rfl ?_
      refine x_if_eq (tgt := 94) S dX2_fewestBars_69 (by decide) (fun h3 => ?_) (fun h3 => ?_)
      · have e : kFB nb n a b (k + 1) = kFB nb n a b k := by
          simp only [kFB]
          rw [if_neg (fun q => nI_ge q.1 (by omega) h2)]
        rw [e] at T
        exact x_sub [1, 2, 3, 4, 5, 6, 7, 8, 9, 0] rfl (T 0)
      exact absurd rfl h3
    have h2' : kP (pn_dep 12 (kO n a b) k) < kP (kFB nb n a b k) := Nat.lt_of_not_le (fun q => h2 (nI_le q (by omega)))
    refine x_iconst (v := 1) S dX2_fewestBars_60 rfl ?_
    refine x_goto (tgt := 65) S dX2_fewestBars_61 (by decide) ?_
    refine x_istore (lv' := [(9, .int _), (0, .ref _), (1, .int _), (2, .int _), (3, .int _), (4, .int _), (5, .int _), (6, .int _), (7, .int _), (8, .int _)]) S dX2_fewestBars_65 (by decide) rfl ?_
    refine x_iload S dX2_fewestBars_67 0 rfl ?_
    refine x_if_eq (tgt := 94) S dX2_fewestBars_69 (by decide) (fun h3 => ?_) (fun h3 => ?_)
    rotate_left
    · refine x_aload_n S dX2_fewestBars_72 1 rfl rfl ?_
      refine x_iload_n S dX2_fewestBars_73 2 rfl rfl ?_
      refine x_iload_n S dX2_fewestBars_74 4 rfl rfl ?_
      refine x_iload S dX2_fewestBars_75 8 rfl ?_
      refine x_iconst (v := -1) S dX2_fewestBars_77 rfl ?_
      refine x_ixor S dX2_fewestBars_78 ?_
      refine x_iand S dX2_fewestBars_79 ?_
      refine x_top (nI (pl_di (2 ^ n - 1) (pn_dep 12 (kO n a b) k))) (pl_di_I _ _) ?_
      have hdi := pl_di_le (2 ^ n - 1) (pn_dep 12 (kO n a b) k)
      have hR := kR_lt (nb := nb) (n := n) (o := pl_di (2 ^ n - 1) (pn_dep 12 (kO n a b) k)) (by omega) n (2 ^ a) (pl_pow (n := 12) (by omega))
      refine x_cVi (n := 2) S (c_reachedFrom hn (by omega) (by omega)) (gGV gC tw446 tw443 tw445 ts13 tw2) rfl (by decide +kernel) 0 rfl rfl rfl rfl (Nat.le_of_ble_eq_true rfl) dX2_fewestBars_80 ⟨by decide, by decide⟩ ⟨Nat.le_of_ble_eq_true rfl, Nat.le_of_ble_eq_true rfl⟩ ?_
      refine x_iload_n S dX2_fewestBars_83 3 rfl rfl ?_
      refine x_ishr S dX2_fewestBars_84 ?_
      refine x_iconst (v := 1) S dX2_fewestBars_85 rfl ?_
      refine x_iand S dX2_fewestBars_86 ?_
      refine x_if_ne (tgt := 94) S dX2_fewestBars_87 (by decide) (fun h4 => ?_) (fun h4 => ?_)
      · have e : kFB nb n a b (k + 1) = kFB nb n a b k := by
          simp only [kFB]
          rw [if_neg (fun q => h4 ((pl_bit0 (by omega) (by omega)).mpr q.2))]
        rw [e] at T
        exact x_sub [1, 2, 3, 4, 5, 6, 7, 8, 9, 0] rfl (T 1)
      refine x_iload S dX2_fewestBars_90 8 rfl ?_
      refine x_istore (lv' := [(5, .int _), (9, .int _), (0, .ref _), (1, .int _), (2, .int _), (3, .int _), (4, .int _), (6, .int _), (7, .int _), (8, .int _)]) S dX2_fewestBars_92 (by decide) rfl ?_
      have e : kFB nb n a b (k + 1) = pn_dep 12 (kO n a b) k := by
        simp only [kFB]
        rw [if_pos ⟨h2', (pl_bit0 (by omega) (by omega)).mp h4⟩]
      rw [e] at T
      exact x_sub [2, 3, 4, 5, 6, 0, 7, 8, 9, 1] rfl (T 1)
    exact absurd h3 (by decide)
  refine x_aload_n S dX2_fewestBars_0 0 rfl rfl ?_
  refine x_cVi (n := 0) S (c_allNodes hn) (gGV gC tw230 tw227 tw228 tw229 tw2) rfl (by decide +kernel) 0 rfl rfl rfl rfl (Nat.le_of_ble_eq_true rfl) dX2_fewestBars_1 ⟨by decide, by decide⟩ ⟨Nat.le_of_ble_eq_true rfl, Nat.le_of_ble_eq_true rfl⟩ ?_
  refine x_istore_n (lv' := [(3, .int _), (0, .ref _), (1, .int _), (2, .int _)]) S dX2_fewestBars_4 rfl (by decide) rfl ?_
  refine x_iload_n S dX2_fewestBars_5 0 rfl rfl ?_
  refine x_iconst (v := 1) S dX2_fewestBars_6 rfl ?_
  refine x_iload_n S dX2_fewestBars_7 2 rfl rfl ?_
  refine x_ishl S dX2_fewestBars_8 ?_
  refine x_iconst (v := -1) S dX2_fewestBars_9 rfl ?_
  refine x_ixor S dX2_fewestBars_10 ?_
  refine x_iand S dX2_fewestBars_11 ?_
  refine x_iconst (v := 1) S dX2_fewestBars_12 rfl ?_
  refine x_iload_n S dX2_fewestBars_13 3 rfl rfl ?_
  refine x_ishl S dX2_fewestBars_14 ?_
  refine x_iconst (v := -1) S dX2_fewestBars_15 rfl ?_
  refine x_ixor S dX2_fewestBars_16 ?_
  refine x_iand S dX2_fewestBars_17 ?_
  refine x_top (nI (kO n a b)) (by rw [pl_one (by omega), pl_one (by omega), pl_di_I, pl_di_I]) ?_
  refine x_istore (lv' := [(4, .int _), (3, .int _), (0, .ref _), (1, .int _), (2, .int _)]) S dX2_fewestBars_18 (by decide) rfl ?_
  refine x_iload S dX2_fewestBars_20 0 rfl ?_
  refine x_istore (lv' := [(5, .int _), (4, .int _), (3, .int _), (0, .ref _), (1, .int _), (2, .int _)]) S dX2_fewestBars_22 (by decide) rfl ?_
  refine x_iconst (v := 1) S dX2_fewestBars_24 rfl ?_
  refine x_aload_n S dX2_fewestBars_25 3 rfl rfl ?_
  refine x_get S 0 5 rfl rfl inC2 (by decide) (gC _ tw36) rfl rfl dX2_fewestBars_26 ?_
  refine x_iconst (v := 2) S dX2_fewestBars_29 rfl ?_
  refine x_isub S dX2_fewestBars_30 ?_
  refine x_ishl S dX2_fewestBars_31 ?_
  refine x_top (nI (2 ^ (n - 2))) (by rw [show (2 : Int32) = nI 2 from rfl, pk_sub (by omega), pl_one (by omega)]) ?_
  refine x_istore (lv' := [(6, .int _), (5, .int _), (4, .int _), (3, .int _), (0, .ref _), (1, .int _), (2, .int _)]) S dX2_fewestBars_32 (by decide) rfl ?_
  refine x_iconst (v := 0) S dX2_fewestBars_34 rfl ?_
  refine x_istore (lv' := [(7, .int _), (6, .int _), (5, .int _), (4, .int _), (3, .int _), (0, .ref _), (1, .int _), (2, .int _)]) S dX2_fewestBars_35 (by decide) rfl ?_
  refine x_iconst (v := 0) S dX2_fewestBars_37 rfl ?_
  refine x_istore (lv' := [(8, .int _), (7, .int _), (6, .int _), (5, .int _), (4, .int _), (3, .int _), (0, .ref _), (1, .int _), (2, .int _)]) S dX2_fewestBars_38 (by decide) rfl ?_
  exact x_sub [6, 7, 8, 5, 4, 3, 2, 1, 0] rfl (L 0 (Nat.zero_le _) 0 (fun _ => by rw [pn_zero]; rfl) 0)
set_option maxHeartbeats 4000000 in
set_option maxRecDepth 100000 in
theorem c_addBetween {a b m1 m2 : Nat} {w : Int32} (ha : a < 12) (hb : b < 12) (hab : a ≠ b) (h1 : nI (M a b) + w = nI m1) (h2 : nI (M b a) + w = nI m2) (hm : m1 < 2 ^ 31) : xMet l yX2_addBetween wX2_addBetween (rD 1) D vwCl (tyC cI cII cP cZ) nwC [.ref (ad 0), .int (nI a), .int (nI b), .int w] (cw ad cI cII cP n am al ch fr to wt nb M tch cu rch pa br gp P ++ X) (cw ad cI cII cP n am al (ch + 1) fr to wt (uB nb a b (decide (0 < m1))) (uM M a b m1 m2) tch cu rch pa br gp P ++ X) none := by
  refine xMet_of (cc := cX2_addBetween) (maxL := 4) (ret := none) (by decide +kernel) rfl (Nat.le_of_ble_eq_true rfl) xfv ?_
  intro E S hnm hret
  show xW E D vwCl 4 0 0 _ [(0, .ref (ad 0)), (1, .int (nI a)), (2, .int (nI b)), (3, .int w)] 0 []
  have e1 : (va_up M a (va_up (M a) b m1)) b a = M b a := by rw [va_up_ne _ _ (fun q => hab q.symm)]
  have e2 : uM M a b m1 m2 a b = m1 := by
    unfold uM
    rw [va_up_ne _ _ hab, va_up_self, va_up_self]
  refine x_aload_n S dX2_addBetween_0 0 rfl rfl ?_
  refine x_dup S dX2_addBetween_1 rfl ?_
  refine x_get S 0 8 rfl rfl inC2 (by decide) (gC _ tw46) rfl rfl dX2_addBetween_2 ?_
  refine x_iconst (v := 1) S dX2_addBetween_5 rfl ?_
  refine x_iadd S dX2_addBetween_6 ?_
  refine x_top (nI (ch + 1)) (nI_1 ch) ?_
  refine x_put (ws' := (cw ad cI cII cP n am al (ch + 1) fr to wt nb M tch cu rch pa br gp P ++ X)) S 0 8 rfl rfl inC2 tyX2 tyX2_ok nmX2 (by decide) (gC _ tw46) rfl rfl (tyX2_ok 8 (by decide)) rfl rfl (Nat.le_of_ble_eq_true rfl) dX2_addBetween_7 rfl ?_
  refine x_aload_n S dX2_addBetween_10 0 rfl rfl ?_
  refine x_get S 0 3 rfl rfl inC2 (by decide) (gC _ tw32) rfl rfl dX2_addBetween_11 ?_
  refine x_iload_n S dX2_addBetween_14 1 rfl rfl ?_
  refine x_aald S 4 1 (a) rfl rfl rfl rfl ha (by decide) rfl dX2_addBetween_15 ?_
  refine x_iload_n S dX2_addBetween_16 2 rfl rfl ?_
  refine x_dup2 S dX2_addBetween_17 rfl rfl ?_
  refine x_ialdN S (6 + a) 0 (b) (cw_row ha) rfl rfl (by omega) (by decide) dX2_addBetween_18 ?_
  refine x_iload_n S dX2_addBetween_19 3 rfl rfl ?_
  refine x_iadd S dX2_addBetween_20 ?_
  refine x_iastN (ws' := (cw ad cI cII cP n am al (ch + 1) fr to wt nb (va_up M a (va_up (M a) b m1)) tch cu rch pa br gp P ++ X)) (z := m1) S (6 + a) 0 (b) (cw_row ha) rfl rfl (by omega) (by decide) h1 dX2_addBetween_21 (cw_rows ha _) ?_
  refine x_aload_n S dX2_addBetween_22 0 rfl rfl ?_
  refine x_get S 0 3 rfl rfl inC2 (by decide) (gC _ tw32) rfl rfl dX2_addBetween_23 ?_
  refine x_iload_n S dX2_addBetween_26 2 rfl rfl ?_
  refine x_aald S 4 1 (b) rfl rfl rfl rfl hb (by decide) rfl dX2_addBetween_27 ?_
  refine x_iload_n S dX2_addBetween_28 1 rfl rfl ?_
  refine x_dup2 S dX2_addBetween_29 rfl rfl ?_
  refine x_ialdN S (6 + b) 0 (a) (cw_row hb) rfl rfl (by omega) (by decide) dX2_addBetween_30 ?_
  refine x_iload_n S dX2_addBetween_31 3 rfl rfl ?_
  refine x_iadd S dX2_addBetween_32 ?_
  refine x_iastN (ws' := (cw ad cI cII cP n am al (ch + 1) fr to wt nb (uM M a b m1 m2) tch cu rch pa br gp P ++ X)) (z := m2) S (6 + b) 0 (a) (cw_row hb) rfl rfl (by omega) (by decide) (by rw [e1]; exact h2) dX2_addBetween_33 (cw_rows hb _) ?_
  refine x_aload_n S dX2_addBetween_34 0 rfl rfl ?_
  refine x_iload_n S dX2_addBetween_35 1 rfl rfl ?_
  refine x_iload_n S dX2_addBetween_36 2 rfl rfl ?_
  refine x_cVi (n := 2) S (c_areJoined ha hb (by rw [e2]; exact hm)) (gGV gC tw198 tw195 tw196 tw197 tw2) rfl (by decide +kernel) 0 rfl rfl rfl rfl (Nat.le_of_ble_eq_true rfl) dX2_addBetween_37 ⟨by decide, by decide⟩ ⟨Nat.le_of_ble_eq_true rfl, Nat.le_of_ble_eq_true rfl⟩ ?_
  refine x_if_eqB (tgt := 70) S dX2_addBetween_40 (by decide) (fun h3 => ?_) (fun h3 => ?_)
  · rw [e2] at h3
    rw [decide_eq_false h3] at hret
    refine x_aload_n S dX2_addBetween_70 0 rfl rfl ?_
    refine x_get S 0 4 rfl rfl inC2 (by decide) (gC _ tw35) rfl rfl dX2_addBetween_71 ?_
    refine x_iload_n S dX2_addBetween_74 1 rfl rfl ?_
    refine x_dup2 S dX2_addBetween_75 rfl rfl ?_
    refine x_ialdN S 5 0 (a) rfl rfl rfl (by omega) (by decide) dX2_addBetween_76 ?_
    refine x_iconst (v := 1) S dX2_addBetween_77 rfl ?_
    refine x_iload_n S dX2_addBetween_78 2 rfl rfl ?_
    refine x_ishl S dX2_addBetween_79 ?_
    refine x_iconst (v := -1) S dX2_addBetween_80 rfl ?_
    refine x_ixor S dX2_addBetween_81 ?_
    refine x_iand S dX2_addBetween_82 ?_
    refine x_iastN (ws' := (cw ad cI cII cP n am al (ch + 1) fr to wt (va_up nb a (pl_di (nb a) (2 ^ b))) (uM M a b m1 m2) tch cu rch pa br gp P ++ X)) (z := pl_di (nb a) (2 ^ b)) S 5 0 (a) rfl rfl rfl (by omega) (by decide) (by rw [pl_one (by omega), pl_di_I]) dX2_addBetween_83 rfl ?_
    refine x_aload_n S dX2_addBetween_84 0 rfl rfl ?_
    refine x_get S 0 4 rfl rfl inC2 (by decide) (gC _ tw35) rfl rfl dX2_addBetween_85 ?_
    refine x_iload_n S dX2_addBetween_88 2 rfl rfl ?_
    refine x_dup2 S dX2_addBetween_89 rfl rfl ?_
    refine x_ialdN S 5 0 (b) rfl rfl rfl (by omega) (by decide) dX2_addBetween_90 ?_
    refine x_iconst (v := 1) S dX2_addBetween_91 rfl ?_
    refine x_iload_n S dX2_addBetween_92 1 rfl rfl ?_
    refine x_ishl S dX2_addBetween_93 ?_
    refine x_iconst (v := -1) S dX2_addBetween_94 rfl ?_
    refine x_ixor S dX2_addBetween_95 ?_
    refine x_iand S dX2_addBetween_96 ?_
    refine x_iastN (ws' := (cw ad cI cII cP n am al (ch + 1) fr to wt (uB nb a b false) (uM M a b m1 m2) tch cu rch pa br gp P ++ X)) (z := pl_di ((va_up nb a (pl_di (nb a) (2 ^ b))) b) (2 ^ a)) S 5 0 (b) rfl rfl rfl (by omega) (by decide) (by rw [pl_one (by omega), pl_di_I]) dX2_addBetween_97 rfl ?_
    exact hret _ _ dX2_addBetween_98
  rw [e2] at h3
  rw [decide_eq_true h3] at hret
  refine x_aload_n S dX2_addBetween_43 0 rfl rfl ?_
  refine x_get S 0 4 rfl rfl inC2 (by decide) (gC _ tw35) rfl rfl dX2_addBetween_44 ?_
  refine x_iload_n S dX2_addBetween_47 1 rfl rfl ?_
  refine x_dup2 S dX2_addBetween_48 rfl rfl ?_
  refine x_ialdN S 5 0 (a) rfl rfl rfl (by omega) (by decide) dX2_addBetween_49 ?_
  refine x_iconst (v := 1) S dX2_addBetween_50 rfl ?_
  refine x_iload_n S dX2_addBetween_51 2 rfl rfl ?_
  refine x_ishl S dX2_addBetween_52 ?_
  refine x_ior S dX2_addBetween_53 ?_
  refine x_iastN (ws' := (cw ad cI cII cP n am al (ch + 1) fr to wt (va_up nb a (nb a ||| 2 ^ b)) (uM M a b m1 m2) tch cu rch pa br gp P ++ X)) (z := nb a ||| 2 ^ b) S 5 0 (a) rfl rfl rfl (by omega) (by decide) (by rw [pl_one (by omega), pl_or]) dX2_addBetween_54 rfl ?_
  refine x_aload_n S dX2_addBetween_55 0 rfl rfl ?_
  refine x_get S 0 4 rfl rfl inC2 (by decide) (gC _ tw35) rfl rfl dX2_addBetween_56 ?_
  refine x_iload_n S dX2_addBetween_59 2 rfl rfl ?_
  refine x_dup2 S dX2_addBetween_60 rfl rfl ?_
  refine x_ialdN S 5 0 (b) rfl rfl rfl (by omega) (by decide) dX2_addBetween_61 ?_
  refine x_iconst (v := 1) S dX2_addBetween_62 rfl ?_
  refine x_iload_n S dX2_addBetween_63 1 rfl rfl ?_
  refine x_ishl S dX2_addBetween_64 ?_
  refine x_ior S dX2_addBetween_65 ?_
  refine x_iastN (ws' := (cw ad cI cII cP n am al (ch + 1) fr to wt (uB nb a b true) (uM M a b m1 m2) tch cu rch pa br gp P ++ X)) (z := (va_up nb a (nb a ||| 2 ^ b)) b ||| 2 ^ a) S 5 0 (b) rfl rfl rfl (by omega) (by decide) (by rw [pl_one (by omega), pl_or]) dX2_addBetween_66 rfl ?_
  refine x_goto (tgt := 98) S dX2_addBetween_67 (by decide) ?_
  exact hret _ _ dX2_addBetween_98
set_option maxHeartbeats 4000000 in
set_option maxRecDepth 100000 in
theorem c_addArc {a b w m1 m2 : Nat} (ha : a < 12) (hb : b < 12) (hab : a ≠ b) (ham : am < 50) (h1 : M a b + w = m1) (h2 : M b a + w = m2) (hm : m1 < 2 ^ 31) : xMet l yX2_addArc wX2_addArc (rD 2) D vwCl (tyC cI cII cP cZ) nwC [.ref (ad 0), .int (nI a), .int (nI b), .int (nI w)] (cw ad cI cII cP n am al ch fr to wt nb M tch cu rch pa br gp P ++ X) (cw ad cI cII cP n (am + 1) (al + 1) (ch + 1) (va_up fr am a) (va_up to am b) (va_up wt am w) (uB nb a b (decide (0 < m1))) (uM M a b m1 m2) tch cu rch pa br gp P ++ X) (some (.int (nI am))) := by
  refine xMet_of (cc := cX2_addArc) (maxL := 5) (ret := (some .int)) (by decide +kernel) rfl (Nat.le_of_ble_eq_true rfl) xfi ?_
  intro E S hnm hret
  show xW E D vwCl 5 0 0 _ [(0, .ref (ad 0)), (1, .int (nI a)), (2, .int (nI b)), (3, .int (nI w))] 0 []
  refine x_aload_n S dX2_addArc_0 0 rfl rfl ?_
  refine x_get S 0 6 rfl rfl inC2 (by decide) (gC _ tw42) rfl rfl dX2_addArc_1 ?_
  refine x_istore (lv' := [(4, .int _), (0, .ref _), (1, .int _), (2, .int _), (3, .int _)]) S dX2_addArc_4 (by decide) rfl ?_
  refine x_aload_n S dX2_addArc_6 1 rfl rfl ?_
  refine x_get S 0 0 rfl rfl inC2 (by decide) (gC _ tw26) rfl rfl dX2_addArc_7 ?_
  refine x_iload S dX2_addArc_10 0 rfl ?_
  refine x_iload_n S dX2_addArc_12 2 rfl rfl ?_
  refine x_iastN (ws' := (cw ad cI cII cP n am al ch (va_up fr am a) to wt nb M tch cu rch pa br gp P ++ X)) S 1 0 (am) rfl rfl rfl (by omega) (by decide) rfl dX2_addArc_13 rfl ?_
  refine x_aload_n S dX2_addArc_14 1 rfl rfl ?_
  refine x_get S 0 1 rfl rfl inC2 (by decide) (gC _ tw28) rfl rfl dX2_addArc_15 ?_
  refine x_iload S dX2_addArc_18 0 rfl ?_
  refine x_iload_n S dX2_addArc_20 3 rfl rfl ?_
  refine x_iastN (ws' := (cw ad cI cII cP n am al ch (va_up fr am a) (va_up to am b) wt nb M tch cu rch pa br gp P ++ X)) S 2 0 (am) rfl rfl rfl (by omega) (by decide) rfl dX2_addArc_21 rfl ?_
  refine x_aload_n S dX2_addArc_22 1 rfl rfl ?_
  refine x_get S 0 2 rfl rfl inC2 (by decide) (gC _ tw30) rfl rfl dX2_addArc_23 ?_
  refine x_iload S dX2_addArc_26 0 rfl ?_
  refine x_iload_n S dX2_addArc_28 4 rfl rfl ?_
  refine x_iastN (ws' := (cw ad cI cII cP n am al ch (va_up fr am a) (va_up to am b) (va_up wt am w) nb M tch cu rch pa br gp P ++ X)) S 3 0 (am) rfl rfl rfl (by omega) (by decide) rfl dX2_addArc_29 rfl ?_
  refine x_aload_n S dX2_addArc_30 1 rfl rfl ?_
  refine x_dup S dX2_addArc_31 rfl ?_
  refine x_get S 0 6 rfl rfl inC2 (by decide) (gC _ tw42) rfl rfl dX2_addArc_32 ?_
  refine x_iconst (v := 1) S dX2_addArc_35 rfl ?_
  refine x_iadd S dX2_addArc_36 ?_
  refine x_top (nI (am + 1)) (nI_1 am) ?_
  refine x_put (ws' := (cw ad cI cII cP n (am + 1) al ch (va_up fr am a) (va_up to am b) (va_up wt am w) nb M tch cu rch pa br gp P ++ X)) S 0 6 rfl rfl inC2 tyX2 tyX2_ok nmX2 (by decide) (gC _ tw42) rfl rfl (tyX2_ok 6 (by decide)) rfl rfl (Nat.le_of_ble_eq_true rfl) dX2_addArc_37 rfl ?_
  refine x_aload_n S dX2_addArc_40 1 rfl rfl ?_
  refine x_dup S dX2_addArc_41 rfl ?_
  refine x_get S 0 7 rfl rfl inC2 (by decide) (gC _ tw45) rfl rfl dX2_addArc_42 ?_
  refine x_iconst (v := 1) S dX2_addArc_45 rfl ?_
  refine x_iadd S dX2_addArc_46 ?_
  refine x_top (nI (al + 1)) (nI_1 al) ?_
  refine x_put (ws' := (cw ad cI cII cP n (am + 1) (al + 1) ch (va_up fr am a) (va_up to am b) (va_up wt am w) nb M tch cu rch pa br gp P ++ X)) S 0 7 rfl rfl inC2 tyX2 tyX2_ok nmX2 (by decide) (gC _ tw45) rfl rfl (tyX2_ok 7 (by decide)) rfl rfl (Nat.le_of_ble_eq_true rfl) dX2_addArc_47 rfl ?_
  refine x_aload_n S dX2_addArc_50 1 rfl rfl ?_
  refine x_iload_n S dX2_addArc_51 2 rfl rfl ?_
  refine x_iload_n S dX2_addArc_52 3 rfl rfl ?_
  refine x_iload_n S dX2_addArc_53 4 rfl rfl ?_
  refine x_cVv (n := 3) S (c_addBetween ha hb hab (by rw [nI_add, h1]) (by rw [nI_add, h2]) hm) (gGV gC tw194 tw191 tw193 ts0 tw2) rfl (by decide +kernel) 0 rfl rfl rfl rfl (Nat.le_of_ble_eq_true rfl) dX2_addArc_54 ⟨by decide, by decide⟩ ⟨Nat.le_of_ble_eq_true rfl, Nat.le_of_ble_eq_true rfl⟩ ?_
  refine x_iload S dX2_addArc_57 0 rfl ?_
  exact x_ret hret rfl dX2_addArc_59
set_option maxHeartbeats 4000000 in
set_option maxRecDepth 100000 in
theorem c_removeArc {k a b w m1 m2 : Nat} (hk : k < 50) (hfa : fr k = a) (hfb : to k = b) (hfw : wt k = w) (ha : a < 12) (hb : b < 12) (hab : a ≠ b) (h1 : m1 + w = M a b) (h2 : m2 + w = M b a) (hm : m1 < 2 ^ 31) (hal : 1 ≤ al) : xMet l yX2_removeArc wX2_removeArc (rD 2) D vwCl (tyC cI cII cP cZ) nwC [.ref (ad 0), .int (nI k)] (cw ad cI cII cP n am al ch fr to wt nb M tch cu rch pa br gp P ++ X) (cw ad cI cII cP n am (al - 1) (ch + 1) fr to (va_up wt k 0) (uB nb a b (decide (0 < m1))) (uM M a b m1 m2) tch cu rch pa br gp P ++ X) (some (.int (nI (al - 1)))) := by
  refine xMet_of (cc := cX2_removeArc) (maxL := 2) (ret := (some .int)) (by decide +kernel) rfl (Nat.le_of_ble_eq_true rfl) xfi ?_
  intro E S hnm hret
  show xW E D vwCl 2 0 0 _ [(0, .ref (ad 0)), (1, .int (nI k))] 0 []
  subst hfa; subst hfb; subst hfw
  refine x_aload_n S dX2_removeArc_0 0 rfl rfl ?_
  refine x_aload_n S dX2_removeArc_1 0 rfl rfl ?_
  refine x_get S 0 0 rfl rfl inC2 (by decide) (gC _ tw26) rfl rfl dX2_removeArc_2 ?_
  refine x_iload_n S dX2_removeArc_5 1 rfl rfl ?_
  refine x_ialdN S 1 0 (k) rfl rfl rfl (by omega) (by decide) dX2_removeArc_6 ?_
  refine x_aload_n S dX2_removeArc_7 0 rfl rfl ?_
  refine x_get S 0 1 rfl rfl inC2 (by decide) (gC _ tw28) rfl rfl dX2_removeArc_8 ?_
  refine x_iload_n S dX2_removeArc_11 1 rfl rfl ?_
  refine x_ialdN S 2 0 (k) rfl rfl rfl (by omega) (by decide) dX2_removeArc_12 ?_
  refine x_aload_n S dX2_removeArc_13 0 rfl rfl ?_
  refine x_get S 0 2 rfl rfl inC2 (by decide) (gC _ tw30) rfl rfl dX2_removeArc_14 ?_
  refine x_iload_n S dX2_removeArc_17 1 rfl rfl ?_
  refine x_ialdN S 3 0 (k) rfl rfl rfl (by omega) (by decide) dX2_removeArc_18 ?_
  refine x_ineg S dX2_removeArc_19 ?_
  refine x_cVv (n := 3) S (c_addBetween ha hb hab (nI_subw h1) (nI_subw h2) hm) (gGV gC tw194 tw191 tw193 ts0 tw2) rfl (by decide +kernel) 0 rfl rfl rfl rfl (Nat.le_of_ble_eq_true rfl) dX2_removeArc_20 ⟨by decide, by decide⟩ ⟨Nat.le_of_ble_eq_true rfl, Nat.le_of_ble_eq_true rfl⟩ ?_
  refine x_aload_n S dX2_removeArc_23 0 rfl rfl ?_
  refine x_get S 0 2 rfl rfl inC2 (by decide) (gC _ tw30) rfl rfl dX2_removeArc_24 ?_
  refine x_iload_n S dX2_removeArc_27 1 rfl rfl ?_
  refine x_iconst (v := 0) S dX2_removeArc_28 rfl ?_
  refine x_iastN (ws' := (cw ad cI cII cP n am al (ch + 1) fr to (va_up wt k 0) (uB nb (fr k) (to k) (decide (0 < m1))) (uM M (fr k) (to k) m1 m2) tch cu rch pa br gp P ++ X)) (z := 0) S 3 0 (k) rfl rfl rfl (by omega) (by decide) rfl dX2_removeArc_29 rfl ?_
  refine x_aload_n S dX2_removeArc_30 0 rfl rfl ?_
  refine x_dup S dX2_removeArc_31 rfl ?_
  refine x_get S 0 7 rfl rfl inC2 (by decide) (gC _ tw45) rfl rfl dX2_removeArc_32 ?_
  refine x_iconst (v := 1) S dX2_removeArc_35 rfl ?_
  refine x_isub S dX2_removeArc_36 ?_
  refine x_top (nI (al - 1)) (pk_sub hal) ?_
  refine x_put (ws' := (cw ad cI cII cP n am (al - 1) (ch + 1) fr to (va_up wt k 0) (uB nb (fr k) (to k) (decide (0 < m1))) (uM M (fr k) (to k) m1 m2) tch cu rch pa br gp P ++ X)) S 0 7 rfl rfl inC2 tyX2 tyX2_ok nmX2 (by decide) (gC _ tw45) rfl rfl (tyX2_ok 7 (by decide)) rfl rfl (Nat.le_of_ble_eq_true rfl) dX2_removeArc_37 rfl ?_
  refine x_aload_n S dX2_removeArc_40 0 rfl rfl ?_
  refine x_get S 0 7 rfl rfl inC2 (by decide) (gC _ tw45) rfl rfl dX2_removeArc_41 ?_
  exact x_ret hret rfl dX2_removeArc_44
set_option maxHeartbeats 4000000 in
set_option maxRecDepth 100000 in
theorem c_removeAll  : xMet l yX2_removeAll wX2_removeAll (rD 0) D vwCl (tyC cI cII cP cZ) nwC [.ref (ad 0)] (cw ad cI cII cP n am al ch fr to wt nb M tch cu rch pa br gp P ++ X) (cw ad cI cII cP 0 0 0 (ch + 1) fr to wt (zN nb 12) (zR M 12) tch cu rch pa br gp P ++ X) (some (.int (nI n))) := by
  refine xMet_of (cc := cX2_removeAll) (maxL := 4) (ret := (some .int)) (by decide +kernel) rfl (Nat.le_of_ble_eq_true rfl) xfi ?_
  intro E S hnm hret
  show xW E D vwCl 4 0 0 _ [(0, .ref (ad 0))] 0 []
  have L : ∀ k, k ≤ 12 → xW E D vwCl 4 0 0 (cw ad cI cII cP n am al ch fr to wt (zN nb k) (zR M k) tch cu rch pa br gp P ++ X) [(0, .ref (ad 0)), (1, .int (nI n)), (2, .int (nI k))] 7 [] := by
    refine pl_up 12 (fun k hk ih => ?_)
    refine x_iload_n S dX2_removeAll_7 2 rfl rfl ?_
    refine x_bipush (v := 12) S dX2_removeAll_8 (by decide) ?_
    refine x_icmp_ge (tgt := 49) S dX2_removeAll_10 (by decide) (fun h1 => ?_) (fun h1 => ?_)
    · have hk2 : k = 12 := Nat.le_antisymm hk ((nI_leI (by omega) (by omega)).mp h1)
      subst hk2
      refine x_aload_n S dX2_removeAll_49 0 rfl rfl ?_
      refine x_iconst (v := 0) S dX2_removeAll_50 rfl ?_
      refine x_put (ws' := (cw ad cI cII cP 0 am al ch fr to wt (zN nb 12) (zR M 12) tch cu rch pa br gp P ++ X)) S 0 5 rfl rfl inC2 tyX2 tyX2_ok nmX2 (by decide) (gC _ tw36) rfl rfl (tyX2_ok 5 (by decide)) rfl rfl (Nat.le_of_ble_eq_true rfl) dX2_removeAll_51 rfl ?_
      refine x_aload_n S dX2_removeAll_54 0 rfl rfl ?_
      refine x_iconst (v := 0) S dX2_removeAll_55 rfl ?_
      refine x_put (ws' := (cw ad cI cII cP 0 0 al ch fr to wt (zN nb 12) (zR M 12) tch cu rch pa br gp P ++ X)) S 0 6 rfl rfl inC2 tyX2 tyX2_ok nmX2 (by decide) (gC _ tw42) rfl rfl (tyX2_ok 6 (by decide)) rfl rfl (Nat.le_of_ble_eq_true rfl) dX2_removeAll_56 rfl ?_
      refine x_aload_n S dX2_removeAll_59 0 rfl rfl ?_
      refine x_iconst (v := 0) S dX2_removeAll_60 rfl ?_
      refine x_put (ws' := (cw ad cI cII cP 0 0 0 ch fr to wt (zN nb 12) (zR M 12) tch cu rch pa br gp P ++ X)) S 0 7 rfl rfl inC2 tyX2 tyX2_ok nmX2 (by decide) (gC _ tw45) rfl rfl (tyX2_ok 7 (by decide)) rfl rfl (Nat.le_of_ble_eq_true rfl) dX2_removeAll_61 rfl ?_
      refine x_aload_n S dX2_removeAll_64 0 rfl rfl ?_
      refine x_dup S dX2_removeAll_65 rfl ?_
      refine x_get S 0 8 rfl rfl inC2 (by decide) (gC _ tw46) rfl rfl dX2_removeAll_66 ?_
      refine x_iconst (v := 1) S dX2_removeAll_69 rfl ?_
      refine x_iadd S dX2_removeAll_70 ?_
      refine x_top (nI (ch + 1)) (nI_1 ch) ?_
      refine x_put (ws' := (cw ad cI cII cP 0 0 0 (ch + 1) fr to wt (zN nb 12) (zR M 12) tch cu rch pa br gp P ++ X)) S 0 8 rfl rfl inC2 tyX2 tyX2_ok nmX2 (by decide) (gC _ tw46) rfl rfl (tyX2_ok 8 (by decide)) rfl rfl (Nat.le_of_ble_eq_true rfl) dX2_removeAll_71 rfl ?_
      refine x_iload_n S dX2_removeAll_74 1 rfl rfl ?_
      exact x_ret hret rfl dX2_removeAll_75
    have hk2 : k < 12 := Nat.lt_of_not_le (fun q => h1 (nI_le q (by omega)))
    refine x_aload_n S dX2_removeAll_13 0 rfl rfl ?_
    refine x_get S 0 4 rfl rfl inC2 (by decide) (gC _ tw35) rfl rfl dX2_removeAll_14 ?_
    refine x_iload_n S dX2_removeAll_17 2 rfl rfl ?_
    refine x_iconst (v := 0) S dX2_removeAll_18 rfl ?_
    refine x_iastN (ws' := (cw ad cI cII cP n am al ch fr to wt (va_up (zN nb k) k 0) (zR M k) tch cu rch pa br gp P ++ X)) (z := 0) S 5 0 (k) rfl rfl rfl (by omega) (by decide) rfl dX2_removeAll_19 rfl ?_
    rw [zN_s]
    have L2 : ∀ u, u ≤ 12 → xW E D vwCl 4 0 0 (cw ad cI cII cP n am al ch fr to wt (zN nb (k + 1)) (va_up (zR M k) k (zN (M k) u)) tch cu rch pa br gp P ++ X) [(0, .ref (ad 0)), (1, .int (nI n)), (2, .int (nI k)), (3, .int (nI u))] 22 [] := by
      refine pl_up 12 (fun u hu ih2 => ?_)
      refine x_iload_n S dX2_removeAll_22 3 rfl rfl ?_
      refine x_bipush (v := 12) S dX2_removeAll_23 (by decide) ?_
      refine x_icmp_ge (tgt := 43) S dX2_removeAll_25 (by decide) (fun h2 => ?_) (fun h2 => ?_)
      · have hu2 : u = 12 := Nat.le_antisymm hu ((nI_leI (by omega) (by omega)).mp h2)
        subst hu2
        rw [zR_s]
        refine x_iincN (lv' := [(2, .int _), (0, .ref _), (1, .int _), (3, .int _)]) S dX2_removeAll_43 2 rfl (by decide) rfl ?_
        refine x_goto (tgt := 7) S dX2_removeAll_46 (by decide) ?_
        exact x_sub [1, 2, 0] rfl (ih hk2)
      have hu2 : u < 12 := Nat.lt_of_not_le (fun q => h2 (nI_le q (by omega)))
      refine x_aload_n S dX2_removeAll_28 0 rfl rfl ?_
      refine x_get S 0 3 rfl rfl inC2 (by decide) (gC _ tw32) rfl rfl dX2_removeAll_29 ?_
      refine x_iload_n S dX2_removeAll_32 2 rfl rfl ?_
      refine x_aald S 4 1 (k) rfl rfl rfl rfl hk2 (by decide) rfl dX2_removeAll_33 ?_
      refine x_iload_n S dX2_removeAll_34 3 rfl rfl ?_
      refine x_iconst (v := 0) S dX2_removeAll_35 rfl ?_
      refine x_iastN (ws' := (cw ad cI cII cP n am al ch fr to wt (zN nb (k + 1)) (va_up (va_up (zR M k) k (zN (M k) u)) k (va_up ((va_up (zR M k) k (zN (M k) u)) k) u 0)) tch cu rch pa br gp P ++ X)) (z := 0) S (6 + k) 0 (u) (cw_row hk2) rfl rfl (by omega) (by decide) rfl dX2_removeAll_36 (cw_rows hk2 _) ?_
      rw [upup, va_up_self, zN_s]
      refine x_iincN (lv' := [(3, .int _), (0, .ref _), (1, .int _), (2, .int _)]) S dX2_removeAll_37 3 rfl (by decide) rfl ?_
      refine x_goto (tgt := 22) S dX2_removeAll_40 (by decide) ?_
      exact x_sub [1, 2, 3, 0] rfl (ih2 hu2)
    refine x_iconst (v := 0) S dX2_removeAll_20 rfl ?_
    refine x_istore_n (lv' := [(3, .int _), (0, .ref _), (1, .int _), (2, .int _)]) S dX2_removeAll_21 rfl (by decide) rfl ?_
    rw [← zR_a M k]
    exact x_sub [1, 2, 3, 0] rfl (L2 0 (Nat.zero_le _))
  refine x_aload_n S dX2_removeAll_0 0 rfl rfl ?_
  refine x_get S 0 5 rfl rfl inC2 (by decide) (gC _ tw36) rfl rfl dX2_removeAll_1 ?_
  refine x_istore_n (lv' := [(1, .int _), (0, .ref _)]) S dX2_removeAll_4 rfl (by decide) rfl ?_
  refine x_iconst (v := 0) S dX2_removeAll_5 rfl ?_
  refine x_istore_n (lv' := [(2, .int _), (1, .int _), (0, .ref _)]) S dX2_removeAll_6 rfl (by decide) rfl ?_
  rw [← zN_0 nb, ← zR_0 M]
  exact x_sub [2, 1, 0] rfl (L 0 (Nat.zero_le _))
end GR3
