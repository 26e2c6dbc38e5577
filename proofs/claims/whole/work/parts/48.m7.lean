/-! the reference: contracts, 7 -/
section M7
def rM (ne : Nat → Nat) (w u i : Nat) : Bool := (ne u).testBit i && !w.testBit i
theorem kM_pos {fr to wt : Nat → Nat} {a b n : Nat} : ∀ {k : Nat}, (∀ i, i < k → fr i < n ∧ to i < n) → 0 < kM fr to wt k a b → b < n
  | 0, _, h => absurd h (by simp [kM, sm])
  | k + 1, hk, h => by
    rw [kM_succ] at h
    by_cases c : (fr k = a ∧ to k = b) ∨ (fr k = b ∧ to k = a)
    · have := hk k (by omega)
      rcases c with c | c
      · rw [← c.2]; exact this.2
      · rw [← c.1]; exact this.1
    · rw [if_neg c] at h
      exact kM_pos (fun i hi => hk i (by omega)) h
theorem rM_rC {n am : Nat} {fr to wt ne : Nat → Nat} {w u i : Nat} (hA : aOK n am fr to wt) (hN : ∀ a, a < 12 → ne a = kNb fr to wt am a) (hu : u < n) : rC (kNb fr to wt am) (pl_di (2 ^ n - 1) w) u i = rM ne w u i := by
  have hn := hA.1
  unfold rC rM
  rw [hN u (by omega), pl_di_t, Nat.testBit_two_pow_sub_one]
  cases h : (kNb fr to wt am u).testBit i with
  | false => rfl
  | true =>
    have hi : i < 12 := t_lt (n := 12) (kNb_lt fr to wt am u) h
    rw [kNb_t _ _ _ _ _ _ hi] at h
    have := kM_pos (n := n) (fun i hi => ⟨(hA.2.2 i hi).1, (hA.2.2 i hi).2.1⟩) (of_decide_eq_true h)
    simp [this]
theorem isV_O {n am i j : Nat} {fr to wt : Nat → Nat} (hn : n ≤ 12) (hi : i < n) (hj : j < n) (hij : i ≠ j) (h : ¬ 0 < kM fr to wt am i j) : isV (kNb fr to wt am) n i j (kO n i j) := by
  refine ⟨Nat.and_self _, ?_⟩
  cases hb : (kR (kNb fr to wt am) (pl_di (2 ^ n - 1) (kO n i j)) n n (2 ^ i)).testBit j with
  | false => rfl
  | true =>
    have := kR_min (D := 2 ^ i) (nb := kNb fr to wt am) (o := pl_di (2 ^ n - 1) (kO n i j)) (n := n) (fun u x hu h1 h2 => by
      rw [Nat.testBit_two_pow] at h1
      have e : i = u := of_decide_eq_true h1
      subst e
      unfold rC at h2
      rw [pl_di_t, kO_t, Nat.testBit_two_pow_sub_one, Bool.and_eq_true, Bool.and_eq_true] at h2
      obtain ⟨g1, g2, g3⟩ := h2
      have hx : x < n := of_decide_eq_true g2
      rw [kNb_t _ _ _ _ _ _ (by omega)] at g1
      have g1 := of_decide_eq_true g1
      have : ¬ j = x := fun e => h (by rw [e]; exact g1)
      rw [Nat.testBit_two_pow]
      by_cases c : i = x
      · exact decide_eq_true c
      · simp [hx, c, this] at g3) n (2 ^ i) (fun _ h => h) j hb
    rw [Nat.testBit_two_pow] at this
    exact absurd (of_decide_eq_true this) hij
theorem sub_O {n a b s : Nat} (hs : s < 2 ^ n) : s &&& kO n a b = s ↔ s.testBit a = false ∧ s.testBit b = false := by
  constructor
  · intro h
    constructor
    · rw [← h, Nat.testBit_and, kO_t]; simp
    · rw [← h, Nat.testBit_and, kO_t]; simp
  · rintro ⟨h1, h2⟩
    apply Nat.eq_of_testBit_eq
    intro i
    rw [Nat.testBit_and, kO_t]
    cases hi : s.testBit i with
    | false => rfl
    | true =>
      have := t_lt hs hi
      have c1 : ¬ a = i := fun e => by rw [e, hi] at h1; cases h1
      have c2 : ¬ b = i := fun e => by rw [e, hi] at h2; cases h2
      simp [this, c1, c2]
def sFault (n am : Nat) (fr to wt : Nat → Nat) (a b : Int32) : Int32 := if isP2 n a b then (if 0 < kM fr to wt am a.toNatClampNeg b.toNatClampNeg then -3 else 0) else -1
theorem kR_of_kNb {n am : Nat} {fr to wt : Nat → Nat} {v w C : Nat} {ne : Nat → Nat} (hA : aOK n am fr to wt) (hN : ∀ a, a < 12 → ne a = kNb fr to wt am a) (hv : v < n) : isCl (rM ne w) n v (kR (kNb fr to wt am) (pl_di (2 ^ n - 1) w) n n (2 ^ v)) := by
  have hp := Nat.two_pow_pos n
  refine isCl_congr (fun u i hu => rM_rC hA hN hu) (kR_isCl hA.1 hv ?_)
  have := pl_di_le (2 ^ n - 1) w
  omega
variable {l : Launch} {D : va_G} {bd : Nat → Nat} {cI cII cP cZ : ClassId} {n am al : Nat} {on ot we : Nat → Nat} {th : Nat → Bool} {be ne cu : Nat → Nat} {nw : Bool} {pa br pc : Nat → Nat} {ap : Nat → Bool} {pn : Nat → Nat} {ls : Int32} {gr : Nat → Nat} {tl : Nat → Int32} {co : Nat → Nat} {fr to wt : Nat → Nat} {X : va_W}
set_option maxHeartbeats 4000000 in
set_option maxRecDepth 100000 in
theorem m_part {v w C : Nat} (hn : n ≤ 12) (hv : v < n) (hw : w < 4096) (hne : ∀ u, u < 12 → ne u < 4096) (hC : isCl (rM ne w) n v C) : xMet l yX6_part wX6_part (rD 0) D vwCl (tyC cI cII cP cZ) nwC [.ref (bd 0), .int (nI v), .int (nI w)] (mw bd cI cZ n am al on ot we th be ne cu nw pa br pc ap pn ls gr tl co ++ X) (mw bd cI cZ n am al on ot we th be ne cu nw pa br pc ap pn ls gr tl co ++ X) (some (.int (nI C))) := by
  refine xMet_of (cc := cX6_part) (maxL := 6) (ret := (some .int)) (by decide +kernel) rfl (Nat.le_of_ble_eq_true rfl) xfi ?_
  intro E S hnm hret
  show xW E D vwCl 6 0 0 _ [(0, .ref (bd 0)), (1, .int (nI v)), (2, .int (nI w))] 0 []
  have hst : ∀ u i, u < n → ((pl_di (ne u) w).testBit i = true ↔ rM ne w u i = true) := fun u i _ => by rw [pl_di_t]; rfl
  have hsl : ∀ u, u < 12 → pl_di (ne u) w < 4096 := fun u hu => Nat.lt_of_le_of_lt (pl_di_le _ _) (hne u hu)
  have Lx : ∀ m, m < 4096 → isCl (rM ne w) n v m → xW E D vwCl 6 0 0 (mw bd cI cZ n am al on ot we th be ne cu nw pa br pc ap pn ls gr tl co ++ X) [(0, .ref (bd 0)), (1, .int (nI v)), (2, .int (nI w)), (3, .int (nI m)), (4, .int (nI m))] 7 [] := by
    intro m hm hcl
    refine x_iload S dX6_part_7 4 rfl ?_
    refine x_iload_n S dX6_part_9 3 rfl rfl ?_
    refine x_icmp_eq (tgt := 61) S dX6_part_10 (by decide) (fun h1 => ?_) (fun h1 => ?_)
    · refine x_iload_n S dX6_part_61 3 rfl rfl ?_
      exact x_ret hret (by rw [isCl_uniq hcl hC]) dX6_part_62
    exact absurd rfl h1
  have L : ∀ m, ∀ f, m < 4096 → f < 4096 → f ≠ m → m.testBit v = true → (∀ D : Nat, (D.testBit v = true ∧ ∀ u i, u < n → D.testBit u = true → rM ne w u i = true → D.testBit i = true) → ∀ i, m.testBit i = true → D.testBit i = true) → xW E D vwCl 6 0 0 (mw bd cI cZ n am al on ot we th be ne cu nw pa br pc ap pn ls gr tl co ++ X) [(0, .ref (bd 0)), (1, .int (nI v)), (2, .int (nI w)), (3, .int (nI m)), (4, .int (nI f))] 7 [] := by
    refine pl_dn (fun m => 4096 - m) (fun m ih => ?_)
    intro f hm hf hne2 hmv hmin
    refine x_iload S dX6_part_7 4 rfl ?_
    refine x_iload_n S dX6_part_9 3 rfl rfl ?_
    refine x_icmp_eq (tgt := 61) S dX6_part_10 (by decide) (fun h1 => ?_) (fun h1 => ?_)
    · exact absurd (pl_inj (by omega) (by omega) h1) hne2
    have L2 : ∀ k, k ≤ n → xW E D vwCl 6 0 0 (mw bd cI cZ n am al on ot we th be ne cu nw pa br pc ap pn ls gr tl co ++ X) [(0, .ref (bd 0)), (1, .int (nI v)), (2, .int (nI w)), (3, .int (nI (pG (fun u => pl_di (ne u) w) m k))), (4, .int (nI m)), (5, .int (nI k))] 19 [] := by
      refine pl_up n (fun k hk ih2 => ?_)
      have hgl := pG_lt (st := fun u => pl_di (ne u) w) hm hsl k (by omega)
      refine x_iload S dX6_part_19 5 rfl ?_
      refine x_aload_n S dX6_part_21 0 rfl rfl ?_
      refine x_get S 0 0 rfl rfl inC6 (by decide) (gC _ tw465) rfl rfl dX6_part_22 ?_
      refine x_icmp_ge (tgt := 58) S dX6_part_25 (by decide) (fun h2 => ?_) (fun h2 => ?_)
      · have hk2 : k = n := Nat.le_antisymm hk ((nI_leI (by omega) (by omega)).mp h2)
        rw [hk2]
        rw [hk2] at hgl
        refine x_goto (tgt := 7) S dX6_part_58 (by decide) ?_
        by_cases e : pG (fun u => pl_di (ne u) w) m n = m
        · rw [e]
          exact x_sub [0, 1, 2, 3, 4] rfl (Lx m hm ⟨hmv, pG_fix hst e, hmin⟩)
        have hle := sub_le_of (r := m) (s := pG (fun u => pl_di (ne u) w) m n) (fun i hi => pG_has _ m i n hi)
        exact x_sub [0, 1, 2, 3, 4] rfl (ih _ (by omega) m hgl hm (fun q => e q.symm) (pG_has _ m v n hmv) (fun D hD => pG_min hst hD.2 (hmin D hD) n (Nat.le_refl _)))
      have hk2 : k < n := Nat.lt_of_not_le (fun h => h2 (nI_le h (by omega)))
      have ih2 := ih2 hk2
      simp only [pG] at ih2
      refine x_iload_n S dX6_part_28 3 rfl rfl ?_
      refine x_iload S dX6_part_29 5 rfl ?_
      refine x_ishr S dX6_part_31 ?_
      refine x_iconst (v := 1) S dX6_part_32 rfl ?_
      refine x_iand S dX6_part_33 ?_
      refine x_iconst (v := 1) S dX6_part_34 rfl ?_
      refine x_icmp_ne (tgt := 52) S dX6_part_35 (by decide) (fun h3 => ?_) (fun h3 => ?_)
      · rw [if_neg (fun q => h3 ((pl_bit1 (by omega) (by omega)).mpr q))] at ih2
        refine x_iincN (lv' := [(5, .int _), (0, .ref _), (1, .int _), (2, .int _), (3, .int _), (4, .int _)]) S dX6_part_52 5 rfl (by decide) rfl ?_
        refine x_goto (tgt := 19) S dX6_part_55 (by decide) ?_
        exact x_sub [1, 2, 3, 4, 5, 0] rfl (ih2)
      rw [if_pos ((pl_bit1 (by omega) (by omega)).mp h3)] at ih2
      refine x_iload_n S dX6_part_38 3 rfl rfl ?_
      refine x_aload_n S dX6_part_39 0 rfl rfl ?_
      refine x_get S 0 8 rfl rfl inC6 (by decide) (gC _ tw473) rfl rfl dX6_part_40 ?_
      refine x_iload S dX6_part_43 5 rfl ?_
      refine x_ialdN S 6 0 (k) rfl rfl rfl (by omega) (by decide) dX6_part_45 ?_
      refine x_iload_n S dX6_part_46 2 rfl rfl ?_
      refine x_iconst (v := -1) S dX6_part_47 rfl ?_
      refine x_ixor S dX6_part_48 ?_
      refine x_iand S dX6_part_49 ?_
      refine x_ior S dX6_part_50 ?_
      refine x_top (nI (pG (fun u => pl_di (ne u) w) m k ||| pl_di (ne k) w)) (by rw [pl_di_I, pl_or]) ?_
      refine x_istore_n (lv' := [(3, .int _), (0, .ref _), (1, .int _), (2, .int _), (4, .int _), (5, .int _)]) S dX6_part_51 rfl (by decide) rfl ?_
      refine x_iincN (lv' := [(5, .int _), (3, .int _), (0, .ref _), (1, .int _), (2, .int _), (4, .int _)]) S dX6_part_52 5 rfl (by decide) rfl ?_
      refine x_goto (tgt := 19) S dX6_part_55 (by decide) ?_
      exact x_sub [2, 3, 4, 1, 5, 0] rfl (ih2)
    refine x_iload_n S dX6_part_13 3 rfl rfl ?_
    refine x_istore (lv' := [(4, .int _), (0, .ref _), (1, .int _), (2, .int _), (3, .int _)]) S dX6_part_14 (by decide) rfl ?_
    refine x_iconst (v := 0) S dX6_part_16 rfl ?_
    refine x_istore (lv' := [(5, .int _), (4, .int _), (0, .ref _), (1, .int _), (2, .int _), (3, .int _)]) S dX6_part_17 (by decide) rfl ?_
    exact x_sub [2, 3, 4, 5, 1, 0] rfl (L2 0 (Nat.zero_le _))
  refine x_iconst (v := 1) S dX6_part_0 rfl ?_
  refine x_iload_n S dX6_part_1 1 rfl rfl ?_
  refine x_ishl S dX6_part_2 ?_
  refine x_top (nI (2 ^ v)) (pl_one (by omega)) ?_
  refine x_istore_n (lv' := [(3, .int _), (0, .ref _), (1, .int _), (2, .int _)]) S dX6_part_3 rfl (by decide) rfl ?_
  refine x_iconst (v := 0) S dX6_part_4 rfl ?_
  refine x_istore (lv' := [(4, .int _), (3, .int _), (0, .ref _), (1, .int _), (2, .int _)]) S dX6_part_5 (by decide) rfl ?_
  have hp0 := Nat.two_pow_pos v
  exact x_sub [2, 3, 4, 1, 0] rfl (L (2 ^ v) 0 (pl_pow (n := 12) (by omega)) (by omega) (by omega) (by rw [Nat.testBit_two_pow]; simp) (fun D hD i hi => by rw [Nat.testBit_two_pow] at hi; rw [← of_decide_eq_true hi]; exact hD.1))
set_option maxHeartbeats 4000000 in
set_option maxRecDepth 100000 in
theorem m_barsOf {i j Z : Nat} (hA : aOK n am fr to wt) (hB : bOK am fr to wt be ne) (hi : i < n) (hj : j < n) (hZ : isFM kP (isV (kNb fr to wt am) n i j) Z) : xMet l yX6_barsOf wX6_barsOf (rD 1) D vwCl (tyC cI cII cP cZ) nwC [.ref (bd 0), .int (nI i), .int (nI j)] (mw bd cI cZ n am al on ot we th be ne cu nw pa br pc ap pn ls gr tl co ++ X) (mw bd cI cZ n am al on ot we th be ne cu nw pa br pc ap pn ls gr tl co ++ X) (some (.int (nI Z))) := by
  refine xMet_of (cc := cX6_barsOf) (maxL := 5) (ret := (some .int)) (by decide +kernel) rfl (Nat.le_of_ble_eq_true rfl) xfi ?_
  intro E S hnm hret
  show xW E D vwCl 5 0 0 _ [(0, .ref (bd 0)), (1, .int (nI i)), (2, .int (nI j))] 0 []
  have hn := hA.1
  have hpn := pl_pow12 hn
  have hp0 := Nat.two_pow_pos n
  have hnl : ∀ u, u < 12 → ne u < 4096 := fun u hu => by rw [hB.2 u hu]; exact kNb_lt _ _ _ _ _
  have hZl : ∀ T, isV (kNb fr to wt am) n i j T → T < 2 ^ n := fun T hT => lt_of_t (fun x hx => by
    rw [← hT.1, Nat.testBit_and, kO_t] at hx
    simp at hx
    exact hx.2.1.1)
  have L : ∀ s, s ≤ 2 ^ n → ∀ y : Int32, ((y = -1 ∧ ∀ T, T < s → ¬ isV (kNb fr to wt am) n i j T) ∨ ∃ F, y = nI F ∧ F < 4096 ∧ isFM kP (fun T => isV (kNb fr to wt am) n i j T ∧ T < s) F) → xW E D vwCl 5 0 0 (mw bd cI cZ n am al on ot we th be ne cu nw pa br pc ap pn ls gr tl co ++ X) [(0, .ref (bd 0)), (1, .int (nI i)), (2, .int (nI j)), (3, .int y), (4, .int (nI s))] 5 [] := by
    refine pl_up (2 ^ n) (fun s hs ih => ?_)
    intro y hy
    refine x_iload S dX6_barsOf_5 4 rfl ?_
    refine x_aload_n S dX6_barsOf_7 0 rfl rfl ?_
    refine x_cVi (n := 0) S (m_all hn) (gGV gC tw558 tw555 tw557 ts16 tw7) rfl (by decide +kernel) 0 rfl rfl rfl rfl (Nat.le_of_ble_eq_true rfl) dX6_barsOf_8 ⟨by decide, by decide⟩ ⟨Nat.le_of_ble_eq_true rfl, Nat.le_of_ble_eq_true rfl⟩ ?_
    refine x_icmp_gt (tgt := 71) S dX6_barsOf_11 (by decide) (fun h1 => ?_) (fun h1 => ?_)
    · have hs2 : s = 2 ^ n := by have := (nI_ltI (by omega) (by omega)).mp h1; omega
      rcases hy with ⟨-, q⟩ | ⟨F, rfl, -, hF⟩
      · exact absurd hZ.1 (q Z (by rw [hs2]; exact hZl Z hZ.1))
      refine x_iload_n S dX6_barsOf_71 3 rfl rfl ?_
      exact x_ret hret (by rw [isFM_uniq (isFM_congr (fun T => ⟨fun q => q.1, fun q => ⟨q, by rw [hs2]; exact hZl T q⟩⟩) (fun _ _ => rfl) hF) hZ]) dX6_barsOf_72
    have hs2 : s < 2 ^ n := by have := Nat.le_of_not_lt (fun q => h1 (nI_lt q (by omega))); omega
    have ih := ih hs2
    have hskip : ¬ isV (kNb fr to wt am) n i j s → ((y = -1 ∧ ∀ T, T < s + 1 → ¬ isV (kNb fr to wt am) n i j T) ∨ ∃ F, y = nI F ∧ F < 4096 ∧ isFM kP (fun T => isV (kNb fr to wt am) n i j T ∧ T < s + 1) F) := fun hno => hy.imp (fun ⟨q1, q2⟩ => ⟨q1, fun T hT => (Nat.lt_or_ge T s).elim (q2 T) (fun c => by rw [show T = s by omega]; exact hno)⟩) (fun ⟨F, q1, q2, q3⟩ => ⟨F, q1, q2, isFM_congr (fun T => ⟨fun w => ⟨w.1, by omega⟩, fun w => ⟨w.1, (Nat.lt_or_ge T s).elim id (fun c => by have e : T = s := (by omega); rw [e] at w; exact absurd w.1 hno)⟩⟩) (fun _ _ => rfl) q3⟩)
    refine x_iload S dX6_barsOf_14 4 rfl ?_
    refine x_iload_n S dX6_barsOf_16 1 rfl rfl ?_
    refine x_ishr S dX6_barsOf_17 ?_
    refine x_iconst (v := 1) S dX6_barsOf_18 rfl ?_
    refine x_iand S dX6_barsOf_19 ?_
    refine x_if_ne (tgt := 65) S dX6_barsOf_20 (by decide) (fun h2 => ?_) (fun h2 => ?_)
    · refine x_iincN (lv' := [(4, .int _), (0, .ref _), (1, .int _), (2, .int _), (3, .int _)]) S dX6_barsOf_65 4 rfl (by decide) rfl ?_
      refine x_goto (tgt := 5) S dX6_barsOf_68 (by decide) ?_
      exact x_sub [1, 2, 3, 4, 0] rfl (ih y (hskip (fun q => h2 ((pl_bit0 (by omega) (by omega)).mpr ((sub_O hs2).mp q.1).1))))
    have h2 := (pl_bit0 (by omega) (by omega)).mp h2
    refine x_iload S dX6_barsOf_23 4 rfl ?_
    refine x_iload_n S dX6_barsOf_25 2 rfl rfl ?_
    refine x_ishr S dX6_barsOf_26 ?_
    refine x_iconst (v := 1) S dX6_barsOf_27 rfl ?_
    refine x_iand S dX6_barsOf_28 ?_
    refine x_if_ne (tgt := 65) S dX6_barsOf_29 (by decide) (fun h3 => ?_) (fun h3 => ?_)
    · refine x_iincN (lv' := [(4, .int _), (0, .ref _), (1, .int _), (2, .int _), (3, .int _)]) S dX6_barsOf_65 4 rfl (by decide) rfl ?_
      refine x_goto (tgt := 5) S dX6_barsOf_68 (by decide) ?_
      exact x_sub [1, 2, 3, 4, 0] rfl (ih y (hskip (fun q => h3 ((pl_bit0 (by omega) (by omega)).mpr ((sub_O hs2).mp q.1).2))))
    have h3 := (pl_bit0 (by omega) (by omega)).mp h3
    have hdl := pl_di_le (2 ^ n - 1) s
    have hkl := kR_lt (nb := kNb fr to wt am) (n := n) (o := pl_di (2 ^ n - 1) s) (by omega) n (2 ^ i) (pl_pow (n := 12) (by omega))
    refine x_aload_n S dX6_barsOf_32 0 rfl rfl ?_
    refine x_iload_n S dX6_barsOf_33 1 rfl rfl ?_
    refine x_iload S dX6_barsOf_34 4 rfl ?_
    refine x_cVi (n := 2) S (m_part (C := kR (kNb fr to wt am) (pl_di (2 ^ n - 1) s) n n (2 ^ i)) hn hi (by omega) hnl (kR_of_kNb (C := 0) hA hB.2 hi)) (gGV gC tw688 tw685 tw687 ts33 tw7) rfl (by decide +kernel) 0 rfl rfl rfl rfl (Nat.le_of_ble_eq_true rfl) dX6_barsOf_36 ⟨by decide, by decide⟩ ⟨Nat.le_of_ble_eq_true rfl, Nat.le_of_ble_eq_true rfl⟩ ?_
    refine x_iload_n S dX6_barsOf_39 2 rfl rfl ?_
    refine x_ishr S dX6_barsOf_40 ?_
    refine x_iconst (v := 1) S dX6_barsOf_41 rfl ?_
    refine x_iand S dX6_barsOf_42 ?_
    refine x_if_ne (tgt := 65) S dX6_barsOf_43 (by decide) (fun h4 => ?_) (fun h4 => ?_)
    · refine x_iincN (lv' := [(4, .int _), (0, .ref _), (1, .int _), (2, .int _), (3, .int _)]) S dX6_barsOf_65 4 rfl (by decide) rfl ?_
      refine x_goto (tgt := 5) S dX6_barsOf_68 (by decide) ?_
      exact x_sub [1, 2, 3, 4, 0] rfl (ih y (hskip (fun q => h4 ((pl_bit0 (by omega) (by omega)).mpr q.2))))
    have h4 := (pl_bit0 (by omega) (by omega)).mp h4
    have hV : isV (kNb fr to wt am) n i j s := ⟨(sub_O hs2).mpr ⟨h2, h3⟩, h4⟩
    rcases hy with ⟨rfl, q⟩ | ⟨F, rfl, hF4, hF⟩
    · have hnew : isFM kP (fun T => isV (kNb fr to wt am) n i j T ∧ T < s + 1) s := isFM_one (fun U => ⟨fun w => (Nat.lt_or_ge U s).elim (fun c => absurd w.1 (q U c)) (fun c => by omega), fun w => by rw [w]; exact ⟨hV, by omega⟩⟩)
      refine x_iload_n S dX6_barsOf_46 3 rfl rfl ?_
      refine x_if_lt (tgt := 62) S dX6_barsOf_47 (by decide) (fun h5 => ?_) (fun h5 => ?_)
      · refine x_iload S dX6_barsOf_62 4 rfl ?_
        refine x_istore_n (lv' := [(3, .int _), (0, .ref _), (1, .int _), (2, .int _), (4, .int _)]) S dX6_barsOf_64 rfl (by decide) rfl ?_
        refine x_iincN (lv' := [(4, .int _), (3, .int _), (0, .ref _), (1, .int _), (2, .int _)]) S dX6_barsOf_65 4 rfl (by decide) rfl ?_
        refine x_goto (tgt := 5) S dX6_barsOf_68 (by decide) ?_
        exact x_sub [2, 3, 4, 1, 0] rfl (ih _ (Or.inr ⟨s, rfl, by omega, hnew⟩))
      exact absurd (by decide) h5
    have hst := isFM_step (Q := fun T => isV (kNb fr to wt am) n i j T ∧ T < s + 1) (T := s) hF (fun U => ⟨fun w => (Nat.lt_or_ge U s).elim (fun c => Or.inl ⟨w.1, c⟩) (fun c => Or.inr (by omega)), fun w => w.elim (fun c => ⟨c.1, by omega⟩) (fun c => by rw [c]; exact ⟨hV, by omega⟩)⟩) (fun U w => w.2)
    have hps : kP s ≤ 12 := pop_le 12 s
    have hpf : kP F ≤ 12 := pop_le 12 F
    refine x_iload_n S dX6_barsOf_46 3 rfl rfl ?_
    refine x_if_lt (tgt := 62) S dX6_barsOf_47 (by decide) (fun h5 => ?_) (fun h5 => ?_)
    · exact absurd h5 (nI_pos (by omega))
    refine x_iload S dX6_barsOf_50 4 rfl ?_
    refine x_cSi (n := 1) S (m_count (by omega)) (gGS gC tw668 tw666 tw667 tw7) rfl (by decide +kernel) rfl rfl (Nat.le_of_ble_eq_true rfl) dX6_barsOf_52 ⟨by decide, by decide⟩ ⟨Nat.le_of_ble_eq_true rfl, Nat.le_of_ble_eq_true rfl⟩ ?_
    refine x_iload_n S dX6_barsOf_55 3 rfl rfl ?_
    refine x_cSi (n := 1) S (m_count hF4) (gGS gC tw668 tw666 tw667 tw7) rfl (by decide +kernel) rfl rfl (Nat.le_of_ble_eq_true rfl) dX6_barsOf_56 ⟨by decide, by decide⟩ ⟨Nat.le_of_ble_eq_true rfl, Nat.le_of_ble_eq_true rfl⟩ ?_
    refine x_icmp_ge (tgt := 65) S dX6_barsOf_59 (by decide) (fun h6 => ?_) (fun h6 => ?_)
    · rw [if_neg (fun w => nI_ge w (by omega) h6)] at hst
      refine x_iincN (lv' := [(4, .int _), (0, .ref _), (1, .int _), (2, .int _), (3, .int _)]) S dX6_barsOf_65 4 rfl (by decide) rfl ?_
      refine x_goto (tgt := 5) S dX6_barsOf_68 (by decide) ?_
      exact x_sub [1, 2, 3, 4, 0] rfl (ih _ (Or.inr ⟨F, rfl, hF4, hst⟩))
    rw [if_pos (Nat.lt_of_not_le (fun w => h6 (nI_le w (by omega))))] at hst
    refine x_iload S dX6_barsOf_62 4 rfl ?_
    refine x_istore_n (lv' := [(3, .int _), (0, .ref _), (1, .int _), (2, .int _), (4, .int _)]) S dX6_barsOf_64 rfl (by decide) rfl ?_
    refine x_iincN (lv' := [(4, .int _), (3, .int _), (0, .ref _), (1, .int _), (2, .int _)]) S dX6_barsOf_65 4 rfl (by decide) rfl ?_
    refine x_goto (tgt := 5) S dX6_barsOf_68 (by decide) ?_
    exact x_sub [2, 3, 4, 1, 0] rfl (ih _ (Or.inr ⟨s, rfl, by omega, hst⟩))
  refine x_iconst (v := -1) S dX6_barsOf_0 rfl ?_
  refine x_istore_n (lv' := [(3, .int _), (0, .ref _), (1, .int _), (2, .int _)]) S dX6_barsOf_1 rfl (by decide) rfl ?_
  refine x_iconst (v := 0) S dX6_barsOf_2 rfl ?_
  refine x_istore (lv' := [(4, .int _), (3, .int _), (0, .ref _), (1, .int _), (2, .int _)]) S dX6_barsOf_3 (by decide) rfl ?_
  exact x_sub [2, 3, 4, 1, 0] rfl (L 0 (Nat.zero_le _) (-1) (Or.inl ⟨rfl, fun T hT => absurd hT (by omega)⟩))
set_option maxHeartbeats 4000000 in
set_option maxRecDepth 100000 in
theorem q_fault (a b : Int32) (h : MS) (hI : mInv n am al fr to wt h) : xMetS l yX6_barFault wX6_barFault (rD 10) D vwCl (tyC cI cII cP cZ) nwC [.ref (bd 0), .int a, .int b] (mwH bd cI cZ n am al h ++ X) (fun h' : MS => mInv n am al fr to wt h' ∧ (isP2 n a b → h'.2.2.2.2.2.2.2.1 = false)) (fun h' => mwH bd cI cZ n am al h' ++ X) (fun _ => some (.int (sFault n am fr to wt a b))) := by
  obtain ⟨on, ot, we, th, be, ne, cu, nw, pa, br, pc, ap, pn, ls, gr, tl, co⟩ := h
  obtain ⟨hA, hL, hal, hV, hPt⟩ := hI
  have hn := hA.1
  refine xMetS_of (cc := cX6_barFault) (maxL := 3) (ret := (some .int)) (by decide +kernel) rfl (Nat.le_of_ble_eq_true rfl) (fun _ _ => xfi) ?_
  intro E S hnm hret
  show xW E D vwCl 3 0 0 (mw bd cI cZ n am al on ot we th be ne cu nw pa br pc ap pn ls gr tl co ++ X) [(0, .ref (bd 0)), (1, .int a), (2, .int b)] 0 []
  refine x_aload_n S dX6_barFault_0 0 rfl rfl ?_
  refine x_iload_n S dX6_barFault_1 1 rfl rfl ?_
  refine x_iload_n S dX6_barFault_2 2 rfl rfl ?_
  refine x_cVi (n := 2) S (m_areTwo a b) (gGV gC tw542 tw539 tw541 ts15 tw7) rfl (by decide +kernel) 0 rfl rfl rfl rfl (Nat.le_of_ble_eq_true rfl) dX6_barFault_3 ⟨by decide, by decide⟩ ⟨Nat.le_of_ble_eq_true rfl, Nat.le_of_ble_eq_true rfl⟩ ?_
  refine x_if_neB (tgt := 11) S dX6_barFault_6 (by decide) (fun h1 => ?_) (fun h1 => ?_)
  rotate_left
  · refine x_iconst (v := -1) S dX6_barFault_9 rfl ?_
    exact x_retS hret ((on, ot, we, th, be, ne, cu, nw, pa, br, pc, ap, pn, ls, gr, tl, co)) (⟨⟨hA, hL, hal, hV, hPt⟩, fun q => absurd q h1⟩) ((if_neg h1).symm) dX6_barFault_10
  obtain ⟨i, j, hi, hj, hij, rfl, rfl, f1, f2⟩ := isP2_of hn h1
  refine x_aload_n S dX6_barFault_11 0 rfl rfl ?_
  refine x_cVvS (n := 0) S (m_make hA hL hV) (gGV gC tw562 tw559 tw561 ts17 tw7) rfl (by decide +kernel) 0 rfl rfl rfl rfl (Nat.le_of_ble_eq_true rfl) dX6_barFault_12 ⟨by decide, by decide⟩ ⟨Nat.le_of_ble_eq_true rfl, Nat.le_of_ble_eq_true rfl⟩ (fun u hu => ?_)
  refine x_aload_n S dX6_barFault_15 0 rfl rfl ?_
  refine x_get S 0 8 rfl rfl inC6 (by decide) (gC _ tw473) rfl rfl dX6_barFault_16 ?_
  refine x_iload_n S dX6_barFault_19 1 rfl rfl ?_
  refine x_ialdN S 6 0 (i) rfl rfl rfl (by omega) (by decide) dX6_barFault_20 ?_
  have hkl := kNb_lt fr to wt am i
  have hkt := kNb_t fr to wt am i j (by omega)
  rw [hu.1.2 i (by omega)]
  refine x_iload_n S dX6_barFault_21 2 rfl rfl ?_
  refine x_ishr S dX6_barFault_22 ?_
  refine x_iconst (v := 1) S dX6_barFault_23 rfl ?_
  refine x_iand S dX6_barFault_24 ?_
  refine x_iconst (v := 1) S dX6_barFault_25 rfl ?_
  refine x_icmp_ne (tgt := 34) S dX6_barFault_26 (by decide) (fun h2 => ?_) (fun h2 => ?_)
  rotate_left
  · have h2 := (pl_bit1 (by omega) (by omega)).mp h2
    rw [hkt] at h2
    refine x_bipush (v := -3) S dX6_barFault_29 (by decide) ?_
    refine x_goto (tgt := 35) S dX6_barFault_31 (by decide) ?_
    exact x_retS hret ((on, ot, we, th, u.1, u.2.1, u.2.2.1, false, u.2.2.2.1, u.2.2.2.2.1, pc, ap, pn, u.2.2.2.2.2, gr, tl, co)) (⟨⟨hA, hL, hal, fun _ => hu, hPt⟩, fun _ => rfl⟩) ((by unfold sFault; rw [if_pos h1, f1, f2, if_pos (of_decide_eq_true h2)])) dX6_barFault_35
  refine x_iconst (v := 0) S dX6_barFault_34 rfl ?_
  exact x_retS hret ((on, ot, we, th, u.1, u.2.1, u.2.2.1, false, u.2.2.2.1, u.2.2.2.2.1, pc, ap, pn, u.2.2.2.2.2, gr, tl, co)) (⟨⟨hA, hL, hal, fun _ => hu, hPt⟩, fun _ => rfl⟩) ((by unfold sFault; rw [if_pos h1, f1, f2, if_neg (fun q => h2 ((pl_bit1 (by omega) (by omega)).mpr (by rw [hkt]; exact decide_eq_true q)))])) dX6_barFault_35
set_option maxHeartbeats 4000000 in
set_option maxRecDepth 100000 in
theorem q_barSet (a b : Int32) (h : MS) (hI : mInv n am al fr to wt h) : xMetS l yX6_barSet wX6_barSet (rD 16) D vwCl (tyC cI cII cP cZ) nwC [.ref (bd 0), .int a, .int b] (mwH bd cI cZ n am al h ++ X) (fun h' : MS => mInv n am al fr to wt h') (fun h' => mwH bd cI cZ n am al h' ++ X) (fun _ => some (.int (sBarSet n am fr to wt a b))) := by
  obtain ⟨on, ot, we, th, be, ne, cu, nw, pa, br, pc, ap, pn, ls, gr, tl, co⟩ := h
  obtain ⟨hA, hL, hal, hV, hPt⟩ := hI
  have hn := hA.1
  refine xMetS_of (cc := cX6_barSet) (maxL := 4) (ret := (some .int)) (by decide +kernel) rfl (Nat.le_of_ble_eq_true rfl) (fun _ _ => xfi) ?_
  intro E S hnm hret
  show xW E D vwCl 4 0 0 (mw bd cI cZ n am al on ot we th be ne cu nw pa br pc ap pn ls gr tl co ++ X) [(0, .ref (bd 0)), (1, .int a), (2, .int b)] 0 []
  refine x_aload_n S dX6_barSet_0 0 rfl rfl ?_
  refine x_iload_n S dX6_barSet_1 1 rfl rfl ?_
  refine x_iload_n S dX6_barSet_2 2 rfl rfl ?_
  refine x_cViS (n := 2) S (q_fault a b (on, ot, we, th, be, ne, cu, nw, pa, br, pc, ap, pn, ls, gr, tl, co) ⟨hA, hL, hal, hV, hPt⟩) (gGV gC tw680 tw677 tw679 ts31 tw7) rfl (by decide +kernel) 0 rfl rfl rfl rfl (Nat.le_of_ble_eq_true rfl) dX6_barSet_3 ⟨by decide, by decide⟩ ⟨Nat.le_of_ble_eq_true rfl, Nat.le_of_ble_eq_true rfl⟩ (fun h' hI' => ?_)
  obtain ⟨on, ot, we, th, be, ne, cu, nw, pa, br, pc, ap, pn, ls, gr, tl, co⟩ := h'
  obtain ⟨hI', hnw⟩ := hI'
  show xW E D vwCl 4 0 0 (mw bd cI cZ n am al on ot we th be ne cu nw pa br pc ap pn ls gr tl co ++ X) _ _ _
  by_cases h1 : isP2 n a b
  · obtain ⟨i, j, hi, hj, hij, rfl, rfl, f1, f2⟩ := isP2_of hn h1
    have hnw2 : nw = false := hnw h1
    by_cases h2 : 0 < kM fr to wt am i j
    · have hv : sFault n am fr to wt (nI i) (nI j) = -3 := by unfold sFault; rw [if_pos h1, f1, f2, if_pos h2]
      rw [hv]
      refine x_istore_n (lv' := [(3, .int _), (0, .ref _), (1, .int _), (2, .int _)]) S dX6_barSet_6 rfl (by decide) rfl ?_
      refine x_iload_n S dX6_barSet_7 0 rfl rfl ?_
      refine x_if_ge (tgt := 15) S dX6_barSet_8 (by decide) (fun h3 => ?_) (fun h3 => ?_)
      rotate_left
      · refine x_iload_n S dX6_barSet_11 0 rfl rfl ?_
        refine x_goto (tgt := 21) S dX6_barSet_12 (by decide) ?_
        exact x_retS hret ((on, ot, we, th, be, ne, cu, nw, pa, br, pc, ap, pn, ls, gr, tl, co)) (hI') ((by unfold sBarSet; rw [if_pos h1, f1, f2, if_pos h2])) dX6_barSet_21
      exact absurd h3 (by decide)
    · have hv : sFault n am fr to wt (nI i) (nI j) = 0 := by unfold sFault; rw [if_pos h1, f1, f2, if_neg h2]
      rw [hv]
      have hZ := kFB_isFM (isV_O hn hi hj hij h2) hn hi hj hij
      have hF := kFB_lt (nb := kNb fr to wt am) (a := i) (b := j) hn (2 ^ (n - 2))
      refine x_istore_n (lv' := [(3, .int _), (0, .ref _), (1, .int _), (2, .int _)]) S dX6_barSet_6 rfl (by decide) rfl ?_
      refine x_iload_n S dX6_barSet_7 0 rfl rfl ?_
      refine x_if_ge (tgt := 15) S dX6_barSet_8 (by decide) (fun h3 => ?_) (fun h3 => ?_)
      · refine x_aload_n S dX6_barSet_15 1 rfl rfl ?_
        refine x_iload_n S dX6_barSet_16 2 rfl rfl ?_
        refine x_iload_n S dX6_barSet_17 3 rfl rfl ?_
        refine x_cVi (n := 2) S (m_barsOf hA (hI'.2.2.2.1 hnw2).1 hi hj hZ) (gGV gC tw684 tw681 tw683 ts32 tw7) rfl (by decide +kernel) 0 rfl rfl rfl rfl (Nat.le_of_ble_eq_true rfl) dX6_barSet_18 ⟨by decide, by decide⟩ ⟨Nat.le_of_ble_eq_true rfl, Nat.le_of_ble_eq_true rfl⟩ ?_
        exact x_retS hret ((on, ot, we, th, be, ne, cu, nw, pa, br, pc, ap, pn, ls, gr, tl, co)) (hI') ((by unfold sBarSet; rw [if_pos h1, f1, f2, if_neg h2])) dX6_barSet_21
      exact absurd (by decide) h3
  · have hv : sFault n am fr to wt a b = -1 := if_neg h1
    rw [hv]
    refine x_istore_n (lv' := [(3, .int _), (0, .ref _), (1, .int _), (2, .int _)]) S dX6_barSet_6 rfl (by decide) rfl ?_
    refine x_iload_n S dX6_barSet_7 0 rfl rfl ?_
    refine x_if_ge (tgt := 15) S dX6_barSet_8 (by decide) (fun h3 => ?_) (fun h3 => ?_)
    rotate_left
    · refine x_iload_n S dX6_barSet_11 0 rfl rfl ?_
      refine x_goto (tgt := 21) S dX6_barSet_12 (by decide) ?_
      exact x_retS hret ((on, ot, we, th, be, ne, cu, nw, pa, br, pc, ap, pn, ls, gr, tl, co)) (hI') ((if_neg h1).symm) dX6_barSet_21
    exact absurd h3 (by decide)
set_option maxHeartbeats 4000000 in
set_option maxRecDepth 100000 in
theorem q_bars (a b : Int32) (h : MS) (hI : mInv n am al fr to wt h) : xMetS l yX6_bars wX6_bars (rD 16) D vwCl (tyC cI cII cP cZ) nwC [.ref (bd 0), .int a, .int b] (mwH bd cI cZ n am al h ++ X) (fun h' : MS => mInv n am al fr to wt h') (fun h' => mwH bd cI cZ n am al h' ++ X) (fun _ => some (.int (sBars n am fr to wt a b))) := by
  obtain ⟨on, ot, we, th, be, ne, cu, nw, pa, br, pc, ap, pn, ls, gr, tl, co⟩ := h
  obtain ⟨hA, hL, hal, hV, hPt⟩ := hI
  have hn := hA.1
  refine xMetS_of (cc := cX6_bars) (maxL := 4) (ret := (some .int)) (by decide +kernel) rfl (Nat.le_of_ble_eq_true rfl) (fun _ _ => xfi) ?_
  intro E S hnm hret
  show xW E D vwCl 4 0 0 (mw bd cI cZ n am al on ot we th be ne cu nw pa br pc ap pn ls gr tl co ++ X) [(0, .ref (bd 0)), (1, .int a), (2, .int b)] 0 []
  refine x_aload_n S dX6_bars_0 0 rfl rfl ?_
  refine x_iload_n S dX6_bars_1 1 rfl rfl ?_
  refine x_iload_n S dX6_bars_2 2 rfl rfl ?_
  refine x_cViS (n := 2) S (q_fault a b (on, ot, we, th, be, ne, cu, nw, pa, br, pc, ap, pn, ls, gr, tl, co) ⟨hA, hL, hal, hV, hPt⟩) (gGV gC tw680 tw677 tw679 ts31 tw7) rfl (by decide +kernel) 0 rfl rfl rfl rfl (Nat.le_of_ble_eq_true rfl) dX6_bars_3 ⟨by decide, by decide⟩ ⟨Nat.le_of_ble_eq_true rfl, Nat.le_of_ble_eq_true rfl⟩ (fun h' hI' => ?_)
  obtain ⟨on, ot, we, th, be, ne, cu, nw, pa, br, pc, ap, pn, ls, gr, tl, co⟩ := h'
  obtain ⟨hI', hnw⟩ := hI'
  show xW E D vwCl 4 0 0 (mw bd cI cZ n am al on ot we th be ne cu nw pa br pc ap pn ls gr tl co ++ X) _ _ _
  by_cases h1 : isP2 n a b
  · obtain ⟨i, j, hi, hj, hij, rfl, rfl, f1, f2⟩ := isP2_of hn h1
    have hnw2 : nw = false := hnw h1
    by_cases h2 : 0 < kM fr to wt am i j
    · have hv : sFault n am fr to wt (nI i) (nI j) = -3 := by unfold sFault; rw [if_pos h1, f1, f2, if_pos h2]
      rw [hv]
      refine x_istore_n (lv' := [(3, .int _), (0, .ref _), (1, .int _), (2, .int _)]) S dX6_bars_6 rfl (by decide) rfl ?_
      refine x_iload_n S dX6_bars_7 0 rfl rfl ?_
      refine x_if_ge (tgt := 15) S dX6_bars_8 (by decide) (fun h3 => ?_) (fun h3 => ?_)
      rotate_left
      · refine x_iload_n S dX6_bars_11 0 rfl rfl ?_
        refine x_goto (tgt := 24) S dX6_bars_12 (by decide) ?_
        exact x_retS hret ((on, ot, we, th, be, ne, cu, nw, pa, br, pc, ap, pn, ls, gr, tl, co)) (hI') ((by unfold sBars; rw [if_pos h1, f1, f2, if_pos h2])) dX6_bars_24
      exact absurd h3 (by decide)
    · have hv : sFault n am fr to wt (nI i) (nI j) = 0 := by unfold sFault; rw [if_pos h1, f1, f2, if_neg h2]
      rw [hv]
      have hZ := kFB_isFM (isV_O hn hi hj hij h2) hn hi hj hij
      have hF := kFB_lt (nb := kNb fr to wt am) (a := i) (b := j) hn (2 ^ (n - 2))
      refine x_istore_n (lv' := [(3, .int _), (0, .ref _), (1, .int _), (2, .int _)]) S dX6_bars_6 rfl (by decide) rfl ?_
      refine x_iload_n S dX6_bars_7 0 rfl rfl ?_
      refine x_if_ge (tgt := 15) S dX6_bars_8 (by decide) (fun h3 => ?_) (fun h3 => ?_)
      · refine x_aload_n S dX6_bars_15 1 rfl rfl ?_
        refine x_iload_n S dX6_bars_16 2 rfl rfl ?_
        refine x_iload_n S dX6_bars_17 3 rfl rfl ?_
        refine x_cVi (n := 2) S (m_barsOf hA (hI'.2.2.2.1 hnw2).1 hi hj hZ) (gGV gC tw684 tw681 tw683 ts32 tw7) rfl (by decide +kernel) 0 rfl rfl rfl rfl (Nat.le_of_ble_eq_true rfl) dX6_bars_18 ⟨by decide, by decide⟩ ⟨Nat.le_of_ble_eq_true rfl, Nat.le_of_ble_eq_true rfl⟩ ?_
        refine x_cSi (n := 1) S (m_count (by omega)) (gGS gC tw668 tw666 tw667 tw7) rfl (by decide +kernel) rfl rfl (Nat.le_of_ble_eq_true rfl) dX6_bars_21 ⟨by decide, by decide⟩ ⟨Nat.le_of_ble_eq_true rfl, Nat.le_of_ble_eq_true rfl⟩ ?_
        exact x_retS hret ((on, ot, we, th, be, ne, cu, nw, pa, br, pc, ap, pn, ls, gr, tl, co)) (hI') ((by unfold sBars; rw [if_pos h1, f1, f2, if_neg h2])) dX6_bars_24
      exact absurd (by decide) h3
  · have hv : sFault n am fr to wt a b = -1 := if_neg h1
    rw [hv]
    refine x_istore_n (lv' := [(3, .int _), (0, .ref _), (1, .int _), (2, .int _)]) S dX6_bars_6 rfl (by decide) rfl ?_
    refine x_iload_n S dX6_bars_7 0 rfl rfl ?_
    refine x_if_ge (tgt := 15) S dX6_bars_8 (by decide) (fun h3 => ?_) (fun h3 => ?_)
    rotate_left
    · refine x_iload_n S dX6_bars_11 0 rfl rfl ?_
      refine x_goto (tgt := 24) S dX6_bars_12 (by decide) ?_
      exact x_retS hret ((on, ot, we, th, be, ne, cu, nw, pa, br, pc, ap, pn, ls, gr, tl, co)) (hI') ((if_neg h1).symm) dX6_bars_24
    exact absurd h3 (by decide)
set_option maxHeartbeats 4000000 in
set_option maxRecDepth 100000 in
theorem q_without (s : Int32) (h : MS) (hI : mInv n am al fr to wt h) : xMetS l yX6_without wX6_without (rD 16) D vwCl (tyC cI cII cP cZ) nwC [.ref (bd 0), .int s] (mwH bd cI cZ n am al h ++ X) (fun h' : MS => mInv n am al fr to wt h') (fun h' => mwH bd cI cZ n am al h' ++ X) (fun _ => some (.int (sWithout n am fr to wt s))) := by
  obtain ⟨on, ot, we, th, be, ne, cu, nw, pa, br, pc, ap, pn, ls, gr, tl, co⟩ := h
  obtain ⟨hA, hL, hal, hV, hPt⟩ := hI
  have hn := hA.1
  refine xMetS_of (cc := cX6_without) (maxL := 5) (ret := (some .int)) (by decide +kernel) rfl (Nat.le_of_ble_eq_true rfl) (fun _ _ => xfi) ?_
  intro E S hnm hret
  show xW E D vwCl 5 0 0 (mw bd cI cZ n am al on ot we th be ne cu nw pa br pc ap pn ls gr tl co ++ X) [(0, .ref (bd 0)), (1, .int s)] 0 []
  refine x_iload_n S dX6_without_0 1 rfl rfl ?_
  refine x_aload_n S dX6_without_1 0 rfl rfl ?_
  refine x_cVi (n := 0) S (m_all hn) (gGV gC tw558 tw555 tw557 ts16 tw7) rfl (by decide +kernel) 0 rfl rfl rfl rfl (Nat.le_of_ble_eq_true rfl) dX6_without_2 ⟨by decide, by decide⟩ ⟨Nat.le_of_ble_eq_true rfl, Nat.le_of_ble_eq_true rfl⟩ ?_
  refine x_iconst (v := -1) S dX6_without_5 rfl ?_
  refine x_ixor S dX6_without_6 ?_
  refine x_iand S dX6_without_7 ?_
  refine x_if_eq (tgt := 14) S dX6_without_8 (by decide) (fun h1 => ?_) (fun h1 => ?_)
  rotate_left
  · refine x_bipush (v := -2) S dX6_without_11 (by decide) ?_
    exact x_retS hret ((on, ot, we, th, be, ne, cu, nw, pa, br, pc, ap, pn, ls, gr, tl, co)) (⟨hA, hL, hal, hV, hPt⟩) ((if_neg (fun q => h1 ((maskI hn s).mpr q))).symm) dX6_without_13
  have h1 := (maskI hn s).mp h1
  obtain ⟨w, hw, rfl, f⟩ := set_of hn h1
  have hp := pl_pow12 hn
  have hp0 := Nat.two_pow_pos n
  refine x_aload_n S dX6_without_14 0 rfl rfl ?_
  refine x_cVvS (n := 0) S (m_make hA hL hV) (gGV gC tw562 tw559 tw561 ts17 tw7) rfl (by decide +kernel) 0 rfl rfl rfl rfl (Nat.le_of_ble_eq_true rfl) dX6_without_15 ⟨by decide, by decide⟩ ⟨Nat.le_of_ble_eq_true rfl, Nat.le_of_ble_eq_true rfl⟩ (fun u hu => ?_)
  have hnl : ∀ x, x < 12 → u.2.1 x < 4096 := fun x hx => by rw [hu.1.2 x hx]; exact kNb_lt _ _ _ _ _
  have hdl := pl_di_le (2 ^ n - 1) w
  have L : ∀ k, k ≤ n → ∀ m, m < 4096 → (∀ i, i < n → (kCC (kNb fr to wt am) (pl_di (2 ^ n - 1) w) n k).1.testBit i = !m.testBit i) → xW E D vwCl 5 0 0 (mw bd cI cZ n am al on ot we th u.1 u.2.1 u.2.2.1 false u.2.2.2.1 u.2.2.2.2.1 pc ap pn u.2.2.2.2.2 gr tl co ++ X) [(0, .ref (bd 0)), (1, .int (nI w)), (2, .int (nI (kCC (kNb fr to wt am) (pl_di (2 ^ n - 1) w) n k).2)), (3, .int (nI m)), (4, .int (nI k))] 25 [] := by
    refine pl_up n (fun k hk ih => ?_)
    intro m hm hr
    refine x_iload S dX6_without_25 4 rfl ?_
    refine x_aload_n S dX6_without_27 0 rfl rfl ?_
    refine x_get S 0 0 rfl rfl inC6 (by decide) (gC _ tw465) rfl rfl dX6_without_28 ?_
    refine x_icmp_ge (tgt := 62) S dX6_without_31 (by decide) (fun h2 => ?_) (fun h2 => ?_)
    · have hk2 : k = n := Nat.le_antisymm hk ((nI_leI (by omega) (by omega)).mp h2)
      refine x_iload_n S dX6_without_62 2 rfl rfl ?_
      exact x_retS hret ((on, ot, we, th, u.1, u.2.1, u.2.2.1, false, u.2.2.2.1, u.2.2.2.2.1, pc, ap, pn, u.2.2.2.2.2, gr, tl, co)) (⟨hA, hL, hal, fun _ => hu, hPt⟩) ((by unfold sWithout; rw [if_pos h1, f, hk2])) dX6_without_63
    have hk2 : k < n := Nat.lt_of_not_le (fun h => h2 (nI_le h (by omega)))
    have ih := ih hk2
    simp only [kCC] at ih
    have hrk := hr k hk2
    have hkl := kR_lt (nb := kNb fr to wt am) (n := n) (o := pl_di (2 ^ n - 1) w) (by omega) n (2 ^ k) (pl_pow (n := 12) (by omega))
    refine x_iload_n S dX6_without_34 3 rfl rfl ?_
    refine x_iload S dX6_without_35 4 rfl ?_
    refine x_ishr S dX6_without_37 ?_
    refine x_iconst (v := 1) S dX6_without_38 rfl ?_
    refine x_iand S dX6_without_39 ?_
    refine x_if_ne (tgt := 56) S dX6_without_40 (by decide) (fun h3 => ?_) (fun h3 => ?_)
    · have h3 : m.testBit k = true := by
        cases hb : m.testBit k with
        | true => rfl
        | false => exact absurd ((pl_bit0 (by omega) (by omega)).mpr hb) h3
      rw [if_neg (by rw [hrk, h3]; decide)] at ih
      refine x_iincN (lv' := [(4, .int _), (0, .ref _), (1, .int _), (2, .int _), (3, .int _)]) S dX6_without_56 4 rfl (by decide) rfl ?_
      refine x_goto (tgt := 25) S dX6_without_59 (by decide) ?_
      exact x_sub [1, 2, 3, 4, 0] rfl (ih m hm hr)
    have h3 := (pl_bit0 (by omega) (by omega)).mp h3
    rw [if_pos (by rw [hrk, h3]; rfl)] at ih
    refine x_iload_n S dX6_without_43 3 rfl rfl ?_
    refine x_aload_n S dX6_without_44 0 rfl rfl ?_
    refine x_iload S dX6_without_45 4 rfl ?_
    refine x_iload_n S dX6_without_47 1 rfl rfl ?_
    refine x_cVi (n := 2) S (m_part (C := kR (kNb fr to wt am) (pl_di (2 ^ n - 1) w) n n (2 ^ k)) hn hk2 (by omega) hnl (kR_of_kNb (C := 0) hA hu.1.2 hk2)) (gGV gC tw688 tw685 tw687 ts33 tw7) rfl (by decide +kernel) 0 rfl rfl rfl rfl (Nat.le_of_ble_eq_true rfl) dX6_without_48 ⟨by decide, by decide⟩ ⟨Nat.le_of_ble_eq_true rfl, Nat.le_of_ble_eq_true rfl⟩ ?_
    refine x_ior S dX6_without_51 ?_
    refine x_top (nI (m ||| kR (kNb fr to wt am) (pl_di (2 ^ n - 1) w) n n (2 ^ k))) (pl_or _ _) ?_
    refine x_istore_n (lv' := [(3, .int _), (0, .ref _), (1, .int _), (2, .int _), (4, .int _)]) S dX6_without_52 rfl (by decide) rfl ?_
    refine x_iincN (lv' := [(2, .int _), (3, .int _), (0, .ref _), (1, .int _), (4, .int _)]) S dX6_without_53 3 rfl (by decide) rfl ?_
    refine x_iincN (lv' := [(4, .int _), (2, .int _), (3, .int _), (0, .ref _), (1, .int _)]) S dX6_without_56 4 rfl (by decide) rfl ?_
    refine x_goto (tgt := 25) S dX6_without_59 (by decide) ?_
    exact x_sub [3, 4, 1, 2, 0] rfl (ih _ (Nat.or_lt_two_pow (n := 12) hm hkl) (fun i hi => by simp only; rw [pl_di_t, hr i hi, Nat.testBit_or, Bool.not_or]))
  refine x_iconst (v := 0) S dX6_without_18 rfl ?_
  refine x_istore_n (lv' := [(2, .int _), (0, .ref _), (1, .int _)]) S dX6_without_19 rfl (by decide) rfl ?_
  refine x_iload_n S dX6_without_20 2 rfl rfl ?_
  refine x_istore_n (lv' := [(3, .int _), (2, .int _), (0, .ref _), (1, .int _)]) S dX6_without_21 rfl (by decide) rfl ?_
  refine x_iconst (v := 0) S dX6_without_22 rfl ?_
  refine x_istore (lv' := [(4, .int _), (3, .int _), (2, .int _), (0, .ref _), (1, .int _)]) S dX6_without_23 (by decide) rfl ?_
  exact x_sub [3, 4, 2, 1, 0] rfl (L 0 (Nat.zero_le _) w (by omega) (fun i hi => by show (pl_di (2 ^ n - 1) w).testBit i = _; rw [pl_di_t, Nat.testBit_two_pow_sub_one, decide_eq_true hi, Bool.true_and]))
end M7
