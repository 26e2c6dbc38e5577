/-! the reference: contracts, 6 -/
section M6
section ANC
variable {pa : Nat → Nat} {n : Nat}
/-- v and what is above it in THE TREE -/
def kAn (pa : Nat → Nat) : Nat → Nat → Nat
  | 0, v => 2 ^ v
  | f + 1, v => if v = 0 then 1 else 2 ^ v ||| kAn pa f (pa v)
theorem kAn_stab (hp : ∀ j, 1 ≤ j → j < n → pa j < j) : ∀ (f f' v : Nat), v < n → v ≤ f → v ≤ f' → kAn pa f v = kAn pa f' v
  | 0, 0, v, _, _, _ => rfl
  | 0, f' + 1, v, _, h, _ => by
    have : v = 0 := by omega
    subst this; simp [kAn]
  | f + 1, 0, v, _, _, h => by
    have : v = 0 := by omega
    subst this; simp [kAn]
  | f + 1, f' + 1, v, hv, h, h' => by
    simp only [kAn]
    split
    · rfl
    · have := hp v (by omega) hv
      rw [kAn_stab hp f f' (pa v) (by omega) (by omega) (by omega)]
theorem kAn_s (hn : n ≤ 12) (hp : ∀ j, 1 ≤ j → j < n → pa j < j) {v : Nat} (h1 : 1 ≤ v) (hv : v < n) : kAn pa 12 v = 2 ^ v ||| kAn pa 12 (pa v) := by
  have := hp v h1 hv
  have e : kAn pa 12 v = 2 ^ v ||| kAn pa 11 (pa v) := by
    show (if v = 0 then 1 else 2 ^ v ||| kAn pa 11 (pa v)) = _
    rw [if_neg (by omega)]
  rw [e, kAn_stab hp 11 12 (pa v) (by omega) (by omega) (by omega)]
theorem kAn_top (hp : ∀ j, 1 ≤ j → j < n → pa j < j) : ∀ (f v : Nat), (kAn pa f v).testBit v = true
  | 0, v => by simp [kAn, Nat.testBit_two_pow]
  | f + 1, v => by
    simp only [kAn]
    split
    · rename_i h; subst h; rfl
    · rw [Nat.testBit_or, Nat.testBit_two_pow]; simp
theorem kAn_le (hp : ∀ j, 1 ≤ j → j < n → pa j < j) : ∀ (f v i : Nat), v < n → (kAn pa f v).testBit i = true → i ≤ v
  | 0, v, i, _, h => by
    simp only [kAn] at h
    rw [Nat.testBit_two_pow] at h
    have := of_decide_eq_true h; omega
  | f + 1, v, i, hv, h => by
    simp only [kAn] at h
    split at h
    · have : (2 ^ 0).testBit i = true := h
      rw [Nat.testBit_two_pow] at this
      have := of_decide_eq_true this; omega
    · rename_i q
      rw [Nat.testBit_or, Nat.testBit_two_pow] at h
      have h3 := hp v (by omega) hv
      rcases (Bool.or_eq_true _ _ ▸ h) with c | c
      · have := of_decide_eq_true c; omega
      · have := kAn_le hp f (pa v) i (by omega) c
        omega
theorem kAn_lt (hn : n ≤ 12) (hp : ∀ j, 1 ≤ j → j < n → pa j < j) {v : Nat} (hv : v < n) : kAn pa 12 v < 4096 := lt_of_t (n := 12) (fun i h => by
  have := kAn_le hp 12 v i hv h; omega)
theorem kAn_hi (hp : ∀ j, 1 ≤ j → j < n → pa j < j) {v i : Nat} (hv : v < n) (hi : v < i) : (kAn pa 12 v).testBit i = false := by
  cases h : (kAn pa 12 v).testBit i with
  | false => rfl
  | true => have := kAn_le hp 12 v i hv h; omega
end ANC
/-- m is the least of z and of what br has at S -/
def isG (br : Nat → Nat) (S z n m : Nat) : Prop := m ≤ z ∧ (∀ v, 1 ≤ v → v < n → S.testBit v = true → m ≤ br v) ∧ (m = z ∨ ∃ v, 1 ≤ v ∧ v < n ∧ S.testBit v = true ∧ m = br v)
def mnS (br : Nat → Nat) (S z : Nat) : Nat → Nat
  | 0 => z
  | v + 1 => if 1 ≤ v ∧ S.testBit v = true ∧ br v < mnS br S z v then br v else mnS br S z v
theorem mnS_isG (br : Nat → Nat) (S z : Nat) : ∀ n, isG br S z n (mnS br S z n)
  | 0 => ⟨Nat.le_refl _, fun v _ h => absurd h (by omega), Or.inl rfl⟩
  | n + 1 => by
    obtain ⟨h1, h2, h3⟩ := mnS_isG br S z n
    simp only [mnS]
    split
    · rename_i q
      refine ⟨by omega, fun v g1 g2 g3 => ?_, Or.inr ⟨n, q.1, by omega, q.2.1, rfl⟩⟩
      rcases Nat.lt_or_ge v n with c | c
      · have := h2 v g1 c g3; omega
      · have : v = n := by omega
        subst this; exact Nat.le_refl _
    · rename_i q
      refine ⟨h1, fun v g1 g2 g3 => ?_, h3.imp id (fun ⟨v, a, b, c, d⟩ => ⟨v, a, by omega, c, d⟩)⟩
      rcases Nat.lt_or_ge v n with c | c
      · exact h2 v g1 c g3
      · have : v = n := by omega
        subst this
        exact Nat.le_of_not_lt (fun w => q ⟨g1, g3, w⟩)
theorem kWy_st {pa br : Nat → Nat} {n lo hi z zz m : Nat} (hn : n ≤ 12) (hp : ∀ j, 1 ≤ j → j < n → pa j < j) (hlt : lo < hi) (hh : hi < n) (z1 : zz ≤ z) (z2 : zz ≤ br hi) (z3 : zz = z ∨ zz = br hi) (IH : isG br (kAn pa 12 lo ^^^ kAn pa 12 (pa hi)) zz n m) : isG br (kAn pa 12 lo ^^^ kAn pa 12 hi) z n m := by
  obtain ⟨h1, h2, h3⟩ := IH
  have hpl := hp hi (by omega) hh
  have hs := kAn_s hn hp (show 1 ≤ hi by omega) hh
  have hb1 : (kAn pa 12 lo).testBit hi = false := kAn_hi hp (by omega) hlt
  have hb2 : (kAn pa 12 (pa hi)).testBit hi = false := kAn_hi hp (by omega) hpl
  have bt : ∀ v, (kAn pa 12 lo ^^^ kAn pa 12 hi).testBit v = (decide (hi = v) || (kAn pa 12 lo ^^^ kAn pa 12 (pa hi)).testBit v) := fun v => by
    rw [hs, Nat.testBit_xor, Nat.testBit_or, Nat.testBit_two_pow, Nat.testBit_xor]
    by_cases e : hi = v
    · rw [← e, hb1, hb2]; simp
    · simp [e]
  refine ⟨by omega, fun v g1 g2 g3 => ?_, ?_⟩
  · rw [bt] at g3
    by_cases e : hi = v
    · rw [← e]; omega
    · rw [decide_eq_false e, Bool.false_or] at g3
      exact h2 v g1 g2 g3
  · rcases h3 with e | ⟨v, a, b, c, d⟩
    · rcases z3 with q | q
      · exact Or.inl (e.trans q)
      · exact Or.inr ⟨hi, by omega, hh, by rw [bt]; simp, e.trans q⟩
    · exact Or.inr ⟨v, a, b, by rw [bt, c]; simp, d⟩
theorem min_3 (z w : Nat) : min z w ≤ z ∧ min z w ≤ w ∧ (min z w = z ∨ min z w = w) := by omega
theorem kWy_isG {pa br : Nat → Nat} {n : Nat} (hn : n ≤ 12) (hp : ∀ j, 1 ≤ j → j < n → pa j < j) : ∀ (f x y z : Nat), x < n → y < n → x + y < f → isG br (kAn pa 12 x ^^^ kAn pa 12 y) z n (kWy pa br f x y z)
  | 0, x, y, z, _, _, h => absurd h (by omega)
  | f + 1, x, y, z, hx, hy, hf => by
    simp only [kWy]
    split
    · rename_i e
      subst e
      rw [Nat.xor_self]
      exact ⟨Nat.le_refl _, fun v _ _ h => by simp at h, Or.inl rfl⟩
    · rename_i hne
      rcases Nat.lt_or_ge x y with c | c
      · rw [Nat.min_eq_left (Nat.le_of_lt c), Nat.max_eq_right (Nat.le_of_lt c)]
        have hpl := hp y (by omega) hy
        obtain ⟨z1, z2, z3⟩ := min_3 z (br y)
        exact kWy_st hn hp c hy z1 z2 z3 (kWy_isG hn hp f x (pa y) _ hx (by omega) (by omega))
      · have c2 : y < x := by omega
        rw [Nat.min_eq_right c, Nat.max_eq_left c]
        have hpl := hp x (by omega) hx
        obtain ⟨z1, z2, z3⟩ := min_3 z (br x)
        rw [Nat.xor_comm]
        exact kWy_st hn hp c2 hx z1 z2 z3 (kWy_isG hn hp f y (pa x) _ hy (by omega) (by omega))
theorem way_eq {pa br : Nat → Nat} {n a b : Nat} (hn : n ≤ 12) (hp : ∀ j, 1 ≤ j → j < n → pa j < j) (hb : ∀ j, 1 ≤ j → j < n → br j ≤ 50000) (ha : a < n) (hbn : b < n) (hab : a ≠ b) : mnS br (kAn pa 12 a ^^^ kAn pa 12 b) 1073741824 n = kWy pa br 24 a b 2147483647 := by
  obtain ⟨p1, p2, p3⟩ := mnS_isG br (kAn pa 12 a ^^^ kAn pa 12 b) 1073741824 n
  obtain ⟨q1, q2, q3⟩ := kWy_isG (br := br) hn hp 24 a b 2147483647 ha hbn (by omega)
  generalize mnS br (kAn pa 12 a ^^^ kAn pa 12 b) 1073741824 n = r1 at p1 p2 p3 ⊢
  generalize kWy pa br 24 a b 2147483647 = r2 at q1 q2 q3 ⊢
  obtain ⟨h, h1, hh, hbit⟩ : ∃ h, 1 ≤ h ∧ h < n ∧ (kAn pa 12 a ^^^ kAn pa 12 b).testBit h = true := by
    rcases Nat.lt_or_ge a b with c | c
    · exact ⟨b, by omega, hbn, by rw [Nat.testBit_xor, kAn_hi hp ha c, kAn_top hp]; rfl⟩
    · have c2 : b < a := Nat.lt_of_le_of_ne c (fun e => hab e.symm)
      exact ⟨a, Nat.lt_of_le_of_lt (Nat.zero_le _) c2, ha, by rw [Nat.testBit_xor, kAn_top hp, kAn_hi hp hbn c2]; rfl⟩
  have m1 := p2 h h1 hh hbit
  have m2 := q2 h h1 hh hbit
  have m3 := hb h h1 hh
  rcases p3 with e | ⟨v, a1, a2, a3, a4⟩
  · omega
  · rcases q3 with e | ⟨w, b1, b2, b3, b4⟩
    · omega
    · have := p2 w b1 b2 b3
      have := q2 v a1 a2 a3
      omega
theorem or_bit {s v : Nat} (h : s.testBit v = true) : s ||| 2 ^ v = s := Nat.eq_of_testBit_eq (fun i => by
  rw [Nat.testBit_or, Nat.testBit_two_pow]
  by_cases e : v = i
  · subst e; rw [h]; rfl
  · simp [e])
variable {l : Launch} {D : va_G} {bd : Nat → Nat} {cI cII cP cZ : ClassId} {n am al : Nat} {on ot we : Nat → Nat} {th : Nat → Bool} {be ne cu : Nat → Nat} {nw : Bool} {pa br pc : Nat → Nat} {ap : Nat → Bool} {pn : Nat → Nat} {ls : Int32} {gr : Nat → Nat} {tl : Nat → Int32} {co : Nat → Nat} {fr to wt : Nat → Nat} {X : va_W}
set_option maxHeartbeats 4000000 in
set_option maxRecDepth 100000 in
theorem m_up {v : Nat} (hn : n ≤ 12) (hv : v < n) (hp : ∀ j, 1 ≤ j → j < n → pa j < j) : xMet l yX6_up wX6_up (rD 0) D vwCl (tyC cI cII cP cZ) nwC [.ref (bd 0), .int (nI v)] (mw bd cI cZ n am al on ot we th be ne cu nw pa br pc ap pn ls gr tl co ++ X) (mw bd cI cZ n am al on ot we th be ne cu nw pa br pc ap pn ls gr tl co ++ X) (some (.int (nI (kAn pa 12 v)))) := by
  refine xMet_of (cc := cX6_up) (maxL := 4) (ret := (some .int)) (by decide +kernel) rfl (Nat.le_of_ble_eq_true rfl) xfi ?_
  intro E S hnm hret
  show xW E D vwCl 4 0 0 _ [(0, .ref (bd 0)), (1, .int (nI v))] 0 []
  obtain ⟨rr, hrr⟩ : ∃ rr, kAn pa 12 v = rr := ⟨_, rfl⟩
  rw [hrr] at hret
  have L : ∀ a, ∀ s, a < n → s < 4096 → s.testBit a = true → s ||| kAn pa 12 a = rr → xW E D vwCl 4 0 0 (mw bd cI cZ n am al on ot we th be ne cu nw pa br pc ap pn ls gr tl co ++ X) [(0, .ref (bd 0)), (1, .int (nI v)), (2, .int (nI s)), (3, .int (nI a))] 6 [] := by
    refine pl_dn (fun a => a) (fun a ih => ?_)
    intro s ha hs hb he
    refine x_iload_n S dX6_up_6 3 rfl rfl ?_
    refine x_if_le (tgt := 26) S dX6_up_7 (by decide) (fun h1 => ?_) (fun h1 => ?_)
    · have h1 : a ≤ 0 := (nI_leI (b := 0) (by omega) (by omega)).mp h1
      have h2 : a = 0 := by omega
      rw [h2] at hb he
      have h3 : kAn pa 12 0 = 2 ^ 0 := rfl
      rw [h3, or_bit hb] at he
      refine x_iload_n S dX6_up_26 2 rfl rfl ?_
      exact x_ret hret (by rw [he]) dX6_up_27
    have h1 : 1 ≤ a := Nat.pos_of_ne_zero (fun q => h1 (by rw [q]; decide))
    have hpa := hp a h1 ha
    refine x_aload_n S dX6_up_10 0 rfl rfl ?_
    refine x_get S 0 11 rfl rfl inC6 (by decide) (gC _ tw476) rfl rfl dX6_up_11 ?_
    refine x_iload_n S dX6_up_14 3 rfl rfl ?_
    refine x_ialdN S 8 0 (a) rfl rfl rfl (by omega) (by decide) dX6_up_15 ?_
    refine x_istore_n (lv' := [(3, .int _), (0, .ref _), (1, .int _), (2, .int _)]) S dX6_up_16 rfl (by decide) rfl ?_
    refine x_iload_n S dX6_up_17 3 rfl rfl ?_
    refine x_iconst (v := 1) S dX6_up_18 rfl ?_
    refine x_iload_n S dX6_up_19 0 rfl rfl ?_
    refine x_ishl S dX6_up_20 ?_
    refine x_ior S dX6_up_21 ?_
    refine x_top (nI (s ||| 2 ^ pa a)) (by rw [pl_one (by omega), pl_or]) ?_
    refine x_istore_n (lv' := [(2, .int _), (3, .int _), (0, .ref _), (1, .int _)]) S dX6_up_22 rfl (by decide) rfl ?_
    refine x_goto (tgt := 6) S dX6_up_23 (by decide) ?_
    exact x_sub [2, 3, 0, 1] rfl (ih (pa a) hpa _ (by omega) (Nat.or_lt_two_pow (n := 12) hs (pl_pow (n := 12) (by omega))) (by rw [Nat.testBit_or, Nat.testBit_two_pow]; simp) (by rw [← he, kAn_s hn hp h1 ha, ← Nat.or_assoc s, or_bit hb, Nat.or_assoc, Nat.or_comm (2 ^ pa a), or_bit (kAn_top hp 12 (pa a))]))
  refine x_iconst (v := 1) S dX6_up_0 rfl ?_
  refine x_iload_n S dX6_up_1 1 rfl rfl ?_
  refine x_ishl S dX6_up_2 ?_
  refine x_top (nI (2 ^ v)) (pl_one (by omega)) ?_
  refine x_istore_n (lv' := [(2, .int _), (0, .ref _), (1, .int _)]) S dX6_up_3 rfl (by decide) rfl ?_
  refine x_iload_n S dX6_up_4 2 rfl rfl ?_
  refine x_istore_n (lv' := [(3, .int _), (2, .int _), (0, .ref _), (1, .int _)]) S dX6_up_5 rfl (by decide) rfl ?_
  exact x_sub [2, 3, 1, 0] rfl (L v (2 ^ v) hv (pl_pow (n := 12) (by omega)) (by rw [Nat.testBit_two_pow]; simp) (by rw [← hrr, Nat.or_comm, or_bit (kAn_top hp 12 v)]))
set_option maxHeartbeats 4000000 in
set_option maxRecDepth 100000 in
theorem q_way (a b : Int32) (h : MS) (hI : mInv n am al fr to wt h) : xMetS l yX6_way wX6_way (rD 16) D vwCl (tyC cI cII cP cZ) nwC [.ref (bd 0), .int a, .int b] (mwH bd cI cZ n am al h ++ X) (fun h' : MS => mInv n am al fr to wt h') (fun h' => mwH bd cI cZ n am al h' ++ X) (fun _ => some (.int (sWay n am fr to wt a b))) := by
  obtain ⟨on, ot, we, th, be, ne, cu, nw, pa, br, pc, ap, pn, ls, gr, tl, co⟩ := h
  obtain ⟨hA, hL, hal, hV, hPt⟩ := hI
  have hn := hA.1
  refine xMetS_of (cc := cX6_way) (maxL := 6) (ret := (some .int)) (by decide +kernel) rfl (Nat.le_of_ble_eq_true rfl) (fun _ _ => xfi) ?_
  intro E S hnm hret
  show xW E D vwCl 6 0 0 (mw bd cI cZ n am al on ot we th be ne cu nw pa br pc ap pn ls gr tl co ++ X) [(0, .ref (bd 0)), (1, .int a), (2, .int b)] 0 []
  refine x_aload_n S dX6_way_0 0 rfl rfl ?_
  refine x_iload_n S dX6_way_1 1 rfl rfl ?_
  refine x_iload_n S dX6_way_2 2 rfl rfl ?_
  refine x_cVi (n := 2) S (m_areTwo a b) (gGV gC tw542 tw539 tw541 ts15 tw7) rfl (by decide +kernel) 0 rfl rfl rfl rfl (Nat.le_of_ble_eq_true rfl) dX6_way_3 ⟨by decide, by decide⟩ ⟨Nat.le_of_ble_eq_true rfl, Nat.le_of_ble_eq_true rfl⟩ ?_
  refine x_if_neB (tgt := 11) S dX6_way_6 (by decide) (fun h1 => ?_) (fun h1 => ?_)
  rotate_left
  · refine x_iconst (v := -1) S dX6_way_9 rfl ?_
    exact x_retS hret ((on, ot, we, th, be, ne, cu, nw, pa, br, pc, ap, pn, ls, gr, tl, co)) (⟨hA, hL, hal, hV, hPt⟩) ((if_neg h1).symm) dX6_way_10
  obtain ⟨i, j, hi, hj, hij, rfl, rfl, f1, f2⟩ := isP2_of hn h1
  refine x_aload_n S dX6_way_11 0 rfl rfl ?_
  refine x_cVvS (n := 0) S (m_make hA hL hV) (gGV gC tw562 tw559 tw561 ts17 tw7) rfl (by decide +kernel) 0 rfl rfl rfl rfl (Nat.le_of_ble_eq_true rfl) dX6_way_12 ⟨by decide, by decide⟩ ⟨Nat.le_of_ble_eq_true rfl, Nat.le_of_ble_eq_true rfl⟩ (fun u hu => ?_)
  obtain ⟨q, hq⟩ : ∃ q, q = kPa (kC fr to wt am) n n := ⟨_, rfl⟩
  have hpl : ∀ k, 1 ≤ k → k < n → u.2.2.2.1 k < k := fun k h1 hk => by
    rw [hu.2.2.1 k hk]; exact kPa_lt (kC fr to wt am) n n k h1
  have hbl : ∀ k, 1 ≤ k → k < n → u.2.2.2.2.1 k ≤ 50000 := fun k h1 hk => by
    rw [hu.2.2.2 k h1 hk]; exact hA.cf _
  have hpl2 : ∀ k, k < n → u.2.2.2.1 k < n := fun k hk => by
    rw [hu.2.2.1 k hk]
    rcases Nat.eq_zero_or_pos k with e | e
    · rw [e, kPa_0]; omega
    · have := kPa_lt (kC fr to wt am) n n k e; omega
  have hx := Nat.xor_lt_two_pow (n := 12) (kAn_lt hn hpl hi) (kAn_lt hn hpl hj)
  have hwe := way_eq hn hpl hbl hi hj hij
  have L : ∀ k, k ≤ n → 1 ≤ k → xW E D vwCl 6 0 0 (mw bd cI cZ n am al on ot we th u.1 u.2.1 u.2.2.1 false u.2.2.2.1 u.2.2.2.2.1 pc ap pn u.2.2.2.2.2 gr tl co ++ X) [(0, .ref (bd 0)), (1, .int (nI i)), (2, .int (nI j)), (3, .int (nI (kAn u.2.2.2.1 12 i ^^^ kAn u.2.2.2.1 12 j))), (4, .int (nI (mnS u.2.2.2.2.1 (kAn u.2.2.2.1 12 i ^^^ kAn u.2.2.2.1 12 j) 1073741824 k))), (5, .int (nI k))] 34 [] := by
    refine pl_up n (fun k hk ih => ?_)
    intro hk1
    refine x_iload S dX6_way_34 5 rfl ?_
    refine x_aload_n S dX6_way_36 0 rfl rfl ?_
    refine x_get S 0 0 rfl rfl inC6 (by decide) (gC _ tw465) rfl rfl dX6_way_37 ?_
    refine x_icmp_ge (tgt := 80) S dX6_way_40 (by decide) (fun h2 => ?_) (fun h2 => ?_)
    · have hk2 : k = n := Nat.le_antisymm hk ((nI_leI (by omega) (by omega)).mp h2)
      refine x_iload S dX6_way_80 4 rfl ?_
      exact x_retS hret ((on, ot, we, th, u.1, u.2.1, u.2.2.1, false, u.2.2.2.1, u.2.2.2.2.1, pc, ap, pn, u.2.2.2.2.2, gr, tl, co)) (⟨hA, hL, hal, fun _ => hu, hPt⟩) ((by unfold sWay; rw [if_pos h1, f1, f2, hk2, hwe, kWy_congr hu.2.2.1 hu.2.2.2 hpl2 24 i j 2147483647 hi hj])) dX6_way_82
    have hk2 : k < n := Nat.lt_of_not_le (fun h => h2 (nI_le h (by omega)))
    have ih := ih hk2 (by omega)
    simp only [mnS] at ih
    have hmb := (mnS_isG u.2.2.2.2.1 (kAn u.2.2.2.1 12 i ^^^ kAn u.2.2.2.1 12 j) 1073741824 k).1
    have hbk := hbl k hk1 hk2
    refine x_iload_n S dX6_way_43 3 rfl rfl ?_
    refine x_iload S dX6_way_44 5 rfl ?_
    refine x_ishr S dX6_way_46 ?_
    refine x_iconst (v := 1) S dX6_way_47 rfl ?_
    refine x_iand S dX6_way_48 ?_
    refine x_iconst (v := 1) S dX6_way_49 rfl ?_
    refine x_icmp_ne (tgt := 74) S dX6_way_50 (by decide) (fun h3 => ?_) (fun h3 => ?_)
    · rw [if_neg (fun w => h3 ((pl_bit1 (by omega) (by omega)).mpr w.2.1))] at ih
      refine x_iincN (lv' := [(5, .int _), (0, .ref _), (1, .int _), (2, .int _), (3, .int _), (4, .int _)]) S dX6_way_74 5 rfl (by decide) rfl ?_
      refine x_goto (tgt := 34) S dX6_way_77 (by decide) ?_
      exact x_sub [1, 2, 3, 4, 5, 0] rfl (ih)
    have h3 := (pl_bit1 (by omega) (by omega)).mp h3
    refine x_aload_n S dX6_way_53 0 rfl rfl ?_
    refine x_get S 0 12 rfl rfl inC6 (by decide) (gC _ tw477) rfl rfl dX6_way_54 ?_
    refine x_iload S dX6_way_57 5 rfl ?_
    refine x_ialdN S 9 0 (k) rfl rfl rfl (by omega) (by decide) dX6_way_59 ?_
    refine x_iload S dX6_way_60 4 rfl ?_
    refine x_icmp_ge (tgt := 74) S dX6_way_62 (by decide) (fun h4 => ?_) (fun h4 => ?_)
    · rw [if_neg (fun w => nI_ge w.2.2 (by omega) h4)] at ih
      refine x_iincN (lv' := [(5, .int _), (0, .ref _), (1, .int _), (2, .int _), (3, .int _), (4, .int _)]) S dX6_way_74 5 rfl (by decide) rfl ?_
      refine x_goto (tgt := 34) S dX6_way_77 (by decide) ?_
      exact x_sub [1, 2, 3, 4, 5, 0] rfl (ih)
    rw [if_pos ⟨hk1, h3, Nat.lt_of_not_le (fun w => h4 (nI_le w (by omega)))⟩] at ih
    refine x_aload_n S dX6_way_65 0 rfl rfl ?_
    refine x_get S 0 12 rfl rfl inC6 (by decide) (gC _ tw477) rfl rfl dX6_way_66 ?_
    refine x_iload S dX6_way_69 5 rfl ?_
    refine x_ialdN S 9 0 (k) rfl rfl rfl (by omega) (by decide) dX6_way_71 ?_
    refine x_istore (lv' := [(4, .int _), (0, .ref _), (1, .int _), (2, .int _), (3, .int _), (5, .int _)]) S dX6_way_72 (by decide) rfl ?_
    refine x_iincN (lv' := [(5, .int _), (4, .int _), (0, .ref _), (1, .int _), (2, .int _), (3, .int _)]) S dX6_way_74 5 rfl (by decide) rfl ?_
    refine x_goto (tgt := 34) S dX6_way_77 (by decide) ?_
    exact x_sub [2, 3, 4, 5, 1, 0] rfl (ih)
  refine x_aload_n S dX6_way_15 0 rfl rfl ?_
  refine x_iload_n S dX6_way_16 1 rfl rfl ?_
  refine x_cVi (n := 1) S (m_up hn hi hpl) (gGV gC tw598 tw595 tw597 ts21 tw7) rfl (by decide +kernel) 0 rfl rfl rfl rfl (Nat.le_of_ble_eq_true rfl) dX6_way_17 ⟨by decide, by decide⟩ ⟨Nat.le_of_ble_eq_true rfl, Nat.le_of_ble_eq_true rfl⟩ ?_
  refine x_aload_n S dX6_way_20 0 rfl rfl ?_
  refine x_iload_n S dX6_way_21 2 rfl rfl ?_
  refine x_cVi (n := 1) S (m_up hn hj hpl) (gGV gC tw598 tw595 tw597 ts21 tw7) rfl (by decide +kernel) 0 rfl rfl rfl rfl (Nat.le_of_ble_eq_true rfl) dX6_way_22 ⟨by decide, by decide⟩ ⟨Nat.le_of_ble_eq_true rfl, Nat.le_of_ble_eq_true rfl⟩ ?_
  refine x_ixor S dX6_way_25 ?_
  refine x_top (nI (kAn u.2.2.2.1 12 i ^^^ kAn u.2.2.2.1 12 j)) (pl_xor _ _) ?_
  refine x_istore_n (lv' := [(3, .int _), (0, .ref _), (1, .int _), (2, .int _)]) S dX6_way_26 rfl (by decide) rfl ?_
  refine x_ldc S (gC _ tw599) dX6_way_27 ?_
  refine x_istore (lv' := [(4, .int _), (3, .int _), (0, .ref _), (1, .int _), (2, .int _)]) S dX6_way_29 (by decide) rfl ?_
  refine x_iconst (v := 1) S dX6_way_31 rfl ?_
  refine x_istore (lv' := [(5, .int _), (4, .int _), (3, .int _), (0, .ref _), (1, .int _), (2, .int _)]) S dX6_way_32 (by decide) rfl ?_
  have hL1 := L 1 (by omega) (Nat.le_refl _)
  have e1 : mnS u.2.2.2.2.1 (kAn u.2.2.2.1 12 i ^^^ kAn u.2.2.2.1 12 j) 1073741824 1 = 1073741824 := by
    simp [mnS]
  rw [e1] at hL1
  exact x_sub [3, 4, 5, 2, 1, 0] rfl (hL1)
end M6
