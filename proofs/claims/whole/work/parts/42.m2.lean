/-! the reference: contracts, 2 -/
section M2
def bOK (am : Nat) (fr to wt be ne : Nat → Nat) : Prop := (∀ a b, a < 12 → b < 12 → be (12 * a + b) = kM fr to wt am a b) ∧ ∀ a, a < 12 → ne a = kNb fr to wt am a
def aRel (am : Nat) (on ot we : Nat → Nat) (th : Nat → Bool) (fr to wt : Nat → Nat) : Prop := ∀ i, i < am → on i = fr i ∧ ot i = to i ∧ ((th i = true ∧ we i = wt i ∧ 0 < wt i) ∨ (th i = false ∧ wt i = 0))
theorem kM_succ (fr to wt : Nat → Nat) (k a b : Nat) : kM fr to wt (k + 1) a b = kM fr to wt k a b + if (fr k = a ∧ to k = b) ∨ (fr k = b ∧ to k = a) then wt k else 0 := rfl
theorem bOK_0 {fr to wt be ne : Nat → Nat} (h1 : ∀ i, i < 144 → be i = 0) (h2 : ∀ i, i < 12 → ne i = 0) : bOK 0 fr to wt be ne := ⟨fun a b ha hb => by rw [h1 _ (by omega)]; rfl, fun a ha => by rw [h2 a ha, kNb_0]⟩
theorem bOK_skip {fr to wt be ne : Nat → Nat} {k : Nat} (h : bOK k fr to wt be ne) (hw : wt k = 0) : bOK (k + 1) fr to wt be ne := by
  have e : ∀ a b, kM fr to wt (k + 1) a b = kM fr to wt k a b := fun a b => by rw [kM_succ, hw]; split <;> rfl
  refine ⟨fun a b ha hb => by rw [e]; exact h.1 a b ha hb, fun a ha => ?_⟩
  rw [h.2 a ha]
  exact nb_eq (kNb_lt _ _ _ _ _) (kNb_lt _ _ _ _ _) (fun b hb => by rw [kNb_t _ _ _ _ _ _ hb, kNb_t _ _ _ _ _ _ hb, e])
theorem bOK_add {fr to wt be ne be' ne' : Nat → Nat} {k o t : Nat} (h : bOK k fr to wt be ne) (ho : fr k = o) (ht : to k = t) (ho12 : o < 12) (ht12 : t < 12) (hot : o ≠ t) (hw : 0 < wt k)
    (hbe : be' = va_up (va_up be (12 * o + t) (be (12 * o + t) + wt k)) (12 * t + o) ((va_up be (12 * o + t) (be (12 * o + t) + wt k)) (12 * t + o) + wt k))
    (hne : ne' = va_up (va_up ne o (ne o ||| 2 ^ t)) t ((va_up ne o (ne o ||| 2 ^ t)) t ||| 2 ^ o)) : bOK (k + 1) fr to wt be' ne' := by
  have e0 : (va_up be (12 * o + t) (be (12 * o + t) + wt k)) (12 * t + o) = be (12 * t + o) := va_up_ne _ _ (by omega)
  have m1 : kM fr to wt (k + 1) o t = kM fr to wt k o t + wt k := by rw [kM_succ, if_pos (Or.inl ⟨ho, ht⟩)]
  have m2 : kM fr to wt (k + 1) t o = kM fr to wt k t o + wt k := by rw [kM_succ, if_pos (Or.inr ⟨ho, ht⟩)]
  have m3 : ∀ x y, ¬ ((x = o ∧ y = t) ∨ (x = t ∧ y = o)) → kM fr to wt (k + 1) x y = kM fr to wt k x y := fun x y q => by
    rw [kM_succ, if_neg (fun z => q (z.elim (fun z => Or.inl ⟨z.1.symm.trans ho, z.2.symm.trans ht⟩) (fun z => Or.inr ⟨z.2.symm.trans ht, z.1.symm.trans ho⟩))), Nat.add_zero]
  refine ⟨fun a b ha hb => ?_, ?_⟩
  · rw [hbe, e0]
    by_cases c1 : a = t ∧ b = o
    · obtain ⟨rfl, rfl⟩ := c1
      rw [va_up_self, m2, h.1 _ _ ha hb]
    · rw [va_up_ne _ _ (fun q => c1 (by omega))]
      by_cases c2 : a = o ∧ b = t
      · obtain ⟨rfl, rfl⟩ := c2
        rw [va_up_self, m1, h.1 _ _ ha hb]
      · rw [va_up_ne _ _ (fun q => c2 (by omega)), h.1 a b ha hb, m3 a b (fun q => q.elim c2 c1)]
  · have hmn := mn_upd (am := k) (am' := k + 1) (fr := fr) (to := to) (wt := wt) (fr' := fr) (to' := to) (wt' := wt) (nb := ne) (M := fun x y => kM fr to wt k x y) (a := o) (b := t) (fun _ _ _ _ => rfl) h.2 ho12 ht12 hot rfl rfl m3
    have e1 : decide (0 < kM fr to wt (k + 1) o t) = true := decide_eq_true (by omega)
    rw [e1] at hmn
    rw [hne]
    exact hmn.2
theorem st_out (A B x : Nat) : nI A - nI B + nI x = nI (A + x) - nI B := by
  rw [← nI_add, Int32.sub_eq_add_neg, Int32.sub_eq_add_neg, Int32.add_assoc, Int32.add_comm (-nI B), ← Int32.add_assoc]
theorem st_in (A B x : Nat) : nI A - nI B + -nI x = nI A - nI (B + x) := by
  rw [← nI_add, Int32.sub_eq_add_neg, Int32.sub_eq_add_neg, Int32.add_assoc, Int32.neg_add, Int32.sub_eq_add_neg]
theorem di_or {s v : Nat} (h : s.testBit v = true) : pl_di s (2 ^ v) ||| 2 ^ v = s := by
  apply Nat.eq_of_testBit_eq
  intro i
  rw [Nat.testBit_or, pl_di_t, Nat.testBit_two_pow]
  by_cases e : v = i
  · subst e; simp [h]
  · simp [e]
theorem di_bit (s v : Nat) : (pl_di s (2 ^ v)).testBit v = false := by
  rw [pl_di_t, Nat.testBit_two_pow]; simp
variable {l : Launch} {D : va_G} {bd : Nat → Nat} {cI cII cP cZ : ClassId} {n am al : Nat} {on ot we : Nat → Nat} {th : Nat → Bool} {be ne cu : Nat → Nat} {nw : Bool} {pa br pc : Nat → Nat} {ap : Nat → Bool} {pn : Nat → Nat} {ls : Int32} {gr : Nat → Nat} {tl : Nat → Int32} {co : Nat → Nat} {fr to wt : Nat → Nat} {X : va_W}
set_option maxHeartbeats 4000000 in
set_option maxRecDepth 100000 in
theorem m_tree0 (h0 : n = 0) : xMet l yX6_tree wX6_tree (rD 2) D vwCl (tyC cI cII cP cZ) nwC [.ref (bd 0)] (mw bd cI cZ n am al on ot we th be ne cu nw pa br pc ap pn ls gr tl co ++ X) (mw bd cI cZ n am al on ot we th be ne cu nw pa br pc ap pn ls gr tl co ++ X) none := by
  refine xMet_of (cc := cX6_tree) (maxL := 5) (ret := none) (by decide +kernel) rfl (Nat.le_of_ble_eq_true rfl) xfv ?_
  intro E S hnm hret
  show xW E D vwCl 5 0 0 _ [(0, .ref (bd 0))] 0 []
  subst h0
  refine x_iconst (v := 0) S dX6_tree_0 rfl ?_
  refine x_istore_n (lv' := [(1, .int _), (0, .ref _)]) S dX6_tree_1 rfl (by decide) rfl ?_
  refine x_iload_n S dX6_tree_2 0 rfl rfl ?_
  refine x_aload_n S dX6_tree_3 1 rfl rfl ?_
  refine x_get S 0 0 rfl rfl inC6 (by decide) (gC _ tw465) rfl rfl dX6_tree_4 ?_
  refine x_icmp_ge (tgt := 23) S dX6_tree_7 (by decide) (fun h3 => ?_) (fun h3 => ?_)
  · refine x_iconst (v := 1) S dX6_tree_23 rfl ?_
    refine x_istore_n (lv' := [(1, .int _), (0, .ref _)]) S dX6_tree_24 rfl (by decide) rfl ?_
    refine x_iload_n S dX6_tree_25 0 rfl rfl ?_
    refine x_aload_n S dX6_tree_26 1 rfl rfl ?_
    refine x_get S 0 0 rfl rfl inC6 (by decide) (gC _ tw465) rfl rfl dX6_tree_27 ?_
    refine x_icmp_ge (tgt := 112) S dX6_tree_30 (by decide) (fun h4 => ?_) (fun h4 => ?_)
    · exact hret _ _ dX6_tree_112
    exact absurd (by decide) h4
  exact absurd (by decide) h3
set_option maxHeartbeats 4000000 in
set_option maxRecDepth 100000 in
theorem m_make (hA : aOK n am fr to wt) (hL : aRel am on ot we th fr to wt) (hV : nw = false → bOK am fr to wt be ne ∧ vOK n am fr to wt cu ∧ trOK n am fr to wt pa br) : xMetS l yX6_make wX6_make (rD 3) D vwCl (tyC cI cII cP cZ) nwC [.ref (bd 0)] (mw bd cI cZ n am al on ot we th be ne cu nw pa br pc ap pn ls gr tl co ++ X) (fun u : (Nat → Nat) × (Nat → Nat) × (Nat → Nat) × (Nat → Nat) × (Nat → Nat) × Int32 => bOK am fr to wt u.1 u.2.1 ∧ vOK n am fr to wt u.2.2.1 ∧ trOK n am fr to wt u.2.2.2.1 u.2.2.2.2.1) (fun u => (mw bd cI cZ n am al on ot we th u.1 u.2.1 u.2.2.1 false u.2.2.2.1 u.2.2.2.2.1 pc ap pn u.2.2.2.2.2 gr tl co ++ X)) (fun _ => none) := by
  refine xMetS_of (cc := cX6_make) (maxL := 6) (ret := none) (by decide +kernel) rfl (Nat.le_of_ble_eq_true rfl) (fun _ _ => xfv) ?_
  intro E S hnm hret
  show xW E D vwCl 6 0 0 _ [(0, .ref (bd 0))] 0 []
  have hn := hA.1
  have ham := hA.2.1
  have hpn := pl_pow12 hn
  have hp0 := Nat.two_pow_pos n
  have hK : ∀ b e : Nat → Nat, bOK am fr to wt b e → ∀ s, s ≤ 2 ^ n → 1 ≤ s → ∀ c : Nat → Nat, (∀ p, p < s → c p = kC fr to wt am p) → xW E D vwCl 6 0 0 (mw bd cI cZ n am al on ot we th b e c false pa br pc ap pn ls gr tl co ++ X) [(0, .ref (bd 0)), (1, .int (nI s))] 194 [] := by
    intro b e hB
    refine pl_up (2 ^ n) (fun s hs ih => ?_)
    intro hs1 c hc
    refine x_iload_n S dX6_make_194 1 rfl rfl ?_
    refine x_aload_n S dX6_make_195 0 rfl rfl ?_
    refine x_cVi (n := 0) S (m_all hn) (gGV gC tw558 tw555 tw557 ts16 tw7) rfl (by decide +kernel) 0 rfl rfl rfl rfl (Nat.le_of_ble_eq_true rfl) dX6_make_196 ⟨by decide, by decide⟩ ⟨Nat.le_of_ble_eq_true rfl, Nat.le_of_ble_eq_true rfl⟩ ?_
    refine x_icmp_gt (tgt := 309) S dX6_make_199 (by decide) (fun h1 => ?_) (fun h1 => ?_)
    · have hs2 : s = 2 ^ n := by have := (nI_ltI (by omega) (by omega)).mp h1; omega
      subst hs2
      refine x_aload_n S dX6_make_309 0 rfl rfl ?_
      rcases Nat.eq_zero_or_pos n with hz | hz
      · refine x_cVv (n := 0) S (m_tree0 hz) (gGV gC tw566 tw563 tw565 ts18 tw7) rfl (by decide +kernel) 0 rfl rfl rfl rfl (Nat.le_of_ble_eq_true rfl) dX6_make_310 ⟨by decide, by decide⟩ ⟨Nat.le_of_ble_eq_true rfl, Nat.le_of_ble_eq_true rfl⟩ ?_
        exact hret ((b, e, c, pa, br, ls)) _ _ ⟨hB, hc, fun j hj => absurd hj (by omega), fun j _ hj => absurd hj (by omega)⟩ dX6_make_313
      refine x_cVvS (n := 0) S (m_tree hz hA hc) (gGV gC tw566 tw563 tw565 ts18 tw7) rfl (by decide +kernel) 0 rfl rfl rfl rfl (Nat.le_of_ble_eq_true rfl) dX6_make_310 ⟨by decide, by decide⟩ ⟨Nat.le_of_ble_eq_true rfl, Nat.le_of_ble_eq_true rfl⟩ (fun u hu => ?_)
      exact hret ((b, e, c, u.1, u.2.1, u.2.2)) _ _ ⟨hB, hc, hu⟩ dX6_make_313
    have hs2 : s < 2 ^ n := by have := Nat.le_of_not_lt (fun q => h1 (nI_lt q (by omega))); omega
    have ih := ih hs2 (by omega)
    obtain ⟨v, hv, hvl⟩ := pk_least (fun v => s.testBit v = true) (Classical.byContradiction (fun q => by
      have : s = 0 := Nat.eq_of_testBit_eq (fun i => by rw [Nat.zero_testBit]; exact Bool.eq_false_iff.mpr (fun w => q ⟨i, w⟩))
      omega))
    have hvn : v < n := t_lt hs2 hv
    obtain ⟨r, hr⟩ : ∃ r, r = pl_di s (2 ^ v) := ⟨_, rfl⟩
    have hrv : r.testBit v = false := by rw [hr]; exact di_bit s v
    have hrs : r ||| 2 ^ v = s := by rw [hr]; exact di_or hv
    have hrl : r < s := by
      have := or_add v r hrv
      have := Nat.two_pow_pos v
      omega
    have hM : ∀ u, u < 12 → b (12 * v + u) = kM fr to wt am v u := fun u hu => hB.1 v u (by omega) hu
    have hstep := kC_step (fr := fr) (to := to) (wt := wt) (k := am) (n := n) (v := v) (S := r) hA.st hrv
    rw [hrs] at hstep
    have hsum : ∀ u, sm (fun u => kM fr to wt am v u) u = sm (fun u => if r.testBit u = true then 0 else kM fr to wt am v u) u + sm (fun u => if r.testBit u = true then kM fr to wt am v u else 0) u := fun u => by
      rw [← sm_add]
      exact sm_congr (fun i _ => by split <;> simp)
    rw [hsum n] at hstep
    have L2 : ∀ u, u ≤ n → xW E D vwCl 6 0 0 (mw bd cI cZ n am al on ot we th b e c false pa br pc ap pn ls gr tl co ++ X) [(0, .ref (bd 0)), (1, .int (nI s)), (2, .int (nI v)), (3, .int (nI r)), (4, .int (nI (kC fr to wt am r + sm (fun u => if r.testBit u = true then 0 else kM fr to wt am v u) u) - nI (sm (fun u => if r.testBit u = true then kM fr to wt am v u else 0) u))), (5, .int (nI u))] 237 [] := by
      refine pl_up n (fun u hu ih2 => ?_)
      refine x_iload S dX6_make_237 5 rfl ?_
      refine x_aload_n S dX6_make_239 0 rfl rfl ?_
      refine x_get S 0 0 rfl rfl inC6 (by decide) (gC _ tw465) rfl rfl dX6_make_240 ?_
      refine x_icmp_ge (tgt := 295) S dX6_make_243 (by decide) (fun h2 => ?_) (fun h2 => ?_)
      · have hu2 : u = n := Nat.le_antisymm hu ((nI_leI (by omega) (by omega)).mp h2)
        rw [hu2]
        refine x_aload_n S dX6_make_295 0 rfl rfl ?_
        refine x_get S 0 9 rfl rfl inC6 (by decide) (gC _ tw474) rfl rfl dX6_make_296 ?_
        refine x_iload_n S dX6_make_299 1 rfl rfl ?_
        refine x_iload S dX6_make_300 4 rfl ?_
        refine x_iastN (ws' := (mw bd cI cZ n am al on ot we th b e (va_up c s (kC fr to wt am s)) false pa br pc ap pn ls gr tl co ++ X)) (z := kC fr to wt am s) S 7 0 (s) rfl rfl rfl (by omega) (by decide) (by rw [pk_sub (by omega)]; congr 1; omega) dX6_make_302 rfl ?_
        refine x_iincN (lv' := [(1, .int _), (0, .ref _), (2, .int _), (3, .int _), (4, .int _), (5, .int _)]) S dX6_make_303 1 rfl (by decide) rfl ?_
        refine x_goto (tgt := 194) S dX6_make_306 (by decide) ?_
        exact x_sub [1, 0] rfl (ih _ (fun p hp => (Nat.lt_or_ge p s).elim (fun q => by rw [va_up_ne _ _ (by omega)]; exact hc p q) (fun q => by rw [show p = s by omega, va_up_self])))
      have hu2 : u < n := Nat.lt_of_not_le (fun q => h2 (nI_le q (by omega)))
      have ih2 := ih2 hu2
      simp only [sm] at ih2
      refine x_iload S dX6_make_246 4 rfl ?_
      refine x_iload_n S dX6_make_248 3 rfl rfl ?_
      refine x_iload S dX6_make_249 5 rfl ?_
      refine x_ishr S dX6_make_251 ?_
      refine x_iconst (v := 1) S dX6_make_252 rfl ?_
      refine x_iand S dX6_make_253 ?_
      refine x_iconst (v := 1) S dX6_make_254 rfl ?_
      refine x_icmp_ne (tgt := 274) S dX6_make_255 (by decide) (fun h3 => ?_) (fun h3 => ?_)
      · rw [if_neg (c := r.testBit u = true) (fun q => h3 ((pl_bit1 (by omega) (by omega)).mpr q)), if_neg (c := r.testBit u = true) (fun q => h3 ((pl_bit1 (by omega) (by omega)).mpr q)), ← Nat.add_assoc, Nat.add_zero] at ih2
        refine x_aload_n S dX6_make_274 0 rfl rfl ?_
        refine x_get S 0 7 rfl rfl inC6 (by decide) (gC _ tw472) rfl rfl dX6_make_275 ?_
        refine x_bipush (v := 12) S dX6_make_278 (by decide) ?_
        refine x_iload_n S dX6_make_280 2 rfl rfl ?_
        refine x_imul S dX6_make_281 ?_
        refine x_iload S dX6_make_282 5 rfl ?_
        refine x_iadd S dX6_make_284 ?_
        refine x_top (nI (12 * v + u)) (by rw [show (12 : Int32) = nI 12 from rfl, pk_mul, nI_add]) ?_
        refine x_ialdN S 5 0 (12 * v + u) rfl rfl rfl (by omega) (by decide) dX6_make_285 ?_
        rw [hM u (by omega)]
        refine x_iadd S dX6_make_286 ?_
        rw [st_out]
        refine x_istore (lv' := [(4, .int _), (0, .ref _), (1, .int _), (2, .int _), (3, .int _), (5, .int _)]) S dX6_make_287 (by decide) rfl ?_
        refine x_iincN (lv' := [(5, .int _), (4, .int _), (0, .ref _), (1, .int _), (2, .int _), (3, .int _)]) S dX6_make_289 5 rfl (by decide) rfl ?_
        refine x_goto (tgt := 237) S dX6_make_292 (by decide) ?_
        exact x_sub [2, 3, 4, 5, 1, 0] rfl (ih2)
      rw [if_pos (c := r.testBit u = true) ((pl_bit1 (by omega) (by omega)).mp h3), if_pos (c := r.testBit u = true) ((pl_bit1 (by omega) (by omega)).mp h3), Nat.add_zero] at ih2
      refine x_aload_n S dX6_make_258 0 rfl rfl ?_
      refine x_get S 0 7 rfl rfl inC6 (by decide) (gC _ tw472) rfl rfl dX6_make_259 ?_
      refine x_bipush (v := 12) S dX6_make_262 (by decide) ?_
      refine x_iload_n S dX6_make_264 2 rfl rfl ?_
      refine x_imul S dX6_make_265 ?_
      refine x_iload S dX6_make_266 5 rfl ?_
      refine x_iadd S dX6_make_268 ?_
      refine x_top (nI (12 * v + u)) (by rw [show (12 : Int32) = nI 12 from rfl, pk_mul, nI_add]) ?_
      refine x_ialdN S 5 0 (12 * v + u) rfl rfl rfl (by omega) (by decide) dX6_make_269 ?_
      rw [hM u (by omega)]
      refine x_ineg S dX6_make_270 ?_
      refine x_goto (tgt := 286) S dX6_make_271 (by decide) ?_
      refine x_iadd S dX6_make_286 ?_
      rw [st_in]
      refine x_istore (lv' := [(4, .int _), (0, .ref _), (1, .int _), (2, .int _), (3, .int _), (5, .int _)]) S dX6_make_287 (by decide) rfl ?_
      refine x_iincN (lv' := [(5, .int _), (4, .int _), (0, .ref _), (1, .int _), (2, .int _), (3, .int _)]) S dX6_make_289 5 rfl (by decide) rfl ?_
      refine x_goto (tgt := 237) S dX6_make_292 (by decide) ?_
      exact x_sub [2, 3, 4, 5, 1, 0] rfl (ih2)
    have L1 : ∀ w, w ≤ v → xW E D vwCl 6 0 0 (mw bd cI cZ n am al on ot we th b e c false pa br pc ap pn ls gr tl co ++ X) [(0, .ref (bd 0)), (1, .int (nI s)), (2, .int (nI w))] 204 [] := by
      refine pl_up v (fun w hw ih1 => ?_)
      refine x_iload_n S dX6_make_204 1 rfl rfl ?_
      refine x_iload_n S dX6_make_205 2 rfl rfl ?_
      refine x_ishr S dX6_make_206 ?_
      refine x_iconst (v := 1) S dX6_make_207 rfl ?_
      refine x_iand S dX6_make_208 ?_
      refine x_if_ne (tgt := 218) S dX6_make_209 (by decide) (fun h2 => ?_) (fun h2 => ?_)
      rotate_left
      · have h2 := (pl_bit0 (by omega) (by omega)).mp h2
        have hw2 : w < v := by
          rcases Nat.lt_or_ge w v with q | q
          · exact q
          · rw [show w = v by omega, hv] at h2; cases h2
        refine x_iincN (lv' := [(2, .int _), (0, .ref _), (1, .int _)]) S dX6_make_212 2 rfl (by decide) rfl ?_
        refine x_goto (tgt := 204) S dX6_make_215 (by decide) ?_
        exact x_sub [1, 2, 0] rfl (ih1 hw2)
      have hw2 : w = v := by
        rcases Nat.lt_or_ge w v with q | q
        · exact absurd ((pl_bit0 (by omega) (by omega)).mpr (Bool.eq_false_iff.mpr (hvl w q))) h2
        · omega
      subst hw2
      refine x_iload_n S dX6_make_218 1 rfl rfl ?_
      refine x_iconst (v := 1) S dX6_make_219 rfl ?_
      refine x_iload_n S dX6_make_220 2 rfl rfl ?_
      refine x_ishl S dX6_make_221 ?_
      refine x_iconst (v := -1) S dX6_make_222 rfl ?_
      refine x_ixor S dX6_make_223 ?_
      refine x_iand S dX6_make_224 ?_
      refine x_top (nI r) (by rw [pl_one (by omega), pl_di_I, hr]) ?_
      refine x_istore_n (lv' := [(3, .int _), (0, .ref _), (1, .int _), (2, .int _)]) S dX6_make_225 rfl (by decide) rfl ?_
      refine x_aload_n S dX6_make_226 1 rfl rfl ?_
      refine x_get S 0 9 rfl rfl inC6 (by decide) (gC _ tw474) rfl rfl dX6_make_227 ?_
      refine x_iload_n S dX6_make_230 0 rfl rfl ?_
      refine x_ialdN S 7 0 (r) rfl rfl rfl (by omega) (by decide) dX6_make_231 ?_
      rw [hc r hrl]
      refine x_istore (lv' := [(4, .int _), (3, .int _), (0, .ref _), (1, .int _), (2, .int _)]) S dX6_make_232 (by decide) rfl ?_
      refine x_iconst (v := 0) S dX6_make_234 rfl ?_
      refine x_istore (lv' := [(5, .int _), (4, .int _), (3, .int _), (0, .ref _), (1, .int _), (2, .int _)]) S dX6_make_235 (by decide) rfl ?_
      have hL2 := L2 0 (Nat.zero_le _)
      simp only [sm] at hL2
      rw [Nat.add_zero, show nI 0 = 0 from rfl, Int32.sub_zero] at hL2
      exact x_sub [3, 4, 5, 2, 1, 0] rfl (hL2)
    refine x_iconst (v := 0) S dX6_make_202 rfl ?_
    refine x_istore_n (lv' := [(2, .int _), (0, .ref _), (1, .int _)]) S dX6_make_203 rfl (by decide) rfl ?_
    exact x_sub [1, 2, 0] rfl (L1 0 (Nat.zero_le _))
  have hJ : ∀ k, k ≤ am → ∀ b e : Nat → Nat, bOK k fr to wt b e → xW E D vwCl 6 0 0 (mw bd cI cZ n am al on ot we th b e cu false pa br pc ap pn ls gr tl co ++ X) [(0, .ref (bd 0)), (1, .int (nI k))] 58 [] := by
    refine pl_up am (fun k hk ih => ?_)
    intro b e hB
    refine x_iload_n S dX6_make_58 1 rfl rfl ?_
    refine x_aload_n S dX6_make_59 0 rfl rfl ?_
    refine x_get S 0 1 rfl rfl inC6 (by decide) (gC _ tw466) rfl rfl dX6_make_60 ?_
    refine x_icmp_ge (tgt := 185) S dX6_make_63 (by decide) (fun h1 => ?_) (fun h1 => ?_)
    · have hk2 : k = am := Nat.le_antisymm hk ((nI_leI (by omega) (by omega)).mp h1)
      rw [hk2] at hB
      refine x_aload_n S dX6_make_185 0 rfl rfl ?_
      refine x_get S 0 9 rfl rfl inC6 (by decide) (gC _ tw474) rfl rfl dX6_make_186 ?_
      refine x_iconst (v := 0) S dX6_make_189 rfl ?_
      refine x_iconst (v := 0) S dX6_make_190 rfl ?_
      refine x_iastN (ws' := (mw bd cI cZ n am al on ot we th b e (va_up cu 0 0) false pa br pc ap pn ls gr tl co ++ X)) (z := 0) S 7 0 (0) rfl rfl rfl (by omega) (by decide) rfl dX6_make_191 rfl ?_
      refine x_iconst (v := 1) S dX6_make_192 rfl ?_
      refine x_istore_n (lv' := [(1, .int _), (0, .ref _)]) S dX6_make_193 rfl (by decide) rfl ?_
      exact x_sub [1, 0] rfl (hK b e hB 1 (by omega) (Nat.le_refl _) _ (fun p hp => by rw [show p = 0 by omega, va_up_self, kC_0]))
    have hk2 : k < am := Nat.lt_of_not_le (fun q => h1 (nI_le q (by omega)))
    have ih := ih hk2
    obtain ⟨l1, l2, l3⟩ := hL k hk2
    obtain ⟨f1, f2, f3, f4⟩ := hA.2.2 k hk2
    refine x_aload_n S dX6_make_66 0 rfl rfl ?_
    refine x_get S 0 6 rfl rfl inC6 (by decide) (gC _ tw471) rfl rfl dX6_make_67 ?_
    refine x_iload_n S dX6_make_70 1 rfl rfl ?_
    refine x_zaldB S 4 3 (k) rfl rfl rfl (by omega) (by decide) dX6_make_71 ?_
    refine x_if_eqB (tgt := 179) S dX6_make_72 (by decide) (fun h2 => ?_) (fun h2 => ?_)
    · rcases l3 with q | q
      · exact absurd q.1 h2
      refine x_iincN (lv' := [(1, .int _), (0, .ref _)]) S dX6_make_179 1 rfl (by decide) rfl ?_
      refine x_goto (tgt := 58) S dX6_make_182 (by decide) ?_
      exact x_sub [1, 0] rfl (ih b e (bOK_skip hB q.2))
    rcases l3 with ⟨q1, q2, q3⟩ | q
    case inr => rw [q.1] at h2; cases h2
    obtain ⟨o, ho⟩ : ∃ o, fr k = o := ⟨_, rfl⟩
    obtain ⟨t, ht⟩ : ∃ t, to k = t := ⟨_, rfl⟩
    rw [ho] at l1 f1 f3
    rw [ht] at l2 f2 f3
    refine x_aload_n S dX6_make_75 0 rfl rfl ?_
    refine x_get S 0 7 rfl rfl inC6 (by decide) (gC _ tw472) rfl rfl dX6_make_76 ?_
    refine x_bipush (v := 12) S dX6_make_79 (by decide) ?_
    refine x_aload_n S dX6_make_81 0 rfl rfl ?_
    refine x_get S 0 3 rfl rfl inC6 (by decide) (gC _ tw468) rfl rfl dX6_make_82 ?_
    refine x_iload_n S dX6_make_85 1 rfl rfl ?_
    refine x_ialdN S 1 0 (k) rfl rfl rfl (by omega) (by decide) dX6_make_86 ?_
    rw [l1]
    refine x_imul S dX6_make_87 ?_
    refine x_aload_n S dX6_make_88 0 rfl rfl ?_
    refine x_get S 0 4 rfl rfl inC6 (by decide) (gC _ tw469) rfl rfl dX6_make_89 ?_
    refine x_iload_n S dX6_make_92 1 rfl rfl ?_
    refine x_ialdN S 2 0 (k) rfl rfl rfl (by omega) (by decide) dX6_make_93 ?_
    rw [l2]
    refine x_iadd S dX6_make_94 ?_
    refine x_top (nI (12 * o + t)) (by rw [show (12 : Int32) = nI 12 from rfl, pk_mul, nI_add]) ?_
    refine x_dup2 S dX6_make_95 rfl rfl ?_
    refine x_ialdN S 5 0 (12 * o + t) rfl rfl rfl (by omega) (by decide) dX6_make_96 ?_
    refine x_aload_n S dX6_make_97 0 rfl rfl ?_
    refine x_get S 0 5 rfl rfl inC6 (by decide) (gC _ tw470) rfl rfl dX6_make_98 ?_
    refine x_iload_n S dX6_make_101 1 rfl rfl ?_
    refine x_ialdN S 3 0 (k) rfl rfl rfl (by omega) (by decide) dX6_make_102 ?_
    rw [q2]
    refine x_iadd S dX6_make_103 ?_
    refine x_iastN (ws' := (mw bd cI cZ n am al on ot we th (va_up b (12 * o + t) (b (12 * o + t) + wt k)) e cu false pa br pc ap pn ls gr tl co ++ X)) (z := b (12 * o + t) + wt k) S 5 0 (12 * o + t) rfl rfl rfl (by omega) (by decide) (nI_add _ _) dX6_make_104 rfl ?_
    refine x_aload_n S dX6_make_105 0 rfl rfl ?_
    refine x_get S 0 7 rfl rfl inC6 (by decide) (gC _ tw472) rfl rfl dX6_make_106 ?_
    refine x_bipush (v := 12) S dX6_make_109 (by decide) ?_
    refine x_aload_n S dX6_make_111 0 rfl rfl ?_
    refine x_get S 0 4 rfl rfl inC6 (by decide) (gC _ tw469) rfl rfl dX6_make_112 ?_
    refine x_iload_n S dX6_make_115 1 rfl rfl ?_
    refine x_ialdN S 2 0 (k) rfl rfl rfl (by omega) (by decide) dX6_make_116 ?_
    rw [l2]
    refine x_imul S dX6_make_117 ?_
    refine x_aload_n S dX6_make_118 0 rfl rfl ?_
    refine x_get S 0 3 rfl rfl inC6 (by decide) (gC _ tw468) rfl rfl dX6_make_119 ?_
    refine x_iload_n S dX6_make_122 1 rfl rfl ?_
    refine x_ialdN S 1 0 (k) rfl rfl rfl (by omega) (by decide) dX6_make_123 ?_
    rw [l1]
    refine x_iadd S dX6_make_124 ?_
    refine x_top (nI (12 * t + o)) (by rw [show (12 : Int32) = nI 12 from rfl, pk_mul, nI_add]) ?_
    refine x_dup2 S dX6_make_125 rfl rfl ?_
    refine x_ialdN S 5 0 (12 * t + o) rfl rfl rfl (by omega) (by decide) dX6_make_126 ?_
    refine x_aload_n S dX6_make_127 0 rfl rfl ?_
    refine x_get S 0 5 rfl rfl inC6 (by decide) (gC _ tw470) rfl rfl dX6_make_128 ?_
    refine x_iload_n S dX6_make_131 1 rfl rfl ?_
    refine x_ialdN S 3 0 (k) rfl rfl rfl (by omega) (by decide) dX6_make_132 ?_
    rw [q2]
    refine x_iadd S dX6_make_133 ?_
    refine x_iastN (ws' := (mw bd cI cZ n am al on ot we th (va_up (va_up b (12 * o + t) (b (12 * o + t) + wt k)) (12 * t + o) ((va_up b (12 * o + t) (b (12 * o + t) + wt k)) (12 * t + o) + wt k)) e cu false pa br pc ap pn ls gr tl co ++ X)) (z := (va_up b (12 * o + t) (b (12 * o + t) + wt k)) (12 * t + o) + wt k) S 5 0 (12 * t + o) rfl rfl rfl (by omega) (by decide) (nI_add _ _) dX6_make_134 rfl ?_
    refine x_aload_n S dX6_make_135 0 rfl rfl ?_
    refine x_get S 0 8 rfl rfl inC6 (by decide) (gC _ tw473) rfl rfl dX6_make_136 ?_
    refine x_aload_n S dX6_make_139 0 rfl rfl ?_
    refine x_get S 0 3 rfl rfl inC6 (by decide) (gC _ tw468) rfl rfl dX6_make_140 ?_
    refine x_iload_n S dX6_make_143 1 rfl rfl ?_
    refine x_ialdN S 1 0 (k) rfl rfl rfl (by omega) (by decide) dX6_make_144 ?_
    rw [l1]
    refine x_dup2 S dX6_make_145 rfl rfl ?_
    refine x_ialdN S 6 0 (o) rfl rfl rfl (by omega) (by decide) dX6_make_146 ?_
    refine x_iconst (v := 1) S dX6_make_147 rfl ?_
    refine x_aload_n S dX6_make_148 0 rfl rfl ?_
    refine x_get S 0 4 rfl rfl inC6 (by decide) (gC _ tw469) rfl rfl dX6_make_149 ?_
    refine x_iload_n S dX6_make_152 1 rfl rfl ?_
    refine x_ialdN S 2 0 (k) rfl rfl rfl (by omega) (by decide) dX6_make_153 ?_
    rw [l2]
    refine x_ishl S dX6_make_154 ?_
    refine x_ior S dX6_make_155 ?_
    refine x_iastN (ws' := (mw bd cI cZ n am al on ot we th (va_up (va_up b (12 * o + t) (b (12 * o + t) + wt k)) (12 * t + o) ((va_up b (12 * o + t) (b (12 * o + t) + wt k)) (12 * t + o) + wt k)) (va_up e o (e o ||| 2 ^ t)) cu false pa br pc ap pn ls gr tl co ++ X)) (z := e o ||| 2 ^ t) S 6 0 (o) rfl rfl rfl (by omega) (by decide) (by rw [pl_one (by omega), pl_or]) dX6_make_156 rfl ?_
    refine x_aload_n S dX6_make_157 0 rfl rfl ?_
    refine x_get S 0 8 rfl rfl inC6 (by decide) (gC _ tw473) rfl rfl dX6_make_158 ?_
    refine x_aload_n S dX6_make_161 0 rfl rfl ?_
    refine x_get S 0 4 rfl rfl inC6 (by decide) (gC _ tw469) rfl rfl dX6_make_162 ?_
    refine x_iload_n S dX6_make_165 1 rfl rfl ?_
    refine x_ialdN S 2 0 (k) rfl rfl rfl (by omega) (by decide) dX6_make_166 ?_
    rw [l2]
    refine x_dup2 S dX6_make_167 rfl rfl ?_
    refine x_ialdN S 6 0 (t) rfl rfl rfl (by omega) (by decide) dX6_make_168 ?_
    refine x_iconst (v := 1) S dX6_make_169 rfl ?_
    refine x_aload_n S dX6_make_170 0 rfl rfl ?_
    refine x_get S 0 3 rfl rfl inC6 (by decide) (gC _ tw468) rfl rfl dX6_make_171 ?_
    refine x_iload_n S dX6_make_174 1 rfl rfl ?_
    refine x_ialdN S 1 0 (k) rfl rfl rfl (by omega) (by decide) dX6_make_175 ?_
    rw [l1]
    refine x_ishl S dX6_make_176 ?_
    refine x_ior S dX6_make_177 ?_
    refine x_iastN (ws' := (mw bd cI cZ n am al on ot we th (va_up (va_up b (12 * o + t) (b (12 * o + t) + wt k)) (12 * t + o) ((va_up b (12 * o + t) (b (12 * o + t) + wt k)) (12 * t + o) + wt k)) (va_up (va_up e o (e o ||| 2 ^ t)) t ((va_up e o (e o ||| 2 ^ t)) t ||| 2 ^ o)) cu false pa br pc ap pn ls gr tl co ++ X)) (z := (va_up e o (e o ||| 2 ^ t)) t ||| 2 ^ o) S 6 0 (t) rfl rfl rfl (by omega) (by decide) (by rw [pl_one (by omega), pl_or]) dX6_make_178 rfl ?_
    refine x_iincN (lv' := [(1, .int _), (0, .ref _)]) S dX6_make_179 1 rfl (by decide) rfl ?_
    refine x_goto (tgt := 58) S dX6_make_182 (by decide) ?_
    exact x_sub [1, 0] rfl (ih _ _ (bOK_add hB ho ht (by omega) (by omega) f3 q3 rfl rfl))
  have hN : ∀ b : Nat → Nat, (∀ i, i < 144 → b i = 0) → ∀ k, k ≤ 12 → ∀ e : Nat → Nat, (∀ i, i < k → e i = 0) → xW E D vwCl 6 0 0 (mw bd cI cZ n am al on ot we th b e cu false pa br pc ap pn ls gr tl co ++ X) [(0, .ref (bd 0)), (1, .int (nI k))] 37 [] := by
    intro b hb
    refine pl_up 12 (fun k hk ih => ?_)
    intro e g1
    refine x_iload_n S dX6_make_37 1 rfl rfl ?_
    refine x_bipush (v := 12) S dX6_make_38 (by decide) ?_
    refine x_icmp_ge (tgt := 56) S dX6_make_40 (by decide) (fun h1 => ?_) (fun h1 => ?_)
    · have hk2 : k = 12 := Nat.le_antisymm hk ((nI_leI (a := 12) (by omega) (by omega)).mp h1)
      subst hk2
      refine x_iconst (v := 0) S dX6_make_56 rfl ?_
      refine x_istore_n (lv' := [(1, .int _), (0, .ref _)]) S dX6_make_57 rfl (by decide) rfl ?_
      exact x_sub [1, 0] rfl (hJ 0 (Nat.zero_le _) b e (bOK_0 hb g1))
    have hk2 : k < 12 := Nat.lt_of_not_le (fun h => h1 (nI_le (a := 12) h (by omega)))
    refine x_aload_n S dX6_make_43 0 rfl rfl ?_
    refine x_get S 0 8 rfl rfl inC6 (by decide) (gC _ tw473) rfl rfl dX6_make_44 ?_
    refine x_iload_n S dX6_make_47 1 rfl rfl ?_
    refine x_iconst (v := 0) S dX6_make_48 rfl ?_
    refine x_iastN (ws' := (mw bd cI cZ n am al on ot we th b (va_up e k 0) cu false pa br pc ap pn ls gr tl co ++ X)) (z := 0) S 6 0 (k) rfl rfl rfl (by omega) (by decide) rfl dX6_make_49 rfl ?_
    refine x_iincN (lv' := [(1, .int _), (0, .ref _)]) S dX6_make_50 1 rfl (by decide) rfl ?_
    refine x_goto (tgt := 37) S dX6_make_53 (by decide) ?_
    exact x_sub [1, 0] rfl (ih hk2 _ (fun v hv => (Nat.lt_or_ge v k).elim (fun h => by rw [va_up_ne _ _ (by omega)]; exact g1 v h) (fun h => by rw [show v = k by omega, va_up_self])))
  have hZ : ∀ k, k ≤ 144 → ∀ b : Nat → Nat, (∀ i, i < k → b i = 0) → xW E D vwCl 6 0 0 (mw bd cI cZ n am al on ot we th b ne cu false pa br pc ap pn ls gr tl co ++ X) [(0, .ref (bd 0)), (1, .int (nI k))] 15 [] := by
    refine pl_up 144 (fun k hk ih => ?_)
    intro b g1
    refine x_iload_n S dX6_make_15 1 rfl rfl ?_
    refine x_sipush (v := 144) S dX6_make_16 (by decide) ?_
    refine x_icmp_ge (tgt := 35) S dX6_make_19 (by decide) (fun h1 => ?_) (fun h1 => ?_)
    · have hk2 : k = 144 := Nat.le_antisymm hk ((nI_leI (a := 144) (by omega) (by omega)).mp h1)
      subst hk2
      refine x_iconst (v := 0) S dX6_make_35 rfl ?_
      refine x_istore_n (lv' := [(1, .int _), (0, .ref _)]) S dX6_make_36 rfl (by decide) rfl ?_
      exact x_sub [1, 0] rfl (hN b g1 0 (Nat.zero_le _) ne (fun i hi => absurd hi (by omega)))
    have hk2 : k < 144 := Nat.lt_of_not_le (fun h => h1 (nI_le (a := 144) h (by omega)))
    refine x_aload_n S dX6_make_22 0 rfl rfl ?_
    refine x_get S 0 7 rfl rfl inC6 (by decide) (gC _ tw472) rfl rfl dX6_make_23 ?_
    refine x_iload_n S dX6_make_26 1 rfl rfl ?_
    refine x_iconst (v := 0) S dX6_make_27 rfl ?_
    refine x_iastN (ws' := (mw bd cI cZ n am al on ot we th (va_up b k 0) ne cu false pa br pc ap pn ls gr tl co ++ X)) (z := 0) S 5 0 (k) rfl rfl rfl (by omega) (by decide) rfl dX6_make_28 rfl ?_
    refine x_iincN (lv' := [(1, .int _), (0, .ref _)]) S dX6_make_29 1 rfl (by decide) rfl ?_
    refine x_goto (tgt := 15) S dX6_make_32 (by decide) ?_
    exact x_sub [1, 0] rfl (ih hk2 _ (fun v hv => (Nat.lt_or_ge v k).elim (fun h => by rw [va_up_ne _ _ (by omega)]; exact g1 v h) (fun h => by rw [show v = k by omega, va_up_self])))
  refine x_aload_n S dX6_make_0 0 rfl rfl ?_
  refine x_get S 0 10 rfl rfl inC6 (by decide) (gC _ tw475) rfl rfl dX6_make_1 ?_
  refine x_if_neB (tgt := 8) S dX6_make_4 (by decide) (fun h1 => ?_) (fun h1 => ?_)
  rotate_left
  · have h1 : nw = false := Bool.eq_false_iff.mpr h1
    have hV2 := hV h1
    rw [h1]
    exact hret ((be, ne, cu, pa, br, ls)) _ _ hV2 dX6_make_7
  refine x_aload_n S dX6_make_8 0 rfl rfl ?_
  refine x_iconst (v := 0) S dX6_make_9 rfl ?_
  refine x_put (ws' := (mw bd cI cZ n am al on ot we th be ne cu false pa br pc ap pn ls gr tl co ++ X)) S 0 10 rfl rfl inC6 tyX6 tyX6_ok nmX6 (by decide) (gC _ tw475) rfl rfl (tyX6_ok 10 (by decide)) rfl rfl (Nat.le_of_ble_eq_true rfl) dX6_make_10 rfl ?_
  refine x_iconst (v := 0) S dX6_make_13 rfl ?_
  refine x_istore_n (lv' := [(1, .int _), (0, .ref _)]) S dX6_make_14 rfl (by decide) rfl ?_
  exact x_sub [1, 0] rfl (hZ 0 (Nat.zero_le _) be (fun i hi => absurd hi (by omega)))
end M2
